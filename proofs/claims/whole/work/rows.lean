section
-- ===== PART A: goes FIRST, ahead of the names: the tables' words, and 'selects' of the private methods out of them =====
/-- a private method of a class that the tables say can be made, by its rows of tables_1 -/
def lw_okq (q : MethodName × Nat) : Prop := (q.1.cls ≠ "java/lang/invoke/MethodHandle" ∧ q.1.cls ≠ "java/lang/invoke/VarHandle") ∧ Cond.instantiable q.1.cls q.2 ∈ tables_1 ∧ Cond.privateMethod q.1 ∈ tables_1 ∧ Cond.instanceMethod q.1 ∈ tables_1
theorem lw_p0 : lw_okq (⟨"SystemParts", "resetAll", "(I)V"⟩, 6) := ⟨⟨by decide +kernel, by decide +kernel⟩, List.mem_of_getElem? (i := 20) (by decide +kernel), List.mem_of_getElem? (i := 97) (by decide +kernel), List.mem_of_getElem? (i := 98) (by decide +kernel)⟩
theorem lw_p1 : lw_okq (⟨"SystemParts", "allWaiting", "()I"⟩, 6) := ⟨⟨by decide +kernel, by decide +kernel⟩, List.mem_of_getElem? (i := 20) (by decide +kernel), List.mem_of_getElem? (i := 127) (by decide +kernel), List.mem_of_getElem? (i := 128) (by decide +kernel)⟩
theorem lw_p2 : lw_okq (⟨"SystemParts", "allGone", "()I"⟩, 6) := ⟨⟨by decide +kernel, by decide +kernel⟩, List.mem_of_getElem? (i := 20) (by decide +kernel), List.mem_of_getElem? (i := 132) (by decide +kernel), List.mem_of_getElem? (i := 133) (by decide +kernel)⟩
theorem lw_p3 : lw_okq (⟨"SystemParts", "isFree", "(II)Z"⟩, 6) := ⟨⟨by decide +kernel, by decide +kernel⟩, List.mem_of_getElem? (i := 20) (by decide +kernel), List.mem_of_getElem? (i := 151) (by decide +kernel), List.mem_of_getElem? (i := 152) (by decide +kernel)⟩
theorem lw_p4 : lw_okq (⟨"java/lang/Throwable", "fillInStackTrace", "(I)Ljava/lang/Throwable;"⟩, 6) := ⟨⟨by decide +kernel, by decide +kernel⟩, List.mem_of_getElem? (i := 202) (by decide +kernel), List.mem_of_getElem? (i := 200) (by decide +kernel), List.mem_of_getElem? (i := 201) (by decide +kernel)⟩
theorem lw_p5 : lw_okq (⟨"SystemParts", "partWith", "(I)LSystemParts$Part;"⟩, 6) := ⟨⟨by decide +kernel, by decide +kernel⟩, List.mem_of_getElem? (i := 20) (by decide +kernel), List.mem_of_getElem? (i := 395) (by decide +kernel), List.mem_of_getElem? (i := 396) (by decide +kernel)⟩
theorem lw_p6 : lw_okq (⟨"SystemParts", "reachPart", "(I)LSystemParts$Part;"⟩, 6) := ⟨⟨by decide +kernel, by decide +kernel⟩, List.mem_of_getElem? (i := 20) (by decide +kernel), List.mem_of_getElem? (i := 417) (by decide +kernel), List.mem_of_getElem? (i := 418) (by decide +kernel)⟩
theorem lw_p7 : lw_okq (⟨"SystemParts", "tallyOne", "(I)V"⟩, 6) := ⟨⟨by decide +kernel, by decide +kernel⟩, List.mem_of_getElem? (i := 20) (by decide +kernel), List.mem_of_getElem? (i := 437) (by decide +kernel), List.mem_of_getElem? (i := 438) (by decide +kernel)⟩
theorem lw_p8 : lw_okq (⟨"SystemParts", "runSteps", "(I)Z"⟩, 6) := ⟨⟨by decide +kernel, by decide +kernel⟩, List.mem_of_getElem? (i := 20) (by decide +kernel), List.mem_of_getElem? (i := 465) (by decide +kernel), List.mem_of_getElem? (i := 466) (by decide +kernel)⟩
theorem lw_p9 : lw_okq (⟨"SystemParts", "oneStep", "()Z"⟩, 6) := ⟨⟨by decide +kernel, by decide +kernel⟩, List.mem_of_getElem? (i := 20) (by decide +kernel), List.mem_of_getElem? (i := 469) (by decide +kernel), List.mem_of_getElem? (i := 470) (by decide +kernel)⟩
theorem lw_p10 : lw_okq (⟨"SystemParts$Rows", "moveNumbers", "()V"⟩, 8) := ⟨⟨by decide +kernel, by decide +kernel⟩, List.mem_of_getElem? (i := 348) (by decide +kernel), List.mem_of_getElem? (i := 484) (by decide +kernel), List.mem_of_getElem? (i := 485) (by decide +kernel)⟩
theorem lw_p11 : lw_okq (⟨"SystemParts", "askingLines", "()I"⟩, 6) := ⟨⟨by decide +kernel, by decide +kernel⟩, List.mem_of_getElem? (i := 20) (by decide +kernel), List.mem_of_getElem? (i := 495) (by decide +kernel), List.mem_of_getElem? (i := 496) (by decide +kernel)⟩
theorem lw_p12 : lw_okq (⟨"SystemParts$Rows", "inWindow", "(I)Z"⟩, 8) := ⟨⟨by decide +kernel, by decide +kernel⟩, List.mem_of_getElem? (i := 348) (by decide +kernel), List.mem_of_getElem? (i := 528) (by decide +kernel), List.mem_of_getElem? (i := 529) (by decide +kernel)⟩
theorem lw_p13 : lw_okq (⟨"SystemParts$Serial", "nextCome", "()I"⟩, 9) := ⟨⟨by decide +kernel, by decide +kernel⟩, List.mem_of_getElem? (i := 314) (by decide +kernel), List.mem_of_getElem? (i := 535) (by decide +kernel), List.mem_of_getElem? (i := 536) (by decide +kernel)⟩
theorem lw_p14 : lw_okq (⟨"SystemParts$Rows", "begin", "(I)V"⟩, 8) := ⟨⟨by decide +kernel, by decide +kernel⟩, List.mem_of_getElem? (i := 348) (by decide +kernel), List.mem_of_getElem? (i := 571) (by decide +kernel), List.mem_of_getElem? (i := 572) (by decide +kernel)⟩
theorem lw_p15 : lw_okq (⟨"SystemParts", "serialAt", "(I)LSystemParts$Serial;"⟩, 6) := ⟨⟨by decide +kernel, by decide +kernel⟩, List.mem_of_getElem? (i := 20) (by decide +kernel), List.mem_of_getElem? (i := 596) (by decide +kernel), List.mem_of_getElem? (i := 597) (by decide +kernel)⟩
def lw_privs_1 : List (MethodName × Nat) := [(⟨"SystemParts", "resetAll", "(I)V"⟩, 6), (⟨"SystemParts", "allWaiting", "()I"⟩, 6), (⟨"SystemParts", "allGone", "()I"⟩, 6), (⟨"SystemParts", "isFree", "(II)Z"⟩, 6), (⟨"java/lang/Throwable", "fillInStackTrace", "(I)Ljava/lang/Throwable;"⟩, 6), (⟨"SystemParts", "partWith", "(I)LSystemParts$Part;"⟩, 6), (⟨"SystemParts", "reachPart", "(I)LSystemParts$Part;"⟩, 6), (⟨"SystemParts", "tallyOne", "(I)V"⟩, 6), (⟨"SystemParts", "runSteps", "(I)Z"⟩, 6), (⟨"SystemParts", "oneStep", "()Z"⟩, 6), (⟨"SystemParts$Rows", "moveNumbers", "()V"⟩, 8), (⟨"SystemParts", "askingLines", "()I"⟩, 6), (⟨"SystemParts$Rows", "inWindow", "(I)Z"⟩, 8), (⟨"SystemParts$Serial", "nextCome", "()I"⟩, 9), (⟨"SystemParts$Rows", "begin", "(I)V"⟩, 8), (⟨"SystemParts", "serialAt", "(I)LSystemParts$Serial;"⟩, 6)]
theorem lw_r1 : ∀ q ∈ lw_privs_1, lw_okq q := List.forall_mem_cons.mpr ⟨lw_p0, List.forall_mem_cons.mpr ⟨lw_p1, List.forall_mem_cons.mpr ⟨lw_p2, List.forall_mem_cons.mpr ⟨lw_p3, List.forall_mem_cons.mpr ⟨lw_p4, List.forall_mem_cons.mpr ⟨lw_p5, List.forall_mem_cons.mpr ⟨lw_p6, List.forall_mem_cons.mpr ⟨lw_p7, List.forall_mem_cons.mpr ⟨lw_p8, List.forall_mem_cons.mpr ⟨lw_p9, List.forall_mem_cons.mpr ⟨lw_p10, List.forall_mem_cons.mpr ⟨lw_p11, List.forall_mem_cons.mpr ⟨lw_p12, List.forall_mem_cons.mpr ⟨lw_p13, List.forall_mem_cons.mpr ⟨lw_p14, List.forall_mem_cons.mpr ⟨lw_p15, fun _ h => absurd h List.not_mem_nil⟩⟩⟩⟩⟩⟩⟩⟩⟩⟩⟩⟩⟩⟩⟩⟩
theorem lw_p16 : lw_okq (⟨"SystemParts$Lines", "changeWay", "(II)I"⟩, 5) := ⟨⟨by decide +kernel, by decide +kernel⟩, List.mem_of_getElem? (i := 30) (by decide +kernel), List.mem_of_getElem? (i := 646) (by decide +kernel), List.mem_of_getElem? (i := 647) (by decide +kernel)⟩
theorem lw_p17 : lw_okq (⟨"SystemParts$Lines", "changeRank", "(II)I"⟩, 5) := ⟨⟨by decide +kernel, by decide +kernel⟩, List.mem_of_getElem? (i := 30) (by decide +kernel), List.mem_of_getElem? (i := 651) (by decide +kernel), List.mem_of_getElem? (i := 652) (by decide +kernel)⟩
theorem lw_p18 : lw_okq (⟨"SystemParts$Lines", "changeHidden", "(II)I"⟩, 5) := ⟨⟨by decide +kernel, by decide +kernel⟩, List.mem_of_getElem? (i := 30) (by decide +kernel), List.mem_of_getElem? (i := 655) (by decide +kernel), List.mem_of_getElem? (i := 656) (by decide +kernel)⟩
theorem lw_p19 : lw_okq (⟨"SystemPartsModel", "fail", "(I)I"⟩, 25) := ⟨⟨by decide +kernel, by decide +kernel⟩, List.mem_of_getElem? (i := 666) (by decide +kernel), List.mem_of_getElem? (i := 764) (by decide +kernel), List.mem_of_getElem? (i := 765) (by decide +kernel)⟩
theorem lw_p20 : lw_okq (⟨"SystemPartsModel", "partAt", "(I)I"⟩, 25) := ⟨⟨by decide +kernel, by decide +kernel⟩, List.mem_of_getElem? (i := 666) (by decide +kernel), List.mem_of_getElem? (i := 772) (by decide +kernel), List.mem_of_getElem? (i := 773) (by decide +kernel)⟩
theorem lw_p21 : lw_okq (⟨"SystemPartsModel", "stepOnce", "()Z"⟩, 25) := ⟨⟨by decide +kernel, by decide +kernel⟩, List.mem_of_getElem? (i := 666) (by decide +kernel), List.mem_of_getElem? (i := 780) (by decide +kernel), List.mem_of_getElem? (i := 781) (by decide +kernel)⟩
theorem lw_p22 : lw_okq (⟨"SystemPartsModel", "timerStep", "(I)Z"⟩, 25) := ⟨⟨by decide +kernel, by decide +kernel⟩, List.mem_of_getElem? (i := 666) (by decide +kernel), List.mem_of_getElem? (i := 784) (by decide +kernel), List.mem_of_getElem? (i := 785) (by decide +kernel)⟩
theorem lw_p23 : lw_okq (⟨"SystemPartsModel", "resetAll", "(I)V"⟩, 25) := ⟨⟨by decide +kernel, by decide +kernel⟩, List.mem_of_getElem? (i := 666) (by decide +kernel), List.mem_of_getElem? (i := 788) (by decide +kernel), List.mem_of_getElem? (i := 789) (by decide +kernel)⟩
theorem lw_p24 : lw_okq (⟨"SystemPartsModel", "sendStep", "(I)V"⟩, 25) := ⟨⟨by decide +kernel, by decide +kernel⟩, List.mem_of_getElem? (i := 666) (by decide +kernel), List.mem_of_getElem? (i := 792) (by decide +kernel), List.mem_of_getElem? (i := 793) (by decide +kernel)⟩
theorem lw_p25 : lw_okq (⟨"SystemPartsModel", "rowStep", "(I)V"⟩, 25) := ⟨⟨by decide +kernel, by decide +kernel⟩, List.mem_of_getElem? (i := 666) (by decide +kernel), List.mem_of_getElem? (i := 796) (by decide +kernel), List.mem_of_getElem? (i := 797) (by decide +kernel)⟩
theorem lw_p26 : lw_okq (⟨"SystemPartsModel", "lookAtLines", "()V"⟩, 25) := ⟨⟨by decide +kernel, by decide +kernel⟩, List.mem_of_getElem? (i := 666) (by decide +kernel), List.mem_of_getElem? (i := 800) (by decide +kernel), List.mem_of_getElem? (i := 801) (by decide +kernel)⟩
theorem lw_p27 : lw_okq (⟨"SystemPartsModel", "asksNow", "(I)Z"⟩, 25) := ⟨⟨by decide +kernel, by decide +kernel⟩, List.mem_of_getElem? (i := 666) (by decide +kernel), List.mem_of_getElem? (i := 804) (by decide +kernel), List.mem_of_getElem? (i := 805) (by decide +kernel)⟩
theorem lw_p28 : lw_okq (⟨"SystemPartsModel", "countAll", "(I)V"⟩, 25) := ⟨⟨by decide +kernel, by decide +kernel⟩, List.mem_of_getElem? (i := 666) (by decide +kernel), List.mem_of_getElem? (i := 813) (by decide +kernel), List.mem_of_getElem? (i := 814) (by decide +kernel)⟩
theorem lw_p29 : lw_okq (⟨"SystemPartsModel", "waitFor", "(I)V"⟩, 25) := ⟨⟨by decide +kernel, by decide +kernel⟩, List.mem_of_getElem? (i := 666) (by decide +kernel), List.mem_of_getElem? (i := 817) (by decide +kernel), List.mem_of_getElem? (i := 818) (by decide +kernel)⟩
theorem lw_p30 : lw_okq (⟨"SystemPartsModel", "takeIn", "(I)I"⟩, 25) := ⟨⟨by decide +kernel, by decide +kernel⟩, List.mem_of_getElem? (i := 666) (by decide +kernel), List.mem_of_getElem? (i := 821) (by decide +kernel), List.mem_of_getElem? (i := 822) (by decide +kernel)⟩
theorem lw_p31 : lw_okq (⟨"SystemPartsModel", "writeTimer", "(III)V"⟩, 25) := ⟨⟨by decide +kernel, by decide +kernel⟩, List.mem_of_getElem? (i := 666) (by decide +kernel), List.mem_of_getElem? (i := 829) (by decide +kernel), List.mem_of_getElem? (i := 830) (by decide +kernel)⟩
def lw_privs_2 : List (MethodName × Nat) := [(⟨"SystemParts$Lines", "changeWay", "(II)I"⟩, 5), (⟨"SystemParts$Lines", "changeRank", "(II)I"⟩, 5), (⟨"SystemParts$Lines", "changeHidden", "(II)I"⟩, 5), (⟨"SystemPartsModel", "fail", "(I)I"⟩, 25), (⟨"SystemPartsModel", "partAt", "(I)I"⟩, 25), (⟨"SystemPartsModel", "stepOnce", "()Z"⟩, 25), (⟨"SystemPartsModel", "timerStep", "(I)Z"⟩, 25), (⟨"SystemPartsModel", "resetAll", "(I)V"⟩, 25), (⟨"SystemPartsModel", "sendStep", "(I)V"⟩, 25), (⟨"SystemPartsModel", "rowStep", "(I)V"⟩, 25), (⟨"SystemPartsModel", "lookAtLines", "()V"⟩, 25), (⟨"SystemPartsModel", "asksNow", "(I)Z"⟩, 25), (⟨"SystemPartsModel", "countAll", "(I)V"⟩, 25), (⟨"SystemPartsModel", "waitFor", "(I)V"⟩, 25), (⟨"SystemPartsModel", "takeIn", "(I)I"⟩, 25), (⟨"SystemPartsModel", "writeTimer", "(III)V"⟩, 25)]
theorem lw_r2 : ∀ q ∈ lw_privs_2, lw_okq q := List.forall_mem_cons.mpr ⟨lw_p16, List.forall_mem_cons.mpr ⟨lw_p17, List.forall_mem_cons.mpr ⟨lw_p18, List.forall_mem_cons.mpr ⟨lw_p19, List.forall_mem_cons.mpr ⟨lw_p20, List.forall_mem_cons.mpr ⟨lw_p21, List.forall_mem_cons.mpr ⟨lw_p22, List.forall_mem_cons.mpr ⟨lw_p23, List.forall_mem_cons.mpr ⟨lw_p24, List.forall_mem_cons.mpr ⟨lw_p25, List.forall_mem_cons.mpr ⟨lw_p26, List.forall_mem_cons.mpr ⟨lw_p27, List.forall_mem_cons.mpr ⟨lw_p28, List.forall_mem_cons.mpr ⟨lw_p29, List.forall_mem_cons.mpr ⟨lw_p30, List.forall_mem_cons.mpr ⟨lw_p31, fun _ h => absurd h List.not_mem_nil⟩⟩⟩⟩⟩⟩⟩⟩⟩⟩⟩⟩⟩⟩⟩⟩
theorem lw_p32 : lw_okq (⟨"SystemPartsModel", "writeSerial", "(III)V"⟩, 25) := ⟨⟨by decide +kernel, by decide +kernel⟩, List.mem_of_getElem? (i := 666) (by decide +kernel), List.mem_of_getElem? (i := 833) (by decide +kernel), List.mem_of_getElem? (i := 834) (by decide +kernel)⟩
theorem lw_p33 : lw_okq (⟨"SystemPartsModel", "writeRows", "(III)V"⟩, 25) := ⟨⟨by decide +kernel, by decide +kernel⟩, List.mem_of_getElem? (i := 666) (by decide +kernel), List.mem_of_getElem? (i := 837) (by decide +kernel), List.mem_of_getElem? (i := 838) (by decide +kernel)⟩
theorem lw_p34 : lw_okq (⟨"SystemPartsModel", "isSerial", "(I)Z"⟩, 25) := ⟨⟨by decide +kernel, by decide +kernel⟩, List.mem_of_getElem? (i := 666) (by decide +kernel), List.mem_of_getElem? (i := 845) (by decide +kernel), List.mem_of_getElem? (i := 846) (by decide +kernel)⟩
theorem lw_p35 : lw_okq (⟨"SystemPartsModel", "isPending", "(I)Z"⟩, 25) := ⟨⟨by decide +kernel, by decide +kernel⟩, List.mem_of_getElem? (i := 666) (by decide +kernel), List.mem_of_getElem? (i := 861) (by decide +kernel), List.mem_of_getElem? (i := 862) (by decide +kernel)⟩
theorem lw_p36 : lw_okq (⟨"SystemPartsModel", "choose", "()I"⟩, 25) := ⟨⟨by decide +kernel, by decide +kernel⟩, List.mem_of_getElem? (i := 666) (by decide +kernel), List.mem_of_getElem? (i := 869) (by decide +kernel), List.mem_of_getElem? (i := 870) (by decide +kernel)⟩
def lw_privs_3 : List (MethodName × Nat) := [(⟨"SystemPartsModel", "writeSerial", "(III)V"⟩, 25), (⟨"SystemPartsModel", "writeRows", "(III)V"⟩, 25), (⟨"SystemPartsModel", "isSerial", "(I)Z"⟩, 25), (⟨"SystemPartsModel", "isPending", "(I)Z"⟩, 25), (⟨"SystemPartsModel", "choose", "()I"⟩, 25)]
theorem lw_r3 : ∀ q ∈ lw_privs_3, lw_okq q := List.forall_mem_cons.mpr ⟨lw_p32, List.forall_mem_cons.mpr ⟨lw_p33, List.forall_mem_cons.mpr ⟨lw_p34, List.forall_mem_cons.mpr ⟨lw_p35, List.forall_mem_cons.mpr ⟨lw_p36, fun _ h => absurd h List.not_mem_nil⟩⟩⟩⟩⟩
def lw_privs : List (MethodName × Nat) := lw_privs_1 ++ (lw_privs_2 ++ (lw_privs_3))
def lw_tbl : List Cond := k2_sels lw_privs ++ tables_1
theorem lw_privs_ok : ∀ q ∈ lw_privs, lw_okq q := by
  show ∀ q ∈ lw_privs_1 ++ (lw_privs_2 ++ (lw_privs_3)), lw_okq q
  exact List.forall_mem_append.mpr ⟨lw_r1, List.forall_mem_append.mpr ⟨lw_r2, lw_r3⟩⟩
/-! ===== BEGIN exceptions that leave a method, and their catching by the caller (launches without stack traces) ===== -/
section VXA
/-! The laws vx_back, vx_callV, vx_callS, vx_callSW, vx_throw0, vx_throwS follow proofs of the library, with one case more: JvmDerived/Free/Laws.lean (Back.of_free), Shelf42/LK1.lean (callV, callS), Shelf/KitTraced.lean (throwNew0V, throwNewS). -/
/-- where a method has thrown q: the class by its name, the cell, what was written, the world -/
def vx_T (XC : String → State → State → Prop) (st : State) (q : Addr) (t : State) (mc ms : Nat) (free : Addr → Prop) : Prop :=
  ∃ (E : String) (ce : Cell) (L : List Loc), XC E st t ∧ t.heap[q]? = some ce ∧ ce.vm = .none ∧ st.vm.findClass E = some ce.cls ∧ st.WarmedH t.vm ∧ st.sameButNew ({ t with vm := st.vm } : State) L mc ms ∧ ∀ z ∈ L, free z.base
def vx_Q (Qc : Array Value → State → Outcome → State → Prop) (XC : String → State → State → Prop) (mc ms : Nat) (free : Addr → Prop) : Array Value → State → Outcome → State → Prop := fun a st o t =>
  (Qc a st o t ∧ ∃ L, FrameEnd st o t L mc ms ∧ ∀ q ∈ L, free q.base) ∨ ∃ q, o = .threw q ∧ vx_T XC st q t mc ms free
/-- a callee that returns or throws -/
def vx_Met (l : Launch) (y : MethodName) (ws : List Cond) (rm : Room) (Pc : Array Value → State → Prop) (Qc : Array Value → State → Outcome → State → Prop) (XC : String → State → State → Prop) (mc ms : Nat) (free : Addr → Prop) : Prop :=
  MetFree l y (headSpec ws rm) Pc (fun _ _ _ _ _ => True) (vx_Q Qc XC mc ms free)
def vx_Post (XC : String → State → State → Prop) (mc ms : Nat) (free : Addr → Prop) : Pt → Array Value → Addr → Pt → Prop := fun A a q B =>
  ∃ (g : JFrame) (mk : MethodId) (t : State) (L : List Loc) (E : String) (ce : Cell), B.U.heap = t.heap ∧ B.U.vm = t.vm ∧ XC E (A.U.calling g mk a) t ∧ t.heap[q]? = some ce ∧ ce.vm = .none ∧ A.U.vm.findClass E = some ce.cls ∧ B.locs = A.locs ++ L ∧ (∀ z ∈ L, free z.base) ∧ B.cells = A.cells + mc ∧ B.slots = A.slots + ms
def vx_Back (l : Launch) (R : Room) (p : Program) (e : Env) (below : List Frame) (s : State) (sargs : Array Value) (y : MethodName) (len W9 : Nat)
    (Pre : Pt → Array Value → Prop) (Post : Pt → Array Value → Option Value → Pt → Prop) (PostX : Pt → Array Value → Addr → Pt → Prop) : Prop :=
  ∀ (m : MethodId) (meth : Method) (c : Code) (A : Pt) (g : JFrame) (ig : Instr) (mk : MethodId) (a : Array Value),
    Stand p l e R s m sargs below meth c A.U A.locs A.cells A.slots → g.method = m → g.locals.size = c.maxLocals → decode c.code g.pc = .ok (ig, len) →
    2 * g.monitorRoom + (g.stack.map fun v => v.category).sum ≤ W9 → A.U.methodNamed? y = some mk → Pre A a →
    (∃ (v : Option Value) (B : Pt), Stand p l e R s m sargs below meth c B.U B.locs B.cells B.slots ∧ Post A a v B ∧
      Steps p.tables e below (doInvoke e (A.U.setTop g) [] mk a).1 (B.U.setTop { g with pc := g.pc + len, stack := v.toList ++ g.stack })) ∨
    (∃ (q : Addr) (B : Pt), Stand p l e R s m sargs below meth c B.U B.locs B.cells B.slots ∧ PostX A a q B ∧
      Steps p.tables e below (doInvoke e (A.U.setTop g) [] mk a).1 ((B.U.setTop g).pushFrame (.throwing q)))
section Payer
variable {l : Launch} {R : Room} {p : Program} {e : Env} {below : List Frame} {s : State} {sargs : Array Value} {y : MethodName} {len W9 : Nat}
theorem vx_back {ws : List Cond} {rm : Room} {Pc : Array Value → State → Prop} {Qc : Array Value → State → Outcome → State → Prop} {XC : String → State → State → Prop} {mc ms : Nat} {free : Addr → Prop} {bytes : ByteArray} {maxL : Nat} {ret : Option FieldType}
    (hM : vx_Met l y ws rm Pc Qc XC mc ms free) (hblind : FrameBlind Pc) (hrc : rm.cells = mc) (hrs : rm.slots = ms)
    (hframes : rm.frames + 1 ≤ R.frames) (hlocals : W9 + (maxL + 11) + rm.locals ≤ R.locals)
    (hws : ∀ w ∈ ws, ∀ a' U, s.WarmedH U.vm → w.before a' U = true) (hcode : Cond.code y bytes maxL ret ∈ ws) (hinit : ∀ a' U, s.WarmedH U.vm → (Cond.initialized y.cls).before a' U = true) :
    vx_Back l R p e below s sargs y len W9 (PreOf R mc ms Pc) (PostOf Qc mc ms free) (vx_Post XC mc ms free) := by
  intro m meth c A g ig mk a X hg hsize hdg hW hn hp
  have h1 : (headSpec ws rm).pre.before a A.U = true := atoms_intro fun w hw => hws w hw _ _ X.warmed
  have h2 : (Cond.code y bytes maxL ret).before a A.U = true := hws _ hcode _ _ X.warmed
  have h3 : (Cond.initialized y.cls).before a A.U = true := hinit _ _ X.warmed
  have h4 : A.cells + (headSpec ws rm).room.cells ≤ R.cells := by rw [show (headSpec ws rm).room.cells = mc from hrc]; exact hp.1
  have h5 : A.slots + (headSpec ws rm).room.slots ≤ R.slots := by rw [show (headSpec ws rm).room.slots = ms from hrs]; exact hp.2.1
  have hPc : Pc a (A.U.calling g mk a) := hblind _ _ _ _ hp.2.2
  obtain ⟨U, Ls, c0, s0⟩ := A
  dsimp only [Pt.U, Pt.locs, Pt.cells, Pt.slots] at h1 h2 h3 h4 h5 X hn hPc ⊢
  obtain ⟨methY, cY, hmY, hcY, -, hlY, -, -, -, -⟩ := Cond.code_spec hn h2
  obtain ⟨kY, hkY, -⟩ := className_of_methodNamed hn
  have hinitY : kY.init = .initialized := Cond.initialized_spec (findClass_of_methodNamed hn) hkY h3
  have h : At U g.method c below := by rw [hg]; exact X.here
  have hlocals9 : W9 + (maxL + 11) + (headSpec ws rm).room.locals ≤ R.locals := hlocals
  have happ : (headSpec ws rm).appliesLoose y e.platform (U.calling g mk a) = true :=
    Spec.appliesLoose_calling (g := g) h hdg hn hkY hinitY
      (X.room_calling (g := g) (R' := (headSpec ws rm).room) hsize hmY hcY hframes (by rw [hlY]; omega) h4 h5) h1
  obtain ⟨mid, hmid⟩ := h.above
  have hfr : (U.setTop g).frames = (.java g :: mid) ++ below := by rw [State.frames_setTop' g h.top, hmid]; rfl
  obtain ⟨o, s₂, hsteps, -, hend, hq⟩ := Steps.callFree hM p X.admits X.cas X.clock (acts := []) hfr happ hPc trivial
  have hq' : vx_Q Qc XC mc ms free a (U.calling g mk a) o s₂ := hq
  rw [State.frames_setTop' g h.top] at hend
  obtain ⟨g₀, hg0⟩ := Option.isSome_iff_exists.mp h.top
  obtain ⟨r, hr⟩ := State.topJava?_eq_some.mp hg0
  have hr' : (({ U with heap := s₂.heap, slotsUsed := s₂.slotsUsed } : State).setVm s₂.vm).frames = .java g₀ :: r := hr
  rcases hq' with ⟨hqc, L, hfe, hL⟩ | ⟨q, rfl, E, ce, L, hx, hce, hcv, hcl, hW₂, hsm, hL⟩
  · obtain ⟨⟨v, rfl⟩, hW₂, e2, q2, q3, q4, q5, q6⟩ := id hfe
    have e3 : s₂ = ({ (U.calling g mk a).setFrames s₂.frames with heap := s₂.heap, slotsUsed := s₂.slotsUsed } : State).setVm s₂.vm := by
      have : s₂ = ({ s₂ with vm := (U.calling g mk a).vm } : State).setVm s₂.vm := rfl
      rw [e2] at this
      exact this
    obtain ⟨c₂, i₂, len₂, hc₂, hd₂, hf₂⟩ := hend
    have hW' : U.WarmedH s₂.vm := hW₂
    have hcc : c₂ = c := by
      have h1 : s₂.code? g.method = U.code? g.method := by
        rw [State.code?_eq, State.code?_eq, hW'.alike.method?]
      exact Option.some.inj (hc₂.symm.trans (h1.trans h.code))
    subst hcc
    have hlen : len₂ = len := by rw [hdg] at hd₂; cases hd₂; rfl
    subst hlen
    have hs₂ : s₂ = (({ U with heap := s₂.heap, slotsUsed := s₂.slotsUsed } : State).setVm s₂.vm).setTop { g with pc := g.pc + len₂, stack := v.toList ++ g.stack } := by
      refine e3.trans ?_
      rw [hf₂, State.calling_eq h.top, State.setFrames_setFrames, State.setTop_of_frames _ hr', hr]
      rfl
    have hsame : U.sameButNew ({ U with heap := s₂.heap, slotsUsed := s₂.slotsUsed } : State) L mc ms := by
      refine ⟨?_, q2, q3, q4, q5, q6⟩
      obtain ⟨t, ht, -⟩ := State.frames_cons hr
      show ({ U with heap := s₂.heap, slotsUsed := s₂.slotsUsed } : State) = { U.setFrames U.frames with heap := s₂.heap, slotsUsed := s₂.slotsUsed }
      rw [State.setFrames_self ht]
    subst hg
    refine Or.inl ⟨v, ⟨(({ U with heap := s₂.heap, slotsUsed := s₂.slotsUsed } : State).setVm s₂.vm), Ls ++ L, c0 + mc, s0 + ms⟩,
      ⟨X.admits, X.cas, X.clock, X.frames, X.room, X.hears, X.method, X.code, (X.here.setHeapUsed s₂.heap s₂.slotsUsed).setVm hW'.alike, X.tail, State.WarmedH.trans X.warmed hW', X.limits, X.bytes, X.same.trans (hsame.setVm s.vm)⟩,
      ⟨g, mk, s₂, L, rfl, rfl, hqc, rfl, hL, rfl, rfl⟩, ?_⟩
    show Steps p.tables e below _ ((({ U with heap := s₂.heap, slotsUsed := s₂.slotsUsed } : State).setVm s₂.vm).setTop { g with pc := g.pc + len₂, stack := v.toList ++ g.stack })
    rw [← hs₂]
    exact hsteps
  · obtain ⟨e2, q2, q3, q4, q5, q6⟩ := id hsm
    have e3 : s₂ = ({ (U.calling g mk a).setFrames s₂.frames with heap := s₂.heap, slotsUsed := s₂.slotsUsed } : State).setVm s₂.vm := by
      have : s₂ = ({ s₂ with vm := (U.calling g mk a).vm } : State).setVm s₂.vm := rfl
      rw [e2] at this
      exact this
    have hf₂ : s₂.frames = .throwing q :: .java g :: U.frames.tail := hend
    have hW' : U.WarmedH s₂.vm := hW₂
    have hs₂ : s₂ = ((({ U with heap := s₂.heap, slotsUsed := s₂.slotsUsed } : State).setVm s₂.vm).setTop g).pushFrame (.throwing q) := by
      refine e3.trans ?_
      rw [hf₂, State.calling_eq h.top, State.setFrames_setFrames, State.pushFrame, State.frames_setTop _ hr', State.setTop_of_frames _ hr', State.setFrames_setFrames, hr]
      rfl
    have hsame : U.sameButNew ({ U with heap := s₂.heap, slotsUsed := s₂.slotsUsed } : State) L mc ms := by
      refine ⟨?_, q2, q3, q4, q5, q6⟩
      obtain ⟨t, ht, -⟩ := State.frames_cons hr
      show ({ U with heap := s₂.heap, slotsUsed := s₂.slotsUsed } : State) = { U.setFrames U.frames with heap := s₂.heap, slotsUsed := s₂.slotsUsed }
      rw [State.setFrames_self ht]
    subst hg
    refine Or.inr ⟨q, ⟨(({ U with heap := s₂.heap, slotsUsed := s₂.slotsUsed } : State).setVm s₂.vm), Ls ++ L, c0 + mc, s0 + ms⟩,
      ⟨X.admits, X.cas, X.clock, X.frames, X.room, X.hears, X.method, X.code, (X.here.setHeapUsed s₂.heap s₂.slotsUsed).setVm hW'.alike, X.tail, State.WarmedH.trans X.warmed hW', X.limits, X.bytes, X.same.trans (hsame.setVm s.vm)⟩,
      ⟨g, mk, s₂, L, E, ce, rfl, rfl, hx, hce, hcv, hcl, rfl, hL, rfl, rfl⟩, ?_⟩
    show Steps p.tables e below _ (((({ U with heap := s₂.heap, slotsUsed := s₂.slotsUsed } : State).setVm s₂.vm).setTop g).pushFrame (.throwing q))
    rw [← hs₂]
    exact hsteps
end Payer
section Calls
variable {p : Program} {l : Launch} {e : Env} {R : Room} {s : State} {m : MethodId} {args : Array Value} {below : List Frame} {meth : Method} {c : Code} {T : State} {locs : List Loc} {cells slots : Nat}
theorem vx_callV (X : Stand p l e R s m args below meth c T locs cells slots) (hexec : p.tables.exec = Jvm.exec) {own C : String} {index : Nat} {y : MethodName} {bytes : ByteArray} {maxL : Nat} {ret : Option FieldType}
    (hown : s.vm.findClass own = some m.cls) (hlink : (Cond.methodLink own index y).before args s = true) (hinst : (Cond.instanceMethod y).before args s = true) (hsel : (Cond.selects C y y).before args s = true)
    (hcode : (Cond.code y bytes maxL ret).before args s = true) (hy : y.cls ≠ "java/lang/invoke/MethodHandle" ∧ y.cls ≠ "java/lang/invoke/VarHandle")
    {W9 : Nat} {Pre : Pt → Array Value → Prop} {Post : Pt → Array Value → Option Value → Pt → Prop} {PostX : Pt → Array Value → Addr → Pt → Prop} (hK : vx_Back l R p e below s args y 3 W9 Pre Post PostX)
    {b : Addr} {cellB : Cell} (hcell : T.heap[b]? = some cellB) (hobj : cellB.vm.isStatics = false) (hcls : s.vm.findClass C = some cellB.cls)
    {g : JFrame} (hg : g.method = m) (hsize : g.locals.size = c.maxLocals) {argsL rest : List Value} (hlen : ∀ sig, parseMethodDescriptor y.desc = some sig → argsL.length = sig.parameters.length)
    (hstack : g.stack = argsL.reverse ++ .ref b :: rest) (hW : 2 * g.monitorRoom + (rest.map fun v => v.category).sum ≤ W9) (hdg : decode c.code g.pc = .ok (.invokevirtual index, 3))
    (hpre : ∀ vm₁, s.WarmedH vm₁ → Pre ⟨T.setVm vm₁, locs, cells, slots⟩ (Value.ref b :: argsL).toArray) :
    (∃ (v : Option Value) (vm₁ : Vm) (B : Pt), s.WarmedH vm₁ ∧ Stand p l e R s m args below meth c B.U B.locs B.cells B.slots ∧ Post ⟨T.setVm vm₁, locs, cells, slots⟩ (Value.ref b :: argsL).toArray v B ∧
      ∀ target, Steps p.tables e below (B.U.setTop { g with pc := g.pc + 3, stack := v.toList ++ rest }) target → Steps p.tables e below (T.setTop g) target) ∨
    (∃ (q : Addr) (vm₁ : Vm) (B : Pt), s.WarmedH vm₁ ∧ Stand p l e R s m args below meth c B.U B.locs B.cells B.slots ∧ PostX ⟨T.setVm vm₁, locs, cells, slots⟩ (Value.ref b :: argsL).toArray q B ∧
      Steps p.tables e below (T.setTop g) ((B.U.setTop { g with stack := rest }).pushFrame (.throwing q))) := by
  obtain ⟨mk, methM, hnamed, hmethM, hstM, habM⟩ := Cond.instanceMethod_spec hinst
  obtain ⟨methM', cM, hmethM', -, -, -, -, -, -, hsigM⟩ := Cond.code_spec hnamed hcode
  cases hmethM.symm.trans hmethM'
  obtain ⟨c2, r2, m2, q1, q2, q3, q4, kP, hkP, hkPi⟩ := Cond.selects_spec hsel
  cases hcls.symm.trans q1
  cases (State.methodFound?_of_named hnamed hy).symm.trans q2
  cases hnamed.symm.trans q3
  have hselP : selectMethod e.platform s.vm cellB.cls mk = .method mk := by rw [Launch.admits_selectMethod X.admits]; exact q4
  obtain ⟨vm₁, X₁, hstep₁⟩ := X.invokevirtual hexec hown hlink hnamed hmethM hstM hkP hkPi hy (a := b) (cell := cellB) hcell
    (fun z h => by rw [h] at hobj; cases hobj) hselP hmethM habM hkP hkPi (g := g) hg (argsL := argsL) (rest := rest) (hlen _ hsigM) hstack hdg
  rcases hK m meth c ⟨T.setVm vm₁, locs, cells, slots⟩ { g with stack := rest } (.invokevirtual index) mk (Value.ref b :: argsL).toArray X₁ hg hsize hdg hW (X₁.named hnamed) (hpre vm₁ X₁.warmed) with ⟨v, B, X', hpost, hsteps⟩ | ⟨q, B, X', hpost, hsteps⟩
  · exact Or.inl ⟨v, vm₁, B, X₁.warmed, X', hpost, fun target h => hstep₁ _ fun acts => by rw [doInvoke_state]; exact hsteps.trans h⟩
  · exact Or.inr ⟨q, vm₁, B, X₁.warmed, X', hpost, hstep₁ _ fun acts => by rw [doInvoke_state]; exact hsteps⟩
theorem vx_callS (X : Stand p l e R s m args below meth c T locs cells slots) (hexec : p.tables.exec = Jvm.exec) {own : String} {index : Nat} {y : MethodName} {bytes : ByteArray} {maxL : Nat} {ret : Option FieldType}
    (hown : s.vm.findClass own = some m.cls) (hlink : (Cond.methodLink own index y).before args s = true) (hstat : (Cond.static y).before args s = true) (hinit : (Cond.initialized y.cls).before args s = true)
    (hcode : (Cond.code y bytes maxL ret).before args s = true) (hy : y.cls ≠ "java/lang/invoke/MethodHandle" ∧ y.cls ≠ "java/lang/invoke/VarHandle")
    {W9 : Nat} {Pre : Pt → Array Value → Prop} {Post : Pt → Array Value → Option Value → Pt → Prop} {PostX : Pt → Array Value → Addr → Pt → Prop} (hK : vx_Back l R p e below s args y 3 W9 Pre Post PostX)
    {g : JFrame} (hg : g.method = m) (hsize : g.locals.size = c.maxLocals) {argsL rest : List Value} (hlen : ∀ sig, parseMethodDescriptor y.desc = some sig → argsL.length = sig.parameters.length)
    (hstack : g.stack = argsL.reverse ++ rest) (hW : 2 * g.monitorRoom + (rest.map fun v => v.category).sum ≤ W9) (hdg : decode c.code g.pc = .ok (.invokestatic index, 3))
    (hpre : ∀ vm₁, s.WarmedH vm₁ → Pre ⟨T.setVm vm₁, locs, cells, slots⟩ argsL.toArray) :
    (∃ (v : Option Value) (vm₁ : Vm) (B : Pt), s.WarmedH vm₁ ∧ Stand p l e R s m args below meth c B.U B.locs B.cells B.slots ∧ Post ⟨T.setVm vm₁, locs, cells, slots⟩ argsL.toArray v B ∧
      ∀ target, Steps p.tables e below (B.U.setTop { g with pc := g.pc + 3, stack := v.toList ++ rest }) target → Steps p.tables e below (T.setTop g) target) ∨
    (∃ (q : Addr) (vm₁ : Vm) (B : Pt), s.WarmedH vm₁ ∧ Stand p l e R s m args below meth c B.U B.locs B.cells B.slots ∧ PostX ⟨T.setVm vm₁, locs, cells, slots⟩ argsL.toArray q B ∧
      Steps p.tables e below (T.setTop g) ((B.U.setTop { g with stack := rest }).pushFrame (.throwing q))) := by
  obtain ⟨mk, hnamed⟩ := Cond.code_named hcode
  obtain ⟨methM, cM, hmethM, -, -, -, -, -, -, hsigM⟩ := Cond.code_spec hnamed hcode
  have hstatic : methM.isStatic = true := Cond.static_spec hnamed hmethM hstat
  obtain ⟨kP, hkP, -⟩ := className_of_methodNamed hnamed
  have hinitP : kP.init = .initialized := Cond.initialized_spec (findClass_of_methodNamed hnamed) hkP hinit
  obtain ⟨vm₁, X₁, hstep₁⟩ := X.invokestatic hexec hown hlink hnamed hmethM hstatic hkP hinitP hy (g := g) hg (argsL := argsL) (rest := rest) (hlen _ hsigM) hstack hdg
  rcases hK m meth c ⟨T.setVm vm₁, locs, cells, slots⟩ { g with stack := rest } (.invokestatic index) mk argsL.toArray X₁ hg hsize hdg hW (X₁.named hnamed) (hpre vm₁ X₁.warmed) with ⟨v, B, X', hpost, hsteps⟩ | ⟨q, B, X', hpost, hsteps⟩
  · exact Or.inl ⟨v, vm₁, B, X₁.warmed, X', hpost, fun target h => hstep₁ _ fun acts => by rw [doInvoke_state]; exact hsteps.trans h⟩
  · exact Or.inr ⟨q, vm₁, B, X₁.warmed, X', hpost, hstep₁ _ fun acts => by rw [doInvoke_state]; exact hsteps⟩
end Calls
theorem vx_cls {s : State} {T : State} {vm₁ : Vm} {E : String} {k : ClassId} (hW : s.WarmedH vm₁) (h : (T.setVm vm₁).vm.findClass E = some k) : s.vm.findClass E = some k := by
  have h1 : vm₁.findClass E = some k := h
  rw [hW.alike.findClass] at h1
  exact h1
/-- the method's frame g, with q thrown over it -/
def vx_W (p : Program) (l : Launch) (e : Env) (R : Room) (s : State) (m : MethodId) (args : Array Value) (below : List Frame) (meth : Method) (c : Code) (H : Heap) (locs : List Loc) (cells slots : Nat) (Q : State → Prop) (g : JFrame) (q : Addr) : Prop :=
  ∀ T : State, T.heap = H → Stand p l e R s m args below meth c T locs cells slots → ∃ t, Steps p.tables e below ((T.setTop g).pushFrame (.throwing q)) t ∧ Q t
def vx_Run (p : Program) (l : Launch) (e : Env) (R : Room) (s : State) (m : MethodId) (args : Array Value) (below : List Frame) (meth : Method) (c : Code) (H : Heap) (locs : List Loc) (cells slots mc ms : Nat) (g : JFrame) (rest : List Value) (Qa : State → Outcome → State → Prop) (XC : String → State → State → Prop) (free : Addr → Prop) : Prop :=
  ∀ T : State, T.heap = H → Stand p l e R s m args below meth c T locs cells slots →
    (∃ (v : Option Value) (st₀ t T' : State) (L : List Loc), st₀.heap = H ∧ Stand p l e R s m args below meth c T' (locs ++ L) (cells + mc) (slots + ms) ∧ (∀ q ∈ L, free q.base) ∧ T'.heap = t.heap ∧ T'.vm = t.vm ∧ Qa st₀ (.returned v) t ∧
      Goes p e below T g T' { g with pc := g.pc + 3, stack := v.toList ++ rest }) ∨
    (∃ (q : Addr) (st₀ t T' : State) (L : List Loc) (E : String) (ce : Cell), st₀.heap = H ∧ Stand p l e R s m args below meth c T' (locs ++ L) (cells + mc) (slots + ms) ∧ (∀ z ∈ L, free z.base) ∧ T'.heap = t.heap ∧ T'.vm = t.vm ∧ XC E st₀ t ∧ t.heap[q]? = some ce ∧ ce.vm = .none ∧ s.vm.findClass E = some ce.cls ∧
      Steps p.tables e below (T.setTop g) ((T'.setTop { g with stack := rest }).pushFrame (.throwing q)))
def vx_X {S : Type} (px : S → Prop) (B : String → S → State → Prop) (A : Nat → Prop) : String → State → State → Prop := fun E st t => ∃ u : S, px u ∧ B E u t ∧ va_F A st t
section Runs
variable {p : Program} {l : Launch} {e : Env} {R : Room} {s : State} {m : MethodId} {args : Array Value} {below : List Frame} {meth : Method} {c : Code} {H : Heap} {locs : List Loc} {cells slots : Nat}
variable {y : MethodName} {bytes cc : ByteArray} {maxL nL mc ms n index : Nat} {ret : Option FieldType} {ws : List Cond} {rm : Room} {Pc : Array Value → State → Prop} {Qc : Array Value → State → Outcome → State → Prop} {XC : String → State → State → Prop} {free : Addr → Prop} {Ts : List Cond} {own C : String} {b : Addr} {As rest : List Value} {g : JFrame}
theorem vx_callBack (cb : CallB R s args own index y bytes maxL ret ws rm mc ms n) (hM : vx_Met l y ws rm Pc Qc XC mc ms free) (hbl : FrameBlind Pc) : vx_Back l R p e below s args y 3 8 (PreOf R mc ms Pc) (PostOf Qc mc ms free) (vx_Post XC mc ms free) := by
  obtain ⟨hrc, hrs, hfr, hlo, hws, hcw, -, hini, -⟩ := cb
  exact vx_back (bytes := bytes) (maxL := maxL) (ret := ret) hM hbl hrc hrs hfr hlo hws hcw (fun a' U hW => word_at hW (Or.inl (by first | rfl | simp [Cond.onTables, Cond.keeps, Cond.steady])) hini)
theorem vx_runV (S : CallFix p m c cc nL s args Ts own) (hM : vx_Met l y ws rm Pc Qc XC mc ms free) (cw : CallW R s args own C index y bytes maxL ret ws rm mc ms n) (hp : PreV s H C b Pc As)
    (hg : g.method = m) (hn : As.length = n) (hsize : g.locals.size = nL) (hstack : g.stack = As.reverse ++ .ref b :: rest) (hW : 2 * g.monitorRoom + (rest.map fun v => v.category).sum ≤ 8) (hdg : decode cc g.pc = .ok (.invokevirtual index, 3)) (hf : cells + mc ≤ R.cells ∧ slots + ms ≤ R.slots) :
    vx_Run p l e R s m args below meth c H locs cells slots mc ms g rest (Qc (Value.ref b :: As).toArray) XC free := by
  have hK : vx_Back l R p e below s args y 3 8 (PreOf R mc ms Pc) (PostOf Qc mc ms free) (vx_Post XC mc ms free) := vx_callBack cw.1 hM hp.1
  obtain ⟨⟨-, -, -, -, -, -, hcode, -, hy, hlen, hl⟩, hin, hse⟩ := cw
  obtain ⟨hx, hb, hml, ho, -⟩ := S
  obtain ⟨-, ⟨cellB, hcB, hoB, hclB⟩, hPc⟩ := hp
  intro T hT X
  rcases vx_callV X hx (C := C) (bytes := bytes) (maxL := maxL) (ret := ret) ho hl hin hse hcode hy hK (by rw [hT]; exact hcB) hoB hclB hg (hsize.trans hml.symm) (argsL := As) (rest := rest) (fun sig h => hn.trans (hlen sig h)) hstack hW (by rw [hb]; exact hdg)
    (fun vm₁ hW₁ => ⟨hf.1, hf.2, hPc (T.setVm vm₁) hT hW₁⟩) with ⟨v, vm₁, ⟨U', l2, c2, s2⟩, hW₁, X', ⟨g', mk, t, L, e1, e2, hq, h1, hL, h2, h3⟩, st⟩ | ⟨q, vm₁, ⟨U', l2, c2, s2⟩, hW₁, X', ⟨g', mk, t, L, E, ce, e1, e2, hq, hce, hcv, hcl, h1, hL, h2, h3⟩, st⟩
  · dsimp only [Pt.U, Pt.locs, Pt.cells, Pt.slots] at X' e1 e2 h1 h2 h3 st
    subst h1; subst h2; subst h3
    exact Or.inl ⟨v, (T.setVm vm₁).calling g' mk (Value.ref b :: As).toArray, t, U', L, hT, X', hL, e1, e2, hq, st⟩
  · dsimp only [Pt.U, Pt.locs, Pt.cells, Pt.slots] at X' e1 e2 h1 h2 h3 st hcl
    subst h1; subst h2; subst h3
    exact Or.inr ⟨q, (T.setVm vm₁).calling g' mk (Value.ref b :: As).toArray, t, U', L, E, ce, hT, X', hL, e1, e2, hq, hce, hcv, vx_cls hW₁ hcl, st⟩
theorem vx_runS (S : CallFix p m c cc nL s args Ts own) (hM : vx_Met l y ws rm Pc Qc XC mc ms free) (cw : CallB R s args own index y bytes maxL ret ws rm mc ms n ∧ (Cond.static y).before args s = true) (hp : PreS s H Pc As)
    (hg : g.method = m) (hn : As.length = n) (hsize : g.locals.size = nL) (hstack : g.stack = As.reverse ++ rest) (hW : 2 * g.monitorRoom + (rest.map fun v => v.category).sum ≤ 8) (hdg : decode cc g.pc = .ok (.invokestatic index, 3)) (hf : cells + mc ≤ R.cells ∧ slots + ms ≤ R.slots) :
    vx_Run p l e R s m args below meth c H locs cells slots mc ms g rest (Qc As.toArray) XC free := by
  have hK : vx_Back l R p e below s args y 3 8 (PreOf R mc ms Pc) (PostOf Qc mc ms free) (vx_Post XC mc ms free) := vx_callBack cw.1 hM hp.1
  obtain ⟨⟨-, -, -, -, -, -, hcode, hini, hy, hlen, hl⟩, hstt⟩ := cw
  obtain ⟨hx, hb, hml, ho, -⟩ := S
  intro T hT X
  rcases vx_callS X hx (bytes := bytes) (maxL := maxL) (ret := ret) ho hl hstt hini hcode hy hK hg (hsize.trans hml.symm) (argsL := As) (rest := rest) (fun sig h => hn.trans (hlen sig h)) hstack hW (by rw [hb]; exact hdg)
    (fun vm₁ hW₁ => ⟨hf.1, hf.2, hp.2 (T.setVm vm₁) hT hW₁⟩) with ⟨v, vm₁, ⟨U', l2, c2, s2⟩, hW₁, X', ⟨g', mk, t, L, e1, e2, hq, h1, hL, h2, h3⟩, st⟩ | ⟨q, vm₁, ⟨U', l2, c2, s2⟩, hW₁, X', ⟨g', mk, t, L, E, ce, e1, e2, hq, hce, hcv, hcl, h1, hL, h2, h3⟩, st⟩
  · dsimp only [Pt.U, Pt.locs, Pt.cells, Pt.slots] at X' e1 e2 h1 h2 h3 st
    subst h1; subst h2; subst h3
    exact Or.inl ⟨v, (T.setVm vm₁).calling g' mk As.toArray, t, U', L, hT, X', hL, e1, e2, hq, st⟩
  · dsimp only [Pt.U, Pt.locs, Pt.cells, Pt.slots] at X' e1 e2 h1 h2 h3 st hcl
    subst h1; subst h2; subst h3
    exact Or.inr ⟨q, (T.setVm vm₁).calling g' mk As.toArray, t, U', L, E, ce, hT, X', hL, e1, e2, hq, hce, hcv, vx_cls hW₁ hcl, st⟩
end Runs
section Rows
variable {p : Program} {l : Launch} {e : Env} {R : Room} {s : State} {m : MethodId} {args : Array Value} {below : List Frame} {meth : Method} {c : Code} {H : Heap} {locs : List Loc} {cells slots : Nat} {Q : State → Prop}
variable {mc ms : Nat} {free : Addr → Prop} {A0 A1 : Nat → Prop} {H0 : Heap} {a : Array Value} {pc : Nat} {ls : Array Slot} {st0 rest : List Value}
theorem vx_keep {st₀ t T' : State} {L : List Loc} (h0 : st₀.heap = H) (e1 : T'.heap = t.heap) (hS : va_S A0 H0 H locs) (hA : ∀ q, q < H.size → A1 q → A0 q) (hf : ∀ q, free q → A0 q) (hL : ∀ q ∈ L, free q.base) (hF : va_F A1 st₀ t) :
    H.size ≤ T'.heap.size ∧ (∀ q : Nat, q < H.size → ¬ A1 q → T'.heap[q]? = H[q]?) ∧ va_S A0 H0 T'.heap (locs ++ L) := by
  obtain ⟨hz, hk⟩ := hF
  rw [h0] at hz hk
  exact ⟨by rw [e1]; exact hz, fun q h1 h2 => by rw [e1]; exact hk q h1 h2,
    ⟨Nat.le_trans hS.1 (by rw [e1]; exact hz), fun q h1 h2 => by rw [e1, hk q (Nat.lt_of_lt_of_le h1 hS.1) (fun z => h2 (hA q (Nat.lt_of_lt_of_le h1 hS.1) z))]; exact hS.2.1 q h1 h2, fun q hq => by
      rcases List.mem_append.mp hq with h | h
      · exact hS.2.2 q h
      · exact hf _ (hL q h)⟩⟩
theorem vx_calli {S SX : Type} {post : Int32 → S → Prop} {px : SX → Prop} {B : S → State → Prop} {BX : String → SX → State → Prop} {AX : Nat → Prop} (hr : vx_Run p l e R s m args below meth c H locs cells slots mc ms (F0 m pc ls st0) rest (va_Qi post B A1 a) (vx_X px BX AX) free) (hS : va_S A0 H0 H locs) (hA : ∀ q, q < H.size → A1 q → A0 q) (hf : ∀ q, free q → A0 q) (hAX : ∀ q, q < H.size → AX q → A0 q)
    (kx : ∀ (E : String) (ce : Cell) (q9 : Addr) (u : SX) (t : State) (H1 : Heap) (locs1 : List Loc), t.heap = H1 → s.vm.Alike t.vm → px u → BX E u t → H.size ≤ H1.size → (∀ q : Nat, q < H.size → ¬ AX q → H1[q]? = H[q]?) → va_S A0 H0 H1 locs1 → H1[q9]? = some ce → ce.vm = .none → s.vm.findClass E = some ce.cls → vx_W p l e R s m args below meth c H1 locs1 (cells + mc) (slots + ms) Q (F0 m pc ls rest) q9)
    (kk : ∀ (r : Int32) (u : S) (t : State) (H1 : Heap) (locs1 : List Loc), t.heap = H1 → s.vm.Alike t.vm → post r u → B u t → H.size ≤ H1.size → (∀ q : Nat, q < H.size → ¬ A1 q → H1[q]? = H[q]?) → va_S A0 H0 H1 locs1 → W p l e R s m args below meth c H1 locs1 (cells + mc) (slots + ms) Q (F0 m (pc + 3) ls (.int r :: rest))) : W p l e R s m args below meth c H locs cells slots Q (F0 m pc ls st0) := by
  intro T hT X
  rcases hr T hT X with ⟨v, st₀, t, T', L, h0, X', hL, e1, e2, ⟨⟨r, u, hv, hp, hb⟩, hF⟩, st⟩ | ⟨q, st₀, t, T', L, E, ce, h0, X', hL, e1, e2, ⟨u, hp, hb, hF⟩, hce, hcv, hcl, st⟩
  · cases hv
    obtain ⟨k1, k2, k3⟩ := vx_keep h0 e1 hS hA hf hL hF
    obtain ⟨t2, a1, b1⟩ := kk r u t T'.heap (locs ++ L) e1.symm (by rw [← e2]; exact X'.warmed.alike) hp hb k1 k2 k3 T' rfl X'
    exact ⟨t2, st t2 a1, b1⟩
  · obtain ⟨k1, k2, k3⟩ := vx_keep h0 e1 hS hAX hf hL hF
    obtain ⟨t2, a1, b1⟩ := kx E ce q u t T'.heap (locs ++ L) e1.symm (by rw [← e2]; exact X'.warmed.alike) hp hb k1 k2 k3 (by rw [e1]; exact hce) hcv hcl T' rfl X'
    exact ⟨t2, st.trans a1, b1⟩
theorem vx_calll {S SX : Type} {post : Int64 → S → Prop} {px : SX → Prop} {B : S → State → Prop} {BX : String → SX → State → Prop} {AX : Nat → Prop} (hr : vx_Run p l e R s m args below meth c H locs cells slots mc ms (F0 m pc ls st0) rest (va_Ql post B A1 a) (vx_X px BX AX) free) (hS : va_S A0 H0 H locs) (hA : ∀ q, q < H.size → A1 q → A0 q) (hf : ∀ q, free q → A0 q) (hAX : ∀ q, q < H.size → AX q → A0 q)
    (kx : ∀ (E : String) (ce : Cell) (q9 : Addr) (u : SX) (t : State) (H1 : Heap) (locs1 : List Loc), t.heap = H1 → s.vm.Alike t.vm → px u → BX E u t → H.size ≤ H1.size → (∀ q : Nat, q < H.size → ¬ AX q → H1[q]? = H[q]?) → va_S A0 H0 H1 locs1 → H1[q9]? = some ce → ce.vm = .none → s.vm.findClass E = some ce.cls → vx_W p l e R s m args below meth c H1 locs1 (cells + mc) (slots + ms) Q (F0 m pc ls rest) q9)
    (kk : ∀ (r : Int64) (u : S) (t : State) (H1 : Heap) (locs1 : List Loc), t.heap = H1 → s.vm.Alike t.vm → post r u → B u t → H.size ≤ H1.size → (∀ q : Nat, q < H.size → ¬ A1 q → H1[q]? = H[q]?) → va_S A0 H0 H1 locs1 → W p l e R s m args below meth c H1 locs1 (cells + mc) (slots + ms) Q (F0 m (pc + 3) ls (.long r :: rest))) : W p l e R s m args below meth c H locs cells slots Q (F0 m pc ls st0) := by
  intro T hT X
  rcases hr T hT X with ⟨v, st₀, t, T', L, h0, X', hL, e1, e2, ⟨⟨r, u, hv, hp, hb⟩, hF⟩, st⟩ | ⟨q, st₀, t, T', L, E, ce, h0, X', hL, e1, e2, ⟨u, hp, hb, hF⟩, hce, hcv, hcl, st⟩
  · cases hv
    obtain ⟨k1, k2, k3⟩ := vx_keep h0 e1 hS hA hf hL hF
    obtain ⟨t2, a1, b1⟩ := kk r u t T'.heap (locs ++ L) e1.symm (by rw [← e2]; exact X'.warmed.alike) hp hb k1 k2 k3 T' rfl X'
    exact ⟨t2, st t2 a1, b1⟩
  · obtain ⟨k1, k2, k3⟩ := vx_keep h0 e1 hS hAX hf hL hF
    obtain ⟨t2, a1, b1⟩ := kx E ce q u t T'.heap (locs ++ L) e1.symm (by rw [← e2]; exact X'.warmed.alike) hp hb k1 k2 k3 (by rw [e1]; exact hce) hcv hcl T' rfl X'
    exact ⟨t2, st.trans a1, b1⟩
theorem vx_callf {S SX : Type} {post : UInt32 → S → Prop} {px : SX → Prop} {B : S → State → Prop} {BX : String → SX → State → Prop} {AX : Nat → Prop} (hr : vx_Run p l e R s m args below meth c H locs cells slots mc ms (F0 m pc ls st0) rest (va_Qf post B A1 a) (vx_X px BX AX) free) (hS : va_S A0 H0 H locs) (hA : ∀ q, q < H.size → A1 q → A0 q) (hf : ∀ q, free q → A0 q) (hAX : ∀ q, q < H.size → AX q → A0 q)
    (kx : ∀ (E : String) (ce : Cell) (q9 : Addr) (u : SX) (t : State) (H1 : Heap) (locs1 : List Loc), t.heap = H1 → s.vm.Alike t.vm → px u → BX E u t → H.size ≤ H1.size → (∀ q : Nat, q < H.size → ¬ AX q → H1[q]? = H[q]?) → va_S A0 H0 H1 locs1 → H1[q9]? = some ce → ce.vm = .none → s.vm.findClass E = some ce.cls → vx_W p l e R s m args below meth c H1 locs1 (cells + mc) (slots + ms) Q (F0 m pc ls rest) q9)
    (kk : ∀ (r : UInt32) (u : S) (t : State) (H1 : Heap) (locs1 : List Loc), t.heap = H1 → s.vm.Alike t.vm → post r u → B u t → H.size ≤ H1.size → (∀ q : Nat, q < H.size → ¬ A1 q → H1[q]? = H[q]?) → va_S A0 H0 H1 locs1 → W p l e R s m args below meth c H1 locs1 (cells + mc) (slots + ms) Q (F0 m (pc + 3) ls (.float r :: rest))) : W p l e R s m args below meth c H locs cells slots Q (F0 m pc ls st0) := by
  intro T hT X
  rcases hr T hT X with ⟨v, st₀, t, T', L, h0, X', hL, e1, e2, ⟨⟨r, u, hv, hp, hb⟩, hF⟩, st⟩ | ⟨q, st₀, t, T', L, E, ce, h0, X', hL, e1, e2, ⟨u, hp, hb, hF⟩, hce, hcv, hcl, st⟩
  · cases hv
    obtain ⟨k1, k2, k3⟩ := vx_keep h0 e1 hS hA hf hL hF
    obtain ⟨t2, a1, b1⟩ := kk r u t T'.heap (locs ++ L) e1.symm (by rw [← e2]; exact X'.warmed.alike) hp hb k1 k2 k3 T' rfl X'
    exact ⟨t2, st t2 a1, b1⟩
  · obtain ⟨k1, k2, k3⟩ := vx_keep h0 e1 hS hAX hf hL hF
    obtain ⟨t2, a1, b1⟩ := kx E ce q u t T'.heap (locs ++ L) e1.symm (by rw [← e2]; exact X'.warmed.alike) hp hb k1 k2 k3 (by rw [e1]; exact hce) hcv hcl T' rfl X'
    exact ⟨t2, st.trans a1, b1⟩
theorem vx_calld {S SX : Type} {post : UInt64 → S → Prop} {px : SX → Prop} {B : S → State → Prop} {BX : String → SX → State → Prop} {AX : Nat → Prop} (hr : vx_Run p l e R s m args below meth c H locs cells slots mc ms (F0 m pc ls st0) rest (va_Qd post B A1 a) (vx_X px BX AX) free) (hS : va_S A0 H0 H locs) (hA : ∀ q, q < H.size → A1 q → A0 q) (hf : ∀ q, free q → A0 q) (hAX : ∀ q, q < H.size → AX q → A0 q)
    (kx : ∀ (E : String) (ce : Cell) (q9 : Addr) (u : SX) (t : State) (H1 : Heap) (locs1 : List Loc), t.heap = H1 → s.vm.Alike t.vm → px u → BX E u t → H.size ≤ H1.size → (∀ q : Nat, q < H.size → ¬ AX q → H1[q]? = H[q]?) → va_S A0 H0 H1 locs1 → H1[q9]? = some ce → ce.vm = .none → s.vm.findClass E = some ce.cls → vx_W p l e R s m args below meth c H1 locs1 (cells + mc) (slots + ms) Q (F0 m pc ls rest) q9)
    (kk : ∀ (r : UInt64) (u : S) (t : State) (H1 : Heap) (locs1 : List Loc), t.heap = H1 → s.vm.Alike t.vm → post r u → B u t → H.size ≤ H1.size → (∀ q : Nat, q < H.size → ¬ A1 q → H1[q]? = H[q]?) → va_S A0 H0 H1 locs1 → W p l e R s m args below meth c H1 locs1 (cells + mc) (slots + ms) Q (F0 m (pc + 3) ls (.double r :: rest))) : W p l e R s m args below meth c H locs cells slots Q (F0 m pc ls st0) := by
  intro T hT X
  rcases hr T hT X with ⟨v, st₀, t, T', L, h0, X', hL, e1, e2, ⟨⟨r, u, hv, hp, hb⟩, hF⟩, st⟩ | ⟨q, st₀, t, T', L, E, ce, h0, X', hL, e1, e2, ⟨u, hp, hb, hF⟩, hce, hcv, hcl, st⟩
  · cases hv
    obtain ⟨k1, k2, k3⟩ := vx_keep h0 e1 hS hA hf hL hF
    obtain ⟨t2, a1, b1⟩ := kk r u t T'.heap (locs ++ L) e1.symm (by rw [← e2]; exact X'.warmed.alike) hp hb k1 k2 k3 T' rfl X'
    exact ⟨t2, st t2 a1, b1⟩
  · obtain ⟨k1, k2, k3⟩ := vx_keep h0 e1 hS hAX hf hL hF
    obtain ⟨t2, a1, b1⟩ := kx E ce q u t T'.heap (locs ++ L) e1.symm (by rw [← e2]; exact X'.warmed.alike) hp hb k1 k2 k3 (by rw [e1]; exact hce) hcv hcl T' rfl X'
    exact ⟨t2, st.trans a1, b1⟩
theorem vx_callv {S SX : Type} {post : S → Prop} {px : SX → Prop} {B : S → State → Prop} {BX : String → SX → State → Prop} {AX : Nat → Prop} (hr : vx_Run p l e R s m args below meth c H locs cells slots mc ms (F0 m pc ls st0) rest (va_Qv post B A1 a) (vx_X px BX AX) free) (hS : va_S A0 H0 H locs) (hA : ∀ q, q < H.size → A1 q → A0 q) (hf : ∀ q, free q → A0 q) (hAX : ∀ q, q < H.size → AX q → A0 q)
    (kx : ∀ (E : String) (ce : Cell) (q9 : Addr) (u : SX) (t : State) (H1 : Heap) (locs1 : List Loc), t.heap = H1 → s.vm.Alike t.vm → px u → BX E u t → H.size ≤ H1.size → (∀ q : Nat, q < H.size → ¬ AX q → H1[q]? = H[q]?) → va_S A0 H0 H1 locs1 → H1[q9]? = some ce → ce.vm = .none → s.vm.findClass E = some ce.cls → vx_W p l e R s m args below meth c H1 locs1 (cells + mc) (slots + ms) Q (F0 m pc ls rest) q9)
    (kk : ∀ (u : S) (t : State) (H1 : Heap) (locs1 : List Loc), t.heap = H1 → s.vm.Alike t.vm → post u → B u t → H.size ≤ H1.size → (∀ q : Nat, q < H.size → ¬ A1 q → H1[q]? = H[q]?) → va_S A0 H0 H1 locs1 → W p l e R s m args below meth c H1 locs1 (cells + mc) (slots + ms) Q (F0 m (pc + 3) ls (rest))) : W p l e R s m args below meth c H locs cells slots Q (F0 m pc ls st0) := by
  intro T hT X
  rcases hr T hT X with ⟨v, st₀, t, T', L, h0, X', hL, e1, e2, ⟨⟨u, hv, hp, hb⟩, hF⟩, st⟩ | ⟨q, st₀, t, T', L, E, ce, h0, X', hL, e1, e2, ⟨u, hp, hb, hF⟩, hce, hcv, hcl, st⟩
  · cases hv
    obtain ⟨k1, k2, k3⟩ := vx_keep h0 e1 hS hA hf hL hF
    obtain ⟨t2, a1, b1⟩ := kk u t T'.heap (locs ++ L) e1.symm (by rw [← e2]; exact X'.warmed.alike) hp hb k1 k2 k3 T' rfl X'
    exact ⟨t2, st t2 a1, b1⟩
  · obtain ⟨k1, k2, k3⟩ := vx_keep h0 e1 hS hAX hf hL hF
    obtain ⟨t2, a1, b1⟩ := kx E ce q u t T'.heap (locs ++ L) e1.symm (by rw [← e2]; exact X'.warmed.alike) hp hb k1 k2 k3 (by rw [e1]; exact hce) hcv hcl T' rfl X'
    exact ⟨t2, st.trans a1, b1⟩
/-- caught by the row x of this method's table; the rows ahead don't take it -/
theorem vx_catch {own name : String} {E : String} {ce : Cell} {q : Addr} (hown : s.vm.findClass own = some m.cls) (pre : List ExceptionTableEntry) (x : ExceptionTableEntry) (suf : List ExceptionTableEntry) (hsplit : c.exceptionTable.toList = pre ++ x :: suf)
    (hpass : ∀ z ∈ pre, covers z pc = false ∨ (z.catchType ≠ 0 ∧ ∃ nm : String, (Cond.classLink own z.catchType nm).before args s = true ∧ va_Nc E nm s)) (hx : covers x pc = true) (h0 : x.catchType ≠ 0)
    (hlink : (Cond.classLink own x.catchType name).before args s = true) (hcast : (Cond.castable E name).before args s = true) (hcell : H[q]? = some ce) (hv : ce.vm = .none) (hcl : s.vm.findClass E = some ce.cls)
    (kk : W p l e R s m args below meth c H locs cells slots Q (F0 m x.handlerPc ls [.ref q])) : vx_W p l e R s m args below meth c H locs cells slots Q (F0 m pc ls rest) q := by
  intro T hT X
  have hpl : e.platform.magicAccessors = ({} : Platform).magicAccessors := by rw [X.admits.platform]
  obtain ⟨c3, c4, hc3, hc4, hasg⟩ := Cond.castable_spec hcast
  cases Option.some.inj (hc3.symm.trans hcl)
  obtain ⟨c5, hc5, hcl5⟩ := Cond.classLink_spec hown hlink e.platform hpl
  cases Option.some.inj (hc4.symm.trans hc5)
  obtain ⟨vm', X', st⟩ := X.thenCaughtThrough q (g := F0 m pc ls rest) rfl (Steps.refl _) (by rw [hT]; exact hcell) (by rw [hv]; rfl) (by obtain ⟨k9, h9, -⟩ := Vm.findClass_spec hcl; exact ⟨k9, h9⟩) pre x suf hsplit
    (fun z hz => by
      rcases hpass z hz with h | ⟨hz0, nm, hl1, hn1⟩
      · exact Or.inl h
      · obtain ⟨c6, hc6, hcl6⟩ := Cond.classLink_spec hown hl1 e.platform hpl
        obtain ⟨a8, b8, h1, h2, h3⟩ := hn1
        cases Option.some.inj (h1.symm.trans hcl)
        cases Option.some.inj (h2.symm.trans hc6)
        exact Or.inr ⟨hz0, _, hcl6, h3⟩) hx (Or.inr ⟨h0, c4, hcl5, hasg⟩)
  obtain ⟨t, a1, b1⟩ := kk (T.setVm vm') hT X'
  exact ⟨t, st.trans a1, b1⟩
end Rows
section Ends
variable {p : Program} {l : Launch} {e : Env} {R : Room} {s : State} {m : MethodId} {args : Array Value} {below : List Frame} {meth : Method} {c : Code} {H : Heap} {locs : List Loc} {cells slots : Nat} {Q : State → Prop}
variable {mc ms : Nat} {free : Addr → Prop} {A0 A1 : Nat → Prop} {H0 : Heap} {a : Array Value} {ls : Array Slot} {st0 rest : List Value}
variable {Qc : Array Value → State → Outcome → State → Prop} {XC : String → State → State → Prop}
/-- what a body that may throw owes at its end -/
def vx_MQ (below : List Frame) (Qc : Array Value → State → Outcome → State → Prop) (XC : String → State → State → Prop) (a : Array Value) (s : State) (mc ms : Nat) (free : Addr → Prop) : State → Prop := fun t =>
  ∃ o, t.status = .running ∧ Ended t below o ∧ vx_Q Qc XC mc ms free a s o t
theorem vx_ret {g : JFrame} {mc ms : Nat} (k : W p l e R s m args below meth c H locs cells slots (MQ below Qc args s mc ms free) g) : W p l e R s m args below meth c H locs cells slots (vx_MQ below Qc XC args s mc ms free) g := by
  intro T hT X
  obtain ⟨t, a1, o, b1, b2, b3, b4⟩ := k T hT X
  exact ⟨t, a1, o, b1, b2, Or.inl ⟨b3, b4⟩⟩
/-- not caught here: it goes on to the caller -/
theorem vx_widen {g : JFrame} {q : Addr} {k n : Nat} (h1 : cells ≤ k) (h2 : slots ≤ n) (kk : vx_W p l e R s m args below meth c H locs k n Q g q) : vx_W p l e R s m args below meth c H locs cells slots Q g q := fun T hT X => kk T hT (stand_widen X h1 h2)
theorem vx_out {pc : Nat} {E : String} {ce : Cell} {q : Addr} {mc ms : Nat} (hout : ∀ x ∈ c.exceptionTable.toList, covers x pc = false) (hlocks : meth.locks = false) (hcell : H[q]? = some ce) (hv : ce.vm = .none) (hcl : s.vm.findClass E = some ce.cls)
    (hx : ∀ t : State, t.heap = H → s.vm.Alike t.vm → XC E s t) (hf : ∀ z ∈ locs, free z.base) (hc : cells ≤ mc) (hs : slots ≤ ms) :
    vx_W p l e R s m args below meth c H locs cells slots (vx_MQ below Qc XC args s mc ms free) (F0 m pc ls rest) q := by
  intro T hT X
  obtain ⟨st1, hrun, hend, hW, hsm⟩ := X.leaveThrown q (g := F0 m pc ls rest) rfl rfl rfl hout hlocks
  have hcell9 : (T.setFrames (.throwing q :: below)).heap[q]? = some ce := by
    show T.heap[q]? = some ce
    rw [hT]; exact hcell
  exact ⟨_, st1, .threw q, hrun, hend, Or.inr ⟨q, rfl, E, ce, locs, hx _ hT hW.alike, hcell9, hv, hcl, hW, hsm.mono hc hs, hf⟩⟩
theorem vx_frame {U : State} {k n : Nat} (h : s.sameButNew ({ U with vm := s.vm } : State) locs k n) : s.heap.size ≤ U.heap.size ∧ ∀ q : Nat, q < s.heap.size → (∀ z ∈ locs, z.base ≠ q) → U.heap[q]? = s.heap[q]? := by
  obtain ⟨-, h2, -, -, -, h6⟩ := h
  refine ⟨h2, fun q hq hz => ?_⟩
  obtain ⟨c9, e1, e2, e3, e4⟩ := h6 q _ (Array.getElem?_eq_getElem hq)
  have hs : c9.slots = (s.heap[q]).slots := Array.ext_getElem? fun i => e4 i fun hm => hz _ hm rfl
  have h9 : c9 = s.heap[q] := by
    rw [hs] at e2
    exact e2
  have e5 : U.heap[q]? = some c9 := e1
  rw [e5, h9, Array.getElem?_eq_getElem hq]
/-- the words of a throw but the four that speak of the heap -/
def vx_no (w : Cond) : Bool := decide (w ≠ .isRef (.static Bundle.tN "UNASSIGNED_STACK" Bundle.steD)) && decide (w ≠ .isRef (.static Bundle.tN "SUPPRESSED_SENTINEL" Bundle.listD)) && decide (w ≠ .laysStatic Bundle.tN "UNASSIGNED_STACK" Bundle.steD) && decide (w ≠ .laysStatic Bundle.tN "SUPPRESSED_SENTINEL" Bundle.listD)
def vx_at0 (own : String) (ic : Nat) (X : String) (names : List String) : List Cond := (Bundle.ownAtoms0 own ic X names).filter vx_no
def vx_atS (own : String) (ic : Nat) (X : String) (names : List String) : List Cond := (Bundle.ownAtoms own ic X names).filter vx_no
/-- a word that the tables alone decide, or a good one -/
def vx_ot (w : Cond) : Bool := w.onTables || goodWord w
theorem vx_ot_at {args a' : Array Value} {s U : State} {w : Cond} (hW : s.WarmedH U.vm) (hvm : s.vm = U.vm) (hg : vx_ot w = true) (h : w.before args s = true) : w.before a' U = true := by
  simp only [vx_ot, Bool.or_eq_true] at hg
  rcases hg with hg | hg
  · exact va_tabs hg hvm h
  · exact word_at hW (good_of_word hg) h
/-- a list's words: the good ones out of the method's own list, the others by premises of their own -/
theorem vx_hat {args : Array Value} {s : State} {L B : List Cond} (h1 : ∀ w ∈ L.filter goodWord, w.before args s = true) (h2 : ∀ w ∈ L.filter (fun w => !goodWord w), w ∈ B) (h3 : ∀ w ∈ B, w.before args s = true) : ∀ w ∈ L, w.before args s = true := by
  intro w hw
  by_cases g : goodWord w = true
  · exact h1 w (List.mem_filter.mpr ⟨hw, g⟩)
  · refine h3 w (h2 w (List.mem_filter.mpr ⟨hw, ?_⟩))
    show (!goodWord w) = true
    cases hgw : goodWord w
    · rfl
    · exact absurd hgw g
theorem vx_c {args : Array Value} {s : State} {w : Cond} {B : List Cond} (h : w.before args s = true) (t : ∀ w ∈ B, w.before args s = true) : ∀ w' ∈ w :: B, w'.before args s = true := fun w' h' => (List.mem_cons.mp h').elim (fun e => by rw [e]; exact h) (t w')
theorem vx_n {args : Array Value} {s : State} : ∀ w ∈ ([] : List Cond), w.before args s = true := fun _ h => nomatch h
theorem vx_own {args : Array Value} {s : State} {L : List Cond} (h1 : ∀ w ∈ L.filter vx_no, w.before args s = true)
    (hU : (Cond.isRef (.static Bundle.tN "UNASSIGNED_STACK" Bundle.steD)).before args s = true) (hN : (Cond.isRef (.static Bundle.tN "SUPPRESSED_SENTINEL" Bundle.listD)).before args s = true)
    (lU : (Cond.laysStatic Bundle.tN "UNASSIGNED_STACK" Bundle.steD).before args s = true) (lN : (Cond.laysStatic Bundle.tN "SUPPRESSED_SENTINEL" Bundle.listD).before args s = true) : ∀ w ∈ L, w.before args s = true := by
  intro w hw
  by_cases e1 : w = .isRef (.static Bundle.tN "UNASSIGNED_STACK" Bundle.steD)
  · rw [e1]; exact hU
  · by_cases e2 : w = .isRef (.static Bundle.tN "SUPPRESSED_SENTINEL" Bundle.listD)
    · rw [e2]; exact hN
    · by_cases e3 : w = .laysStatic Bundle.tN "UNASSIGNED_STACK" Bundle.steD
      · rw [e3]; exact lU
      · by_cases e4 : w = .laysStatic Bundle.tN "SUPPRESSED_SENTINEL" Bundle.listD
        · rw [e4]; exact lN
        · exact h1 w (List.mem_filter.mpr ⟨hw, by unfold vx_no; rw [decide_eq_true e1, decide_eq_true e2, decide_eq_true e3, decide_eq_true e4]; rfl⟩)
/-- where a static field lies, its class's statics cell in H -/
def vx_L (C n d : String) (A : Nat → Prop) (U : State) (H : Heap) : Prop := ∃ (c : ClassId) (k : Class) (i : Nat) (f : Field) (a : Nat) (cell : Cell), U.vm.findClass C = some c ∧ U.fieldFound? C n d = some (c, k, i, f) ∧ f.isStatic = true ∧ k.statics = some a ∧ H[a]? = some cell ∧ cell.vm.isStatics = true ∧ cell.cls = c ∧ f.slot < cell.slots.size ∧ k.staticTypes[f.slot]? = some f.type ∧ ¬ A a
theorem vx_L.moved {C n d : String} {A : Nat → Prop} {u U : State} {H : Heap} (hvm : u.vm.Alike U.vm) (h : vx_L C n d A u H) : vx_L C n d A U H := by
  obtain ⟨c, k, i, f, a, cell, h1, h2, h3, h4, h5, h6, h7, h8, h9, h10⟩ := h
  obtain ⟨k', hi', he⟩ := State.fieldFound?_setVm hvm h2
  exact ⟨c, k', i, f, a, cell, by rw [hvm.findClass]; exact h1, hi', h3, by rw [he]; exact h4, h5, h6, h7, h8, by rw [he]; exact h9, h10⟩
theorem vx_L.kept {C n d : String} {A : Nat → Prop} {U : State} {H H1 : Heap} (h : vx_L C n d A U H) (hq : ∀ a : Nat, a < H.size → ¬ A a → H1[a]? = H[a]?) : vx_L C n d A U H1 := by
  obtain ⟨c, k, i, f, a, cell, h1, h2, h3, h4, h5, h6, h7, h8, h9, h10⟩ := h
  exact ⟨c, k, i, f, a, cell, h1, h2, h3, h4, by rw [hq a (Array.getElem?_eq_some_iff.mp h5).1 h10]; exact h5, h6, h7, h8, h9, h10⟩
theorem vx_L.narrow {C n d : String} {A B : Nat → Prop} {U : State} {H : Heap} (h : vx_L C n d A U H) (hAB : ∀ q, B q → A q) : vx_L C n d B U H := by
  obtain ⟨c, k, i, f, a, cell, h1, h2, h3, h4, h5, h6, h7, h8, h9, h10⟩ := h
  exact ⟨c, k, i, f, a, cell, h1, h2, h3, h4, h5, h6, h7, h8, h9, fun z => h10 (hAB _ z)⟩
theorem vx_L.word {C n d : String} {A : Nat → Prop} {s : State} {args : Array Value} (h : vx_L C n d A s s.heap) : (Cond.laysStatic C n d).before args s = true := by
  obtain ⟨c, k, i, f, a, cell, h1, h2, h3, h4, h5, h6, h7, h8, h9, -⟩ := h
  show (Cond.laysStatic C n d).holds args s none s [] = true
  exact Cond.laysStatic_of h1 h2 h3 h4 h5 h6 h7 h8 h9
/-- .. and what it holds: null or some reference -/
def vx_Zq (C n d : String) (A : Nat → Prop) (U : State) (H : Heap) : Prop := va_Zq C n d A U H ∧ vx_L C n d A U H
theorem vx_Zq.moved {C n d : String} {A : Nat → Prop} {u U : State} {H : Heap} (hvm : u.vm.Alike U.vm) (h : vx_Zq C n d A u H) : vx_Zq C n d A U H := ⟨va_Zq.moved hvm h.1, vx_L.moved hvm h.2⟩
theorem vx_Zq.kept {C n d : String} {A : Nat → Prop} {U : State} {H H1 : Heap} (h : vx_Zq C n d A U H) (hq : ∀ a : Nat, a < H.size → ¬ A a → H1[a]? = H[a]?) : vx_Zq C n d A U H1 := ⟨va_Zq.kept h.1 hq, vx_L.kept h.2 hq⟩
theorem vx_Zq.narrow {C n d : String} {A B : Nat → Prop} {U : State} {H : Heap} (h : vx_Zq C n d A U H) (hAB : ∀ q, B q → A q) : vx_Zq C n d B U H := ⟨va_Zq.narrow h.1 hAB, vx_L.narrow h.2 hAB⟩
theorem vx_Zqof {args : Array Value} {s : State} {C n d : String} {A : Nat → Prop} (hl : (Cond.laysStatic C n d).before args s = true) (hini : (Cond.initialized C).before args s = true) (h : (Cond.isRef (.static C n d)).before args s = true) (hA : ∀ a : Nat, a < s.heap.size → ¬ A a) : vx_Zq C n d A s s.heap := by
  refine ⟨va_Zqof hl hini h hA, ?_⟩
  obtain ⟨c, k, i, f, a, cell, h1, h2, h3, h4, h5, h6, h7, h8, h9⟩ := Cond.laysStatic_spec hl
  exact ⟨c, k, i, f, a, cell, h1, h2, h3, h4, h5, h6, h7, h8, h9, hA a (Array.getElem?_eq_some_iff.mp h5).1⟩
theorem vx_isRef {C n d : String} {v : Value} {A : Nat → Prop} {s : State} {args : Array Value} (h : va_Z C n d v A s s.heap) (hv : v.isRef = true) : (Cond.isRef (.static C n d)).before args s = true := by
  obtain ⟨cf, kf, fi, f, a, cell, h1, h2, h3, h4, h5, h6, h7, -⟩ := h
  have he : (Term.static C n d).eval args s none [] s = some v := by
    simp [Term.eval, State.fieldNamed?, h1, h2, h4, h5, h6, h7]
  simp only [Cond.before, Cond.holds, Cond.value, he]
  cases v <;> simp_all [Value.isRef]
theorem vx_isRefq {C n d : String} {A : Nat → Prop} {s : State} {args : Array Value} (h : va_Zq C n d A s s.heap) : (Cond.isRef (.static C n d)).before args s = true := by
  rcases h with h | ⟨t, h⟩
  · exact vx_isRef h rfl
  · exact vx_isRef h rfl
/-- the same frame, seen from here: as if the method were called anew in this heap -/
theorem vx_rebase {T : State} (X : Stand p l e R s m args below meth c T locs cells slots) {R' : Room} (hf : R'.frames ≤ R.frames) (hl : R'.locals ≤ R.locals) (hc : cells + R'.cells ≤ R.cells) (hs : slots + R'.slots ≤ R.slots) :
    Stand p l e R' ((T.setVm s.vm).setFrames (.invoking m args :: below)) m args below meth c T [] 0 0 := by
  have htop : (T.setVm s.vm).topJava?.isSome := X.here.top
  have hF : ((T.setVm s.vm).setFrames (.invoking m args :: below)).frames = .invoking m args :: below := State.frames_setFrames _ (State.cur_lt_of_top htop)
  obtain ⟨g₀, hg0⟩ := Option.isSome_iff_exists.mp htop
  obtain ⟨r, hr⟩ := State.topJava?_eq_some.mp hg0
  have hl9 : e.platform.stackLimits (T.setVm s.vm).me = e.platform.stackLimits s.me := X.limits
  have hb9 : (T.setVm s.vm).me.stackBytes = s.me.stackBytes := X.bytes
  refine ⟨X.admits, X.cas, X.clock, hF, ?_, X.hears, X.method, X.code, X.here, X.tail, X.warmed, ?_, ?_, ?_⟩
  · have h := X.room
    have hU : ((T.setVm s.vm).setFrames (.invoking m args :: below)).localsInUse = s.localsInUse := by
      rw [State.localsInUse_invoking hF (meth := meth) (c := c) X.method X.code, State.localsInUse_invoking X.frames X.method X.code]
    simp only [State.hasRoom, Bool.and_eq_true, decide_eq_true_eq] at h ⊢
    obtain ⟨⟨⟨⟨h1, h2, h3, h4, h5, h6⟩, h7⟩, h8⟩, h9⟩ := h
    rw [X.frames, List.length_cons] at h2 h3
    have q1 := X.heapSize
    have q2 := X.used
    simp only [hF, hU, List.length_cons, State.stackLimits_setFrames, State.stackBytes_setFrames, hl9, hb9]
    refine ⟨⟨⟨⟨by omega, by omega, by omega, by omega, by omega, h6⟩, ?_⟩, ?_⟩, X.book⟩
    · show T.heap.size + R'.cells ≤ e.platform.maxCells
      omega
    · show T.slotsUsed + R'.slots ≤ e.platform.maxSlots
      omega
  · rw [State.stackLimits_setFrames]; rfl
  · rw [State.stackBytes_setFrames]; rfl
  · refine ⟨?_, Nat.le_refl _, Nat.le_refl _, ?_, ?_, fun a c9 h9 => ⟨c9, h9, rfl, rfl, fun _ _ => rfl⟩⟩
    · obtain ⟨t, ht, -⟩ := State.frames_cons hr
      show T.setVm s.vm = { ((T.setVm s.vm).setFrames (.invoking m args :: below)).setFrames (T.setVm s.vm).frames with heap := T.heap, slotsUsed := T.slotsUsed }
      rw [State.setFrames_setFrames, State.setFrames_self ht]
      rfl
    · show T.slotsUsed = T.slotsUsed + ((T.heap.toList.drop T.heap.size).map (·.slots.size)).sum
      rw [List.drop_eq_nil_of_le (Nat.le_of_eq Array.length_toList)]
      rfl
    · show ((T.heap.toList.drop T.heap.size).map (·.slots.size)).sum ≤ 0
      rw [List.drop_eq_nil_of_le (Nat.le_of_eq Array.length_toList)]
      exact Nat.le_refl _
/-- 'throw new E()': new; dup; invokespecial; athrow -/
theorem vx_throw0 {cc : ByteArray} {pc : Nat} (hexec : p.tables.exec = Jvm.exec) (hb : c.code = cc) (hl : l.stackTraces = false) {own cls : String} {names : List String} {ik ic mc ms : Nat} {A : Nat → Prop}
    (hown : s.vm.findClass own = some m.cls) (hcls : Bundle.fit cls = true) (hnames : ∀ n ∈ names, Bundle.fit n = true)
    (hk : (Cond.classLink own ik cls).before args s = true) (hini : (Cond.initialized cls).before args s = true) (hat : ∀ w ∈ vx_at0 own ic cls names, w.before args s = true)
    (hgood : ∀ w ∈ Cond.classLink own ik cls :: Cond.initialized cls :: vx_at0 own ic cls names, vx_ot w = true)
    (hU : vx_Zq Bundle.tN "UNASSIGNED_STACK" Bundle.steD A s s.heap) (hN : vx_Zq Bundle.tN "SUPPRESSED_SENTINEL" Bundle.listD A s s.heap) (hS : va_S A s.heap H locs) (hsize : ls.size = c.maxLocals)
    (d0 : decode cc pc = .ok (.new ik, 3)) (d3 : decode cc (pc + 3) = .ok (.dup, 1)) (d4 : decode cc (pc + 4) = .ok (.invokespecial ic, 3)) (d7 : decode cc (pc + 7) = .ok (.athrow, 1))
    (hout : ∀ x ∈ c.exceptionTable.toList, covers x (pc + 7) = false)
    (hRframes : names.length + 3 < R.frames) (hRlocals : (rest.map fun v => v.category).sum + (13 * (names.length + 1) + 42) ≤ R.locals) (hRcells : cells + 1 ≤ R.cells) (hRslots : slots + 6 ≤ R.slots) (hlocks : meth.locks = false)
    (hx : ∀ t : State, s.vm.Alike t.vm → H.size ≤ t.heap.size → (∀ q : Nat, q < H.size → t.heap[q]? = H[q]?) → XC cls s t)
    (hf : ∀ z ∈ locs, free z.base) (hc : cells + 1 ≤ mc) (hs : slots + 6 ≤ ms) :
    W p l e R s m args below meth c H locs cells slots (vx_MQ below Qc XC args s mc ms free) (F0 m pc ls rest) := by
  intro T hT X
  have htr : e.platform.stackTraces = false := (show e.platform.stackTraces = l.stackTraces by rw [X.admits.platform]).trans hl
  have Y := vx_rebase X (R' := { frames := R.frames, locals := R.locals, cells := 1, slots := 6 }) (Nat.le_refl _) (Nat.le_refl _) hRcells hRslots
  obtain ⟨s', hA⟩ : ∃ z, z = (T.setVm s.vm).setFrames (.invoking m args :: below) := ⟨_, rfl⟩
  rw [← hA] at Y
  have hvm : s'.vm = s.vm := by rw [hA]; rfl
  have hhp : s'.heap = H := by rw [hA]; exact hT
  have hW0 : s.WarmedH s'.vm := by rw [hvm]; exact State.WarmedH.refl s
  have hat' : ∀ w ∈ vx_at0 own ic cls names, w.before args s' = true := fun w hw => vx_ot_at hW0 hvm.symm (hgood w (List.mem_cons_of_mem _ (List.mem_cons_of_mem _ hw))) (hat w hw)
  have hk' : (Cond.classLink own ik cls).before args s' = true := vx_ot_at hW0 hvm.symm (hgood _ List.mem_cons_self) hk
  have hini' : (Cond.initialized cls).before args s' = true := vx_ot_at hW0 hvm.symm (hgood _ (List.mem_cons_of_mem _ List.mem_cons_self)) hini
  have hU' : vx_Zq Bundle.tN "UNASSIGNED_STACK" Bundle.steD A s' s'.heap := by rw [hhp]; exact vx_Zq.moved hW0.alike (hU.kept hS.2.1)
  have hN' : vx_Zq Bundle.tN "SUPPRESSED_SENTINEL" Bundle.listD A s' s'.heap := by rw [hhp]; exact vx_Zq.moved hW0.alike (hN.kept hS.2.1)
  have h : ∀ w ∈ Bundle.ownAtoms0 own ic cls names, w.before args s' = true := vx_own hat' (vx_isRefq hU'.1) (vx_isRefq hN'.1) hU'.2.word hN'.2.word
  have hown' : s'.vm.findClass own = some m.cls := by rw [hvm]; exact hown
  have hins : (Cond.instantiable cls 6).before args s' = true := h _ (by simp [Bundle.ownAtoms0])
  obtain ⟨vm₁, cX, kX, hfX, hkX, -, -, X₁, st1⟩ := Y.newCold hexec (own := own) (C := cls) (index := ik) (n := 6) hown' hk' hins hini'
    (g := F0 m pc ls rest) rfl (by rw [hb]; exact d0) (Nat.le_refl _) (Nat.le_refl _)
  generalize hT1 : (T.setVm vm₁).pushCell { cls := cX, slots := kX.instanceTypes.map defaultValue, vm := .none } = T1 at X₁ st1
  have hcat : (Value.ref T.heap.size).category = 1 := rfl
  have hcellA : T1.heap[T.heap.size]? = some (freshCell cX kX) := by rw [← hT1]; exact State.heap_pushCell_size _ _
  have d3' : decode c.code (pc + 3) = .ok (.dup, 1) := by rw [hb]; exact d3
  obtain ⟨U, hsteps, hrun, hend, hW, hsame, ce, hce, hO⟩ := X₁.ctorThrow0 hexec htr (own := own) (cls := cls) (names := names) (ic := ic) hown' hcls hnames h (fun x hx => nomatch hx) hfX hkX hcellA (by rw [hhp, hT]; exact Nat.le_refl _)
    (g := { method := m, pc := pc + 4, locals := ls, stack := .ref T.heap.size :: .ref T.heap.size :: rest, locked := none }) rfl hsize rfl rfl (rest := rest) rfl
    (by rw [hb]; exact d4) (by rw [hb]; exact d7) hout hRframes (by simp only [List.map_cons, List.sum_cons, hcat]; omega) hlocks
  obtain ⟨f1, f2⟩ := vx_frame hsame
  rw [hhp] at f1 f2
  have hWs : s.WarmedH U.vm := State.WarmedH.trans hW0 hW
  have hcl : s.vm.findClass cls = some ce.cls := by
    have h9 := hO.cls
    rw [hvm] at h9
    exact h9
  have hall : s.sameButNew ({ U with vm := s.vm } : State) locs mc ms := by
    subst hA
    obtain ⟨e1, e2⟩ := hsame
    rw [State.setFrames_setFrames] at e1
    have h2 : (T.setVm s.vm).sameButNew ({ U with vm := s.vm } : State) [] (0 + 1) (0 + 6) := ⟨e1, e2⟩
    have h3 := X.same.trans h2
    rw [List.append_nil] at h3
    exact h3.mono hc hs
  refine ⟨U, ?_, .threw T.heap.size, hrun, hend, Or.inr ⟨T.heap.size, rfl, cls, ce, locs, hx U hWs.alike f1 (fun q hq => f2 q hq (fun z hz => nomatch hz)), hce, hO.vm, hcl, hWs, hall, hf⟩⟩
  refine st1 _ ?_
  show Steps p.tables e below (T1.setTop { method := m, pc := pc + 3, locals := ls, stack := .ref T.heap.size :: rest, locked := none }) _
  jvm_step X₁.here [X₁.here.top, hexec, d3', Value.category]
  exact hsteps
/-- 'throw new E("text")': new; dup; ldc; invokespecial; athrow -/
theorem vx_throwS {cc : ByteArray} {pc : Nat} (hexec : p.tables.exec = Jvm.exec) (hb : c.code = cc) (hl : l.stackTraces = false) {own cls text : String} {names : List String} {ik is ic mc ms sa : Nat} {A : Nat → Prop}
    (hown : s.vm.findClass own = some m.cls) (hcls : Bundle.fit cls = true) (hnames : ∀ n ∈ names, Bundle.fit n = true)
    (hk : (Cond.classLink own ik cls).before args s = true) (hini : (Cond.initialized cls).before args s = true) (hstr : vk_R own is text sa s) (hat : ∀ w ∈ vx_atS own ic cls names, w.before args s = true)
    (hgood : ∀ w ∈ Cond.classLink own ik cls :: Cond.initialized cls :: vx_atS own ic cls names, vx_ot w = true)
    (hU : vx_Zq Bundle.tN "UNASSIGNED_STACK" Bundle.steD A s s.heap) (hN : vx_Zq Bundle.tN "SUPPRESSED_SENTINEL" Bundle.listD A s s.heap) (hS : va_S A s.heap H locs) (hsize : ls.size = c.maxLocals)
    (d0 : decode cc pc = .ok (.new ik, 3)) (d3 : decode cc (pc + 3) = .ok (.dup, 1)) (d4 : decode cc (pc + 4) = .ok (.ldc is, 2)) (d6 : decode cc (pc + 6) = .ok (.invokespecial ic, 3)) (d9 : decode cc (pc + 9) = .ok (.athrow, 1))
    (hout : ∀ x ∈ c.exceptionTable.toList, covers x (pc + 9) = false)
    (hRframes : names.length + 3 < R.frames) (hRlocals : (rest.map fun v => v.category).sum + (13 * (names.length + 1) + 43) ≤ R.locals) (hRcells : cells + 1 ≤ R.cells) (hRslots : slots + 6 ≤ R.slots) (hlocks : meth.locks = false)
    (hx : ∀ t : State, s.vm.Alike t.vm → H.size ≤ t.heap.size → (∀ q : Nat, q < H.size → t.heap[q]? = H[q]?) → XC cls s t)
    (hf : ∀ z ∈ locs, free z.base) (hc : cells + 1 ≤ mc) (hs : slots + 6 ≤ ms) :
    W p l e R s m args below meth c H locs cells slots (vx_MQ below Qc XC args s mc ms free) (F0 m pc ls rest) := by
  intro T hT X
  have htr : e.platform.stackTraces = false := (show e.platform.stackTraces = l.stackTraces by rw [X.admits.platform]).trans hl
  have Y := vx_rebase X (R' := { frames := R.frames, locals := R.locals, cells := 1, slots := 6 }) (Nat.le_refl _) (Nat.le_refl _) hRcells hRslots
  obtain ⟨s', hA⟩ : ∃ z, z = (T.setVm s.vm).setFrames (.invoking m args :: below) := ⟨_, rfl⟩
  rw [← hA] at Y
  have hvm : s'.vm = s.vm := by rw [hA]; rfl
  have hhp : s'.heap = H := by rw [hA]; exact hT
  have hW0 : s.WarmedH s'.vm := by rw [hvm]; exact State.WarmedH.refl s
  have hat' : ∀ w ∈ vx_atS own ic cls names, w.before args s' = true := fun w hw => vx_ot_at hW0 hvm.symm (hgood w (List.mem_cons_of_mem _ (List.mem_cons_of_mem _ hw))) (hat w hw)
  have hk' : (Cond.classLink own ik cls).before args s' = true := vx_ot_at hW0 hvm.symm (hgood _ List.mem_cons_self) hk
  have hini' : (Cond.initialized cls).before args s' = true := vx_ot_at hW0 hvm.symm (hgood _ (List.mem_cons_of_mem _ List.mem_cons_self)) hini
  have hU' : vx_Zq Bundle.tN "UNASSIGNED_STACK" Bundle.steD A s' s'.heap := by rw [hhp]; exact vx_Zq.moved hW0.alike (hU.kept hS.2.1)
  have hN' : vx_Zq Bundle.tN "SUPPRESSED_SENTINEL" Bundle.listD A s' s'.heap := by rw [hhp]; exact vx_Zq.moved hW0.alike (hN.kept hS.2.1)
  have h : ∀ w ∈ Bundle.ownAtoms own ic cls names, w.before args s' = true := vx_own hat' (vx_isRefq hU'.1) (vx_isRefq hN'.1) hU'.2.word hN'.2.word
  have hown' : s'.vm.findClass own = some m.cls := by rw [hvm]; exact hown
  have hins : (Cond.instantiable cls 6).before args s' = true := h _ (by simp [Bundle.ownAtoms])
  obtain ⟨vm₁, cX, kX, hfX, hkX, -, -, X₁, st1⟩ := Y.newCold hexec (own := own) (C := cls) (index := ik) (n := 6) hown' hk' hins hini'
    (g := F0 m pc ls rest) rfl (by rw [hb]; exact d0) (Nat.le_refl _) (Nat.le_refl _)
  generalize hT1 : (T.setVm vm₁).pushCell { cls := cX, slots := kX.instanceTypes.map defaultValue, vm := .none } = T1 at X₁ st1
  have hcat : (Value.ref T.heap.size).category = 1 := rfl
  have hcellA : T1.heap[T.heap.size]? = some (freshCell cX kX) := by rw [← hT1]; exact State.heap_pushCell_size _ _
  have d3' : decode c.code (pc + 3) = .ok (.dup, 1) := by rw [hb]; exact d3
  have d4' : decode c.code (pc + 4) = .ok (.ldc is, 2) := by rw [hb]; exact d4
  have hstr' : vk_R own is text sa s' := vk_R.warm hW0 hstr
  obtain ⟨U, hsteps, hrun, hend, hW, hsame, ce, hce, hO⟩ := X₁.ctorThrowS hexec htr (own := own) (cls := cls) (names := names) (ic := ic) hown' hcls hnames h (fun x hx => nomatch hx) hfX hkX hcellA (by rw [hhp, hT]; exact Nat.le_refl _) (msg := .ref sa) rfl
    (g := { method := m, pc := pc + 6, locals := ls, stack := .ref sa :: .ref T.heap.size :: .ref T.heap.size :: rest, locked := none }) rfl hsize rfl rfl (rest := rest) rfl
    (by rw [hb]; exact d6) (by rw [hb]; exact d9) hout hRframes (by simp only [List.map_cons, List.sum_cons, hcat]; omega) hlocks
  obtain ⟨f1, f2⟩ := vx_frame hsame
  rw [hhp] at f1 f2
  have hWs : s.WarmedH U.vm := State.WarmedH.trans hW0 hW
  have hcl : s.vm.findClass cls = some ce.cls := by
    have h9 := hO.cls
    rw [hvm] at h9
    exact h9
  have hall : s.sameButNew ({ U with vm := s.vm } : State) locs mc ms := by
    subst hA
    obtain ⟨e1, e2⟩ := hsame
    rw [State.setFrames_setFrames] at e1
    have h2 : (T.setVm s.vm).sameButNew ({ U with vm := s.vm } : State) [] (0 + 1) (0 + 6) := ⟨e1, e2⟩
    have h3 := X.same.trans h2
    rw [List.append_nil] at h3
    exact h3.mono hc hs
  refine ⟨U, ?_, .threw T.heap.size, hrun, hend, Or.inr ⟨T.heap.size, rfl, cls, ce, locs, hx U hWs.alike f1 (fun q hq => f2 q hq (fun z hz => nomatch hz)), hce, hO.vm, hcl, hWs, hall, hf⟩⟩
  refine st1 _ ?_
  show Steps p.tables e below (T1.setTop { method := m, pc := pc + 3, locals := ls, stack := .ref T.heap.size :: rest, locked := none }) _
  jvm_step X₁.here [X₁.here.top, hexec, d3', Value.category]
  exact X₁.ldcString hexec (own := own) (text := text) (index := is) (a := sa) hown' hstr'.1 hstr'.2
    (g := { method := m, pc := pc + 4, locals := ls, stack := .ref T.heap.size :: .ref T.heap.size :: rest, locked := none }) rfl d4' _ hsteps
/-- 'throw new E("text")', the text by a wide index -/
theorem vx_throwSW {cc : ByteArray} {pc : Nat} (hexec : p.tables.exec = Jvm.exec) (hb : c.code = cc) (hl : l.stackTraces = false) {own cls text : String} {names : List String} {ik is ic mc ms sa : Nat} {A : Nat → Prop}
    (hown : s.vm.findClass own = some m.cls) (hcls : Bundle.fit cls = true) (hnames : ∀ n ∈ names, Bundle.fit n = true)
    (hk : (Cond.classLink own ik cls).before args s = true) (hini : (Cond.initialized cls).before args s = true) (hstr : vk_R own is text sa s) (hat : ∀ w ∈ vx_atS own ic cls names, w.before args s = true)
    (hgood : ∀ w ∈ Cond.classLink own ik cls :: Cond.initialized cls :: vx_atS own ic cls names, vx_ot w = true)
    (hU : vx_Zq Bundle.tN "UNASSIGNED_STACK" Bundle.steD A s s.heap) (hN : vx_Zq Bundle.tN "SUPPRESSED_SENTINEL" Bundle.listD A s s.heap) (hS : va_S A s.heap H locs) (hsize : ls.size = c.maxLocals)
    (d0 : decode cc pc = .ok (.new ik, 3)) (d3 : decode cc (pc + 3) = .ok (.dup, 1)) (d4 : decode cc (pc + 4) = .ok (.ldc_w is, 3)) (d7 : decode cc (pc + 7) = .ok (.invokespecial ic, 3)) (d10 : decode cc (pc + 10) = .ok (.athrow, 1))
    (hout : ∀ x ∈ c.exceptionTable.toList, covers x (pc + 10) = false)
    (hRframes : names.length + 3 < R.frames) (hRlocals : (rest.map fun v => v.category).sum + (13 * (names.length + 1) + 43) ≤ R.locals) (hRcells : cells + 1 ≤ R.cells) (hRslots : slots + 6 ≤ R.slots) (hlocks : meth.locks = false)
    (hx : ∀ t : State, s.vm.Alike t.vm → H.size ≤ t.heap.size → (∀ q : Nat, q < H.size → t.heap[q]? = H[q]?) → XC cls s t)
    (hf : ∀ z ∈ locs, free z.base) (hc : cells + 1 ≤ mc) (hs : slots + 6 ≤ ms) :
    W p l e R s m args below meth c H locs cells slots (vx_MQ below Qc XC args s mc ms free) (F0 m pc ls rest) := by
  intro T hT X
  have htr : e.platform.stackTraces = false := (show e.platform.stackTraces = l.stackTraces by rw [X.admits.platform]).trans hl
  have Y := vx_rebase X (R' := { frames := R.frames, locals := R.locals, cells := 1, slots := 6 }) (Nat.le_refl _) (Nat.le_refl _) hRcells hRslots
  obtain ⟨s', hA⟩ : ∃ z, z = (T.setVm s.vm).setFrames (.invoking m args :: below) := ⟨_, rfl⟩
  rw [← hA] at Y
  have hvm : s'.vm = s.vm := by rw [hA]; rfl
  have hhp : s'.heap = H := by rw [hA]; exact hT
  have hW0 : s.WarmedH s'.vm := by rw [hvm]; exact State.WarmedH.refl s
  have hat' : ∀ w ∈ vx_atS own ic cls names, w.before args s' = true := fun w hw => vx_ot_at hW0 hvm.symm (hgood w (List.mem_cons_of_mem _ (List.mem_cons_of_mem _ hw))) (hat w hw)
  have hk' : (Cond.classLink own ik cls).before args s' = true := vx_ot_at hW0 hvm.symm (hgood _ List.mem_cons_self) hk
  have hini' : (Cond.initialized cls).before args s' = true := vx_ot_at hW0 hvm.symm (hgood _ (List.mem_cons_of_mem _ List.mem_cons_self)) hini
  have hU' : vx_Zq Bundle.tN "UNASSIGNED_STACK" Bundle.steD A s' s'.heap := by rw [hhp]; exact vx_Zq.moved hW0.alike (hU.kept hS.2.1)
  have hN' : vx_Zq Bundle.tN "SUPPRESSED_SENTINEL" Bundle.listD A s' s'.heap := by rw [hhp]; exact vx_Zq.moved hW0.alike (hN.kept hS.2.1)
  have h : ∀ w ∈ Bundle.ownAtoms own ic cls names, w.before args s' = true := vx_own hat' (vx_isRefq hU'.1) (vx_isRefq hN'.1) hU'.2.word hN'.2.word
  have hown' : s'.vm.findClass own = some m.cls := by rw [hvm]; exact hown
  have hins : (Cond.instantiable cls 6).before args s' = true := h _ (by simp [Bundle.ownAtoms])
  obtain ⟨vm₁, cX, kX, hfX, hkX, -, -, X₁, st1⟩ := Y.newCold hexec (own := own) (C := cls) (index := ik) (n := 6) hown' hk' hins hini'
    (g := F0 m pc ls rest) rfl (by rw [hb]; exact d0) (Nat.le_refl _) (Nat.le_refl _)
  generalize hT1 : (T.setVm vm₁).pushCell { cls := cX, slots := kX.instanceTypes.map defaultValue, vm := .none } = T1 at X₁ st1
  have hcat : (Value.ref T.heap.size).category = 1 := rfl
  have hcellA : T1.heap[T.heap.size]? = some (freshCell cX kX) := by rw [← hT1]; exact State.heap_pushCell_size _ _
  have d3' : decode c.code (pc + 3) = .ok (.dup, 1) := by rw [hb]; exact d3
  have d4' : decode c.code (pc + 4) = .ok (.ldc_w is, 3) := by rw [hb]; exact d4
  have hstr' : vk_R own is text sa s' := vk_R.warm hW0 hstr
  obtain ⟨U, hsteps, hrun, hend, hW, hsame, ce, hce, hO⟩ := X₁.ctorThrowS hexec htr (own := own) (cls := cls) (names := names) (ic := ic) hown' hcls hnames h (fun x hx => nomatch hx) hfX hkX hcellA (by rw [hhp, hT]; exact Nat.le_refl _) (msg := .ref sa) rfl
    (g := { method := m, pc := pc + 7, locals := ls, stack := .ref sa :: .ref T.heap.size :: .ref T.heap.size :: rest, locked := none }) rfl hsize rfl rfl (rest := rest) rfl
    (by rw [hb]; exact d7) (by rw [hb]; exact d10) hout hRframes (by simp only [List.map_cons, List.sum_cons, hcat]; omega) hlocks
  obtain ⟨f1, f2⟩ := vx_frame hsame
  rw [hhp] at f1 f2
  have hWs : s.WarmedH U.vm := State.WarmedH.trans hW0 hW
  have hcl : s.vm.findClass cls = some ce.cls := by
    have h9 := hO.cls
    rw [hvm] at h9
    exact h9
  have hall : s.sameButNew ({ U with vm := s.vm } : State) locs mc ms := by
    subst hA
    obtain ⟨e1, e2⟩ := hsame
    rw [State.setFrames_setFrames] at e1
    have h2 : (T.setVm s.vm).sameButNew ({ U with vm := s.vm } : State) [] (0 + 1) (0 + 6) := ⟨e1, e2⟩
    have h3 := X.same.trans h2
    rw [List.append_nil] at h3
    exact h3.mono hc hs
  refine ⟨U, ?_, .threw T.heap.size, hrun, hend, Or.inr ⟨T.heap.size, rfl, cls, ce, locs, hx U hWs.alike f1 (fun q hq => f2 q hq (fun z hz => nomatch hz)), hce, hO.vm, hcl, hWs, hall, hf⟩⟩
  refine st1 _ ?_
  show Steps p.tables e below (T1.setTop { method := m, pc := pc + 3, locals := ls, stack := .ref T.heap.size :: rest, locked := none }) _
  jvm_step X₁.here [X₁.here.top, hexec, d3', Value.category]
  exact X₁.ldcStringW hexec (own := own) (text := text) (index := is) (a := sa) hown' hstr'.1 hstr'.2
    (g := { method := m, pc := pc + 4, locals := ls, stack := .ref T.heap.size :: .ref T.heap.size :: rest, locked := none }) rfl d4' _ hsteps
end Ends
section Bodies
variable {l : Launch}
theorem vx_ofW {y : MethodName} {ws ws' : List Cond} {rm : Room} {Pc : Array Value → State → Prop} {Qc : Array Value → State → Outcome → State → Prop} {XC : String → State → State → Prop} {mc ms : Nat} {free : Addr → Prop} {cc : ByteArray} {maxL : Nat} {ret : Option FieldType}
    (hy : plainName y.cls = true) (hw : ws = Cond.code y cc maxL ret :: ws')
    (body : ∀ p e s m args below meth c s₁, BodyLoose p l y (headSpec ws rm) cc maxL ret e s m args below meth c s₁ → c.maxLocals = maxL → (∀ x ∈ c.exceptionTable.toList, False) → Pc args s →
      W p l e (headSpec ws rm).room s m args below meth c s.heap [] 0 0 (vx_MQ below Qc XC args s mc ms free) (entryFrame m args maxL)) : vx_Met l y ws rm Pc Qc XC mc ms free := by
  refine MetFree.of_bodyS (code := cc) (maxLocals := maxL) (ret := ret) hy ?_ ?_
  · intro args s m h hn
    obtain ⟨meth, c, h1, h2, h3, h4, h5, h6, -, -⟩ := Cond.code_spec hn (atoms_spec (ws := ws) h _ (by rw [hw]; exact List.mem_cons_self))
    exact ⟨meth, c, h1, h2, h3, h4, h5, h6⟩
  · intro p e s m args below meth c s₁ B hml hP _
    have hh0 : s₁.heap = s.heap := by rw [B.state]; rfl
    have ht : ∀ x ∈ c.exceptionTable.toList, False := by
      obtain ⟨meth9, c9, h1, h2, -, -, -, -, h7, -⟩ := Cond.code_spec B.named (atoms_spec (ws := ws) B.pre _ (by rw [hw]; exact List.mem_cons_self))
      cases Option.some.inj (h1.symm.trans B.method)
      cases Option.some.inj (h2.symm.trans (Stand.of_body B).code)
      intro x hx
      rw [Array.isEmpty_iff.mp h7] at hx
      cases hx
    obtain ⟨t, a1, o, b1, b2, b3⟩ := body p e s m args below meth c s₁ B hml ht hP s₁ hh0 (Stand.of_body B)
    exact ⟨t, o, a1, b1, b2, b3⟩
/-- the table of a body with handlers -/
theorem vx_table {p : Program} {x y : MethodName} {S : Spec} {cc bytes : ByteArray} {maxL maxL' : Nat} {ret ret' : Option FieldType} {e : Env} {s s₁ : State} {m : MethodId} {args : Array Value} {below : List Frame} {meth : Method} {c : Code} {hh : List (Nat × Nat × Nat × Nat)}
    (B : BodyLoose p l y S cc maxL ret e s m args below meth c s₁) (h : (Cond.codeWith y bytes maxL' ret' hh).before args s = true) : c.exceptionTable.toList = tableOf hh := by
  obtain ⟨m9, meth9, c9, hn9, h1, h2, -, -, h6, -⟩ := Cond.codeWith_spec h
  cases Option.some.inj (hn9.symm.trans B.named)
  cases Option.some.inj (h1.symm.trans B.method)
  cases Option.some.inj (h2.symm.trans (Stand.of_body B).code)
  rw [← h6, table_eq]
end Bodies
end VXA
/-! ===== END ===== -/
end
section
abbrev mm_elem : String := "SystemParts$Part"
def T_SP : u_T := fun k => match k with
  | 0 => ("SystemParts", "parts", "[LSystemParts$Part;", true)
  | 1 => ("SystemParts", "lines", "LSystemParts$Lines;", true)
  | 2 => ("SystemParts", "tally", "[I", true)
  | 3 => ("SystemParts", "partCount", "I", false)
  | 4 => ("SystemParts", "time", "I", false)
  | _ => ("SystemParts", "cause", "I", false)
def tt_SP : Nat → FieldType := fun k => match k with
  | 0 => (.array (.object "SystemParts$Part"))
  | 1 => .object "SystemParts$Lines"
  | 2 => (.array .int)
  | 3 => .int
  | 4 => .int
  | _ => .int
def T_Lines : u_T := fun k => match k with
  | 0 => ("SystemParts$Lines", "ways", "[I", true)
  | 1 => ("SystemParts$Lines", "ranks", "[I", true)
  | 2 => ("SystemParts$Lines", "hidden", "I", false)
  | 3 => ("SystemParts$Lines", "up", "I", false)
  | _ => ("SystemParts$Lines", "kept", "I", false)
def tt_Lines : Nat → FieldType := fun k => match k with
  | 0 => (.array .int)
  | 1 => (.array .int)
  | 2 => .int
  | 3 => .int
  | _ => .int
def T_Seat : u_T := fun k => match k with
  | 0 => ("SystemParts$Seat", "from", "I", true)
  | 1 => ("SystemParts$Seat", "length", "I", true)
  | 2 => ("SystemParts$Seat", "line", "I", true)
  | _ => ("SystemParts$Seat", "waits", "I", true)
def tt_Seat : Nat → FieldType := fun k => match k with
  | 0 => .int
  | 1 => .int
  | 2 => .int
  | _ => .int
def T_Cells : u_T := fun k => match k with
  | 0 => ("SystemParts$Cells", "cells", "[I", true)
  | 1 => ("SystemParts$Cells", "fixed", "Z", true)
  | _ => ("SystemParts$Part", "seat", "LSystemParts$Seat;", true)
def tt_Cells : Nat → FieldType := fun k => match k with
  | 0 => (.array .int)
  | 1 => .boolean
  | _ => .object "SystemParts$Seat"
def T_Timer : u_T := fun k => match k with
  | 0 => ("SystemParts$Timer", "reached", "I", false)
  | 1 => ("SystemParts$Timer", "limit", "I", false)
  | 2 => ("SystemParts$Timer", "mode", "I", false)
  | 3 => ("SystemParts$Timer", "fired", "I", false)
  | _ => ("SystemParts$Part", "seat", "LSystemParts$Seat;", true)
def tt_Timer : Nat → FieldType := fun k => match k with
  | 0 => .int
  | 1 => .int
  | 2 => .int
  | 3 => .int
  | _ => .object "SystemParts$Seat"
def T_Serial : u_T := fun k => match k with
  | 0 => ("SystemParts$Serial", "come", "[I", true)
  | 1 => ("SystemParts$Serial", "firstCome", "I", false)
  | 2 => ("SystemParts$Serial", "waiting", "I", false)
  | 3 => ("SystemParts$Serial", "out", "[I", true)
  | 4 => ("SystemParts$Serial", "gone", "I", false)
  | 5 => ("SystemParts$Serial", "sending", "I", false)
  | 6 => ("SystemParts$Serial", "stepsLeft", "I", false)
  | 7 => ("SystemParts$Serial", "mode", "I", false)
  | _ => ("SystemParts$Part", "seat", "LSystemParts$Seat;", true)
def tt_Serial : Nat → FieldType := fun k => match k with
  | 0 => (.array .int)
  | 1 => .int
  | 2 => .int
  | 3 => (.array .int)
  | 4 => .int
  | 5 => .int
  | 6 => .int
  | 7 => .int
  | _ => .object "SystemParts$Seat"
def T_Rows : u_T := fun k => match k with
  | 0 => ("SystemParts$Rows", "rows", "[I", true)
  | 1 => ("SystemParts$Rows", "window", "[I", true)
  | 2 => ("SystemParts$Rows", "row", "I", false)
  | 3 => ("SystemParts$Rows", "work", "I", false)
  | 4 => ("SystemParts$Rows", "workRow", "I", false)
  | 5 => ("SystemParts$Rows", "stepsLeft", "I", false)
  | 6 => ("SystemParts$Rows", "done", "I", false)
  | _ => ("SystemParts$Part", "seat", "LSystemParts$Seat;", true)
def tt_Rows : Nat → FieldType := fun k => match k with
  | 0 => (.array .int)
  | 1 => (.array .int)
  | 2 => .int
  | 3 => .int
  | 4 => .int
  | 5 => .int
  | 6 => .int
  | _ => .object "SystemParts$Seat"
def T_Counts : u_T := fun k => match k with
  | 0 => ("SystemParts$Counts", "tallies", "[I", true)
  | _ => ("SystemParts$Part", "seat", "LSystemParts$Seat;", true)
def tt_Counts : Nat → FieldType := fun k => match k with
  | 0 => (.array .int)
  | _ => .object "SystemParts$Seat"
def T_Model : u_T := fun k => match k with
  | 0 => ("SystemPartsModel", "thrown", "I", false)
  | 1 => ("SystemPartsModel", "time", "I", false)
  | 2 => ("SystemPartsModel", "parts", "I", false)
  | 3 => ("SystemPartsModel", "cause", "I", false)
  | 4 => ("SystemPartsModel", "kind", "[I", true)
  | 5 => ("SystemPartsModel", "from", "[I", true)
  | 6 => ("SystemPartsModel", "size", "[I", true)
  | 7 => ("SystemPartsModel", "lineOf", "[I", true)
  | 8 => ("SystemPartsModel", "waits", "[I", true)
  | 9 => ("SystemPartsModel", "reg", "[I", true)
  | 10 => ("SystemPartsModel", "left", "[I", true)
  | 11 => ("SystemPartsModel", "what", "[I", true)
  | 12 => ("SystemPartsModel", "came", "[I", true)
  | 13 => ("SystemPartsModel", "in", "[I", true)
  | 14 => ("SystemPartsModel", "went", "[I", true)
  | 15 => ("SystemPartsModel", "gone", "[I", true)
  | 16 => ("SystemPartsModel", "rows", "[I", true)
  | 17 => ("SystemPartsModel", "way", "[I", true)
  | 18 => ("SystemPartsModel", "rank", "[I", true)
  | 19 => ("SystemPartsModel", "hidden", "[Z", true)
  | 20 => ("SystemPartsModel", "up", "[Z", true)
  | 21 => ("SystemPartsModel", "noted", "[Z", true)
  | 22 => ("SystemPartsModel", "reads", "I", false)
  | 23 => ("SystemPartsModel", "writes", "I", false)
  | _ => ("SystemPartsModel", "faults", "I", false)
def tt_Model : Nat → FieldType := fun k => match k with
  | 0 => .int
  | 1 => .int
  | 2 => .int
  | 3 => .int
  | 4 => (.array .int)
  | 5 => (.array .int)
  | 6 => (.array .int)
  | 7 => (.array .int)
  | 8 => (.array .int)
  | 9 => (.array .int)
  | 10 => (.array .int)
  | 11 => (.array .int)
  | 12 => (.array .int)
  | 13 => (.array .int)
  | 14 => (.array .int)
  | 15 => (.array .int)
  | 16 => (.array .int)
  | 17 => (.array .int)
  | 18 => (.array .int)
  | 19 => (.array .boolean)
  | 20 => (.array .boolean)
  | 21 => (.array .boolean)
  | 22 => .int
  | 23 => .int
  | _ => .int
abbrev vwCl : List vw_C := [("SystemParts", T_SP, 6), ("SystemParts$Lines", T_Lines, 5), ("SystemParts$Seat", T_Seat, 4), ("SystemParts$Cells", T_Cells, 3), ("SystemParts$Timer", T_Timer, 5), ("SystemParts$Serial", T_Serial, 9), ("SystemParts$Rows", T_Rows, 8), ("SystemParts$Counts", T_Counts, 2), ("SystemPartsModel", T_Model, 25)]
end
section
set_option maxRecDepth 100000 in
theorem m_0 : Cond.initialized "SystemPartsLaw" ∈ lw_tbl := List.mem_of_getElem? (i := 37) (by decide +kernel)
set_option maxRecDepth 100000 in
theorem m_1 : Cond.initialized "SystemParts" ∈ lw_tbl := List.mem_of_getElem? (i := 38) (by decide +kernel)
set_option maxRecDepth 100000 in
theorem m_2 : Cond.initialized "SystemParts$Lines" ∈ lw_tbl := List.mem_of_getElem? (i := 39) (by decide +kernel)
set_option maxRecDepth 100000 in
theorem m_3 : Cond.initialized "SystemPartsModel" ∈ lw_tbl := List.mem_of_getElem? (i := 40) (by decide +kernel)
set_option maxRecDepth 100000 in
theorem m_4 : Cond.initialized "java/lang/Throwable" ∈ lw_tbl := List.mem_of_getElem? (i := 41) (by decide +kernel)
set_option maxRecDepth 100000 in
theorem m_5 : Cond.initialized "java/lang/Exception" ∈ lw_tbl := List.mem_of_getElem? (i := 42) (by decide +kernel)
set_option maxRecDepth 100000 in
theorem m_6 : Cond.initialized "java/lang/RuntimeException" ∈ lw_tbl := List.mem_of_getElem? (i := 43) (by decide +kernel)
set_option maxRecDepth 100000 in
theorem m_7 : Cond.initialized "java/lang/IllegalArgumentException" ∈ lw_tbl := List.mem_of_getElem? (i := 44) (by decide +kernel)
set_option maxRecDepth 100000 in
theorem m_8 : Cond.initialized "java/lang/UnsupportedOperationException" ∈ lw_tbl := List.mem_of_getElem? (i := 45) (by decide +kernel)
set_option maxRecDepth 100000 in
theorem m_9 : Cond.initialized "SystemParts$Seat" ∈ lw_tbl := List.mem_of_getElem? (i := 46) (by decide +kernel)
set_option maxRecDepth 100000 in
theorem m_10 : Cond.initialized "SystemParts$Part" ∈ lw_tbl := List.mem_of_getElem? (i := 47) (by decide +kernel)
set_option maxRecDepth 100000 in
theorem m_11 : Cond.initialized "SystemParts$Cells" ∈ lw_tbl := List.mem_of_getElem? (i := 48) (by decide +kernel)
set_option maxRecDepth 100000 in
theorem m_12 : Cond.initialized "SystemParts$Timer" ∈ lw_tbl := List.mem_of_getElem? (i := 49) (by decide +kernel)
set_option maxRecDepth 100000 in
theorem m_13 : Cond.initialized "SystemParts$Serial" ∈ lw_tbl := List.mem_of_getElem? (i := 50) (by decide +kernel)
set_option maxRecDepth 100000 in
theorem m_14 : Cond.initialized "SystemParts$Rows" ∈ lw_tbl := List.mem_of_getElem? (i := 51) (by decide +kernel)
set_option maxRecDepth 100000 in
theorem m_15 : Cond.initialized "SystemParts$Counts" ∈ lw_tbl := List.mem_of_getElem? (i := 52) (by decide +kernel)
set_option maxRecDepth 100000 in
theorem m_16 : Cond.initialized "java/lang/IndexOutOfBoundsException" ∈ lw_tbl := List.mem_of_getElem? (i := 53) (by decide +kernel)
set_option maxRecDepth 100000 in
theorem m_17 : Cond.initialized "java/lang/IllegalStateException" ∈ lw_tbl := List.mem_of_getElem? (i := 54) (by decide +kernel)
set_option maxRecDepth 100000 in
theorem m_18 : Cond.initialized "java/lang/Math" ∈ lw_tbl := List.mem_of_getElem? (i := 55) (by decide +kernel)
set_option maxRecDepth 100000 in
theorem m_19 : Cond.classLink "SystemPartsLaw" 8 "SystemParts" ∈ lw_tbl := List.mem_of_getElem? (i := 56) (by decide +kernel)
set_option maxRecDepth 100000 in
theorem m_20 : Cond.instantiable "SystemParts" 6 ∈ lw_tbl := List.mem_of_getElem? (i := 57) (by decide +kernel)
set_option maxRecDepth 100000 in
theorem m_21 : Cond.methodLink "SystemPartsLaw" 49 ⟨"SystemParts", "<init>", "()V"⟩ ∈ lw_tbl := List.mem_of_getElem? (i := 58) (by decide +kernel)
set_option maxRecDepth 100000 in
theorem m_22 : Cond.instanceMethod ⟨"SystemParts", "<init>", "()V"⟩ ∈ lw_tbl := List.mem_of_getElem? (i := 59) (by decide +kernel)
set_option maxRecDepth 100000 in
theorem m_23 : Cond.code ⟨"SystemParts", "<init>", "()V"⟩ prog_1_method_1_code 1 none ∈ lw_tbl := List.mem_of_getElem? (i := 60) (by decide +kernel)
set_option maxRecDepth 100000 in
theorem m_24 : Cond.methodLink "SystemParts" 1 ⟨"java/lang/Object", "<init>", "()V"⟩ ∈ lw_tbl := List.mem_of_getElem? (i := 61) (by decide +kernel)
set_option maxRecDepth 100000 in
theorem m_25 : Cond.instanceMethod ⟨"java/lang/Object", "<init>", "()V"⟩ ∈ lw_tbl := List.mem_of_getElem? (i := 62) (by decide +kernel)
set_option maxRecDepth 100000 in
theorem m_26 : Cond.code ⟨"java/lang/Object", "<init>", "()V"⟩ object_method_1_code 1 none ∈ lw_tbl := List.mem_of_getElem? (i := 63) (by decide +kernel)
set_option maxRecDepth 100000 in
theorem m_27 : Cond.classLink "SystemParts" 9 "SystemParts$Part" ∈ lw_tbl := List.mem_of_getElem? (i := 64) (by decide +kernel)
set_option maxRecDepth 100000 in
theorem m_28 : Cond.arrayOver (FieldType.object "SystemParts$Part") ∈ lw_tbl := List.mem_of_getElem? (i := 65) (by decide +kernel)
set_option maxRecDepth 100000 in
theorem m_29 : Cond.classLink "SystemParts" 15 "SystemParts$Lines" ∈ lw_tbl := List.mem_of_getElem? (i := 66) (by decide +kernel)
set_option maxRecDepth 100000 in
theorem m_30 : Cond.instantiable "SystemParts$Lines" 5 ∈ lw_tbl := List.mem_of_getElem? (i := 67) (by decide +kernel)
set_option maxRecDepth 100000 in
theorem m_31 : Cond.methodLinkNest "SystemParts" 17 ⟨"SystemParts$Lines", "<init>", "()V"⟩ "SystemParts" ∈ lw_tbl := List.mem_of_getElem? (i := 68) (by decide +kernel)
set_option maxRecDepth 100000 in
theorem m_32 : Cond.instanceMethod ⟨"SystemParts$Lines", "<init>", "()V"⟩ ∈ lw_tbl := List.mem_of_getElem? (i := 69) (by decide +kernel)
set_option maxRecDepth 100000 in
theorem m_33 : Cond.code ⟨"SystemParts$Lines", "<init>", "()V"⟩ prog_4_method_1_code 1 none ∈ lw_tbl := List.mem_of_getElem? (i := 70) (by decide +kernel)
set_option maxRecDepth 100000 in
theorem m_34 : Cond.methodLink "SystemParts$Lines" 3 ⟨"java/lang/Object", "<init>", "()V"⟩ ∈ lw_tbl := List.mem_of_getElem? (i := 71) (by decide +kernel)
set_option maxRecDepth 100000 in
theorem m_35 : Cond.fieldLink "SystemParts$Lines" 11 "SystemParts$Lines" "ways" "[I" ∈ lw_tbl := List.mem_of_getElem? (i := 72) (by decide +kernel)
set_option maxRecDepth 100000 in
theorem m_36 : Cond.fieldLink "SystemParts$Lines" 15 "SystemParts$Lines" "ranks" "[I" ∈ lw_tbl := List.mem_of_getElem? (i := 73) (by decide +kernel)
set_option maxRecDepth 100000 in
theorem m_37 : Cond.fieldLink "SystemParts$Lines" 18 "SystemParts$Lines" "hidden" "I" ∈ lw_tbl := List.mem_of_getElem? (i := 74) (by decide +kernel)
set_option maxRecDepth 100000 in
theorem m_38 : Cond.fieldLink "SystemParts$Lines" 22 "SystemParts$Lines" "up" "I" ∈ lw_tbl := List.mem_of_getElem? (i := 75) (by decide +kernel)
set_option maxRecDepth 100000 in
theorem m_39 : Cond.fieldLinkNest "SystemParts" 162 "SystemParts$Lines" "up" "I" "SystemParts" ∈ lw_tbl := List.mem_of_getElem? (i := 76) (by decide +kernel)
set_option maxRecDepth 100000 in
theorem m_40 : Cond.fieldLink "SystemParts$Lines" 25 "SystemParts$Lines" "kept" "I" ∈ lw_tbl := List.mem_of_getElem? (i := 77) (by decide +kernel)
set_option maxRecDepth 100000 in
theorem m_41 : Cond.laysFinal "SystemParts$Lines" "SystemParts$Lines" "ways" "[I" ∈ lw_tbl := List.mem_of_getElem? (i := 78) (by decide +kernel)
set_option maxRecDepth 100000 in
theorem m_42 : Cond.soleField "SystemParts$Lines" "ways" ∈ lw_tbl := List.mem_of_getElem? (i := 79) (by decide +kernel)
set_option maxRecDepth 100000 in
theorem m_43 : Cond.laysFinal "SystemParts$Lines" "SystemParts$Lines" "ranks" "[I" ∈ lw_tbl := List.mem_of_getElem? (i := 80) (by decide +kernel)
set_option maxRecDepth 100000 in
theorem m_44 : Cond.soleField "SystemParts$Lines" "ranks" ∈ lw_tbl := List.mem_of_getElem? (i := 81) (by decide +kernel)
set_option maxRecDepth 100000 in
theorem m_45 : Cond.lays "SystemParts$Lines" "SystemParts$Lines" "hidden" "I" ∈ lw_tbl := List.mem_of_getElem? (i := 82) (by decide +kernel)
set_option maxRecDepth 100000 in
theorem m_46 : Cond.soleField "SystemParts$Lines" "hidden" ∈ lw_tbl := List.mem_of_getElem? (i := 83) (by decide +kernel)
set_option maxRecDepth 100000 in
theorem m_47 : Cond.lays "SystemParts$Lines" "SystemParts$Lines" "up" "I" ∈ lw_tbl := List.mem_of_getElem? (i := 84) (by decide +kernel)
set_option maxRecDepth 100000 in
theorem m_48 : Cond.soleField "SystemParts$Lines" "up" ∈ lw_tbl := List.mem_of_getElem? (i := 85) (by decide +kernel)
set_option maxRecDepth 100000 in
theorem m_49 : Cond.lays "SystemParts$Lines" "SystemParts$Lines" "kept" "I" ∈ lw_tbl := List.mem_of_getElem? (i := 86) (by decide +kernel)
set_option maxRecDepth 100000 in
theorem m_50 : Cond.soleField "SystemParts$Lines" "kept" ∈ lw_tbl := List.mem_of_getElem? (i := 87) (by decide +kernel)
set_option maxRecDepth 100000 in
theorem m_51 : Cond.superclass "SystemParts$Lines" "java/lang/Object" ∈ lw_tbl := List.mem_of_getElem? (i := 88) (by decide +kernel)
set_option maxRecDepth 100000 in
theorem m_52 : Cond.arrayClass FieldType.int ∈ lw_tbl := List.mem_of_getElem? (i := 89) (by decide +kernel)
set_option maxRecDepth 100000 in
theorem m_53 : Cond.fieldLink "SystemParts" 11 "SystemParts" "parts" "[LSystemParts$Part;" ∈ lw_tbl := List.mem_of_getElem? (i := 90) (by decide +kernel)
set_option maxRecDepth 100000 in
theorem m_54 : Cond.fieldLink "SystemParts" 18 "SystemParts" "lines" "LSystemParts$Lines;" ∈ lw_tbl := List.mem_of_getElem? (i := 91) (by decide +kernel)
set_option maxRecDepth 100000 in
theorem m_55 : Cond.fieldLink "SystemParts" 22 "SystemParts" "tally" "[I" ∈ lw_tbl := List.mem_of_getElem? (i := 92) (by decide +kernel)
set_option maxRecDepth 100000 in
theorem m_56 : Cond.fieldLink "SystemParts" 26 "SystemParts" "partCount" "I" ∈ lw_tbl := List.mem_of_getElem? (i := 93) (by decide +kernel)
set_option maxRecDepth 100000 in
theorem m_57 : Cond.fieldLink "SystemParts" 30 "SystemParts" "time" "I" ∈ lw_tbl := List.mem_of_getElem? (i := 94) (by decide +kernel)
set_option maxRecDepth 100000 in
theorem m_58 : Cond.fieldLink "SystemParts" 33 "SystemParts" "cause" "I" ∈ lw_tbl := List.mem_of_getElem? (i := 95) (by decide +kernel)
set_option maxRecDepth 100000 in
theorem m_59 : Cond.laysFinal "SystemParts" "SystemParts" "parts" "[LSystemParts$Part;" ∈ lw_tbl := List.mem_of_getElem? (i := 96) (by decide +kernel)
set_option maxRecDepth 100000 in
theorem m_60 : Cond.soleField "SystemParts" "parts" ∈ lw_tbl := List.mem_of_getElem? (i := 97) (by decide +kernel)
set_option maxRecDepth 100000 in
theorem m_61 : Cond.laysFinal "SystemParts" "SystemParts" "lines" "LSystemParts$Lines;" ∈ lw_tbl := List.mem_of_getElem? (i := 98) (by decide +kernel)
set_option maxRecDepth 100000 in
theorem m_62 : Cond.soleField "SystemParts" "lines" ∈ lw_tbl := List.mem_of_getElem? (i := 99) (by decide +kernel)
set_option maxRecDepth 100000 in
theorem m_63 : Cond.laysFinal "SystemParts" "SystemParts" "tally" "[I" ∈ lw_tbl := List.mem_of_getElem? (i := 100) (by decide +kernel)
set_option maxRecDepth 100000 in
theorem m_64 : Cond.soleField "SystemParts" "tally" ∈ lw_tbl := List.mem_of_getElem? (i := 101) (by decide +kernel)
set_option maxRecDepth 100000 in
theorem m_65 : Cond.lays "SystemParts" "SystemParts" "partCount" "I" ∈ lw_tbl := List.mem_of_getElem? (i := 102) (by decide +kernel)
set_option maxRecDepth 100000 in
theorem m_66 : Cond.soleField "SystemParts" "partCount" ∈ lw_tbl := List.mem_of_getElem? (i := 103) (by decide +kernel)
set_option maxRecDepth 100000 in
theorem m_67 : Cond.lays "SystemParts" "SystemParts" "time" "I" ∈ lw_tbl := List.mem_of_getElem? (i := 104) (by decide +kernel)
set_option maxRecDepth 100000 in
theorem m_68 : Cond.soleField "SystemParts" "time" ∈ lw_tbl := List.mem_of_getElem? (i := 105) (by decide +kernel)
set_option maxRecDepth 100000 in
theorem m_69 : Cond.lays "SystemParts" "SystemParts" "cause" "I" ∈ lw_tbl := List.mem_of_getElem? (i := 106) (by decide +kernel)
set_option maxRecDepth 100000 in
theorem m_70 : Cond.soleField "SystemParts" "cause" ∈ lw_tbl := List.mem_of_getElem? (i := 107) (by decide +kernel)
set_option maxRecDepth 100000 in
theorem m_71 : Cond.superclass "SystemParts" "java/lang/Object" ∈ lw_tbl := List.mem_of_getElem? (i := 108) (by decide +kernel)
set_option maxRecDepth 100000 in
theorem m_72 : Cond.methodLink "SystemPartsLaw" 90 ⟨"SystemParts", "chosen", "()I"⟩ ∈ lw_tbl := List.mem_of_getElem? (i := 109) (by decide +kernel)
set_option maxRecDepth 100000 in
theorem m_73 : Cond.instanceMethod ⟨"SystemParts", "chosen", "()I"⟩ ∈ lw_tbl := List.mem_of_getElem? (i := 110) (by decide +kernel)
set_option maxRecDepth 100000 in
theorem m_74 : Cond.selects "SystemParts" ⟨"SystemParts", "chosen", "()I"⟩ ⟨"SystemParts", "chosen", "()I"⟩ ∈ lw_tbl := List.mem_of_getElem? (i := 111) (by decide +kernel)
set_option maxRecDepth 100000 in
theorem m_75 : Cond.code ⟨"SystemParts", "chosen", "()I"⟩ prog_1_method_11_code 1 (some FieldType.int) ∈ lw_tbl := List.mem_of_getElem? (i := 112) (by decide +kernel)
set_option maxRecDepth 100000 in
theorem m_76 : Cond.methodLink "SystemParts" 168 ⟨"SystemParts$Lines", "best", "()I"⟩ ∈ lw_tbl := List.mem_of_getElem? (i := 113) (by decide +kernel)
set_option maxRecDepth 100000 in
theorem m_77 : Cond.instanceMethod ⟨"SystemParts$Lines", "best", "()I"⟩ ∈ lw_tbl := List.mem_of_getElem? (i := 114) (by decide +kernel)
set_option maxRecDepth 100000 in
theorem m_78 : Cond.selects "SystemParts$Lines" ⟨"SystemParts$Lines", "best", "()I"⟩ ⟨"SystemParts$Lines", "best", "()I"⟩ ∈ lw_tbl := List.mem_of_getElem? (i := 115) (by decide +kernel)
set_option maxRecDepth 100000 in
theorem m_79 : Cond.code ⟨"SystemParts$Lines", "best", "()I"⟩ prog_4_method_9_code 5 (some FieldType.int) ∈ lw_tbl := List.mem_of_getElem? (i := 116) (by decide +kernel)
set_option maxRecDepth 100000 in
theorem m_80 : Cond.methodLink "SystemParts$Lines" 42 ⟨"SystemParts$Lines", "pending", "()I"⟩ ∈ lw_tbl := List.mem_of_getElem? (i := 117) (by decide +kernel)
set_option maxRecDepth 100000 in
theorem m_81 : Cond.instanceMethod ⟨"SystemParts$Lines", "pending", "()I"⟩ ∈ lw_tbl := List.mem_of_getElem? (i := 118) (by decide +kernel)
set_option maxRecDepth 100000 in
theorem m_82 : Cond.selects "SystemParts$Lines" ⟨"SystemParts$Lines", "pending", "()I"⟩ ⟨"SystemParts$Lines", "pending", "()I"⟩ ∈ lw_tbl := List.mem_of_getElem? (i := 119) (by decide +kernel)
set_option maxRecDepth 100000 in
theorem m_83 : Cond.code ⟨"SystemParts$Lines", "pending", "()I"⟩ prog_4_method_8_code 3 (some FieldType.int) ∈ lw_tbl := List.mem_of_getElem? (i := 120) (by decide +kernel)
set_option maxRecDepth 100000 in
theorem m_84 : Cond.methodLink "SystemPartsLaw" 94 ⟨"SystemParts", "take", "()I"⟩ ∈ lw_tbl := List.mem_of_getElem? (i := 121) (by decide +kernel)
set_option maxRecDepth 100000 in
theorem m_85 : Cond.instanceMethod ⟨"SystemParts", "take", "()I"⟩ ∈ lw_tbl := List.mem_of_getElem? (i := 122) (by decide +kernel)
set_option maxRecDepth 100000 in
theorem m_86 : Cond.selects "SystemParts" ⟨"SystemParts", "take", "()I"⟩ ⟨"SystemParts", "take", "()I"⟩ ∈ lw_tbl := List.mem_of_getElem? (i := 123) (by decide +kernel)
set_option maxRecDepth 100000 in
theorem m_87 : Cond.code ⟨"SystemParts", "take", "()I"⟩ prog_1_method_12_code 2 (some FieldType.int) ∈ lw_tbl := List.mem_of_getElem? (i := 124) (by decide +kernel)
set_option maxRecDepth 100000 in
theorem m_88 : Cond.methodLink "SystemParts" 171 ⟨"SystemParts$Lines", "forget", "(I)V"⟩ ∈ lw_tbl := List.mem_of_getElem? (i := 125) (by decide +kernel)
set_option maxRecDepth 100000 in
theorem m_89 : Cond.instanceMethod ⟨"SystemParts$Lines", "forget", "(I)V"⟩ ∈ lw_tbl := List.mem_of_getElem? (i := 126) (by decide +kernel)
set_option maxRecDepth 100000 in
theorem m_90 : Cond.selects "SystemParts$Lines" ⟨"SystemParts$Lines", "forget", "(I)V"⟩ ⟨"SystemParts$Lines", "forget", "(I)V"⟩ ∈ lw_tbl := List.mem_of_getElem? (i := 127) (by decide +kernel)
set_option maxRecDepth 100000 in
theorem m_91 : Cond.code ⟨"SystemParts$Lines", "forget", "(I)V"⟩ prog_4_method_10_code 2 none ∈ lw_tbl := List.mem_of_getElem? (i := 128) (by decide +kernel)
set_option maxRecDepth 100000 in
theorem m_92 : Cond.methodLink "SystemPartsLaw" 98 ⟨"SystemParts", "reset", "()I"⟩ ∈ lw_tbl := List.mem_of_getElem? (i := 129) (by decide +kernel)
set_option maxRecDepth 100000 in
theorem m_93 : Cond.instanceMethod ⟨"SystemParts", "reset", "()I"⟩ ∈ lw_tbl := List.mem_of_getElem? (i := 130) (by decide +kernel)
set_option maxRecDepth 100000 in
theorem m_94 : Cond.selects "SystemParts" ⟨"SystemParts", "reset", "()I"⟩ ⟨"SystemParts", "reset", "()I"⟩ ∈ lw_tbl := List.mem_of_getElem? (i := 131) (by decide +kernel)
set_option maxRecDepth 100000 in
theorem m_95 : Cond.code ⟨"SystemParts", "reset", "()I"⟩ prog_1_method_13_code 2 (some FieldType.int) ∈ lw_tbl := List.mem_of_getElem? (i := 132) (by decide +kernel)
set_option maxRecDepth 100000 in
theorem m_96 : Cond.methodLink "SystemParts" 174 ⟨"SystemParts", "resetAll", "(I)V"⟩ ∈ lw_tbl := List.mem_of_getElem? (i := 133) (by decide +kernel)
set_option maxRecDepth 100000 in
theorem m_97 : Cond.privateMethod ⟨"SystemParts", "resetAll", "(I)V"⟩ ∈ lw_tbl := List.mem_of_getElem? (i := 134) (by decide +kernel)
set_option maxRecDepth 100000 in
theorem m_98 : Cond.instanceMethod ⟨"SystemParts", "resetAll", "(I)V"⟩ ∈ lw_tbl := List.mem_of_getElem? (i := 135) (by decide +kernel)
set_option maxRecDepth 100000 in
theorem m_99 : Cond.code ⟨"SystemParts", "resetAll", "(I)V"⟩ prog_1_method_27_code 4 none ∈ lw_tbl := List.mem_of_getElem? (i := 136) (by decide +kernel)
set_option maxRecDepth 100000 in
theorem m_100 : Cond.methodLink "SystemParts" 226 ⟨"SystemParts$Part", "beginAnew", "()V"⟩ ∈ lw_tbl := List.mem_of_getElem? (i := 137) (by decide +kernel)
set_option maxRecDepth 100000 in
theorem m_101 : Cond.instanceMethod ⟨"SystemParts$Part", "beginAnew", "()V"⟩ ∈ lw_tbl := List.mem_of_getElem? (i := 138) (by decide +kernel)
set_option maxRecDepth 100000 in
theorem m_102 : Cond.sameMethod "SystemParts$Part" "SystemParts$Part" "beginAnew" "()V" ∈ lw_tbl := List.mem_of_getElem? (i := 139) (by decide +kernel)
set_option maxRecDepth 100000 in
theorem m_103 : Cond.selects "SystemParts$Cells" ⟨"SystemParts$Part", "beginAnew", "()V"⟩ ⟨"SystemParts$Part", "beginAnew", "()V"⟩ ∈ lw_tbl := List.mem_of_getElem? (i := 140) (by decide +kernel)
set_option maxRecDepth 100000 in
theorem m_104 : Cond.selects "SystemParts$Counts" ⟨"SystemParts$Part", "beginAnew", "()V"⟩ ⟨"SystemParts$Counts", "beginAnew", "()V"⟩ ∈ lw_tbl := List.mem_of_getElem? (i := 141) (by decide +kernel)
set_option maxRecDepth 100000 in
theorem m_105 : Cond.instanceMethod ⟨"SystemParts$Counts", "beginAnew", "()V"⟩ ∈ lw_tbl := List.mem_of_getElem? (i := 142) (by decide +kernel)
set_option maxRecDepth 100000 in
theorem m_106 : Cond.code ⟨"SystemParts$Counts", "beginAnew", "()V"⟩ prog_3_method_6_code 2 none ∈ lw_tbl := List.mem_of_getElem? (i := 143) (by decide +kernel)
set_option maxRecDepth 100000 in
theorem m_107 : Cond.selects "SystemParts$Rows" ⟨"SystemParts$Part", "beginAnew", "()V"⟩ ⟨"SystemParts$Rows", "beginAnew", "()V"⟩ ∈ lw_tbl := List.mem_of_getElem? (i := 144) (by decide +kernel)
set_option maxRecDepth 100000 in
theorem m_108 : Cond.instanceMethod ⟨"SystemParts$Rows", "beginAnew", "()V"⟩ ∈ lw_tbl := List.mem_of_getElem? (i := 145) (by decide +kernel)
set_option maxRecDepth 100000 in
theorem m_109 : Cond.code ⟨"SystemParts$Rows", "beginAnew", "()V"⟩ prog_6_method_9_code 2 none ∈ lw_tbl := List.mem_of_getElem? (i := 146) (by decide +kernel)
set_option maxRecDepth 100000 in
theorem m_110 : Cond.selects "SystemParts$Serial" ⟨"SystemParts$Part", "beginAnew", "()V"⟩ ⟨"SystemParts$Serial", "beginAnew", "()V"⟩ ∈ lw_tbl := List.mem_of_getElem? (i := 147) (by decide +kernel)
set_option maxRecDepth 100000 in
theorem m_111 : Cond.instanceMethod ⟨"SystemParts$Serial", "beginAnew", "()V"⟩ ∈ lw_tbl := List.mem_of_getElem? (i := 148) (by decide +kernel)
set_option maxRecDepth 100000 in
theorem m_112 : Cond.code ⟨"SystemParts$Serial", "beginAnew", "()V"⟩ prog_8_method_11_code 1 none ∈ lw_tbl := List.mem_of_getElem? (i := 149) (by decide +kernel)
set_option maxRecDepth 100000 in
theorem m_113 : Cond.selects "SystemParts$Timer" ⟨"SystemParts$Part", "beginAnew", "()V"⟩ ⟨"SystemParts$Timer", "beginAnew", "()V"⟩ ∈ lw_tbl := List.mem_of_getElem? (i := 150) (by decide +kernel)
set_option maxRecDepth 100000 in
theorem m_114 : Cond.instanceMethod ⟨"SystemParts$Timer", "beginAnew", "()V"⟩ ∈ lw_tbl := List.mem_of_getElem? (i := 151) (by decide +kernel)
set_option maxRecDepth 100000 in
theorem m_115 : Cond.code ⟨"SystemParts$Timer", "beginAnew", "()V"⟩ prog_9_method_6_code 1 none ∈ lw_tbl := List.mem_of_getElem? (i := 152) (by decide +kernel)
set_option maxRecDepth 100000 in
theorem m_116 : Cond.code ⟨"SystemParts$Part", "beginAnew", "()V"⟩ prog_5_method_7_code 1 none ∈ lw_tbl := List.mem_of_getElem? (i := 153) (by decide +kernel)
set_option maxRecDepth 100000 in
theorem m_117 : Cond.methodLink "SystemParts" 229 ⟨"SystemParts$Lines", "allDown", "()V"⟩ ∈ lw_tbl := List.mem_of_getElem? (i := 154) (by decide +kernel)
set_option maxRecDepth 100000 in
theorem m_118 : Cond.instanceMethod ⟨"SystemParts$Lines", "allDown", "()V"⟩ ∈ lw_tbl := List.mem_of_getElem? (i := 155) (by decide +kernel)
set_option maxRecDepth 100000 in
theorem m_119 : Cond.selects "SystemParts$Lines" ⟨"SystemParts$Lines", "allDown", "()V"⟩ ⟨"SystemParts$Lines", "allDown", "()V"⟩ ∈ lw_tbl := List.mem_of_getElem? (i := 156) (by decide +kernel)
set_option maxRecDepth 100000 in
theorem m_120 : Cond.code ⟨"SystemParts$Lines", "allDown", "()V"⟩ prog_4_method_11_code 1 none ∈ lw_tbl := List.mem_of_getElem? (i := 157) (by decide +kernel)
set_option maxRecDepth 100000 in
theorem m_121 : Cond.methodLink "SystemPartsLaw" 102 ⟨"SystemParts", "count", "(I)I"⟩ ∈ lw_tbl := List.mem_of_getElem? (i := 158) (by decide +kernel)
set_option maxRecDepth 100000 in
theorem m_122 : Cond.instanceMethod ⟨"SystemParts", "count", "(I)I"⟩ ∈ lw_tbl := List.mem_of_getElem? (i := 159) (by decide +kernel)
set_option maxRecDepth 100000 in
theorem m_123 : Cond.selects "SystemParts" ⟨"SystemParts", "count", "(I)I"⟩ ⟨"SystemParts", "count", "(I)I"⟩ ∈ lw_tbl := List.mem_of_getElem? (i := 160) (by decide +kernel)
set_option maxRecDepth 100000 in
theorem m_124 : Cond.code ⟨"SystemParts", "count", "(I)I"⟩ prog_1_method_14_code 2 (some FieldType.int) ∈ lw_tbl := List.mem_of_getElem? (i := 161) (by decide +kernel)
set_option maxRecDepth 100000 in
theorem m_125 : Cond.methodLink "SystemParts" 165 ⟨"SystemParts$Lines", "pending", "()I"⟩ ∈ lw_tbl := List.mem_of_getElem? (i := 162) (by decide +kernel)
set_option maxRecDepth 100000 in
theorem m_126 : Cond.methodLink "SystemParts" 177 ⟨"SystemParts", "allWaiting", "()I"⟩ ∈ lw_tbl := List.mem_of_getElem? (i := 163) (by decide +kernel)
set_option maxRecDepth 100000 in
theorem m_127 : Cond.privateMethod ⟨"SystemParts", "allWaiting", "()I"⟩ ∈ lw_tbl := List.mem_of_getElem? (i := 164) (by decide +kernel)
set_option maxRecDepth 100000 in
theorem m_128 : Cond.instanceMethod ⟨"SystemParts", "allWaiting", "()I"⟩ ∈ lw_tbl := List.mem_of_getElem? (i := 165) (by decide +kernel)
set_option maxRecDepth 100000 in
theorem m_129 : Cond.code ⟨"SystemParts", "allWaiting", "()I"⟩ prog_1_method_28_code 5 (some FieldType.int) ∈ lw_tbl := List.mem_of_getElem? (i := 166) (by decide +kernel)
set_option maxRecDepth 100000 in
theorem m_130 : Cond.classLink "SystemParts" 131 "SystemParts$Serial" ∈ lw_tbl := List.mem_of_getElem? (i := 167) (by decide +kernel)
set_option maxRecDepth 100000 in
theorem m_131 : Cond.methodLink "SystemParts" 180 ⟨"SystemParts", "allGone", "()I"⟩ ∈ lw_tbl := List.mem_of_getElem? (i := 168) (by decide +kernel)
set_option maxRecDepth 100000 in
theorem m_132 : Cond.privateMethod ⟨"SystemParts", "allGone", "()I"⟩ ∈ lw_tbl := List.mem_of_getElem? (i := 169) (by decide +kernel)
set_option maxRecDepth 100000 in
theorem m_133 : Cond.instanceMethod ⟨"SystemParts", "allGone", "()I"⟩ ∈ lw_tbl := List.mem_of_getElem? (i := 170) (by decide +kernel)
set_option maxRecDepth 100000 in
theorem m_134 : Cond.code ⟨"SystemParts", "allGone", "()I"⟩ prog_1_method_29_code 5 (some FieldType.int) ∈ lw_tbl := List.mem_of_getElem? (i := 171) (by decide +kernel)
set_option maxRecDepth 100000 in
theorem m_135 : Cond.methodLink "SystemPartsLaw" 53 ⟨"SystemPartsLaw", "part", "(LSystemParts;IIIII[J)I"⟩ ∈ lw_tbl := List.mem_of_getElem? (i := 172) (by decide +kernel)
set_option maxRecDepth 100000 in
theorem m_136 : Cond.static ⟨"SystemPartsLaw", "part", "(LSystemParts;IIIII[J)I"⟩ ∈ lw_tbl := List.mem_of_getElem? (i := 173) (by decide +kernel)
set_option maxRecDepth 100000 in
theorem m_137 : Cond.codeWith ⟨"SystemPartsLaw", "part", "(LSystemParts;IIIII[J)I"⟩ method_3_code 8 (some FieldType.int) [(0, 16, 19, 13), (0, 16, 23, 15)] ∈ lw_tbl := List.mem_of_getElem? (i := 174) (by decide +kernel)
set_option maxRecDepth 100000 in
theorem m_138 : Cond.classLink "SystemPartsLaw" 13 "java/lang/IllegalArgumentException" ∈ lw_tbl := List.mem_of_getElem? (i := 175) (by decide +kernel)
set_option maxRecDepth 100000 in
theorem m_139 : Cond.classLink "SystemPartsLaw" 15 "java/lang/UnsupportedOperationException" ∈ lw_tbl := List.mem_of_getElem? (i := 176) (by decide +kernel)
set_option maxRecDepth 100000 in
theorem m_140 : Cond.methodLink "SystemPartsLaw" 7 ⟨"SystemParts", "part", "(IIIII)I"⟩ ∈ lw_tbl := List.mem_of_getElem? (i := 177) (by decide +kernel)
set_option maxRecDepth 100000 in
theorem m_141 : Cond.instanceMethod ⟨"SystemParts", "part", "(IIIII)I"⟩ ∈ lw_tbl := List.mem_of_getElem? (i := 178) (by decide +kernel)
set_option maxRecDepth 100000 in
theorem m_142 : Cond.selects "SystemParts" ⟨"SystemParts", "part", "(IIIII)I"⟩ ⟨"SystemParts", "part", "(IIIII)I"⟩ ∈ lw_tbl := List.mem_of_getElem? (i := 179) (by decide +kernel)
set_option maxRecDepth 100000 in
theorem m_143 : Cond.code ⟨"SystemParts", "part", "(IIIII)I"⟩ prog_1_method_2_code 9 (some FieldType.int) ∈ lw_tbl := List.mem_of_getElem? (i := 180) (by decide +kernel)
set_option maxRecDepth 100000 in
theorem m_144 : Cond.methodLink "SystemParts" 36 ⟨"SystemParts", "lengthOf", "(II)I"⟩ ∈ lw_tbl := List.mem_of_getElem? (i := 181) (by decide +kernel)
set_option maxRecDepth 100000 in
theorem m_145 : Cond.static ⟨"SystemParts", "lengthOf", "(II)I"⟩ ∈ lw_tbl := List.mem_of_getElem? (i := 182) (by decide +kernel)
set_option maxRecDepth 100000 in
theorem m_146 : Cond.code ⟨"SystemParts", "lengthOf", "(II)I"⟩ prog_1_method_17_code 2 (some FieldType.int) ∈ lw_tbl := List.mem_of_getElem? (i := 183) (by decide +kernel)
set_option maxRecDepth 100000 in
theorem m_147 : Cond.methodLink "SystemParts" 40 ⟨"SystemParts", "isLine", "(I)Z"⟩ ∈ lw_tbl := List.mem_of_getElem? (i := 184) (by decide +kernel)
set_option maxRecDepth 100000 in
theorem m_148 : Cond.static ⟨"SystemParts", "isLine", "(I)Z"⟩ ∈ lw_tbl := List.mem_of_getElem? (i := 185) (by decide +kernel)
set_option maxRecDepth 100000 in
theorem m_149 : Cond.code ⟨"SystemParts", "isLine", "(I)Z"⟩ prog_1_method_16_code 1 (some FieldType.boolean) ∈ lw_tbl := List.mem_of_getElem? (i := 186) (by decide +kernel)
set_option maxRecDepth 100000 in
theorem m_150 : Cond.methodLink "SystemParts" 44 ⟨"SystemParts", "isFree", "(II)Z"⟩ ∈ lw_tbl := List.mem_of_getElem? (i := 187) (by decide +kernel)
set_option maxRecDepth 100000 in
theorem m_151 : Cond.privateMethod ⟨"SystemParts", "isFree", "(II)Z"⟩ ∈ lw_tbl := List.mem_of_getElem? (i := 188) (by decide +kernel)
set_option maxRecDepth 100000 in
theorem m_152 : Cond.instanceMethod ⟨"SystemParts", "isFree", "(II)Z"⟩ ∈ lw_tbl := List.mem_of_getElem? (i := 189) (by decide +kernel)
set_option maxRecDepth 100000 in
theorem m_153 : Cond.code ⟨"SystemParts", "isFree", "(II)Z"⟩ prog_1_method_19_code 5 (some FieldType.boolean) ∈ lw_tbl := List.mem_of_getElem? (i := 190) (by decide +kernel)
set_option maxRecDepth 100000 in
theorem m_154 : Cond.methodLink "SystemParts" 199 ⟨"SystemParts", "isPlace", "(I)Z"⟩ ∈ lw_tbl := List.mem_of_getElem? (i := 191) (by decide +kernel)
set_option maxRecDepth 100000 in
theorem m_155 : Cond.static ⟨"SystemParts", "isPlace", "(I)Z"⟩ ∈ lw_tbl := List.mem_of_getElem? (i := 192) (by decide +kernel)
set_option maxRecDepth 100000 in
theorem m_156 : Cond.code ⟨"SystemParts", "isPlace", "(I)Z"⟩ prog_1_method_15_code 1 (some FieldType.boolean) ∈ lw_tbl := List.mem_of_getElem? (i := 193) (by decide +kernel)
set_option maxRecDepth 100000 in
theorem m_157 : Cond.constant "SystemParts" 183 (65536 : Int32) ∈ lw_tbl := List.mem_of_getElem? (i := 194) (by decide +kernel)
set_option maxRecDepth 100000 in
theorem m_158 : Cond.methodLink "SystemParts" 202 ⟨"SystemParts$Seat", "meets", "(II)Z"⟩ ∈ lw_tbl := List.mem_of_getElem? (i := 195) (by decide +kernel)
set_option maxRecDepth 100000 in
theorem m_159 : Cond.instanceMethod ⟨"SystemParts$Seat", "meets", "(II)Z"⟩ ∈ lw_tbl := List.mem_of_getElem? (i := 196) (by decide +kernel)
set_option maxRecDepth 100000 in
theorem m_160 : Cond.selects "SystemParts$Seat" ⟨"SystemParts$Seat", "meets", "(II)Z"⟩ ⟨"SystemParts$Seat", "meets", "(II)Z"⟩ ∈ lw_tbl := List.mem_of_getElem? (i := 197) (by decide +kernel)
set_option maxRecDepth 100000 in
theorem m_161 : Cond.code ⟨"SystemParts$Seat", "meets", "(II)Z"⟩ prog_7_method_3_code 3 (some FieldType.boolean) ∈ lw_tbl := List.mem_of_getElem? (i := 198) (by decide +kernel)
set_option maxRecDepth 100000 in
theorem m_162 : Cond.classLink "SystemParts" 48 "java/lang/IllegalArgumentException" ∈ lw_tbl := List.mem_of_getElem? (i := 199) (by decide +kernel)
set_option maxRecDepth 100000 in
theorem m_163 : Cond.instantiable "java/lang/IllegalArgumentException" 6 ∈ lw_tbl := List.mem_of_getElem? (i := 200) (by decide +kernel)
set_option maxRecDepth 100000 in
theorem m_164 : Cond.castable "java/lang/IllegalArgumentException" "java/lang/IllegalArgumentException" ∈ lw_tbl := List.mem_of_getElem? (i := 201) (by decide +kernel)
set_option maxRecDepth 100000 in
theorem m_165 : Cond.declares ⟨"java/lang/RuntimeException", "<init>", "()V"⟩ ∈ lw_tbl := List.mem_of_getElem? (i := 202) (by decide +kernel)
set_option maxRecDepth 100000 in
theorem m_166 : Cond.declares ⟨"java/lang/RuntimeException", "<init>", "(Ljava/lang/String;)V"⟩ ∈ lw_tbl := List.mem_of_getElem? (i := 203) (by decide +kernel)
set_option maxRecDepth 100000 in
theorem m_167 : Cond.declares ⟨"java/lang/Exception", "<init>", "()V"⟩ ∈ lw_tbl := List.mem_of_getElem? (i := 204) (by decide +kernel)
set_option maxRecDepth 100000 in
theorem m_168 : Cond.declares ⟨"java/lang/Exception", "<init>", "(Ljava/lang/String;)V"⟩ ∈ lw_tbl := List.mem_of_getElem? (i := 205) (by decide +kernel)
set_option maxRecDepth 100000 in
theorem m_169 : Cond.declares ⟨"java/lang/Throwable", "<init>", "()V"⟩ ∈ lw_tbl := List.mem_of_getElem? (i := 206) (by decide +kernel)
set_option maxRecDepth 100000 in
theorem m_170 : Cond.declares ⟨"java/lang/Throwable", "<init>", "(Ljava/lang/String;)V"⟩ ∈ lw_tbl := List.mem_of_getElem? (i := 207) (by decide +kernel)
set_option maxRecDepth 100000 in
theorem m_171 : Cond.selects "java/lang/IllegalArgumentException" ⟨"java/lang/Throwable", "fillInStackTrace", "(I)Ljava/lang/Throwable;"⟩ ⟨"java/lang/Throwable", "fillInStackTrace", "(I)Ljava/lang/Throwable;"⟩ ∈ lw_tbl := List.mem_of_getElem? (i := 208) (by decide +kernel)
set_option maxRecDepth 100000 in
theorem m_172 : Cond.selects "java/lang/IllegalArgumentException" ⟨"java/lang/Throwable", "fillInStackTrace", "()Ljava/lang/Throwable;"⟩ ⟨"java/lang/Throwable", "fillInStackTrace", "()Ljava/lang/Throwable;"⟩ ∈ lw_tbl := List.mem_of_getElem? (i := 209) (by decide +kernel)
set_option maxRecDepth 100000 in
theorem m_173 : Cond.lays "java/lang/IllegalArgumentException" "java/lang/Throwable" "cause" "Ljava/lang/Throwable;" ∈ lw_tbl := List.mem_of_getElem? (i := 210) (by decide +kernel)
set_option maxRecDepth 100000 in
theorem m_174 : Cond.lays "java/lang/Throwable" "java/lang/Throwable" "cause" "Ljava/lang/Throwable;" ∈ lw_tbl := List.mem_of_getElem? (i := 211) (by decide +kernel)
set_option maxRecDepth 100000 in
theorem m_175 : Cond.lays "java/lang/IllegalArgumentException" "java/lang/Throwable" "stackTrace" "[Ljava/lang/StackTraceElement;" ∈ lw_tbl := List.mem_of_getElem? (i := 212) (by decide +kernel)
set_option maxRecDepth 100000 in
theorem m_176 : Cond.lays "java/lang/Throwable" "java/lang/Throwable" "stackTrace" "[Ljava/lang/StackTraceElement;" ∈ lw_tbl := List.mem_of_getElem? (i := 213) (by decide +kernel)
set_option maxRecDepth 100000 in
theorem m_177 : Cond.lays "java/lang/IllegalArgumentException" "java/lang/Throwable" "suppressedExceptions" "Ljava/util/List;" ∈ lw_tbl := List.mem_of_getElem? (i := 214) (by decide +kernel)
set_option maxRecDepth 100000 in
theorem m_178 : Cond.lays "java/lang/Throwable" "java/lang/Throwable" "suppressedExceptions" "Ljava/util/List;" ∈ lw_tbl := List.mem_of_getElem? (i := 215) (by decide +kernel)
set_option maxRecDepth 100000 in
theorem m_179 : Cond.lays "java/lang/IllegalArgumentException" "java/lang/Throwable" "detailMessage" "Ljava/lang/String;" ∈ lw_tbl := List.mem_of_getElem? (i := 216) (by decide +kernel)
set_option maxRecDepth 100000 in
theorem m_180 : Cond.lays "java/lang/Throwable" "java/lang/Throwable" "detailMessage" "Ljava/lang/String;" ∈ lw_tbl := List.mem_of_getElem? (i := 217) (by decide +kernel)
set_option maxRecDepth 100000 in
theorem m_181 : Cond.lays "java/lang/IllegalArgumentException" "java/lang/Throwable" "backtrace" "Ljava/lang/Object;" ∈ lw_tbl := List.mem_of_getElem? (i := 218) (by decide +kernel)
set_option maxRecDepth 100000 in
theorem m_182 : Cond.lays "java/lang/Throwable" "java/lang/Throwable" "backtrace" "Ljava/lang/Object;" ∈ lw_tbl := List.mem_of_getElem? (i := 219) (by decide +kernel)
set_option maxRecDepth 100000 in
theorem m_183 : Cond.fieldLink "java/lang/Throwable" 198 "java/lang/Throwable" "backtrace" "Ljava/lang/Object;" ∈ lw_tbl := List.mem_of_getElem? (i := 220) (by decide +kernel)
set_option maxRecDepth 100000 in
theorem m_184 : Cond.superclass "java/lang/Throwable" "java/lang/Object" ∈ lw_tbl := List.mem_of_getElem? (i := 221) (by decide +kernel)
set_option maxRecDepth 100000 in
theorem m_185 : Cond.instanceMethod ⟨"java/lang/Throwable", "<init>", "()V"⟩ ∈ lw_tbl := List.mem_of_getElem? (i := 222) (by decide +kernel)
set_option maxRecDepth 100000 in
theorem m_186 : Cond.code ⟨"java/lang/Throwable", "<init>", "()V"⟩ prog_19_method_1_code 1 none ∈ lw_tbl := List.mem_of_getElem? (i := 223) (by decide +kernel)
set_option maxRecDepth 100000 in
theorem m_187 : Cond.methodLink "java/lang/Throwable" 1 ⟨"java/lang/Object", "<init>", "()V"⟩ ∈ lw_tbl := List.mem_of_getElem? (i := 224) (by decide +kernel)
set_option maxRecDepth 100000 in
theorem m_188 : Cond.fieldLink "java/lang/Throwable" 13 "java/lang/Throwable" "UNASSIGNED_STACK" "[Ljava/lang/StackTraceElement;" ∈ lw_tbl := List.mem_of_getElem? (i := 225) (by decide +kernel)
set_option maxRecDepth 100000 in
theorem m_189 : Cond.laysStatic "java/lang/Throwable" "UNASSIGNED_STACK" "[Ljava/lang/StackTraceElement;" ∈ lw_tbl := List.mem_of_getElem? (i := 226) (by decide +kernel)
set_option maxRecDepth 100000 in
theorem m_190 : Cond.fieldLink "java/lang/Throwable" 20 "java/lang/Throwable" "SUPPRESSED_SENTINEL" "Ljava/util/List;" ∈ lw_tbl := List.mem_of_getElem? (i := 227) (by decide +kernel)
set_option maxRecDepth 100000 in
theorem m_191 : Cond.laysStatic "java/lang/Throwable" "SUPPRESSED_SENTINEL" "Ljava/util/List;" ∈ lw_tbl := List.mem_of_getElem? (i := 228) (by decide +kernel)
set_option maxRecDepth 100000 in
theorem m_192 : Cond.methodLink "java/lang/Throwable" 27 ⟨"java/lang/Throwable", "fillInStackTrace", "()Ljava/lang/Throwable;"⟩ ∈ lw_tbl := List.mem_of_getElem? (i := 229) (by decide +kernel)
set_option maxRecDepth 100000 in
theorem m_193 : Cond.instanceMethod ⟨"java/lang/Throwable", "fillInStackTrace", "()Ljava/lang/Throwable;"⟩ ∈ lw_tbl := List.mem_of_getElem? (i := 230) (by decide +kernel)
set_option maxRecDepth 100000 in
theorem m_194 : Cond.sameMethod "java/lang/Throwable" "java/lang/Throwable" "fillInStackTrace" "()Ljava/lang/Throwable;" ∈ lw_tbl := List.mem_of_getElem? (i := 231) (by decide +kernel)
set_option maxRecDepth 100000 in
theorem m_195 : Cond.selects "java/lang/IllegalStateException" ⟨"java/lang/Throwable", "fillInStackTrace", "()Ljava/lang/Throwable;"⟩ ⟨"java/lang/Throwable", "fillInStackTrace", "()Ljava/lang/Throwable;"⟩ ∈ lw_tbl := List.mem_of_getElem? (i := 232) (by decide +kernel)
set_option maxRecDepth 100000 in
theorem m_196 : Cond.selects "java/lang/IndexOutOfBoundsException" ⟨"java/lang/Throwable", "fillInStackTrace", "()Ljava/lang/Throwable;"⟩ ⟨"java/lang/Throwable", "fillInStackTrace", "()Ljava/lang/Throwable;"⟩ ∈ lw_tbl := List.mem_of_getElem? (i := 233) (by decide +kernel)
set_option maxRecDepth 100000 in
theorem m_197 : Cond.selects "java/lang/UnsupportedOperationException" ⟨"java/lang/Throwable", "fillInStackTrace", "()Ljava/lang/Throwable;"⟩ ⟨"java/lang/Throwable", "fillInStackTrace", "()Ljava/lang/Throwable;"⟩ ∈ lw_tbl := List.mem_of_getElem? (i := 234) (by decide +kernel)
set_option maxRecDepth 100000 in
theorem m_198 : Cond.codeSync ⟨"java/lang/Throwable", "fillInStackTrace", "()Ljava/lang/Throwable;"⟩ prog_19_method_18_code 1 (some (FieldType.object "java/lang/Throwable")) ∈ lw_tbl := List.mem_of_getElem? (i := 235) (by decide +kernel)
set_option maxRecDepth 100000 in
theorem m_199 : Cond.methodLink "java/lang/Throwable" 202 ⟨"java/lang/Throwable", "fillInStackTrace", "(I)Ljava/lang/Throwable;"⟩ ∈ lw_tbl := List.mem_of_getElem? (i := 236) (by decide +kernel)
set_option maxRecDepth 100000 in
theorem m_200 : Cond.privateMethod ⟨"java/lang/Throwable", "fillInStackTrace", "(I)Ljava/lang/Throwable;"⟩ ∈ lw_tbl := List.mem_of_getElem? (i := 237) (by decide +kernel)
set_option maxRecDepth 100000 in
theorem m_201 : Cond.instanceMethod ⟨"java/lang/Throwable", "fillInStackTrace", "(I)Ljava/lang/Throwable;"⟩ ∈ lw_tbl := List.mem_of_getElem? (i := 238) (by decide +kernel)
set_option maxRecDepth 100000 in
theorem m_202 : Cond.instantiable "java/lang/Throwable" 6 ∈ lw_tbl := List.mem_of_getElem? (i := 239) (by decide +kernel)
set_option maxRecDepth 100000 in
theorem m_203 : Cond.native ⟨"java/lang/Throwable", "fillInStackTrace", "(I)Ljava/lang/Throwable;"⟩ ∈ lw_tbl := List.mem_of_getElem? (i := 240) (by decide +kernel)
set_option maxRecDepth 100000 in
theorem m_204 : Cond.stringRef "SystemParts" 50 "no such part can lie there" ∈ lw_tbl := List.mem_of_getElem? (i := 241) (by decide +kernel)
set_option maxRecDepth 100000 in
theorem m_205 : Cond.methodLink "SystemParts" 52 ⟨"java/lang/IllegalArgumentException", "<init>", "(Ljava/lang/String;)V"⟩ ∈ lw_tbl := List.mem_of_getElem? (i := 242) (by decide +kernel)
set_option maxRecDepth 100000 in
theorem m_206 : Cond.instanceMethod ⟨"java/lang/IllegalArgumentException", "<init>", "(Ljava/lang/String;)V"⟩ ∈ lw_tbl := List.mem_of_getElem? (i := 243) (by decide +kernel)
set_option maxRecDepth 100000 in
theorem m_207 : Cond.code ⟨"java/lang/IllegalArgumentException", "<init>", "(Ljava/lang/String;)V"⟩ prog_13_method_2_code 2 none ∈ lw_tbl := List.mem_of_getElem? (i := 244) (by decide +kernel)
set_option maxRecDepth 100000 in
theorem m_208 : Cond.methodLink "java/lang/IllegalArgumentException" 7 ⟨"java/lang/RuntimeException", "<init>", "(Ljava/lang/String;)V"⟩ ∈ lw_tbl := List.mem_of_getElem? (i := 245) (by decide +kernel)
set_option maxRecDepth 100000 in
theorem m_209 : Cond.instanceMethod ⟨"java/lang/RuntimeException", "<init>", "(Ljava/lang/String;)V"⟩ ∈ lw_tbl := List.mem_of_getElem? (i := 246) (by decide +kernel)
set_option maxRecDepth 100000 in
theorem m_210 : Cond.code ⟨"java/lang/RuntimeException", "<init>", "(Ljava/lang/String;)V"⟩ prog_17_method_2_code 2 none ∈ lw_tbl := List.mem_of_getElem? (i := 247) (by decide +kernel)
set_option maxRecDepth 100000 in
theorem m_211 : Cond.methodLink "java/lang/RuntimeException" 7 ⟨"java/lang/Exception", "<init>", "(Ljava/lang/String;)V"⟩ ∈ lw_tbl := List.mem_of_getElem? (i := 248) (by decide +kernel)
set_option maxRecDepth 100000 in
theorem m_212 : Cond.instanceMethod ⟨"java/lang/Exception", "<init>", "(Ljava/lang/String;)V"⟩ ∈ lw_tbl := List.mem_of_getElem? (i := 249) (by decide +kernel)
set_option maxRecDepth 100000 in
theorem m_213 : Cond.code ⟨"java/lang/Exception", "<init>", "(Ljava/lang/String;)V"⟩ prog_12_method_2_code 2 none ∈ lw_tbl := List.mem_of_getElem? (i := 250) (by decide +kernel)
set_option maxRecDepth 100000 in
theorem m_214 : Cond.methodLink "java/lang/Exception" 7 ⟨"java/lang/Throwable", "<init>", "(Ljava/lang/String;)V"⟩ ∈ lw_tbl := List.mem_of_getElem? (i := 251) (by decide +kernel)
set_option maxRecDepth 100000 in
theorem m_215 : Cond.instanceMethod ⟨"java/lang/Throwable", "<init>", "(Ljava/lang/String;)V"⟩ ∈ lw_tbl := List.mem_of_getElem? (i := 252) (by decide +kernel)
set_option maxRecDepth 100000 in
theorem m_216 : Cond.code ⟨"java/lang/Throwable", "<init>", "(Ljava/lang/String;)V"⟩ prog_19_method_2_code 2 none ∈ lw_tbl := List.mem_of_getElem? (i := 253) (by decide +kernel)
set_option maxRecDepth 100000 in
theorem m_218 : Cond.fieldLink "java/lang/Throwable" 31 "java/lang/Throwable" "detailMessage" "Ljava/lang/String;" ∈ lw_tbl := List.mem_of_getElem? (i := 255) (by decide +kernel)
set_option maxRecDepth 100000 in
theorem m_219 : Cond.fieldLink "java/lang/Throwable" 7 "java/lang/Throwable" "cause" "Ljava/lang/Throwable;" ∈ lw_tbl := List.mem_of_getElem? (i := 256) (by decide +kernel)
set_option maxRecDepth 100000 in
theorem m_220 : Cond.fieldLink "java/lang/Throwable" 17 "java/lang/Throwable" "stackTrace" "[Ljava/lang/StackTraceElement;" ∈ lw_tbl := List.mem_of_getElem? (i := 257) (by decide +kernel)
set_option maxRecDepth 100000 in
theorem m_221 : Cond.fieldLink "java/lang/Throwable" 24 "java/lang/Throwable" "suppressedExceptions" "Ljava/util/List;" ∈ lw_tbl := List.mem_of_getElem? (i := 258) (by decide +kernel)
set_option maxRecDepth 100000 in
theorem m_222 : Cond.soleField "java/lang/Throwable" "backtrace" ∈ lw_tbl := List.mem_of_getElem? (i := 259) (by decide +kernel)
set_option maxRecDepth 100000 in
theorem m_223 : Cond.soleField "java/lang/Throwable" "detailMessage" ∈ lw_tbl := List.mem_of_getElem? (i := 260) (by decide +kernel)
set_option maxRecDepth 100000 in
theorem m_224 : Cond.soleField "java/lang/Throwable" "cause" ∈ lw_tbl := List.mem_of_getElem? (i := 261) (by decide +kernel)
set_option maxRecDepth 100000 in
theorem m_225 : Cond.soleField "java/lang/Throwable" "stackTrace" ∈ lw_tbl := List.mem_of_getElem? (i := 262) (by decide +kernel)
set_option maxRecDepth 100000 in
theorem m_226 : Cond.lays "java/lang/IllegalArgumentException" "java/lang/Throwable" "depth" "I" ∈ lw_tbl := List.mem_of_getElem? (i := 263) (by decide +kernel)
set_option maxRecDepth 100000 in
theorem m_227 : Cond.soleField "java/lang/Throwable" "depth" ∈ lw_tbl := List.mem_of_getElem? (i := 264) (by decide +kernel)
set_option maxRecDepth 100000 in
theorem m_228 : Cond.soleField "java/lang/Throwable" "suppressedExceptions" ∈ lw_tbl := List.mem_of_getElem? (i := 265) (by decide +kernel)
set_option maxRecDepth 100000 in
theorem m_229 : Cond.superclass "java/lang/IllegalArgumentException" "java/lang/RuntimeException" ∈ lw_tbl := List.mem_of_getElem? (i := 266) (by decide +kernel)
set_option maxRecDepth 100000 in
theorem m_230 : Cond.arrayClass FieldType.byte ∈ lw_tbl := List.mem_of_getElem? (i := 267) (by decide +kernel)
set_option maxRecDepth 100000 in
theorem m_231 : Cond.classLink "SystemParts" 55 "java/lang/UnsupportedOperationException" ∈ lw_tbl := List.mem_of_getElem? (i := 268) (by decide +kernel)
set_option maxRecDepth 100000 in
theorem m_232 : Cond.instantiable "java/lang/UnsupportedOperationException" 6 ∈ lw_tbl := List.mem_of_getElem? (i := 269) (by decide +kernel)
set_option maxRecDepth 100000 in
theorem m_233 : Cond.castable "java/lang/UnsupportedOperationException" "java/lang/UnsupportedOperationException" ∈ lw_tbl := List.mem_of_getElem? (i := 270) (by decide +kernel)
set_option maxRecDepth 100000 in
theorem m_234 : Cond.selects "java/lang/UnsupportedOperationException" ⟨"java/lang/Throwable", "fillInStackTrace", "(I)Ljava/lang/Throwable;"⟩ ⟨"java/lang/Throwable", "fillInStackTrace", "(I)Ljava/lang/Throwable;"⟩ ∈ lw_tbl := List.mem_of_getElem? (i := 271) (by decide +kernel)
set_option maxRecDepth 100000 in
theorem m_235 : Cond.lays "java/lang/UnsupportedOperationException" "java/lang/Throwable" "cause" "Ljava/lang/Throwable;" ∈ lw_tbl := List.mem_of_getElem? (i := 272) (by decide +kernel)
set_option maxRecDepth 100000 in
theorem m_236 : Cond.lays "java/lang/UnsupportedOperationException" "java/lang/Throwable" "stackTrace" "[Ljava/lang/StackTraceElement;" ∈ lw_tbl := List.mem_of_getElem? (i := 273) (by decide +kernel)
set_option maxRecDepth 100000 in
theorem m_237 : Cond.lays "java/lang/UnsupportedOperationException" "java/lang/Throwable" "suppressedExceptions" "Ljava/util/List;" ∈ lw_tbl := List.mem_of_getElem? (i := 274) (by decide +kernel)
set_option maxRecDepth 100000 in
theorem m_238 : Cond.lays "java/lang/UnsupportedOperationException" "java/lang/Throwable" "detailMessage" "Ljava/lang/String;" ∈ lw_tbl := List.mem_of_getElem? (i := 275) (by decide +kernel)
set_option maxRecDepth 100000 in
theorem m_239 : Cond.lays "java/lang/UnsupportedOperationException" "java/lang/Throwable" "backtrace" "Ljava/lang/Object;" ∈ lw_tbl := List.mem_of_getElem? (i := 276) (by decide +kernel)
set_option maxRecDepth 100000 in
theorem m_240 : Cond.stringRef "SystemParts" 57 "there are twelve parts" ∈ lw_tbl := List.mem_of_getElem? (i := 277) (by decide +kernel)
set_option maxRecDepth 100000 in
theorem m_241 : Cond.methodLink "SystemParts" 59 ⟨"java/lang/UnsupportedOperationException", "<init>", "(Ljava/lang/String;)V"⟩ ∈ lw_tbl := List.mem_of_getElem? (i := 278) (by decide +kernel)
set_option maxRecDepth 100000 in
theorem m_242 : Cond.instanceMethod ⟨"java/lang/UnsupportedOperationException", "<init>", "(Ljava/lang/String;)V"⟩ ∈ lw_tbl := List.mem_of_getElem? (i := 279) (by decide +kernel)
set_option maxRecDepth 100000 in
theorem m_243 : Cond.code ⟨"java/lang/UnsupportedOperationException", "<init>", "(Ljava/lang/String;)V"⟩ prog_20_method_2_code 2 none ∈ lw_tbl := List.mem_of_getElem? (i := 280) (by decide +kernel)
set_option maxRecDepth 100000 in
theorem m_244 : Cond.methodLink "java/lang/UnsupportedOperationException" 7 ⟨"java/lang/RuntimeException", "<init>", "(Ljava/lang/String;)V"⟩ ∈ lw_tbl := List.mem_of_getElem? (i := 281) (by decide +kernel)
set_option maxRecDepth 100000 in
theorem m_245 : Cond.lays "java/lang/UnsupportedOperationException" "java/lang/Throwable" "depth" "I" ∈ lw_tbl := List.mem_of_getElem? (i := 282) (by decide +kernel)
set_option maxRecDepth 100000 in
theorem m_246 : Cond.superclass "java/lang/UnsupportedOperationException" "java/lang/RuntimeException" ∈ lw_tbl := List.mem_of_getElem? (i := 283) (by decide +kernel)
set_option maxRecDepth 100000 in
theorem m_247 : Cond.classLink "SystemParts" 60 "SystemParts$Seat" ∈ lw_tbl := List.mem_of_getElem? (i := 284) (by decide +kernel)
set_option maxRecDepth 100000 in
theorem m_248 : Cond.instantiable "SystemParts$Seat" 4 ∈ lw_tbl := List.mem_of_getElem? (i := 285) (by decide +kernel)
set_option maxRecDepth 100000 in
theorem m_249 : Cond.methodLink "SystemParts" 62 ⟨"SystemParts$Seat", "<init>", "(IIII)V"⟩ ∈ lw_tbl := List.mem_of_getElem? (i := 286) (by decide +kernel)
set_option maxRecDepth 100000 in
theorem m_250 : Cond.instanceMethod ⟨"SystemParts$Seat", "<init>", "(IIII)V"⟩ ∈ lw_tbl := List.mem_of_getElem? (i := 287) (by decide +kernel)
set_option maxRecDepth 100000 in
theorem m_251 : Cond.code ⟨"SystemParts$Seat", "<init>", "(IIII)V"⟩ prog_7_method_1_code 5 none ∈ lw_tbl := List.mem_of_getElem? (i := 288) (by decide +kernel)
set_option maxRecDepth 100000 in
theorem m_252 : Cond.methodLink "SystemParts$Seat" 1 ⟨"java/lang/Object", "<init>", "()V"⟩ ∈ lw_tbl := List.mem_of_getElem? (i := 289) (by decide +kernel)
set_option maxRecDepth 100000 in
theorem m_253 : Cond.fieldLink "SystemParts$Seat" 7 "SystemParts$Seat" "from" "I" ∈ lw_tbl := List.mem_of_getElem? (i := 290) (by decide +kernel)
set_option maxRecDepth 100000 in
theorem m_254 : Cond.fieldLink "SystemParts" 79 "SystemParts$Seat" "from" "I" ∈ lw_tbl := List.mem_of_getElem? (i := 291) (by decide +kernel)
set_option maxRecDepth 100000 in
theorem m_255 : Cond.fieldLink "SystemParts$Cells" 7 "SystemParts$Seat" "length" "I" ∈ lw_tbl := List.mem_of_getElem? (i := 292) (by decide +kernel)
set_option maxRecDepth 100000 in
theorem m_256 : Cond.fieldLink "SystemParts$Seat" 13 "SystemParts$Seat" "length" "I" ∈ lw_tbl := List.mem_of_getElem? (i := 293) (by decide +kernel)
set_option maxRecDepth 100000 in
theorem m_257 : Cond.fieldLink "SystemParts$Seat" 16 "SystemParts$Seat" "line" "I" ∈ lw_tbl := List.mem_of_getElem? (i := 294) (by decide +kernel)
set_option maxRecDepth 100000 in
theorem m_258 : Cond.fieldLink "SystemParts" 220 "SystemParts$Seat" "line" "I" ∈ lw_tbl := List.mem_of_getElem? (i := 295) (by decide +kernel)
set_option maxRecDepth 100000 in
theorem m_259 : Cond.fieldLink "SystemParts$Seat" 19 "SystemParts$Seat" "waits" "I" ∈ lw_tbl := List.mem_of_getElem? (i := 296) (by decide +kernel)
set_option maxRecDepth 100000 in
theorem m_260 : Cond.laysFinal "SystemParts$Seat" "SystemParts$Seat" "from" "I" ∈ lw_tbl := List.mem_of_getElem? (i := 297) (by decide +kernel)
set_option maxRecDepth 100000 in
theorem m_261 : Cond.soleField "SystemParts$Seat" "from" ∈ lw_tbl := List.mem_of_getElem? (i := 298) (by decide +kernel)
set_option maxRecDepth 100000 in
theorem m_262 : Cond.laysFinal "SystemParts$Seat" "SystemParts$Seat" "length" "I" ∈ lw_tbl := List.mem_of_getElem? (i := 299) (by decide +kernel)
set_option maxRecDepth 100000 in
theorem m_263 : Cond.soleField "SystemParts$Seat" "length" ∈ lw_tbl := List.mem_of_getElem? (i := 300) (by decide +kernel)
set_option maxRecDepth 100000 in
theorem m_264 : Cond.laysFinal "SystemParts$Seat" "SystemParts$Seat" "line" "I" ∈ lw_tbl := List.mem_of_getElem? (i := 301) (by decide +kernel)
set_option maxRecDepth 100000 in
theorem m_265 : Cond.soleField "SystemParts$Seat" "line" ∈ lw_tbl := List.mem_of_getElem? (i := 302) (by decide +kernel)
set_option maxRecDepth 100000 in
theorem m_266 : Cond.laysFinal "SystemParts$Seat" "SystemParts$Seat" "waits" "I" ∈ lw_tbl := List.mem_of_getElem? (i := 303) (by decide +kernel)
set_option maxRecDepth 100000 in
theorem m_267 : Cond.soleField "SystemParts$Seat" "waits" ∈ lw_tbl := List.mem_of_getElem? (i := 304) (by decide +kernel)
set_option maxRecDepth 100000 in
theorem m_268 : Cond.superclass "SystemParts$Seat" "java/lang/Object" ∈ lw_tbl := List.mem_of_getElem? (i := 305) (by decide +kernel)
set_option maxRecDepth 100000 in
theorem m_269 : Cond.methodLink "SystemParts" 65 ⟨"SystemParts", "newPart", "(ILSystemParts$Seat;)LSystemParts$Part;"⟩ ∈ lw_tbl := List.mem_of_getElem? (i := 306) (by decide +kernel)
set_option maxRecDepth 100000 in
theorem m_270 : Cond.static ⟨"SystemParts", "newPart", "(ILSystemParts$Seat;)LSystemParts$Part;"⟩ ∈ lw_tbl := List.mem_of_getElem? (i := 307) (by decide +kernel)
set_option maxRecDepth 100000 in
theorem m_271 : Cond.code ⟨"SystemParts", "newPart", "(ILSystemParts$Seat;)LSystemParts$Part;"⟩ prog_1_method_18_code 2 (some (FieldType.object "SystemParts$Part")) ∈ lw_tbl := List.mem_of_getElem? (i := 308) (by decide +kernel)
set_option maxRecDepth 100000 in
theorem m_272 : Cond.classLink "SystemParts" 73 "SystemParts$Cells" ∈ lw_tbl := List.mem_of_getElem? (i := 309) (by decide +kernel)
set_option maxRecDepth 100000 in
theorem m_273 : Cond.instantiable "SystemParts$Cells" 3 ∈ lw_tbl := List.mem_of_getElem? (i := 310) (by decide +kernel)
set_option maxRecDepth 100000 in
theorem m_274 : Cond.methodLink "SystemParts" 188 ⟨"SystemParts$Cells", "<init>", "(LSystemParts$Seat;Z)V"⟩ ∈ lw_tbl := List.mem_of_getElem? (i := 311) (by decide +kernel)
set_option maxRecDepth 100000 in
theorem m_275 : Cond.instanceMethod ⟨"SystemParts$Cells", "<init>", "(LSystemParts$Seat;Z)V"⟩ ∈ lw_tbl := List.mem_of_getElem? (i := 312) (by decide +kernel)
set_option maxRecDepth 100000 in
theorem m_276 : Cond.code ⟨"SystemParts$Cells", "<init>", "(LSystemParts$Seat;Z)V"⟩ prog_2_method_1_code 3 none ∈ lw_tbl := List.mem_of_getElem? (i := 313) (by decide +kernel)
set_option maxRecDepth 100000 in
theorem m_277 : Cond.methodLink "SystemParts$Cells" 1 ⟨"SystemParts$Part", "<init>", "(LSystemParts$Seat;)V"⟩ ∈ lw_tbl := List.mem_of_getElem? (i := 314) (by decide +kernel)
set_option maxRecDepth 100000 in
theorem m_278 : Cond.instanceMethod ⟨"SystemParts$Part", "<init>", "(LSystemParts$Seat;)V"⟩ ∈ lw_tbl := List.mem_of_getElem? (i := 315) (by decide +kernel)
set_option maxRecDepth 100000 in
theorem m_279 : Cond.code ⟨"SystemParts$Part", "<init>", "(LSystemParts$Seat;)V"⟩ prog_5_method_1_code 2 none ∈ lw_tbl := List.mem_of_getElem? (i := 316) (by decide +kernel)
set_option maxRecDepth 100000 in
theorem m_280 : Cond.methodLink "SystemParts$Part" 1 ⟨"java/lang/Object", "<init>", "()V"⟩ ∈ lw_tbl := List.mem_of_getElem? (i := 317) (by decide +kernel)
set_option maxRecDepth 100000 in
theorem m_281 : Cond.fieldLink "SystemParts$Cells" 13 "SystemParts$Cells" "cells" "[I" ∈ lw_tbl := List.mem_of_getElem? (i := 318) (by decide +kernel)
set_option maxRecDepth 100000 in
theorem m_282 : Cond.fieldLink "SystemParts$Cells" 19 "SystemParts$Cells" "fixed" "Z" ∈ lw_tbl := List.mem_of_getElem? (i := 319) (by decide +kernel)
set_option maxRecDepth 100000 in
theorem m_283 : Cond.fieldLink "SystemParts$Part" 7 "SystemParts$Part" "seat" "LSystemParts$Seat;" ∈ lw_tbl := List.mem_of_getElem? (i := 320) (by decide +kernel)
set_option maxRecDepth 100000 in
theorem m_284 : Cond.fieldLink "SystemParts" 75 "SystemParts$Cells" "seat" "LSystemParts$Seat;" ∈ lw_tbl := List.mem_of_getElem? (i := 321) (by decide +kernel)
set_option maxRecDepth 100000 in
theorem m_285 : Cond.sameField "SystemParts$Cells" "SystemParts$Part" "seat" "LSystemParts$Seat;" ∈ lw_tbl := List.mem_of_getElem? (i := 322) (by decide +kernel)
set_option maxRecDepth 100000 in
theorem m_286 : Cond.fieldLink "SystemParts" 99 "SystemParts$Part" "seat" "LSystemParts$Seat;" ∈ lw_tbl := List.mem_of_getElem? (i := 323) (by decide +kernel)
set_option maxRecDepth 100000 in
theorem m_287 : Cond.laysFinal "SystemParts$Cells" "SystemParts$Cells" "cells" "[I" ∈ lw_tbl := List.mem_of_getElem? (i := 324) (by decide +kernel)
set_option maxRecDepth 100000 in
theorem m_288 : Cond.soleField "SystemParts$Cells" "cells" ∈ lw_tbl := List.mem_of_getElem? (i := 325) (by decide +kernel)
set_option maxRecDepth 100000 in
theorem m_289 : Cond.laysFinal "SystemParts$Cells" "SystemParts$Cells" "fixed" "Z" ∈ lw_tbl := List.mem_of_getElem? (i := 326) (by decide +kernel)
set_option maxRecDepth 100000 in
theorem m_290 : Cond.soleField "SystemParts$Cells" "fixed" ∈ lw_tbl := List.mem_of_getElem? (i := 327) (by decide +kernel)
set_option maxRecDepth 100000 in
theorem m_291 : Cond.laysFinal "SystemParts$Cells" "SystemParts$Part" "seat" "LSystemParts$Seat;" ∈ lw_tbl := List.mem_of_getElem? (i := 328) (by decide +kernel)
set_option maxRecDepth 100000 in
theorem m_292 : Cond.soleField "SystemParts$Part" "seat" ∈ lw_tbl := List.mem_of_getElem? (i := 329) (by decide +kernel)
set_option maxRecDepth 100000 in
theorem m_293 : Cond.superclass "SystemParts$Cells" "SystemParts$Part" ∈ lw_tbl := List.mem_of_getElem? (i := 330) (by decide +kernel)
set_option maxRecDepth 100000 in
theorem m_294 : Cond.classLink "SystemParts" 184 "SystemParts$Timer" ∈ lw_tbl := List.mem_of_getElem? (i := 331) (by decide +kernel)
set_option maxRecDepth 100000 in
theorem m_295 : Cond.instantiable "SystemParts$Timer" 5 ∈ lw_tbl := List.mem_of_getElem? (i := 332) (by decide +kernel)
set_option maxRecDepth 100000 in
theorem m_296 : Cond.methodLink "SystemParts" 191 ⟨"SystemParts$Timer", "<init>", "(LSystemParts$Seat;)V"⟩ ∈ lw_tbl := List.mem_of_getElem? (i := 333) (by decide +kernel)
set_option maxRecDepth 100000 in
theorem m_297 : Cond.instanceMethod ⟨"SystemParts$Timer", "<init>", "(LSystemParts$Seat;)V"⟩ ∈ lw_tbl := List.mem_of_getElem? (i := 334) (by decide +kernel)
set_option maxRecDepth 100000 in
theorem m_298 : Cond.code ⟨"SystemParts$Timer", "<init>", "(LSystemParts$Seat;)V"⟩ prog_9_method_1_code 2 none ∈ lw_tbl := List.mem_of_getElem? (i := 335) (by decide +kernel)
set_option maxRecDepth 100000 in
theorem m_299 : Cond.methodLink "SystemParts$Timer" 1 ⟨"SystemParts$Part", "<init>", "(LSystemParts$Seat;)V"⟩ ∈ lw_tbl := List.mem_of_getElem? (i := 336) (by decide +kernel)
set_option maxRecDepth 100000 in
theorem m_300 : Cond.fieldLink "SystemParts$Timer" 7 "SystemParts$Timer" "reached" "I" ∈ lw_tbl := List.mem_of_getElem? (i := 337) (by decide +kernel)
set_option maxRecDepth 100000 in
theorem m_301 : Cond.fieldLink "SystemParts$Timer" 13 "SystemParts$Timer" "limit" "I" ∈ lw_tbl := List.mem_of_getElem? (i := 338) (by decide +kernel)
set_option maxRecDepth 100000 in
theorem m_302 : Cond.fieldLink "SystemParts$Timer" 16 "SystemParts$Timer" "mode" "I" ∈ lw_tbl := List.mem_of_getElem? (i := 339) (by decide +kernel)
set_option maxRecDepth 100000 in
theorem m_303 : Cond.fieldLink "SystemParts$Timer" 19 "SystemParts$Timer" "fired" "I" ∈ lw_tbl := List.mem_of_getElem? (i := 340) (by decide +kernel)
set_option maxRecDepth 100000 in
theorem m_304 : Cond.lays "SystemParts$Timer" "SystemParts$Timer" "reached" "I" ∈ lw_tbl := List.mem_of_getElem? (i := 341) (by decide +kernel)
set_option maxRecDepth 100000 in
theorem m_305 : Cond.soleField "SystemParts$Timer" "reached" ∈ lw_tbl := List.mem_of_getElem? (i := 342) (by decide +kernel)
set_option maxRecDepth 100000 in
theorem m_306 : Cond.lays "SystemParts$Timer" "SystemParts$Timer" "limit" "I" ∈ lw_tbl := List.mem_of_getElem? (i := 343) (by decide +kernel)
set_option maxRecDepth 100000 in
theorem m_307 : Cond.soleField "SystemParts$Timer" "limit" ∈ lw_tbl := List.mem_of_getElem? (i := 344) (by decide +kernel)
set_option maxRecDepth 100000 in
theorem m_308 : Cond.lays "SystemParts$Timer" "SystemParts$Timer" "mode" "I" ∈ lw_tbl := List.mem_of_getElem? (i := 345) (by decide +kernel)
set_option maxRecDepth 100000 in
theorem m_309 : Cond.soleField "SystemParts$Timer" "mode" ∈ lw_tbl := List.mem_of_getElem? (i := 346) (by decide +kernel)
set_option maxRecDepth 100000 in
theorem m_310 : Cond.lays "SystemParts$Timer" "SystemParts$Timer" "fired" "I" ∈ lw_tbl := List.mem_of_getElem? (i := 347) (by decide +kernel)
set_option maxRecDepth 100000 in
theorem m_311 : Cond.soleField "SystemParts$Timer" "fired" ∈ lw_tbl := List.mem_of_getElem? (i := 348) (by decide +kernel)
set_option maxRecDepth 100000 in
theorem m_312 : Cond.laysFinal "SystemParts$Timer" "SystemParts$Part" "seat" "LSystemParts$Seat;" ∈ lw_tbl := List.mem_of_getElem? (i := 349) (by decide +kernel)
set_option maxRecDepth 100000 in
theorem m_313 : Cond.superclass "SystemParts$Timer" "SystemParts$Part" ∈ lw_tbl := List.mem_of_getElem? (i := 350) (by decide +kernel)
set_option maxRecDepth 100000 in
theorem m_314 : Cond.instantiable "SystemParts$Serial" 9 ∈ lw_tbl := List.mem_of_getElem? (i := 351) (by decide +kernel)
set_option maxRecDepth 100000 in
theorem m_315 : Cond.methodLink "SystemParts" 194 ⟨"SystemParts$Serial", "<init>", "(LSystemParts$Seat;)V"⟩ ∈ lw_tbl := List.mem_of_getElem? (i := 352) (by decide +kernel)
set_option maxRecDepth 100000 in
theorem m_316 : Cond.instanceMethod ⟨"SystemParts$Serial", "<init>", "(LSystemParts$Seat;)V"⟩ ∈ lw_tbl := List.mem_of_getElem? (i := 353) (by decide +kernel)
set_option maxRecDepth 100000 in
theorem m_317 : Cond.code ⟨"SystemParts$Serial", "<init>", "(LSystemParts$Seat;)V"⟩ prog_8_method_1_code 2 none ∈ lw_tbl := List.mem_of_getElem? (i := 354) (by decide +kernel)
set_option maxRecDepth 100000 in
theorem m_318 : Cond.methodLink "SystemParts$Serial" 3 ⟨"SystemParts$Part", "<init>", "(LSystemParts$Seat;)V"⟩ ∈ lw_tbl := List.mem_of_getElem? (i := 355) (by decide +kernel)
set_option maxRecDepth 100000 in
theorem m_319 : Cond.fieldLink "SystemParts$Serial" 9 "SystemParts$Serial" "come" "[I" ∈ lw_tbl := List.mem_of_getElem? (i := 356) (by decide +kernel)
set_option maxRecDepth 100000 in
theorem m_320 : Cond.fieldLink "SystemParts$Serial" 13 "SystemParts$Serial" "firstCome" "I" ∈ lw_tbl := List.mem_of_getElem? (i := 357) (by decide +kernel)
set_option maxRecDepth 100000 in
theorem m_321 : Cond.fieldLink "SystemParts$Serial" 17 "SystemParts$Serial" "waiting" "I" ∈ lw_tbl := List.mem_of_getElem? (i := 358) (by decide +kernel)
set_option maxRecDepth 100000 in
theorem m_322 : Cond.fieldLinkNest "SystemParts" 232 "SystemParts$Serial" "waiting" "I" "SystemParts" ∈ lw_tbl := List.mem_of_getElem? (i := 359) (by decide +kernel)
set_option maxRecDepth 100000 in
theorem m_323 : Cond.fieldLink "SystemParts$Serial" 20 "SystemParts$Serial" "out" "[I" ∈ lw_tbl := List.mem_of_getElem? (i := 360) (by decide +kernel)
set_option maxRecDepth 100000 in
theorem m_324 : Cond.fieldLink "SystemParts$Serial" 23 "SystemParts$Serial" "gone" "I" ∈ lw_tbl := List.mem_of_getElem? (i := 361) (by decide +kernel)
set_option maxRecDepth 100000 in
theorem m_325 : Cond.fieldLinkNest "SystemParts" 235 "SystemParts$Serial" "gone" "I" "SystemParts" ∈ lw_tbl := List.mem_of_getElem? (i := 362) (by decide +kernel)
set_option maxRecDepth 100000 in
theorem m_326 : Cond.fieldLink "SystemParts$Serial" 26 "SystemParts$Serial" "sending" "I" ∈ lw_tbl := List.mem_of_getElem? (i := 363) (by decide +kernel)
set_option maxRecDepth 100000 in
theorem m_327 : Cond.fieldLink "SystemParts$Serial" 29 "SystemParts$Serial" "stepsLeft" "I" ∈ lw_tbl := List.mem_of_getElem? (i := 364) (by decide +kernel)
set_option maxRecDepth 100000 in
theorem m_328 : Cond.fieldLink "SystemParts$Serial" 32 "SystemParts$Serial" "mode" "I" ∈ lw_tbl := List.mem_of_getElem? (i := 365) (by decide +kernel)
set_option maxRecDepth 100000 in
theorem m_329 : Cond.laysFinal "SystemParts$Serial" "SystemParts$Serial" "come" "[I" ∈ lw_tbl := List.mem_of_getElem? (i := 366) (by decide +kernel)
set_option maxRecDepth 100000 in
theorem m_330 : Cond.soleField "SystemParts$Serial" "come" ∈ lw_tbl := List.mem_of_getElem? (i := 367) (by decide +kernel)
set_option maxRecDepth 100000 in
theorem m_331 : Cond.lays "SystemParts$Serial" "SystemParts$Serial" "firstCome" "I" ∈ lw_tbl := List.mem_of_getElem? (i := 368) (by decide +kernel)
set_option maxRecDepth 100000 in
theorem m_332 : Cond.soleField "SystemParts$Serial" "firstCome" ∈ lw_tbl := List.mem_of_getElem? (i := 369) (by decide +kernel)
set_option maxRecDepth 100000 in
theorem m_333 : Cond.lays "SystemParts$Serial" "SystemParts$Serial" "waiting" "I" ∈ lw_tbl := List.mem_of_getElem? (i := 370) (by decide +kernel)
set_option maxRecDepth 100000 in
theorem m_334 : Cond.soleField "SystemParts$Serial" "waiting" ∈ lw_tbl := List.mem_of_getElem? (i := 371) (by decide +kernel)
set_option maxRecDepth 100000 in
theorem m_335 : Cond.laysFinal "SystemParts$Serial" "SystemParts$Serial" "out" "[I" ∈ lw_tbl := List.mem_of_getElem? (i := 372) (by decide +kernel)
set_option maxRecDepth 100000 in
theorem m_336 : Cond.soleField "SystemParts$Serial" "out" ∈ lw_tbl := List.mem_of_getElem? (i := 373) (by decide +kernel)
set_option maxRecDepth 100000 in
theorem m_337 : Cond.lays "SystemParts$Serial" "SystemParts$Serial" "gone" "I" ∈ lw_tbl := List.mem_of_getElem? (i := 374) (by decide +kernel)
set_option maxRecDepth 100000 in
theorem m_338 : Cond.soleField "SystemParts$Serial" "gone" ∈ lw_tbl := List.mem_of_getElem? (i := 375) (by decide +kernel)
set_option maxRecDepth 100000 in
theorem m_339 : Cond.lays "SystemParts$Serial" "SystemParts$Serial" "sending" "I" ∈ lw_tbl := List.mem_of_getElem? (i := 376) (by decide +kernel)
set_option maxRecDepth 100000 in
theorem m_340 : Cond.soleField "SystemParts$Serial" "sending" ∈ lw_tbl := List.mem_of_getElem? (i := 377) (by decide +kernel)
set_option maxRecDepth 100000 in
theorem m_341 : Cond.lays "SystemParts$Serial" "SystemParts$Serial" "stepsLeft" "I" ∈ lw_tbl := List.mem_of_getElem? (i := 378) (by decide +kernel)
set_option maxRecDepth 100000 in
theorem m_342 : Cond.soleField "SystemParts$Serial" "stepsLeft" ∈ lw_tbl := List.mem_of_getElem? (i := 379) (by decide +kernel)
set_option maxRecDepth 100000 in
theorem m_343 : Cond.lays "SystemParts$Serial" "SystemParts$Serial" "mode" "I" ∈ lw_tbl := List.mem_of_getElem? (i := 380) (by decide +kernel)
set_option maxRecDepth 100000 in
theorem m_344 : Cond.soleField "SystemParts$Serial" "mode" ∈ lw_tbl := List.mem_of_getElem? (i := 381) (by decide +kernel)
set_option maxRecDepth 100000 in
theorem m_345 : Cond.laysFinal "SystemParts$Serial" "SystemParts$Part" "seat" "LSystemParts$Seat;" ∈ lw_tbl := List.mem_of_getElem? (i := 382) (by decide +kernel)
set_option maxRecDepth 100000 in
theorem m_346 : Cond.superclass "SystemParts$Serial" "SystemParts$Part" ∈ lw_tbl := List.mem_of_getElem? (i := 383) (by decide +kernel)
set_option maxRecDepth 100000 in
theorem m_347 : Cond.classLink "SystemParts" 186 "SystemParts$Rows" ∈ lw_tbl := List.mem_of_getElem? (i := 384) (by decide +kernel)
set_option maxRecDepth 100000 in
theorem m_348 : Cond.instantiable "SystemParts$Rows" 8 ∈ lw_tbl := List.mem_of_getElem? (i := 385) (by decide +kernel)
set_option maxRecDepth 100000 in
theorem m_349 : Cond.methodLink "SystemParts" 195 ⟨"SystemParts$Rows", "<init>", "(LSystemParts$Seat;)V"⟩ ∈ lw_tbl := List.mem_of_getElem? (i := 386) (by decide +kernel)
set_option maxRecDepth 100000 in
theorem m_350 : Cond.instanceMethod ⟨"SystemParts$Rows", "<init>", "(LSystemParts$Seat;)V"⟩ ∈ lw_tbl := List.mem_of_getElem? (i := 387) (by decide +kernel)
set_option maxRecDepth 100000 in
theorem m_351 : Cond.code ⟨"SystemParts$Rows", "<init>", "(LSystemParts$Seat;)V"⟩ prog_6_method_1_code 2 none ∈ lw_tbl := List.mem_of_getElem? (i := 388) (by decide +kernel)
set_option maxRecDepth 100000 in
theorem m_352 : Cond.methodLink "SystemParts$Rows" 3 ⟨"SystemParts$Part", "<init>", "(LSystemParts$Seat;)V"⟩ ∈ lw_tbl := List.mem_of_getElem? (i := 389) (by decide +kernel)
set_option maxRecDepth 100000 in
theorem m_353 : Cond.fieldLink "SystemParts$Rows" 9 "SystemParts$Rows" "rows" "[I" ∈ lw_tbl := List.mem_of_getElem? (i := 390) (by decide +kernel)
set_option maxRecDepth 100000 in
theorem m_354 : Cond.fieldLink "SystemParts$Rows" 13 "SystemParts$Rows" "window" "[I" ∈ lw_tbl := List.mem_of_getElem? (i := 391) (by decide +kernel)
set_option maxRecDepth 100000 in
theorem m_355 : Cond.fieldLink "SystemParts$Rows" 16 "SystemParts$Rows" "row" "I" ∈ lw_tbl := List.mem_of_getElem? (i := 392) (by decide +kernel)
set_option maxRecDepth 100000 in
theorem m_356 : Cond.fieldLink "SystemParts$Rows" 20 "SystemParts$Rows" "work" "I" ∈ lw_tbl := List.mem_of_getElem? (i := 393) (by decide +kernel)
set_option maxRecDepth 100000 in
theorem m_357 : Cond.fieldLink "SystemParts$Rows" 23 "SystemParts$Rows" "workRow" "I" ∈ lw_tbl := List.mem_of_getElem? (i := 394) (by decide +kernel)
set_option maxRecDepth 100000 in
theorem m_358 : Cond.fieldLink "SystemParts$Rows" 26 "SystemParts$Rows" "stepsLeft" "I" ∈ lw_tbl := List.mem_of_getElem? (i := 395) (by decide +kernel)
set_option maxRecDepth 100000 in
theorem m_359 : Cond.fieldLink "SystemParts$Rows" 29 "SystemParts$Rows" "done" "I" ∈ lw_tbl := List.mem_of_getElem? (i := 396) (by decide +kernel)
set_option maxRecDepth 100000 in
theorem m_360 : Cond.laysFinal "SystemParts$Rows" "SystemParts$Rows" "rows" "[I" ∈ lw_tbl := List.mem_of_getElem? (i := 397) (by decide +kernel)
set_option maxRecDepth 100000 in
theorem m_361 : Cond.soleField "SystemParts$Rows" "rows" ∈ lw_tbl := List.mem_of_getElem? (i := 398) (by decide +kernel)
set_option maxRecDepth 100000 in
theorem m_362 : Cond.laysFinal "SystemParts$Rows" "SystemParts$Rows" "window" "[I" ∈ lw_tbl := List.mem_of_getElem? (i := 399) (by decide +kernel)
set_option maxRecDepth 100000 in
theorem m_363 : Cond.soleField "SystemParts$Rows" "window" ∈ lw_tbl := List.mem_of_getElem? (i := 400) (by decide +kernel)
set_option maxRecDepth 100000 in
theorem m_364 : Cond.lays "SystemParts$Rows" "SystemParts$Rows" "row" "I" ∈ lw_tbl := List.mem_of_getElem? (i := 401) (by decide +kernel)
set_option maxRecDepth 100000 in
theorem m_365 : Cond.soleField "SystemParts$Rows" "row" ∈ lw_tbl := List.mem_of_getElem? (i := 402) (by decide +kernel)
set_option maxRecDepth 100000 in
theorem m_366 : Cond.lays "SystemParts$Rows" "SystemParts$Rows" "work" "I" ∈ lw_tbl := List.mem_of_getElem? (i := 403) (by decide +kernel)
set_option maxRecDepth 100000 in
theorem m_367 : Cond.soleField "SystemParts$Rows" "work" ∈ lw_tbl := List.mem_of_getElem? (i := 404) (by decide +kernel)
set_option maxRecDepth 100000 in
theorem m_368 : Cond.lays "SystemParts$Rows" "SystemParts$Rows" "workRow" "I" ∈ lw_tbl := List.mem_of_getElem? (i := 405) (by decide +kernel)
set_option maxRecDepth 100000 in
theorem m_369 : Cond.soleField "SystemParts$Rows" "workRow" ∈ lw_tbl := List.mem_of_getElem? (i := 406) (by decide +kernel)
set_option maxRecDepth 100000 in
theorem m_370 : Cond.lays "SystemParts$Rows" "SystemParts$Rows" "stepsLeft" "I" ∈ lw_tbl := List.mem_of_getElem? (i := 407) (by decide +kernel)
set_option maxRecDepth 100000 in
theorem m_371 : Cond.soleField "SystemParts$Rows" "stepsLeft" ∈ lw_tbl := List.mem_of_getElem? (i := 408) (by decide +kernel)
set_option maxRecDepth 100000 in
theorem m_372 : Cond.lays "SystemParts$Rows" "SystemParts$Rows" "done" "I" ∈ lw_tbl := List.mem_of_getElem? (i := 409) (by decide +kernel)
set_option maxRecDepth 100000 in
theorem m_373 : Cond.soleField "SystemParts$Rows" "done" ∈ lw_tbl := List.mem_of_getElem? (i := 410) (by decide +kernel)
set_option maxRecDepth 100000 in
theorem m_374 : Cond.laysFinal "SystemParts$Rows" "SystemParts$Part" "seat" "LSystemParts$Seat;" ∈ lw_tbl := List.mem_of_getElem? (i := 411) (by decide +kernel)
set_option maxRecDepth 100000 in
theorem m_375 : Cond.superclass "SystemParts$Rows" "SystemParts$Part" ∈ lw_tbl := List.mem_of_getElem? (i := 412) (by decide +kernel)
set_option maxRecDepth 100000 in
theorem m_376 : Cond.classLink "SystemParts" 196 "SystemParts$Counts" ∈ lw_tbl := List.mem_of_getElem? (i := 413) (by decide +kernel)
set_option maxRecDepth 100000 in
theorem m_377 : Cond.instantiable "SystemParts$Counts" 2 ∈ lw_tbl := List.mem_of_getElem? (i := 414) (by decide +kernel)
set_option maxRecDepth 100000 in
theorem m_378 : Cond.methodLink "SystemParts" 198 ⟨"SystemParts$Counts", "<init>", "(LSystemParts$Seat;)V"⟩ ∈ lw_tbl := List.mem_of_getElem? (i := 415) (by decide +kernel)
set_option maxRecDepth 100000 in
theorem m_379 : Cond.instanceMethod ⟨"SystemParts$Counts", "<init>", "(LSystemParts$Seat;)V"⟩ ∈ lw_tbl := List.mem_of_getElem? (i := 416) (by decide +kernel)
set_option maxRecDepth 100000 in
theorem m_380 : Cond.code ⟨"SystemParts$Counts", "<init>", "(LSystemParts$Seat;)V"⟩ prog_3_method_1_code 2 none ∈ lw_tbl := List.mem_of_getElem? (i := 417) (by decide +kernel)
set_option maxRecDepth 100000 in
theorem m_381 : Cond.methodLink "SystemParts$Counts" 3 ⟨"SystemParts$Part", "<init>", "(LSystemParts$Seat;)V"⟩ ∈ lw_tbl := List.mem_of_getElem? (i := 418) (by decide +kernel)
set_option maxRecDepth 100000 in
theorem m_382 : Cond.fieldLink "SystemParts$Counts" 9 "SystemParts$Counts" "tallies" "[I" ∈ lw_tbl := List.mem_of_getElem? (i := 419) (by decide +kernel)
set_option maxRecDepth 100000 in
theorem m_383 : Cond.laysFinal "SystemParts$Counts" "SystemParts$Counts" "tallies" "[I" ∈ lw_tbl := List.mem_of_getElem? (i := 420) (by decide +kernel)
set_option maxRecDepth 100000 in
theorem m_384 : Cond.soleField "SystemParts$Counts" "tallies" ∈ lw_tbl := List.mem_of_getElem? (i := 421) (by decide +kernel)
set_option maxRecDepth 100000 in
theorem m_385 : Cond.laysFinal "SystemParts$Counts" "SystemParts$Part" "seat" "LSystemParts$Seat;" ∈ lw_tbl := List.mem_of_getElem? (i := 422) (by decide +kernel)
set_option maxRecDepth 100000 in
theorem m_386 : Cond.superclass "SystemParts$Counts" "SystemParts$Part" ∈ lw_tbl := List.mem_of_getElem? (i := 423) (by decide +kernel)
set_option maxRecDepth 100000 in
theorem m_387 : Cond.methodLink "SystemPartsLaw" 63 ⟨"SystemPartsLaw", "load", "(LSystemParts;II[J)I"⟩ ∈ lw_tbl := List.mem_of_getElem? (i := 424) (by decide +kernel)
set_option maxRecDepth 100000 in
theorem m_388 : Cond.static ⟨"SystemPartsLaw", "load", "(LSystemParts;II[J)I"⟩ ∈ lw_tbl := List.mem_of_getElem? (i := 425) (by decide +kernel)
set_option maxRecDepth 100000 in
theorem m_389 : Cond.codeWith ⟨"SystemPartsLaw", "load", "(LSystemParts;II[J)I"⟩ method_4_code 5 (some FieldType.int) [(0, 10, 13, 13)] ∈ lw_tbl := List.mem_of_getElem? (i := 426) (by decide +kernel)
set_option maxRecDepth 100000 in
theorem m_390 : Cond.methodLink "SystemPartsLaw" 17 ⟨"SystemParts", "load", "(II)I"⟩ ∈ lw_tbl := List.mem_of_getElem? (i := 427) (by decide +kernel)
set_option maxRecDepth 100000 in
theorem m_391 : Cond.instanceMethod ⟨"SystemParts", "load", "(II)I"⟩ ∈ lw_tbl := List.mem_of_getElem? (i := 428) (by decide +kernel)
set_option maxRecDepth 100000 in
theorem m_392 : Cond.selects "SystemParts" ⟨"SystemParts", "load", "(II)I"⟩ ⟨"SystemParts", "load", "(II)I"⟩ ∈ lw_tbl := List.mem_of_getElem? (i := 429) (by decide +kernel)
set_option maxRecDepth 100000 in
theorem m_393 : Cond.code ⟨"SystemParts", "load", "(II)I"⟩ prog_1_method_3_code 6 (some FieldType.int) ∈ lw_tbl := List.mem_of_getElem? (i := 430) (by decide +kernel)
set_option maxRecDepth 100000 in
theorem m_394 : Cond.methodLink "SystemParts" 69 ⟨"SystemParts", "partWith", "(I)LSystemParts$Part;"⟩ ∈ lw_tbl := List.mem_of_getElem? (i := 431) (by decide +kernel)
set_option maxRecDepth 100000 in
theorem m_395 : Cond.privateMethod ⟨"SystemParts", "partWith", "(I)LSystemParts$Part;"⟩ ∈ lw_tbl := List.mem_of_getElem? (i := 432) (by decide +kernel)
set_option maxRecDepth 100000 in
theorem m_396 : Cond.instanceMethod ⟨"SystemParts", "partWith", "(I)LSystemParts$Part;"⟩ ∈ lw_tbl := List.mem_of_getElem? (i := 433) (by decide +kernel)
set_option maxRecDepth 100000 in
theorem m_397 : Cond.code ⟨"SystemParts", "partWith", "(I)LSystemParts$Part;"⟩ prog_1_method_20_code 4 (some (FieldType.object "SystemParts$Part")) ∈ lw_tbl := List.mem_of_getElem? (i := 434) (by decide +kernel)
set_option maxRecDepth 100000 in
theorem m_398 : Cond.methodLink "SystemParts" 82 ⟨"SystemParts$Cells", "look", "(I)I"⟩ ∈ lw_tbl := List.mem_of_getElem? (i := 435) (by decide +kernel)
set_option maxRecDepth 100000 in
theorem m_399 : Cond.instanceMethod ⟨"SystemParts$Cells", "look", "(I)I"⟩ ∈ lw_tbl := List.mem_of_getElem? (i := 436) (by decide +kernel)
set_option maxRecDepth 100000 in
theorem m_400 : Cond.selects "SystemParts$Cells" ⟨"SystemParts$Cells", "look", "(I)I"⟩ ⟨"SystemParts$Cells", "look", "(I)I"⟩ ∈ lw_tbl := List.mem_of_getElem? (i := 437) (by decide +kernel)
set_option maxRecDepth 100000 in
theorem m_401 : Cond.code ⟨"SystemParts$Cells", "look", "(I)I"⟩ prog_2_method_2_code 2 (some FieldType.int) ∈ lw_tbl := List.mem_of_getElem? (i := 438) (by decide +kernel)
set_option maxRecDepth 100000 in
theorem m_402 : Cond.methodLink "SystemParts" 86 ⟨"SystemParts$Cells", "put", "(II)V"⟩ ∈ lw_tbl := List.mem_of_getElem? (i := 439) (by decide +kernel)
set_option maxRecDepth 100000 in
theorem m_403 : Cond.instanceMethod ⟨"SystemParts$Cells", "put", "(II)V"⟩ ∈ lw_tbl := List.mem_of_getElem? (i := 440) (by decide +kernel)
set_option maxRecDepth 100000 in
theorem m_404 : Cond.selects "SystemParts$Cells" ⟨"SystemParts$Cells", "put", "(II)V"⟩ ⟨"SystemParts$Cells", "put", "(II)V"⟩ ∈ lw_tbl := List.mem_of_getElem? (i := 441) (by decide +kernel)
set_option maxRecDepth 100000 in
theorem m_405 : Cond.code ⟨"SystemParts$Cells", "put", "(II)V"⟩ prog_2_method_3_code 3 none ∈ lw_tbl := List.mem_of_getElem? (i := 442) (by decide +kernel)
set_option maxRecDepth 100000 in
theorem m_406 : Cond.stringRef "SystemParts" 90 "no STORE or FIXED has the place" ∈ lw_tbl := List.mem_of_getElem? (i := 443) (by decide +kernel)
set_option maxRecDepth 100000 in
theorem m_407 : Cond.methodLink "SystemPartsLaw" 67 ⟨"SystemPartsLaw", "read", "(LSystemParts;I[J)I"⟩ ∈ lw_tbl := List.mem_of_getElem? (i := 444) (by decide +kernel)
set_option maxRecDepth 100000 in
theorem m_408 : Cond.static ⟨"SystemPartsLaw", "read", "(LSystemParts;I[J)I"⟩ ∈ lw_tbl := List.mem_of_getElem? (i := 445) (by decide +kernel)
set_option maxRecDepth 100000 in
theorem m_409 : Cond.codeWith ⟨"SystemPartsLaw", "read", "(LSystemParts;I[J)I"⟩ method_5_code 4 (some FieldType.int) [(0, 9, 12, 25), (0, 9, 15, 27)] ∈ lw_tbl := List.mem_of_getElem? (i := 446) (by decide +kernel)
set_option maxRecDepth 100000 in
theorem m_410 : Cond.classLink "SystemPartsLaw" 25 "java/lang/IndexOutOfBoundsException" ∈ lw_tbl := List.mem_of_getElem? (i := 447) (by decide +kernel)
set_option maxRecDepth 100000 in
theorem m_411 : Cond.classLink "SystemPartsLaw" 27 "java/lang/IllegalStateException" ∈ lw_tbl := List.mem_of_getElem? (i := 448) (by decide +kernel)
set_option maxRecDepth 100000 in
theorem m_412 : Cond.methodLink "SystemPartsLaw" 21 ⟨"SystemParts", "read", "(I)I"⟩ ∈ lw_tbl := List.mem_of_getElem? (i := 449) (by decide +kernel)
set_option maxRecDepth 100000 in
theorem m_413 : Cond.instanceMethod ⟨"SystemParts", "read", "(I)I"⟩ ∈ lw_tbl := List.mem_of_getElem? (i := 450) (by decide +kernel)
set_option maxRecDepth 100000 in
theorem m_414 : Cond.selects "SystemParts" ⟨"SystemParts", "read", "(I)I"⟩ ⟨"SystemParts", "read", "(I)I"⟩ ∈ lw_tbl := List.mem_of_getElem? (i := 451) (by decide +kernel)
set_option maxRecDepth 100000 in
theorem m_415 : Cond.code ⟨"SystemParts", "read", "(I)I"⟩ prog_1_method_4_code 4 (some FieldType.int) ∈ lw_tbl := List.mem_of_getElem? (i := 452) (by decide +kernel)
set_option maxRecDepth 100000 in
theorem m_416 : Cond.methodLink "SystemParts" 92 ⟨"SystemParts", "reachPart", "(I)LSystemParts$Part;"⟩ ∈ lw_tbl := List.mem_of_getElem? (i := 453) (by decide +kernel)
set_option maxRecDepth 100000 in
theorem m_417 : Cond.privateMethod ⟨"SystemParts", "reachPart", "(I)LSystemParts$Part;"⟩ ∈ lw_tbl := List.mem_of_getElem? (i := 454) (by decide +kernel)
set_option maxRecDepth 100000 in
theorem m_418 : Cond.instanceMethod ⟨"SystemParts", "reachPart", "(I)LSystemParts$Part;"⟩ ∈ lw_tbl := List.mem_of_getElem? (i := 455) (by decide +kernel)
set_option maxRecDepth 100000 in
theorem m_419 : Cond.code ⟨"SystemParts", "reachPart", "(I)LSystemParts$Part;"⟩ prog_1_method_21_code 3 (some (FieldType.object "SystemParts$Part")) ∈ lw_tbl := List.mem_of_getElem? (i := 456) (by decide +kernel)
set_option maxRecDepth 100000 in
theorem m_420 : Cond.classLink "SystemParts" 143 "java/lang/IndexOutOfBoundsException" ∈ lw_tbl := List.mem_of_getElem? (i := 457) (by decide +kernel)
set_option maxRecDepth 100000 in
theorem m_421 : Cond.instantiable "java/lang/IndexOutOfBoundsException" 6 ∈ lw_tbl := List.mem_of_getElem? (i := 458) (by decide +kernel)
set_option maxRecDepth 100000 in
theorem m_422 : Cond.castable "java/lang/IndexOutOfBoundsException" "java/lang/IndexOutOfBoundsException" ∈ lw_tbl := List.mem_of_getElem? (i := 459) (by decide +kernel)
set_option maxRecDepth 100000 in
theorem m_423 : Cond.selects "java/lang/IndexOutOfBoundsException" ⟨"java/lang/Throwable", "fillInStackTrace", "(I)Ljava/lang/Throwable;"⟩ ⟨"java/lang/Throwable", "fillInStackTrace", "(I)Ljava/lang/Throwable;"⟩ ∈ lw_tbl := List.mem_of_getElem? (i := 460) (by decide +kernel)
set_option maxRecDepth 100000 in
theorem m_424 : Cond.lays "java/lang/IndexOutOfBoundsException" "java/lang/Throwable" "cause" "Ljava/lang/Throwable;" ∈ lw_tbl := List.mem_of_getElem? (i := 461) (by decide +kernel)
set_option maxRecDepth 100000 in
theorem m_425 : Cond.lays "java/lang/IndexOutOfBoundsException" "java/lang/Throwable" "stackTrace" "[Ljava/lang/StackTraceElement;" ∈ lw_tbl := List.mem_of_getElem? (i := 462) (by decide +kernel)
set_option maxRecDepth 100000 in
theorem m_426 : Cond.lays "java/lang/IndexOutOfBoundsException" "java/lang/Throwable" "suppressedExceptions" "Ljava/util/List;" ∈ lw_tbl := List.mem_of_getElem? (i := 463) (by decide +kernel)
set_option maxRecDepth 100000 in
theorem m_427 : Cond.lays "java/lang/IndexOutOfBoundsException" "java/lang/Throwable" "detailMessage" "Ljava/lang/String;" ∈ lw_tbl := List.mem_of_getElem? (i := 464) (by decide +kernel)
set_option maxRecDepth 100000 in
theorem m_428 : Cond.lays "java/lang/IndexOutOfBoundsException" "java/lang/Throwable" "backtrace" "Ljava/lang/Object;" ∈ lw_tbl := List.mem_of_getElem? (i := 465) (by decide +kernel)
set_option maxRecDepth 100000 in
theorem m_429 : Cond.stringRef "SystemParts" 205 "no such place" ∈ lw_tbl := List.mem_of_getElem? (i := 466) (by decide +kernel)
set_option maxRecDepth 100000 in
theorem m_430 : Cond.methodLink "SystemParts" 147 ⟨"java/lang/IndexOutOfBoundsException", "<init>", "(Ljava/lang/String;)V"⟩ ∈ lw_tbl := List.mem_of_getElem? (i := 467) (by decide +kernel)
set_option maxRecDepth 100000 in
theorem m_431 : Cond.instanceMethod ⟨"java/lang/IndexOutOfBoundsException", "<init>", "(Ljava/lang/String;)V"⟩ ∈ lw_tbl := List.mem_of_getElem? (i := 468) (by decide +kernel)
set_option maxRecDepth 100000 in
theorem m_432 : Cond.code ⟨"java/lang/IndexOutOfBoundsException", "<init>", "(Ljava/lang/String;)V"⟩ prog_15_method_2_code 2 none ∈ lw_tbl := List.mem_of_getElem? (i := 469) (by decide +kernel)
set_option maxRecDepth 100000 in
theorem m_433 : Cond.methodLink "java/lang/IndexOutOfBoundsException" 7 ⟨"java/lang/RuntimeException", "<init>", "(Ljava/lang/String;)V"⟩ ∈ lw_tbl := List.mem_of_getElem? (i := 470) (by decide +kernel)
set_option maxRecDepth 100000 in
theorem m_434 : Cond.lays "java/lang/IndexOutOfBoundsException" "java/lang/Throwable" "depth" "I" ∈ lw_tbl := List.mem_of_getElem? (i := 471) (by decide +kernel)
set_option maxRecDepth 100000 in
theorem m_435 : Cond.superclass "java/lang/IndexOutOfBoundsException" "java/lang/RuntimeException" ∈ lw_tbl := List.mem_of_getElem? (i := 472) (by decide +kernel)
set_option maxRecDepth 100000 in
theorem m_436 : Cond.methodLink "SystemParts" 95 ⟨"SystemParts", "tallyOne", "(I)V"⟩ ∈ lw_tbl := List.mem_of_getElem? (i := 473) (by decide +kernel)
set_option maxRecDepth 100000 in
theorem m_437 : Cond.privateMethod ⟨"SystemParts", "tallyOne", "(I)V"⟩ ∈ lw_tbl := List.mem_of_getElem? (i := 474) (by decide +kernel)
set_option maxRecDepth 100000 in
theorem m_438 : Cond.instanceMethod ⟨"SystemParts", "tallyOne", "(I)V"⟩ ∈ lw_tbl := List.mem_of_getElem? (i := 475) (by decide +kernel)
set_option maxRecDepth 100000 in
theorem m_439 : Cond.code ⟨"SystemParts", "tallyOne", "(I)V"⟩ prog_1_method_26_code 5 none ∈ lw_tbl := List.mem_of_getElem? (i := 476) (by decide +kernel)
set_option maxRecDepth 100000 in
theorem m_440 : Cond.methodLink "SystemParts" 223 ⟨"SystemParts$Counts", "add", "(I)V"⟩ ∈ lw_tbl := List.mem_of_getElem? (i := 477) (by decide +kernel)
set_option maxRecDepth 100000 in
theorem m_441 : Cond.instanceMethod ⟨"SystemParts$Counts", "add", "(I)V"⟩ ∈ lw_tbl := List.mem_of_getElem? (i := 478) (by decide +kernel)
set_option maxRecDepth 100000 in
theorem m_442 : Cond.selects "SystemParts$Counts" ⟨"SystemParts$Counts", "add", "(I)V"⟩ ⟨"SystemParts$Counts", "add", "(I)V"⟩ ∈ lw_tbl := List.mem_of_getElem? (i := 479) (by decide +kernel)
set_option maxRecDepth 100000 in
theorem m_443 : Cond.code ⟨"SystemParts$Counts", "add", "(I)V"⟩ prog_3_method_2_code 2 none ∈ lw_tbl := List.mem_of_getElem? (i := 480) (by decide +kernel)
set_option maxRecDepth 100000 in
theorem m_444 : Cond.classLink "SystemParts" 112 "java/lang/IllegalStateException" ∈ lw_tbl := List.mem_of_getElem? (i := 481) (by decide +kernel)
set_option maxRecDepth 100000 in
theorem m_445 : Cond.instantiable "java/lang/IllegalStateException" 6 ∈ lw_tbl := List.mem_of_getElem? (i := 482) (by decide +kernel)
set_option maxRecDepth 100000 in
theorem m_446 : Cond.castable "java/lang/IllegalStateException" "java/lang/IllegalStateException" ∈ lw_tbl := List.mem_of_getElem? (i := 483) (by decide +kernel)
set_option maxRecDepth 100000 in
theorem m_447 : Cond.selects "java/lang/IllegalStateException" ⟨"java/lang/Throwable", "fillInStackTrace", "(I)Ljava/lang/Throwable;"⟩ ⟨"java/lang/Throwable", "fillInStackTrace", "(I)Ljava/lang/Throwable;"⟩ ∈ lw_tbl := List.mem_of_getElem? (i := 484) (by decide +kernel)
set_option maxRecDepth 100000 in
theorem m_448 : Cond.lays "java/lang/IllegalStateException" "java/lang/Throwable" "cause" "Ljava/lang/Throwable;" ∈ lw_tbl := List.mem_of_getElem? (i := 485) (by decide +kernel)
set_option maxRecDepth 100000 in
theorem m_449 : Cond.lays "java/lang/IllegalStateException" "java/lang/Throwable" "stackTrace" "[Ljava/lang/StackTraceElement;" ∈ lw_tbl := List.mem_of_getElem? (i := 486) (by decide +kernel)
set_option maxRecDepth 100000 in
theorem m_450 : Cond.lays "java/lang/IllegalStateException" "java/lang/Throwable" "suppressedExceptions" "Ljava/util/List;" ∈ lw_tbl := List.mem_of_getElem? (i := 487) (by decide +kernel)
set_option maxRecDepth 100000 in
theorem m_451 : Cond.lays "java/lang/IllegalStateException" "java/lang/Throwable" "detailMessage" "Ljava/lang/String;" ∈ lw_tbl := List.mem_of_getElem? (i := 488) (by decide +kernel)
set_option maxRecDepth 100000 in
theorem m_452 : Cond.lays "java/lang/IllegalStateException" "java/lang/Throwable" "backtrace" "Ljava/lang/Object;" ∈ lw_tbl := List.mem_of_getElem? (i := 489) (by decide +kernel)
set_option maxRecDepth 100000 in
theorem m_453 : Cond.stringRef "SystemParts" 207 "no part has the place" ∈ lw_tbl := List.mem_of_getElem? (i := 490) (by decide +kernel)
set_option maxRecDepth 100000 in
theorem m_454 : Cond.methodLink "SystemParts" 116 ⟨"java/lang/IllegalStateException", "<init>", "(Ljava/lang/String;)V"⟩ ∈ lw_tbl := List.mem_of_getElem? (i := 491) (by decide +kernel)
set_option maxRecDepth 100000 in
theorem m_455 : Cond.instanceMethod ⟨"java/lang/IllegalStateException", "<init>", "(Ljava/lang/String;)V"⟩ ∈ lw_tbl := List.mem_of_getElem? (i := 492) (by decide +kernel)
set_option maxRecDepth 100000 in
theorem m_456 : Cond.code ⟨"java/lang/IllegalStateException", "<init>", "(Ljava/lang/String;)V"⟩ prog_14_method_2_code 2 none ∈ lw_tbl := List.mem_of_getElem? (i := 493) (by decide +kernel)
set_option maxRecDepth 100000 in
theorem m_457 : Cond.methodLink "java/lang/IllegalStateException" 7 ⟨"java/lang/RuntimeException", "<init>", "(Ljava/lang/String;)V"⟩ ∈ lw_tbl := List.mem_of_getElem? (i := 494) (by decide +kernel)
set_option maxRecDepth 100000 in
theorem m_458 : Cond.lays "java/lang/IllegalStateException" "java/lang/Throwable" "depth" "I" ∈ lw_tbl := List.mem_of_getElem? (i := 495) (by decide +kernel)
set_option maxRecDepth 100000 in
theorem m_459 : Cond.superclass "java/lang/IllegalStateException" "java/lang/RuntimeException" ∈ lw_tbl := List.mem_of_getElem? (i := 496) (by decide +kernel)
set_option maxRecDepth 100000 in
theorem m_460 : Cond.methodLink "SystemParts" 118 ⟨"SystemParts$Seat", "accessSteps", "()I"⟩ ∈ lw_tbl := List.mem_of_getElem? (i := 497) (by decide +kernel)
set_option maxRecDepth 100000 in
theorem m_461 : Cond.instanceMethod ⟨"SystemParts$Seat", "accessSteps", "()I"⟩ ∈ lw_tbl := List.mem_of_getElem? (i := 498) (by decide +kernel)
set_option maxRecDepth 100000 in
theorem m_462 : Cond.selects "SystemParts$Seat" ⟨"SystemParts$Seat", "accessSteps", "()I"⟩ ⟨"SystemParts$Seat", "accessSteps", "()I"⟩ ∈ lw_tbl := List.mem_of_getElem? (i := 499) (by decide +kernel)
set_option maxRecDepth 100000 in
theorem m_463 : Cond.code ⟨"SystemParts$Seat", "accessSteps", "()I"⟩ prog_7_method_2_code 1 (some FieldType.int) ∈ lw_tbl := List.mem_of_getElem? (i := 500) (by decide +kernel)
set_option maxRecDepth 100000 in
theorem m_464 : Cond.methodLink "SystemParts" 123 ⟨"SystemParts", "runSteps", "(I)Z"⟩ ∈ lw_tbl := List.mem_of_getElem? (i := 501) (by decide +kernel)
set_option maxRecDepth 100000 in
theorem m_465 : Cond.privateMethod ⟨"SystemParts", "runSteps", "(I)Z"⟩ ∈ lw_tbl := List.mem_of_getElem? (i := 502) (by decide +kernel)
set_option maxRecDepth 100000 in
theorem m_466 : Cond.instanceMethod ⟨"SystemParts", "runSteps", "(I)Z"⟩ ∈ lw_tbl := List.mem_of_getElem? (i := 503) (by decide +kernel)
set_option maxRecDepth 100000 in
theorem m_467 : Cond.code ⟨"SystemParts", "runSteps", "(I)Z"⟩ prog_1_method_23_code 4 (some FieldType.boolean) ∈ lw_tbl := List.mem_of_getElem? (i := 504) (by decide +kernel)
set_option maxRecDepth 100000 in
theorem m_468 : Cond.methodLink "SystemParts" 211 ⟨"SystemParts", "oneStep", "()Z"⟩ ∈ lw_tbl := List.mem_of_getElem? (i := 505) (by decide +kernel)
set_option maxRecDepth 100000 in
theorem m_469 : Cond.privateMethod ⟨"SystemParts", "oneStep", "()Z"⟩ ∈ lw_tbl := List.mem_of_getElem? (i := 506) (by decide +kernel)
set_option maxRecDepth 100000 in
theorem m_470 : Cond.instanceMethod ⟨"SystemParts", "oneStep", "()Z"⟩ ∈ lw_tbl := List.mem_of_getElem? (i := 507) (by decide +kernel)
set_option maxRecDepth 100000 in
theorem m_471 : Cond.code ⟨"SystemParts", "oneStep", "()Z"⟩ prog_1_method_24_code 3 (some FieldType.boolean) ∈ lw_tbl := List.mem_of_getElem? (i := 508) (by decide +kernel)
set_option maxRecDepth 100000 in
theorem m_472 : Cond.methodLink "SystemParts" 214 ⟨"SystemParts$Part", "goOn", "()Z"⟩ ∈ lw_tbl := List.mem_of_getElem? (i := 509) (by decide +kernel)
set_option maxRecDepth 100000 in
theorem m_473 : Cond.instanceMethod ⟨"SystemParts$Part", "goOn", "()Z"⟩ ∈ lw_tbl := List.mem_of_getElem? (i := 510) (by decide +kernel)
set_option maxRecDepth 100000 in
theorem m_474 : Cond.sameMethod "SystemParts$Part" "SystemParts$Part" "goOn" "()Z" ∈ lw_tbl := List.mem_of_getElem? (i := 511) (by decide +kernel)
set_option maxRecDepth 100000 in
theorem m_475 : Cond.selects "SystemParts$Cells" ⟨"SystemParts$Part", "goOn", "()Z"⟩ ⟨"SystemParts$Part", "goOn", "()Z"⟩ ∈ lw_tbl := List.mem_of_getElem? (i := 512) (by decide +kernel)
set_option maxRecDepth 100000 in
theorem m_476 : Cond.selects "SystemParts$Counts" ⟨"SystemParts$Part", "goOn", "()Z"⟩ ⟨"SystemParts$Counts", "goOn", "()Z"⟩ ∈ lw_tbl := List.mem_of_getElem? (i := 513) (by decide +kernel)
set_option maxRecDepth 100000 in
theorem m_477 : Cond.instanceMethod ⟨"SystemParts$Counts", "goOn", "()Z"⟩ ∈ lw_tbl := List.mem_of_getElem? (i := 514) (by decide +kernel)
set_option maxRecDepth 100000 in
theorem m_478 : Cond.code ⟨"SystemParts$Counts", "goOn", "()Z"⟩ prog_3_method_5_code 1 (some FieldType.boolean) ∈ lw_tbl := List.mem_of_getElem? (i := 515) (by decide +kernel)
set_option maxRecDepth 100000 in
theorem m_479 : Cond.methodLink "SystemParts$Counts" 15 ⟨"SystemParts$Counts", "add", "(I)V"⟩ ∈ lw_tbl := List.mem_of_getElem? (i := 516) (by decide +kernel)
set_option maxRecDepth 100000 in
theorem m_480 : Cond.selects "SystemParts$Rows" ⟨"SystemParts$Part", "goOn", "()Z"⟩ ⟨"SystemParts$Rows", "goOn", "()Z"⟩ ∈ lw_tbl := List.mem_of_getElem? (i := 517) (by decide +kernel)
set_option maxRecDepth 100000 in
theorem m_481 : Cond.instanceMethod ⟨"SystemParts$Rows", "goOn", "()Z"⟩ ∈ lw_tbl := List.mem_of_getElem? (i := 518) (by decide +kernel)
set_option maxRecDepth 100000 in
theorem m_482 : Cond.code ⟨"SystemParts$Rows", "goOn", "()Z"⟩ prog_6_method_6_code 1 (some FieldType.boolean) ∈ lw_tbl := List.mem_of_getElem? (i := 519) (by decide +kernel)
set_option maxRecDepth 100000 in
theorem m_483 : Cond.methodLink "SystemParts$Rows" 40 ⟨"SystemParts$Rows", "moveNumbers", "()V"⟩ ∈ lw_tbl := List.mem_of_getElem? (i := 520) (by decide +kernel)
set_option maxRecDepth 100000 in
theorem m_484 : Cond.privateMethod ⟨"SystemParts$Rows", "moveNumbers", "()V"⟩ ∈ lw_tbl := List.mem_of_getElem? (i := 521) (by decide +kernel)
set_option maxRecDepth 100000 in
theorem m_485 : Cond.instanceMethod ⟨"SystemParts$Rows", "moveNumbers", "()V"⟩ ∈ lw_tbl := List.mem_of_getElem? (i := 522) (by decide +kernel)
set_option maxRecDepth 100000 in
theorem m_486 : Cond.code ⟨"SystemParts$Rows", "moveNumbers", "()V"⟩ prog_6_method_7_code 3 none ∈ lw_tbl := List.mem_of_getElem? (i := 523) (by decide +kernel)
set_option maxRecDepth 100000 in
theorem m_487 : Cond.selects "SystemParts$Serial" ⟨"SystemParts$Part", "goOn", "()Z"⟩ ⟨"SystemParts$Serial", "goOn", "()Z"⟩ ∈ lw_tbl := List.mem_of_getElem? (i := 524) (by decide +kernel)
set_option maxRecDepth 100000 in
theorem m_488 : Cond.instanceMethod ⟨"SystemParts$Serial", "goOn", "()Z"⟩ ∈ lw_tbl := List.mem_of_getElem? (i := 525) (by decide +kernel)
set_option maxRecDepth 100000 in
theorem m_489 : Cond.code ⟨"SystemParts$Serial", "goOn", "()Z"⟩ prog_8_method_9_code 1 (some FieldType.boolean) ∈ lw_tbl := List.mem_of_getElem? (i := 526) (by decide +kernel)
set_option maxRecDepth 100000 in
theorem m_490 : Cond.selects "SystemParts$Timer" ⟨"SystemParts$Part", "goOn", "()Z"⟩ ⟨"SystemParts$Timer", "goOn", "()Z"⟩ ∈ lw_tbl := List.mem_of_getElem? (i := 527) (by decide +kernel)
set_option maxRecDepth 100000 in
theorem m_491 : Cond.instanceMethod ⟨"SystemParts$Timer", "goOn", "()Z"⟩ ∈ lw_tbl := List.mem_of_getElem? (i := 528) (by decide +kernel)
set_option maxRecDepth 100000 in
theorem m_492 : Cond.code ⟨"SystemParts$Timer", "goOn", "()Z"⟩ prog_9_method_4_code 1 (some FieldType.boolean) ∈ lw_tbl := List.mem_of_getElem? (i := 529) (by decide +kernel)
set_option maxRecDepth 100000 in
theorem m_493 : Cond.code ⟨"SystemParts$Part", "goOn", "()Z"⟩ prog_5_method_5_code 1 (some FieldType.boolean) ∈ lw_tbl := List.mem_of_getElem? (i := 530) (by decide +kernel)
set_option maxRecDepth 100000 in
theorem m_494 : Cond.methodLink "SystemParts" 101 ⟨"SystemParts", "askingLines", "()I"⟩ ∈ lw_tbl := List.mem_of_getElem? (i := 531) (by decide +kernel)
set_option maxRecDepth 100000 in
theorem m_495 : Cond.privateMethod ⟨"SystemParts", "askingLines", "()I"⟩ ∈ lw_tbl := List.mem_of_getElem? (i := 532) (by decide +kernel)
set_option maxRecDepth 100000 in
theorem m_496 : Cond.instanceMethod ⟨"SystemParts", "askingLines", "()I"⟩ ∈ lw_tbl := List.mem_of_getElem? (i := 533) (by decide +kernel)
set_option maxRecDepth 100000 in
theorem m_497 : Cond.code ⟨"SystemParts", "askingLines", "()I"⟩ prog_1_method_25_code 4 (some FieldType.int) ∈ lw_tbl := List.mem_of_getElem? (i := 534) (by decide +kernel)
set_option maxRecDepth 100000 in
theorem m_498 : Cond.methodLink "SystemParts" 217 ⟨"SystemParts$Part", "wantsAttention", "()Z"⟩ ∈ lw_tbl := List.mem_of_getElem? (i := 535) (by decide +kernel)
set_option maxRecDepth 100000 in
theorem m_499 : Cond.instanceMethod ⟨"SystemParts$Part", "wantsAttention", "()Z"⟩ ∈ lw_tbl := List.mem_of_getElem? (i := 536) (by decide +kernel)
set_option maxRecDepth 100000 in
theorem m_500 : Cond.sameMethod "SystemParts$Part" "SystemParts$Part" "wantsAttention" "()Z" ∈ lw_tbl := List.mem_of_getElem? (i := 537) (by decide +kernel)
set_option maxRecDepth 100000 in
theorem m_501 : Cond.selects "SystemParts$Cells" ⟨"SystemParts$Part", "wantsAttention", "()Z"⟩ ⟨"SystemParts$Part", "wantsAttention", "()Z"⟩ ∈ lw_tbl := List.mem_of_getElem? (i := 538) (by decide +kernel)
set_option maxRecDepth 100000 in
theorem m_502 : Cond.selects "SystemParts$Counts" ⟨"SystemParts$Part", "wantsAttention", "()Z"⟩ ⟨"SystemParts$Part", "wantsAttention", "()Z"⟩ ∈ lw_tbl := List.mem_of_getElem? (i := 539) (by decide +kernel)
set_option maxRecDepth 100000 in
theorem m_503 : Cond.selects "SystemParts$Rows" ⟨"SystemParts$Part", "wantsAttention", "()Z"⟩ ⟨"SystemParts$Rows", "wantsAttention", "()Z"⟩ ∈ lw_tbl := List.mem_of_getElem? (i := 540) (by decide +kernel)
set_option maxRecDepth 100000 in
theorem m_504 : Cond.instanceMethod ⟨"SystemParts$Rows", "wantsAttention", "()Z"⟩ ∈ lw_tbl := List.mem_of_getElem? (i := 541) (by decide +kernel)
set_option maxRecDepth 100000 in
theorem m_505 : Cond.code ⟨"SystemParts$Rows", "wantsAttention", "()Z"⟩ prog_6_method_8_code 1 (some FieldType.boolean) ∈ lw_tbl := List.mem_of_getElem? (i := 542) (by decide +kernel)
set_option maxRecDepth 100000 in
theorem m_506 : Cond.selects "SystemParts$Serial" ⟨"SystemParts$Part", "wantsAttention", "()Z"⟩ ⟨"SystemParts$Serial", "wantsAttention", "()Z"⟩ ∈ lw_tbl := List.mem_of_getElem? (i := 543) (by decide +kernel)
set_option maxRecDepth 100000 in
theorem m_507 : Cond.instanceMethod ⟨"SystemParts$Serial", "wantsAttention", "()Z"⟩ ∈ lw_tbl := List.mem_of_getElem? (i := 544) (by decide +kernel)
set_option maxRecDepth 100000 in
theorem m_508 : Cond.code ⟨"SystemParts$Serial", "wantsAttention", "()Z"⟩ prog_8_method_10_code 1 (some FieldType.boolean) ∈ lw_tbl := List.mem_of_getElem? (i := 545) (by decide +kernel)
set_option maxRecDepth 100000 in
theorem m_509 : Cond.selects "SystemParts$Timer" ⟨"SystemParts$Part", "wantsAttention", "()Z"⟩ ⟨"SystemParts$Timer", "wantsAttention", "()Z"⟩ ∈ lw_tbl := List.mem_of_getElem? (i := 546) (by decide +kernel)
set_option maxRecDepth 100000 in
theorem m_510 : Cond.instanceMethod ⟨"SystemParts$Timer", "wantsAttention", "()Z"⟩ ∈ lw_tbl := List.mem_of_getElem? (i := 547) (by decide +kernel)
set_option maxRecDepth 100000 in
theorem m_511 : Cond.code ⟨"SystemParts$Timer", "wantsAttention", "()Z"⟩ prog_9_method_5_code 1 (some FieldType.boolean) ∈ lw_tbl := List.mem_of_getElem? (i := 548) (by decide +kernel)
set_option maxRecDepth 100000 in
theorem m_512 : Cond.code ⟨"SystemParts$Part", "wantsAttention", "()Z"⟩ prog_5_method_6_code 1 (some FieldType.boolean) ∈ lw_tbl := List.mem_of_getElem? (i := 549) (by decide +kernel)
set_option maxRecDepth 100000 in
theorem m_513 : Cond.methodLink "SystemParts" 105 ⟨"SystemParts$Lines", "follow", "(I)V"⟩ ∈ lw_tbl := List.mem_of_getElem? (i := 550) (by decide +kernel)
set_option maxRecDepth 100000 in
theorem m_514 : Cond.instanceMethod ⟨"SystemParts$Lines", "follow", "(I)V"⟩ ∈ lw_tbl := List.mem_of_getElem? (i := 551) (by decide +kernel)
set_option maxRecDepth 100000 in
theorem m_515 : Cond.selects "SystemParts$Lines" ⟨"SystemParts$Lines", "follow", "(I)V"⟩ ⟨"SystemParts$Lines", "follow", "(I)V"⟩ ∈ lw_tbl := List.mem_of_getElem? (i := 552) (by decide +kernel)
set_option maxRecDepth 100000 in
theorem m_516 : Cond.code ⟨"SystemParts$Lines", "follow", "(I)V"⟩ prog_4_method_7_code 5 none ∈ lw_tbl := List.mem_of_getElem? (i := 553) (by decide +kernel)
set_option maxRecDepth 100000 in
theorem m_517 : Cond.methodLink "SystemParts" 100 ⟨"SystemParts$Part", "look", "(I)I"⟩ ∈ lw_tbl := List.mem_of_getElem? (i := 554) (by decide +kernel)
set_option maxRecDepth 100000 in
theorem m_518 : Cond.declares ⟨"SystemParts$Part", "look", "(I)I"⟩ ∈ lw_tbl := List.mem_of_getElem? (i := 555) (by decide +kernel)
set_option maxRecDepth 100000 in
theorem m_519 : Cond.sameMethod "SystemParts$Part" "SystemParts$Part" "look" "(I)I" ∈ lw_tbl := List.mem_of_getElem? (i := 556) (by decide +kernel)
set_option maxRecDepth 100000 in
theorem m_520 : Cond.selects "SystemParts$Cells" ⟨"SystemParts$Part", "look", "(I)I"⟩ ⟨"SystemParts$Cells", "look", "(I)I"⟩ ∈ lw_tbl := List.mem_of_getElem? (i := 557) (by decide +kernel)
set_option maxRecDepth 100000 in
theorem m_521 : Cond.selects "SystemParts$Counts" ⟨"SystemParts$Part", "look", "(I)I"⟩ ⟨"SystemParts$Counts", "look", "(I)I"⟩ ∈ lw_tbl := List.mem_of_getElem? (i := 558) (by decide +kernel)
set_option maxRecDepth 100000 in
theorem m_522 : Cond.instanceMethod ⟨"SystemParts$Counts", "look", "(I)I"⟩ ∈ lw_tbl := List.mem_of_getElem? (i := 559) (by decide +kernel)
set_option maxRecDepth 100000 in
theorem m_523 : Cond.code ⟨"SystemParts$Counts", "look", "(I)I"⟩ prog_3_method_3_code 2 (some FieldType.int) ∈ lw_tbl := List.mem_of_getElem? (i := 560) (by decide +kernel)
set_option maxRecDepth 100000 in
theorem m_524 : Cond.selects "SystemParts$Rows" ⟨"SystemParts$Part", "look", "(I)I"⟩ ⟨"SystemParts$Rows", "look", "(I)I"⟩ ∈ lw_tbl := List.mem_of_getElem? (i := 561) (by decide +kernel)
set_option maxRecDepth 100000 in
theorem m_525 : Cond.instanceMethod ⟨"SystemParts$Rows", "look", "(I)I"⟩ ∈ lw_tbl := List.mem_of_getElem? (i := 562) (by decide +kernel)
set_option maxRecDepth 100000 in
theorem m_526 : Cond.code ⟨"SystemParts$Rows", "look", "(I)I"⟩ prog_6_method_2_code 2 (some FieldType.int) ∈ lw_tbl := List.mem_of_getElem? (i := 563) (by decide +kernel)
set_option maxRecDepth 100000 in
theorem m_527 : Cond.methodLink "SystemParts$Rows" 32 ⟨"SystemParts$Rows", "inWindow", "(I)Z"⟩ ∈ lw_tbl := List.mem_of_getElem? (i := 564) (by decide +kernel)
set_option maxRecDepth 100000 in
theorem m_528 : Cond.privateMethod ⟨"SystemParts$Rows", "inWindow", "(I)Z"⟩ ∈ lw_tbl := List.mem_of_getElem? (i := 565) (by decide +kernel)
set_option maxRecDepth 100000 in
theorem m_529 : Cond.instanceMethod ⟨"SystemParts$Rows", "inWindow", "(I)Z"⟩ ∈ lw_tbl := List.mem_of_getElem? (i := 566) (by decide +kernel)
set_option maxRecDepth 100000 in
theorem m_530 : Cond.code ⟨"SystemParts$Rows", "inWindow", "(I)Z"⟩ prog_6_method_3_code 2 (some FieldType.boolean) ∈ lw_tbl := List.mem_of_getElem? (i := 567) (by decide +kernel)
set_option maxRecDepth 100000 in
theorem m_531 : Cond.selects "SystemParts$Serial" ⟨"SystemParts$Part", "look", "(I)I"⟩ ⟨"SystemParts$Serial", "look", "(I)I"⟩ ∈ lw_tbl := List.mem_of_getElem? (i := 568) (by decide +kernel)
set_option maxRecDepth 100000 in
theorem m_532 : Cond.instanceMethod ⟨"SystemParts$Serial", "look", "(I)I"⟩ ∈ lw_tbl := List.mem_of_getElem? (i := 569) (by decide +kernel)
set_option maxRecDepth 100000 in
theorem m_533 : Cond.code ⟨"SystemParts$Serial", "look", "(I)I"⟩ prog_8_method_6_code 2 (some FieldType.int) ∈ lw_tbl := List.mem_of_getElem? (i := 570) (by decide +kernel)
set_option maxRecDepth 100000 in
theorem m_534 : Cond.methodLink "SystemParts$Serial" 45 ⟨"SystemParts$Serial", "nextCome", "()I"⟩ ∈ lw_tbl := List.mem_of_getElem? (i := 571) (by decide +kernel)
set_option maxRecDepth 100000 in
theorem m_535 : Cond.privateMethod ⟨"SystemParts$Serial", "nextCome", "()I"⟩ ∈ lw_tbl := List.mem_of_getElem? (i := 572) (by decide +kernel)
set_option maxRecDepth 100000 in
theorem m_536 : Cond.instanceMethod ⟨"SystemParts$Serial", "nextCome", "()I"⟩ ∈ lw_tbl := List.mem_of_getElem? (i := 573) (by decide +kernel)
set_option maxRecDepth 100000 in
theorem m_537 : Cond.code ⟨"SystemParts$Serial", "nextCome", "()I"⟩ prog_8_method_7_code 2 (some FieldType.int) ∈ lw_tbl := List.mem_of_getElem? (i := 574) (by decide +kernel)
set_option maxRecDepth 100000 in
theorem m_538 : Cond.selects "SystemParts$Timer" ⟨"SystemParts$Part", "look", "(I)I"⟩ ⟨"SystemParts$Timer", "look", "(I)I"⟩ ∈ lw_tbl := List.mem_of_getElem? (i := 575) (by decide +kernel)
set_option maxRecDepth 100000 in
theorem m_539 : Cond.instanceMethod ⟨"SystemParts$Timer", "look", "(I)I"⟩ ∈ lw_tbl := List.mem_of_getElem? (i := 576) (by decide +kernel)
set_option maxRecDepth 100000 in
theorem m_540 : Cond.code ⟨"SystemParts$Timer", "look", "(I)I"⟩ prog_9_method_2_code 2 (some FieldType.int) ∈ lw_tbl := List.mem_of_getElem? (i := 577) (by decide +kernel)
set_option maxRecDepth 100000 in
theorem m_541 : Cond.methodLink "SystemPartsLaw" 71 ⟨"SystemPartsLaw", "write", "(LSystemParts;II[J)I"⟩ ∈ lw_tbl := List.mem_of_getElem? (i := 578) (by decide +kernel)
set_option maxRecDepth 100000 in
theorem m_542 : Cond.static ⟨"SystemPartsLaw", "write", "(LSystemParts;II[J)I"⟩ ∈ lw_tbl := List.mem_of_getElem? (i := 579) (by decide +kernel)
set_option maxRecDepth 100000 in
theorem m_543 : Cond.codeWith ⟨"SystemPartsLaw", "write", "(LSystemParts;II[J)I"⟩ method_6_code 5 (some FieldType.int) [(0, 10, 13, 25), (0, 10, 17, 27)] ∈ lw_tbl := List.mem_of_getElem? (i := 580) (by decide +kernel)
set_option maxRecDepth 100000 in
theorem m_544 : Cond.methodLink "SystemPartsLaw" 29 ⟨"SystemParts", "write", "(II)I"⟩ ∈ lw_tbl := List.mem_of_getElem? (i := 581) (by decide +kernel)
set_option maxRecDepth 100000 in
theorem m_545 : Cond.instanceMethod ⟨"SystemParts", "write", "(II)I"⟩ ∈ lw_tbl := List.mem_of_getElem? (i := 582) (by decide +kernel)
set_option maxRecDepth 100000 in
theorem m_546 : Cond.selects "SystemParts" ⟨"SystemParts", "write", "(II)I"⟩ ⟨"SystemParts", "write", "(II)I"⟩ ∈ lw_tbl := List.mem_of_getElem? (i := 583) (by decide +kernel)
set_option maxRecDepth 100000 in
theorem m_547 : Cond.code ⟨"SystemParts", "write", "(II)I"⟩ prog_1_method_5_code 4 (some FieldType.int) ∈ lw_tbl := List.mem_of_getElem? (i := 584) (by decide +kernel)
set_option maxRecDepth 100000 in
theorem m_548 : Cond.methodLink "SystemParts" 108 ⟨"SystemParts$Part", "refusesWrites", "()Z"⟩ ∈ lw_tbl := List.mem_of_getElem? (i := 585) (by decide +kernel)
set_option maxRecDepth 100000 in
theorem m_549 : Cond.instanceMethod ⟨"SystemParts$Part", "refusesWrites", "()Z"⟩ ∈ lw_tbl := List.mem_of_getElem? (i := 586) (by decide +kernel)
set_option maxRecDepth 100000 in
theorem m_550 : Cond.sameMethod "SystemParts$Part" "SystemParts$Part" "refusesWrites" "()Z" ∈ lw_tbl := List.mem_of_getElem? (i := 587) (by decide +kernel)
set_option maxRecDepth 100000 in
theorem m_551 : Cond.selects "SystemParts$Cells" ⟨"SystemParts$Part", "refusesWrites", "()Z"⟩ ⟨"SystemParts$Cells", "refusesWrites", "()Z"⟩ ∈ lw_tbl := List.mem_of_getElem? (i := 588) (by decide +kernel)
set_option maxRecDepth 100000 in
theorem m_552 : Cond.instanceMethod ⟨"SystemParts$Cells", "refusesWrites", "()Z"⟩ ∈ lw_tbl := List.mem_of_getElem? (i := 589) (by decide +kernel)
set_option maxRecDepth 100000 in
theorem m_553 : Cond.code ⟨"SystemParts$Cells", "refusesWrites", "()Z"⟩ prog_2_method_4_code 1 (some FieldType.boolean) ∈ lw_tbl := List.mem_of_getElem? (i := 590) (by decide +kernel)
set_option maxRecDepth 100000 in
theorem m_554 : Cond.selects "SystemParts$Counts" ⟨"SystemParts$Part", "refusesWrites", "()Z"⟩ ⟨"SystemParts$Part", "refusesWrites", "()Z"⟩ ∈ lw_tbl := List.mem_of_getElem? (i := 591) (by decide +kernel)
set_option maxRecDepth 100000 in
theorem m_555 : Cond.selects "SystemParts$Rows" ⟨"SystemParts$Part", "refusesWrites", "()Z"⟩ ⟨"SystemParts$Part", "refusesWrites", "()Z"⟩ ∈ lw_tbl := List.mem_of_getElem? (i := 592) (by decide +kernel)
set_option maxRecDepth 100000 in
theorem m_556 : Cond.selects "SystemParts$Serial" ⟨"SystemParts$Part", "refusesWrites", "()Z"⟩ ⟨"SystemParts$Part", "refusesWrites", "()Z"⟩ ∈ lw_tbl := List.mem_of_getElem? (i := 593) (by decide +kernel)
set_option maxRecDepth 100000 in
theorem m_557 : Cond.selects "SystemParts$Timer" ⟨"SystemParts$Part", "refusesWrites", "()Z"⟩ ⟨"SystemParts$Part", "refusesWrites", "()Z"⟩ ∈ lw_tbl := List.mem_of_getElem? (i := 594) (by decide +kernel)
set_option maxRecDepth 100000 in
theorem m_558 : Cond.code ⟨"SystemParts$Part", "refusesWrites", "()Z"⟩ prog_5_method_4_code 1 (some FieldType.boolean) ∈ lw_tbl := List.mem_of_getElem? (i := 595) (by decide +kernel)
set_option maxRecDepth 100000 in
theorem m_559 : Cond.stringRef "SystemParts" 114 "a FIXED is not written" ∈ lw_tbl := List.mem_of_getElem? (i := 596) (by decide +kernel)
set_option maxRecDepth 100000 in
theorem m_560 : Cond.methodLink "SystemParts" 117 ⟨"SystemParts$Part", "put", "(II)V"⟩ ∈ lw_tbl := List.mem_of_getElem? (i := 597) (by decide +kernel)
set_option maxRecDepth 100000 in
theorem m_561 : Cond.declares ⟨"SystemParts$Part", "put", "(II)V"⟩ ∈ lw_tbl := List.mem_of_getElem? (i := 598) (by decide +kernel)
set_option maxRecDepth 100000 in
theorem m_562 : Cond.sameMethod "SystemParts$Part" "SystemParts$Part" "put" "(II)V" ∈ lw_tbl := List.mem_of_getElem? (i := 599) (by decide +kernel)
set_option maxRecDepth 100000 in
theorem m_563 : Cond.selects "SystemParts$Cells" ⟨"SystemParts$Part", "put", "(II)V"⟩ ⟨"SystemParts$Cells", "put", "(II)V"⟩ ∈ lw_tbl := List.mem_of_getElem? (i := 600) (by decide +kernel)
set_option maxRecDepth 100000 in
theorem m_564 : Cond.selects "SystemParts$Counts" ⟨"SystemParts$Part", "put", "(II)V"⟩ ⟨"SystemParts$Counts", "put", "(II)V"⟩ ∈ lw_tbl := List.mem_of_getElem? (i := 601) (by decide +kernel)
set_option maxRecDepth 100000 in
theorem m_565 : Cond.instanceMethod ⟨"SystemParts$Counts", "put", "(II)V"⟩ ∈ lw_tbl := List.mem_of_getElem? (i := 602) (by decide +kernel)
set_option maxRecDepth 100000 in
theorem m_566 : Cond.code ⟨"SystemParts$Counts", "put", "(II)V"⟩ prog_3_method_4_code 3 none ∈ lw_tbl := List.mem_of_getElem? (i := 603) (by decide +kernel)
set_option maxRecDepth 100000 in
theorem m_567 : Cond.selects "SystemParts$Rows" ⟨"SystemParts$Part", "put", "(II)V"⟩ ⟨"SystemParts$Rows", "put", "(II)V"⟩ ∈ lw_tbl := List.mem_of_getElem? (i := 604) (by decide +kernel)
set_option maxRecDepth 100000 in
theorem m_568 : Cond.instanceMethod ⟨"SystemParts$Rows", "put", "(II)V"⟩ ∈ lw_tbl := List.mem_of_getElem? (i := 605) (by decide +kernel)
set_option maxRecDepth 100000 in
theorem m_569 : Cond.code ⟨"SystemParts$Rows", "put", "(II)V"⟩ prog_6_method_4_code 3 none ∈ lw_tbl := List.mem_of_getElem? (i := 606) (by decide +kernel)
set_option maxRecDepth 100000 in
theorem m_570 : Cond.methodLink "SystemParts$Rows" 36 ⟨"SystemParts$Rows", "begin", "(I)V"⟩ ∈ lw_tbl := List.mem_of_getElem? (i := 607) (by decide +kernel)
set_option maxRecDepth 100000 in
theorem m_571 : Cond.privateMethod ⟨"SystemParts$Rows", "begin", "(I)V"⟩ ∈ lw_tbl := List.mem_of_getElem? (i := 608) (by decide +kernel)
set_option maxRecDepth 100000 in
theorem m_572 : Cond.instanceMethod ⟨"SystemParts$Rows", "begin", "(I)V"⟩ ∈ lw_tbl := List.mem_of_getElem? (i := 609) (by decide +kernel)
set_option maxRecDepth 100000 in
theorem m_573 : Cond.code ⟨"SystemParts$Rows", "begin", "(I)V"⟩ prog_6_method_5_code 2 none ∈ lw_tbl := List.mem_of_getElem? (i := 610) (by decide +kernel)
set_option maxRecDepth 100000 in
theorem m_574 : Cond.selects "SystemParts$Serial" ⟨"SystemParts$Part", "put", "(II)V"⟩ ⟨"SystemParts$Serial", "put", "(II)V"⟩ ∈ lw_tbl := List.mem_of_getElem? (i := 611) (by decide +kernel)
set_option maxRecDepth 100000 in
theorem m_575 : Cond.instanceMethod ⟨"SystemParts$Serial", "put", "(II)V"⟩ ∈ lw_tbl := List.mem_of_getElem? (i := 612) (by decide +kernel)
set_option maxRecDepth 100000 in
theorem m_576 : Cond.code ⟨"SystemParts$Serial", "put", "(II)V"⟩ prog_8_method_8_code 3 none ∈ lw_tbl := List.mem_of_getElem? (i := 613) (by decide +kernel)
set_option maxRecDepth 100000 in
theorem m_577 : Cond.selects "SystemParts$Timer" ⟨"SystemParts$Part", "put", "(II)V"⟩ ⟨"SystemParts$Timer", "put", "(II)V"⟩ ∈ lw_tbl := List.mem_of_getElem? (i := 614) (by decide +kernel)
set_option maxRecDepth 100000 in
theorem m_578 : Cond.instanceMethod ⟨"SystemParts$Timer", "put", "(II)V"⟩ ∈ lw_tbl := List.mem_of_getElem? (i := 615) (by decide +kernel)
set_option maxRecDepth 100000 in
theorem m_579 : Cond.code ⟨"SystemParts$Timer", "put", "(II)V"⟩ prog_9_method_3_code 3 none ∈ lw_tbl := List.mem_of_getElem? (i := 616) (by decide +kernel)
set_option maxRecDepth 100000 in
theorem m_580 : Cond.methodLink "SystemPartsLaw" 74 ⟨"SystemPartsLaw", "step", "(LSystemParts;I[J)I"⟩ ∈ lw_tbl := List.mem_of_getElem? (i := 617) (by decide +kernel)
set_option maxRecDepth 100000 in
theorem m_581 : Cond.static ⟨"SystemPartsLaw", "step", "(LSystemParts;I[J)I"⟩ ∈ lw_tbl := List.mem_of_getElem? (i := 618) (by decide +kernel)
set_option maxRecDepth 100000 in
theorem m_582 : Cond.codeWith ⟨"SystemPartsLaw", "step", "(LSystemParts;I[J)I"⟩ method_7_code 4 (some FieldType.int) [(0, 16, 19, 13)] ∈ lw_tbl := List.mem_of_getElem? (i := 619) (by decide +kernel)
set_option maxRecDepth 100000 in
theorem m_583 : Cond.methodLink "SystemPartsLaw" 32 ⟨"SystemParts", "step", "(I)Z"⟩ ∈ lw_tbl := List.mem_of_getElem? (i := 620) (by decide +kernel)
set_option maxRecDepth 100000 in
theorem m_584 : Cond.instanceMethod ⟨"SystemParts", "step", "(I)Z"⟩ ∈ lw_tbl := List.mem_of_getElem? (i := 621) (by decide +kernel)
set_option maxRecDepth 100000 in
theorem m_585 : Cond.selects "SystemParts" ⟨"SystemParts", "step", "(I)Z"⟩ ⟨"SystemParts", "step", "(I)Z"⟩ ∈ lw_tbl := List.mem_of_getElem? (i := 622) (by decide +kernel)
set_option maxRecDepth 100000 in
theorem m_586 : Cond.code ⟨"SystemParts", "step", "(I)Z"⟩ prog_1_method_6_code 2 (some FieldType.boolean) ∈ lw_tbl := List.mem_of_getElem? (i := 623) (by decide +kernel)
set_option maxRecDepth 100000 in
theorem m_587 : Cond.stringRef "SystemParts" 121 "steps are 1 to 1000" ∈ lw_tbl := List.mem_of_getElem? (i := 624) (by decide +kernel)
set_option maxRecDepth 100000 in
theorem m_588 : Cond.methodLink "SystemPartsLaw" 77 ⟨"SystemPartsLaw", "receive", "(LSystemParts;II[J)I"⟩ ∈ lw_tbl := List.mem_of_getElem? (i := 625) (by decide +kernel)
set_option maxRecDepth 100000 in
theorem m_589 : Cond.static ⟨"SystemPartsLaw", "receive", "(LSystemParts;II[J)I"⟩ ∈ lw_tbl := List.mem_of_getElem? (i := 626) (by decide +kernel)
set_option maxRecDepth 100000 in
theorem m_590 : Cond.codeWith ⟨"SystemPartsLaw", "receive", "(LSystemParts;II[J)I"⟩ method_8_code 5 (some FieldType.int) [(0, 10, 13, 13), (0, 10, 17, 15)] ∈ lw_tbl := List.mem_of_getElem? (i := 627) (by decide +kernel)
set_option maxRecDepth 100000 in
theorem m_591 : Cond.methodLink "SystemPartsLaw" 36 ⟨"SystemParts", "receive", "(II)I"⟩ ∈ lw_tbl := List.mem_of_getElem? (i := 628) (by decide +kernel)
set_option maxRecDepth 100000 in
theorem m_592 : Cond.instanceMethod ⟨"SystemParts", "receive", "(II)I"⟩ ∈ lw_tbl := List.mem_of_getElem? (i := 629) (by decide +kernel)
set_option maxRecDepth 100000 in
theorem m_593 : Cond.selects "SystemParts" ⟨"SystemParts", "receive", "(II)I"⟩ ⟨"SystemParts", "receive", "(II)I"⟩ ∈ lw_tbl := List.mem_of_getElem? (i := 630) (by decide +kernel)
set_option maxRecDepth 100000 in
theorem m_594 : Cond.code ⟨"SystemParts", "receive", "(II)I"⟩ prog_1_method_7_code 4 (some FieldType.int) ∈ lw_tbl := List.mem_of_getElem? (i := 631) (by decide +kernel)
set_option maxRecDepth 100000 in
theorem m_595 : Cond.methodLink "SystemParts" 126 ⟨"SystemParts", "serialAt", "(I)LSystemParts$Serial;"⟩ ∈ lw_tbl := List.mem_of_getElem? (i := 632) (by decide +kernel)
set_option maxRecDepth 100000 in
theorem m_596 : Cond.privateMethod ⟨"SystemParts", "serialAt", "(I)LSystemParts$Serial;"⟩ ∈ lw_tbl := List.mem_of_getElem? (i := 633) (by decide +kernel)
set_option maxRecDepth 100000 in
theorem m_597 : Cond.instanceMethod ⟨"SystemParts", "serialAt", "(I)LSystemParts$Serial;"⟩ ∈ lw_tbl := List.mem_of_getElem? (i := 634) (by decide +kernel)
set_option maxRecDepth 100000 in
theorem m_598 : Cond.code ⟨"SystemParts", "serialAt", "(I)LSystemParts$Serial;"⟩ prog_1_method_22_code 4 (some (FieldType.object "SystemParts$Serial")) ∈ lw_tbl := List.mem_of_getElem? (i := 635) (by decide +kernel)
set_option maxRecDepth 100000 in
theorem m_599 : Cond.stringRef "SystemParts" 209 "the part is no SERIAL" ∈ lw_tbl := List.mem_of_getElem? (i := 636) (by decide +kernel)
set_option maxRecDepth 100000 in
theorem m_600 : Cond.methodLink "SystemParts" 130 ⟨"SystemParts$Serial", "isFull", "()Z"⟩ ∈ lw_tbl := List.mem_of_getElem? (i := 637) (by decide +kernel)
set_option maxRecDepth 100000 in
theorem m_601 : Cond.instanceMethod ⟨"SystemParts$Serial", "isFull", "()Z"⟩ ∈ lw_tbl := List.mem_of_getElem? (i := 638) (by decide +kernel)
set_option maxRecDepth 100000 in
theorem m_602 : Cond.selects "SystemParts$Serial" ⟨"SystemParts$Serial", "isFull", "()Z"⟩ ⟨"SystemParts$Serial", "isFull", "()Z"⟩ ∈ lw_tbl := List.mem_of_getElem? (i := 639) (by decide +kernel)
set_option maxRecDepth 100000 in
theorem m_603 : Cond.code ⟨"SystemParts$Serial", "isFull", "()Z"⟩ prog_8_method_2_code 1 (some FieldType.boolean) ∈ lw_tbl := List.mem_of_getElem? (i := 640) (by decide +kernel)
set_option maxRecDepth 100000 in
theorem m_604 : Cond.stringRef "SystemParts" 135 "32 numbers are there to be read" ∈ lw_tbl := List.mem_of_getElem? (i := 641) (by decide +kernel)
set_option maxRecDepth 100000 in
theorem m_605 : Cond.methodLink "SystemParts" 137 ⟨"SystemParts$Serial", "accept", "(I)I"⟩ ∈ lw_tbl := List.mem_of_getElem? (i := 642) (by decide +kernel)
set_option maxRecDepth 100000 in
theorem m_606 : Cond.instanceMethod ⟨"SystemParts$Serial", "accept", "(I)I"⟩ ∈ lw_tbl := List.mem_of_getElem? (i := 643) (by decide +kernel)
set_option maxRecDepth 100000 in
theorem m_607 : Cond.selects "SystemParts$Serial" ⟨"SystemParts$Serial", "accept", "(I)I"⟩ ⟨"SystemParts$Serial", "accept", "(I)I"⟩ ∈ lw_tbl := List.mem_of_getElem? (i := 644) (by decide +kernel)
set_option maxRecDepth 100000 in
theorem m_608 : Cond.code ⟨"SystemParts$Serial", "accept", "(I)I"⟩ prog_8_method_3_code 2 (some FieldType.int) ∈ lw_tbl := List.mem_of_getElem? (i := 645) (by decide +kernel)
set_option maxRecDepth 100000 in
theorem m_609 : Cond.methodLink "SystemPartsLaw" 80 ⟨"SystemPartsLaw", "sent", "(LSystemParts;II[J)I"⟩ ∈ lw_tbl := List.mem_of_getElem? (i := 646) (by decide +kernel)
set_option maxRecDepth 100000 in
theorem m_610 : Cond.static ⟨"SystemPartsLaw", "sent", "(LSystemParts;II[J)I"⟩ ∈ lw_tbl := List.mem_of_getElem? (i := 647) (by decide +kernel)
set_option maxRecDepth 100000 in
theorem m_611 : Cond.codeWith ⟨"SystemPartsLaw", "sent", "(LSystemParts;II[J)I"⟩ method_9_code 5 (some FieldType.int) [(0, 10, 13, 13), (0, 10, 17, 25)] ∈ lw_tbl := List.mem_of_getElem? (i := 648) (by decide +kernel)
set_option maxRecDepth 100000 in
theorem m_612 : Cond.methodLink "SystemPartsLaw" 39 ⟨"SystemParts", "sent", "(II)I"⟩ ∈ lw_tbl := List.mem_of_getElem? (i := 649) (by decide +kernel)
set_option maxRecDepth 100000 in
theorem m_613 : Cond.instanceMethod ⟨"SystemParts", "sent", "(II)I"⟩ ∈ lw_tbl := List.mem_of_getElem? (i := 650) (by decide +kernel)
set_option maxRecDepth 100000 in
theorem m_614 : Cond.selects "SystemParts" ⟨"SystemParts", "sent", "(II)I"⟩ ⟨"SystemParts", "sent", "(II)I"⟩ ∈ lw_tbl := List.mem_of_getElem? (i := 651) (by decide +kernel)
set_option maxRecDepth 100000 in
theorem m_615 : Cond.code ⟨"SystemParts", "sent", "(II)I"⟩ prog_1_method_8_code 4 (some FieldType.int) ∈ lw_tbl := List.mem_of_getElem? (i := 652) (by decide +kernel)
set_option maxRecDepth 100000 in
theorem m_616 : Cond.methodLink "SystemParts" 140 ⟨"SystemParts$Serial", "goneKept", "()I"⟩ ∈ lw_tbl := List.mem_of_getElem? (i := 653) (by decide +kernel)
set_option maxRecDepth 100000 in
theorem m_617 : Cond.instanceMethod ⟨"SystemParts$Serial", "goneKept", "()I"⟩ ∈ lw_tbl := List.mem_of_getElem? (i := 654) (by decide +kernel)
set_option maxRecDepth 100000 in
theorem m_618 : Cond.selects "SystemParts$Serial" ⟨"SystemParts$Serial", "goneKept", "()I"⟩ ⟨"SystemParts$Serial", "goneKept", "()I"⟩ ∈ lw_tbl := List.mem_of_getElem? (i := 655) (by decide +kernel)
set_option maxRecDepth 100000 in
theorem m_619 : Cond.code ⟨"SystemParts$Serial", "goneKept", "()I"⟩ prog_8_method_4_code 1 (some FieldType.int) ∈ lw_tbl := List.mem_of_getElem? (i := 656) (by decide +kernel)
set_option maxRecDepth 100000 in
theorem m_620 : Cond.methodLink "SystemParts$Serial" 35 ⟨"java/lang/Math", "min", "(II)I"⟩ ∈ lw_tbl := List.mem_of_getElem? (i := 657) (by decide +kernel)
set_option maxRecDepth 100000 in
theorem m_621 : Cond.static ⟨"java/lang/Math", "min", "(II)I"⟩ ∈ lw_tbl := List.mem_of_getElem? (i := 658) (by decide +kernel)
set_option maxRecDepth 100000 in
theorem m_622 : Cond.code ⟨"java/lang/Math", "min", "(II)I"⟩ prog_16_method_69_code 2 (some FieldType.int) ∈ lw_tbl := List.mem_of_getElem? (i := 659) (by decide +kernel)
set_option maxRecDepth 100000 in
theorem m_623 : Cond.stringRef "SystemParts" 145 "no such number went out" ∈ lw_tbl := List.mem_of_getElem? (i := 660) (by decide +kernel)
set_option maxRecDepth 100000 in
theorem m_624 : Cond.methodLink "SystemParts" 148 ⟨"SystemParts$Serial", "goneAt", "(I)I"⟩ ∈ lw_tbl := List.mem_of_getElem? (i := 661) (by decide +kernel)
set_option maxRecDepth 100000 in
theorem m_625 : Cond.instanceMethod ⟨"SystemParts$Serial", "goneAt", "(I)I"⟩ ∈ lw_tbl := List.mem_of_getElem? (i := 662) (by decide +kernel)
set_option maxRecDepth 100000 in
theorem m_626 : Cond.selects "SystemParts$Serial" ⟨"SystemParts$Serial", "goneAt", "(I)I"⟩ ⟨"SystemParts$Serial", "goneAt", "(I)I"⟩ ∈ lw_tbl := List.mem_of_getElem? (i := 663) (by decide +kernel)
set_option maxRecDepth 100000 in
theorem m_627 : Cond.code ⟨"SystemParts$Serial", "goneAt", "(I)I"⟩ prog_8_method_5_code 2 (some FieldType.int) ∈ lw_tbl := List.mem_of_getElem? (i := 664) (by decide +kernel)
set_option maxRecDepth 100000 in
theorem m_628 : Cond.methodLink "SystemParts$Serial" 41 ⟨"SystemParts$Serial", "goneKept", "()I"⟩ ∈ lw_tbl := List.mem_of_getElem? (i := 665) (by decide +kernel)
set_option maxRecDepth 100000 in
theorem m_629 : Cond.methodLink "SystemPartsLaw" 83 ⟨"SystemPartsLaw", "line", "(LSystemParts;III[J)I"⟩ ∈ lw_tbl := List.mem_of_getElem? (i := 666) (by decide +kernel)
set_option maxRecDepth 100000 in
theorem m_630 : Cond.static ⟨"SystemPartsLaw", "line", "(LSystemParts;III[J)I"⟩ ∈ lw_tbl := List.mem_of_getElem? (i := 667) (by decide +kernel)
set_option maxRecDepth 100000 in
theorem m_631 : Cond.codeWith ⟨"SystemPartsLaw", "line", "(LSystemParts;III[J)I"⟩ method_10_code 6 (some FieldType.int) [(0, 12, 15, 25), (0, 12, 19, 13)] ∈ lw_tbl := List.mem_of_getElem? (i := 668) (by decide +kernel)
set_option maxRecDepth 100000 in
theorem m_632 : Cond.methodLink "SystemPartsLaw" 42 ⟨"SystemParts", "line", "(III)I"⟩ ∈ lw_tbl := List.mem_of_getElem? (i := 669) (by decide +kernel)
set_option maxRecDepth 100000 in
theorem m_633 : Cond.instanceMethod ⟨"SystemParts", "line", "(III)I"⟩ ∈ lw_tbl := List.mem_of_getElem? (i := 670) (by decide +kernel)
set_option maxRecDepth 100000 in
theorem m_634 : Cond.selects "SystemParts" ⟨"SystemParts", "line", "(III)I"⟩ ⟨"SystemParts", "line", "(III)I"⟩ ∈ lw_tbl := List.mem_of_getElem? (i := 671) (by decide +kernel)
set_option maxRecDepth 100000 in
theorem m_635 : Cond.code ⟨"SystemParts", "line", "(III)I"⟩ prog_1_method_9_code 4 (some FieldType.int) ∈ lw_tbl := List.mem_of_getElem? (i := 672) (by decide +kernel)
set_option maxRecDepth 100000 in
theorem m_636 : Cond.stringRef "SystemParts" 151 "no such line" ∈ lw_tbl := List.mem_of_getElem? (i := 673) (by decide +kernel)
set_option maxRecDepth 100000 in
theorem m_637 : Cond.methodLink "SystemParts" 153 ⟨"SystemParts$Lines", "greatest", "(I)I"⟩ ∈ lw_tbl := List.mem_of_getElem? (i := 674) (by decide +kernel)
set_option maxRecDepth 100000 in
theorem m_638 : Cond.static ⟨"SystemParts$Lines", "greatest", "(I)I"⟩ ∈ lw_tbl := List.mem_of_getElem? (i := 675) (by decide +kernel)
set_option maxRecDepth 100000 in
theorem m_639 : Cond.code ⟨"SystemParts$Lines", "greatest", "(I)I"⟩ prog_4_method_2_code 1 (some FieldType.int) ∈ lw_tbl := List.mem_of_getElem? (i := 676) (by decide +kernel)
set_option maxRecDepth 100000 in
theorem m_640 : Cond.stringRef "SystemParts" 156 "a line has no such setting" ∈ lw_tbl := List.mem_of_getElem? (i := 677) (by decide +kernel)
set_option maxRecDepth 100000 in
theorem m_641 : Cond.methodLink "SystemParts" 158 ⟨"SystemParts$Lines", "change", "(III)I"⟩ ∈ lw_tbl := List.mem_of_getElem? (i := 678) (by decide +kernel)
set_option maxRecDepth 100000 in
theorem m_642 : Cond.instanceMethod ⟨"SystemParts$Lines", "change", "(III)I"⟩ ∈ lw_tbl := List.mem_of_getElem? (i := 679) (by decide +kernel)
set_option maxRecDepth 100000 in
theorem m_643 : Cond.selects "SystemParts$Lines" ⟨"SystemParts$Lines", "change", "(III)I"⟩ ⟨"SystemParts$Lines", "change", "(III)I"⟩ ∈ lw_tbl := List.mem_of_getElem? (i := 680) (by decide +kernel)
set_option maxRecDepth 100000 in
theorem m_644 : Cond.code ⟨"SystemParts$Lines", "change", "(III)I"⟩ prog_4_method_3_code 4 (some FieldType.int) ∈ lw_tbl := List.mem_of_getElem? (i := 681) (by decide +kernel)
set_option maxRecDepth 100000 in
theorem m_645 : Cond.methodLink "SystemParts$Lines" 28 ⟨"SystemParts$Lines", "changeWay", "(II)I"⟩ ∈ lw_tbl := List.mem_of_getElem? (i := 682) (by decide +kernel)
set_option maxRecDepth 100000 in
theorem m_646 : Cond.privateMethod ⟨"SystemParts$Lines", "changeWay", "(II)I"⟩ ∈ lw_tbl := List.mem_of_getElem? (i := 683) (by decide +kernel)
set_option maxRecDepth 100000 in
theorem m_647 : Cond.instanceMethod ⟨"SystemParts$Lines", "changeWay", "(II)I"⟩ ∈ lw_tbl := List.mem_of_getElem? (i := 684) (by decide +kernel)
set_option maxRecDepth 100000 in
theorem m_648 : Cond.code ⟨"SystemParts$Lines", "changeWay", "(II)I"⟩ prog_4_method_4_code 4 (some FieldType.int) ∈ lw_tbl := List.mem_of_getElem? (i := 685) (by decide +kernel)
set_option maxRecDepth 100000 in
theorem m_649 : Cond.methodLink "SystemParts$Lines" 38 ⟨"SystemParts$Lines", "forget", "(I)V"⟩ ∈ lw_tbl := List.mem_of_getElem? (i := 686) (by decide +kernel)
set_option maxRecDepth 100000 in
theorem m_650 : Cond.methodLink "SystemParts$Lines" 32 ⟨"SystemParts$Lines", "changeRank", "(II)I"⟩ ∈ lw_tbl := List.mem_of_getElem? (i := 687) (by decide +kernel)
set_option maxRecDepth 100000 in
theorem m_651 : Cond.privateMethod ⟨"SystemParts$Lines", "changeRank", "(II)I"⟩ ∈ lw_tbl := List.mem_of_getElem? (i := 688) (by decide +kernel)
set_option maxRecDepth 100000 in
theorem m_652 : Cond.instanceMethod ⟨"SystemParts$Lines", "changeRank", "(II)I"⟩ ∈ lw_tbl := List.mem_of_getElem? (i := 689) (by decide +kernel)
set_option maxRecDepth 100000 in
theorem m_653 : Cond.code ⟨"SystemParts$Lines", "changeRank", "(II)I"⟩ prog_4_method_5_code 4 (some FieldType.int) ∈ lw_tbl := List.mem_of_getElem? (i := 690) (by decide +kernel)
set_option maxRecDepth 100000 in
theorem m_654 : Cond.methodLink "SystemParts$Lines" 35 ⟨"SystemParts$Lines", "changeHidden", "(II)I"⟩ ∈ lw_tbl := List.mem_of_getElem? (i := 691) (by decide +kernel)
set_option maxRecDepth 100000 in
theorem m_655 : Cond.privateMethod ⟨"SystemParts$Lines", "changeHidden", "(II)I"⟩ ∈ lw_tbl := List.mem_of_getElem? (i := 692) (by decide +kernel)
set_option maxRecDepth 100000 in
theorem m_656 : Cond.instanceMethod ⟨"SystemParts$Lines", "changeHidden", "(II)I"⟩ ∈ lw_tbl := List.mem_of_getElem? (i := 693) (by decide +kernel)
set_option maxRecDepth 100000 in
theorem m_657 : Cond.code ⟨"SystemParts$Lines", "changeHidden", "(II)I"⟩ prog_4_method_6_code 4 (some FieldType.int) ∈ lw_tbl := List.mem_of_getElem? (i := 694) (by decide +kernel)
set_option maxRecDepth 100000 in
theorem m_658 : Cond.methodLink "SystemPartsLaw" 87 ⟨"SystemPartsLaw", "asks", "(LSystemParts;I[J)I"⟩ ∈ lw_tbl := List.mem_of_getElem? (i := 695) (by decide +kernel)
set_option maxRecDepth 100000 in
theorem m_659 : Cond.static ⟨"SystemPartsLaw", "asks", "(LSystemParts;I[J)I"⟩ ∈ lw_tbl := List.mem_of_getElem? (i := 696) (by decide +kernel)
set_option maxRecDepth 100000 in
theorem m_660 : Cond.codeWith ⟨"SystemPartsLaw", "asks", "(LSystemParts;I[J)I"⟩ method_11_code 4 (some FieldType.int) [(0, 9, 12, 25)] ∈ lw_tbl := List.mem_of_getElem? (i := 697) (by decide +kernel)
set_option maxRecDepth 100000 in
theorem m_661 : Cond.methodLink "SystemPartsLaw" 46 ⟨"SystemParts", "asks", "(I)I"⟩ ∈ lw_tbl := List.mem_of_getElem? (i := 698) (by decide +kernel)
set_option maxRecDepth 100000 in
theorem m_662 : Cond.instanceMethod ⟨"SystemParts", "asks", "(I)I"⟩ ∈ lw_tbl := List.mem_of_getElem? (i := 699) (by decide +kernel)
set_option maxRecDepth 100000 in
theorem m_663 : Cond.selects "SystemParts" ⟨"SystemParts", "asks", "(I)I"⟩ ⟨"SystemParts", "asks", "(I)I"⟩ ∈ lw_tbl := List.mem_of_getElem? (i := 700) (by decide +kernel)
set_option maxRecDepth 100000 in
theorem m_664 : Cond.code ⟨"SystemParts", "asks", "(I)I"⟩ prog_1_method_10_code 4 (some FieldType.int) ∈ lw_tbl := List.mem_of_getElem? (i := 701) (by decide +kernel)
set_option maxRecDepth 100000 in
theorem m_665 : Cond.classLink "SystemPartsLaw" 50 "SystemPartsModel" ∈ lw_tbl := List.mem_of_getElem? (i := 702) (by decide +kernel)
set_option maxRecDepth 100000 in
theorem m_666 : Cond.instantiable "SystemPartsModel" 25 ∈ lw_tbl := List.mem_of_getElem? (i := 703) (by decide +kernel)
set_option maxRecDepth 100000 in
theorem m_667 : Cond.methodLink "SystemPartsLaw" 52 ⟨"SystemPartsModel", "<init>", "()V"⟩ ∈ lw_tbl := List.mem_of_getElem? (i := 704) (by decide +kernel)
set_option maxRecDepth 100000 in
theorem m_668 : Cond.instanceMethod ⟨"SystemPartsModel", "<init>", "()V"⟩ ∈ lw_tbl := List.mem_of_getElem? (i := 705) (by decide +kernel)
set_option maxRecDepth 100000 in
theorem m_669 : Cond.code ⟨"SystemPartsModel", "<init>", "()V"⟩ prog_11_method_1_code 1 none ∈ lw_tbl := List.mem_of_getElem? (i := 706) (by decide +kernel)
set_option maxRecDepth 100000 in
theorem m_670 : Cond.methodLink "SystemPartsModel" 1 ⟨"java/lang/Object", "<init>", "()V"⟩ ∈ lw_tbl := List.mem_of_getElem? (i := 707) (by decide +kernel)
set_option maxRecDepth 100000 in
theorem m_671 : Cond.fieldLink "SystemPartsModel" 65 "SystemPartsModel" "thrown" "I" ∈ lw_tbl := List.mem_of_getElem? (i := 708) (by decide +kernel)
set_option maxRecDepth 100000 in
theorem m_672 : Cond.fieldLink "SystemPartsModel" 104 "SystemPartsModel" "time" "I" ∈ lw_tbl := List.mem_of_getElem? (i := 709) (by decide +kernel)
set_option maxRecDepth 100000 in
theorem m_673 : Cond.fieldLink "SystemPartsModel" 78 "SystemPartsModel" "parts" "I" ∈ lw_tbl := List.mem_of_getElem? (i := 710) (by decide +kernel)
set_option maxRecDepth 100000 in
theorem m_674 : Cond.fieldLink "SystemPartsModel" 88 "SystemPartsModel" "cause" "I" ∈ lw_tbl := List.mem_of_getElem? (i := 711) (by decide +kernel)
set_option maxRecDepth 100000 in
theorem m_675 : Cond.fieldLink "SystemPartsModel" 7 "SystemPartsModel" "kind" "[I" ∈ lw_tbl := List.mem_of_getElem? (i := 712) (by decide +kernel)
set_option maxRecDepth 100000 in
theorem m_676 : Cond.fieldLink "SystemPartsModel" 13 "SystemPartsModel" "from" "[I" ∈ lw_tbl := List.mem_of_getElem? (i := 713) (by decide +kernel)
set_option maxRecDepth 100000 in
theorem m_677 : Cond.fieldLink "SystemPartsModel" 16 "SystemPartsModel" "size" "[I" ∈ lw_tbl := List.mem_of_getElem? (i := 714) (by decide +kernel)
set_option maxRecDepth 100000 in
theorem m_678 : Cond.fieldLink "SystemPartsModel" 19 "SystemPartsModel" "lineOf" "[I" ∈ lw_tbl := List.mem_of_getElem? (i := 715) (by decide +kernel)
set_option maxRecDepth 100000 in
theorem m_679 : Cond.fieldLink "SystemPartsModel" 22 "SystemPartsModel" "waits" "[I" ∈ lw_tbl := List.mem_of_getElem? (i := 716) (by decide +kernel)
set_option maxRecDepth 100000 in
theorem m_680 : Cond.fieldLink "SystemPartsModel" 25 "SystemPartsModel" "reg" "[I" ∈ lw_tbl := List.mem_of_getElem? (i := 717) (by decide +kernel)
set_option maxRecDepth 100000 in
theorem m_681 : Cond.fieldLink "SystemPartsModel" 28 "SystemPartsModel" "left" "[I" ∈ lw_tbl := List.mem_of_getElem? (i := 718) (by decide +kernel)
set_option maxRecDepth 100000 in
theorem m_682 : Cond.fieldLink "SystemPartsModel" 31 "SystemPartsModel" "what" "[I" ∈ lw_tbl := List.mem_of_getElem? (i := 719) (by decide +kernel)
set_option maxRecDepth 100000 in
theorem m_683 : Cond.fieldLink "SystemPartsModel" 34 "SystemPartsModel" "came" "[I" ∈ lw_tbl := List.mem_of_getElem? (i := 720) (by decide +kernel)
set_option maxRecDepth 100000 in
theorem m_684 : Cond.fieldLink "SystemPartsModel" 37 "SystemPartsModel" "in" "[I" ∈ lw_tbl := List.mem_of_getElem? (i := 721) (by decide +kernel)
set_option maxRecDepth 100000 in
theorem m_685 : Cond.fieldLink "SystemPartsModel" 40 "SystemPartsModel" "went" "[I" ∈ lw_tbl := List.mem_of_getElem? (i := 722) (by decide +kernel)
set_option maxRecDepth 100000 in
theorem m_686 : Cond.fieldLink "SystemPartsModel" 43 "SystemPartsModel" "gone" "[I" ∈ lw_tbl := List.mem_of_getElem? (i := 723) (by decide +kernel)
set_option maxRecDepth 100000 in
theorem m_687 : Cond.fieldLink "SystemPartsModel" 46 "SystemPartsModel" "rows" "[I" ∈ lw_tbl := List.mem_of_getElem? (i := 724) (by decide +kernel)
set_option maxRecDepth 100000 in
theorem m_688 : Cond.fieldLink "SystemPartsModel" 49 "SystemPartsModel" "way" "[I" ∈ lw_tbl := List.mem_of_getElem? (i := 725) (by decide +kernel)
set_option maxRecDepth 100000 in
theorem m_689 : Cond.fieldLink "SystemPartsModel" 52 "SystemPartsModel" "rank" "[I" ∈ lw_tbl := List.mem_of_getElem? (i := 726) (by decide +kernel)
set_option maxRecDepth 100000 in
theorem m_690 : Cond.fieldLink "SystemPartsModel" 55 "SystemPartsModel" "hidden" "[Z" ∈ lw_tbl := List.mem_of_getElem? (i := 727) (by decide +kernel)
set_option maxRecDepth 100000 in
theorem m_691 : Cond.fieldLink "SystemPartsModel" 59 "SystemPartsModel" "up" "[Z" ∈ lw_tbl := List.mem_of_getElem? (i := 728) (by decide +kernel)
set_option maxRecDepth 100000 in
theorem m_692 : Cond.fieldLink "SystemPartsModel" 62 "SystemPartsModel" "noted" "[Z" ∈ lw_tbl := List.mem_of_getElem? (i := 729) (by decide +kernel)
set_option maxRecDepth 100000 in
theorem m_693 : Cond.fieldLink "SystemPartsModel" 91 "SystemPartsModel" "reads" "I" ∈ lw_tbl := List.mem_of_getElem? (i := 730) (by decide +kernel)
set_option maxRecDepth 100000 in
theorem m_694 : Cond.fieldLink "SystemPartsModel" 94 "SystemPartsModel" "writes" "I" ∈ lw_tbl := List.mem_of_getElem? (i := 731) (by decide +kernel)
set_option maxRecDepth 100000 in
theorem m_695 : Cond.fieldLink "SystemPartsModel" 97 "SystemPartsModel" "faults" "I" ∈ lw_tbl := List.mem_of_getElem? (i := 732) (by decide +kernel)
set_option maxRecDepth 100000 in
theorem m_696 : Cond.lays "SystemPartsModel" "SystemPartsModel" "thrown" "I" ∈ lw_tbl := List.mem_of_getElem? (i := 733) (by decide +kernel)
set_option maxRecDepth 100000 in
theorem m_697 : Cond.soleField "SystemPartsModel" "thrown" ∈ lw_tbl := List.mem_of_getElem? (i := 734) (by decide +kernel)
set_option maxRecDepth 100000 in
theorem m_698 : Cond.lays "SystemPartsModel" "SystemPartsModel" "time" "I" ∈ lw_tbl := List.mem_of_getElem? (i := 735) (by decide +kernel)
set_option maxRecDepth 100000 in
theorem m_699 : Cond.soleField "SystemPartsModel" "time" ∈ lw_tbl := List.mem_of_getElem? (i := 736) (by decide +kernel)
set_option maxRecDepth 100000 in
theorem m_700 : Cond.lays "SystemPartsModel" "SystemPartsModel" "parts" "I" ∈ lw_tbl := List.mem_of_getElem? (i := 737) (by decide +kernel)
set_option maxRecDepth 100000 in
theorem m_701 : Cond.soleField "SystemPartsModel" "parts" ∈ lw_tbl := List.mem_of_getElem? (i := 738) (by decide +kernel)
set_option maxRecDepth 100000 in
theorem m_702 : Cond.lays "SystemPartsModel" "SystemPartsModel" "cause" "I" ∈ lw_tbl := List.mem_of_getElem? (i := 739) (by decide +kernel)
set_option maxRecDepth 100000 in
theorem m_703 : Cond.soleField "SystemPartsModel" "cause" ∈ lw_tbl := List.mem_of_getElem? (i := 740) (by decide +kernel)
set_option maxRecDepth 100000 in
theorem m_704 : Cond.laysFinal "SystemPartsModel" "SystemPartsModel" "kind" "[I" ∈ lw_tbl := List.mem_of_getElem? (i := 741) (by decide +kernel)
set_option maxRecDepth 100000 in
theorem m_705 : Cond.soleField "SystemPartsModel" "kind" ∈ lw_tbl := List.mem_of_getElem? (i := 742) (by decide +kernel)
set_option maxRecDepth 100000 in
theorem m_706 : Cond.laysFinal "SystemPartsModel" "SystemPartsModel" "from" "[I" ∈ lw_tbl := List.mem_of_getElem? (i := 743) (by decide +kernel)
set_option maxRecDepth 100000 in
theorem m_707 : Cond.soleField "SystemPartsModel" "from" ∈ lw_tbl := List.mem_of_getElem? (i := 744) (by decide +kernel)
set_option maxRecDepth 100000 in
theorem m_708 : Cond.laysFinal "SystemPartsModel" "SystemPartsModel" "size" "[I" ∈ lw_tbl := List.mem_of_getElem? (i := 745) (by decide +kernel)
set_option maxRecDepth 100000 in
theorem m_709 : Cond.soleField "SystemPartsModel" "size" ∈ lw_tbl := List.mem_of_getElem? (i := 746) (by decide +kernel)
set_option maxRecDepth 100000 in
theorem m_710 : Cond.laysFinal "SystemPartsModel" "SystemPartsModel" "lineOf" "[I" ∈ lw_tbl := List.mem_of_getElem? (i := 747) (by decide +kernel)
set_option maxRecDepth 100000 in
theorem m_711 : Cond.soleField "SystemPartsModel" "lineOf" ∈ lw_tbl := List.mem_of_getElem? (i := 748) (by decide +kernel)
set_option maxRecDepth 100000 in
theorem m_712 : Cond.laysFinal "SystemPartsModel" "SystemPartsModel" "waits" "[I" ∈ lw_tbl := List.mem_of_getElem? (i := 749) (by decide +kernel)
set_option maxRecDepth 100000 in
theorem m_713 : Cond.soleField "SystemPartsModel" "waits" ∈ lw_tbl := List.mem_of_getElem? (i := 750) (by decide +kernel)
set_option maxRecDepth 100000 in
theorem m_714 : Cond.laysFinal "SystemPartsModel" "SystemPartsModel" "reg" "[I" ∈ lw_tbl := List.mem_of_getElem? (i := 751) (by decide +kernel)
set_option maxRecDepth 100000 in
theorem m_715 : Cond.soleField "SystemPartsModel" "reg" ∈ lw_tbl := List.mem_of_getElem? (i := 752) (by decide +kernel)
set_option maxRecDepth 100000 in
theorem m_716 : Cond.laysFinal "SystemPartsModel" "SystemPartsModel" "left" "[I" ∈ lw_tbl := List.mem_of_getElem? (i := 753) (by decide +kernel)
set_option maxRecDepth 100000 in
theorem m_717 : Cond.soleField "SystemPartsModel" "left" ∈ lw_tbl := List.mem_of_getElem? (i := 754) (by decide +kernel)
set_option maxRecDepth 100000 in
theorem m_718 : Cond.laysFinal "SystemPartsModel" "SystemPartsModel" "what" "[I" ∈ lw_tbl := List.mem_of_getElem? (i := 755) (by decide +kernel)
set_option maxRecDepth 100000 in
theorem m_719 : Cond.soleField "SystemPartsModel" "what" ∈ lw_tbl := List.mem_of_getElem? (i := 756) (by decide +kernel)
set_option maxRecDepth 100000 in
theorem m_720 : Cond.laysFinal "SystemPartsModel" "SystemPartsModel" "came" "[I" ∈ lw_tbl := List.mem_of_getElem? (i := 757) (by decide +kernel)
set_option maxRecDepth 100000 in
theorem m_721 : Cond.soleField "SystemPartsModel" "came" ∈ lw_tbl := List.mem_of_getElem? (i := 758) (by decide +kernel)
set_option maxRecDepth 100000 in
theorem m_722 : Cond.laysFinal "SystemPartsModel" "SystemPartsModel" "in" "[I" ∈ lw_tbl := List.mem_of_getElem? (i := 759) (by decide +kernel)
set_option maxRecDepth 100000 in
theorem m_723 : Cond.soleField "SystemPartsModel" "in" ∈ lw_tbl := List.mem_of_getElem? (i := 760) (by decide +kernel)
set_option maxRecDepth 100000 in
theorem m_724 : Cond.laysFinal "SystemPartsModel" "SystemPartsModel" "went" "[I" ∈ lw_tbl := List.mem_of_getElem? (i := 761) (by decide +kernel)
set_option maxRecDepth 100000 in
theorem m_725 : Cond.soleField "SystemPartsModel" "went" ∈ lw_tbl := List.mem_of_getElem? (i := 762) (by decide +kernel)
set_option maxRecDepth 100000 in
theorem m_726 : Cond.laysFinal "SystemPartsModel" "SystemPartsModel" "gone" "[I" ∈ lw_tbl := List.mem_of_getElem? (i := 763) (by decide +kernel)
set_option maxRecDepth 100000 in
theorem m_727 : Cond.soleField "SystemPartsModel" "gone" ∈ lw_tbl := List.mem_of_getElem? (i := 764) (by decide +kernel)
set_option maxRecDepth 100000 in
theorem m_728 : Cond.laysFinal "SystemPartsModel" "SystemPartsModel" "rows" "[I" ∈ lw_tbl := List.mem_of_getElem? (i := 765) (by decide +kernel)
set_option maxRecDepth 100000 in
theorem m_729 : Cond.soleField "SystemPartsModel" "rows" ∈ lw_tbl := List.mem_of_getElem? (i := 766) (by decide +kernel)
set_option maxRecDepth 100000 in
theorem m_730 : Cond.laysFinal "SystemPartsModel" "SystemPartsModel" "way" "[I" ∈ lw_tbl := List.mem_of_getElem? (i := 767) (by decide +kernel)
set_option maxRecDepth 100000 in
theorem m_731 : Cond.soleField "SystemPartsModel" "way" ∈ lw_tbl := List.mem_of_getElem? (i := 768) (by decide +kernel)
set_option maxRecDepth 100000 in
theorem m_732 : Cond.laysFinal "SystemPartsModel" "SystemPartsModel" "rank" "[I" ∈ lw_tbl := List.mem_of_getElem? (i := 769) (by decide +kernel)
set_option maxRecDepth 100000 in
theorem m_733 : Cond.soleField "SystemPartsModel" "rank" ∈ lw_tbl := List.mem_of_getElem? (i := 770) (by decide +kernel)
set_option maxRecDepth 100000 in
theorem m_734 : Cond.laysFinal "SystemPartsModel" "SystemPartsModel" "hidden" "[Z" ∈ lw_tbl := List.mem_of_getElem? (i := 771) (by decide +kernel)
set_option maxRecDepth 100000 in
theorem m_735 : Cond.soleField "SystemPartsModel" "hidden" ∈ lw_tbl := List.mem_of_getElem? (i := 772) (by decide +kernel)
set_option maxRecDepth 100000 in
theorem m_736 : Cond.laysFinal "SystemPartsModel" "SystemPartsModel" "up" "[Z" ∈ lw_tbl := List.mem_of_getElem? (i := 773) (by decide +kernel)
set_option maxRecDepth 100000 in
theorem m_737 : Cond.soleField "SystemPartsModel" "up" ∈ lw_tbl := List.mem_of_getElem? (i := 774) (by decide +kernel)
set_option maxRecDepth 100000 in
theorem m_738 : Cond.laysFinal "SystemPartsModel" "SystemPartsModel" "noted" "[Z" ∈ lw_tbl := List.mem_of_getElem? (i := 775) (by decide +kernel)
set_option maxRecDepth 100000 in
theorem m_739 : Cond.soleField "SystemPartsModel" "noted" ∈ lw_tbl := List.mem_of_getElem? (i := 776) (by decide +kernel)
set_option maxRecDepth 100000 in
theorem m_740 : Cond.lays "SystemPartsModel" "SystemPartsModel" "reads" "I" ∈ lw_tbl := List.mem_of_getElem? (i := 777) (by decide +kernel)
set_option maxRecDepth 100000 in
theorem m_741 : Cond.soleField "SystemPartsModel" "reads" ∈ lw_tbl := List.mem_of_getElem? (i := 778) (by decide +kernel)
set_option maxRecDepth 100000 in
theorem m_742 : Cond.lays "SystemPartsModel" "SystemPartsModel" "writes" "I" ∈ lw_tbl := List.mem_of_getElem? (i := 779) (by decide +kernel)
set_option maxRecDepth 100000 in
theorem m_743 : Cond.soleField "SystemPartsModel" "writes" ∈ lw_tbl := List.mem_of_getElem? (i := 780) (by decide +kernel)
set_option maxRecDepth 100000 in
theorem m_744 : Cond.lays "SystemPartsModel" "SystemPartsModel" "faults" "I" ∈ lw_tbl := List.mem_of_getElem? (i := 781) (by decide +kernel)
set_option maxRecDepth 100000 in
theorem m_745 : Cond.soleField "SystemPartsModel" "faults" ∈ lw_tbl := List.mem_of_getElem? (i := 782) (by decide +kernel)
set_option maxRecDepth 100000 in
theorem m_746 : Cond.superclass "SystemPartsModel" "java/lang/Object" ∈ lw_tbl := List.mem_of_getElem? (i := 783) (by decide +kernel)
set_option maxRecDepth 100000 in
theorem m_747 : Cond.arrayClass FieldType.boolean ∈ lw_tbl := List.mem_of_getElem? (i := 784) (by decide +kernel)
set_option maxRecDepth 100000 in
theorem m_748 : Cond.methodLink "SystemPartsLaw" 59 ⟨"SystemPartsModel", "thrown", "()I"⟩ ∈ lw_tbl := List.mem_of_getElem? (i := 785) (by decide +kernel)
set_option maxRecDepth 100000 in
theorem m_749 : Cond.instanceMethod ⟨"SystemPartsModel", "thrown", "()I"⟩ ∈ lw_tbl := List.mem_of_getElem? (i := 786) (by decide +kernel)
set_option maxRecDepth 100000 in
theorem m_750 : Cond.selects "SystemPartsModel" ⟨"SystemPartsModel", "thrown", "()I"⟩ ⟨"SystemPartsModel", "thrown", "()I"⟩ ∈ lw_tbl := List.mem_of_getElem? (i := 787) (by decide +kernel)
set_option maxRecDepth 100000 in
theorem m_751 : Cond.code ⟨"SystemPartsModel", "thrown", "()I"⟩ prog_11_method_2_code 1 (some FieldType.int) ∈ lw_tbl := List.mem_of_getElem? (i := 788) (by decide +kernel)
set_option maxRecDepth 100000 in
theorem m_752 : Cond.methodLink "SystemPartsLaw" 58 ⟨"SystemPartsModel", "part", "(IIIII)I"⟩ ∈ lw_tbl := List.mem_of_getElem? (i := 789) (by decide +kernel)
set_option maxRecDepth 100000 in
theorem m_753 : Cond.instanceMethod ⟨"SystemPartsModel", "part", "(IIIII)I"⟩ ∈ lw_tbl := List.mem_of_getElem? (i := 790) (by decide +kernel)
set_option maxRecDepth 100000 in
theorem m_754 : Cond.selects "SystemPartsModel" ⟨"SystemPartsModel", "part", "(IIIII)I"⟩ ⟨"SystemPartsModel", "part", "(IIIII)I"⟩ ∈ lw_tbl := List.mem_of_getElem? (i := 791) (by decide +kernel)
set_option maxRecDepth 100000 in
theorem m_755 : Cond.code ⟨"SystemPartsModel", "part", "(IIIII)I"⟩ prog_11_method_6_code 9 (some FieldType.int) ∈ lw_tbl := List.mem_of_getElem? (i := 792) (by decide +kernel)
set_option maxRecDepth 100000 in
theorem m_756 : Cond.methodLink "SystemPartsModel" 69 ⟨"SystemPartsModel", "within", "(III)Z"⟩ ∈ lw_tbl := List.mem_of_getElem? (i := 793) (by decide +kernel)
set_option maxRecDepth 100000 in
theorem m_757 : Cond.static ⟨"SystemPartsModel", "within", "(III)Z"⟩ ∈ lw_tbl := List.mem_of_getElem? (i := 794) (by decide +kernel)
set_option maxRecDepth 100000 in
theorem m_758 : Cond.code ⟨"SystemPartsModel", "within", "(III)Z"⟩ prog_11_method_4_code 3 (some FieldType.boolean) ∈ lw_tbl := List.mem_of_getElem? (i := 795) (by decide +kernel)
set_option maxRecDepth 100000 in
theorem m_759 : Cond.methodLink "SystemPartsModel" 73 ⟨"SystemPartsModel", "sizeOf", "(II)I"⟩ ∈ lw_tbl := List.mem_of_getElem? (i := 796) (by decide +kernel)
set_option maxRecDepth 100000 in
theorem m_760 : Cond.static ⟨"SystemPartsModel", "sizeOf", "(II)I"⟩ ∈ lw_tbl := List.mem_of_getElem? (i := 797) (by decide +kernel)
set_option maxRecDepth 100000 in
theorem m_761 : Cond.code ⟨"SystemPartsModel", "sizeOf", "(II)I"⟩ prog_11_method_5_code 2 (some FieldType.int) ∈ lw_tbl := List.mem_of_getElem? (i := 798) (by decide +kernel)
set_option maxRecDepth 100000 in
theorem m_762 : Cond.constant "SystemPartsModel" 77 (65536 : Int32) ∈ lw_tbl := List.mem_of_getElem? (i := 799) (by decide +kernel)
set_option maxRecDepth 100000 in
theorem m_763 : Cond.methodLink "SystemPartsModel" 81 ⟨"SystemPartsModel", "fail", "(I)I"⟩ ∈ lw_tbl := List.mem_of_getElem? (i := 800) (by decide +kernel)
set_option maxRecDepth 100000 in
theorem m_764 : Cond.privateMethod ⟨"SystemPartsModel", "fail", "(I)I"⟩ ∈ lw_tbl := List.mem_of_getElem? (i := 801) (by decide +kernel)
set_option maxRecDepth 100000 in
theorem m_765 : Cond.instanceMethod ⟨"SystemPartsModel", "fail", "(I)I"⟩ ∈ lw_tbl := List.mem_of_getElem? (i := 802) (by decide +kernel)
set_option maxRecDepth 100000 in
theorem m_766 : Cond.code ⟨"SystemPartsModel", "fail", "(I)I"⟩ prog_11_method_3_code 2 (some FieldType.int) ∈ lw_tbl := List.mem_of_getElem? (i := 803) (by decide +kernel)
set_option maxRecDepth 100000 in
theorem m_767 : Cond.methodLink "SystemPartsLaw" 66 ⟨"SystemPartsModel", "load", "(II)I"⟩ ∈ lw_tbl := List.mem_of_getElem? (i := 804) (by decide +kernel)
set_option maxRecDepth 100000 in
theorem m_768 : Cond.instanceMethod ⟨"SystemPartsModel", "load", "(II)I"⟩ ∈ lw_tbl := List.mem_of_getElem? (i := 805) (by decide +kernel)
set_option maxRecDepth 100000 in
theorem m_769 : Cond.selects "SystemPartsModel" ⟨"SystemPartsModel", "load", "(II)I"⟩ ⟨"SystemPartsModel", "load", "(II)I"⟩ ∈ lw_tbl := List.mem_of_getElem? (i := 806) (by decide +kernel)
set_option maxRecDepth 100000 in
theorem m_770 : Cond.code ⟨"SystemPartsModel", "load", "(II)I"⟩ prog_11_method_8_code 6 (some FieldType.int) ∈ lw_tbl := List.mem_of_getElem? (i := 807) (by decide +kernel)
set_option maxRecDepth 100000 in
theorem m_771 : Cond.methodLink "SystemPartsModel" 85 ⟨"SystemPartsModel", "partAt", "(I)I"⟩ ∈ lw_tbl := List.mem_of_getElem? (i := 808) (by decide +kernel)
set_option maxRecDepth 100000 in
theorem m_772 : Cond.privateMethod ⟨"SystemPartsModel", "partAt", "(I)I"⟩ ∈ lw_tbl := List.mem_of_getElem? (i := 809) (by decide +kernel)
set_option maxRecDepth 100000 in
theorem m_773 : Cond.instanceMethod ⟨"SystemPartsModel", "partAt", "(I)I"⟩ ∈ lw_tbl := List.mem_of_getElem? (i := 810) (by decide +kernel)
set_option maxRecDepth 100000 in
theorem m_774 : Cond.code ⟨"SystemPartsModel", "partAt", "(I)I"⟩ prog_11_method_7_code 3 (some FieldType.int) ∈ lw_tbl := List.mem_of_getElem? (i := 811) (by decide +kernel)
set_option maxRecDepth 100000 in
theorem m_775 : Cond.methodLink "SystemPartsLaw" 76 ⟨"SystemPartsModel", "step", "(I)Z"⟩ ∈ lw_tbl := List.mem_of_getElem? (i := 812) (by decide +kernel)
set_option maxRecDepth 100000 in
theorem m_776 : Cond.instanceMethod ⟨"SystemPartsModel", "step", "(I)Z"⟩ ∈ lw_tbl := List.mem_of_getElem? (i := 813) (by decide +kernel)
set_option maxRecDepth 100000 in
theorem m_777 : Cond.selects "SystemPartsModel" ⟨"SystemPartsModel", "step", "(I)Z"⟩ ⟨"SystemPartsModel", "step", "(I)Z"⟩ ∈ lw_tbl := List.mem_of_getElem? (i := 814) (by decide +kernel)
set_option maxRecDepth 100000 in
theorem m_778 : Cond.code ⟨"SystemPartsModel", "step", "(I)Z"⟩ prog_11_method_16_code 4 (some FieldType.boolean) ∈ lw_tbl := List.mem_of_getElem? (i := 815) (by decide +kernel)
set_option maxRecDepth 100000 in
theorem m_779 : Cond.methodLink "SystemPartsModel" 123 ⟨"SystemPartsModel", "stepOnce", "()Z"⟩ ∈ lw_tbl := List.mem_of_getElem? (i := 816) (by decide +kernel)
set_option maxRecDepth 100000 in
theorem m_780 : Cond.privateMethod ⟨"SystemPartsModel", "stepOnce", "()Z"⟩ ∈ lw_tbl := List.mem_of_getElem? (i := 817) (by decide +kernel)
set_option maxRecDepth 100000 in
theorem m_781 : Cond.instanceMethod ⟨"SystemPartsModel", "stepOnce", "()Z"⟩ ∈ lw_tbl := List.mem_of_getElem? (i := 818) (by decide +kernel)
set_option maxRecDepth 100000 in
theorem m_782 : Cond.code ⟨"SystemPartsModel", "stepOnce", "()Z"⟩ prog_11_method_15_code 2 (some FieldType.boolean) ∈ lw_tbl := List.mem_of_getElem? (i := 819) (by decide +kernel)
set_option maxRecDepth 100000 in
theorem m_783 : Cond.methodLink "SystemPartsModel" 107 ⟨"SystemPartsModel", "timerStep", "(I)Z"⟩ ∈ lw_tbl := List.mem_of_getElem? (i := 820) (by decide +kernel)
set_option maxRecDepth 100000 in
theorem m_784 : Cond.privateMethod ⟨"SystemPartsModel", "timerStep", "(I)Z"⟩ ∈ lw_tbl := List.mem_of_getElem? (i := 821) (by decide +kernel)
set_option maxRecDepth 100000 in
theorem m_785 : Cond.instanceMethod ⟨"SystemPartsModel", "timerStep", "(I)Z"⟩ ∈ lw_tbl := List.mem_of_getElem? (i := 822) (by decide +kernel)
set_option maxRecDepth 100000 in
theorem m_786 : Cond.code ⟨"SystemPartsModel", "timerStep", "(I)Z"⟩ prog_11_method_12_code 2 (some FieldType.boolean) ∈ lw_tbl := List.mem_of_getElem? (i := 823) (by decide +kernel)
set_option maxRecDepth 100000 in
theorem m_787 : Cond.methodLink "SystemPartsModel" 110 ⟨"SystemPartsModel", "resetAll", "(I)V"⟩ ∈ lw_tbl := List.mem_of_getElem? (i := 824) (by decide +kernel)
set_option maxRecDepth 100000 in
theorem m_788 : Cond.privateMethod ⟨"SystemPartsModel", "resetAll", "(I)V"⟩ ∈ lw_tbl := List.mem_of_getElem? (i := 825) (by decide +kernel)
set_option maxRecDepth 100000 in
theorem m_789 : Cond.instanceMethod ⟨"SystemPartsModel", "resetAll", "(I)V"⟩ ∈ lw_tbl := List.mem_of_getElem? (i := 826) (by decide +kernel)
set_option maxRecDepth 100000 in
theorem m_790 : Cond.code ⟨"SystemPartsModel", "resetAll", "(I)V"⟩ prog_11_method_9_code 4 none ∈ lw_tbl := List.mem_of_getElem? (i := 827) (by decide +kernel)
set_option maxRecDepth 100000 in
theorem m_791 : Cond.methodLink "SystemPartsModel" 114 ⟨"SystemPartsModel", "sendStep", "(I)V"⟩ ∈ lw_tbl := List.mem_of_getElem? (i := 828) (by decide +kernel)
set_option maxRecDepth 100000 in
theorem m_792 : Cond.privateMethod ⟨"SystemPartsModel", "sendStep", "(I)V"⟩ ∈ lw_tbl := List.mem_of_getElem? (i := 829) (by decide +kernel)
set_option maxRecDepth 100000 in
theorem m_793 : Cond.instanceMethod ⟨"SystemPartsModel", "sendStep", "(I)V"⟩ ∈ lw_tbl := List.mem_of_getElem? (i := 830) (by decide +kernel)
set_option maxRecDepth 100000 in
theorem m_794 : Cond.code ⟨"SystemPartsModel", "sendStep", "(I)V"⟩ prog_11_method_13_code 3 none ∈ lw_tbl := List.mem_of_getElem? (i := 831) (by decide +kernel)
set_option maxRecDepth 100000 in
theorem m_795 : Cond.methodLink "SystemPartsModel" 117 ⟨"SystemPartsModel", "rowStep", "(I)V"⟩ ∈ lw_tbl := List.mem_of_getElem? (i := 832) (by decide +kernel)
set_option maxRecDepth 100000 in
theorem m_796 : Cond.privateMethod ⟨"SystemPartsModel", "rowStep", "(I)V"⟩ ∈ lw_tbl := List.mem_of_getElem? (i := 833) (by decide +kernel)
set_option maxRecDepth 100000 in
theorem m_797 : Cond.instanceMethod ⟨"SystemPartsModel", "rowStep", "(I)V"⟩ ∈ lw_tbl := List.mem_of_getElem? (i := 834) (by decide +kernel)
set_option maxRecDepth 100000 in
theorem m_798 : Cond.code ⟨"SystemPartsModel", "rowStep", "(I)V"⟩ prog_11_method_14_code 5 none ∈ lw_tbl := List.mem_of_getElem? (i := 835) (by decide +kernel)
set_option maxRecDepth 100000 in
theorem m_799 : Cond.methodLink "SystemPartsModel" 120 ⟨"SystemPartsModel", "lookAtLines", "()V"⟩ ∈ lw_tbl := List.mem_of_getElem? (i := 836) (by decide +kernel)
set_option maxRecDepth 100000 in
theorem m_800 : Cond.privateMethod ⟨"SystemPartsModel", "lookAtLines", "()V"⟩ ∈ lw_tbl := List.mem_of_getElem? (i := 837) (by decide +kernel)
set_option maxRecDepth 100000 in
theorem m_801 : Cond.instanceMethod ⟨"SystemPartsModel", "lookAtLines", "()V"⟩ ∈ lw_tbl := List.mem_of_getElem? (i := 838) (by decide +kernel)
set_option maxRecDepth 100000 in
theorem m_802 : Cond.code ⟨"SystemPartsModel", "lookAtLines", "()V"⟩ prog_11_method_11_code 4 none ∈ lw_tbl := List.mem_of_getElem? (i := 839) (by decide +kernel)
set_option maxRecDepth 100000 in
theorem m_803 : Cond.methodLink "SystemPartsModel" 100 ⟨"SystemPartsModel", "asksNow", "(I)Z"⟩ ∈ lw_tbl := List.mem_of_getElem? (i := 840) (by decide +kernel)
set_option maxRecDepth 100000 in
theorem m_804 : Cond.privateMethod ⟨"SystemPartsModel", "asksNow", "(I)Z"⟩ ∈ lw_tbl := List.mem_of_getElem? (i := 841) (by decide +kernel)
set_option maxRecDepth 100000 in
theorem m_805 : Cond.instanceMethod ⟨"SystemPartsModel", "asksNow", "(I)Z"⟩ ∈ lw_tbl := List.mem_of_getElem? (i := 842) (by decide +kernel)
set_option maxRecDepth 100000 in
theorem m_806 : Cond.code ⟨"SystemPartsModel", "asksNow", "(I)Z"⟩ prog_11_method_10_code 3 (some FieldType.boolean) ∈ lw_tbl := List.mem_of_getElem? (i := 843) (by decide +kernel)
set_option maxRecDepth 100000 in
theorem m_807 : Cond.methodLink "SystemPartsLaw" 70 ⟨"SystemPartsModel", "read", "(I)I"⟩ ∈ lw_tbl := List.mem_of_getElem? (i := 844) (by decide +kernel)
set_option maxRecDepth 100000 in
theorem m_808 : Cond.instanceMethod ⟨"SystemPartsModel", "read", "(I)I"⟩ ∈ lw_tbl := List.mem_of_getElem? (i := 845) (by decide +kernel)
set_option maxRecDepth 100000 in
theorem m_809 : Cond.selects "SystemPartsModel" ⟨"SystemPartsModel", "read", "(I)I"⟩ ⟨"SystemPartsModel", "read", "(I)I"⟩ ∈ lw_tbl := List.mem_of_getElem? (i := 846) (by decide +kernel)
set_option maxRecDepth 100000 in
theorem m_810 : Cond.code ⟨"SystemPartsModel", "read", "(I)I"⟩ prog_11_method_20_code 5 (some FieldType.int) ∈ lw_tbl := List.mem_of_getElem? (i := 847) (by decide +kernel)
set_option maxRecDepth 100000 in
theorem m_811 : Cond.constant "SystemPartsModel" 127 (65535 : Int32) ∈ lw_tbl := List.mem_of_getElem? (i := 848) (by decide +kernel)
set_option maxRecDepth 100000 in
theorem m_812 : Cond.methodLink "SystemPartsModel" 128 ⟨"SystemPartsModel", "countAll", "(I)V"⟩ ∈ lw_tbl := List.mem_of_getElem? (i := 849) (by decide +kernel)
set_option maxRecDepth 100000 in
theorem m_813 : Cond.privateMethod ⟨"SystemPartsModel", "countAll", "(I)V"⟩ ∈ lw_tbl := List.mem_of_getElem? (i := 850) (by decide +kernel)
set_option maxRecDepth 100000 in
theorem m_814 : Cond.instanceMethod ⟨"SystemPartsModel", "countAll", "(I)V"⟩ ∈ lw_tbl := List.mem_of_getElem? (i := 851) (by decide +kernel)
set_option maxRecDepth 100000 in
theorem m_815 : Cond.code ⟨"SystemPartsModel", "countAll", "(I)V"⟩ prog_11_method_17_code 3 none ∈ lw_tbl := List.mem_of_getElem? (i := 852) (by decide +kernel)
set_option maxRecDepth 100000 in
theorem m_816 : Cond.methodLink "SystemPartsModel" 131 ⟨"SystemPartsModel", "waitFor", "(I)V"⟩ ∈ lw_tbl := List.mem_of_getElem? (i := 853) (by decide +kernel)
set_option maxRecDepth 100000 in
theorem m_817 : Cond.privateMethod ⟨"SystemPartsModel", "waitFor", "(I)V"⟩ ∈ lw_tbl := List.mem_of_getElem? (i := 854) (by decide +kernel)
set_option maxRecDepth 100000 in
theorem m_818 : Cond.instanceMethod ⟨"SystemPartsModel", "waitFor", "(I)V"⟩ ∈ lw_tbl := List.mem_of_getElem? (i := 855) (by decide +kernel)
set_option maxRecDepth 100000 in
theorem m_819 : Cond.code ⟨"SystemPartsModel", "waitFor", "(I)V"⟩ prog_11_method_18_code 3 none ∈ lw_tbl := List.mem_of_getElem? (i := 856) (by decide +kernel)
set_option maxRecDepth 100000 in
theorem m_820 : Cond.methodLink "SystemPartsModel" 134 ⟨"SystemPartsModel", "takeIn", "(I)I"⟩ ∈ lw_tbl := List.mem_of_getElem? (i := 857) (by decide +kernel)
set_option maxRecDepth 100000 in
theorem m_821 : Cond.privateMethod ⟨"SystemPartsModel", "takeIn", "(I)I"⟩ ∈ lw_tbl := List.mem_of_getElem? (i := 858) (by decide +kernel)
set_option maxRecDepth 100000 in
theorem m_822 : Cond.instanceMethod ⟨"SystemPartsModel", "takeIn", "(I)I"⟩ ∈ lw_tbl := List.mem_of_getElem? (i := 859) (by decide +kernel)
set_option maxRecDepth 100000 in
theorem m_823 : Cond.code ⟨"SystemPartsModel", "takeIn", "(I)I"⟩ prog_11_method_19_code 4 (some FieldType.int) ∈ lw_tbl := List.mem_of_getElem? (i := 860) (by decide +kernel)
set_option maxRecDepth 100000 in
theorem m_824 : Cond.methodLink "SystemPartsLaw" 73 ⟨"SystemPartsModel", "write", "(II)I"⟩ ∈ lw_tbl := List.mem_of_getElem? (i := 861) (by decide +kernel)
set_option maxRecDepth 100000 in
theorem m_825 : Cond.instanceMethod ⟨"SystemPartsModel", "write", "(II)I"⟩ ∈ lw_tbl := List.mem_of_getElem? (i := 862) (by decide +kernel)
set_option maxRecDepth 100000 in
theorem m_826 : Cond.selects "SystemPartsModel" ⟨"SystemPartsModel", "write", "(II)I"⟩ ⟨"SystemPartsModel", "write", "(II)I"⟩ ∈ lw_tbl := List.mem_of_getElem? (i := 863) (by decide +kernel)
set_option maxRecDepth 100000 in
theorem m_827 : Cond.code ⟨"SystemPartsModel", "write", "(II)I"⟩ prog_11_method_24_code 5 (some FieldType.int) ∈ lw_tbl := List.mem_of_getElem? (i := 864) (by decide +kernel)
set_option maxRecDepth 100000 in
theorem m_828 : Cond.methodLink "SystemPartsModel" 137 ⟨"SystemPartsModel", "writeTimer", "(III)V"⟩ ∈ lw_tbl := List.mem_of_getElem? (i := 865) (by decide +kernel)
set_option maxRecDepth 100000 in
theorem m_829 : Cond.privateMethod ⟨"SystemPartsModel", "writeTimer", "(III)V"⟩ ∈ lw_tbl := List.mem_of_getElem? (i := 866) (by decide +kernel)
set_option maxRecDepth 100000 in
theorem m_830 : Cond.instanceMethod ⟨"SystemPartsModel", "writeTimer", "(III)V"⟩ ∈ lw_tbl := List.mem_of_getElem? (i := 867) (by decide +kernel)
set_option maxRecDepth 100000 in
theorem m_831 : Cond.code ⟨"SystemPartsModel", "writeTimer", "(III)V"⟩ prog_11_method_21_code 4 none ∈ lw_tbl := List.mem_of_getElem? (i := 868) (by decide +kernel)
set_option maxRecDepth 100000 in
theorem m_832 : Cond.methodLink "SystemPartsModel" 141 ⟨"SystemPartsModel", "writeSerial", "(III)V"⟩ ∈ lw_tbl := List.mem_of_getElem? (i := 869) (by decide +kernel)
set_option maxRecDepth 100000 in
theorem m_833 : Cond.privateMethod ⟨"SystemPartsModel", "writeSerial", "(III)V"⟩ ∈ lw_tbl := List.mem_of_getElem? (i := 870) (by decide +kernel)
set_option maxRecDepth 100000 in
theorem m_834 : Cond.instanceMethod ⟨"SystemPartsModel", "writeSerial", "(III)V"⟩ ∈ lw_tbl := List.mem_of_getElem? (i := 871) (by decide +kernel)
set_option maxRecDepth 100000 in
theorem m_835 : Cond.code ⟨"SystemPartsModel", "writeSerial", "(III)V"⟩ prog_11_method_22_code 4 none ∈ lw_tbl := List.mem_of_getElem? (i := 872) (by decide +kernel)
set_option maxRecDepth 100000 in
theorem m_836 : Cond.methodLink "SystemPartsModel" 144 ⟨"SystemPartsModel", "writeRows", "(III)V"⟩ ∈ lw_tbl := List.mem_of_getElem? (i := 873) (by decide +kernel)
set_option maxRecDepth 100000 in
theorem m_837 : Cond.privateMethod ⟨"SystemPartsModel", "writeRows", "(III)V"⟩ ∈ lw_tbl := List.mem_of_getElem? (i := 874) (by decide +kernel)
set_option maxRecDepth 100000 in
theorem m_838 : Cond.instanceMethod ⟨"SystemPartsModel", "writeRows", "(III)V"⟩ ∈ lw_tbl := List.mem_of_getElem? (i := 875) (by decide +kernel)
set_option maxRecDepth 100000 in
theorem m_839 : Cond.code ⟨"SystemPartsModel", "writeRows", "(III)V"⟩ prog_11_method_23_code 6 none ∈ lw_tbl := List.mem_of_getElem? (i := 876) (by decide +kernel)
set_option maxRecDepth 100000 in
theorem m_840 : Cond.methodLink "SystemPartsLaw" 79 ⟨"SystemPartsModel", "receive", "(II)I"⟩ ∈ lw_tbl := List.mem_of_getElem? (i := 877) (by decide +kernel)
set_option maxRecDepth 100000 in
theorem m_841 : Cond.instanceMethod ⟨"SystemPartsModel", "receive", "(II)I"⟩ ∈ lw_tbl := List.mem_of_getElem? (i := 878) (by decide +kernel)
set_option maxRecDepth 100000 in
theorem m_842 : Cond.selects "SystemPartsModel" ⟨"SystemPartsModel", "receive", "(II)I"⟩ ⟨"SystemPartsModel", "receive", "(II)I"⟩ ∈ lw_tbl := List.mem_of_getElem? (i := 879) (by decide +kernel)
set_option maxRecDepth 100000 in
theorem m_843 : Cond.code ⟨"SystemPartsModel", "receive", "(II)I"⟩ prog_11_method_26_code 3 (some FieldType.int) ∈ lw_tbl := List.mem_of_getElem? (i := 880) (by decide +kernel)
set_option maxRecDepth 100000 in
theorem m_844 : Cond.methodLink "SystemPartsModel" 147 ⟨"SystemPartsModel", "isSerial", "(I)Z"⟩ ∈ lw_tbl := List.mem_of_getElem? (i := 881) (by decide +kernel)
set_option maxRecDepth 100000 in
theorem m_845 : Cond.privateMethod ⟨"SystemPartsModel", "isSerial", "(I)Z"⟩ ∈ lw_tbl := List.mem_of_getElem? (i := 882) (by decide +kernel)
set_option maxRecDepth 100000 in
theorem m_846 : Cond.instanceMethod ⟨"SystemPartsModel", "isSerial", "(I)Z"⟩ ∈ lw_tbl := List.mem_of_getElem? (i := 883) (by decide +kernel)
set_option maxRecDepth 100000 in
theorem m_847 : Cond.code ⟨"SystemPartsModel", "isSerial", "(I)Z"⟩ prog_11_method_25_code 2 (some FieldType.boolean) ∈ lw_tbl := List.mem_of_getElem? (i := 884) (by decide +kernel)
set_option maxRecDepth 100000 in
theorem m_848 : Cond.methodLink "SystemPartsLaw" 82 ⟨"SystemPartsModel", "sent", "(II)I"⟩ ∈ lw_tbl := List.mem_of_getElem? (i := 885) (by decide +kernel)
set_option maxRecDepth 100000 in
theorem m_849 : Cond.instanceMethod ⟨"SystemPartsModel", "sent", "(II)I"⟩ ∈ lw_tbl := List.mem_of_getElem? (i := 886) (by decide +kernel)
set_option maxRecDepth 100000 in
theorem m_850 : Cond.selects "SystemPartsModel" ⟨"SystemPartsModel", "sent", "(II)I"⟩ ⟨"SystemPartsModel", "sent", "(II)I"⟩ ∈ lw_tbl := List.mem_of_getElem? (i := 887) (by decide +kernel)
set_option maxRecDepth 100000 in
theorem m_851 : Cond.code ⟨"SystemPartsModel", "sent", "(II)I"⟩ prog_11_method_27_code 4 (some FieldType.int) ∈ lw_tbl := List.mem_of_getElem? (i := 888) (by decide +kernel)
set_option maxRecDepth 100000 in
theorem m_852 : Cond.methodLink "SystemPartsLaw" 86 ⟨"SystemPartsModel", "line", "(III)I"⟩ ∈ lw_tbl := List.mem_of_getElem? (i := 889) (by decide +kernel)
set_option maxRecDepth 100000 in
theorem m_853 : Cond.instanceMethod ⟨"SystemPartsModel", "line", "(III)I"⟩ ∈ lw_tbl := List.mem_of_getElem? (i := 890) (by decide +kernel)
set_option maxRecDepth 100000 in
theorem m_854 : Cond.selects "SystemPartsModel" ⟨"SystemPartsModel", "line", "(III)I"⟩ ⟨"SystemPartsModel", "line", "(III)I"⟩ ∈ lw_tbl := List.mem_of_getElem? (i := 891) (by decide +kernel)
set_option maxRecDepth 100000 in
theorem m_855 : Cond.code ⟨"SystemPartsModel", "line", "(III)I"⟩ prog_11_method_28_code 5 (some FieldType.int) ∈ lw_tbl := List.mem_of_getElem? (i := 892) (by decide +kernel)
set_option maxRecDepth 100000 in
theorem m_856 : Cond.methodLink "SystemPartsLaw" 89 ⟨"SystemPartsModel", "asks", "(I)I"⟩ ∈ lw_tbl := List.mem_of_getElem? (i := 893) (by decide +kernel)
set_option maxRecDepth 100000 in
theorem m_857 : Cond.instanceMethod ⟨"SystemPartsModel", "asks", "(I)I"⟩ ∈ lw_tbl := List.mem_of_getElem? (i := 894) (by decide +kernel)
set_option maxRecDepth 100000 in
theorem m_858 : Cond.selects "SystemPartsModel" ⟨"SystemPartsModel", "asks", "(I)I"⟩ ⟨"SystemPartsModel", "asks", "(I)I"⟩ ∈ lw_tbl := List.mem_of_getElem? (i := 895) (by decide +kernel)
set_option maxRecDepth 100000 in
theorem m_859 : Cond.code ⟨"SystemPartsModel", "asks", "(I)I"⟩ prog_11_method_30_code 2 (some FieldType.int) ∈ lw_tbl := List.mem_of_getElem? (i := 896) (by decide +kernel)
set_option maxRecDepth 100000 in
theorem m_860 : Cond.methodLink "SystemPartsModel" 150 ⟨"SystemPartsModel", "isPending", "(I)Z"⟩ ∈ lw_tbl := List.mem_of_getElem? (i := 897) (by decide +kernel)
set_option maxRecDepth 100000 in
theorem m_861 : Cond.privateMethod ⟨"SystemPartsModel", "isPending", "(I)Z"⟩ ∈ lw_tbl := List.mem_of_getElem? (i := 898) (by decide +kernel)
set_option maxRecDepth 100000 in
theorem m_862 : Cond.instanceMethod ⟨"SystemPartsModel", "isPending", "(I)Z"⟩ ∈ lw_tbl := List.mem_of_getElem? (i := 899) (by decide +kernel)
set_option maxRecDepth 100000 in
theorem m_863 : Cond.code ⟨"SystemPartsModel", "isPending", "(I)Z"⟩ prog_11_method_29_code 2 (some FieldType.boolean) ∈ lw_tbl := List.mem_of_getElem? (i := 900) (by decide +kernel)
set_option maxRecDepth 100000 in
theorem m_864 : Cond.methodLink "SystemPartsLaw" 93 ⟨"SystemPartsModel", "chosen", "()I"⟩ ∈ lw_tbl := List.mem_of_getElem? (i := 901) (by decide +kernel)
set_option maxRecDepth 100000 in
theorem m_865 : Cond.instanceMethod ⟨"SystemPartsModel", "chosen", "()I"⟩ ∈ lw_tbl := List.mem_of_getElem? (i := 902) (by decide +kernel)
set_option maxRecDepth 100000 in
theorem m_866 : Cond.selects "SystemPartsModel" ⟨"SystemPartsModel", "chosen", "()I"⟩ ⟨"SystemPartsModel", "chosen", "()I"⟩ ∈ lw_tbl := List.mem_of_getElem? (i := 903) (by decide +kernel)
set_option maxRecDepth 100000 in
theorem m_867 : Cond.code ⟨"SystemPartsModel", "chosen", "()I"⟩ prog_11_method_32_code 1 (some FieldType.int) ∈ lw_tbl := List.mem_of_getElem? (i := 904) (by decide +kernel)
set_option maxRecDepth 100000 in
theorem m_868 : Cond.methodLink "SystemPartsModel" 153 ⟨"SystemPartsModel", "choose", "()I"⟩ ∈ lw_tbl := List.mem_of_getElem? (i := 905) (by decide +kernel)
set_option maxRecDepth 100000 in
theorem m_869 : Cond.privateMethod ⟨"SystemPartsModel", "choose", "()I"⟩ ∈ lw_tbl := List.mem_of_getElem? (i := 906) (by decide +kernel)
set_option maxRecDepth 100000 in
theorem m_870 : Cond.instanceMethod ⟨"SystemPartsModel", "choose", "()I"⟩ ∈ lw_tbl := List.mem_of_getElem? (i := 907) (by decide +kernel)
set_option maxRecDepth 100000 in
theorem m_871 : Cond.code ⟨"SystemPartsModel", "choose", "()I"⟩ prog_11_method_31_code 3 (some FieldType.int) ∈ lw_tbl := List.mem_of_getElem? (i := 908) (by decide +kernel)
set_option maxRecDepth 100000 in
theorem m_872 : Cond.methodLink "SystemPartsLaw" 97 ⟨"SystemPartsModel", "take", "()I"⟩ ∈ lw_tbl := List.mem_of_getElem? (i := 909) (by decide +kernel)
set_option maxRecDepth 100000 in
theorem m_873 : Cond.instanceMethod ⟨"SystemPartsModel", "take", "()I"⟩ ∈ lw_tbl := List.mem_of_getElem? (i := 910) (by decide +kernel)
set_option maxRecDepth 100000 in
theorem m_874 : Cond.selects "SystemPartsModel" ⟨"SystemPartsModel", "take", "()I"⟩ ⟨"SystemPartsModel", "take", "()I"⟩ ∈ lw_tbl := List.mem_of_getElem? (i := 911) (by decide +kernel)
set_option maxRecDepth 100000 in
theorem m_875 : Cond.code ⟨"SystemPartsModel", "take", "()I"⟩ prog_11_method_33_code 2 (some FieldType.int) ∈ lw_tbl := List.mem_of_getElem? (i := 912) (by decide +kernel)
set_option maxRecDepth 100000 in
theorem m_876 : Cond.methodLink "SystemPartsLaw" 101 ⟨"SystemPartsModel", "reset", "()I"⟩ ∈ lw_tbl := List.mem_of_getElem? (i := 913) (by decide +kernel)
set_option maxRecDepth 100000 in
theorem m_877 : Cond.instanceMethod ⟨"SystemPartsModel", "reset", "()I"⟩ ∈ lw_tbl := List.mem_of_getElem? (i := 914) (by decide +kernel)
set_option maxRecDepth 100000 in
theorem m_878 : Cond.selects "SystemPartsModel" ⟨"SystemPartsModel", "reset", "()I"⟩ ⟨"SystemPartsModel", "reset", "()I"⟩ ∈ lw_tbl := List.mem_of_getElem? (i := 915) (by decide +kernel)
set_option maxRecDepth 100000 in
theorem m_879 : Cond.code ⟨"SystemPartsModel", "reset", "()I"⟩ prog_11_method_34_code 2 (some FieldType.int) ∈ lw_tbl := List.mem_of_getElem? (i := 916) (by decide +kernel)
set_option maxRecDepth 100000 in
theorem m_880 : Cond.methodLink "SystemPartsLaw" 105 ⟨"SystemPartsModel", "count", "(I)I"⟩ ∈ lw_tbl := List.mem_of_getElem? (i := 917) (by decide +kernel)
set_option maxRecDepth 100000 in
theorem m_881 : Cond.instanceMethod ⟨"SystemPartsModel", "count", "(I)I"⟩ ∈ lw_tbl := List.mem_of_getElem? (i := 918) (by decide +kernel)
set_option maxRecDepth 100000 in
theorem m_882 : Cond.selects "SystemPartsModel" ⟨"SystemPartsModel", "count", "(I)I"⟩ ⟨"SystemPartsModel", "count", "(I)I"⟩ ∈ lw_tbl := List.mem_of_getElem? (i := 919) (by decide +kernel)
set_option maxRecDepth 100000 in
theorem m_883 : Cond.code ⟨"SystemPartsModel", "count", "(I)I"⟩ prog_11_method_35_code 5 (some FieldType.int) ∈ lw_tbl := List.mem_of_getElem? (i := 920) (by decide +kernel)
set_option maxRecDepth 100000 in
theorem m_884 : Cond.arrayClass FieldType.long ∈ lw_tbl := List.mem_of_getElem? (i := 921) (by decide +kernel)
set_option maxRecDepth 100000 in
theorem m_885 : Cond.sameMethod "java/lang/Throwable" "java/lang/Throwable" "fillInStackTrace" "(I)Ljava/lang/Throwable;" ∈ lw_tbl := List.mem_of_getElem? (i := 922) (by decide +kernel)
set_option maxRecDepth 100000 in
theorem m_886 : Cond.castable "SystemParts$Serial" "SystemParts$Serial" ∈ lw_tbl := List.mem_of_getElem? (i := 923) (by decide +kernel)
set_option maxRecDepth 100000 in
theorem m_887 : Cond.castable "SystemParts$Cells" "SystemParts$Cells" ∈ lw_tbl := List.mem_of_getElem? (i := 924) (by decide +kernel)
set_option maxRecDepth 100000 in
theorem m_888 : Cond.castable "SystemParts$Counts" "SystemParts$Counts" ∈ lw_tbl := List.mem_of_getElem? (i := 925) (by decide +kernel)
set_option maxRecDepth 100000 in
theorem m_889 : Cond.castable "SystemParts$Cells" "SystemParts$Part" ∈ lw_tbl := List.mem_of_getElem? (i := 926) (by decide +kernel)
set_option maxRecDepth 100000 in
theorem m_890 : Cond.castable "SystemParts$Counts" "SystemParts$Part" ∈ lw_tbl := List.mem_of_getElem? (i := 927) (by decide +kernel)
set_option maxRecDepth 100000 in
theorem m_891 : Cond.castable "SystemParts$Rows" "SystemParts$Part" ∈ lw_tbl := List.mem_of_getElem? (i := 928) (by decide +kernel)
set_option maxRecDepth 100000 in
theorem m_892 : Cond.castable "SystemParts$Serial" "SystemParts$Part" ∈ lw_tbl := List.mem_of_getElem? (i := 929) (by decide +kernel)
set_option maxRecDepth 100000 in
theorem m_893 : Cond.castable "SystemParts$Timer" "SystemParts$Part" ∈ lw_tbl := List.mem_of_getElem? (i := 930) (by decide +kernel)
end
section
/-! A judgement of one's own over the machine: the state of a method at a pc, with its locals, its stack and ALL cells that were made since the law began, at their real addresses. -/
abbrev mm_C : Type := (Nat × vp_A) ⊕ (Nat × List Value)
abbrev mm_H : Type := Nat → Option mm_C
abbrev mm_L : Type := List (Option Value)
abbrev mm_O : Type := Option Value ⊕ Nat
/-- a method: its name, its bytes, how many locals, its answer's type, its handlers -/
abbrev mm_M : Type := MethodName × ByteArray × Nat × Option FieldType × List (Nat × Nat × Nat × Nat)
/-- the script: its address, its length, its ints -/
abbrev mm_Sc : Type := Nat × Nat × (Nat → Int32)
/-- where the law began: launch, state, arguments, classes and slots, array classes -/
abbrev mm_X : Type := Launch × State × Array Value × va_G × (Nat → ClassId)
abbrev mm_X.l (X : mm_X) : Launch := X.1
abbrev mm_X.s0 (X : mm_X) : State := X.2.1
abbrev mm_X.a0 (X : mm_X) : Array Value := X.2.2.1
abbrev mm_X.D (X : mm_X) : va_G := X.2.2.2.1
abbrev mm_X.dA (X : mm_X) : Nat → ClassId := X.2.2.2.2
/-- the invocation -/
abbrev mm_P : Type := Program × Env × Room × State × MethodId × Array Value × List Frame × Method × Code
abbrev mm_P.p (P : mm_P) : Program := P.1
abbrev mm_P.e (P : mm_P) : Env := P.2.1
abbrev mm_P.R (P : mm_P) : Room := P.2.2.1
abbrev mm_P.s (P : mm_P) : State := P.2.2.2.1
abbrev mm_P.m (P : mm_P) : MethodId := P.2.2.2.2.1
abbrev mm_P.args (P : mm_P) : Array Value := P.2.2.2.2.2.1
abbrev mm_P.below (P : mm_P) : List Frame := P.2.2.2.2.2.2.1
abbrev mm_P.meth (P : mm_P) : Method := P.2.2.2.2.2.2.2.1
abbrev mm_P.c (P : mm_P) : Code := P.2.2.2.2.2.2.2.2
/-- the point: heap, written places, cells and slots made, locals -/
abbrev mm_Z : Type := Heap × List Loc × Nat × Nat × Array Slot
abbrev mm_Z.H (Z : mm_Z) : Heap := Z.1
abbrev mm_Z.locs (Z : mm_Z) : List Loc := Z.2.1
abbrev mm_Z.cells (Z : mm_Z) : Nat := Z.2.2.1
abbrev mm_Z.slots (Z : mm_Z) : Nat := Z.2.2.2.1
abbrev mm_Z.ls (Z : mm_Z) : Array Slot := Z.2.2.2.2
/-- array kinds by number -/
def mm_ty : Nat → FieldType
  | 0 => .int
  | 1 => .long
  | 2 => .boolean
  | _ => .object mm_elem
def mm_e (dA : Nat → ClassId) (c : mm_C) : va_E := match c with
  | .inl a => .inl (dA a.1, a.2)
  | .inr o => .inr o
/-- the exceptions by number -/
def mm_ex : Nat → String
  | 0 => "java/lang/IllegalArgumentException"
  | 1 => "java/lang/UnsupportedOperationException"
  | 2 => "java/lang/IndexOutOfBoundsException"
  | _ => "java/lang/IllegalStateException"
/-- a launch without stack traces, and what the statement gives of the start -/
def mm_T (l : Launch) (s : State) (a : Array Value) : Prop := l.stackTraces = false ∧ (Jvm.Cond.and given_1 narrow_1).before a s = true
/-- what is known of the start -/
def mm_K (sc : mm_Sc) (X : mm_X) : Prop :=
  (∀ w ∈ lw_tbl, w.before X.a0 X.s0 = true) ∧ va_K X.D vwCl [] X.s0 ∧ (∀ t, t < 4 → ArrOfT X.s0 (X.dA t) (mm_ty t) ∧ va_RA X.s0 (X.dA t) (mm_ty t)) ∧ va_X sc.1 sc.2.1 sc.2.2 X.s0 X.s0.heap ∧ sc.1 < X.s0.heap.size ∧ mm_T X.l X.s0 X.a0
/-- the heap holds the cells h, n is its size, what the law found is untouched -/
def mm_HR (X : mm_X) (n : Nat) (h : mm_H) (H : Heap) : Prop :=
  H.size = n ∧ X.s0.heap.size ≤ n ∧ (∀ q : Nat, q < X.s0.heap.size → H[q]? = X.s0.heap[q]?) ∧ ∀ (i : Nat) (c : mm_C), h i = some c → X.s0.heap.size ≤ i ∧ va_at X.D vwCl (i, mm_e X.dA c) H
def mm_S (sc : mm_Sc) (y : mm_M) (d : Nat) (X : mm_X) (P : mm_P) : Prop :=
  P.p.tables.exec = Jvm.exec ∧ P.c.code = y.2.1 ∧ P.c.maxLocals = y.2.2.1 ∧ P.meth.sig.returnType = y.2.2.2.1 ∧ P.meth.locks = false ∧ P.s.vm.findClass y.1.cls = some P.m.cls ∧ P.meth.name = y.1.name ∧
  (P.c.exceptionTable.toList.map fun z => (z.startPc, z.endPc, z.handlerPc, z.catchType)) = y.2.2.2.2 ∧ X.s0.WarmedH P.s.vm ∧ d ≤ P.R.frames ∧ 35 * d ≤ P.R.locals ∧ (X.s0.heap.size ≤ P.s.heap.size ∧ ∀ q : Nat, q < X.s0.heap.size → P.s.heap[q]? = X.s0.heap[q]?) ∧ mm_K sc X
def mm_R (X : mm_X) (n : Nat) (h : mm_H) (kc ks : Nat) (P : mm_P) (Z : mm_Z) : Prop :=
  mm_HR X n h Z.H ∧ Z.cells + kc ≤ P.R.cells ∧ Z.slots + ks ≤ P.R.slots ∧ ∀ q ∈ Z.locs, X.s0.heap.size ≤ q.base
def mm_lv (l : mm_L) : List (Nat × Value) := (List.range l.length).filterMap (fun i => (l[i]?.join).map (fun v => (i, v)))
def mm_LR (y : mm_M) (l : mm_L) (Z : mm_Z) : Prop := lv_has Z.ls y.2.2.1 (mm_lv l) ∧ ∀ q ∈ mm_lv l, q.2.category = 1
def mm_OR (X : mm_X) (mo : mm_O) (o : Outcome) (t : State) : Prop := match mo with
  | .inl v => o = .returned v
  | .inr k => ∃ (a : Addr) (cell : Cell), o = .threw a ∧ t.heap[a]? = some cell ∧ cell.vm = .none ∧ X.s0.vm.findClass (mm_ex k) = some cell.cls
def mm_D (X : mm_X) (rm : Room) (Q : mm_O → Nat → mm_H → Prop) (s : State) (o : Outcome) (t : State) : Prop :=
  ∃ (mo : mm_O) (n : Nat) (h : mm_H), mm_OR X mo o t ∧ Q mo n h ∧ mm_HR X n h t.heap ∧ s.WarmedH t.vm ∧ ∃ locs : List Loc, s.sameButNew ({ t with vm := s.vm } : State) locs rm.cells rm.slots ∧ ∀ q ∈ locs, X.s0.heap.size ≤ q.base
def mm_E (X : mm_X) (P : mm_P) (Q : mm_O → Nat → mm_H → Prop) : State → Prop := fun t => ∃ o, t.status = .running ∧ Ended t P.below o ∧ mm_D X P.R Q P.s o t
abbrev mm_W (X : mm_X) (P : mm_P) (Z : mm_Z) (Q : State → Prop) (g : JFrame) : Prop := W P.p X.l P.e P.R P.s P.m P.args P.below P.meth P.c Z.H Z.locs Z.cells Z.slots Q g
/-- THE JUDGEMENT -/
def mm_G (sc : mm_Sc) (y : mm_M) (d pc : Nat) (l : mm_L) (st : List Value) (n : Nat) (h : mm_H) (kc ks : Nat) (Q : mm_O → Nat → mm_H → Prop) : Prop :=
  ∀ (X : mm_X) (P : mm_P) (Z : mm_Z), mm_S sc y d X P → mm_R X n h kc ks P Z → mm_LR y l Z → mm_W X P Z (mm_E X P Q) (F0 P.m pc Z.ls st)
def mm_code (y : mm_M) : Cond := match y.2.2.2.2 with
  | [] => .code y.1 y.2.1 y.2.2.1 y.2.2.2.1
  | hs => .codeWith y.1 y.2.1 y.2.2.1 y.2.2.2.1 hs
def mm_rm (d kc ks : Nat) : Room := { frames := d, cells := kc, slots := ks, locals := 35 * d }
/-- THE CONTRACT of a method at arguments and cells -/
def mm_J (sc : mm_Sc) (y : mm_M) (d : Nat) (as : List Value) (n : Nat) (h : mm_H) (kc ks : Nat) (Q : mm_O → Nat → mm_H → Prop) : Prop :=
  ∀ X : mm_X, mm_K sc X → MetFree X.l y.1 (headSpec [mm_code y] (mm_rm d kc ks)) (fun a s => a = as.toArray ∧ X.s0.WarmedH s.vm ∧ X.s0.heap.size ≤ s.heap.size ∧ mm_HR X n h s.heap) (fun _ _ _ _ _ => True) (fun _ s o t => mm_D X (mm_rm d kc ks) Q s o t)
section MM2
variable {sc : mm_Sc} {y : mm_M} {d pc : Nat} {l : mm_L} {st : List Value} {n : Nat} {h : mm_H} {kc ks : Nat} {Q : mm_O → Nat → mm_H → Prop} {X : mm_X} {P : mm_P} {Z : mm_Z}
theorem mm_lv_mem {l : mm_L} {i : Nat} {v : Value} : (i, v) ∈ mm_lv l ↔ l[i]? = some (some v) := by
  unfold mm_lv
  rw [List.mem_filterMap]
  constructor
  · rintro ⟨j, -, hj⟩
    cases h : l[j]? with
    | none => rw [h] at hj; simp at hj
    | some o =>
      cases o with
      | none => rw [h] at hj; simp at hj
      | some w =>
        rw [h] at hj
        simp at hj
        obtain ⟨rfl, rfl⟩ := hj
        exact h
  · intro h
    exact ⟨i, List.mem_range.mpr (List.getElem?_eq_some_iff.mp h).1, by rw [h]; rfl⟩
theorem mm_LR.at (E : mm_LR y l Z) {i : Nat} {v : Value} (hl : l[i]? = some (some v)) : Z.ls[i]? = some (.val v) := E.1.2.2 (i, v) (mm_lv_mem.mpr hl)
theorem mm_LR.set (E : mm_LR y l Z) {i : Nat} {v : Value} {ls' : Array Slot} (hc : v.category = 1) (h' : lv_has ls' y.2.2.1 ((i, v) :: (mm_lv l).filter (fun q => !(q.1 == i) && !(q.1 + 1 == i && q.2.category == 2)))) :
    mm_LR y (l.set i (some v)) (Z.H, Z.locs, Z.cells, Z.slots, ls') := by
  have key : ∀ q ∈ mm_lv (l.set i (some v)), q ∈ ((i, v) :: (mm_lv l).filter (fun q => !(q.1 == i) && !(q.1 + 1 == i && q.2.category == 2))) ∧ q.2.category = 1 := by
    rintro ⟨j, w⟩ hq
    rw [mm_lv_mem] at hq
    by_cases hj : j = i
    · subst hj
      rw [List.getElem?_set, if_pos rfl] at hq
      split at hq
      · cases hq
        exact ⟨List.mem_cons_self, hc⟩
      · cases hq
    · rw [List.getElem?_set, if_neg (Ne.symm hj)] at hq
      have hm := mm_lv_mem.mpr hq
      have hcw : w.category = 1 := E.2 _ hm
      refine ⟨List.mem_cons_of_mem _ (List.mem_filter.mpr ⟨hm, ?_⟩), hcw⟩
      simp [hj, hcw]
  exact ⟨⟨h'.1, h'.2.1, fun q hq => h'.2.2 q (key q hq).1⟩, fun q hq => (key q hq).2⟩
/-- a local forgotten -/
theorem mm_LR.drop (E : mm_LR y l Z) {i : Nat} {v : Value} {ls' : Array Slot} (h' : lv_has ls' y.2.2.1 ((i, v) :: (mm_lv l).filter (fun q => !(q.1 == i) && !(q.1 + 1 == i && q.2.category == 2)))) :
    mm_LR y (l.set i none) (Z.H, Z.locs, Z.cells, Z.slots, ls') := by
  have key : ∀ q ∈ mm_lv (l.set i none), q ∈ ((i, v) :: (mm_lv l).filter (fun q => !(q.1 == i) && !(q.1 + 1 == i && q.2.category == 2))) ∧ q.2.category = 1 := by
    rintro ⟨j, w⟩ hq
    rw [mm_lv_mem] at hq
    by_cases hj : j = i
    · subst hj
      rw [List.getElem?_set, if_pos rfl] at hq
      split at hq <;> cases hq
    · rw [List.getElem?_set, if_neg (Ne.symm hj)] at hq
      have hm := mm_lv_mem.mpr hq
      have hcw : w.category = 1 := E.2 _ hm
      refine ⟨List.mem_cons_of_mem _ (List.mem_filter.mpr ⟨hm, ?_⟩), hcw⟩
      simp [hj, hcw]
  exact ⟨⟨h'.1, h'.2.1, fun q hq => h'.2.2 q (key q hq).1⟩, fun q hq => (key q hq).2⟩
theorem mm_S.K (S : mm_S sc y d X P) : mm_K sc X := S.2.2.2.2.2.2.2.2.2.2.2.2
theorem mm_S.warm (S : mm_S sc y d X P) : X.s0.WarmedH P.s.vm := S.2.2.2.2.2.2.2.2.1
theorem mm_S.own (S : mm_S sc y d X P) : P.s.vm.findClass y.1.cls = some P.m.cls := S.2.2.2.2.2.1
theorem mm_S.ml (S : mm_S sc y d X P) : P.c.maxLocals = y.2.2.1 := S.2.2.1
theorem mm_S.ret (S : mm_S sc y d X P) : P.meth.sig.returnType = y.2.2.2.1 := S.2.2.2.1
theorem mm_S.locks (S : mm_S sc y d X P) : P.meth.locks = false := S.2.2.2.2.1
theorem mm_S.name (S : mm_S sc y d X P) : P.meth.name = y.1.name := S.2.2.2.2.2.2.1
theorem mm_S.hand (S : mm_S sc y d X P) : (P.c.exceptionTable.toList.map fun z => (z.startPc, z.endPc, z.handlerPc, z.catchType)) = y.2.2.2.2 := S.2.2.2.2.2.2.2.1
theorem mm_S.frames (S : mm_S sc y d X P) : d ≤ P.R.frames := S.2.2.2.2.2.2.2.2.2.1
theorem mm_S.locals (S : mm_S sc y d X P) : 35 * d ≤ P.R.locals := S.2.2.2.2.2.2.2.2.2.2.1
theorem mm_S.grown (S : mm_S sc y d X P) : X.s0.heap.size ≤ P.s.heap.size ∧ ∀ q : Nat, q < X.s0.heap.size → P.s.heap[q]? = X.s0.heap[q]? := S.2.2.2.2.2.2.2.2.2.2.2.1
/-- words that stay true where the tables grow warmer -/
def mm_ok (w : Cond) : Bool := (w.onTables && w.keeps) || (match w with
  | .arrayClass _ => true
  | .fieldLinkNest .. => true
  | .methodLinkNest .. => true
  | .declares _ => true
  | .castable .. => true
  | _ => false)
theorem mm_words (K : mm_K sc X) {s : State} (hW : X.s0.WarmedH s.vm) {w : Cond} (hw : w ∈ lw_tbl) (hok : mm_ok w = true) (a : Array Value) : w.before a s = true := by
  have h0 := K.1 w hw
  unfold mm_ok at hok
  rw [Bool.or_eq_true] at hok
  rcases hok with h1 | h1
  · exact word_at hW (Or.inl h1) h0
  · split at h1
    · exact word_at hW (Or.inr ⟨_, rfl⟩) h0
    · exact va_Nw.use rfl (va_Nw.warmF hW (va_Nw.of rfl h0))
    · exact va_Nw.use rfl (va_Nw.warmM hW (va_Nw.of rfl h0))
    · exact va_Nw.use rfl (va_Nw.warmD hW (va_Nw.of rfl h0))
    · exact va_Nw.use rfl (va_Nw.warmC hW (va_Nw.of rfl h0))
    · cases h1
theorem mm_S.w (S : mm_S sc y d X P) {w : Cond} (hw : w ∈ lw_tbl) (hok : mm_ok w = true) : w.before P.args P.s = true := mm_words S.K S.warm hw hok P.args
theorem mm_S.kn (S : mm_S sc y d X P) : va_K X.D vwCl [] P.s := va_K.moved S.warm.alike S.K.2.1
theorem mm_S.arr (S : mm_S sc y d X P) {t : Nat} (ht : t < 4) : ArrOfT P.s (X.dA t) (mm_ty t) ∧ va_RA P.s (X.dA t) (mm_ty t) := ⟨arrOfT_moved S.warm.alike (S.K.2.2.1 t ht).1, (S.K.2.2.1 t ht).2.moved S.warm.alike⟩
/-- one cell is another -/
theorem mm_HR.set {H H1 : Heap} {a : Nat} {c0 c : mm_C} (R : mm_HR X n h H) (ha : h a = some c0) (e : va_at X.D vwCl (a, mm_e X.dA c) H1) (z : H1.size = H.size) (oq : ∀ q : Nat, q ≠ a → H1[q]? = H[q]?) : mm_HR X n (va_up h a (some c)) H1 := by
  obtain ⟨h1, h2, h3, h4⟩ := R
  have hb := (h4 a c0 ha).1
  refine ⟨z.trans h1, h2, fun q hq => (oq q (by omega)).trans (h3 q hq), fun i c' hi => ?_⟩
  by_cases hia : i = a
  · subst hia
    rw [va_up_self] at hi
    cases hi
    exact ⟨hb, e⟩
  · rw [va_up_ne _ _ hia] at hi
    exact ⟨(h4 i c' hi).1, (h4 i c' hi).2.kept (oq i hia)⟩
/-- one cell more -/
theorem mm_HR.new {H H1 : Heap} {c : mm_C} (R : mm_HR X n h H) (e : va_at X.D vwCl (n, mm_e X.dA c) H1) (z : H1.size = n + 1) (oq : ∀ q : Nat, q < n → H1[q]? = H[q]?) : mm_HR X (n + 1) (va_up h n (some c)) H1 := by
  obtain ⟨h1, h2, h3, h4⟩ := R
  refine ⟨z, by omega, fun q hq => (oq q (by omega)).trans (h3 q hq), fun i c' hi => ?_⟩
  by_cases hia : i = n
  · subst hia
    rw [va_up_self] at hi
    cases hi
    exact ⟨h2, e⟩
  · rw [va_up_ne _ _ hia] at hi
    have := (h4 i c' hi).2.lt
    exact ⟨(h4 i c' hi).1, (h4 i c' hi).2.kept (oq i (by rw [← h1]; exact this))⟩
theorem mm_HR.lt {H : Heap} (R : mm_HR X n h H) {a : Nat} {c : mm_C} (ha : h a = some c) : a < n := by
  have := (R.2.2.2 a c ha).2.lt
  rw [← R.1]
  exact this
theorem mm_Wmono {p : Program} {lc : Launch} {e : Env} {R : Room} {s : State} {m : MethodId} {args : Array Value} {below : List Frame} {meth : Method} {c : Code} {H : Heap} {locs : List Loc} {cells slots : Nat} {Q1 Q2 : State → Prop} {g : JFrame}
    (hq : ∀ t, Q1 t → Q2 t) (k : W p lc e R s m args below meth c H locs cells slots Q1 g) : W p lc e R s m args below meth c H locs cells slots Q2 g := fun T hT X => by
  obtain ⟨t, a, b⟩ := k T hT X
  exact ⟨t, a, hq t b⟩
/-- fewer is asked, more is left -/
theorem mm_G.mono {Q' : mm_O → Nat → mm_H → Prop} (k : mm_G sc y d pc l st n h kc ks Q') (hq : ∀ o n' h', Q' o n' h' → Q o n' h') : mm_G sc y d pc l st n h kc ks Q := fun X P Z S R E =>
  mm_Wmono (fun t ⟨o, h1, h2, mo, n', h', h3, h4, h5⟩ => ⟨o, h1, h2, mo, n', h', h3, hq mo n' h' h4, h5⟩) (k X P Z S R E)
theorem mm_G.less {kc' ks' : Nat} (k : mm_G sc y d pc l st n h kc' ks' Q) (h1 : kc' ≤ kc) (h2 : ks' ≤ ks) : mm_G sc y d pc l st n h kc ks Q := fun X P Z S R E =>
  k X P Z S ⟨R.1, Nat.le_trans (Nat.add_le_add_left h1 _) R.2.1, Nat.le_trans (Nat.add_le_add_left h2 _) R.2.2.1, R.2.2.2⟩ E
/-- the end: what every return gives -/
theorem mm_end {v : Option Value} {H : Heap} {cells slots : Nat} (hq : Q (.inl v) n h) (hR : mm_HR X n h H) (hc : cells ≤ P.R.cells) (hs : slots ≤ P.R.slots)
    (t : State) (ht : MQ P.below (fun _ _ o u => o = .returned v ∧ u.heap = H ∧ P.s.WarmedH u.vm) P.args P.s cells slots (fun q => X.s0.heap.size ≤ q) t) : mm_E X P Q t := by
  obtain ⟨o, h1, h2, ⟨h3, h4, h5⟩, locs', ⟨h6, h7, h8⟩, h9⟩ := ht
  exact ⟨o, h1, h2, .inl v, n, h, h3, hq, by rw [h4]; exact hR, h5, locs', h8.mono hc hs, h9⟩
theorem mm_ireturn {v : Int32} (hd : decode y.2.1 pc = .ok (.ireturn, 1)) (hr : y.2.2.2.1 = some .int) (hq : Q (.inl (some (.int v))) n h) : mm_G sc y d pc l [.int v] n h kc ks Q := fun X P Z S R E =>
  mm_Wmono (mm_end hq R.1 (Nat.le_trans (Nat.le_add_right _ _) R.2.1) (Nat.le_trans (Nat.le_add_right _ _) R.2.2.1)) (W.iret (v := v) S.1 S.2.1 (S.ret.trans hr) (fun t ht hW => ⟨rfl, ht, hW⟩) R.2.2.2 hd S.locks)
theorem mm_zreturn {v : Int32} (hd : decode y.2.1 pc = .ok (.ireturn, 1)) (hr : y.2.2.2.1 = some .boolean) (hn : narrow .boolean (.int v) = .int v) (hq : Q (.inl (some (.int v))) n h) : mm_G sc y d pc l [.int v] n h kc ks Q := fun X P Z S R E =>
  mm_Wmono (mm_end hq R.1 (Nat.le_trans (Nat.le_add_right _ _) R.2.1) (Nat.le_trans (Nat.le_add_right _ _) R.2.2.1)) (W.zret (v := v) (ty := .boolean) S.1 S.2.1 (S.ret.trans hr) hn (fun t ht hW => ⟨rfl, ht, hW⟩) R.2.2.2 hd S.locks)
theorem mm_return (hd : decode y.2.1 pc = .ok (.return_, 1)) (hr : y.2.2.2.1 = none) (hq : Q (.inl none) n h) : mm_G sc y d pc l [] n h kc ks Q := fun X P Z S R E =>
  mm_Wmono (mm_end hq R.1 (Nat.le_trans (Nat.le_add_right _ _) R.2.1) (Nat.le_trans (Nat.le_add_right _ _) R.2.2.1)) (W.vret S.1 S.2.1 (S.ret.trans hr) (fun t ht hW => ⟨rfl, ht, hW⟩) R.2.2.2 hd S.locks)
theorem mm_areturn {v : Value} {C : String} (hd : decode y.2.1 pc = .ok (.areturn, 1)) (hr : y.2.2.2.1 = some (.object C)) (hv : v = .null ∨ ∃ a, v = .ref a) (hq : Q (.inl (some v)) n h) : mm_G sc y d pc l [v] n h kc ks Q := fun X P Z S R E =>
  mm_Wmono (mm_end hq R.1 (Nat.le_trans (Nat.le_add_right _ _) R.2.1) (Nat.le_trans (Nat.le_add_right _ _) R.2.2.1)) (W.aret (v := v) S.1 S.2.1 (S.ret.trans hr) (Or.inl ⟨C, rfl⟩) hv (fun t ht hW => ⟨rfl, ht, hW⟩) R.2.2.2 hd S.locks)
theorem mm_HR.p1 {H : Heap} (R : mm_HR X n h H) {a : Nat} {c : mm_C} (ha : h a = some c) : va_P X.D vwCl [(a, mm_e X.dA c)] H := by
  intro k q hq
  cases k with
  | zero => cases hq; exact (R.2.2.2 a c ha).2
  | succ k => simp at hq
theorem mm_S.k1 (S : mm_S sc y d X P) {t : Nat} (ht : t < 4) : va_K X.D vwCl [(X.dA t, mm_ty t)] P.s := by
  refine ⟨S.kn.1, fun k q hq => ?_⟩
  cases k with
  | zero => cases hq; exact S.arr ht
  | succ k => simp at hq
end MM2
end
section
section MM3
variable {sc : mm_Sc} {y : mm_M} {d pc : Nat} {l : mm_L} {st : List Value} {n : Nat} {h : mm_H} {kc ks : Nat} {Q : mm_O → Nat → mm_H → Prop} {X : mm_X} {P : mm_P} {Z : mm_Z}
theorem mm_iconst {i : Int} {v : Int32} (hd : decode y.2.1 pc = .ok (.iconst i, 1)) (hv : Int32.ofInt i = v) (k : mm_G sc y d (pc + 1) l (.int v :: st) n h kc ks Q) : mm_G sc y d pc l (st) n h kc ks Q := fun X P Z S R E => lv_iconst S.1 S.2.1 hd hv (k X P Z S R E)
theorem mm_bipush {i : Int} {v : Int32} (hd : decode y.2.1 pc = .ok (.bipush i, 2)) (hv : (Int8.ofInt i).toInt32 = v) (k : mm_G sc y d (pc + 2) l (.int v :: st) n h kc ks Q) : mm_G sc y d pc l (st) n h kc ks Q := fun X P Z S R E => lv_bipush S.1 S.2.1 hd hv (k X P Z S R E)
theorem mm_sipush {i : Int} {v : Int32} (hd : decode y.2.1 pc = .ok (.sipush i, 3)) (hv : (Int16.ofInt i).toInt32 = v) (k : mm_G sc y d (pc + 3) l (.int v :: st) n h kc ks Q) : mm_G sc y d pc l (st) n h kc ks Q := fun X P Z S R E => lv_sipush S.1 S.2.1 hd hv (k X P Z S R E)
theorem mm_lconst {i : Fin 2} {v : Int64} (hd : decode y.2.1 pc = .ok (.lconst i, 1)) (hv : Int64.ofNat (i : Nat) = v) (k : mm_G sc y d (pc + 1) l (.long v :: st) n h kc ks Q) : mm_G sc y d pc l (st) n h kc ks Q := fun X P Z S R E => lv_lconst S.1 S.2.1 hd hv (k X P Z S R E)
theorem mm_null (hd : decode y.2.1 pc = .ok (.aconst_null, 1)) (k : mm_G sc y d (pc + 1) l (.null :: st) n h kc ks Q) : mm_G sc y d pc l (st) n h kc ks Q := fun X P Z S R E => lv_null S.1 S.2.1 hd (k X P Z S R E)
theorem mm_iload_n {i : Fin 4} {x : Int32} (hd : decode y.2.1 pc = .ok (.iload_n i, 1)) (hl : l[(i : Nat)]? = some (some (.int x))) (k : mm_G sc y d (pc + 1) l (.int x :: st) n h kc ks Q) : mm_G sc y d pc l (st) n h kc ks Q := fun X P Z S R E => lv_iload_n S.1 S.2.1 hd rfl (E.at hl) (k X P Z S R E)
theorem mm_iload {i : Nat} {x : Int32} (hd : decode y.2.1 pc = .ok (.iload i, 2)) (hl : l[i]? = some (some (.int x))) (k : mm_G sc y d (pc + 2) l (.int x :: st) n h kc ks Q) : mm_G sc y d pc l (st) n h kc ks Q := fun X P Z S R E => lv_iload S.1 S.2.1 hd (E.at hl) (k X P Z S R E)
theorem mm_aload_n {i : Fin 4} {a : Nat} (hd : decode y.2.1 pc = .ok (.aload_n i, 1)) (hl : l[(i : Nat)]? = some (some (.ref a))) (k : mm_G sc y d (pc + 1) l (.ref a :: st) n h kc ks Q) : mm_G sc y d pc l (st) n h kc ks Q := fun X P Z S R E => lv_aload_n S.1 S.2.1 hd rfl (E.at hl) (k X P Z S R E)
theorem mm_aload {i a : Nat} (hd : decode y.2.1 pc = .ok (.aload i, 2)) (hl : l[i]? = some (some (.ref a))) (k : mm_G sc y d (pc + 2) l (.ref a :: st) n h kc ks Q) : mm_G sc y d pc l (st) n h kc ks Q := fun X P Z S R E => lv_aload S.1 S.2.1 hd (E.at hl) (k X P Z S R E)
theorem mm_aload_nN {i : Fin 4} (hd : decode y.2.1 pc = .ok (.aload_n i, 1)) (hl : l[(i : Nat)]? = some (some .null)) (k : mm_G sc y d (pc + 1) l (.null :: st) n h kc ks Q) : mm_G sc y d pc l (st) n h kc ks Q := fun X P Z S R E => lv_aload_nN S.1 S.2.1 hd rfl (E.at hl) (k X P Z S R E)
theorem mm_aloadN {i : Nat} (hd : decode y.2.1 pc = .ok (.aload i, 2)) (hl : l[i]? = some (some .null)) (k : mm_G sc y d (pc + 2) l (.null :: st) n h kc ks Q) : mm_G sc y d pc l (st) n h kc ks Q := fun X P Z S R E => lv_aloadN S.1 S.2.1 hd (E.at hl) (k X P Z S R E)
theorem mm_iadd {a b : Int32} (hd : decode y.2.1 pc = .ok (.iadd, 1)) (k : mm_G sc y d (pc + 1) l (.int (a + b) :: st) n h kc ks Q) : mm_G sc y d pc l (.int b :: .int a :: st) n h kc ks Q := fun X P Z S R E => lv_iadd S.1 S.2.1 hd (k X P Z S R E)
theorem mm_isub {a b : Int32} (hd : decode y.2.1 pc = .ok (.isub, 1)) (k : mm_G sc y d (pc + 1) l (.int (a - b) :: st) n h kc ks Q) : mm_G sc y d pc l (.int b :: .int a :: st) n h kc ks Q := fun X P Z S R E => lv_isub S.1 S.2.1 hd (k X P Z S R E)
theorem mm_imul {a b : Int32} (hd : decode y.2.1 pc = .ok (.imul, 1)) (k : mm_G sc y d (pc + 1) l (.int (a * b) :: st) n h kc ks Q) : mm_G sc y d pc l (.int b :: .int a :: st) n h kc ks Q := fun X P Z S R E => lv_imul S.1 S.2.1 hd (k X P Z S R E)
theorem mm_iand {a b : Int32} (hd : decode y.2.1 pc = .ok (.iand, 1)) (k : mm_G sc y d (pc + 1) l (.int (a &&& b) :: st) n h kc ks Q) : mm_G sc y d pc l (.int b :: .int a :: st) n h kc ks Q := fun X P Z S R E => lv_iand S.1 S.2.1 hd (k X P Z S R E)
theorem mm_ior {a b : Int32} (hd : decode y.2.1 pc = .ok (.ior, 1)) (k : mm_G sc y d (pc + 1) l (.int (a ||| b) :: st) n h kc ks Q) : mm_G sc y d pc l (.int b :: .int a :: st) n h kc ks Q := fun X P Z S R E => lv_ior S.1 S.2.1 hd (k X P Z S R E)
theorem mm_ixor {a b : Int32} (hd : decode y.2.1 pc = .ok (.ixor, 1)) (k : mm_G sc y d (pc + 1) l (.int (a ^^^ b) :: st) n h kc ks Q) : mm_G sc y d pc l (.int b :: .int a :: st) n h kc ks Q := fun X P Z S R E => lv_ixor S.1 S.2.1 hd (k X P Z S R E)
theorem mm_ishl {a b : Int32} (hd : decode y.2.1 pc = .ok (.ishl, 1)) (k : mm_G sc y d (pc + 1) l (.int (a <<< (b &&& 31)) :: st) n h kc ks Q) : mm_G sc y d pc l (.int b :: .int a :: st) n h kc ks Q := fun X P Z S R E => lv_ishl S.1 S.2.1 hd (k X P Z S R E)
theorem mm_ishr {a b : Int32} (hd : decode y.2.1 pc = .ok (.ishr, 1)) (k : mm_G sc y d (pc + 1) l (.int (a >>> (b &&& 31)) :: st) n h kc ks Q) : mm_G sc y d pc l (.int b :: .int a :: st) n h kc ks Q := fun X P Z S R E => lv_ishr S.1 S.2.1 hd (k X P Z S R E)
theorem mm_i2l {a : Int32} (hd : decode y.2.1 pc = .ok (.i2l, 1)) (k : mm_G sc y d (pc + 1) l (.long a.toInt64 :: st) n h kc ks Q) : mm_G sc y d pc l (.int a :: st) n h kc ks Q := fun X P Z S R E => lv_i2l S.1 S.2.1 hd rfl (k X P Z S R E)
theorem mm_lcmp {a b : Int64} (hd : decode y.2.1 pc = .ok (.lcmp, 1)) (k : mm_G sc y d (pc + 1) l (.int (lg_cmp a b) :: st) n h kc ks Q) : mm_G sc y d pc l (.long b :: .long a :: st) n h kc ks Q := fun X P Z S R E => W.lcmp S.1 S.2.1 hd (k X P Z S R E)
theorem mm_dup {v : Value} (hd : decode y.2.1 pc = .ok (.dup, 1)) (hv : v.category = 1) (k : mm_G sc y d (pc + 1) l (v :: v :: st) n h kc ks Q) : mm_G sc y d pc l (v :: st) n h kc ks Q := fun X P Z S R E => lv_dup S.1 S.2.1 hd hv (k X P Z S R E)
theorem mm_pop {v : Value} (hd : decode y.2.1 pc = .ok (.pop, 1)) (hv : v.category = 1) (k : mm_G sc y d (pc + 1) l (st) n h kc ks Q) : mm_G sc y d pc l (v :: st) n h kc ks Q := fun X P Z S R E => lv_pop S.1 S.2.1 hd hv (k X P Z S R E)
theorem mm_dup2 {v w : Value} (hd : decode y.2.1 pc = .ok (.dup2, 1)) (hv : v.category = 1) (hw : w.category = 1) (k : mm_G sc y d (pc + 1) l (v :: w :: v :: w :: st) n h kc ks Q) : mm_G sc y d pc l (v :: w :: st) n h kc ks Q := fun X P Z S R E => lv_dup2_11 S.1 S.2.1 hd hv hw (k X P Z S R E)
theorem mm_dup_x1 {v w : Value} (hd : decode y.2.1 pc = .ok (.dup_x1, 1)) (hv : v.category = 1) (hw : w.category = 1) (k : mm_G sc y d (pc + 1) l (v :: w :: v :: st) n h kc ks Q) : mm_G sc y d pc l (v :: w :: st) n h kc ks Q := fun X P Z S R E => lv_dup_x1 S.1 S.2.1 hd hv hw (k X P Z S R E)
theorem mm_istore_n {i : Fin 4} {x : Int32} (hd : decode y.2.1 pc = .ok (.istore_n i, 1)) (hn : (i : Nat) < y.2.2.1) (k : mm_G sc y d (pc + 1) (l.set (i : Nat) (some (.int x))) st n h kc ks Q) : mm_G sc y d pc l (.int x :: st) n h kc ks Q := fun X P Z S R E => lv_istore_n S.1 S.2.1 hd rfl E.1 hn rfl (fun ls' h' => k X P (Z.H, Z.locs, Z.cells, Z.slots, ls') S R (E.set rfl h'))
theorem mm_istore {i : Nat} {x : Int32} (hd : decode y.2.1 pc = .ok (.istore i, 2)) (hn : i < y.2.2.1) (k : mm_G sc y d (pc + 2) (l.set i (some (.int x))) st n h kc ks Q) : mm_G sc y d pc l (.int x :: st) n h kc ks Q := fun X P Z S R E => lv_istore S.1 S.2.1 hd E.1 hn rfl (fun ls' h' => k X P (Z.H, Z.locs, Z.cells, Z.slots, ls') S R (E.set rfl h'))
theorem mm_astore_n {i : Fin 4} {a : Nat} (hd : decode y.2.1 pc = .ok (.astore_n i, 1)) (hn : (i : Nat) < y.2.2.1) (k : mm_G sc y d (pc + 1) (l.set (i : Nat) (some (.ref a))) st n h kc ks Q) : mm_G sc y d pc l (.ref a :: st) n h kc ks Q := fun X P Z S R E => lv_astore_n S.1 S.2.1 hd rfl E.1 hn rfl (fun ls' h' => k X P (Z.H, Z.locs, Z.cells, Z.slots, ls') S R (E.set rfl h'))
theorem mm_astore {i a : Nat} (hd : decode y.2.1 pc = .ok (.astore i, 2)) (hn : i < y.2.2.1) (k : mm_G sc y d (pc + 2) (l.set i (some (.ref a))) st n h kc ks Q) : mm_G sc y d pc l (.ref a :: st) n h kc ks Q := fun X P Z S R E => lv_astore S.1 S.2.1 hd E.1 hn rfl (fun ls' h' => k X P (Z.H, Z.locs, Z.cells, Z.slots, ls') S R (E.set rfl h'))
theorem mm_astore_nN {i : Fin 4} (hd : decode y.2.1 pc = .ok (.astore_n i, 1)) (hn : (i : Nat) < y.2.2.1) (k : mm_G sc y d (pc + 1) (l.set (i : Nat) (some (.null))) st n h kc ks Q) : mm_G sc y d pc l (.null :: st) n h kc ks Q := fun X P Z S R E => lv_astore_nN S.1 S.2.1 hd rfl E.1 hn rfl (fun ls' h' => k X P (Z.H, Z.locs, Z.cells, Z.slots, ls') S R (E.set rfl h'))
theorem mm_astoreN {i : Nat} (hd : decode y.2.1 pc = .ok (.astore i, 2)) (hn : i < y.2.2.1) (k : mm_G sc y d (pc + 2) (l.set i (some (.null))) st n h kc ks Q) : mm_G sc y d pc l (.null :: st) n h kc ks Q := fun X P Z S R E => lv_astoreN S.1 S.2.1 hd E.1 hn rfl (fun ls' h' => k X P (Z.H, Z.locs, Z.cells, Z.slots, ls') S R (E.set rfl h'))
theorem mm_iinc {i : Nat} {c : Int} {x v : Int32} (hd : decode y.2.1 pc = .ok (.iinc i c, 3)) (hl : l[i]? = some (some (.int x))) (hv : x + Int32.ofInt c = v) (hn : i < y.2.2.1) (k : mm_G sc y d (pc + 3) (l.set i (some (.int v))) st n h kc ks Q) : mm_G sc y d pc l st n h kc ks Q := fun X P Z S R E => by
  obtain ⟨j, hj⟩ := List.getElem?_of_mem (mm_lv_mem.mpr hl)
  exact lv_iinc S.1 S.2.1 hd E.1 hj hv hn rfl (fun ls' h' => k X P (Z.H, Z.locs, Z.cells, Z.slots, ls') S R (E.set rfl h'))
theorem mm_if_eq {x : Int32} {off : Int} {tgt : Nat} (hd : decode y.2.1 pc = .ok (.ifCond .eq off, 3)) (ht : (pc : Int) + off = (tgt : Int)) (kt : x = 0 → mm_G sc y d tgt l st n h kc ks Q) (kf : ¬ x = 0 → mm_G sc y d (pc + 3) l st n h kc ks Q) : mm_G sc y d pc l (.int x :: st) n h kc ks Q := fun X P Z S R E => lv_if_eq S.1 S.2.1 hd ht (fun q => kt q X P Z S R E) (fun q => kf q X P Z S R E)
theorem mm_icmp_eq {x w : Int32} {off : Int} {tgt : Nat} (hd : decode y.2.1 pc = .ok (.if_icmp .eq off, 3)) (ht : (pc : Int) + off = (tgt : Int)) (kt : x = w → mm_G sc y d tgt l st n h kc ks Q) (kf : ¬ x = w → mm_G sc y d (pc + 3) l st n h kc ks Q) : mm_G sc y d pc l (.int w :: .int x :: st) n h kc ks Q := fun X P Z S R E => lv_icmp_eq S.1 S.2.1 hd ht (fun q => kt q X P Z S R E) (fun q => kf q X P Z S R E)
theorem mm_if_ne {x : Int32} {off : Int} {tgt : Nat} (hd : decode y.2.1 pc = .ok (.ifCond .ne off, 3)) (ht : (pc : Int) + off = (tgt : Int)) (kt : ¬ x = 0 → mm_G sc y d tgt l st n h kc ks Q) (kf : x = 0 → mm_G sc y d (pc + 3) l st n h kc ks Q) : mm_G sc y d pc l (.int x :: st) n h kc ks Q := fun X P Z S R E => lv_if_ne S.1 S.2.1 hd ht (fun q => kt q X P Z S R E) (fun q => kf q X P Z S R E)
theorem mm_icmp_ne {x w : Int32} {off : Int} {tgt : Nat} (hd : decode y.2.1 pc = .ok (.if_icmp .ne off, 3)) (ht : (pc : Int) + off = (tgt : Int)) (kt : ¬ x = w → mm_G sc y d tgt l st n h kc ks Q) (kf : x = w → mm_G sc y d (pc + 3) l st n h kc ks Q) : mm_G sc y d pc l (.int w :: .int x :: st) n h kc ks Q := fun X P Z S R E => lv_icmp_ne S.1 S.2.1 hd ht (fun q => kt q X P Z S R E) (fun q => kf q X P Z S R E)
theorem mm_if_lt {x : Int32} {off : Int} {tgt : Nat} (hd : decode y.2.1 pc = .ok (.ifCond .lt off, 3)) (ht : (pc : Int) + off = (tgt : Int)) (kt : x < 0 → mm_G sc y d tgt l st n h kc ks Q) (kf : ¬ x < 0 → mm_G sc y d (pc + 3) l st n h kc ks Q) : mm_G sc y d pc l (.int x :: st) n h kc ks Q := fun X P Z S R E => lv_if_lt S.1 S.2.1 hd ht (fun q => kt q X P Z S R E) (fun q => kf q X P Z S R E)
theorem mm_icmp_lt {x w : Int32} {off : Int} {tgt : Nat} (hd : decode y.2.1 pc = .ok (.if_icmp .lt off, 3)) (ht : (pc : Int) + off = (tgt : Int)) (kt : x < w → mm_G sc y d tgt l st n h kc ks Q) (kf : ¬ x < w → mm_G sc y d (pc + 3) l st n h kc ks Q) : mm_G sc y d pc l (.int w :: .int x :: st) n h kc ks Q := fun X P Z S R E => lv_icmp_lt S.1 S.2.1 hd ht (fun q => kt q X P Z S R E) (fun q => kf q X P Z S R E)
theorem mm_if_ge {x : Int32} {off : Int} {tgt : Nat} (hd : decode y.2.1 pc = .ok (.ifCond .ge off, 3)) (ht : (pc : Int) + off = (tgt : Int)) (kt : 0 ≤ x → mm_G sc y d tgt l st n h kc ks Q) (kf : ¬ 0 ≤ x → mm_G sc y d (pc + 3) l st n h kc ks Q) : mm_G sc y d pc l (.int x :: st) n h kc ks Q := fun X P Z S R E => lv_if_ge S.1 S.2.1 hd ht (fun q => kt q X P Z S R E) (fun q => kf q X P Z S R E)
theorem mm_icmp_ge {x w : Int32} {off : Int} {tgt : Nat} (hd : decode y.2.1 pc = .ok (.if_icmp .ge off, 3)) (ht : (pc : Int) + off = (tgt : Int)) (kt : w ≤ x → mm_G sc y d tgt l st n h kc ks Q) (kf : ¬ w ≤ x → mm_G sc y d (pc + 3) l st n h kc ks Q) : mm_G sc y d pc l (.int w :: .int x :: st) n h kc ks Q := fun X P Z S R E => lv_icmp_ge S.1 S.2.1 hd ht (fun q => kt q X P Z S R E) (fun q => kf q X P Z S R E)
theorem mm_if_gt {x : Int32} {off : Int} {tgt : Nat} (hd : decode y.2.1 pc = .ok (.ifCond .gt off, 3)) (ht : (pc : Int) + off = (tgt : Int)) (kt : 0 < x → mm_G sc y d tgt l st n h kc ks Q) (kf : ¬ 0 < x → mm_G sc y d (pc + 3) l st n h kc ks Q) : mm_G sc y d pc l (.int x :: st) n h kc ks Q := fun X P Z S R E => lv_if_gt S.1 S.2.1 hd ht (fun q => kt q X P Z S R E) (fun q => kf q X P Z S R E)
theorem mm_icmp_gt {x w : Int32} {off : Int} {tgt : Nat} (hd : decode y.2.1 pc = .ok (.if_icmp .gt off, 3)) (ht : (pc : Int) + off = (tgt : Int)) (kt : w < x → mm_G sc y d tgt l st n h kc ks Q) (kf : ¬ w < x → mm_G sc y d (pc + 3) l st n h kc ks Q) : mm_G sc y d pc l (.int w :: .int x :: st) n h kc ks Q := fun X P Z S R E => lv_icmp_gt S.1 S.2.1 hd ht (fun q => kt q X P Z S R E) (fun q => kf q X P Z S R E)
theorem mm_if_le {x : Int32} {off : Int} {tgt : Nat} (hd : decode y.2.1 pc = .ok (.ifCond .le off, 3)) (ht : (pc : Int) + off = (tgt : Int)) (kt : x ≤ 0 → mm_G sc y d tgt l st n h kc ks Q) (kf : ¬ x ≤ 0 → mm_G sc y d (pc + 3) l st n h kc ks Q) : mm_G sc y d pc l (.int x :: st) n h kc ks Q := fun X P Z S R E => lv_if_le S.1 S.2.1 hd ht (fun q => kt q X P Z S R E) (fun q => kf q X P Z S R E)
theorem mm_icmp_le {x w : Int32} {off : Int} {tgt : Nat} (hd : decode y.2.1 pc = .ok (.if_icmp .le off, 3)) (ht : (pc : Int) + off = (tgt : Int)) (kt : x ≤ w → mm_G sc y d tgt l st n h kc ks Q) (kf : ¬ x ≤ w → mm_G sc y d (pc + 3) l st n h kc ks Q) : mm_G sc y d pc l (.int w :: .int x :: st) n h kc ks Q := fun X P Z S R E => lv_icmp_le S.1 S.2.1 hd ht (fun q => kt q X P Z S R E) (fun q => kf q X P Z S R E)
theorem mm_goto {off : Int} {tgt : Nat} (hd : decode y.2.1 pc = .ok (.goto off, 3)) (ht : (pc : Int) + off = (tgt : Int)) (k : mm_G sc y d tgt l st n h kc ks Q) : mm_G sc y d pc l st n h kc ks Q := fun X P Z S R E => lv_goto S.1 S.2.1 hd ht (k X P Z S R E)
theorem mm_ifnull {a : Nat} {off : Int} (hd : decode y.2.1 pc = .ok (.ifnull off, 3)) (k : mm_G sc y d (pc + 3) l st n h kc ks Q) : mm_G sc y d pc l (.ref a :: st) n h kc ks Q := fun X P Z S R E => lv_ifnull S.1 S.2.1 hd (k X P Z S R E)
theorem mm_ifnullN {off : Int} {tgt : Nat} (hd : decode y.2.1 pc = .ok (.ifnull off, 3)) (ht : (pc : Int) + off = (tgt : Int)) (k : mm_G sc y d tgt l st n h kc ks Q) : mm_G sc y d pc l (.null :: st) n h kc ks Q := fun X P Z S R E => lv_ifnullN S.1 S.2.1 hd ht (k X P Z S R E)
theorem mm_ifnonnull {a : Nat} {off : Int} {tgt : Nat} (hd : decode y.2.1 pc = .ok (.ifnonnull off, 3)) (ht : (pc : Int) + off = (tgt : Int)) (k : mm_G sc y d tgt l st n h kc ks Q) : mm_G sc y d pc l (.ref a :: st) n h kc ks Q := fun X P Z S R E => lv_ifnonnull S.1 S.2.1 hd ht (k X P Z S R E)
theorem mm_ifnonnullN {off : Int} (hd : decode y.2.1 pc = .ok (.ifnonnull off, 3)) (k : mm_G sc y d (pc + 3) l st n h kc ks Q) : mm_G sc y d pc l (.null :: st) n h kc ks Q := fun X P Z S R E => lv_ifnonnullN S.1 S.2.1 hd (k X P Z S R E)
theorem mm_tableIn {dflt lo hi : Int} {offs : Array Int} {len : Nat} {x : Int32} {off : Int} {tgt : Nat} (hd : decode y.2.1 pc = .ok (.tableswitch dflt lo hi offs, len)) (h1 : ¬ x.toInt < lo) (h2 : ¬ hi < x.toInt) (ho : offs[(x.toInt - lo).toNat]? = some off) (ht : (pc : Int) + off = (tgt : Int)) (k : mm_G sc y d tgt l st n h kc ks Q) : mm_G sc y d pc l (.int x :: st) n h kc ks Q := fun X P Z S R E => lv_tableIn S.1 S.2.1 hd h1 h2 ho ht (k X P Z S R E)
theorem mm_tableOut {dflt lo hi : Int} {offs : Array Int} {len : Nat} {x : Int32} {tgt : Nat} (hd : decode y.2.1 pc = .ok (.tableswitch dflt lo hi offs, len)) (hx : x.toInt < lo ∨ hi < x.toInt) (ht : (pc : Int) + dflt = (tgt : Int)) (k : mm_G sc y d tgt l st n h kc ks Q) : mm_G sc y d pc l (.int x :: st) n h kc ks Q := fun X P Z S R E => lv_tableOut S.1 S.2.1 hd hx ht (k X P Z S R E)
theorem mm_lookup {dflt : Int} {ps : Array (Int × Int)} {len : Nat} {x : Int32} {off : Int} {tgt : Nat} (hd : decode y.2.1 pc = .ok (.lookupswitch dflt ps, len)) (hp : (ps.toList.zip (ps.toList.drop 1)).all (fun (a, next) => a.1 < next.1) = true) (ho : Op.lookupswitch.offset ps.toList dflt x.toInt = off) (ht : (pc : Int) + off = (tgt : Int)) (k : mm_G sc y d tgt l st n h kc ks Q) : mm_G sc y d pc l (.int x :: st) n h kc ks Q := fun X P Z S R E => lv_lookup S.1 S.2.1 hd hp ho ht (k X P Z S R E)
theorem mm_ldc {i : Nat} {v : Int32} (hd : decode y.2.1 pc = .ok (.ldc i, 2)) (hw : Cond.constant y.1.cls i v ∈ lw_tbl) (hok : mm_ok (Cond.constant y.1.cls i v) = true) (k : mm_G sc y d (pc + 2) l (.int v :: st) n h kc ks Q) : mm_G sc y d pc l st n h kc ks Q := fun X P Z S R E => lv_ldc S.1 S.2.1 S.own (S.w hw hok) hd (k X P Z S R E)
theorem mm_iald {a len : Nat} {f : Nat → Int32} {i : Int32} (hd : decode y.2.1 pc = .ok (.iaload, 1)) (hc : h a = some (.inl (0, len, .inl f))) (hi : vp_in i len) (k : mm_G sc y d (pc + 1) l (.int (f i.toNatClampNeg) :: st) n h kc ks Q) : mm_G sc y d pc l (.int i :: .ref a :: st) n h kc ks Q := fun X P Z S R E =>
  va_iald (D := X.D) (cl := vwCl) (tys := [(X.dA 0, .int)]) (ws := [(a, .inl (X.dA 0, len, .inl f))]) S.1 S.2.1 (S.k1 (t := 0) (by decide)) (R.1.p1 hc) 0 0 rfl rfl hi hd (k X P Z S R E)
theorem mm_lald {a len : Nat} {f : Nat → Int64} {i : Int32} (hd : decode y.2.1 pc = .ok (.laload, 1)) (hc : h a = some (.inl (1, len, .inr (.inl f)))) (hi : vp_in i len) (k : mm_G sc y d (pc + 1) l (.long (f i.toNatClampNeg) :: st) n h kc ks Q) : mm_G sc y d pc l (.int i :: .ref a :: st) n h kc ks Q := fun X P Z S R E =>
  va_lald (D := X.D) (cl := vwCl) (tys := [(X.dA 1, .long)]) (ws := [(a, .inl (X.dA 1, len, .inr (.inl f)))]) S.1 S.2.1 (S.k1 (t := 1) (by decide)) (R.1.p1 hc) 0 0 rfl rfl hi hd (k X P Z S R E)
theorem mm_zald {a len : Nat} {f : Nat → Int32} {i : Int32} (hd : decode y.2.1 pc = .ok (.baload, 1)) (hc : h a = some (.inl (2, len, .inl f))) (hi : vp_in i len) (k : mm_G sc y d (pc + 1) l (.int (f i.toNatClampNeg) :: st) n h kc ks Q) : mm_G sc y d pc l (.int i :: .ref a :: st) n h kc ks Q := fun X P Z S R E =>
  va_zald (D := X.D) (cl := vwCl) (tys := [(X.dA 2, .boolean)]) (ws := [(a, .inl (X.dA 2, len, .inl f))]) S.1 S.2.1 (S.k1 (t := 2) (by decide)) (R.1.p1 hc) 0 0 rfl rfl hi hd (k X P Z S R E)
theorem mm_aald {a len : Nat} {f : Nat → Option Nat} {i : Int32} (hd : decode y.2.1 pc = .ok (.aaload, 1)) (hc : h a = some (.inl (3, len, .inr (.inr (.inr (.inr f)))))) (hi : vp_in i len) (k : mm_G sc y d (pc + 1) l (va_rf (f i.toNatClampNeg) :: st) n h kc ks Q) : mm_G sc y d pc l (.int i :: .ref a :: st) n h kc ks Q := fun X P Z S R E =>
  va_aldq (D := X.D) (cl := vwCl) (tys := [(X.dA 3, .object mm_elem)]) (ws := [(a, .inl (X.dA 3, len, .inr (.inr (.inr (.inr f)))))]) S.1 S.2.1 (S.k1 (t := 3) (by decide)) (R.1.p1 hc) 0 0 rfl rfl hi hd (k X P Z S R E)
theorem mm_alen {a t : Nat} {x : vp_A} (hd : decode y.2.1 pc = .ok (.arraylength, 1)) (hc : h a = some (.inl (t, x))) (ht : t < 4) (k : mm_G sc y d (pc + 1) l (.int (Int32.ofNat x.1) :: st) n h kc ks Q) : mm_G sc y d pc l (.ref a :: st) n h kc ks Q := fun X P Z S R E =>
  va_alen (D := X.D) (cl := vwCl) (tys := [(X.dA t, mm_ty t)]) (ws := [(a, .inl (X.dA t, x))]) S.1 S.2.1 (S.k1 ht) (R.1.p1 hc) 0 0 rfl rfl rfl hd (k X P Z S R E)
end MM3
end
section
section MM4
variable {sc : mm_Sc} {y : mm_M} {d pc : Nat} {l : mm_L} {st : List Value} {n : Nat} {h : mm_H} {kc ks : Nat} {Q : mm_O → Nat → mm_H → Prop} {X : mm_X} {P : mm_P} {Z : mm_Z}
theorem mm_R.put (R : mm_R X n h kc ks P Z) {H1 : Heap} {a i : Nat} {c0 c : mm_C} (ha : h a = some c0) (e : va_at X.D vwCl (a, mm_e X.dA c) H1) (z : H1.size = Z.H.size) (oq : ∀ q : Nat, q ≠ a → H1[q]? = Z.H[q]?) :
    mm_R X n (va_up h a (some c)) kc ks P (H1, Z.locs ++ [⟨a, i⟩], Z.cells, Z.slots, Z.ls) := by
  refine ⟨R.1.set ha e z oq, R.2.1, R.2.2.1, fun q hq => ?_⟩
  rcases List.mem_append.mp hq with h1 | h1
  · exact R.2.2.2 q h1
  · rw [List.mem_singleton.mp h1]
    exact (R.1.2.2.2 a c0 ha).1
theorem mm_R.new {N : Nat} (R : mm_R X n h (kc + 1) (ks + N) P Z) {H1 : Heap} {c : mm_C} (e : va_at X.D vwCl (n, mm_e X.dA c) H1) (z : H1.size = n + 1) (oq : ∀ q : Nat, q < n → H1[q]? = Z.H[q]?) :
    mm_R X (n + 1) (va_up h n (some c)) kc ks P (H1, Z.locs, Z.cells + 1, Z.slots + N, Z.ls) := by
  obtain ⟨h1, h2, h3, h4⟩ := R
  exact ⟨h1.new e z oq, by show Z.cells + 1 + kc ≤ P.R.cells; omega, by show Z.slots + N + ks ≤ P.R.slots; omega, h4⟩
theorem mm_iast {a len : Nat} {f : Nat → Int32} {i x : Int32} (hd : decode y.2.1 pc = .ok (.iastore, 1)) (hc : h a = some (.inl (0, len, .inl f))) (hi : vp_in i len) (k : mm_G sc y d (pc + 1) l st n (va_up h a (some (.inl (0, len, .inl (upd f i.toNatClampNeg x))))) kc ks Q) : mm_G sc y d pc l (.int x :: .int i :: .ref a :: st) n h kc ks Q := fun X P Z S R E => by
  have hcell : Z.H[a]? = some (vp_cell (X.dA 0) (len, .inl f)) := (R.1.2.2.2 a _ hc).2
  refine W.iast S.1 S.2.1 hcell ((S.arr (t := 0) (by decide)).1 len (fun j => .int (f j))) (fun q => by cases q) (by show ¬ (i < 0 ∨ (arrV _ _ _).slots.size ≤ _); rw [arrV_size]; exact hi) rfl rfl hd fun H1 e z oq => ?_
  refine k X P (H1, Z.locs ++ [⟨a, i.toNatClampNeg⟩], Z.cells, Z.slots, Z.ls) S (R.put hc ?_ z oq) E
  show H1[a]? = some (vp_cell _ _)
  rw [e, vp_cell_i, vp_cell_i, arrV_store]
  congr 2
  funext q
  by_cases hq : q = i.toNatClampNeg
  · subst hq
    simp [updV, upd]
  · simp [updV, upd, hq]
theorem mm_last {a len : Nat} {f : Nat → Int64} {i : Int32} {x : Int64} (hd : decode y.2.1 pc = .ok (.lastore, 1)) (hc : h a = some (.inl (1, len, .inr (.inl f)))) (hi : vp_in i len) (k : mm_G sc y d (pc + 1) l st n (va_up h a (some (.inl (1, len, .inr (.inl (vp_updL f i.toNatClampNeg x)))))) kc ks Q) : mm_G sc y d pc l (.long x :: .int i :: .ref a :: st) n h kc ks Q := fun X P Z S R E => by
  have hcell : Z.H[a]? = some (vp_cell (X.dA 1) (len, .inr (.inl f))) := (R.1.2.2.2 a _ hc).2
  refine W.last S.1 S.2.1 hcell ((S.arr (t := 1) (by decide)).1 len (fun j => .long (f j))) (fun q => by cases q) (by show ¬ (i < 0 ∨ (arrV _ _ _).slots.size ≤ _); rw [arrV_size]; exact hi) rfl rfl hd fun H1 e z oq => ?_
  refine k X P (H1, Z.locs ++ [⟨a, i.toNatClampNeg⟩], Z.cells, Z.slots, Z.ls) S (R.put hc ?_ z oq) E
  show H1[a]? = some (vp_cell _ _)
  rw [e, vp_cell_l, vp_cell_l, arrV_store]
  congr 2
  funext q
  by_cases hq : q = i.toNatClampNeg
  · subst hq
    simp [updV, vp_updL]
  · simp [updV, vp_updL, hq]
theorem mm_zast {a len : Nat} {f : Nat → Int32} {i x : Int32} (hd : decode y.2.1 pc = .ok (.bastore, 1)) (hc : h a = some (.inl (2, len, .inl f))) (hi : vp_in i len) (hx : narrow .boolean (.int x) = .int x) (k : mm_G sc y d (pc + 1) l st n (va_up h a (some (.inl (2, len, .inl (upd f i.toNatClampNeg x))))) kc ks Q) : mm_G sc y d pc l (.int x :: .int i :: .ref a :: st) n h kc ks Q := fun X P Z S R E => by
  have hcell : Z.H[a]? = some (vp_cell (X.dA 2) (len, .inl f)) := (R.1.2.2.2 a _ hc).2
  refine W.zast S.1 S.2.1 hcell ((S.arr (t := 2) (by decide)).1 len (fun j => .int (f j))) (fun q => by cases q) (by show ¬ (i < 0 ∨ (arrV _ _ _).slots.size ≤ _); rw [arrV_size]; exact hi) rfl rfl hd fun H1 e z oq => ?_
  refine k X P (H1, Z.locs ++ [⟨a, i.toNatClampNeg⟩], Z.cells, Z.slots, Z.ls) S (R.put hc ?_ z oq) E
  show H1[a]? = some (vp_cell _ _)
  rw [e, hx, vp_cell_i, vp_cell_i, arrV_store]
  congr 2
  funext q
  by_cases hq : q = i.toNatClampNeg
  · subst hq
    simp [updV, upd]
  · simp [updV, upd, hq]
/-- a class's fields are in the tables -/
def mm_Cl (ci : Nat) (C : String) (T : u_T) (N : Nat) : Prop := vwCl[ci]? = some (C, T, N) ∧ ∀ w ∈ u_ws C T N, w ∈ lw_tbl ∧ mm_ok w = true
/-- a class's field k by the constant idx of the class own -/
def mm_Fl (own : String) (idx : Nat) (T : u_T) (k : Nat) : Prop := ∃ ref : String, (Cond.fieldLink own idx ref (T k).2.1 (T k).2.2.1 ∈ lw_tbl ∨ ∃ host : String, Cond.fieldLinkNest own idx ref (T k).2.1 (T k).2.2.1 host ∈ lw_tbl) ∧ (ref = (T k).1 ∨ Cond.sameField ref (T k).1 (T k).2.1 (T k).2.2.1 ∈ lw_tbl)
theorem mm_Fl.same (S : mm_S sc y d X P) {ref : String} {T : u_T} {k : Nat} (hs : ref = (T k).1 ∨ Cond.sameField ref (T k).1 (T k).2.1 (T k).2.2.1 ∈ lw_tbl) :
    ∀ x, P.s.fieldFound? (T k).1 (T k).2.1 (T k).2.2.1 = some x → P.s.fieldFound? ref (T k).2.1 (T k).2.2.1 = some x := by
  rcases hs with h1 | h1
  · rw [h1]; exact fun _ h9 => h9
  · exact u_same (S.w h1 rfl)
theorem mm_getf {a ci N k i : Nat} {C : String} {T : u_T} {fs : List Value} {v : Value} (hd : decode y.2.1 pc = .ok (.getfield i, 3)) (hC : mm_Cl ci C T N) (hF : mm_Fl y.1.cls i T k) (hk : k < N) (hc : h a = some (.inr (ci, fs))) (hv : fs[k]? = some v)
    (kk : mm_G sc y d (pc + 3) l (v :: st) n h kc ks Q) : mm_G sc y d pc l (.ref a :: st) n h kc ks Q := fun X P Z S R E => by
  obtain ⟨ref, hl, hs⟩ := hF
  rcases hl with hl | ⟨host, hl⟩
  · exact va_get (D := X.D) (cl := vwCl) (tys := []) (ws := [(a, .inr (ci, fs))]) (Ts := u_ws C T N) S.1 S.2.1 (fun w hw => S.w (hC.2 w hw).1 (hC.2 w hw).2) (fun _ h9 => h9) S.own S.kn (R.1.p1 hc) 0 rfl hC.1 k hk (S.w hl rfl) (mm_Fl.same S hs) hv hd (kk X P Z S R E)
  · exact va_getN (D := X.D) (cl := vwCl) (tys := []) (ws := [(a, .inr (ci, fs))]) (Ts := u_ws C T N) S.1 S.2.1 (fun w hw => S.w (hC.2 w hw).1 (hC.2 w hw).2) (fun _ h9 => h9) S.own S.kn (R.1.p1 hc) 0 rfl hC.1 k hk (S.w hl rfl) (mm_Fl.same S hs) hv hd (kk X P Z S R E)
/-- the types of a class's fields, their names are apart -/
def mm_Ty (T : u_T) (N : Nat) (ty : Nat → FieldType) : Prop := (∀ k, k < N → parseFieldDescriptor (T k).2.2.1 = some (ty k)) ∧ ∀ a, a < N → ∀ b, b < N → a ≠ b → (T a).2.1 ≠ (T b).2.1
theorem mm_putf {a ci N k i : Nat} {C : String} {T : u_T} {ty : Nat → FieldType} {fs : List Value} {v : Value} (hd : decode y.2.1 pc = .ok (.putfield i, 3)) (hC : mm_Cl ci C T N) (hT : mm_Ty T N ty) (hF : mm_Fl y.1.cls i T k) (hk : k < N) (hfin : (T k).2.2.2 = false) (hn : narrow (ty k) v = v) (hfit : fits (ty k) v = true) (hc : h a = some (.inr (ci, fs))) (hl : k < fs.length)
    (kk : mm_G sc y d (pc + 3) l st n (va_up h a (some (.inr (ci, fs.set k v)))) kc ks Q) : mm_G sc y d pc l (v :: .ref a :: st) n h kc ks Q := fun X P Z S R E => by
  obtain ⟨ref, hlk, hs⟩ := hF
  have hts : ∀ w ∈ u_ws C T N, w.before P.args P.s = true := fun w hw => S.w (hC.2 w hw).1 (hC.2 w hw).2
  have hap := va_apart (own := C) (D := X.D) (cl := vwCl) (tys := []) hts (fun _ h9 => h9) ty hT.1 hT.2 S.kn hC.1
  obtain ⟨r, h1, cell, q1, q2, q3, q4⟩ := (R.1.2.2.2 a _ hc).2
  have hr : r = (C, T, N) := Option.some.inj (h1.symm.trans hC.1)
  subst hr
  obtain ⟨hS, hfc, kC, hkC, hkind⟩ := S.kn.1 ci _ hC.1
  obtain ⟨cf, kf, fi, f, hi, hsl⟩ := hS k hk
  have hst := (u_facts hfc hkC (u_lays hts (fun _ h9 => h9) hk) hi).1
  have hlay := hts _ (u_in_lay hk)
  unfold u_lay at hlay
  rw [if_neg (by rw [hfin]; decide)] at hlay
  have h6 := u_store hfc hkC hkind hlay hi (hT.1 k hk) hn hfit
  have hlt : f.slot < cell.slots.size := by rw [hsl]; exact k2_hasslot (q4 k hk)
  have hw : ∀ (H1 : Heap), H1[a]? = some (cell.setSlot f.slot v) → H1.size = Z.H.size → (∀ q, q ≠ a → H1[q]? = Z.H[q]?) → W P.p X.l P.e P.R P.s P.m P.args P.below P.meth P.c H1 (Z.locs ++ [⟨a, f.slot⟩]) Z.cells Z.slots (mm_E X P Q) (F0 P.m (pc + 3) Z.ls st) := by
    intro H1 e1 e2 e3
    rw [hsl] at e1 ⊢
    exact kk X P (H1, Z.locs ++ [⟨a, _⟩], Z.cells, Z.slots, Z.ls) S (R.put (c := .inr (ci, fs.set k v)) hc (show va_at X.D vwCl (a, .inr (ci, fs.set k v)) H1 from ⟨_, hC.1, t_OB.to (V := updV (vp_V fs) k v) ⟨_, e1, q2, q3, t_set q4 hap hk v⟩ (fun j _ => vp_updV_set hl v j)⟩) e2 e3) E
  rcases hlk with hlk | ⟨host, hlk⟩
  · exact W.putK S.1 S.2.1 (f := f) ⟨S.own, S.w hlk rfl, ⟨_, _, _, mm_Fl.same S hs _ hi⟩, hst⟩ (by rw [q2]; exact h6) q1 q3 hlt rfl rfl hd hw
  · exact va_WputK S.1 S.2.1 (f := f) S.own (S.w hlk rfl) (mm_Fl.same S hs _ hi) hst (by rw [q2]; exact h6) q1 q3 hlt rfl rfl hd hw
/-- a final field, in a constructor of the class that declares it -/
theorem mm_putfF {a ci N k i : Nat} {C : String} {T : u_T} {ty : Nat → FieldType} {fs : List Value} {v : Value} (hd : decode y.2.1 pc = .ok (.putfield i, 3)) (hC : mm_Cl ci C T N) (hT : mm_Ty T N ty) (hF : Cond.fieldLink y.1.cls i (T k).1 (T k).2.1 (T k).2.2.1 ∈ lw_tbl) (hk : k < N) (hfin : (T k).2.2.2 = true) (hdecl : (T k).1 = y.1.cls) (hin2 : y.1.name = "<init>") (hn : narrow (ty k) v = v) (hfit : fits (ty k) v = true) (hc : h a = some (.inr (ci, fs))) (hl : k < fs.length)
    (kk : mm_G sc y d (pc + 3) l st n (va_up h a (some (.inr (ci, fs.set k v)))) kc ks Q) : mm_G sc y d pc l (v :: .ref a :: st) n h kc ks Q := fun X P Z S R E => by
  have hts : ∀ w ∈ u_ws C T N, w.before P.args P.s = true := fun w hw => S.w (hC.2 w hw).1 (hC.2 w hw).2
  have hap := va_apart (own := C) (D := X.D) (cl := vwCl) (tys := []) hts (fun _ h9 => h9) ty hT.1 hT.2 S.kn hC.1
  obtain ⟨r, h1, cell, q1, q2, q3, q4⟩ := (R.1.2.2.2 a _ hc).2
  have hr : r = (C, T, N) := Option.some.inj (h1.symm.trans hC.1)
  subst hr
  obtain ⟨hS, hfc, kC, hkC, hkind⟩ := S.kn.1 ci _ hC.1
  obtain ⟨cf, kf, fi, f, hi, hsl⟩ := hS k hk
  have hst := (u_facts hfc hkC (u_lays hts (fun _ h9 => h9) hk) hi).1
  have hlay := hts _ (u_in_lay hk)
  unfold u_lay at hlay
  rw [if_pos hfin] at hlay
  have hcf : P.m.cls = cf := by
    obtain ⟨_, _, c', _, _, _, -, -, hf', -, -, -, hown2, -⟩ := Cond.laysFinal_spec hlay
    have e1 : c' = cf := by have := hi.symm.trans hf'; simp at this; exact this.1.symm
    rw [hdecl] at hown2
    rw [← e1]; exact Option.some.inj (S.own.symm.trans hown2)
  have h6 := u_fits hfc hkC hkind (Or.inr hlay) hi (hT.1 k hk) hn hfit
  have hlt : f.slot < cell.slots.size := by rw [hsl]; exact k2_hasslot (q4 k hk)
  refine W.putFinK S.1 S.2.1 S.own (S.w hF rfl) hi hst hcf (S.name.trans hin2) (by rw [q2]; exact h6) q1 q3 hlt rfl rfl hd fun H1 e1 e2 e3 => ?_
  rw [hsl] at e1 ⊢
  exact kk X P (H1, Z.locs ++ [⟨a, _⟩], Z.cells, Z.slots, Z.ls) S (R.put (c := .inr (ci, fs.set k v)) hc (show va_at X.D vwCl (a, .inr (ci, fs.set k v)) H1 from ⟨_, hC.1, t_OB.to (V := updV (vp_V fs) k v) ⟨_, e1, q2, q3, t_set q4 hap hk v⟩ (fun j _ => vp_updV_set hl v j)⟩) e2 e3) E
theorem mm_new {ci N i : Nat} {C : String} {T : u_T} {ty : Nat → FieldType} {fs : List Value} (hd : decode y.2.1 pc = .ok (.new i, 3)) (hC : mm_Cl ci C T N) (hT : mm_Ty T N ty) (hl : Cond.classLink y.1.cls i C ∈ lw_tbl) (hi : Cond.instantiable C N ∈ lw_tbl) (hini : Cond.initialized C ∈ lw_tbl) (hfs : ∀ j, j < N → defaultValue (ty j) = vp_V fs j)
    (k : mm_G sc y d (pc + 3) l (.ref n :: st) (n + 1) (va_up h n (some (.inr (ci, fs)))) kc ks Q) : mm_G sc y d pc l st n h (kc + 1) (ks + N) Q := fun X P Z S R E => by
  have hts : ∀ w ∈ u_ws C T N, w.before P.args P.s = true := fun w hw => S.w (hC.2 w hw).1 (hC.2 w hw).2
  have hKn := S.kn.1 ci _ hC.1
  have hc1 : Z.cells + 1 ≤ P.R.cells := by have := R.2.1; omega
  have hs1 : Z.slots + N ≤ P.R.slots := by have := R.2.2.1; omega
  refine W.newcK S.1 S.2.1 S.own (S.w hl rfl) (S.w hi rfl) (S.w hini rfl) rfl hd hc1 hs1 hKn.2.1 R.1.1 fun H1 kC hkC e1 z1 o1 => ?_
  exact k X P (H1, Z.locs, Z.cells + 1, Z.slots + N, Z.ls) S (R.new (c := .inr (ci, fs)) (show va_at X.D vwCl (n, .inr (ci, fs)) H1 from ⟨_, hC.1, (u_born ty hts (fun _ h9 => h9) hKn hkC e1 hT.1).to hfs⟩) z1 o1) E
theorem mm_RA3 {t : Nat} (ht : t < 3) {U : State} {cA : ClassId} (h9 : va_RA U cA (mm_ty t)) : U.vm.findClass ("[" ++ (mm_ty t).toString) = some cA := by
  rcases (show t = 0 ∨ t = 1 ∨ t = 2 by omega) with rfl | rfl | rfl <;> exact h9
theorem mm_newa {t N : Nat} {ka : ArrayType} {i : Int32} {a0 : vp_A} (hd : decode y.2.1 pc = .ok (.newarray ka, 2)) (ht : t < 3) (hty : newarray.typeOf ka = mm_ty t) (hw : Cond.arrayClass (mm_ty t) ∈ lw_tbl) (ha : ∀ cA : ClassId, vp_cell cA a0 = arrV cA N (fun _ => defaultValue (mm_ty t))) (hn : ¬ i < 0) (hN : i.toNatClampNeg = N) (hb : N * componentBytes (mm_ty t) ≤ 536870912)
    (k : mm_G sc y d (pc + 2) l (.ref n :: st) (n + 1) (va_up h n (some (.inl (t, a0)))) kc ks Q) : mm_G sc y d pc l (.int i :: st) n h (kc + 1) (ks + N) Q := fun X P Z S R E => by
  have hc1 : Z.cells + 1 ≤ P.R.cells := by have := R.2.1; omega
  have hs1 : Z.slots + N ≤ P.R.slots := by have := R.2.2.1; omega
  have hA : P.s.vm.findClass ("[" ++ (mm_ty t).toString) = some (X.dA t) := mm_RA3 ht (S.arr (t := t) (by omega)).2
  refine va_newaK S.1 S.2.1 (by rw [hty]; exact S.w hw rfl) rfl hd rfl hn hN (by rw [hty]; exact hb) hc1 hs1 R.1.1 fun H1 cA e1 z1 o1 hAr hNm => ?_
  rw [hty] at e1 hNm
  cases Option.some.inj (hNm.symm.trans hA)
  exact k X P (H1, Z.locs, Z.cells + 1, Z.slots + N, Z.ls) S (R.new (c := .inl (t, a0)) (show H1[n]? = some (vp_cell (X.dA t) a0) by rw [ha]; exact e1) z1 o1) E
theorem mm_newq {N idx : Nat} {i : Int32} (hd : decode y.2.1 pc = .ok (.anewarray idx, 3)) (hl : Cond.classLink y.1.cls idx mm_elem ∈ lw_tbl) (hw : Cond.arrayOver (.object mm_elem) ∈ lw_tbl) (hok : mm_ok (Cond.arrayOver (.object mm_elem)) = true) (hn : ¬ i < 0) (hN : i.toNatClampNeg = N) (hb : N * 4 ≤ 536870912)
    (k : mm_G sc y d (pc + 3) l (.ref n :: st) (n + 1) (va_up h n (some (.inl (3, N, .inr (.inr (.inr (.inr (fun _ => none)))))))) kc ks Q) : mm_G sc y d pc l (.int i :: st) n h (kc + 1) (ks + N) Q := fun X P Z S R E => by
  subst hN
  have hc1 : Z.cells + 1 ≤ P.R.cells := by have := R.2.1; omega
  have hs1 : Z.slots + i.toNatClampNeg ≤ P.R.slots := by have := R.2.2.1; omega
  obtain ⟨kA', comp', -, -, -, hA⟩ := (S.arr (t := 3) (by decide)).2
  refine W.anew S.1 S.2.1 S.own (S.w hl rfl) (S.w hw hok) rfl hd rfl hn hb hc1 hs1 fun cA kA comp f1 f2 f3 f4 => ?_
  cases Option.some.inj (f1.symm.trans hA)
  generalize hH1 : Z.H.push ({ cls := X.dA 3, slots := Array.replicate i.toNatClampNeg .null, vm := .none } : Cell) = H1
  have hz := R.1.1
  have z1 : H1.size = n + 1 := by rw [← hH1, Array.size_push, hz]
  have e1 : H1[n]? = some (arrV (X.dA 3) i.toNatClampNeg (fun _ => .null)) := by rw [← hH1, ← hz, Array.getElem?_push_size, ← arrV_new]
  have o1 : ∀ q : Nat, q < n → H1[q]? = Z.H[q]? := fun q hq => by rw [← hH1, Array.getElem?_push, if_neg (by omega)]
  rw [hz]
  exact k X P (H1, Z.locs, Z.cells + 1, Z.slots + i.toNatClampNeg, Z.ls) S (R.new (c := .inl (3, i.toNatClampNeg, .inr (.inr (.inr (.inr (fun _ => none)))))) (show H1[n]? = some (vp_cell (X.dA 3) (i.toNatClampNeg, .inr (.inr (.inr (.inr (fun _ => none)))))) from e1) z1 o1) E
theorem mm_aast {a len v ci N : Nat} {C : String} {T : u_T} {fs : List Value} {f : Nat → Option Nat} {i : Int32} (hd : decode y.2.1 pc = .ok (.aastore, 1)) (hc : h a = some (.inl (3, len, .inr (.inr (.inr (.inr f)))))) (hv : h v = some (.inr (ci, fs))) (hC : mm_Cl ci C T N) (hw : Cond.castable C mm_elem ∈ lw_tbl) (hi : vp_in i len)
    (k : mm_G sc y d (pc + 1) l st n (va_up h a (some (.inl (3, len, .inr (.inr (.inr (.inr (va_up f i.toNatClampNeg (some v))))))))) kc ks Q) : mm_G sc y d pc l (.ref v :: .int i :: .ref a :: st) n h kc ks Q := fun X P Z S R E => by
  have hcell : Z.H[a]? = some (vp_cell (X.dA 3) (len, .inr (.inr (.inr (.inr f))))) := (R.1.2.2.2 a _ hc).2
  have hlt : i.toNatClampNeg < len := Nat.not_le.mp fun q => hi (Or.inr q)
  have h0 : ¬ i < 0 := fun q => hi (Or.inl q)
  obtain ⟨cellV, g1, g3, g2⟩ := va_recv S.kn (R.1.p1 hv) hC.1 (q0 := 0) rfl
  obtain ⟨kC, hkC, -⟩ := Vm.findClass_spec g2
  obtain ⟨c0, t0, f1, f2, f3⟩ := Cond.castable_spec (S.w hw rfl)
  cases Option.some.inj (g2.symm.trans f1)
  obtain ⟨kA, comp, k1, k2, k3, -⟩ := (S.arr (t := 3) (by decide)).2
  cases Option.some.inj (k3.symm.trans f2)
  obtain ⟨kE, hkE, -⟩ := Vm.findClass_spec k3
  refine W.aast S.1 S.2.1 hcell (fun q h => by cases h) (fun h => by cases h) k1 k2 rfl hkE ⟨h0, by show _ < (arrV _ _ _).slots.size; rw [arrV_size]; exact hlt⟩ g1 (fun q h => by rw [h] at g3; cases g3) hkC f3 rfl rfl hd fun H1 e z oq => ?_
  refine k X P (H1, Z.locs ++ [⟨a, i.toNatClampNeg⟩], Z.cells, Z.slots, Z.ls) S (R.put hc ?_ z oq) E
  show H1[a]? = some (vp_cell _ _)
  rw [e, vp_cell_q, vp_cell_q, arrV_store]
  congr 2
  funext q
  by_cases hq : q = i.toNatClampNeg
  · subst hq
    simp [updV, va_up, va_rf]
  · simp [updV, va_up, hq]
theorem mm_instY {a ci N i : Nat} {C nm : String} {T : u_T} {fs : List Value} (hd : decode y.2.1 pc = .ok (.instanceof i, 3)) (hc : h a = some (.inr (ci, fs))) (hC : mm_Cl ci C T N) (hl : Cond.classLink y.1.cls i nm ∈ lw_tbl) (hs : C = nm ∨ Cond.castable C nm ∈ lw_tbl)
    (k : mm_G sc y d (pc + 3) l (.int 1 :: st) n h kc ks Q) : mm_G sc y d pc l (.ref a :: st) n h kc ks Q := fun X P Z S R E => by
  rcases hs with rfl | hs
  · exact va_instS S.1 S.2.1 S.own (S.w hl rfl) (S.kn.1 ci _ hC.1).2 (va_recv S.kn (R.1.p1 hc) hC.1 (q0 := 0) rfl) hd (k X P Z S R E)
  · exact va_instY S.1 S.2.1 S.own (S.w hl rfl) (va_Nw.of rfl (S.w hs rfl)) (va_recv S.kn (R.1.p1 hc) hC.1 (q0 := 0) rfl) hd (k X P Z S R E)
theorem mm_castY {a ci N i : Nat} {C nm : String} {T : u_T} {fs : List Value} (hd : decode y.2.1 pc = .ok (.checkcast i, 3)) (hc : h a = some (.inr (ci, fs))) (hC : mm_Cl ci C T N) (hl : Cond.classLink y.1.cls i nm ∈ lw_tbl) (hs : C = nm ∨ Cond.castable C nm ∈ lw_tbl)
    (k : mm_G sc y d (pc + 3) l (.ref a :: st) n h kc ks Q) : mm_G sc y d pc l (.ref a :: st) n h kc ks Q := fun X P Z S R E => by
  rcases hs with rfl | hs
  · exact va_castS S.1 S.2.1 S.own (S.w hl rfl) (S.kn.1 ci _ hC.1).2 (va_recv S.kn (R.1.p1 hc) hC.1 (q0 := 0) rfl) hd (k X P Z S R E)
  · exact va_castY S.1 S.2.1 S.own (S.w hl rfl) (va_Nw.of rfl (S.w hs rfl)) (va_recv S.kn (R.1.p1 hc) hC.1 (q0 := 0) rfl) hd (k X P Z S R E)
theorem mm_instN {i : Nat} (hd : decode y.2.1 pc = .ok (.instanceof i, 3)) (k : mm_G sc y d (pc + 3) l (.int 0 :: st) n h kc ks Q) : mm_G sc y d pc l (.null :: st) n h kc ks Q := fun X P Z S R E => lv_instN S.1 S.2.1 hd (k X P Z S R E)
theorem mm_sld {i : Int32} (hd : decode y.2.1 pc = .ok (.iaload, 1)) (hi : vp_in i sc.2.1) (k : mm_G sc y d (pc + 1) l (.int (sc.2.2 i.toNatClampNeg) :: st) n h kc ks Q) : mm_G sc y d pc l (.int i :: .ref sc.1 :: st) n h kc ks Q := fun X P Z S R E => by
  obtain ⟨scr, h1, h2, h3, h4, h5⟩ := S.K.2.2.2.1
  have hlt : i.toNatClampNeg < sc.2.1 := Nat.not_le.mp fun q => hi (Or.inr q)
  exact W.iald (v := .int (sc.2.2 i.toNatClampNeg)) S.1 S.2.1 (by rw [R.1.2.2.1 _ S.K.2.2.2.2.1]; exact h1) (State.isArrayOf_alike S.warm.alike h2) h3 (by rw [h4]; exact hi) (h5 _ hlt) rfl rfl hd (k X P Z S R E)
theorem mm_slen (hd : decode y.2.1 pc = .ok (.arraylength, 1)) (k : mm_G sc y d (pc + 1) l (.int (Int32.ofNat sc.2.1) :: st) n h kc ks Q) : mm_G sc y d pc l (.ref sc.1 :: st) n h kc ks Q := fun X P Z S R E => by
  obtain ⟨scr, h1, h2, h3, h4, h5⟩ := S.K.2.2.2.1
  exact W.alen (n := Int32.ofNat sc.2.1) S.1 S.2.1 (by rw [R.1.2.2.1 _ S.K.2.2.2.2.1]; exact h1) (State.isArrayOf_alike S.warm.alike h2) (by rw [h4] <;> rfl) rfl rfl hd (k X P Z S R E)
theorem mm_objInit {i a : Nat} (hd : decode y.2.1 pc = .ok (.invokespecial i, 3)) (hl : Cond.methodLink y.1.cls i Lib.objectInit ∈ lw_tbl) (hi : Cond.instanceMethod Lib.objectInit ∈ lw_tbl) (hc : Cond.code Lib.objectInit ⟨#[0xb1]⟩ 1 none ∈ lw_tbl) (h1 : 1 ≤ d) (hst : (st.map fun v => v.category).sum ≤ 8)
    (k : mm_G sc y d (pc + 3) l st n h kc ks Q) : mm_G sc y d pc l (.ref a :: st) n h kc ks Q := fun X P Z S R E => by
  have hf := S.frames
  have hlo := S.locals
  exact W.objInit S.1 S.2.1 S.own (S.w hl rfl) (S.w hi rfl) (S.w hc rfl) (g := F0 P.m pc Z.ls (.ref a :: st)) rfl (by rw [S.ml]; exact E.1.1) (a := a) (rest := st) rfl hd (by omega) (by show 2 * 0 + _ + 12 ≤ _; omega) (k X P Z S R E)
theorem mm_mmin {i : Nat} {a b : Int32} (hd : decode y.2.1 pc = .ok (.invokestatic i, 3)) (hl : Cond.methodLink y.1.cls i Lib.Math.min.name ∈ lw_tbl) (hs : Cond.static Lib.Math.min.name ∈ lw_tbl) (hi : Cond.initialized "java/lang/Math" ∈ lw_tbl) (hc : Cond.code Lib.Math.min.name Lib.Math.min.code 2 (some .int) ∈ lw_tbl) (h1 : 1 ≤ d) (hst : (st.map fun v => v.category).sum ≤ 8)
    (k : mm_G sc y d (pc + 3) l (.int (if b < a then b else a) :: st) n h kc ks Q) : mm_G sc y d pc l (.int b :: .int a :: st) n h kc ks Q := fun X P Z S R E => by
  have hf := S.frames
  have hlo := S.locals
  exact va_mmin S.1 S.2.1 (by rw [S.ml]; exact E.1.1.symm) S.own (S.w hl rfl) (S.w hs rfl) (S.w hi rfl) (S.w hc rfl) (by omega) (by omega) (Nat.le_trans (Nat.le_add_right _ _) R.2.1) (Nat.le_trans (Nat.le_add_right _ _) R.2.2.1) hd (k X P Z S R E)
theorem mm_named {y : mm_M} {a : Array Value} {s : State} (hw : (mm_code y).before a s = true) : ∃ m, s.methodNamed? y.1 = some m := by
  obtain ⟨nm, bs, ml, rt, hs⟩ := y
  cases hs with
  | nil => exact Cond.code_named (x := nm) (bytes := bs) (maxLocals := ml) (ret := rt) hw
  | cons z zs =>
    obtain ⟨m', meth, c, q0, -⟩ := Cond.codeWith_spec (x := nm) (bytes := bs) (maxLocals := ml) (ret := rt) (handlers := z :: zs) hw
    exact ⟨m', q0⟩
end MM4
end
section
section MM5
variable {sc : mm_Sc} {y : mm_M} {d pc : Nat} {l : mm_L} {st : List Value} {n : Nat} {h : mm_H} {kc ks : Nat} {Q : mm_O → Nat → mm_H → Prop} {X : mm_X} {P : mm_P} {Z : mm_Z}
theorem mm_code_spec {y : mm_M} {a : Array Value} {s : State} {m : MethodId} (hn : s.methodNamed? y.1 = some m) (hw : (mm_code y).before a s = true) :
    ∃ meth c, s.vm.method? m = some meth ∧ meth.code = some c ∧ c.code = y.2.1 ∧ c.maxLocals = y.2.2.1 ∧ meth.sig.returnType = y.2.2.2.1 ∧ meth.locks = false ∧ (c.exceptionTable.toList.map fun z => (z.startPc, z.endPc, z.handlerPc, z.catchType)) = y.2.2.2.2 ∧ parseMethodDescriptor y.1.desc = some meth.sig := by
  obtain ⟨nm, bs, ml, rt, hs⟩ := y
  cases hs with
  | nil =>
    obtain ⟨meth, c, h1, h2, h3, h4, h5, h6, h7, h8⟩ := Cond.code_spec (x := nm) (bytes := bs) (maxLocals := ml) (ret := rt) hn hw
    exact ⟨meth, c, h1, h2, h3, h4, h5, h6, by rw [Array.isEmpty_iff.mp h7]; rfl, h8⟩
  | cons z zs =>
    obtain ⟨m', meth, c, q0, h1, h2, h3, h4, h5, h6, h7, h8⟩ := Cond.codeWith_spec (x := nm) (bytes := bs) (maxLocals := ml) (ret := rt) (handlers := z :: zs) hw
    cases Option.some.inj (hn.symm.trans q0)
    exact ⟨meth, c, h1, h2, h3, h4, h6, h7, h5, h8⟩
theorem mm_args_mem {as : List Value} (hc : ∀ v ∈ as, v.category = 1) : ∀ (k i : Nat) (v : Value), as[i]? = some v → (k + i, v) ∈ lv_args k as := by
  induction as with
  | nil => intro k i v h; simp at h
  | cons a as ih =>
    intro k i v h
    have ha : a.category = 1 := hc a List.mem_cons_self
    have ha2 : ¬ a.category = 2 := by omega
    cases i with
    | zero =>
      simp at h
      subst h
      simp [lv_args]
    | succ i =>
      simp at h
      have := ih (fun v hv => hc v (List.mem_cons_of_mem _ hv)) (k + 1) i v h
      rw [lv_args, if_neg ha2, show k + (i + 1) = k + 1 + i by omega]
      exact List.mem_cons_of_mem _ this
theorem mm_sl_len {as : List Value} (hc : ∀ v ∈ as, v.category = 1) : (lg_sl as).length = as.length := by
  induction as with
  | nil => rfl
  | cons a as ih =>
    have ha2 : ¬ a.category = 2 := by have := hc a List.mem_cons_self; omega
    have := ih (fun v hv => hc v (List.mem_cons_of_mem _ hv))
    simp only [lg_sl, List.flatMap_cons, if_neg ha2, List.length_append, List.length_cons, List.length_nil] at this ⊢
    omega
/-- a method's locals at its entry -/
abbrev mm_in (as : List Value) (ml : Nat) : mm_L := as.map some ++ List.replicate (ml - as.length) none
/-- a contract out of a walk -/
theorem mm_J.of {as : List Value} (hG : mm_G sc y d 0 (mm_in as y.2.2.1) [] n h kc ks Q) (hp : plainName y.1.cls = true) (hl : as.length ≤ y.2.2.1) (hc : ∀ v ∈ as, v.category = 1) : mm_J sc y d as n h kc ks Q := by
  intro X K
  refine MetFree.of_bodyS (code := y.2.1) (maxLocals := y.2.2.1) (ret := y.2.2.2.1) hp ?_ ?_
  · intro args s m hpre hn
    obtain ⟨meth, c, h1, h2, h3, h4, h5, h6, -, -⟩ := mm_code_spec hn (atoms_spec (ws := [mm_code y]) hpre _ List.mem_cons_self)
    exact ⟨meth, c, h1, h2, h3, h4, h5, h6⟩
  · intro p e s m args below meth c s₁ B hml hP _
    obtain ⟨rfl, hW, hgr, hHR⟩ := hP
    have hh0 : s₁.heap = s.heap := by rw [B.state]; rfl
    obtain ⟨meth', c', q1, q2, -, -, -, -, q7, -⟩ := mm_code_spec B.named (atoms_spec (ws := [mm_code y]) B.pre _ List.mem_cons_self)
    have Y := Stand.of_body B
    cases Option.some.inj (q1.symm.trans B.method)
    cases Option.some.inj (q2.symm.trans Y.code)
    have hlv := lv_entry as (n := y.2.2.1) (by rw [mm_sl_len hc]; exact hl)
    have key : ∀ q ∈ mm_lv (mm_in as y.2.2.1), q ∈ lv_args 0 as ∧ q.2.category = 1 := by
      rintro ⟨j, w⟩ hq
      rw [mm_lv_mem, List.getElem?_append] at hq
      split at hq
      · rw [List.getElem?_map] at hq
        cases hj : as[j]? with
        | none => rw [hj] at hq; cases hq
        | some v =>
          rw [hj] at hq
          cases hq
          have := mm_args_mem hc 0 j _ hj
          rw [Nat.zero_add] at this
          exact ⟨this, hc _ (List.mem_of_getElem? hj)⟩
      · rw [List.getElem?_replicate] at hq
        split at hq <;> cases hq
    have W0 := hG X (p, e, mm_rm d kc ks, s, m, as.toArray, below, meth, c) (s.heap, [], 0, 0, (lg_sl as ++ List.replicate (y.2.2.1 - (lg_sl as).length) Slot.unset).toArray)
      ⟨B.exec, B.bytes, hml, B.returns, B.notSynchronized, findClass_of_methodNamed B.named, (name_of_methodNamed B.named B.method).1, q7, hW, Nat.le_refl _, Nat.le_refl _, ⟨hgr, hHR.2.2.1⟩, K⟩
      ⟨hHR, by show 0 + kc ≤ kc; omega, by show 0 + ks ≤ ks; omega, fun q hq => by cases hq⟩
      ⟨⟨hlv.1, hlv.2.1, fun q hq => hlv.2.2 q (key q hq).1⟩, fun q hq => (key q hq).2⟩
    rw [← lg_entry_eq] at W0
    obtain ⟨t, a1, o, b1, b2, b3⟩ := W0 s₁ hh0 Y
    exact ⟨t, o, a1, b1, b2, b3⟩
/-- a call comes back, by an answer or by a throw -/
theorem mm_back (S : mm_S sc y d X P) {T : State} {locs : List Loc} {cells slots : Nat} (Y : Stand P.p X.l P.e P.R P.s P.m P.args P.below P.meth P.c T locs cells slots) {y' : mm_M} {d' kc' ks' : Nat} {as : List Value} {Q' : mm_O → Nat → mm_H → Prop}
    (J : mm_J sc y' d' as n h kc' ks' Q') (hd' : d' < d) (hm : y'.2.2.1 ≤ 16) (hw : mm_code y' ∈ lw_tbl) (hok : mm_ok (mm_code y') = true) (hini : Cond.initialized y'.1.cls ∈ lw_tbl) (hR : mm_HR X n h T.heap) (hc : cells + kc' ≤ P.R.cells) (hs : slots + ks' ≤ P.R.slots)
    {mk : MethodId} (hn : T.methodNamed? y'.1 = some mk) {g : JFrame} (hg : g.method = P.m) (hsize : g.locals.size = P.c.maxLocals) {ig : Instr} {len : Nat} (hdg : decode P.c.code g.pc = .ok (ig, len)) (hW : 2 * g.monitorRoom + (g.stack.map fun v => v.category).sum ≤ 8) :
    ∃ (mo : mm_O) (n' : Nat) (h' : mm_H) (T' : State) (L' : List Loc), Stand P.p X.l P.e P.R P.s P.m P.args P.below P.meth P.c T' (locs ++ L') (cells + kc') (slots + ks') ∧ Q' mo n' h' ∧ mm_HR X n' h' T'.heap ∧ (∀ q ∈ L', X.s0.heap.size ≤ q.base) ∧
      match mo with
      | .inl v => Steps P.p.tables P.e P.below (doInvoke P.e (T.setTop g) [] mk as.toArray).1 (T'.setTop { g with pc := g.pc + len, stack := v.toList ++ g.stack })
      | .inr k => ∃ (a : Addr) (cell : Cell), T'.heap[a]? = some cell ∧ cell.vm = .none ∧ X.s0.vm.findClass (mm_ex k) = some cell.cls ∧ Steps P.p.tables P.e P.below (doInvoke P.e (T.setTop g) [] mk as.toArray).1 ((T'.setTop g).pushFrame (.throwing a)) := by
  have hWt : X.s0.WarmedH T.vm := State.WarmedH.trans S.warm Y.warmed
  have hcode : (mm_code y').before as.toArray T = true := mm_words S.K hWt hw hok _
  obtain ⟨methY, cY, hmY, hcY, -, hlY, -, -, -, -⟩ := mm_code_spec hn hcode
  obtain ⟨kY, hkY, -⟩ := className_of_methodNamed hn
  have hinitY : kY.init = .initialized := Cond.initialized_spec (findClass_of_methodNamed hn) hkY (mm_words (a := as.toArray) S.K hWt hini rfl)
  have hAt : At T g.method P.c P.below := by rw [hg]; exact Y.here
  have hfrm : d' + 1 ≤ P.R.frames := Nat.le_trans hd' S.frames
  have hloc : 35 * d ≤ P.R.locals := S.locals
  have happ : (headSpec [mm_code y'] (mm_rm d' kc' ks')).appliesLoose y'.1 P.e.platform (T.calling g mk as.toArray) = true :=
    Spec.appliesLoose_calling (g := g) hAt hdg hn hkY hinitY
      (Y.room_calling (g := g) (R' := mm_rm d' kc' ks') hsize hmY hcY hfrm (by rw [hlY]; show _ + (35 * d') ≤ _; omega) hc hs) (atoms_intro fun w hw => by rw [List.mem_singleton.mp hw]; exact hcode)
  obtain ⟨mid, hmid⟩ := hAt.above
  have hfr : (T.setTop g).frames = (.java g :: mid) ++ P.below := by rw [State.frames_setTop' g hAt.top, hmid]; rfl
  have hgrown : X.s0.heap.size ≤ T.heap.size := by rw [hR.1]; exact hR.2.1
  obtain ⟨o, s₂, hsteps, -, hend, hq⟩ := Steps.callFree (J X S.K) P.p Y.admits Y.cas Y.clock (acts := []) hfr happ ⟨rfl, hWt, hgrown, hR⟩ trivial
  rw [State.frames_setTop' g hAt.top] at hend
  obtain ⟨mo, n', h', hor, hq', hHR, hW₂, L', hsame0, hL⟩ := hq
  obtain ⟨e2, q2, q3, q4, q5, q6⟩ := hsame0
  have e3 : s₂ = ({ (T.calling g mk as.toArray).setFrames s₂.frames with heap := s₂.heap, slotsUsed := s₂.slotsUsed } : State).setVm s₂.vm := by
    have h9 : s₂ = ({ s₂ with vm := (T.calling g mk as.toArray).vm } : State).setVm s₂.vm := rfl
    rw [show ({ s₂ with vm := (T.calling g mk as.toArray).vm } : State) = _ from e2] at h9
    exact h9
  have hW' : T.WarmedH s₂.vm := hW₂
  obtain ⟨g₀, hg0⟩ := Option.isSome_iff_exists.mp hAt.top
  obtain ⟨r, hr⟩ := State.topJava?_eq_some.mp hg0
  have hr' : (({ T with heap := s₂.heap, slotsUsed := s₂.slotsUsed } : State).setVm s₂.vm).frames = .java g₀ :: r := hr
  have hsame : T.sameButNew ({ T with heap := s₂.heap, slotsUsed := s₂.slotsUsed } : State) L' kc' ks' := by
    refine ⟨?_, q2, q3, q4, q5, q6⟩
    obtain ⟨t, ht, -⟩ := State.frames_cons hr
    show ({ T with heap := s₂.heap, slotsUsed := s₂.slotsUsed } : State) = { T.setFrames T.frames with heap := s₂.heap, slotsUsed := s₂.slotsUsed }
    rw [State.setFrames_self ht]
  refine ⟨mo, n', h', (({ T with heap := s₂.heap, slotsUsed := s₂.slotsUsed } : State).setVm s₂.vm), L',
    ⟨Y.admits, Y.cas, Y.clock, Y.frames, Y.room, Y.hears, Y.method, Y.code, (Y.here.setHeapUsed s₂.heap s₂.slotsUsed).setVm hW'.alike, Y.tail, State.WarmedH.trans Y.warmed hW', Y.limits, Y.bytes, Y.same.trans (hsame.setVm P.s.vm)⟩, hq', hHR, hL, ?_⟩
  cases mo with
  | inl v =>
    have ho : o = .returned v := hor
    subst ho
    obtain ⟨c₂, i₂, len₂, hc₂, hd₂, hf₂⟩ := hend
    have hcc : c₂ = P.c := by
      have h1 : s₂.code? g.method = T.code? g.method := by
        rw [State.code?_eq, State.code?_eq, hW'.alike.method?]
      exact Option.some.inj (hc₂.symm.trans (h1.trans hAt.code))
    subst hcc
    have hlen : len₂ = len := by rw [hdg] at hd₂; cases hd₂; rfl
    subst hlen
    have hs₂ : s₂ = (({ T with heap := s₂.heap, slotsUsed := s₂.slotsUsed } : State).setVm s₂.vm).setTop { g with pc := g.pc + len₂, stack := v.toList ++ g.stack } := by
      refine e3.trans ?_
      rw [hf₂, State.calling_eq hAt.top, State.setFrames_setFrames, State.setTop_of_frames _ hr', hr]
      rfl
    show Steps _ _ _ _ ((({ T with heap := s₂.heap, slotsUsed := s₂.slotsUsed } : State).setVm s₂.vm).setTop { g with pc := g.pc + len₂, stack := v.toList ++ g.stack })
    rw [← hs₂]
    exact hsteps
  | inr k =>
    obtain ⟨a, cell, ho, h1, h2, h3⟩ := hor
    subst ho
    refine ⟨a, cell, h1, h2, h3, ?_⟩
    have hf₂ : s₂.frames = .throwing a :: .java g :: T.frames.tail := hend
    have hs₂ : s₂ = ((({ T with heap := s₂.heap, slotsUsed := s₂.slotsUsed } : State).setVm s₂.vm).setTop g).pushFrame (.throwing a) := by
      refine e3.trans ?_
      rw [hf₂, State.calling_eq hAt.top, State.setFrames_setFrames, State.pushFrame, State.frames_setTop _ hr', State.setTop_of_frames _ hr', State.setFrames_setFrames, hr]
      rfl
    rw [← hs₂]
    exact hsteps
/-- what comes behind a throw over the frame at pc -/
def mm_Th (sc : mm_Sc) (y : mm_M) (d pc : Nat) (l : mm_L) (n : Nat) (h : mm_H) (kc ks : Nat) (Q : mm_O → Nat → mm_H → Prop) (k : Nat) : Prop :=
  ∀ (X : mm_X) (P : mm_P) (Z : mm_Z), mm_S sc y d X P → mm_R X n h kc ks P Z → mm_LR y l Z → ∀ (T : State) (st : List Value) (a : Addr) (cell : Cell), T.heap = Z.H → Stand P.p X.l P.e P.R P.s P.m P.args P.below P.meth P.c T Z.locs Z.cells Z.slots → T.heap[a]? = some cell → cell.vm = .none → X.s0.vm.findClass (mm_ex k) = some cell.cls →
    ∃ t, Steps P.p.tables P.e P.below ((T.setTop (F0 P.m pc Z.ls st)).pushFrame (.throwing a)) t ∧ mm_E X P Q t
theorem mm_Th.out {k : Nat} (hh : y.2.2.2.2 = []) (hq : Q (.inr k) n h) : mm_Th sc y d pc l n h kc ks Q k := by
  intro X P Z S R E T st a cell hT Y h1 h2 h3
  have hno : ∀ x ∈ P.c.exceptionTable.toList, covers x (F0 P.m pc Z.ls st).pc = false := by
    have h9 := S.hand
    rw [hh] at h9
    intro x hx
    rw [List.map_eq_nil_iff.mp h9] at hx
    cases hx
  obtain ⟨w1, w2, w3, w4, w5⟩ := Y.leaveThrown a (g := F0 P.m pc Z.ls st) rfl rfl rfl hno S.locks
  exact ⟨_, w1, .threw a, w2, w3, .inr k, n, h, ⟨a, cell, rfl, h1, h2, h3⟩, hq, (by show mm_HR X n h T.heap; rw [hT]; exact R.1), w4, Z.locs, w5.mono (Nat.le_trans (Nat.le_add_right _ _) R.2.1) (Nat.le_trans (Nat.le_add_right _ _) R.2.2.1), R.2.2.2⟩
/-- the machine comes from the invoking instruction to the invocation of y' with as, rest left on the stack -/
def mm_Inv (sc : mm_Sc) (y : mm_M) (d pc : Nat) (n : Nat) (h : mm_H) (st0 rest as : List Value) (y' : mm_M) : Prop :=
  ∀ (X : mm_X) (P : mm_P), mm_S sc y d X P → ∀ (T : State) (ls : Array Slot) (locs : List Loc) (cells slots : Nat), mm_HR X n h T.heap → Stand P.p X.l P.e P.R P.s P.m P.args P.below P.meth P.c T locs cells slots →
    ∃ (mk : MethodId) (vm₁ : Vm), P.s.methodNamed? y'.1 = some mk ∧ Stand P.p X.l P.e P.R P.s P.m P.args P.below P.meth P.c (T.setVm vm₁) locs cells slots ∧
      ∀ target, (∀ acts, Steps P.p.tables P.e P.below (doInvoke P.e ((T.setVm vm₁).setTop (F0 P.m pc ls rest)) acts mk as.toArray).1 target) → Steps P.p.tables P.e P.below (T.setTop (F0 P.m pc ls st0)) target
/-- THE CALL -/
theorem mm_call {y' : mm_M} {d' kc' ks' : Nat} {st0 as : List Value} {Q' : mm_O → Nat → mm_H → Prop} {ig : Instr} (hd : decode y.2.1 pc = .ok (ig, 3)) (hI : mm_Inv sc y d pc n h st0 st as y') (J : mm_J sc y' d' as n h kc' ks' Q') (hd' : d' < d) (hm : y'.2.2.1 ≤ 16) (hw : mm_code y' ∈ lw_tbl) (hok : mm_ok (mm_code y') = true) (hini : Cond.initialized y'.1.cls ∈ lw_tbl) (hst : (st.map fun v => v.category).sum ≤ 8)
    (kr : ∀ v n' h', Q' (.inl v) n' h' → mm_G sc y d (pc + 3) l (v.toList ++ st) n' h' kc ks Q)
    (kt : ∀ k n' h', Q' (.inr k) n' h' → mm_Th sc y d pc l n' h' kc ks Q k) : mm_G sc y d pc l st0 n h (kc + kc') (ks + ks') Q := by
  intro X P Z S R E T hT Y
  obtain ⟨hHR, hc, hs, hlo⟩ := R
  have hHR' : mm_HR X n h T.heap := by rw [hT]; exact hHR
  obtain ⟨mk, vm₁, hnm, Y₁, hstep⟩ := hI X P S T Z.ls Z.locs Z.cells Z.slots hHR' Y
  obtain ⟨mo, n', h', T', L', Y', hq', hHR2, hL, hrun⟩ := mm_back (cells := Z.cells) (slots := Z.slots) S Y₁ J hd' hm hw hok hini (show mm_HR X n h (T.setVm vm₁).heap from hHR') (by omega) (by omega) (Y₁.named hnm) (g := F0 P.m pc Z.ls st) rfl (by rw [S.ml]; exact E.1.1) (ig := ig) (len := 3) (by rw [S.2.1]; exact hd) (by show 2 * 0 + (st.map fun v => v.category).sum ≤ 8; omega)
  have hlo' : ∀ q ∈ Z.locs ++ L', X.s0.heap.size ≤ q.base := fun q hq => by
    rcases List.mem_append.mp hq with h9 | h9
    · exact hlo q h9
    · exact hL q h9
  have R' : mm_R X n' h' kc ks P (T'.heap, Z.locs ++ L', Z.cells + kc', Z.slots + ks', Z.ls) := ⟨hHR2, by show Z.cells + kc' + kc ≤ _; omega, by show Z.slots + ks' + ks ≤ _; omega, hlo'⟩
  cases mo with
  | inl v =>
    obtain ⟨t, a1, b1⟩ := kr v n' h' hq' X P (T'.heap, Z.locs ++ L', Z.cells + kc', Z.slots + ks', Z.ls) S R' E T' rfl Y'
    exact ⟨t, hstep _ (fun acts => by rw [doInvoke_state]; exact hrun.trans a1), b1⟩
  | inr k =>
    obtain ⟨a, cell, c1, c2, c3, hrun⟩ := hrun
    obtain ⟨t, a1, b1⟩ := kt k n' h' hq' X P (T'.heap, Z.locs ++ L', Z.cells + kc', Z.slots + ks', Z.ls) S R' E T' st a cell rfl Y' c1 c2 c3
    exact ⟨t, hstep _ (fun acts => by rw [doInvoke_state]; exact hrun.trans a1), b1⟩
/-- invokestatic -/
theorem mm_Inv.sta {y' : mm_M} {as st0 : List Value} {i : Nat} (hd : decode y.2.1 pc = .ok (.invokestatic i, 3)) (hl : Cond.methodLink y.1.cls i y'.1 ∈ lw_tbl ∨ ∃ host, Cond.methodLinkNest y.1.cls i y'.1 host ∈ lw_tbl) (hs : Cond.static y'.1 ∈ lw_tbl) (hw : mm_code y' ∈ lw_tbl) (hok : mm_ok (mm_code y') = true) (hini : Cond.initialized y'.1.cls ∈ lw_tbl) (hy : y'.1.cls ≠ "java/lang/invoke/MethodHandle" ∧ y'.1.cls ≠ "java/lang/invoke/VarHandle")
    (hlen : (parseMethodDescriptor y'.1.desc).map (fun z => z.parameters.length) = some as.length) (hst : st0 = as.reverse ++ st) : mm_Inv sc y d pc n h st0 st as y' := by
  intro X P S T ls locs cells slots hHR Y
  obtain ⟨mk, hnm⟩ := mm_named (S.w hw hok)
  obtain ⟨meth, c, h1, h2, -, -, -, -, -, hsig⟩ := mm_code_spec hnm (S.w hw hok)
  have hstatic : meth.isStatic = true := Cond.static_spec hnm h1 (S.w hs rfl)
  obtain ⟨kP, hkP, -⟩ := className_of_methodNamed hnm
  have hinitP : kP.init = .initialized := Cond.initialized_spec (findClass_of_methodNamed hnm) hkP (S.w hini rfl)
  have hlen' : as.length = meth.sig.parameters.length := by rw [hsig] at hlen; simpa using hlen.symm
  rcases hl with hl | ⟨host, hl⟩
  · obtain ⟨vm₁, X₁, hstep₁⟩ := Y.invokestatic S.1 S.own (S.w hl rfl) hnm h1 hstatic hkP hinitP hy (g := F0 P.m pc ls st0) rfl (argsL := as) (rest := st) hlen' hst (by rw [S.2.1]; exact hd)
    exact ⟨mk, vm₁, hnm, X₁, hstep₁⟩
  · obtain ⟨vm₁, X₁, hstep₁⟩ := Y.invokestaticNest S.1 S.own (S.w hl rfl) hnm h1 hstatic hkP hinitP hy (g := F0 P.m pc ls st0) rfl (argsL := as) (rest := st) hlen' hst (by rw [S.2.1]; exact hd)
    exact ⟨mk, vm₁, hnm, X₁, hstep₁⟩
/-- invokespecial of a constructor -/
theorem mm_Inv.sp {y' : mm_M} {as st0 : List Value} {i a : Nat} (hd : decode y.2.1 pc = .ok (.invokespecial i, 3)) (hl : Cond.methodLink y.1.cls i y'.1 ∈ lw_tbl ∨ ∃ host, Cond.methodLinkNest y.1.cls i y'.1 host ∈ lw_tbl) (hi : Cond.instanceMethod y'.1 ∈ lw_tbl) (hw : mm_code y' ∈ lw_tbl) (hcd : mm_code y' = .code y'.1 y'.2.1 y'.2.2.1 none) (hy : y'.1.cls ≠ "java/lang/invoke/MethodHandle" ∧ y'.1.cls ≠ "java/lang/invoke/VarHandle") (hin : y'.1.name = "<init>")
    (hlen : (parseMethodDescriptor y'.1.desc).map (fun z => z.parameters.length) = some as.length) (hst : st0 = as.reverse ++ .ref a :: st) : mm_Inv sc y d pc n h st0 st (.ref a :: as) y' := by
  intro X P S T ls locs cells slots hHR Y
  have hpl : P.e.platform.magicAccessors = ({} : Platform).magicAccessors := by rw [Y.admits.platform]
  have hcode : (Cond.code y'.1 y'.2.1 y'.2.2.1 none).before P.args P.s = true := S.w (by rw [← hcd]; exact hw) rfl
  have hlen' : ∀ sig, parseMethodDescriptor y'.1.desc = some sig → as.length = sig.parameters.length := fun sig h9 => by rw [h9] at hlen; simpa using hlen.symm
  rcases hl with hl | ⟨host, hl⟩
  · obtain ⟨mk, methM, cM, kP, vm₁, hnm, -, -, -, -, -, -, -, hW₁, hstep₁⟩ := Steps.initColdArgs (e := P.e) Y.here S.1 Y.warmed hpl S.own hin hy (S.w hl rfl) (S.w hi rfl) hcode (f := F0 P.m pc ls st0) rfl (argsL := as) (a := a) (rest := st) hlen' hst (by rw [S.2.1]; exact hd)
    exact ⟨mk, vm₁, hnm, Y.noted hW₁, hstep₁⟩
  · obtain ⟨mk, methM, cM, kP, vm₁, hnm, -, -, -, -, -, -, -, hW₁, hstep₁⟩ := Steps.initColdArgsNest (e := P.e) Y.here S.1 Y.warmed hpl S.own hin hy (S.w hl rfl) (S.w hi rfl) hcode (f := F0 P.m pc ls st0) rfl (argsL := as) (a := a) (rest := st) hlen' hst (by rw [S.2.1]; exact hd)
    exact ⟨mk, vm₁, hnm, Y.noted hW₁, hstep₁⟩
/-- invokevirtual of a method of the receiver's own class -/
theorem mm_Inv.vi {y' : mm_M} {as st0 : List Value} {i a ci N : Nat} {C : String} {T : u_T} {fs : List Value} (hd : decode y.2.1 pc = .ok (.invokevirtual i, 3)) (hl : Cond.methodLink y.1.cls i y'.1 ∈ lw_tbl ∨ ∃ host, Cond.methodLinkNest y.1.cls i y'.1 host ∈ lw_tbl) (hi : Cond.instanceMethod y'.1 ∈ lw_tbl) (hw : mm_code y' ∈ lw_tbl) (hok : mm_ok (mm_code y') = true) (hsl : Cond.selects C y'.1 y'.1 ∈ lw_tbl) (hy : y'.1.cls ≠ "java/lang/invoke/MethodHandle" ∧ y'.1.cls ≠ "java/lang/invoke/VarHandle")
    (hlen : (parseMethodDescriptor y'.1.desc).map (fun z => z.parameters.length) = some as.length) (hC : mm_Cl ci C T N) (hc : h a = some (.inr (ci, fs))) (hst : st0 = as.reverse ++ .ref a :: st) : mm_Inv sc y d pc n h st0 st (.ref a :: as) y' := by
  intro X P S T ls locs cells slots hHR Y
  obtain ⟨mk, methM, hnamed, hmethM, hstM, habM⟩ := Cond.instanceMethod_spec (S.w hi rfl)
  obtain ⟨methM', cM, hmethM', -, -, -, -, -, -, hsigM⟩ := mm_code_spec hnamed (S.w hw hok)
  cases Option.some.inj (hmethM.symm.trans hmethM')
  obtain ⟨cellB, g1, g2, g3⟩ := va_recv S.kn (hHR.p1 hc) hC.1 (q0 := 0) rfl
  obtain ⟨c2, r2, m2, q1, q2, q3, q4, kP, hkP, hkPi⟩ := Cond.selects_spec (S.w hsl rfl)
  cases Option.some.inj (g3.symm.trans q1)
  cases Option.some.inj ((State.methodFound?_of_named hnamed hy).symm.trans q2)
  cases Option.some.inj (hnamed.symm.trans q3)
  have hselP : selectMethod P.e.platform P.s.vm cellB.cls mk = .method mk := by rw [Launch.admits_selectMethod Y.admits]; exact q4
  have hlen' : as.length = methM.sig.parameters.length := by rw [hsigM] at hlen; simpa using hlen.symm
  rcases hl with hl | ⟨host, hl⟩
  · obtain ⟨vm₁, X₁, hstep₁⟩ := Y.invokevirtual S.1 S.own (S.w hl rfl) hnamed hmethM hstM hkP hkPi hy (a := a) (cell := cellB) g1 (fun z h9 => by rw [h9] at g2; cases g2) hselP hmethM habM hkP hkPi (g := F0 P.m pc ls st0) rfl (argsL := as) (rest := st) hlen' hst (by rw [S.2.1]; exact hd)
    exact ⟨mk, vm₁, hnamed, X₁, hstep₁⟩
  · obtain ⟨vm₁, X₁, hstep₁⟩ := Y.invokevirtualNest S.1 S.own (S.w hl rfl) hnamed hmethM hstM hkP hkPi hy (a := a) (cell := cellB) g1 (fun z h9 => by rw [h9] at g2; cases g2) hselP hmethM habM hkP hkPi (g := F0 P.m pc ls st0) rfl (argsL := as) (rest := st) hlen' hst (by rw [S.2.1]; exact hd)
    exact ⟨mk, vm₁, hnamed, X₁, hstep₁⟩
/-- invokevirtual of a method that is declared above: x is what the instruction names, owner declares it, y' is what the receiver's class selects -/
theorem mm_Inv.up {y' : mm_M} {x : MethodName} {owner : String} {as st0 : List Value} {i a ci N : Nat} {C : String} {T : u_T} {fs : List Value} (hd : decode y.2.1 pc = .ok (.invokevirtual i, 3)) (hl : Cond.methodLink y.1.cls i x ∈ lw_tbl) (hsm : Cond.sameMethod x.cls owner x.name x.desc ∈ lw_tbl) (hdc : Cond.declares ⟨owner, x.name, x.desc⟩ ∈ lw_tbl ∨ (Cond.instanceMethod ⟨owner, x.name, x.desc⟩ ∈ lw_tbl ∧ ∃ b0 m0 r0, Cond.code ⟨owner, x.name, x.desc⟩ b0 m0 r0 ∈ lw_tbl)) (ho : owner ≠ "java/lang/invoke/MethodHandle" ∧ owner ≠ "java/lang/invoke/VarHandle")
    (hi : Cond.instanceMethod y'.1 ∈ lw_tbl) (hsl : Cond.selects C x y'.1 ∈ lw_tbl) (hlen : (parseMethodDescriptor x.desc).map (fun z => z.parameters.length) = some as.length) (hC : mm_Cl ci C T N) (hc : h a = some (.inr (ci, fs))) (hst : st0 = as.reverse ++ .ref a :: st) : mm_Inv sc y d pc n h st0 st (.ref a :: as) y' := by
  intro X P S T ls locs cells slots hHR Y
  obtain ⟨r0, r, hn, hrm, hstR, hsigR⟩ : va_Decl P.s ⟨owner, x.name, x.desc⟩ := by
    rcases hdc with h9 | ⟨h9, b0, m0, r0, h8⟩
    · exact va_Decl.abs (va_Nw.of rfl (S.w h9 rfl))
    · exact va_Decl.of (S.w h9 rfl) (S.w h8 rfl)
  obtain ⟨cn, ck, r1, hcn, hck, hni, hf, hn1⟩ := Cond.sameMethod_found (S.w hsm rfl)
  cases Option.some.inj (hn.symm.trans hn1)
  obtain ⟨mk, methM, hnamed, hmethM, -, habM⟩ := Cond.instanceMethod_spec (S.w hi rfl)
  obtain ⟨cellB, g1, g2, g3⟩ := va_recv S.kn (hHR.p1 hc) hC.1 (q0 := 0) rfl
  obtain ⟨c2, r2, m2, q1, q2, q3, q4, kP, hkP, hkPi⟩ := Cond.selects_spec (S.w hsl rfl)
  cases Option.some.inj (g3.symm.trans q1)
  cases Option.some.inj (hf.symm.trans q2)
  cases Option.some.inj (hnamed.symm.trans q3)
  have hselP : selectMethod P.e.platform P.s.vm cellB.cls r0 = .method mk := by rw [Launch.admits_selectMethod Y.admits]; exact q4
  have hlen' : as.length = r.sig.parameters.length := by rw [hsigR] at hlen; simpa using hlen.symm
  obtain ⟨vm₁, X₁, hstep₁⟩ := Y.invokevirtualUp S.1 S.own (S.w hl rfl) (S.w hsm rfl) ho hn hrm hstR (a := a) (cell := cellB) g1 (fun z h9 => by rw [h9] at g2; cases g2) hselP hmethM habM hkP hkPi (g := F0 P.m pc ls st0) rfl (argsL := as) (rest := st) hlen' hst (by rw [S.2.1]; exact hd)
  exact ⟨mk, vm₁, hnamed, X₁, hstep₁⟩
end MM5
end
section
section MM6
variable {sc : mm_Sc} {y : mm_M} {d pc : Nat} {l : mm_L} {st : List Value} {n : Nat} {h : mm_H} {kc ks : Nat} {Q : mm_O → Nat → mm_H → Prop} {X : mm_X} {P : mm_P} {Z : mm_Z}
/-- what the statement gives of the start, word by word -/
theorem mm_given (K : mm_K sc X) {w : Cond} (hw : w ∈ flatC (Jvm.Cond.and given_1 narrow_1)) : w.before X.a0 X.s0 = true := flat_of_before _ K.2.2.2.2.2.2 w hw
theorem mm_S.nc (S : mm_S sc y d X P) {C nm : String} (hw : Cond.not (.castable C nm) ∈ flatC (Jvm.Cond.and given_1 narrow_1)) : va_Nc C nm P.s := va_Nc.moved S.warm.alike (va_Nc.of (mm_given S.K hw))
theorem mm_instNo {a ci N i : Nat} {C nm : String} {T : u_T} {fs : List Value} (hd : decode y.2.1 pc = .ok (.instanceof i, 3)) (hc : h a = some (.inr (ci, fs))) (hC : mm_Cl ci C T N) (hl : Cond.classLink y.1.cls i nm ∈ lw_tbl) (hn : Cond.not (.castable C nm) ∈ flatC (Jvm.Cond.and given_1 narrow_1))
    (k : mm_G sc y d (pc + 3) l (.int 0 :: st) n h kc ks Q) : mm_G sc y d pc l (.ref a :: st) n h kc ks Q := fun X P Z S R E =>
  va_instNo S.1 S.2.1 S.own (S.w hl rfl) (S.nc hn) (va_recv S.kn (R.1.p1 hc) hC.1 (q0 := 0) rfl) hd (k X P Z S R E)
/-- the words of a throw: the thrower's constants, the exception's chain -/
def mm_Xo (own : String) (ik is ic : Nat) (text : String) (names : List String) (cls : String) : Prop :=
  Bundle.fit cls = true ∧ (∀ z ∈ names, Bundle.fit z = true) ∧ Cond.classLink own ik cls ∈ lw_tbl ∧ Cond.initialized cls ∈ lw_tbl ∧ Cond.stringRef own is text ∈ lw_tbl ∧ (∀ w ∈ vx_atS own ic cls names, w ∈ lw_tbl ∧ mm_ok w = true) ∧ ∀ w ∈ Cond.classLink own ik cls :: Cond.initialized cls :: vx_atS own ic cls names, vx_ot w = true
/-- the statics of Throwable that its constructor reads -/
def mm_Xs : Prop := Cond.laysStatic Bundle.tN "UNASSIGNED_STACK" Bundle.steD ∈ lw_tbl ∧ Cond.laysStatic Bundle.tN "SUPPRESSED_SENTINEL" Bundle.listD ∈ lw_tbl ∧ Cond.initialized Bundle.tN ∈ lw_tbl ∧ Cond.isRef (.static Bundle.tN "UNASSIGNED_STACK" Bundle.steD) ∈ flatC (Jvm.Cond.and given_1 narrow_1) ∧ Cond.isRef (.static Bundle.tN "SUPPRESSED_SENTINEL" Bundle.listD) ∈ flatC (Jvm.Cond.and given_1 narrow_1)
theorem mm_throw {k ik is ic : Nat} {text : String} {names : List String} (hX0 : mm_Xs) (hX : mm_Xo y.1.cls ik is ic text names (mm_ex k)) (d0 : decode y.2.1 pc = .ok (.new ik, 3)) (d3 : decode y.2.1 (pc + 3) = .ok (.dup, 1)) (d4 : decode y.2.1 (pc + 4) = .ok (.ldc is, 2)) (d6 : decode y.2.1 (pc + 6) = .ok (.invokespecial ic, 3)) (d9 : decode y.2.1 (pc + 9) = .ok (.athrow, 1))
    (hh : y.2.2.2.2 = []) (hd : names.length + 3 < d) (hst : (st.map fun v => v.category).sum ≤ 8) (hq : ∀ n', n ≤ n' → Q (.inr k) n' h) : mm_G sc y d pc l st n h (kc + 1) (ks + 6) Q := by
  intro X P Z S R E T hT Y
  obtain ⟨f1, f2, w1, w2, w3, w4, w5⟩ := hX
  obtain ⟨u1, u2, u3, u4, u5⟩ := hX0
  have hcur0 : X.s0.vm.findClass y.1.cls = some P.m.cls := by
    have h9 := S.own
    rw [S.warm.alike.findClass] at h9
    exact h9
  obtain ⟨_, _, _, sa, -, -, -, -, -, he⟩ := Cond.stringRef_spec hcur0 (S.K.1 _ w3)
  have hstr : vk_R y.1.cls is text sa P.s := vk_R.warm S.warm (vk_R.of (S.K.1 _ w3) he)
  have hA0 : ∀ a : Nat, a < X.s0.heap.size → ¬ (fun q : Nat => X.s0.heap.size ≤ q) a := fun a ha h9 => absurd ha (Nat.not_lt.mpr h9)
  have hk0 : ∀ a : Nat, a < X.s0.heap.size → ¬ (fun q : Nat => X.s0.heap.size ≤ q) a → P.s.heap[a]? = X.s0.heap[a]? := fun a ha _ => S.grown.2 a ha
  have hU : vx_Zq Bundle.tN "UNASSIGNED_STACK" Bundle.steD (fun q : Nat => X.s0.heap.size ≤ q) P.s P.s.heap := vx_Zq.moved S.warm.alike ((vx_Zqof (S.K.1 _ u1) (S.K.1 _ u3) (mm_given S.K u4) hA0).kept hk0)
  have hN : vx_Zq Bundle.tN "SUPPRESSED_SENTINEL" Bundle.listD (fun q : Nat => X.s0.heap.size ≤ q) P.s P.s.heap := vx_Zq.moved S.warm.alike ((vx_Zqof (S.K.1 _ u2) (S.K.1 _ u3) (mm_given S.K u5) hA0).kept hk0)
  obtain ⟨hHR, hc, hs, hlo⟩ := R
  have hS : va_S (fun q : Nat => X.s0.heap.size ≤ q) P.s.heap Z.H Z.locs := by
    refine ⟨by rw [← hT]; exact Y.same.2.1, fun q _ hnq => ?_, hlo⟩
    have hq0 : q < X.s0.heap.size := Nat.not_le.mp hnq
    rw [hHR.2.2.1 q hq0, S.grown.2 q hq0]
  have hout : ∀ x ∈ P.c.exceptionTable.toList, covers x (pc + 9) = false := by
    have h9 := S.hand
    rw [hh] at h9
    intro x hx
    rw [List.map_eq_nil_iff.mp h9] at hx
    cases hx
  have hf := S.frames
  have hlc := S.locals
  obtain ⟨t, a1, o, b1, b2, b3⟩ := vx_throwS (Qc := fun _ _ _ _ => False) (XC := fun E _ t => E = mm_ex k ∧ Z.H.size ≤ t.heap.size ∧ ∀ q : Nat, q < Z.H.size → t.heap[q]? = Z.H[q]?) (free := fun q => X.s0.heap.size ≤ q) (mc := P.R.cells) (ms := P.R.slots)
    S.1 S.2.1 S.K.2.2.2.2.2.1 S.own f1 f2 (S.w w1 rfl) (S.w w2 rfl) hstr (fun w hw => S.w (w4 w hw).1 (w4 w hw).2) w5 hU hN hS (by rw [S.ml]; exact E.1.1) d0 d3 d4 d6 d9 hout (rest := st) (by omega) (by omega) (by omega) (by omega) S.locks
    (fun t _ h1 h2 => ⟨rfl, h1, h2⟩) hlo (by omega) (by omega) T hT Y
  rcases b3 with ⟨hF, -⟩ | ⟨q, rfl, E9, ce, L9, ⟨rfl, z1, z2⟩, c1, c2, c3, c4, c5, c6⟩
  · exact hF.elim
  · refine ⟨t, a1, .threw q, b1, b2, .inr k, t.heap.size, h, ⟨q, ce, rfl, c1, c2, ?_⟩, hq _ (by rw [← hHR.1]; exact z1), ⟨rfl, Nat.le_trans hHR.2.1 (by rw [← hHR.1]; exact z1), fun q9 h9 => ?_, fun i c9 hi => ?_⟩, c4, L9, c5, c6⟩
    · rw [S.warm.alike.findClass] at c3
      exact c3
    · rw [z2 q9 (by rw [hHR.1]; exact Nat.lt_of_lt_of_le h9 hHR.2.1)]
      exact hHR.2.2.1 q9 h9
    · have hlt := hHR.lt hi
      exact ⟨(hHR.2.2.2 i c9 hi).1, (hHR.2.2.2 i c9 hi).2.kept (z2 i (by rw [hHR.1]; exact hlt))⟩
/-- a row of a method's table that takes the exception k, thrown at pc; the row ahead (if any) doesn't; the reference goes into a local that nobody reads -/
def mm_Hd (own : String) (hs : List (Nat × Nat × Nat × Nat)) (pc k hp : Nat) : Prop :=
  (∃ (a b ct : Nat) (nm : String) (r : List (Nat × Nat × Nat × Nat)), hs = (a, b, hp, ct) :: r ∧ a ≤ pc ∧ pc < b ∧ ct ≠ 0 ∧ Cond.classLink own ct nm ∈ lw_tbl ∧ Cond.castable (mm_ex k) nm ∈ lw_tbl) ∨
  (∃ (a b ct : Nat) (nm : String) (z : Nat × Nat × Nat × Nat) (nz : String) (r : List (Nat × Nat × Nat × Nat)), hs = z :: (a, b, hp, ct) :: r ∧ a ≤ pc ∧ pc < b ∧ ct ≠ 0 ∧ Cond.classLink own ct nm ∈ lw_tbl ∧ Cond.castable (mm_ex k) nm ∈ lw_tbl ∧ z.2.2.2 ≠ 0 ∧ Cond.classLink own z.2.2.2 nz ∈ lw_tbl ∧ Cond.not (.castable (mm_ex k) nz) ∈ flatC (Jvm.Cond.and given_1 narrow_1))
theorem mm_Th.catch {k hp j : Nat} {len : Nat} (hH : mm_Hd y.1.cls y.2.2.2.2 pc k hp) (hd : (∃ i : Fin 4, (i : Nat) = j ∧ decode y.2.1 hp = .ok (.astore_n i, 1) ∧ len = 1) ∨ (decode y.2.1 hp = .ok (.astore j, 2) ∧ len = 2)) (hj : j < y.2.2.1)
    (kk : mm_G sc y d (hp + len) (l.set j none) [] n h kc ks Q) : mm_Th sc y d pc l n h kc ks Q k := by
  intro X P Z S R E T st a cell hT Y h1 h2 h3
  have hcl : P.s.vm.findClass (mm_ex k) = some cell.cls := by rw [S.warm.alike.findClass]; exact h3
  have hcell : Z.H[a]? = some cell := by rw [← hT]; exact h1
  have key : W P.p X.l P.e P.R P.s P.m P.args P.below P.meth P.c Z.H Z.locs Z.cells Z.slots (mm_E X P Q) (F0 P.m hp Z.ls [.ref a]) := by
    rcases hd with ⟨i, hi, hd, rfl⟩ | ⟨hd, rfl⟩
    · exact lv_astore_n S.1 S.2.1 hd hi E.1 hj rfl (fun ls' h' => kk X P (Z.H, Z.locs, Z.cells, Z.slots, ls') S R (E.drop h'))
    · exact lv_astore S.1 S.2.1 hd E.1 hj rfl (fun ls' h' => kk X P (Z.H, Z.locs, Z.cells, Z.slots, ls') S R (E.drop h'))
  have hand := S.hand
  rcases hH with ⟨b1, b2, ct, nm, r, hs, q1, q2, q3, q4, q5⟩ | ⟨b1, b2, ct, nm, z, nz, r, hs, q1, q2, q3, q4, q5, q6, q7, q8⟩
  · rw [hs] at hand
    obtain ⟨x, r', hx, hf, hr⟩ := List.map_eq_cons_iff.mp hand
    cases hf
    exact vx_catch (ls := Z.ls) (rest := st) (pc := pc) (own := y.1.cls) (name := nm) (E := mm_ex k) S.own [] x r' hx (fun z hz => by cases hz) (by simp [covers, q1, q2]) q3 (S.w q4 rfl) (S.w q5 rfl) hcell h2 hcl key T hT Y
  · rw [hs] at hand
    obtain ⟨x0, r0, hx0, hf0, hr0⟩ := List.map_eq_cons_iff.mp hand
    obtain ⟨x, r', hx, hf, hr⟩ := List.map_eq_cons_iff.mp hr0
    cases hf
    subst hf0
    refine vx_catch (ls := Z.ls) (rest := st) (pc := pc) (own := y.1.cls) (name := nm) (E := mm_ex k) S.own [x0] x r' (by rw [hx0, hx]; rfl) (fun z hz => ?_) (by simp [covers, q1, q2]) q3 (S.w q4 rfl) (S.w q5 rfl) hcell h2 hcl key T hT Y
    rw [List.mem_singleton.mp hz]
    exact Or.inr ⟨q6, nz, S.w q7 rfl, S.nc q8⟩
/-- a call with one answer -/
theorem mm_callD {y' : mm_M} {d' kc' ks' n1 : Nat} {h1 : mm_H} {v : Option Value} {st0 as : List Value} {ig : Instr} (hd : decode y.2.1 pc = .ok (ig, 3)) (hI : mm_Inv sc y d pc n h st0 st as y') (J : mm_J sc y' d' as n h kc' ks' (fun o n' h' => o = .inl v ∧ n' = n1 ∧ h' = h1)) (hd' : d' < d) (hm : y'.2.2.1 ≤ 16) (hw : mm_code y' ∈ lw_tbl) (hok : mm_ok (mm_code y') = true) (hini : Cond.initialized y'.1.cls ∈ lw_tbl) (hst : (st.map fun v => v.category).sum ≤ 8)
    (kr : mm_G sc y d (pc + 3) l (v.toList ++ st) n1 h1 kc ks Q) : mm_G sc y d pc l st0 n h (kc + kc') (ks + ks') Q :=
  mm_call hd hI J hd' hm hw hok hini hst (fun w n' h' hq => by obtain ⟨e1, rfl, rfl⟩ := hq; cases e1; exact kr) (fun k n' h' hq => by cases hq.1)
/-- the heap gets a name -/
theorem mm_hp (k : ∀ h1, h1 = h → mm_G sc y d pc l st n h1 kc ks Q) : mm_G sc y d pc l st n h kc ks Q := k h rfl
end MM6
end
section
abbrev y_SP_init : mm_M := (⟨"SystemParts", "<init>", "()V"⟩, prog_1_method_1_code, 1, none, [])
abbrev y_Lines_init : mm_M := (⟨"SystemParts$Lines", "<init>", "()V"⟩, prog_4_method_1_code, 1, none, [])
abbrev y_SP_chosen : mm_M := (⟨"SystemParts", "chosen", "()I"⟩, prog_1_method_11_code, 1, (some .int), [])
abbrev y_Lines_best : mm_M := (⟨"SystemParts$Lines", "best", "()I"⟩, prog_4_method_9_code, 5, (some .int), [])
abbrev y_Lines_pending : mm_M := (⟨"SystemParts$Lines", "pending", "()I"⟩, prog_4_method_8_code, 3, (some .int), [])
abbrev y_SP_take : mm_M := (⟨"SystemParts", "take", "()I"⟩, prog_1_method_12_code, 2, (some .int), [])
abbrev y_Lines_forget : mm_M := (⟨"SystemParts$Lines", "forget", "(I)V"⟩, prog_4_method_10_code, 2, none, [])
abbrev y_SP_reset : mm_M := (⟨"SystemParts", "reset", "()I"⟩, prog_1_method_13_code, 2, (some .int), [])
abbrev y_SP_resetAll : mm_M := (⟨"SystemParts", "resetAll", "(I)V"⟩, prog_1_method_27_code, 4, none, [])
abbrev y_Counts_beginAnew : mm_M := (⟨"SystemParts$Counts", "beginAnew", "()V"⟩, prog_3_method_6_code, 2, none, [])
abbrev y_Rows_beginAnew : mm_M := (⟨"SystemParts$Rows", "beginAnew", "()V"⟩, prog_6_method_9_code, 2, none, [])
abbrev y_Serial_beginAnew : mm_M := (⟨"SystemParts$Serial", "beginAnew", "()V"⟩, prog_8_method_11_code, 1, none, [])
abbrev y_Timer_beginAnew : mm_M := (⟨"SystemParts$Timer", "beginAnew", "()V"⟩, prog_9_method_6_code, 1, none, [])
abbrev y_Part_beginAnew : mm_M := (⟨"SystemParts$Part", "beginAnew", "()V"⟩, prog_5_method_7_code, 1, none, [])
abbrev y_Lines_allDown : mm_M := (⟨"SystemParts$Lines", "allDown", "()V"⟩, prog_4_method_11_code, 1, none, [])
abbrev y_SP_count : mm_M := (⟨"SystemParts", "count", "(I)I"⟩, prog_1_method_14_code, 2, (some .int), [])
abbrev y_SP_allWaiting : mm_M := (⟨"SystemParts", "allWaiting", "()I"⟩, prog_1_method_28_code, 5, (some .int), [])
abbrev y_SP_allGone : mm_M := (⟨"SystemParts", "allGone", "()I"⟩, prog_1_method_29_code, 5, (some .int), [])
abbrev y_Law_part : mm_M := (⟨"SystemPartsLaw", "part", "(LSystemParts;IIIII[J)I"⟩, method_3_code, 8, (some .int), [(0, 16, 19, 13), (0, 16, 23, 15)])
abbrev y_SP_part : mm_M := (⟨"SystemParts", "part", "(IIIII)I"⟩, prog_1_method_2_code, 9, (some .int), [])
abbrev y_SP_lengthOf : mm_M := (⟨"SystemParts", "lengthOf", "(II)I"⟩, prog_1_method_17_code, 2, (some .int), [])
abbrev y_SP_isLine : mm_M := (⟨"SystemParts", "isLine", "(I)Z"⟩, prog_1_method_16_code, 1, (some .boolean), [])
abbrev y_SP_isFree : mm_M := (⟨"SystemParts", "isFree", "(II)Z"⟩, prog_1_method_19_code, 5, (some .boolean), [])
abbrev y_SP_isPlace : mm_M := (⟨"SystemParts", "isPlace", "(I)Z"⟩, prog_1_method_15_code, 1, (some .boolean), [])
abbrev y_Seat_meets : mm_M := (⟨"SystemParts$Seat", "meets", "(II)Z"⟩, prog_7_method_3_code, 3, (some .boolean), [])
abbrev y_Seat_init : mm_M := (⟨"SystemParts$Seat", "<init>", "(IIII)V"⟩, prog_7_method_1_code, 5, none, [])
abbrev y_SP_newPart : mm_M := (⟨"SystemParts", "newPart", "(ILSystemParts$Seat;)LSystemParts$Part;"⟩, prog_1_method_18_code, 2, (some (.object "SystemParts$Part")), [])
abbrev y_Cells_init : mm_M := (⟨"SystemParts$Cells", "<init>", "(LSystemParts$Seat;Z)V"⟩, prog_2_method_1_code, 3, none, [])
abbrev y_Part_init : mm_M := (⟨"SystemParts$Part", "<init>", "(LSystemParts$Seat;)V"⟩, prog_5_method_1_code, 2, none, [])
abbrev y_Timer_init : mm_M := (⟨"SystemParts$Timer", "<init>", "(LSystemParts$Seat;)V"⟩, prog_9_method_1_code, 2, none, [])
abbrev y_Serial_init : mm_M := (⟨"SystemParts$Serial", "<init>", "(LSystemParts$Seat;)V"⟩, prog_8_method_1_code, 2, none, [])
abbrev y_Rows_init : mm_M := (⟨"SystemParts$Rows", "<init>", "(LSystemParts$Seat;)V"⟩, prog_6_method_1_code, 2, none, [])
abbrev y_Counts_init : mm_M := (⟨"SystemParts$Counts", "<init>", "(LSystemParts$Seat;)V"⟩, prog_3_method_1_code, 2, none, [])
abbrev y_Law_load : mm_M := (⟨"SystemPartsLaw", "load", "(LSystemParts;II[J)I"⟩, method_4_code, 5, (some .int), [(0, 10, 13, 13)])
abbrev y_SP_load : mm_M := (⟨"SystemParts", "load", "(II)I"⟩, prog_1_method_3_code, 6, (some .int), [])
abbrev y_SP_partWith : mm_M := (⟨"SystemParts", "partWith", "(I)LSystemParts$Part;"⟩, prog_1_method_20_code, 4, (some (.object "SystemParts$Part")), [])
abbrev y_Cells_look : mm_M := (⟨"SystemParts$Cells", "look", "(I)I"⟩, prog_2_method_2_code, 2, (some .int), [])
abbrev y_Cells_put : mm_M := (⟨"SystemParts$Cells", "put", "(II)V"⟩, prog_2_method_3_code, 3, none, [])
abbrev y_Law_read : mm_M := (⟨"SystemPartsLaw", "read", "(LSystemParts;I[J)I"⟩, method_5_code, 4, (some .int), [(0, 9, 12, 25), (0, 9, 15, 27)])
abbrev y_SP_read : mm_M := (⟨"SystemParts", "read", "(I)I"⟩, prog_1_method_4_code, 4, (some .int), [])
abbrev y_SP_reachPart : mm_M := (⟨"SystemParts", "reachPart", "(I)LSystemParts$Part;"⟩, prog_1_method_21_code, 3, (some (.object "SystemParts$Part")), [])
abbrev y_SP_tallyOne : mm_M := (⟨"SystemParts", "tallyOne", "(I)V"⟩, prog_1_method_26_code, 5, none, [])
abbrev y_Counts_add : mm_M := (⟨"SystemParts$Counts", "add", "(I)V"⟩, prog_3_method_2_code, 2, none, [])
abbrev y_Seat_accessSteps : mm_M := (⟨"SystemParts$Seat", "accessSteps", "()I"⟩, prog_7_method_2_code, 1, (some .int), [])
abbrev y_SP_runSteps : mm_M := (⟨"SystemParts", "runSteps", "(I)Z"⟩, prog_1_method_23_code, 4, (some .boolean), [])
abbrev y_SP_oneStep : mm_M := (⟨"SystemParts", "oneStep", "()Z"⟩, prog_1_method_24_code, 3, (some .boolean), [])
abbrev y_Counts_goOn : mm_M := (⟨"SystemParts$Counts", "goOn", "()Z"⟩, prog_3_method_5_code, 1, (some .boolean), [])
abbrev y_Rows_goOn : mm_M := (⟨"SystemParts$Rows", "goOn", "()Z"⟩, prog_6_method_6_code, 1, (some .boolean), [])
abbrev y_Rows_moveNumbers : mm_M := (⟨"SystemParts$Rows", "moveNumbers", "()V"⟩, prog_6_method_7_code, 3, none, [])
abbrev y_Serial_goOn : mm_M := (⟨"SystemParts$Serial", "goOn", "()Z"⟩, prog_8_method_9_code, 1, (some .boolean), [])
abbrev y_Timer_goOn : mm_M := (⟨"SystemParts$Timer", "goOn", "()Z"⟩, prog_9_method_4_code, 1, (some .boolean), [])
abbrev y_Part_goOn : mm_M := (⟨"SystemParts$Part", "goOn", "()Z"⟩, prog_5_method_5_code, 1, (some .boolean), [])
abbrev y_SP_askingLines : mm_M := (⟨"SystemParts", "askingLines", "()I"⟩, prog_1_method_25_code, 4, (some .int), [])
abbrev y_Rows_wantsAttention : mm_M := (⟨"SystemParts$Rows", "wantsAttention", "()Z"⟩, prog_6_method_8_code, 1, (some .boolean), [])
abbrev y_Serial_wantsAttention : mm_M := (⟨"SystemParts$Serial", "wantsAttention", "()Z"⟩, prog_8_method_10_code, 1, (some .boolean), [])
abbrev y_Timer_wantsAttention : mm_M := (⟨"SystemParts$Timer", "wantsAttention", "()Z"⟩, prog_9_method_5_code, 1, (some .boolean), [])
abbrev y_Part_wantsAttention : mm_M := (⟨"SystemParts$Part", "wantsAttention", "()Z"⟩, prog_5_method_6_code, 1, (some .boolean), [])
abbrev y_Lines_follow : mm_M := (⟨"SystemParts$Lines", "follow", "(I)V"⟩, prog_4_method_7_code, 5, none, [])
abbrev y_Counts_look : mm_M := (⟨"SystemParts$Counts", "look", "(I)I"⟩, prog_3_method_3_code, 2, (some .int), [])
abbrev y_Rows_look : mm_M := (⟨"SystemParts$Rows", "look", "(I)I"⟩, prog_6_method_2_code, 2, (some .int), [])
abbrev y_Rows_inWindow : mm_M := (⟨"SystemParts$Rows", "inWindow", "(I)Z"⟩, prog_6_method_3_code, 2, (some .boolean), [])
abbrev y_Serial_look : mm_M := (⟨"SystemParts$Serial", "look", "(I)I"⟩, prog_8_method_6_code, 2, (some .int), [])
abbrev y_Serial_nextCome : mm_M := (⟨"SystemParts$Serial", "nextCome", "()I"⟩, prog_8_method_7_code, 2, (some .int), [])
abbrev y_Timer_look : mm_M := (⟨"SystemParts$Timer", "look", "(I)I"⟩, prog_9_method_2_code, 2, (some .int), [])
abbrev y_Law_write : mm_M := (⟨"SystemPartsLaw", "write", "(LSystemParts;II[J)I"⟩, method_6_code, 5, (some .int), [(0, 10, 13, 25), (0, 10, 17, 27)])
abbrev y_SP_write : mm_M := (⟨"SystemParts", "write", "(II)I"⟩, prog_1_method_5_code, 4, (some .int), [])
abbrev y_Cells_refusesWrites : mm_M := (⟨"SystemParts$Cells", "refusesWrites", "()Z"⟩, prog_2_method_4_code, 1, (some .boolean), [])
abbrev y_Part_refusesWrites : mm_M := (⟨"SystemParts$Part", "refusesWrites", "()Z"⟩, prog_5_method_4_code, 1, (some .boolean), [])
abbrev y_Counts_put : mm_M := (⟨"SystemParts$Counts", "put", "(II)V"⟩, prog_3_method_4_code, 3, none, [])
abbrev y_Rows_put : mm_M := (⟨"SystemParts$Rows", "put", "(II)V"⟩, prog_6_method_4_code, 3, none, [])
abbrev y_Rows_begin : mm_M := (⟨"SystemParts$Rows", "begin", "(I)V"⟩, prog_6_method_5_code, 2, none, [])
abbrev y_Serial_put : mm_M := (⟨"SystemParts$Serial", "put", "(II)V"⟩, prog_8_method_8_code, 3, none, [])
abbrev y_Timer_put : mm_M := (⟨"SystemParts$Timer", "put", "(II)V"⟩, prog_9_method_3_code, 3, none, [])
abbrev y_Law_step : mm_M := (⟨"SystemPartsLaw", "step", "(LSystemParts;I[J)I"⟩, method_7_code, 4, (some .int), [(0, 16, 19, 13)])
abbrev y_SP_step : mm_M := (⟨"SystemParts", "step", "(I)Z"⟩, prog_1_method_6_code, 2, (some .boolean), [])
abbrev y_Law_receive : mm_M := (⟨"SystemPartsLaw", "receive", "(LSystemParts;II[J)I"⟩, method_8_code, 5, (some .int), [(0, 10, 13, 13), (0, 10, 17, 15)])
abbrev y_SP_receive : mm_M := (⟨"SystemParts", "receive", "(II)I"⟩, prog_1_method_7_code, 4, (some .int), [])
abbrev y_SP_serialAt : mm_M := (⟨"SystemParts", "serialAt", "(I)LSystemParts$Serial;"⟩, prog_1_method_22_code, 4, (some (.object "SystemParts$Serial")), [])
abbrev y_Serial_isFull : mm_M := (⟨"SystemParts$Serial", "isFull", "()Z"⟩, prog_8_method_2_code, 1, (some .boolean), [])
abbrev y_Serial_accept : mm_M := (⟨"SystemParts$Serial", "accept", "(I)I"⟩, prog_8_method_3_code, 2, (some .int), [])
abbrev y_Law_sent : mm_M := (⟨"SystemPartsLaw", "sent", "(LSystemParts;II[J)I"⟩, method_9_code, 5, (some .int), [(0, 10, 13, 13), (0, 10, 17, 25)])
abbrev y_SP_sent : mm_M := (⟨"SystemParts", "sent", "(II)I"⟩, prog_1_method_8_code, 4, (some .int), [])
abbrev y_Serial_goneKept : mm_M := (⟨"SystemParts$Serial", "goneKept", "()I"⟩, prog_8_method_4_code, 1, (some .int), [])
abbrev y_Serial_goneAt : mm_M := (⟨"SystemParts$Serial", "goneAt", "(I)I"⟩, prog_8_method_5_code, 2, (some .int), [])
abbrev y_Law_line : mm_M := (⟨"SystemPartsLaw", "line", "(LSystemParts;III[J)I"⟩, method_10_code, 6, (some .int), [(0, 12, 15, 25), (0, 12, 19, 13)])
abbrev y_SP_line : mm_M := (⟨"SystemParts", "line", "(III)I"⟩, prog_1_method_9_code, 4, (some .int), [])
abbrev y_Lines_greatest : mm_M := (⟨"SystemParts$Lines", "greatest", "(I)I"⟩, prog_4_method_2_code, 1, (some .int), [])
abbrev y_Lines_change : mm_M := (⟨"SystemParts$Lines", "change", "(III)I"⟩, prog_4_method_3_code, 4, (some .int), [])
abbrev y_Lines_changeWay : mm_M := (⟨"SystemParts$Lines", "changeWay", "(II)I"⟩, prog_4_method_4_code, 4, (some .int), [])
abbrev y_Lines_changeRank : mm_M := (⟨"SystemParts$Lines", "changeRank", "(II)I"⟩, prog_4_method_5_code, 4, (some .int), [])
abbrev y_Lines_changeHidden : mm_M := (⟨"SystemParts$Lines", "changeHidden", "(II)I"⟩, prog_4_method_6_code, 4, (some .int), [])
abbrev y_Law_asks : mm_M := (⟨"SystemPartsLaw", "asks", "(LSystemParts;I[J)I"⟩, method_11_code, 4, (some .int), [(0, 9, 12, 25)])
abbrev y_SP_asks : mm_M := (⟨"SystemParts", "asks", "(I)I"⟩, prog_1_method_10_code, 4, (some .int), [])
abbrev y_Model_init : mm_M := (⟨"SystemPartsModel", "<init>", "()V"⟩, prog_11_method_1_code, 1, none, [])
abbrev y_Model_thrown : mm_M := (⟨"SystemPartsModel", "thrown", "()I"⟩, prog_11_method_2_code, 1, (some .int), [])
abbrev y_Model_part : mm_M := (⟨"SystemPartsModel", "part", "(IIIII)I"⟩, prog_11_method_6_code, 9, (some .int), [])
abbrev y_Model_within : mm_M := (⟨"SystemPartsModel", "within", "(III)Z"⟩, prog_11_method_4_code, 3, (some .boolean), [])
abbrev y_Model_sizeOf : mm_M := (⟨"SystemPartsModel", "sizeOf", "(II)I"⟩, prog_11_method_5_code, 2, (some .int), [])
abbrev y_Model_fail : mm_M := (⟨"SystemPartsModel", "fail", "(I)I"⟩, prog_11_method_3_code, 2, (some .int), [])
abbrev y_Model_load : mm_M := (⟨"SystemPartsModel", "load", "(II)I"⟩, prog_11_method_8_code, 6, (some .int), [])
abbrev y_Model_partAt : mm_M := (⟨"SystemPartsModel", "partAt", "(I)I"⟩, prog_11_method_7_code, 3, (some .int), [])
abbrev y_Model_step : mm_M := (⟨"SystemPartsModel", "step", "(I)Z"⟩, prog_11_method_16_code, 4, (some .boolean), [])
abbrev y_Model_stepOnce : mm_M := (⟨"SystemPartsModel", "stepOnce", "()Z"⟩, prog_11_method_15_code, 2, (some .boolean), [])
abbrev y_Model_timerStep : mm_M := (⟨"SystemPartsModel", "timerStep", "(I)Z"⟩, prog_11_method_12_code, 2, (some .boolean), [])
abbrev y_Model_resetAll : mm_M := (⟨"SystemPartsModel", "resetAll", "(I)V"⟩, prog_11_method_9_code, 4, none, [])
abbrev y_Model_sendStep : mm_M := (⟨"SystemPartsModel", "sendStep", "(I)V"⟩, prog_11_method_13_code, 3, none, [])
abbrev y_Model_rowStep : mm_M := (⟨"SystemPartsModel", "rowStep", "(I)V"⟩, prog_11_method_14_code, 5, none, [])
abbrev y_Model_lookAtLines : mm_M := (⟨"SystemPartsModel", "lookAtLines", "()V"⟩, prog_11_method_11_code, 4, none, [])
abbrev y_Model_asksNow : mm_M := (⟨"SystemPartsModel", "asksNow", "(I)Z"⟩, prog_11_method_10_code, 3, (some .boolean), [])
abbrev y_Model_read : mm_M := (⟨"SystemPartsModel", "read", "(I)I"⟩, prog_11_method_20_code, 5, (some .int), [])
abbrev y_Model_countAll : mm_M := (⟨"SystemPartsModel", "countAll", "(I)V"⟩, prog_11_method_17_code, 3, none, [])
abbrev y_Model_waitFor : mm_M := (⟨"SystemPartsModel", "waitFor", "(I)V"⟩, prog_11_method_18_code, 3, none, [])
abbrev y_Model_takeIn : mm_M := (⟨"SystemPartsModel", "takeIn", "(I)I"⟩, prog_11_method_19_code, 4, (some .int), [])
abbrev y_Model_write : mm_M := (⟨"SystemPartsModel", "write", "(II)I"⟩, prog_11_method_24_code, 5, (some .int), [])
abbrev y_Model_writeTimer : mm_M := (⟨"SystemPartsModel", "writeTimer", "(III)V"⟩, prog_11_method_21_code, 4, none, [])
abbrev y_Model_writeSerial : mm_M := (⟨"SystemPartsModel", "writeSerial", "(III)V"⟩, prog_11_method_22_code, 4, none, [])
abbrev y_Model_writeRows : mm_M := (⟨"SystemPartsModel", "writeRows", "(III)V"⟩, prog_11_method_23_code, 6, none, [])
abbrev y_Model_receive : mm_M := (⟨"SystemPartsModel", "receive", "(II)I"⟩, prog_11_method_26_code, 3, (some .int), [])
abbrev y_Model_isSerial : mm_M := (⟨"SystemPartsModel", "isSerial", "(I)Z"⟩, prog_11_method_25_code, 2, (some .boolean), [])
abbrev y_Model_sent : mm_M := (⟨"SystemPartsModel", "sent", "(II)I"⟩, prog_11_method_27_code, 4, (some .int), [])
abbrev y_Model_line : mm_M := (⟨"SystemPartsModel", "line", "(III)I"⟩, prog_11_method_28_code, 5, (some .int), [])
abbrev y_Model_asks : mm_M := (⟨"SystemPartsModel", "asks", "(I)I"⟩, prog_11_method_30_code, 2, (some .int), [])
abbrev y_Model_isPending : mm_M := (⟨"SystemPartsModel", "isPending", "(I)Z"⟩, prog_11_method_29_code, 2, (some .boolean), [])
abbrev y_Model_chosen : mm_M := (⟨"SystemPartsModel", "chosen", "()I"⟩, prog_11_method_32_code, 1, (some .int), [])
abbrev y_Model_choose : mm_M := (⟨"SystemPartsModel", "choose", "()I"⟩, prog_11_method_31_code, 3, (some .int), [])
abbrev y_Model_take : mm_M := (⟨"SystemPartsModel", "take", "()I"⟩, prog_11_method_33_code, 2, (some .int), [])
abbrev y_Model_reset : mm_M := (⟨"SystemPartsModel", "reset", "()I"⟩, prog_11_method_34_code, 2, (some .int), [])
abbrev y_Model_count : mm_M := (⟨"SystemPartsModel", "count", "(I)I"⟩, prog_11_method_35_code, 5, (some .int), [])
abbrev y_Law_law : mm_M := (⟨"SystemPartsLaw", "law", "([I)Z"⟩, code, 7, (some .boolean), [])
/-- what every call asks of the callee -/
def mm_Ce (y : mm_M) : Prop := y.2.2.1 ≤ 16 ∧ mm_code y ∈ lw_tbl ∧ mm_ok (mm_code y) = true ∧ Cond.initialized y.1.cls ∈ lw_tbl ∧ plainName y.1.cls = true ∧ (y.1.cls ≠ "java/lang/invoke/MethodHandle" ∧ y.1.cls ≠ "java/lang/invoke/VarHandle")
set_option maxRecDepth 100000 in
theorem ce_SP_init : mm_Ce y_SP_init := ⟨by decide, m_23, rfl, m_1, by decide +kernel, by decide +kernel, by decide +kernel⟩
set_option maxRecDepth 100000 in
theorem ce_Lines_init : mm_Ce y_Lines_init := ⟨by decide, m_33, rfl, m_2, by decide +kernel, by decide +kernel, by decide +kernel⟩
set_option maxRecDepth 100000 in
theorem ce_SP_chosen : mm_Ce y_SP_chosen := ⟨by decide, m_75, rfl, m_1, by decide +kernel, by decide +kernel, by decide +kernel⟩
set_option maxRecDepth 100000 in
theorem ce_Lines_best : mm_Ce y_Lines_best := ⟨by decide, m_79, rfl, m_2, by decide +kernel, by decide +kernel, by decide +kernel⟩
set_option maxRecDepth 100000 in
theorem ce_Lines_pending : mm_Ce y_Lines_pending := ⟨by decide, m_83, rfl, m_2, by decide +kernel, by decide +kernel, by decide +kernel⟩
set_option maxRecDepth 100000 in
theorem ce_SP_take : mm_Ce y_SP_take := ⟨by decide, m_87, rfl, m_1, by decide +kernel, by decide +kernel, by decide +kernel⟩
set_option maxRecDepth 100000 in
theorem ce_Lines_forget : mm_Ce y_Lines_forget := ⟨by decide, m_91, rfl, m_2, by decide +kernel, by decide +kernel, by decide +kernel⟩
set_option maxRecDepth 100000 in
theorem ce_SP_reset : mm_Ce y_SP_reset := ⟨by decide, m_95, rfl, m_1, by decide +kernel, by decide +kernel, by decide +kernel⟩
set_option maxRecDepth 100000 in
theorem ce_SP_resetAll : mm_Ce y_SP_resetAll := ⟨by decide, m_99, rfl, m_1, by decide +kernel, by decide +kernel, by decide +kernel⟩
set_option maxRecDepth 100000 in
theorem ce_Counts_beginAnew : mm_Ce y_Counts_beginAnew := ⟨by decide, m_106, rfl, m_15, by decide +kernel, by decide +kernel, by decide +kernel⟩
set_option maxRecDepth 100000 in
theorem ce_Rows_beginAnew : mm_Ce y_Rows_beginAnew := ⟨by decide, m_109, rfl, m_14, by decide +kernel, by decide +kernel, by decide +kernel⟩
set_option maxRecDepth 100000 in
theorem ce_Serial_beginAnew : mm_Ce y_Serial_beginAnew := ⟨by decide, m_112, rfl, m_13, by decide +kernel, by decide +kernel, by decide +kernel⟩
set_option maxRecDepth 100000 in
theorem ce_Timer_beginAnew : mm_Ce y_Timer_beginAnew := ⟨by decide, m_115, rfl, m_12, by decide +kernel, by decide +kernel, by decide +kernel⟩
set_option maxRecDepth 100000 in
theorem ce_Part_beginAnew : mm_Ce y_Part_beginAnew := ⟨by decide, m_116, rfl, m_10, by decide +kernel, by decide +kernel, by decide +kernel⟩
set_option maxRecDepth 100000 in
theorem ce_Lines_allDown : mm_Ce y_Lines_allDown := ⟨by decide, m_120, rfl, m_2, by decide +kernel, by decide +kernel, by decide +kernel⟩
set_option maxRecDepth 100000 in
theorem ce_SP_count : mm_Ce y_SP_count := ⟨by decide, m_124, rfl, m_1, by decide +kernel, by decide +kernel, by decide +kernel⟩
set_option maxRecDepth 100000 in
theorem ce_SP_allWaiting : mm_Ce y_SP_allWaiting := ⟨by decide, m_129, rfl, m_1, by decide +kernel, by decide +kernel, by decide +kernel⟩
set_option maxRecDepth 100000 in
theorem ce_SP_allGone : mm_Ce y_SP_allGone := ⟨by decide, m_134, rfl, m_1, by decide +kernel, by decide +kernel, by decide +kernel⟩
set_option maxRecDepth 100000 in
theorem ce_Law_part : mm_Ce y_Law_part := ⟨by decide, m_137, rfl, m_0, by decide +kernel, by decide +kernel, by decide +kernel⟩
set_option maxRecDepth 100000 in
theorem ce_SP_part : mm_Ce y_SP_part := ⟨by decide, m_143, rfl, m_1, by decide +kernel, by decide +kernel, by decide +kernel⟩
set_option maxRecDepth 100000 in
theorem ce_SP_lengthOf : mm_Ce y_SP_lengthOf := ⟨by decide, m_146, rfl, m_1, by decide +kernel, by decide +kernel, by decide +kernel⟩
set_option maxRecDepth 100000 in
theorem ce_SP_isLine : mm_Ce y_SP_isLine := ⟨by decide, m_149, rfl, m_1, by decide +kernel, by decide +kernel, by decide +kernel⟩
set_option maxRecDepth 100000 in
theorem ce_SP_isFree : mm_Ce y_SP_isFree := ⟨by decide, m_153, rfl, m_1, by decide +kernel, by decide +kernel, by decide +kernel⟩
set_option maxRecDepth 100000 in
theorem ce_SP_isPlace : mm_Ce y_SP_isPlace := ⟨by decide, m_156, rfl, m_1, by decide +kernel, by decide +kernel, by decide +kernel⟩
set_option maxRecDepth 100000 in
theorem ce_Seat_meets : mm_Ce y_Seat_meets := ⟨by decide, m_161, rfl, m_9, by decide +kernel, by decide +kernel, by decide +kernel⟩
set_option maxRecDepth 100000 in
theorem ce_Seat_init : mm_Ce y_Seat_init := ⟨by decide, m_251, rfl, m_9, by decide +kernel, by decide +kernel, by decide +kernel⟩
set_option maxRecDepth 100000 in
theorem ce_SP_newPart : mm_Ce y_SP_newPart := ⟨by decide, m_271, rfl, m_1, by decide +kernel, by decide +kernel, by decide +kernel⟩
set_option maxRecDepth 100000 in
theorem ce_Cells_init : mm_Ce y_Cells_init := ⟨by decide, m_276, rfl, m_11, by decide +kernel, by decide +kernel, by decide +kernel⟩
set_option maxRecDepth 100000 in
theorem ce_Part_init : mm_Ce y_Part_init := ⟨by decide, m_279, rfl, m_10, by decide +kernel, by decide +kernel, by decide +kernel⟩
set_option maxRecDepth 100000 in
theorem ce_Timer_init : mm_Ce y_Timer_init := ⟨by decide, m_298, rfl, m_12, by decide +kernel, by decide +kernel, by decide +kernel⟩
set_option maxRecDepth 100000 in
theorem ce_Serial_init : mm_Ce y_Serial_init := ⟨by decide, m_317, rfl, m_13, by decide +kernel, by decide +kernel, by decide +kernel⟩
set_option maxRecDepth 100000 in
theorem ce_Rows_init : mm_Ce y_Rows_init := ⟨by decide, m_351, rfl, m_14, by decide +kernel, by decide +kernel, by decide +kernel⟩
set_option maxRecDepth 100000 in
theorem ce_Counts_init : mm_Ce y_Counts_init := ⟨by decide, m_380, rfl, m_15, by decide +kernel, by decide +kernel, by decide +kernel⟩
set_option maxRecDepth 100000 in
theorem ce_Law_load : mm_Ce y_Law_load := ⟨by decide, m_389, rfl, m_0, by decide +kernel, by decide +kernel, by decide +kernel⟩
set_option maxRecDepth 100000 in
theorem ce_SP_load : mm_Ce y_SP_load := ⟨by decide, m_393, rfl, m_1, by decide +kernel, by decide +kernel, by decide +kernel⟩
set_option maxRecDepth 100000 in
theorem ce_SP_partWith : mm_Ce y_SP_partWith := ⟨by decide, m_397, rfl, m_1, by decide +kernel, by decide +kernel, by decide +kernel⟩
set_option maxRecDepth 100000 in
theorem ce_Cells_look : mm_Ce y_Cells_look := ⟨by decide, m_401, rfl, m_11, by decide +kernel, by decide +kernel, by decide +kernel⟩
set_option maxRecDepth 100000 in
theorem ce_Cells_put : mm_Ce y_Cells_put := ⟨by decide, m_405, rfl, m_11, by decide +kernel, by decide +kernel, by decide +kernel⟩
set_option maxRecDepth 100000 in
theorem ce_Law_read : mm_Ce y_Law_read := ⟨by decide, m_409, rfl, m_0, by decide +kernel, by decide +kernel, by decide +kernel⟩
set_option maxRecDepth 100000 in
theorem ce_SP_read : mm_Ce y_SP_read := ⟨by decide, m_415, rfl, m_1, by decide +kernel, by decide +kernel, by decide +kernel⟩
set_option maxRecDepth 100000 in
theorem ce_SP_reachPart : mm_Ce y_SP_reachPart := ⟨by decide, m_419, rfl, m_1, by decide +kernel, by decide +kernel, by decide +kernel⟩
set_option maxRecDepth 100000 in
theorem ce_SP_tallyOne : mm_Ce y_SP_tallyOne := ⟨by decide, m_439, rfl, m_1, by decide +kernel, by decide +kernel, by decide +kernel⟩
set_option maxRecDepth 100000 in
theorem ce_Counts_add : mm_Ce y_Counts_add := ⟨by decide, m_443, rfl, m_15, by decide +kernel, by decide +kernel, by decide +kernel⟩
set_option maxRecDepth 100000 in
theorem ce_Seat_accessSteps : mm_Ce y_Seat_accessSteps := ⟨by decide, m_463, rfl, m_9, by decide +kernel, by decide +kernel, by decide +kernel⟩
set_option maxRecDepth 100000 in
theorem ce_SP_runSteps : mm_Ce y_SP_runSteps := ⟨by decide, m_467, rfl, m_1, by decide +kernel, by decide +kernel, by decide +kernel⟩
set_option maxRecDepth 100000 in
theorem ce_SP_oneStep : mm_Ce y_SP_oneStep := ⟨by decide, m_471, rfl, m_1, by decide +kernel, by decide +kernel, by decide +kernel⟩
set_option maxRecDepth 100000 in
theorem ce_Counts_goOn : mm_Ce y_Counts_goOn := ⟨by decide, m_478, rfl, m_15, by decide +kernel, by decide +kernel, by decide +kernel⟩
set_option maxRecDepth 100000 in
theorem ce_Rows_goOn : mm_Ce y_Rows_goOn := ⟨by decide, m_482, rfl, m_14, by decide +kernel, by decide +kernel, by decide +kernel⟩
set_option maxRecDepth 100000 in
theorem ce_Rows_moveNumbers : mm_Ce y_Rows_moveNumbers := ⟨by decide, m_486, rfl, m_14, by decide +kernel, by decide +kernel, by decide +kernel⟩
set_option maxRecDepth 100000 in
theorem ce_Serial_goOn : mm_Ce y_Serial_goOn := ⟨by decide, m_489, rfl, m_13, by decide +kernel, by decide +kernel, by decide +kernel⟩
set_option maxRecDepth 100000 in
theorem ce_Timer_goOn : mm_Ce y_Timer_goOn := ⟨by decide, m_492, rfl, m_12, by decide +kernel, by decide +kernel, by decide +kernel⟩
set_option maxRecDepth 100000 in
theorem ce_Part_goOn : mm_Ce y_Part_goOn := ⟨by decide, m_493, rfl, m_10, by decide +kernel, by decide +kernel, by decide +kernel⟩
set_option maxRecDepth 100000 in
theorem ce_SP_askingLines : mm_Ce y_SP_askingLines := ⟨by decide, m_497, rfl, m_1, by decide +kernel, by decide +kernel, by decide +kernel⟩
set_option maxRecDepth 100000 in
theorem ce_Rows_wantsAttention : mm_Ce y_Rows_wantsAttention := ⟨by decide, m_505, rfl, m_14, by decide +kernel, by decide +kernel, by decide +kernel⟩
set_option maxRecDepth 100000 in
theorem ce_Serial_wantsAttention : mm_Ce y_Serial_wantsAttention := ⟨by decide, m_508, rfl, m_13, by decide +kernel, by decide +kernel, by decide +kernel⟩
set_option maxRecDepth 100000 in
theorem ce_Timer_wantsAttention : mm_Ce y_Timer_wantsAttention := ⟨by decide, m_511, rfl, m_12, by decide +kernel, by decide +kernel, by decide +kernel⟩
set_option maxRecDepth 100000 in
theorem ce_Part_wantsAttention : mm_Ce y_Part_wantsAttention := ⟨by decide, m_512, rfl, m_10, by decide +kernel, by decide +kernel, by decide +kernel⟩
set_option maxRecDepth 100000 in
theorem ce_Lines_follow : mm_Ce y_Lines_follow := ⟨by decide, m_516, rfl, m_2, by decide +kernel, by decide +kernel, by decide +kernel⟩
set_option maxRecDepth 100000 in
theorem ce_Counts_look : mm_Ce y_Counts_look := ⟨by decide, m_523, rfl, m_15, by decide +kernel, by decide +kernel, by decide +kernel⟩
set_option maxRecDepth 100000 in
theorem ce_Rows_look : mm_Ce y_Rows_look := ⟨by decide, m_526, rfl, m_14, by decide +kernel, by decide +kernel, by decide +kernel⟩
set_option maxRecDepth 100000 in
theorem ce_Rows_inWindow : mm_Ce y_Rows_inWindow := ⟨by decide, m_530, rfl, m_14, by decide +kernel, by decide +kernel, by decide +kernel⟩
set_option maxRecDepth 100000 in
theorem ce_Serial_look : mm_Ce y_Serial_look := ⟨by decide, m_533, rfl, m_13, by decide +kernel, by decide +kernel, by decide +kernel⟩
set_option maxRecDepth 100000 in
theorem ce_Serial_nextCome : mm_Ce y_Serial_nextCome := ⟨by decide, m_537, rfl, m_13, by decide +kernel, by decide +kernel, by decide +kernel⟩
set_option maxRecDepth 100000 in
theorem ce_Timer_look : mm_Ce y_Timer_look := ⟨by decide, m_540, rfl, m_12, by decide +kernel, by decide +kernel, by decide +kernel⟩
set_option maxRecDepth 100000 in
theorem ce_Law_write : mm_Ce y_Law_write := ⟨by decide, m_543, rfl, m_0, by decide +kernel, by decide +kernel, by decide +kernel⟩
set_option maxRecDepth 100000 in
theorem ce_SP_write : mm_Ce y_SP_write := ⟨by decide, m_547, rfl, m_1, by decide +kernel, by decide +kernel, by decide +kernel⟩
set_option maxRecDepth 100000 in
theorem ce_Cells_refusesWrites : mm_Ce y_Cells_refusesWrites := ⟨by decide, m_553, rfl, m_11, by decide +kernel, by decide +kernel, by decide +kernel⟩
set_option maxRecDepth 100000 in
theorem ce_Part_refusesWrites : mm_Ce y_Part_refusesWrites := ⟨by decide, m_558, rfl, m_10, by decide +kernel, by decide +kernel, by decide +kernel⟩
set_option maxRecDepth 100000 in
theorem ce_Counts_put : mm_Ce y_Counts_put := ⟨by decide, m_566, rfl, m_15, by decide +kernel, by decide +kernel, by decide +kernel⟩
set_option maxRecDepth 100000 in
theorem ce_Rows_put : mm_Ce y_Rows_put := ⟨by decide, m_569, rfl, m_14, by decide +kernel, by decide +kernel, by decide +kernel⟩
set_option maxRecDepth 100000 in
theorem ce_Rows_begin : mm_Ce y_Rows_begin := ⟨by decide, m_573, rfl, m_14, by decide +kernel, by decide +kernel, by decide +kernel⟩
set_option maxRecDepth 100000 in
theorem ce_Serial_put : mm_Ce y_Serial_put := ⟨by decide, m_576, rfl, m_13, by decide +kernel, by decide +kernel, by decide +kernel⟩
set_option maxRecDepth 100000 in
theorem ce_Timer_put : mm_Ce y_Timer_put := ⟨by decide, m_579, rfl, m_12, by decide +kernel, by decide +kernel, by decide +kernel⟩
set_option maxRecDepth 100000 in
theorem ce_Law_step : mm_Ce y_Law_step := ⟨by decide, m_582, rfl, m_0, by decide +kernel, by decide +kernel, by decide +kernel⟩
set_option maxRecDepth 100000 in
theorem ce_SP_step : mm_Ce y_SP_step := ⟨by decide, m_586, rfl, m_1, by decide +kernel, by decide +kernel, by decide +kernel⟩
set_option maxRecDepth 100000 in
theorem ce_Law_receive : mm_Ce y_Law_receive := ⟨by decide, m_590, rfl, m_0, by decide +kernel, by decide +kernel, by decide +kernel⟩
set_option maxRecDepth 100000 in
theorem ce_SP_receive : mm_Ce y_SP_receive := ⟨by decide, m_594, rfl, m_1, by decide +kernel, by decide +kernel, by decide +kernel⟩
set_option maxRecDepth 100000 in
theorem ce_SP_serialAt : mm_Ce y_SP_serialAt := ⟨by decide, m_598, rfl, m_1, by decide +kernel, by decide +kernel, by decide +kernel⟩
set_option maxRecDepth 100000 in
theorem ce_Serial_isFull : mm_Ce y_Serial_isFull := ⟨by decide, m_603, rfl, m_13, by decide +kernel, by decide +kernel, by decide +kernel⟩
set_option maxRecDepth 100000 in
theorem ce_Serial_accept : mm_Ce y_Serial_accept := ⟨by decide, m_608, rfl, m_13, by decide +kernel, by decide +kernel, by decide +kernel⟩
set_option maxRecDepth 100000 in
theorem ce_Law_sent : mm_Ce y_Law_sent := ⟨by decide, m_611, rfl, m_0, by decide +kernel, by decide +kernel, by decide +kernel⟩
set_option maxRecDepth 100000 in
theorem ce_SP_sent : mm_Ce y_SP_sent := ⟨by decide, m_615, rfl, m_1, by decide +kernel, by decide +kernel, by decide +kernel⟩
set_option maxRecDepth 100000 in
theorem ce_Serial_goneKept : mm_Ce y_Serial_goneKept := ⟨by decide, m_619, rfl, m_13, by decide +kernel, by decide +kernel, by decide +kernel⟩
set_option maxRecDepth 100000 in
theorem ce_Serial_goneAt : mm_Ce y_Serial_goneAt := ⟨by decide, m_627, rfl, m_13, by decide +kernel, by decide +kernel, by decide +kernel⟩
set_option maxRecDepth 100000 in
theorem ce_Law_line : mm_Ce y_Law_line := ⟨by decide, m_631, rfl, m_0, by decide +kernel, by decide +kernel, by decide +kernel⟩
set_option maxRecDepth 100000 in
theorem ce_SP_line : mm_Ce y_SP_line := ⟨by decide, m_635, rfl, m_1, by decide +kernel, by decide +kernel, by decide +kernel⟩
set_option maxRecDepth 100000 in
theorem ce_Lines_greatest : mm_Ce y_Lines_greatest := ⟨by decide, m_639, rfl, m_2, by decide +kernel, by decide +kernel, by decide +kernel⟩
set_option maxRecDepth 100000 in
theorem ce_Lines_change : mm_Ce y_Lines_change := ⟨by decide, m_644, rfl, m_2, by decide +kernel, by decide +kernel, by decide +kernel⟩
set_option maxRecDepth 100000 in
theorem ce_Lines_changeWay : mm_Ce y_Lines_changeWay := ⟨by decide, m_648, rfl, m_2, by decide +kernel, by decide +kernel, by decide +kernel⟩
set_option maxRecDepth 100000 in
theorem ce_Lines_changeRank : mm_Ce y_Lines_changeRank := ⟨by decide, m_653, rfl, m_2, by decide +kernel, by decide +kernel, by decide +kernel⟩
set_option maxRecDepth 100000 in
theorem ce_Lines_changeHidden : mm_Ce y_Lines_changeHidden := ⟨by decide, m_657, rfl, m_2, by decide +kernel, by decide +kernel, by decide +kernel⟩
set_option maxRecDepth 100000 in
theorem ce_Law_asks : mm_Ce y_Law_asks := ⟨by decide, m_660, rfl, m_0, by decide +kernel, by decide +kernel, by decide +kernel⟩
set_option maxRecDepth 100000 in
theorem ce_SP_asks : mm_Ce y_SP_asks := ⟨by decide, m_664, rfl, m_1, by decide +kernel, by decide +kernel, by decide +kernel⟩
set_option maxRecDepth 100000 in
theorem ce_Model_init : mm_Ce y_Model_init := ⟨by decide, m_669, rfl, m_3, by decide +kernel, by decide +kernel, by decide +kernel⟩
set_option maxRecDepth 100000 in
theorem ce_Model_thrown : mm_Ce y_Model_thrown := ⟨by decide, m_751, rfl, m_3, by decide +kernel, by decide +kernel, by decide +kernel⟩
set_option maxRecDepth 100000 in
theorem ce_Model_part : mm_Ce y_Model_part := ⟨by decide, m_755, rfl, m_3, by decide +kernel, by decide +kernel, by decide +kernel⟩
set_option maxRecDepth 100000 in
theorem ce_Model_within : mm_Ce y_Model_within := ⟨by decide, m_758, rfl, m_3, by decide +kernel, by decide +kernel, by decide +kernel⟩
set_option maxRecDepth 100000 in
theorem ce_Model_sizeOf : mm_Ce y_Model_sizeOf := ⟨by decide, m_761, rfl, m_3, by decide +kernel, by decide +kernel, by decide +kernel⟩
set_option maxRecDepth 100000 in
theorem ce_Model_fail : mm_Ce y_Model_fail := ⟨by decide, m_766, rfl, m_3, by decide +kernel, by decide +kernel, by decide +kernel⟩
set_option maxRecDepth 100000 in
theorem ce_Model_load : mm_Ce y_Model_load := ⟨by decide, m_770, rfl, m_3, by decide +kernel, by decide +kernel, by decide +kernel⟩
set_option maxRecDepth 100000 in
theorem ce_Model_partAt : mm_Ce y_Model_partAt := ⟨by decide, m_774, rfl, m_3, by decide +kernel, by decide +kernel, by decide +kernel⟩
set_option maxRecDepth 100000 in
theorem ce_Model_step : mm_Ce y_Model_step := ⟨by decide, m_778, rfl, m_3, by decide +kernel, by decide +kernel, by decide +kernel⟩
set_option maxRecDepth 100000 in
theorem ce_Model_stepOnce : mm_Ce y_Model_stepOnce := ⟨by decide, m_782, rfl, m_3, by decide +kernel, by decide +kernel, by decide +kernel⟩
set_option maxRecDepth 100000 in
theorem ce_Model_timerStep : mm_Ce y_Model_timerStep := ⟨by decide, m_786, rfl, m_3, by decide +kernel, by decide +kernel, by decide +kernel⟩
set_option maxRecDepth 100000 in
theorem ce_Model_resetAll : mm_Ce y_Model_resetAll := ⟨by decide, m_790, rfl, m_3, by decide +kernel, by decide +kernel, by decide +kernel⟩
set_option maxRecDepth 100000 in
theorem ce_Model_sendStep : mm_Ce y_Model_sendStep := ⟨by decide, m_794, rfl, m_3, by decide +kernel, by decide +kernel, by decide +kernel⟩
set_option maxRecDepth 100000 in
theorem ce_Model_rowStep : mm_Ce y_Model_rowStep := ⟨by decide, m_798, rfl, m_3, by decide +kernel, by decide +kernel, by decide +kernel⟩
set_option maxRecDepth 100000 in
theorem ce_Model_lookAtLines : mm_Ce y_Model_lookAtLines := ⟨by decide, m_802, rfl, m_3, by decide +kernel, by decide +kernel, by decide +kernel⟩
set_option maxRecDepth 100000 in
theorem ce_Model_asksNow : mm_Ce y_Model_asksNow := ⟨by decide, m_806, rfl, m_3, by decide +kernel, by decide +kernel, by decide +kernel⟩
set_option maxRecDepth 100000 in
theorem ce_Model_read : mm_Ce y_Model_read := ⟨by decide, m_810, rfl, m_3, by decide +kernel, by decide +kernel, by decide +kernel⟩
set_option maxRecDepth 100000 in
theorem ce_Model_countAll : mm_Ce y_Model_countAll := ⟨by decide, m_815, rfl, m_3, by decide +kernel, by decide +kernel, by decide +kernel⟩
set_option maxRecDepth 100000 in
theorem ce_Model_waitFor : mm_Ce y_Model_waitFor := ⟨by decide, m_819, rfl, m_3, by decide +kernel, by decide +kernel, by decide +kernel⟩
set_option maxRecDepth 100000 in
theorem ce_Model_takeIn : mm_Ce y_Model_takeIn := ⟨by decide, m_823, rfl, m_3, by decide +kernel, by decide +kernel, by decide +kernel⟩
set_option maxRecDepth 100000 in
theorem ce_Model_write : mm_Ce y_Model_write := ⟨by decide, m_827, rfl, m_3, by decide +kernel, by decide +kernel, by decide +kernel⟩
set_option maxRecDepth 100000 in
theorem ce_Model_writeTimer : mm_Ce y_Model_writeTimer := ⟨by decide, m_831, rfl, m_3, by decide +kernel, by decide +kernel, by decide +kernel⟩
set_option maxRecDepth 100000 in
theorem ce_Model_writeSerial : mm_Ce y_Model_writeSerial := ⟨by decide, m_835, rfl, m_3, by decide +kernel, by decide +kernel, by decide +kernel⟩
set_option maxRecDepth 100000 in
theorem ce_Model_writeRows : mm_Ce y_Model_writeRows := ⟨by decide, m_839, rfl, m_3, by decide +kernel, by decide +kernel, by decide +kernel⟩
set_option maxRecDepth 100000 in
theorem ce_Model_receive : mm_Ce y_Model_receive := ⟨by decide, m_843, rfl, m_3, by decide +kernel, by decide +kernel, by decide +kernel⟩
set_option maxRecDepth 100000 in
theorem ce_Model_isSerial : mm_Ce y_Model_isSerial := ⟨by decide, m_847, rfl, m_3, by decide +kernel, by decide +kernel, by decide +kernel⟩
set_option maxRecDepth 100000 in
theorem ce_Model_sent : mm_Ce y_Model_sent := ⟨by decide, m_851, rfl, m_3, by decide +kernel, by decide +kernel, by decide +kernel⟩
set_option maxRecDepth 100000 in
theorem ce_Model_line : mm_Ce y_Model_line := ⟨by decide, m_855, rfl, m_3, by decide +kernel, by decide +kernel, by decide +kernel⟩
set_option maxRecDepth 100000 in
theorem ce_Model_asks : mm_Ce y_Model_asks := ⟨by decide, m_859, rfl, m_3, by decide +kernel, by decide +kernel, by decide +kernel⟩
set_option maxRecDepth 100000 in
theorem ce_Model_isPending : mm_Ce y_Model_isPending := ⟨by decide, m_863, rfl, m_3, by decide +kernel, by decide +kernel, by decide +kernel⟩
set_option maxRecDepth 100000 in
theorem ce_Model_chosen : mm_Ce y_Model_chosen := ⟨by decide, m_867, rfl, m_3, by decide +kernel, by decide +kernel, by decide +kernel⟩
set_option maxRecDepth 100000 in
theorem ce_Model_choose : mm_Ce y_Model_choose := ⟨by decide, m_871, rfl, m_3, by decide +kernel, by decide +kernel, by decide +kernel⟩
set_option maxRecDepth 100000 in
theorem ce_Model_take : mm_Ce y_Model_take := ⟨by decide, m_875, rfl, m_3, by decide +kernel, by decide +kernel, by decide +kernel⟩
set_option maxRecDepth 100000 in
theorem ce_Model_reset : mm_Ce y_Model_reset := ⟨by decide, m_879, rfl, m_3, by decide +kernel, by decide +kernel, by decide +kernel⟩
set_option maxRecDepth 100000 in
theorem ce_Model_count : mm_Ce y_Model_count := ⟨by decide, m_883, rfl, m_3, by decide +kernel, by decide +kernel, by decide +kernel⟩
set_option maxRecDepth 100000 in
theorem cl_SP : mm_Cl 0 "SystemParts" T_SP 6 := by
  refine ⟨rfl, fun w hw => ?_⟩
  obtain ⟨k, hk, rfl⟩ := List.mem_map.mp hw
  have hk := List.mem_range.mp hk
  match k, hk with
  | 0, _ => exact ⟨m_59, rfl⟩
  | 1, _ => exact ⟨m_61, rfl⟩
  | 2, _ => exact ⟨m_63, rfl⟩
  | 3, _ => exact ⟨m_65, rfl⟩
  | 4, _ => exact ⟨m_67, rfl⟩
  | 5, _ => exact ⟨m_69, rfl⟩
set_option maxRecDepth 100000 in
theorem ty_SP : mm_Ty T_SP 6 tt_SP := ⟨by decide +kernel, by decide +kernel⟩
set_option maxRecDepth 100000 in
theorem cl_Lines : mm_Cl 1 "SystemParts$Lines" T_Lines 5 := by
  refine ⟨rfl, fun w hw => ?_⟩
  obtain ⟨k, hk, rfl⟩ := List.mem_map.mp hw
  have hk := List.mem_range.mp hk
  match k, hk with
  | 0, _ => exact ⟨m_41, rfl⟩
  | 1, _ => exact ⟨m_43, rfl⟩
  | 2, _ => exact ⟨m_45, rfl⟩
  | 3, _ => exact ⟨m_47, rfl⟩
  | 4, _ => exact ⟨m_49, rfl⟩
set_option maxRecDepth 100000 in
theorem ty_Lines : mm_Ty T_Lines 5 tt_Lines := ⟨by decide +kernel, by decide +kernel⟩
set_option maxRecDepth 100000 in
theorem cl_Seat : mm_Cl 2 "SystemParts$Seat" T_Seat 4 := by
  refine ⟨rfl, fun w hw => ?_⟩
  obtain ⟨k, hk, rfl⟩ := List.mem_map.mp hw
  have hk := List.mem_range.mp hk
  match k, hk with
  | 0, _ => exact ⟨m_260, rfl⟩
  | 1, _ => exact ⟨m_262, rfl⟩
  | 2, _ => exact ⟨m_264, rfl⟩
  | 3, _ => exact ⟨m_266, rfl⟩
set_option maxRecDepth 100000 in
theorem ty_Seat : mm_Ty T_Seat 4 tt_Seat := ⟨by decide +kernel, by decide +kernel⟩
set_option maxRecDepth 100000 in
theorem cl_Cells : mm_Cl 3 "SystemParts$Cells" T_Cells 3 := by
  refine ⟨rfl, fun w hw => ?_⟩
  obtain ⟨k, hk, rfl⟩ := List.mem_map.mp hw
  have hk := List.mem_range.mp hk
  match k, hk with
  | 0, _ => exact ⟨m_287, rfl⟩
  | 1, _ => exact ⟨m_289, rfl⟩
  | 2, _ => exact ⟨m_291, rfl⟩
set_option maxRecDepth 100000 in
theorem ty_Cells : mm_Ty T_Cells 3 tt_Cells := ⟨by decide +kernel, by decide +kernel⟩
set_option maxRecDepth 100000 in
theorem cl_Timer : mm_Cl 4 "SystemParts$Timer" T_Timer 5 := by
  refine ⟨rfl, fun w hw => ?_⟩
  obtain ⟨k, hk, rfl⟩ := List.mem_map.mp hw
  have hk := List.mem_range.mp hk
  match k, hk with
  | 0, _ => exact ⟨m_304, rfl⟩
  | 1, _ => exact ⟨m_306, rfl⟩
  | 2, _ => exact ⟨m_308, rfl⟩
  | 3, _ => exact ⟨m_310, rfl⟩
  | 4, _ => exact ⟨m_312, rfl⟩
set_option maxRecDepth 100000 in
theorem ty_Timer : mm_Ty T_Timer 5 tt_Timer := ⟨by decide +kernel, by decide +kernel⟩
set_option maxRecDepth 100000 in
theorem cl_Serial : mm_Cl 5 "SystemParts$Serial" T_Serial 9 := by
  refine ⟨rfl, fun w hw => ?_⟩
  obtain ⟨k, hk, rfl⟩ := List.mem_map.mp hw
  have hk := List.mem_range.mp hk
  match k, hk with
  | 0, _ => exact ⟨m_329, rfl⟩
  | 1, _ => exact ⟨m_331, rfl⟩
  | 2, _ => exact ⟨m_333, rfl⟩
  | 3, _ => exact ⟨m_335, rfl⟩
  | 4, _ => exact ⟨m_337, rfl⟩
  | 5, _ => exact ⟨m_339, rfl⟩
  | 6, _ => exact ⟨m_341, rfl⟩
  | 7, _ => exact ⟨m_343, rfl⟩
  | 8, _ => exact ⟨m_345, rfl⟩
set_option maxRecDepth 100000 in
theorem ty_Serial : mm_Ty T_Serial 9 tt_Serial := ⟨by decide +kernel, by decide +kernel⟩
set_option maxRecDepth 100000 in
theorem cl_Rows : mm_Cl 6 "SystemParts$Rows" T_Rows 8 := by
  refine ⟨rfl, fun w hw => ?_⟩
  obtain ⟨k, hk, rfl⟩ := List.mem_map.mp hw
  have hk := List.mem_range.mp hk
  match k, hk with
  | 0, _ => exact ⟨m_360, rfl⟩
  | 1, _ => exact ⟨m_362, rfl⟩
  | 2, _ => exact ⟨m_364, rfl⟩
  | 3, _ => exact ⟨m_366, rfl⟩
  | 4, _ => exact ⟨m_368, rfl⟩
  | 5, _ => exact ⟨m_370, rfl⟩
  | 6, _ => exact ⟨m_372, rfl⟩
  | 7, _ => exact ⟨m_374, rfl⟩
set_option maxRecDepth 100000 in
theorem ty_Rows : mm_Ty T_Rows 8 tt_Rows := ⟨by decide +kernel, by decide +kernel⟩
set_option maxRecDepth 100000 in
theorem cl_Counts : mm_Cl 7 "SystemParts$Counts" T_Counts 2 := by
  refine ⟨rfl, fun w hw => ?_⟩
  obtain ⟨k, hk, rfl⟩ := List.mem_map.mp hw
  have hk := List.mem_range.mp hk
  match k, hk with
  | 0, _ => exact ⟨m_383, rfl⟩
  | 1, _ => exact ⟨m_385, rfl⟩
set_option maxRecDepth 100000 in
theorem ty_Counts : mm_Ty T_Counts 2 tt_Counts := ⟨by decide +kernel, by decide +kernel⟩
set_option maxRecDepth 100000 in
theorem cl_Model : mm_Cl 8 "SystemPartsModel" T_Model 25 := by
  refine ⟨rfl, fun w hw => ?_⟩
  obtain ⟨k, hk, rfl⟩ := List.mem_map.mp hw
  have hk := List.mem_range.mp hk
  match k, hk with
  | 0, _ => exact ⟨m_696, rfl⟩
  | 1, _ => exact ⟨m_698, rfl⟩
  | 2, _ => exact ⟨m_700, rfl⟩
  | 3, _ => exact ⟨m_702, rfl⟩
  | 4, _ => exact ⟨m_704, rfl⟩
  | 5, _ => exact ⟨m_706, rfl⟩
  | 6, _ => exact ⟨m_708, rfl⟩
  | 7, _ => exact ⟨m_710, rfl⟩
  | 8, _ => exact ⟨m_712, rfl⟩
  | 9, _ => exact ⟨m_714, rfl⟩
  | 10, _ => exact ⟨m_716, rfl⟩
  | 11, _ => exact ⟨m_718, rfl⟩
  | 12, _ => exact ⟨m_720, rfl⟩
  | 13, _ => exact ⟨m_722, rfl⟩
  | 14, _ => exact ⟨m_724, rfl⟩
  | 15, _ => exact ⟨m_726, rfl⟩
  | 16, _ => exact ⟨m_728, rfl⟩
  | 17, _ => exact ⟨m_730, rfl⟩
  | 18, _ => exact ⟨m_732, rfl⟩
  | 19, _ => exact ⟨m_734, rfl⟩
  | 20, _ => exact ⟨m_736, rfl⟩
  | 21, _ => exact ⟨m_738, rfl⟩
  | 22, _ => exact ⟨m_740, rfl⟩
  | 23, _ => exact ⟨m_742, rfl⟩
  | 24, _ => exact ⟨m_744, rfl⟩
  | k + 25, h9 => exact absurd h9 (by omega)
set_option maxRecDepth 100000 in
theorem ty_Model : mm_Ty T_Model 25 tt_Model := ⟨by decide +kernel, by decide +kernel⟩
theorem fl_Lines_11_Lines : mm_Fl "SystemParts$Lines" 11 T_Lines 0 := ⟨"SystemParts$Lines", Or.inl m_35, Or.inl rfl⟩
theorem fl_Lines_15_Lines : mm_Fl "SystemParts$Lines" 15 T_Lines 1 := ⟨"SystemParts$Lines", Or.inl m_36, Or.inl rfl⟩
theorem fl_Lines_18_Lines : mm_Fl "SystemParts$Lines" 18 T_Lines 2 := ⟨"SystemParts$Lines", Or.inl m_37, Or.inl rfl⟩
theorem fl_Lines_22_Lines : mm_Fl "SystemParts$Lines" 22 T_Lines 3 := ⟨"SystemParts$Lines", Or.inl m_38, Or.inl rfl⟩
theorem fl_SP_162_Lines : mm_Fl "SystemParts" 162 T_Lines 3 := ⟨"SystemParts$Lines", Or.inr ⟨"SystemParts", m_39⟩, Or.inl rfl⟩
theorem fl_Lines_25_Lines : mm_Fl "SystemParts$Lines" 25 T_Lines 4 := ⟨"SystemParts$Lines", Or.inl m_40, Or.inl rfl⟩
theorem fl_SP_11_SP : mm_Fl "SystemParts" 11 T_SP 0 := ⟨"SystemParts", Or.inl m_53, Or.inl rfl⟩
theorem fl_SP_18_SP : mm_Fl "SystemParts" 18 T_SP 1 := ⟨"SystemParts", Or.inl m_54, Or.inl rfl⟩
theorem fl_SP_22_SP : mm_Fl "SystemParts" 22 T_SP 2 := ⟨"SystemParts", Or.inl m_55, Or.inl rfl⟩
theorem fl_SP_26_SP : mm_Fl "SystemParts" 26 T_SP 3 := ⟨"SystemParts", Or.inl m_56, Or.inl rfl⟩
theorem fl_SP_30_SP : mm_Fl "SystemParts" 30 T_SP 4 := ⟨"SystemParts", Or.inl m_57, Or.inl rfl⟩
theorem fl_SP_33_SP : mm_Fl "SystemParts" 33 T_SP 5 := ⟨"SystemParts", Or.inl m_58, Or.inl rfl⟩
theorem fl_Seat_7_Seat : mm_Fl "SystemParts$Seat" 7 T_Seat 0 := ⟨"SystemParts$Seat", Or.inl m_253, Or.inl rfl⟩
theorem fl_SP_79_Seat : mm_Fl "SystemParts" 79 T_Seat 0 := ⟨"SystemParts$Seat", Or.inl m_254, Or.inl rfl⟩
theorem fl_Cells_7_Seat : mm_Fl "SystemParts$Cells" 7 T_Seat 1 := ⟨"SystemParts$Seat", Or.inl m_255, Or.inl rfl⟩
theorem fl_Seat_13_Seat : mm_Fl "SystemParts$Seat" 13 T_Seat 1 := ⟨"SystemParts$Seat", Or.inl m_256, Or.inl rfl⟩
theorem fl_Seat_16_Seat : mm_Fl "SystemParts$Seat" 16 T_Seat 2 := ⟨"SystemParts$Seat", Or.inl m_257, Or.inl rfl⟩
theorem fl_SP_220_Seat : mm_Fl "SystemParts" 220 T_Seat 2 := ⟨"SystemParts$Seat", Or.inl m_258, Or.inl rfl⟩
theorem fl_Seat_19_Seat : mm_Fl "SystemParts$Seat" 19 T_Seat 3 := ⟨"SystemParts$Seat", Or.inl m_259, Or.inl rfl⟩
theorem fl_Cells_13_Cells : mm_Fl "SystemParts$Cells" 13 T_Cells 0 := ⟨"SystemParts$Cells", Or.inl m_281, Or.inl rfl⟩
theorem fl_Cells_19_Cells : mm_Fl "SystemParts$Cells" 19 T_Cells 1 := ⟨"SystemParts$Cells", Or.inl m_282, Or.inl rfl⟩
theorem fl_Part_7_Cells : mm_Fl "SystemParts$Part" 7 T_Cells 2 := ⟨"SystemParts$Part", Or.inl m_283, Or.inl rfl⟩
theorem fl_Part_7_Timer : mm_Fl "SystemParts$Part" 7 T_Timer 4 := ⟨"SystemParts$Part", Or.inl m_283, Or.inl rfl⟩
theorem fl_Part_7_Serial : mm_Fl "SystemParts$Part" 7 T_Serial 8 := ⟨"SystemParts$Part", Or.inl m_283, Or.inl rfl⟩
theorem fl_Part_7_Rows : mm_Fl "SystemParts$Part" 7 T_Rows 7 := ⟨"SystemParts$Part", Or.inl m_283, Or.inl rfl⟩
theorem fl_Part_7_Counts : mm_Fl "SystemParts$Part" 7 T_Counts 1 := ⟨"SystemParts$Part", Or.inl m_283, Or.inl rfl⟩
theorem fl_SP_75_Cells : mm_Fl "SystemParts" 75 T_Cells 2 := ⟨"SystemParts$Cells", Or.inl m_284, Or.inr m_285⟩
theorem fl_SP_99_Cells : mm_Fl "SystemParts" 99 T_Cells 2 := ⟨"SystemParts$Part", Or.inl m_286, Or.inl rfl⟩
theorem fl_SP_99_Timer : mm_Fl "SystemParts" 99 T_Timer 4 := ⟨"SystemParts$Part", Or.inl m_286, Or.inl rfl⟩
theorem fl_SP_99_Serial : mm_Fl "SystemParts" 99 T_Serial 8 := ⟨"SystemParts$Part", Or.inl m_286, Or.inl rfl⟩
theorem fl_SP_99_Rows : mm_Fl "SystemParts" 99 T_Rows 7 := ⟨"SystemParts$Part", Or.inl m_286, Or.inl rfl⟩
theorem fl_SP_99_Counts : mm_Fl "SystemParts" 99 T_Counts 1 := ⟨"SystemParts$Part", Or.inl m_286, Or.inl rfl⟩
theorem fl_Timer_7_Timer : mm_Fl "SystemParts$Timer" 7 T_Timer 0 := ⟨"SystemParts$Timer", Or.inl m_300, Or.inl rfl⟩
theorem fl_Timer_13_Timer : mm_Fl "SystemParts$Timer" 13 T_Timer 1 := ⟨"SystemParts$Timer", Or.inl m_301, Or.inl rfl⟩
theorem fl_Timer_16_Timer : mm_Fl "SystemParts$Timer" 16 T_Timer 2 := ⟨"SystemParts$Timer", Or.inl m_302, Or.inl rfl⟩
theorem fl_Timer_19_Timer : mm_Fl "SystemParts$Timer" 19 T_Timer 3 := ⟨"SystemParts$Timer", Or.inl m_303, Or.inl rfl⟩
theorem fl_Serial_9_Serial : mm_Fl "SystemParts$Serial" 9 T_Serial 0 := ⟨"SystemParts$Serial", Or.inl m_319, Or.inl rfl⟩
theorem fl_Serial_13_Serial : mm_Fl "SystemParts$Serial" 13 T_Serial 1 := ⟨"SystemParts$Serial", Or.inl m_320, Or.inl rfl⟩
theorem fl_Serial_17_Serial : mm_Fl "SystemParts$Serial" 17 T_Serial 2 := ⟨"SystemParts$Serial", Or.inl m_321, Or.inl rfl⟩
theorem fl_SP_232_Serial : mm_Fl "SystemParts" 232 T_Serial 2 := ⟨"SystemParts$Serial", Or.inr ⟨"SystemParts", m_322⟩, Or.inl rfl⟩
theorem fl_Serial_20_Serial : mm_Fl "SystemParts$Serial" 20 T_Serial 3 := ⟨"SystemParts$Serial", Or.inl m_323, Or.inl rfl⟩
theorem fl_Serial_23_Serial : mm_Fl "SystemParts$Serial" 23 T_Serial 4 := ⟨"SystemParts$Serial", Or.inl m_324, Or.inl rfl⟩
theorem fl_SP_235_Serial : mm_Fl "SystemParts" 235 T_Serial 4 := ⟨"SystemParts$Serial", Or.inr ⟨"SystemParts", m_325⟩, Or.inl rfl⟩
theorem fl_Serial_26_Serial : mm_Fl "SystemParts$Serial" 26 T_Serial 5 := ⟨"SystemParts$Serial", Or.inl m_326, Or.inl rfl⟩
theorem fl_Serial_29_Serial : mm_Fl "SystemParts$Serial" 29 T_Serial 6 := ⟨"SystemParts$Serial", Or.inl m_327, Or.inl rfl⟩
theorem fl_Serial_32_Serial : mm_Fl "SystemParts$Serial" 32 T_Serial 7 := ⟨"SystemParts$Serial", Or.inl m_328, Or.inl rfl⟩
theorem fl_Rows_9_Rows : mm_Fl "SystemParts$Rows" 9 T_Rows 0 := ⟨"SystemParts$Rows", Or.inl m_353, Or.inl rfl⟩
theorem fl_Rows_13_Rows : mm_Fl "SystemParts$Rows" 13 T_Rows 1 := ⟨"SystemParts$Rows", Or.inl m_354, Or.inl rfl⟩
theorem fl_Rows_16_Rows : mm_Fl "SystemParts$Rows" 16 T_Rows 2 := ⟨"SystemParts$Rows", Or.inl m_355, Or.inl rfl⟩
theorem fl_Rows_20_Rows : mm_Fl "SystemParts$Rows" 20 T_Rows 3 := ⟨"SystemParts$Rows", Or.inl m_356, Or.inl rfl⟩
theorem fl_Rows_23_Rows : mm_Fl "SystemParts$Rows" 23 T_Rows 4 := ⟨"SystemParts$Rows", Or.inl m_357, Or.inl rfl⟩
theorem fl_Rows_26_Rows : mm_Fl "SystemParts$Rows" 26 T_Rows 5 := ⟨"SystemParts$Rows", Or.inl m_358, Or.inl rfl⟩
theorem fl_Rows_29_Rows : mm_Fl "SystemParts$Rows" 29 T_Rows 6 := ⟨"SystemParts$Rows", Or.inl m_359, Or.inl rfl⟩
theorem fl_Counts_9_Counts : mm_Fl "SystemParts$Counts" 9 T_Counts 0 := ⟨"SystemParts$Counts", Or.inl m_382, Or.inl rfl⟩
theorem fl_Model_65_Model : mm_Fl "SystemPartsModel" 65 T_Model 0 := ⟨"SystemPartsModel", Or.inl m_671, Or.inl rfl⟩
theorem fl_Model_104_Model : mm_Fl "SystemPartsModel" 104 T_Model 1 := ⟨"SystemPartsModel", Or.inl m_672, Or.inl rfl⟩
theorem fl_Model_78_Model : mm_Fl "SystemPartsModel" 78 T_Model 2 := ⟨"SystemPartsModel", Or.inl m_673, Or.inl rfl⟩
theorem fl_Model_88_Model : mm_Fl "SystemPartsModel" 88 T_Model 3 := ⟨"SystemPartsModel", Or.inl m_674, Or.inl rfl⟩
theorem fl_Model_7_Model : mm_Fl "SystemPartsModel" 7 T_Model 4 := ⟨"SystemPartsModel", Or.inl m_675, Or.inl rfl⟩
theorem fl_Model_13_Model : mm_Fl "SystemPartsModel" 13 T_Model 5 := ⟨"SystemPartsModel", Or.inl m_676, Or.inl rfl⟩
theorem fl_Model_16_Model : mm_Fl "SystemPartsModel" 16 T_Model 6 := ⟨"SystemPartsModel", Or.inl m_677, Or.inl rfl⟩
theorem fl_Model_19_Model : mm_Fl "SystemPartsModel" 19 T_Model 7 := ⟨"SystemPartsModel", Or.inl m_678, Or.inl rfl⟩
theorem fl_Model_22_Model : mm_Fl "SystemPartsModel" 22 T_Model 8 := ⟨"SystemPartsModel", Or.inl m_679, Or.inl rfl⟩
theorem fl_Model_25_Model : mm_Fl "SystemPartsModel" 25 T_Model 9 := ⟨"SystemPartsModel", Or.inl m_680, Or.inl rfl⟩
theorem fl_Model_28_Model : mm_Fl "SystemPartsModel" 28 T_Model 10 := ⟨"SystemPartsModel", Or.inl m_681, Or.inl rfl⟩
theorem fl_Model_31_Model : mm_Fl "SystemPartsModel" 31 T_Model 11 := ⟨"SystemPartsModel", Or.inl m_682, Or.inl rfl⟩
theorem fl_Model_34_Model : mm_Fl "SystemPartsModel" 34 T_Model 12 := ⟨"SystemPartsModel", Or.inl m_683, Or.inl rfl⟩
theorem fl_Model_37_Model : mm_Fl "SystemPartsModel" 37 T_Model 13 := ⟨"SystemPartsModel", Or.inl m_684, Or.inl rfl⟩
theorem fl_Model_40_Model : mm_Fl "SystemPartsModel" 40 T_Model 14 := ⟨"SystemPartsModel", Or.inl m_685, Or.inl rfl⟩
theorem fl_Model_43_Model : mm_Fl "SystemPartsModel" 43 T_Model 15 := ⟨"SystemPartsModel", Or.inl m_686, Or.inl rfl⟩
theorem fl_Model_46_Model : mm_Fl "SystemPartsModel" 46 T_Model 16 := ⟨"SystemPartsModel", Or.inl m_687, Or.inl rfl⟩
theorem fl_Model_49_Model : mm_Fl "SystemPartsModel" 49 T_Model 17 := ⟨"SystemPartsModel", Or.inl m_688, Or.inl rfl⟩
theorem fl_Model_52_Model : mm_Fl "SystemPartsModel" 52 T_Model 18 := ⟨"SystemPartsModel", Or.inl m_689, Or.inl rfl⟩
theorem fl_Model_55_Model : mm_Fl "SystemPartsModel" 55 T_Model 19 := ⟨"SystemPartsModel", Or.inl m_690, Or.inl rfl⟩
theorem fl_Model_59_Model : mm_Fl "SystemPartsModel" 59 T_Model 20 := ⟨"SystemPartsModel", Or.inl m_691, Or.inl rfl⟩
theorem fl_Model_62_Model : mm_Fl "SystemPartsModel" 62 T_Model 21 := ⟨"SystemPartsModel", Or.inl m_692, Or.inl rfl⟩
theorem fl_Model_91_Model : mm_Fl "SystemPartsModel" 91 T_Model 22 := ⟨"SystemPartsModel", Or.inl m_693, Or.inl rfl⟩
theorem fl_Model_94_Model : mm_Fl "SystemPartsModel" 94 T_Model 23 := ⟨"SystemPartsModel", Or.inl m_694, Or.inl rfl⟩
theorem fl_Model_97_Model : mm_Fl "SystemPartsModel" 97 T_Model 24 := ⟨"SystemPartsModel", Or.inl m_695, Or.inl rfl⟩
set_option maxRecDepth 100000 in
theorem nc_Cells_Serial : Cond.not (.castable "SystemParts$Cells" "SystemParts$Serial") ∈ flatC (Jvm.Cond.and given_1 narrow_1) := by decide +kernel
set_option maxRecDepth 100000 in
theorem nc_Timer_Serial : Cond.not (.castable "SystemParts$Timer" "SystemParts$Serial") ∈ flatC (Jvm.Cond.and given_1 narrow_1) := by decide +kernel
set_option maxRecDepth 100000 in
theorem nc_Rows_Serial : Cond.not (.castable "SystemParts$Rows" "SystemParts$Serial") ∈ flatC (Jvm.Cond.and given_1 narrow_1) := by decide +kernel
set_option maxRecDepth 100000 in
theorem nc_Counts_Serial : Cond.not (.castable "SystemParts$Counts" "SystemParts$Serial") ∈ flatC (Jvm.Cond.and given_1 narrow_1) := by decide +kernel
set_option maxRecDepth 100000 in
theorem nc_Timer_Cells : Cond.not (.castable "SystemParts$Timer" "SystemParts$Cells") ∈ flatC (Jvm.Cond.and given_1 narrow_1) := by decide +kernel
set_option maxRecDepth 100000 in
theorem nc_Serial_Cells : Cond.not (.castable "SystemParts$Serial" "SystemParts$Cells") ∈ flatC (Jvm.Cond.and given_1 narrow_1) := by decide +kernel
set_option maxRecDepth 100000 in
theorem nc_Rows_Cells : Cond.not (.castable "SystemParts$Rows" "SystemParts$Cells") ∈ flatC (Jvm.Cond.and given_1 narrow_1) := by decide +kernel
set_option maxRecDepth 100000 in
theorem nc_Counts_Cells : Cond.not (.castable "SystemParts$Counts" "SystemParts$Cells") ∈ flatC (Jvm.Cond.and given_1 narrow_1) := by decide +kernel
set_option maxRecDepth 100000 in
theorem nc_Cells_Counts : Cond.not (.castable "SystemParts$Cells" "SystemParts$Counts") ∈ flatC (Jvm.Cond.and given_1 narrow_1) := by decide +kernel
set_option maxRecDepth 100000 in
theorem nc_Timer_Counts : Cond.not (.castable "SystemParts$Timer" "SystemParts$Counts") ∈ flatC (Jvm.Cond.and given_1 narrow_1) := by decide +kernel
set_option maxRecDepth 100000 in
theorem nc_Serial_Counts : Cond.not (.castable "SystemParts$Serial" "SystemParts$Counts") ∈ flatC (Jvm.Cond.and given_1 narrow_1) := by decide +kernel
set_option maxRecDepth 100000 in
theorem nc_Rows_Counts : Cond.not (.castable "SystemParts$Rows" "SystemParts$Counts") ∈ flatC (Jvm.Cond.and given_1 narrow_1) := by decide +kernel
set_option maxRecDepth 100000 in
theorem nc_IllegalArgumentException_UnsupportedOperationException : Cond.not (.castable "java/lang/IllegalArgumentException" "java/lang/UnsupportedOperationException") ∈ flatC (Jvm.Cond.and given_1 narrow_1) := by decide +kernel
set_option maxRecDepth 100000 in
theorem nc_IllegalArgumentException_IndexOutOfBoundsException : Cond.not (.castable "java/lang/IllegalArgumentException" "java/lang/IndexOutOfBoundsException") ∈ flatC (Jvm.Cond.and given_1 narrow_1) := by decide +kernel
set_option maxRecDepth 100000 in
theorem nc_IllegalArgumentException_IllegalStateException : Cond.not (.castable "java/lang/IllegalArgumentException" "java/lang/IllegalStateException") ∈ flatC (Jvm.Cond.and given_1 narrow_1) := by decide +kernel
set_option maxRecDepth 100000 in
theorem nc_UnsupportedOperationException_IllegalArgumentException : Cond.not (.castable "java/lang/UnsupportedOperationException" "java/lang/IllegalArgumentException") ∈ flatC (Jvm.Cond.and given_1 narrow_1) := by decide +kernel
set_option maxRecDepth 100000 in
theorem nc_UnsupportedOperationException_IndexOutOfBoundsException : Cond.not (.castable "java/lang/UnsupportedOperationException" "java/lang/IndexOutOfBoundsException") ∈ flatC (Jvm.Cond.and given_1 narrow_1) := by decide +kernel
set_option maxRecDepth 100000 in
theorem nc_UnsupportedOperationException_IllegalStateException : Cond.not (.castable "java/lang/UnsupportedOperationException" "java/lang/IllegalStateException") ∈ flatC (Jvm.Cond.and given_1 narrow_1) := by decide +kernel
set_option maxRecDepth 100000 in
theorem nc_IndexOutOfBoundsException_IllegalArgumentException : Cond.not (.castable "java/lang/IndexOutOfBoundsException" "java/lang/IllegalArgumentException") ∈ flatC (Jvm.Cond.and given_1 narrow_1) := by decide +kernel
set_option maxRecDepth 100000 in
theorem nc_IndexOutOfBoundsException_UnsupportedOperationException : Cond.not (.castable "java/lang/IndexOutOfBoundsException" "java/lang/UnsupportedOperationException") ∈ flatC (Jvm.Cond.and given_1 narrow_1) := by decide +kernel
set_option maxRecDepth 100000 in
theorem nc_IndexOutOfBoundsException_IllegalStateException : Cond.not (.castable "java/lang/IndexOutOfBoundsException" "java/lang/IllegalStateException") ∈ flatC (Jvm.Cond.and given_1 narrow_1) := by decide +kernel
set_option maxRecDepth 100000 in
theorem nc_IllegalStateException_IllegalArgumentException : Cond.not (.castable "java/lang/IllegalStateException" "java/lang/IllegalArgumentException") ∈ flatC (Jvm.Cond.and given_1 narrow_1) := by decide +kernel
set_option maxRecDepth 100000 in
theorem nc_IllegalStateException_UnsupportedOperationException : Cond.not (.castable "java/lang/IllegalStateException" "java/lang/UnsupportedOperationException") ∈ flatC (Jvm.Cond.and given_1 narrow_1) := by decide +kernel
set_option maxRecDepth 100000 in
theorem nc_IllegalStateException_IndexOutOfBoundsException : Cond.not (.castable "java/lang/IllegalStateException" "java/lang/IndexOutOfBoundsException") ∈ flatC (Jvm.Cond.and given_1 narrow_1) := by decide +kernel
set_option maxRecDepth 100000 in
theorem xs_ok : mm_Xs := ⟨m_189, m_191, m_4, by decide +kernel, by decide +kernel⟩
set_option maxRecDepth 100000 in
theorem xo_SP_part_54 : mm_Xo "SystemParts" 48 50 52 "no such part can lie there" ["java/lang/RuntimeException", "java/lang/Exception"] (mm_ex 0) := ⟨by decide +kernel, by decide +kernel, m_162, m_7, m_204, by decide +kernel, by decide +kernel⟩
set_option maxRecDepth 100000 in
theorem xo_SP_part_83 : mm_Xo "SystemParts" 55 57 59 "there are twelve parts" ["java/lang/RuntimeException", "java/lang/Exception"] (mm_ex 1) := ⟨by decide +kernel, by decide +kernel, m_231, m_8, m_240, by decide +kernel, by decide +kernel⟩
set_option maxRecDepth 100000 in
theorem xo_SP_load_50 : mm_Xo "SystemParts" 48 90 52 "no STORE or FIXED has the place" ["java/lang/RuntimeException", "java/lang/Exception"] (mm_ex 0) := ⟨by decide +kernel, by decide +kernel, m_162, m_7, m_406, by decide +kernel, by decide +kernel⟩
set_option maxRecDepth 100000 in
theorem xo_SP_write_18 : mm_Xo "SystemParts" 112 114 116 "a FIXED is not written" ["java/lang/RuntimeException", "java/lang/Exception"] (mm_ex 3) := ⟨by decide +kernel, by decide +kernel, m_444, m_17, m_559, by decide +kernel, by decide +kernel⟩
set_option maxRecDepth 100000 in
theorem xo_SP_step_12 : mm_Xo "SystemParts" 48 121 52 "steps are 1 to 1000" ["java/lang/RuntimeException", "java/lang/Exception"] (mm_ex 0) := ⟨by decide +kernel, by decide +kernel, m_162, m_7, m_587, by decide +kernel, by decide +kernel⟩
set_option maxRecDepth 100000 in
theorem xo_SP_receive_13 : mm_Xo "SystemParts" 55 135 59 "32 numbers are there to be read" ["java/lang/RuntimeException", "java/lang/Exception"] (mm_ex 1) := ⟨by decide +kernel, by decide +kernel, m_231, m_8, m_604, by decide +kernel, by decide +kernel⟩
set_option maxRecDepth 100000 in
theorem xo_SP_sent_18 : mm_Xo "SystemParts" 143 145 147 "no such number went out" ["java/lang/RuntimeException", "java/lang/Exception"] (mm_ex 2) := ⟨by decide +kernel, by decide +kernel, m_420, m_16, m_623, by decide +kernel, by decide +kernel⟩
set_option maxRecDepth 100000 in
theorem xo_SP_line_7 : mm_Xo "SystemParts" 143 151 147 "no such line" ["java/lang/RuntimeException", "java/lang/Exception"] (mm_ex 2) := ⟨by decide +kernel, by decide +kernel, m_420, m_16, m_636, by decide +kernel, by decide +kernel⟩
set_option maxRecDepth 100000 in
theorem xo_SP_line_29 : mm_Xo "SystemParts" 48 156 52 "a line has no such setting" ["java/lang/RuntimeException", "java/lang/Exception"] (mm_ex 0) := ⟨by decide +kernel, by decide +kernel, m_162, m_7, m_640, by decide +kernel, by decide +kernel⟩
set_option maxRecDepth 100000 in
theorem xo_SP_asks_7 : mm_Xo "SystemParts" 143 151 147 "no such line" ["java/lang/RuntimeException", "java/lang/Exception"] (mm_ex 2) := ⟨by decide +kernel, by decide +kernel, m_420, m_16, m_636, by decide +kernel, by decide +kernel⟩
set_option maxRecDepth 100000 in
theorem xo_SP_reachPart_7 : mm_Xo "SystemParts" 143 205 147 "no such place" ["java/lang/RuntimeException", "java/lang/Exception"] (mm_ex 2) := ⟨by decide +kernel, by decide +kernel, m_420, m_16, m_429, by decide +kernel, by decide +kernel⟩
set_option maxRecDepth 100000 in
theorem xo_SP_reachPart_32 : mm_Xo "SystemParts" 112 207 116 "no part has the place" ["java/lang/RuntimeException", "java/lang/Exception"] (mm_ex 3) := ⟨by decide +kernel, by decide +kernel, m_444, m_17, m_453, by decide +kernel, by decide +kernel⟩
set_option maxRecDepth 100000 in
theorem xo_SP_serialAt_34 : mm_Xo "SystemParts" 48 209 52 "the part is no SERIAL" ["java/lang/RuntimeException", "java/lang/Exception"] (mm_ex 0) := ⟨by decide +kernel, by decide +kernel, m_162, m_7, m_599, by decide +kernel, by decide +kernel⟩
end
section
theorem d_Cells_init_0 : decode y_Cells_init.2.1 0 = .ok (.aload_n 0, 1) := by decide +kernel
theorem d_Cells_init_1 : decode y_Cells_init.2.1 1 = .ok (.aload_n 1, 1) := by decide +kernel
theorem d_Cells_init_2 : decode y_Cells_init.2.1 2 = .ok (.invokespecial 1, 3) := by decide +kernel
theorem d_Cells_init_5 : decode y_Cells_init.2.1 5 = .ok (.aload_n 0, 1) := by decide +kernel
theorem d_Cells_init_6 : decode y_Cells_init.2.1 6 = .ok (.aload_n 1, 1) := by decide +kernel
theorem d_Cells_init_7 : decode y_Cells_init.2.1 7 = .ok (.getfield 7, 3) := by decide +kernel
theorem d_Cells_init_10 : decode y_Cells_init.2.1 10 = .ok (.ifCond .lt 10, 3) := by decide +kernel
theorem d_Cells_init_13 : decode y_Cells_init.2.1 13 = .ok (.aload_n 1, 1) := by decide +kernel
theorem d_Cells_init_14 : decode y_Cells_init.2.1 14 = .ok (.getfield 7, 3) := by decide +kernel
theorem d_Cells_init_17 : decode y_Cells_init.2.1 17 = .ok (.goto 4, 3) := by decide +kernel
theorem d_Cells_init_20 : decode y_Cells_init.2.1 20 = .ok (.iconst 0, 1) := by decide +kernel
theorem d_Cells_init_21 : decode y_Cells_init.2.1 21 = .ok (.newarray .int, 2) := by decide +kernel
theorem d_Cells_init_23 : decode y_Cells_init.2.1 23 = .ok (.putfield 13, 3) := by decide +kernel
theorem d_Cells_init_26 : decode y_Cells_init.2.1 26 = .ok (.aload_n 0, 1) := by decide +kernel
theorem d_Cells_init_27 : decode y_Cells_init.2.1 27 = .ok (.iload_n 2, 1) := by decide +kernel
theorem d_Cells_init_28 : decode y_Cells_init.2.1 28 = .ok (.putfield 19, 3) := by decide +kernel
theorem d_Cells_init_31 : decode y_Cells_init.2.1 31 = .ok (.return_, 1) := by decide +kernel
theorem d_Cells_look_0 : decode y_Cells_look.2.1 0 = .ok (.iload_n 1, 1) := by decide +kernel
theorem d_Cells_look_1 : decode y_Cells_look.2.1 1 = .ok (.ifCond .lt 21, 3) := by decide +kernel
theorem d_Cells_look_4 : decode y_Cells_look.2.1 4 = .ok (.iload_n 1, 1) := by decide +kernel
theorem d_Cells_look_5 : decode y_Cells_look.2.1 5 = .ok (.aload_n 0, 1) := by decide +kernel
theorem d_Cells_look_6 : decode y_Cells_look.2.1 6 = .ok (.getfield 13, 3) := by decide +kernel
theorem d_Cells_look_9 : decode y_Cells_look.2.1 9 = .ok (.arraylength, 1) := by decide +kernel
theorem d_Cells_look_10 : decode y_Cells_look.2.1 10 = .ok (.if_icmp .ge 12, 3) := by decide +kernel
theorem d_Cells_look_13 : decode y_Cells_look.2.1 13 = .ok (.aload_n 0, 1) := by decide +kernel
theorem d_Cells_look_14 : decode y_Cells_look.2.1 14 = .ok (.getfield 13, 3) := by decide +kernel
theorem d_Cells_look_17 : decode y_Cells_look.2.1 17 = .ok (.iload_n 1, 1) := by decide +kernel
theorem d_Cells_look_18 : decode y_Cells_look.2.1 18 = .ok (.iaload, 1) := by decide +kernel
theorem d_Cells_look_19 : decode y_Cells_look.2.1 19 = .ok (.goto 4, 3) := by decide +kernel
theorem d_Cells_look_22 : decode y_Cells_look.2.1 22 = .ok (.iconst 0, 1) := by decide +kernel
theorem d_Cells_look_23 : decode y_Cells_look.2.1 23 = .ok (.ireturn, 1) := by decide +kernel
theorem d_Cells_put_0 : decode y_Cells_put.2.1 0 = .ok (.iload_n 1, 1) := by decide +kernel
theorem d_Cells_put_1 : decode y_Cells_put.2.1 1 = .ok (.ifCond .lt 19, 3) := by decide +kernel
theorem d_Cells_put_4 : decode y_Cells_put.2.1 4 = .ok (.iload_n 1, 1) := by decide +kernel
theorem d_Cells_put_5 : decode y_Cells_put.2.1 5 = .ok (.aload_n 0, 1) := by decide +kernel
theorem d_Cells_put_6 : decode y_Cells_put.2.1 6 = .ok (.getfield 13, 3) := by decide +kernel
theorem d_Cells_put_9 : decode y_Cells_put.2.1 9 = .ok (.arraylength, 1) := by decide +kernel
theorem d_Cells_put_10 : decode y_Cells_put.2.1 10 = .ok (.if_icmp .ge 10, 3) := by decide +kernel
theorem d_Cells_put_13 : decode y_Cells_put.2.1 13 = .ok (.aload_n 0, 1) := by decide +kernel
theorem d_Cells_put_14 : decode y_Cells_put.2.1 14 = .ok (.getfield 13, 3) := by decide +kernel
theorem d_Cells_put_17 : decode y_Cells_put.2.1 17 = .ok (.iload_n 1, 1) := by decide +kernel
theorem d_Cells_put_18 : decode y_Cells_put.2.1 18 = .ok (.iload_n 2, 1) := by decide +kernel
theorem d_Cells_put_19 : decode y_Cells_put.2.1 19 = .ok (.iastore, 1) := by decide +kernel
theorem d_Cells_put_20 : decode y_Cells_put.2.1 20 = .ok (.return_, 1) := by decide +kernel
theorem d_Cells_refusesWrites_0 : decode y_Cells_refusesWrites.2.1 0 = .ok (.aload_n 0, 1) := by decide +kernel
theorem d_Cells_refusesWrites_1 : decode y_Cells_refusesWrites.2.1 1 = .ok (.getfield 19, 3) := by decide +kernel
theorem d_Cells_refusesWrites_4 : decode y_Cells_refusesWrites.2.1 4 = .ok (.ireturn, 1) := by decide +kernel
theorem d_Lines_init_0 : decode y_Lines_init.2.1 0 = .ok (.aload_n 0, 1) := by decide +kernel
theorem d_Lines_init_1 : decode y_Lines_init.2.1 1 = .ok (.invokespecial 3, 3) := by decide +kernel
theorem d_Lines_init_4 : decode y_Lines_init.2.1 4 = .ok (.aload_n 0, 1) := by decide +kernel
theorem d_Lines_init_5 : decode y_Lines_init.2.1 5 = .ok (.bipush 16, 2) := by decide +kernel
theorem d_Lines_init_7 : decode y_Lines_init.2.1 7 = .ok (.newarray .int, 2) := by decide +kernel
theorem d_Lines_init_9 : decode y_Lines_init.2.1 9 = .ok (.putfield 11, 3) := by decide +kernel
theorem d_Lines_init_12 : decode y_Lines_init.2.1 12 = .ok (.aload_n 0, 1) := by decide +kernel
theorem d_Lines_init_13 : decode y_Lines_init.2.1 13 = .ok (.bipush 16, 2) := by decide +kernel
theorem d_Lines_init_15 : decode y_Lines_init.2.1 15 = .ok (.newarray .int, 2) := by decide +kernel
theorem d_Lines_init_17 : decode y_Lines_init.2.1 17 = .ok (.putfield 15, 3) := by decide +kernel
theorem d_Lines_init_20 : decode y_Lines_init.2.1 20 = .ok (.aload_n 0, 1) := by decide +kernel
theorem d_Lines_init_21 : decode y_Lines_init.2.1 21 = .ok (.iconst 0, 1) := by decide +kernel
theorem d_Lines_init_22 : decode y_Lines_init.2.1 22 = .ok (.putfield 18, 3) := by decide +kernel
theorem d_Lines_init_25 : decode y_Lines_init.2.1 25 = .ok (.aload_n 0, 1) := by decide +kernel
theorem d_Lines_init_26 : decode y_Lines_init.2.1 26 = .ok (.iconst 0, 1) := by decide +kernel
theorem d_Lines_init_27 : decode y_Lines_init.2.1 27 = .ok (.putfield 22, 3) := by decide +kernel
theorem d_Lines_init_30 : decode y_Lines_init.2.1 30 = .ok (.aload_n 0, 1) := by decide +kernel
theorem d_Lines_init_31 : decode y_Lines_init.2.1 31 = .ok (.iconst 0, 1) := by decide +kernel
theorem d_Lines_init_32 : decode y_Lines_init.2.1 32 = .ok (.putfield 25, 3) := by decide +kernel
theorem d_Lines_init_35 : decode y_Lines_init.2.1 35 = .ok (.return_, 1) := by decide +kernel
theorem d_Lines_greatest_0 : decode y_Lines_greatest.2.1 0 = .ok (.iload_n 0, 1) := by decide +kernel
theorem d_Lines_greatest_1 : decode y_Lines_greatest.2.1 1 = .ok (.tableswitch 34 0 2 #[27, 29, 32], 27) := by decide +kernel
theorem d_Lines_greatest_28 : decode y_Lines_greatest.2.1 28 = .ok (.iconst 2, 1) := by decide +kernel
theorem d_Lines_greatest_29 : decode y_Lines_greatest.2.1 29 = .ok (.ireturn, 1) := by decide +kernel
theorem d_Lines_greatest_30 : decode y_Lines_greatest.2.1 30 = .ok (.bipush 15, 2) := by decide +kernel
theorem d_Lines_greatest_32 : decode y_Lines_greatest.2.1 32 = .ok (.ireturn, 1) := by decide +kernel
theorem d_Lines_greatest_33 : decode y_Lines_greatest.2.1 33 = .ok (.iconst 1, 1) := by decide +kernel
theorem d_Lines_greatest_34 : decode y_Lines_greatest.2.1 34 = .ok (.ireturn, 1) := by decide +kernel
theorem d_Lines_greatest_35 : decode y_Lines_greatest.2.1 35 = .ok (.iconst (-1), 1) := by decide +kernel
theorem d_Lines_greatest_36 : decode y_Lines_greatest.2.1 36 = .ok (.ireturn, 1) := by decide +kernel
theorem d_Lines_change_0 : decode y_Lines_change.2.1 0 = .ok (.iload_n 1, 1) := by decide +kernel
theorem d_Lines_change_1 : decode y_Lines_change.2.1 1 = .ok (.ifCond .lt 9, 3) := by decide +kernel
theorem d_Lines_change_4 : decode y_Lines_change.2.1 4 = .ok (.iload_n 1, 1) := by decide +kernel
theorem d_Lines_change_5 : decode y_Lines_change.2.1 5 = .ok (.bipush 16, 2) := by decide +kernel
theorem d_Lines_change_7 : decode y_Lines_change.2.1 7 = .ok (.if_icmp .lt 5, 3) := by decide +kernel
theorem d_Lines_change_10 : decode y_Lines_change.2.1 10 = .ok (.iconst (-1), 1) := by decide +kernel
theorem d_Lines_change_11 : decode y_Lines_change.2.1 11 = .ok (.ireturn, 1) := by decide +kernel
theorem d_Lines_change_12 : decode y_Lines_change.2.1 12 = .ok (.iload_n 2, 1) := by decide +kernel
theorem d_Lines_change_13 : decode y_Lines_change.2.1 13 = .ok (.lookupswitch 41 #[(0, 27), (1, 34)], 27) := by decide +kernel
theorem d_Lines_change_40 : decode y_Lines_change.2.1 40 = .ok (.aload_n 0, 1) := by decide +kernel
theorem d_Lines_change_41 : decode y_Lines_change.2.1 41 = .ok (.iload_n 1, 1) := by decide +kernel
theorem d_Lines_change_42 : decode y_Lines_change.2.1 42 = .ok (.iload_n 3, 1) := by decide +kernel
theorem d_Lines_change_43 : decode y_Lines_change.2.1 43 = .ok (.invokevirtual 28, 3) := by decide +kernel
theorem d_Lines_change_46 : decode y_Lines_change.2.1 46 = .ok (.ireturn, 1) := by decide +kernel
theorem d_Lines_change_47 : decode y_Lines_change.2.1 47 = .ok (.aload_n 0, 1) := by decide +kernel
theorem d_Lines_change_48 : decode y_Lines_change.2.1 48 = .ok (.iload_n 1, 1) := by decide +kernel
theorem d_Lines_change_49 : decode y_Lines_change.2.1 49 = .ok (.iload_n 3, 1) := by decide +kernel
theorem d_Lines_change_50 : decode y_Lines_change.2.1 50 = .ok (.invokevirtual 32, 3) := by decide +kernel
theorem d_Lines_change_53 : decode y_Lines_change.2.1 53 = .ok (.ireturn, 1) := by decide +kernel
theorem d_Lines_change_54 : decode y_Lines_change.2.1 54 = .ok (.aload_n 0, 1) := by decide +kernel
theorem d_Lines_change_55 : decode y_Lines_change.2.1 55 = .ok (.iload_n 1, 1) := by decide +kernel
theorem d_Lines_change_56 : decode y_Lines_change.2.1 56 = .ok (.iload_n 3, 1) := by decide +kernel
theorem d_Lines_change_57 : decode y_Lines_change.2.1 57 = .ok (.invokevirtual 35, 3) := by decide +kernel
theorem d_Lines_change_60 : decode y_Lines_change.2.1 60 = .ok (.ireturn, 1) := by decide +kernel
theorem d_Lines_changeWay_0 : decode y_Lines_changeWay.2.1 0 = .ok (.aload_n 0, 1) := by decide +kernel
theorem d_Lines_changeWay_1 : decode y_Lines_changeWay.2.1 1 = .ok (.getfield 11, 3) := by decide +kernel
theorem d_Lines_changeWay_4 : decode y_Lines_changeWay.2.1 4 = .ok (.iload_n 1, 1) := by decide +kernel
theorem d_Lines_changeWay_5 : decode y_Lines_changeWay.2.1 5 = .ok (.iaload, 1) := by decide +kernel
theorem d_Lines_changeWay_6 : decode y_Lines_changeWay.2.1 6 = .ok (.istore_n 3, 1) := by decide +kernel
theorem d_Lines_changeWay_7 : decode y_Lines_changeWay.2.1 7 = .ok (.iload_n 2, 1) := by decide +kernel
theorem d_Lines_changeWay_8 : decode y_Lines_changeWay.2.1 8 = .ok (.iload_n 3, 1) := by decide +kernel
theorem d_Lines_changeWay_9 : decode y_Lines_changeWay.2.1 9 = .ok (.if_icmp .eq 15, 3) := by decide +kernel
theorem d_Lines_changeWay_12 : decode y_Lines_changeWay.2.1 12 = .ok (.aload_n 0, 1) := by decide +kernel
theorem d_Lines_changeWay_13 : decode y_Lines_changeWay.2.1 13 = .ok (.getfield 11, 3) := by decide +kernel
theorem d_Lines_changeWay_16 : decode y_Lines_changeWay.2.1 16 = .ok (.iload_n 1, 1) := by decide +kernel
theorem d_Lines_changeWay_17 : decode y_Lines_changeWay.2.1 17 = .ok (.iload_n 2, 1) := by decide +kernel
theorem d_Lines_changeWay_18 : decode y_Lines_changeWay.2.1 18 = .ok (.iastore, 1) := by decide +kernel
theorem d_Lines_changeWay_19 : decode y_Lines_changeWay.2.1 19 = .ok (.aload_n 0, 1) := by decide +kernel
theorem d_Lines_changeWay_20 : decode y_Lines_changeWay.2.1 20 = .ok (.iload_n 1, 1) := by decide +kernel
theorem d_Lines_changeWay_21 : decode y_Lines_changeWay.2.1 21 = .ok (.invokevirtual 38, 3) := by decide +kernel
theorem d_Lines_changeWay_24 : decode y_Lines_changeWay.2.1 24 = .ok (.iload_n 3, 1) := by decide +kernel
theorem d_Lines_changeWay_25 : decode y_Lines_changeWay.2.1 25 = .ok (.ireturn, 1) := by decide +kernel
theorem d_Lines_changeRank_0 : decode y_Lines_changeRank.2.1 0 = .ok (.aload_n 0, 1) := by decide +kernel
theorem d_Lines_changeRank_1 : decode y_Lines_changeRank.2.1 1 = .ok (.getfield 15, 3) := by decide +kernel
theorem d_Lines_changeRank_4 : decode y_Lines_changeRank.2.1 4 = .ok (.iload_n 1, 1) := by decide +kernel
theorem d_Lines_changeRank_5 : decode y_Lines_changeRank.2.1 5 = .ok (.iaload, 1) := by decide +kernel
theorem d_Lines_changeRank_6 : decode y_Lines_changeRank.2.1 6 = .ok (.istore_n 3, 1) := by decide +kernel
theorem d_Lines_changeRank_7 : decode y_Lines_changeRank.2.1 7 = .ok (.aload_n 0, 1) := by decide +kernel
theorem d_Lines_changeRank_8 : decode y_Lines_changeRank.2.1 8 = .ok (.getfield 15, 3) := by decide +kernel
theorem d_Lines_changeRank_11 : decode y_Lines_changeRank.2.1 11 = .ok (.iload_n 1, 1) := by decide +kernel
theorem d_Lines_changeRank_12 : decode y_Lines_changeRank.2.1 12 = .ok (.iload_n 2, 1) := by decide +kernel
theorem d_Lines_changeRank_13 : decode y_Lines_changeRank.2.1 13 = .ok (.iastore, 1) := by decide +kernel
theorem d_Lines_changeRank_14 : decode y_Lines_changeRank.2.1 14 = .ok (.iload_n 3, 1) := by decide +kernel
theorem d_Lines_changeRank_15 : decode y_Lines_changeRank.2.1 15 = .ok (.ireturn, 1) := by decide +kernel
theorem d_Lines_changeHidden_0 : decode y_Lines_changeHidden.2.1 0 = .ok (.aload_n 0, 1) := by decide +kernel
theorem d_Lines_changeHidden_1 : decode y_Lines_changeHidden.2.1 1 = .ok (.getfield 18, 3) := by decide +kernel
theorem d_Lines_changeHidden_4 : decode y_Lines_changeHidden.2.1 4 = .ok (.iload_n 1, 1) := by decide +kernel
theorem d_Lines_changeHidden_5 : decode y_Lines_changeHidden.2.1 5 = .ok (.ishr, 1) := by decide +kernel
theorem d_Lines_changeHidden_6 : decode y_Lines_changeHidden.2.1 6 = .ok (.iconst 1, 1) := by decide +kernel
theorem d_Lines_changeHidden_7 : decode y_Lines_changeHidden.2.1 7 = .ok (.iand, 1) := by decide +kernel
theorem d_Lines_changeHidden_8 : decode y_Lines_changeHidden.2.1 8 = .ok (.istore_n 3, 1) := by decide +kernel
theorem d_Lines_changeHidden_9 : decode y_Lines_changeHidden.2.1 9 = .ok (.aload_n 0, 1) := by decide +kernel
theorem d_Lines_changeHidden_10 : decode y_Lines_changeHidden.2.1 10 = .ok (.aload_n 0, 1) := by decide +kernel
theorem d_Lines_changeHidden_11 : decode y_Lines_changeHidden.2.1 11 = .ok (.getfield 18, 3) := by decide +kernel
theorem d_Lines_changeHidden_14 : decode y_Lines_changeHidden.2.1 14 = .ok (.iconst 1, 1) := by decide +kernel
theorem d_Lines_changeHidden_15 : decode y_Lines_changeHidden.2.1 15 = .ok (.iload_n 1, 1) := by decide +kernel
theorem d_Lines_changeHidden_16 : decode y_Lines_changeHidden.2.1 16 = .ok (.ishl, 1) := by decide +kernel
theorem d_Lines_changeHidden_17 : decode y_Lines_changeHidden.2.1 17 = .ok (.iconst (-1), 1) := by decide +kernel
theorem d_Lines_changeHidden_18 : decode y_Lines_changeHidden.2.1 18 = .ok (.ixor, 1) := by decide +kernel
theorem d_Lines_changeHidden_19 : decode y_Lines_changeHidden.2.1 19 = .ok (.iand, 1) := by decide +kernel
theorem d_Lines_changeHidden_20 : decode y_Lines_changeHidden.2.1 20 = .ok (.iload_n 2, 1) := by decide +kernel
theorem d_Lines_changeHidden_21 : decode y_Lines_changeHidden.2.1 21 = .ok (.iload_n 1, 1) := by decide +kernel
theorem d_Lines_changeHidden_22 : decode y_Lines_changeHidden.2.1 22 = .ok (.ishl, 1) := by decide +kernel
theorem d_Lines_changeHidden_23 : decode y_Lines_changeHidden.2.1 23 = .ok (.ior, 1) := by decide +kernel
theorem d_Lines_changeHidden_24 : decode y_Lines_changeHidden.2.1 24 = .ok (.putfield 18, 3) := by decide +kernel
theorem d_Lines_changeHidden_27 : decode y_Lines_changeHidden.2.1 27 = .ok (.iload_n 3, 1) := by decide +kernel
theorem d_Lines_changeHidden_28 : decode y_Lines_changeHidden.2.1 28 = .ok (.ireturn, 1) := by decide +kernel
theorem d_Lines_follow_0 : decode y_Lines_follow.2.1 0 = .ok (.iload_n 1, 1) := by decide +kernel
theorem d_Lines_follow_1 : decode y_Lines_follow.2.1 1 = .ok (.aload_n 0, 1) := by decide +kernel
theorem d_Lines_follow_2 : decode y_Lines_follow.2.1 2 = .ok (.getfield 22, 3) := by decide +kernel
theorem d_Lines_follow_5 : decode y_Lines_follow.2.1 5 = .ok (.ixor, 1) := by decide +kernel
theorem d_Lines_follow_6 : decode y_Lines_follow.2.1 6 = .ok (.istore_n 2, 1) := by decide +kernel
theorem d_Lines_follow_7 : decode y_Lines_follow.2.1 7 = .ok (.iload_n 2, 1) := by decide +kernel
theorem d_Lines_follow_8 : decode y_Lines_follow.2.1 8 = .ok (.ifCond .ne 4, 3) := by decide +kernel
theorem d_Lines_follow_11 : decode y_Lines_follow.2.1 11 = .ok (.return_, 1) := by decide +kernel
theorem d_Lines_follow_12 : decode y_Lines_follow.2.1 12 = .ok (.aload_n 0, 1) := by decide +kernel
theorem d_Lines_follow_13 : decode y_Lines_follow.2.1 13 = .ok (.iload_n 1, 1) := by decide +kernel
theorem d_Lines_follow_14 : decode y_Lines_follow.2.1 14 = .ok (.putfield 22, 3) := by decide +kernel
theorem d_Lines_follow_17 : decode y_Lines_follow.2.1 17 = .ok (.iload_n 2, 1) := by decide +kernel
theorem d_Lines_follow_18 : decode y_Lines_follow.2.1 18 = .ok (.iload_n 1, 1) := by decide +kernel
theorem d_Lines_follow_19 : decode y_Lines_follow.2.1 19 = .ok (.iand, 1) := by decide +kernel
theorem d_Lines_follow_20 : decode y_Lines_follow.2.1 20 = .ok (.istore_n 3, 1) := by decide +kernel
theorem d_Lines_follow_21 : decode y_Lines_follow.2.1 21 = .ok (.iconst 0, 1) := by decide +kernel
theorem d_Lines_follow_22 : decode y_Lines_follow.2.1 22 = .ok (.istore 4, 2) := by decide +kernel
theorem d_Lines_follow_24 : decode y_Lines_follow.2.1 24 = .ok (.iload 4, 2) := by decide +kernel
theorem d_Lines_follow_26 : decode y_Lines_follow.2.1 26 = .ok (.aload_n 0, 1) := by decide +kernel
theorem d_Lines_follow_27 : decode y_Lines_follow.2.1 27 = .ok (.getfield 11, 3) := by decide +kernel
theorem d_Lines_follow_30 : decode y_Lines_follow.2.1 30 = .ok (.arraylength, 1) := by decide +kernel
theorem d_Lines_follow_31 : decode y_Lines_follow.2.1 31 = .ok (.if_icmp .ge 49, 3) := by decide +kernel
theorem d_Lines_follow_34 : decode y_Lines_follow.2.1 34 = .ok (.aload_n 0, 1) := by decide +kernel
theorem d_Lines_follow_35 : decode y_Lines_follow.2.1 35 = .ok (.getfield 11, 3) := by decide +kernel
theorem d_Lines_follow_38 : decode y_Lines_follow.2.1 38 = .ok (.iload 4, 2) := by decide +kernel
theorem d_Lines_follow_40 : decode y_Lines_follow.2.1 40 = .ok (.iaload, 1) := by decide +kernel
theorem d_Lines_follow_41 : decode y_Lines_follow.2.1 41 = .ok (.ifCond .eq 33, 3) := by decide +kernel
theorem d_Lines_follow_44 : decode y_Lines_follow.2.1 44 = .ok (.aload_n 0, 1) := by decide +kernel
theorem d_Lines_follow_45 : decode y_Lines_follow.2.1 45 = .ok (.dup, 1) := by decide +kernel
theorem d_Lines_follow_46 : decode y_Lines_follow.2.1 46 = .ok (.getfield 25, 3) := by decide +kernel
theorem d_Lines_follow_49 : decode y_Lines_follow.2.1 49 = .ok (.aload_n 0, 1) := by decide +kernel
theorem d_Lines_follow_50 : decode y_Lines_follow.2.1 50 = .ok (.getfield 11, 3) := by decide +kernel
theorem d_Lines_follow_53 : decode y_Lines_follow.2.1 53 = .ok (.iload 4, 2) := by decide +kernel
theorem d_Lines_follow_55 : decode y_Lines_follow.2.1 55 = .ok (.iaload, 1) := by decide +kernel
theorem d_Lines_follow_56 : decode y_Lines_follow.2.1 56 = .ok (.iconst 2, 1) := by decide +kernel
theorem d_Lines_follow_57 : decode y_Lines_follow.2.1 57 = .ok (.if_icmp .ne 7, 3) := by decide +kernel
theorem d_Lines_follow_60 : decode y_Lines_follow.2.1 60 = .ok (.iload_n 2, 1) := by decide +kernel
theorem d_Lines_follow_61 : decode y_Lines_follow.2.1 61 = .ok (.goto 4, 3) := by decide +kernel
theorem d_Lines_follow_64 : decode y_Lines_follow.2.1 64 = .ok (.iload_n 3, 1) := by decide +kernel
theorem d_Lines_follow_65 : decode y_Lines_follow.2.1 65 = .ok (.iconst 1, 1) := by decide +kernel
theorem d_Lines_follow_66 : decode y_Lines_follow.2.1 66 = .ok (.iload 4, 2) := by decide +kernel
theorem d_Lines_follow_68 : decode y_Lines_follow.2.1 68 = .ok (.ishl, 1) := by decide +kernel
theorem d_Lines_follow_69 : decode y_Lines_follow.2.1 69 = .ok (.iand, 1) := by decide +kernel
theorem d_Lines_follow_70 : decode y_Lines_follow.2.1 70 = .ok (.ior, 1) := by decide +kernel
theorem d_Lines_follow_71 : decode y_Lines_follow.2.1 71 = .ok (.putfield 25, 3) := by decide +kernel
theorem d_Lines_follow_74 : decode y_Lines_follow.2.1 74 = .ok (.iinc 4 1, 3) := by decide +kernel
theorem d_Lines_follow_77 : decode y_Lines_follow.2.1 77 = .ok (.goto (-53), 3) := by decide +kernel
theorem d_Lines_follow_80 : decode y_Lines_follow.2.1 80 = .ok (.return_, 1) := by decide +kernel
theorem d_Lines_pending_0 : decode y_Lines_pending.2.1 0 = .ok (.aload_n 0, 1) := by decide +kernel
theorem d_Lines_pending_1 : decode y_Lines_pending.2.1 1 = .ok (.getfield 25, 3) := by decide +kernel
theorem d_Lines_pending_4 : decode y_Lines_pending.2.1 4 = .ok (.istore_n 1, 1) := by decide +kernel
theorem d_Lines_pending_5 : decode y_Lines_pending.2.1 5 = .ok (.iconst 0, 1) := by decide +kernel
theorem d_Lines_pending_6 : decode y_Lines_pending.2.1 6 = .ok (.istore_n 2, 1) := by decide +kernel
theorem d_Lines_pending_7 : decode y_Lines_pending.2.1 7 = .ok (.iload_n 2, 1) := by decide +kernel
theorem d_Lines_pending_8 : decode y_Lines_pending.2.1 8 = .ok (.aload_n 0, 1) := by decide +kernel
theorem d_Lines_pending_9 : decode y_Lines_pending.2.1 9 = .ok (.getfield 11, 3) := by decide +kernel
theorem d_Lines_pending_12 : decode y_Lines_pending.2.1 12 = .ok (.arraylength, 1) := by decide +kernel
theorem d_Lines_pending_13 : decode y_Lines_pending.2.1 13 = .ok (.if_icmp .ge 29, 3) := by decide +kernel
theorem d_Lines_pending_16 : decode y_Lines_pending.2.1 16 = .ok (.aload_n 0, 1) := by decide +kernel
theorem d_Lines_pending_17 : decode y_Lines_pending.2.1 17 = .ok (.getfield 11, 3) := by decide +kernel
theorem d_Lines_pending_20 : decode y_Lines_pending.2.1 20 = .ok (.iload_n 2, 1) := by decide +kernel
theorem d_Lines_pending_21 : decode y_Lines_pending.2.1 21 = .ok (.iaload, 1) := by decide +kernel
theorem d_Lines_pending_22 : decode y_Lines_pending.2.1 22 = .ok (.ifCond .ne 14, 3) := by decide +kernel
theorem d_Lines_pending_25 : decode y_Lines_pending.2.1 25 = .ok (.iload_n 1, 1) := by decide +kernel
theorem d_Lines_pending_26 : decode y_Lines_pending.2.1 26 = .ok (.aload_n 0, 1) := by decide +kernel
theorem d_Lines_pending_27 : decode y_Lines_pending.2.1 27 = .ok (.getfield 22, 3) := by decide +kernel
theorem d_Lines_pending_30 : decode y_Lines_pending.2.1 30 = .ok (.iconst 1, 1) := by decide +kernel
theorem d_Lines_pending_31 : decode y_Lines_pending.2.1 31 = .ok (.iload_n 2, 1) := by decide +kernel
theorem d_Lines_pending_32 : decode y_Lines_pending.2.1 32 = .ok (.ishl, 1) := by decide +kernel
theorem d_Lines_pending_33 : decode y_Lines_pending.2.1 33 = .ok (.iand, 1) := by decide +kernel
theorem d_Lines_pending_34 : decode y_Lines_pending.2.1 34 = .ok (.ior, 1) := by decide +kernel
theorem d_Lines_pending_35 : decode y_Lines_pending.2.1 35 = .ok (.istore_n 1, 1) := by decide +kernel
theorem d_Lines_pending_36 : decode y_Lines_pending.2.1 36 = .ok (.iinc 2 1, 3) := by decide +kernel
theorem d_Lines_pending_39 : decode y_Lines_pending.2.1 39 = .ok (.goto (-32), 3) := by decide +kernel
theorem d_Lines_pending_42 : decode y_Lines_pending.2.1 42 = .ok (.iload_n 1, 1) := by decide +kernel
theorem d_Lines_pending_43 : decode y_Lines_pending.2.1 43 = .ok (.ireturn, 1) := by decide +kernel
theorem d_Lines_best_0 : decode y_Lines_best.2.1 0 = .ok (.aload_n 0, 1) := by decide +kernel
theorem d_Lines_best_1 : decode y_Lines_best.2.1 1 = .ok (.invokevirtual 42, 3) := by decide +kernel
theorem d_Lines_best_4 : decode y_Lines_best.2.1 4 = .ok (.aload_n 0, 1) := by decide +kernel
theorem d_Lines_best_5 : decode y_Lines_best.2.1 5 = .ok (.getfield 18, 3) := by decide +kernel
theorem d_Lines_best_8 : decode y_Lines_best.2.1 8 = .ok (.iconst (-1), 1) := by decide +kernel
theorem d_Lines_best_9 : decode y_Lines_best.2.1 9 = .ok (.ixor, 1) := by decide +kernel
theorem d_Lines_best_10 : decode y_Lines_best.2.1 10 = .ok (.iand, 1) := by decide +kernel
theorem d_Lines_best_11 : decode y_Lines_best.2.1 11 = .ok (.istore_n 1, 1) := by decide +kernel
theorem d_Lines_best_12 : decode y_Lines_best.2.1 12 = .ok (.iconst (-1), 1) := by decide +kernel
theorem d_Lines_best_13 : decode y_Lines_best.2.1 13 = .ok (.istore_n 2, 1) := by decide +kernel
theorem d_Lines_best_14 : decode y_Lines_best.2.1 14 = .ok (.iconst (-1), 1) := by decide +kernel
theorem d_Lines_best_15 : decode y_Lines_best.2.1 15 = .ok (.istore_n 3, 1) := by decide +kernel
theorem d_Lines_best_16 : decode y_Lines_best.2.1 16 = .ok (.iconst 0, 1) := by decide +kernel
theorem d_Lines_best_17 : decode y_Lines_best.2.1 17 = .ok (.istore 4, 2) := by decide +kernel
theorem d_Lines_best_19 : decode y_Lines_best.2.1 19 = .ok (.iload 4, 2) := by decide +kernel
theorem d_Lines_best_21 : decode y_Lines_best.2.1 21 = .ok (.aload_n 0, 1) := by decide +kernel
theorem d_Lines_best_22 : decode y_Lines_best.2.1 22 = .ok (.getfield 15, 3) := by decide +kernel
theorem d_Lines_best_25 : decode y_Lines_best.2.1 25 = .ok (.arraylength, 1) := by decide +kernel
theorem d_Lines_best_26 : decode y_Lines_best.2.1 26 = .ok (.if_icmp .ge 40, 3) := by decide +kernel
theorem d_Lines_best_29 : decode y_Lines_best.2.1 29 = .ok (.iload_n 1, 1) := by decide +kernel
theorem d_Lines_best_30 : decode y_Lines_best.2.1 30 = .ok (.iload 4, 2) := by decide +kernel
theorem d_Lines_best_32 : decode y_Lines_best.2.1 32 = .ok (.ishr, 1) := by decide +kernel
theorem d_Lines_best_33 : decode y_Lines_best.2.1 33 = .ok (.iconst 1, 1) := by decide +kernel
theorem d_Lines_best_34 : decode y_Lines_best.2.1 34 = .ok (.iand, 1) := by decide +kernel
theorem d_Lines_best_35 : decode y_Lines_best.2.1 35 = .ok (.ifCond .eq 25, 3) := by decide +kernel
theorem d_Lines_best_38 : decode y_Lines_best.2.1 38 = .ok (.aload_n 0, 1) := by decide +kernel
theorem d_Lines_best_39 : decode y_Lines_best.2.1 39 = .ok (.getfield 15, 3) := by decide +kernel
theorem d_Lines_best_42 : decode y_Lines_best.2.1 42 = .ok (.iload 4, 2) := by decide +kernel
theorem d_Lines_best_44 : decode y_Lines_best.2.1 44 = .ok (.iaload, 1) := by decide +kernel
theorem d_Lines_best_45 : decode y_Lines_best.2.1 45 = .ok (.iload_n 3, 1) := by decide +kernel
theorem d_Lines_best_46 : decode y_Lines_best.2.1 46 = .ok (.if_icmp .le 14, 3) := by decide +kernel
theorem d_Lines_best_49 : decode y_Lines_best.2.1 49 = .ok (.iload 4, 2) := by decide +kernel
theorem d_Lines_best_51 : decode y_Lines_best.2.1 51 = .ok (.istore_n 2, 1) := by decide +kernel
theorem d_Lines_best_52 : decode y_Lines_best.2.1 52 = .ok (.aload_n 0, 1) := by decide +kernel
theorem d_Lines_best_53 : decode y_Lines_best.2.1 53 = .ok (.getfield 15, 3) := by decide +kernel
theorem d_Lines_best_56 : decode y_Lines_best.2.1 56 = .ok (.iload 4, 2) := by decide +kernel
theorem d_Lines_best_58 : decode y_Lines_best.2.1 58 = .ok (.iaload, 1) := by decide +kernel
theorem d_Lines_best_59 : decode y_Lines_best.2.1 59 = .ok (.istore_n 3, 1) := by decide +kernel
theorem d_Lines_best_60 : decode y_Lines_best.2.1 60 = .ok (.iinc 4 1, 3) := by decide +kernel
theorem d_Lines_best_63 : decode y_Lines_best.2.1 63 = .ok (.goto (-44), 3) := by decide +kernel
theorem d_Lines_best_66 : decode y_Lines_best.2.1 66 = .ok (.iload_n 2, 1) := by decide +kernel
theorem d_Lines_best_67 : decode y_Lines_best.2.1 67 = .ok (.ireturn, 1) := by decide +kernel
theorem d_Lines_forget_0 : decode y_Lines_forget.2.1 0 = .ok (.aload_n 0, 1) := by decide +kernel
theorem d_Lines_forget_1 : decode y_Lines_forget.2.1 1 = .ok (.dup, 1) := by decide +kernel
theorem d_Lines_forget_2 : decode y_Lines_forget.2.1 2 = .ok (.getfield 25, 3) := by decide +kernel
theorem d_Lines_forget_5 : decode y_Lines_forget.2.1 5 = .ok (.iconst 1, 1) := by decide +kernel
theorem d_Lines_forget_6 : decode y_Lines_forget.2.1 6 = .ok (.iload_n 1, 1) := by decide +kernel
theorem d_Lines_forget_7 : decode y_Lines_forget.2.1 7 = .ok (.ishl, 1) := by decide +kernel
theorem d_Lines_forget_8 : decode y_Lines_forget.2.1 8 = .ok (.iconst (-1), 1) := by decide +kernel
theorem d_Lines_forget_9 : decode y_Lines_forget.2.1 9 = .ok (.ixor, 1) := by decide +kernel
theorem d_Lines_forget_10 : decode y_Lines_forget.2.1 10 = .ok (.iand, 1) := by decide +kernel
theorem d_Lines_forget_11 : decode y_Lines_forget.2.1 11 = .ok (.putfield 25, 3) := by decide +kernel
theorem d_Lines_forget_14 : decode y_Lines_forget.2.1 14 = .ok (.return_, 1) := by decide +kernel
theorem d_Lines_allDown_0 : decode y_Lines_allDown.2.1 0 = .ok (.aload_n 0, 1) := by decide +kernel
theorem d_Lines_allDown_1 : decode y_Lines_allDown.2.1 1 = .ok (.iconst 0, 1) := by decide +kernel
theorem d_Lines_allDown_2 : decode y_Lines_allDown.2.1 2 = .ok (.putfield 22, 3) := by decide +kernel
theorem d_Lines_allDown_5 : decode y_Lines_allDown.2.1 5 = .ok (.aload_n 0, 1) := by decide +kernel
theorem d_Lines_allDown_6 : decode y_Lines_allDown.2.1 6 = .ok (.iconst 0, 1) := by decide +kernel
theorem d_Lines_allDown_7 : decode y_Lines_allDown.2.1 7 = .ok (.putfield 25, 3) := by decide +kernel
theorem d_Lines_allDown_10 : decode y_Lines_allDown.2.1 10 = .ok (.return_, 1) := by decide +kernel
theorem d_Seat_init_0 : decode y_Seat_init.2.1 0 = .ok (.aload_n 0, 1) := by decide +kernel
theorem d_Seat_init_1 : decode y_Seat_init.2.1 1 = .ok (.invokespecial 1, 3) := by decide +kernel
theorem d_Seat_init_4 : decode y_Seat_init.2.1 4 = .ok (.aload_n 0, 1) := by decide +kernel
theorem d_Seat_init_5 : decode y_Seat_init.2.1 5 = .ok (.iload_n 1, 1) := by decide +kernel
theorem d_Seat_init_6 : decode y_Seat_init.2.1 6 = .ok (.putfield 7, 3) := by decide +kernel
theorem d_Seat_init_9 : decode y_Seat_init.2.1 9 = .ok (.aload_n 0, 1) := by decide +kernel
theorem d_Seat_init_10 : decode y_Seat_init.2.1 10 = .ok (.iload_n 2, 1) := by decide +kernel
theorem d_Seat_init_11 : decode y_Seat_init.2.1 11 = .ok (.putfield 13, 3) := by decide +kernel
theorem d_Seat_init_14 : decode y_Seat_init.2.1 14 = .ok (.aload_n 0, 1) := by decide +kernel
theorem d_Seat_init_15 : decode y_Seat_init.2.1 15 = .ok (.iload_n 3, 1) := by decide +kernel
theorem d_Seat_init_16 : decode y_Seat_init.2.1 16 = .ok (.putfield 16, 3) := by decide +kernel
theorem d_Seat_init_19 : decode y_Seat_init.2.1 19 = .ok (.aload_n 0, 1) := by decide +kernel
theorem d_Seat_init_20 : decode y_Seat_init.2.1 20 = .ok (.iload 4, 2) := by decide +kernel
theorem d_Seat_init_22 : decode y_Seat_init.2.1 22 = .ok (.putfield 19, 3) := by decide +kernel
theorem d_Seat_init_25 : decode y_Seat_init.2.1 25 = .ok (.return_, 1) := by decide +kernel
theorem d_Seat_accessSteps_0 : decode y_Seat_accessSteps.2.1 0 = .ok (.iconst 1, 1) := by decide +kernel
theorem d_Seat_accessSteps_1 : decode y_Seat_accessSteps.2.1 1 = .ok (.aload_n 0, 1) := by decide +kernel
theorem d_Seat_accessSteps_2 : decode y_Seat_accessSteps.2.1 2 = .ok (.getfield 19, 3) := by decide +kernel
theorem d_Seat_accessSteps_5 : decode y_Seat_accessSteps.2.1 5 = .ok (.iadd, 1) := by decide +kernel
theorem d_Seat_accessSteps_6 : decode y_Seat_accessSteps.2.1 6 = .ok (.ireturn, 1) := by decide +kernel
theorem d_Seat_meets_0 : decode y_Seat_meets.2.1 0 = .ok (.iload_n 1, 1) := by decide +kernel
theorem d_Seat_meets_1 : decode y_Seat_meets.2.1 1 = .ok (.aload_n 0, 1) := by decide +kernel
theorem d_Seat_meets_2 : decode y_Seat_meets.2.1 2 = .ok (.getfield 7, 3) := by decide +kernel
theorem d_Seat_meets_5 : decode y_Seat_meets.2.1 5 = .ok (.if_icmp .lt 24, 3) := by decide +kernel
theorem d_Seat_meets_8 : decode y_Seat_meets.2.1 8 = .ok (.iload_n 1, 1) := by decide +kernel
theorem d_Seat_meets_9 : decode y_Seat_meets.2.1 9 = .ok (.aload_n 0, 1) := by decide +kernel
theorem d_Seat_meets_10 : decode y_Seat_meets.2.1 10 = .ok (.getfield 7, 3) := by decide +kernel
theorem d_Seat_meets_13 : decode y_Seat_meets.2.1 13 = .ok (.isub, 1) := by decide +kernel
theorem d_Seat_meets_14 : decode y_Seat_meets.2.1 14 = .ok (.aload_n 0, 1) := by decide +kernel
theorem d_Seat_meets_15 : decode y_Seat_meets.2.1 15 = .ok (.getfield 13, 3) := by decide +kernel
theorem d_Seat_meets_18 : decode y_Seat_meets.2.1 18 = .ok (.if_icmp .ge 7, 3) := by decide +kernel
theorem d_Seat_meets_21 : decode y_Seat_meets.2.1 21 = .ok (.iconst 1, 1) := by decide +kernel
theorem d_Seat_meets_22 : decode y_Seat_meets.2.1 22 = .ok (.goto 26, 3) := by decide +kernel
theorem d_Seat_meets_25 : decode y_Seat_meets.2.1 25 = .ok (.iconst 0, 1) := by decide +kernel
theorem d_Seat_meets_26 : decode y_Seat_meets.2.1 26 = .ok (.goto 22, 3) := by decide +kernel
theorem d_Seat_meets_29 : decode y_Seat_meets.2.1 29 = .ok (.iload_n 1, 1) := by decide +kernel
theorem d_Seat_meets_30 : decode y_Seat_meets.2.1 30 = .ok (.ifCond .lt 17, 3) := by decide +kernel
theorem d_Seat_meets_33 : decode y_Seat_meets.2.1 33 = .ok (.aload_n 0, 1) := by decide +kernel
theorem d_Seat_meets_34 : decode y_Seat_meets.2.1 34 = .ok (.getfield 7, 3) := by decide +kernel
theorem d_Seat_meets_37 : decode y_Seat_meets.2.1 37 = .ok (.iload_n 1, 1) := by decide +kernel
theorem d_Seat_meets_38 : decode y_Seat_meets.2.1 38 = .ok (.isub, 1) := by decide +kernel
theorem d_Seat_meets_39 : decode y_Seat_meets.2.1 39 = .ok (.iload_n 2, 1) := by decide +kernel
theorem d_Seat_meets_40 : decode y_Seat_meets.2.1 40 = .ok (.if_icmp .ge 7, 3) := by decide +kernel
theorem d_Seat_meets_43 : decode y_Seat_meets.2.1 43 = .ok (.iconst 1, 1) := by decide +kernel
theorem d_Seat_meets_44 : decode y_Seat_meets.2.1 44 = .ok (.goto 4, 3) := by decide +kernel
theorem d_Seat_meets_47 : decode y_Seat_meets.2.1 47 = .ok (.iconst 0, 1) := by decide +kernel
theorem d_Seat_meets_48 : decode y_Seat_meets.2.1 48 = .ok (.ireturn, 1) := by decide +kernel
theorem d_Timer_init_0 : decode y_Timer_init.2.1 0 = .ok (.aload_n 0, 1) := by decide +kernel
theorem d_Timer_init_1 : decode y_Timer_init.2.1 1 = .ok (.aload_n 1, 1) := by decide +kernel
theorem d_Timer_init_2 : decode y_Timer_init.2.1 2 = .ok (.invokespecial 1, 3) := by decide +kernel
theorem d_Timer_init_5 : decode y_Timer_init.2.1 5 = .ok (.aload_n 0, 1) := by decide +kernel
theorem d_Timer_init_6 : decode y_Timer_init.2.1 6 = .ok (.iconst 0, 1) := by decide +kernel
theorem d_Timer_init_7 : decode y_Timer_init.2.1 7 = .ok (.putfield 7, 3) := by decide +kernel
theorem d_Timer_init_10 : decode y_Timer_init.2.1 10 = .ok (.aload_n 0, 1) := by decide +kernel
theorem d_Timer_init_11 : decode y_Timer_init.2.1 11 = .ok (.iconst 0, 1) := by decide +kernel
theorem d_Timer_init_12 : decode y_Timer_init.2.1 12 = .ok (.putfield 13, 3) := by decide +kernel
theorem d_Timer_init_15 : decode y_Timer_init.2.1 15 = .ok (.aload_n 0, 1) := by decide +kernel
theorem d_Timer_init_16 : decode y_Timer_init.2.1 16 = .ok (.iconst 0, 1) := by decide +kernel
theorem d_Timer_init_17 : decode y_Timer_init.2.1 17 = .ok (.putfield 16, 3) := by decide +kernel
theorem d_Timer_init_20 : decode y_Timer_init.2.1 20 = .ok (.aload_n 0, 1) := by decide +kernel
theorem d_Timer_init_21 : decode y_Timer_init.2.1 21 = .ok (.iconst 0, 1) := by decide +kernel
theorem d_Timer_init_22 : decode y_Timer_init.2.1 22 = .ok (.putfield 19, 3) := by decide +kernel
theorem d_Timer_init_25 : decode y_Timer_init.2.1 25 = .ok (.return_, 1) := by decide +kernel
theorem d_Timer_look_0 : decode y_Timer_look.2.1 0 = .ok (.iload_n 1, 1) := by decide +kernel
theorem d_Timer_look_1 : decode y_Timer_look.2.1 1 = .ok (.tableswitch 51 0 3 #[31, 36, 41, 46], 31) := by decide +kernel
theorem d_Timer_look_32 : decode y_Timer_look.2.1 32 = .ok (.aload_n 0, 1) := by decide +kernel
theorem d_Timer_look_33 : decode y_Timer_look.2.1 33 = .ok (.getfield 7, 3) := by decide +kernel
theorem d_Timer_look_36 : decode y_Timer_look.2.1 36 = .ok (.ireturn, 1) := by decide +kernel
theorem d_Timer_look_37 : decode y_Timer_look.2.1 37 = .ok (.aload_n 0, 1) := by decide +kernel
theorem d_Timer_look_38 : decode y_Timer_look.2.1 38 = .ok (.getfield 13, 3) := by decide +kernel
theorem d_Timer_look_41 : decode y_Timer_look.2.1 41 = .ok (.ireturn, 1) := by decide +kernel
theorem d_Timer_look_42 : decode y_Timer_look.2.1 42 = .ok (.aload_n 0, 1) := by decide +kernel
theorem d_Timer_look_43 : decode y_Timer_look.2.1 43 = .ok (.getfield 16, 3) := by decide +kernel
theorem d_Timer_look_46 : decode y_Timer_look.2.1 46 = .ok (.ireturn, 1) := by decide +kernel
theorem d_Timer_look_47 : decode y_Timer_look.2.1 47 = .ok (.aload_n 0, 1) := by decide +kernel
theorem d_Timer_look_48 : decode y_Timer_look.2.1 48 = .ok (.getfield 19, 3) := by decide +kernel
theorem d_Timer_look_51 : decode y_Timer_look.2.1 51 = .ok (.ireturn, 1) := by decide +kernel
theorem d_Timer_look_52 : decode y_Timer_look.2.1 52 = .ok (.iconst 0, 1) := by decide +kernel
theorem d_Timer_look_53 : decode y_Timer_look.2.1 53 = .ok (.ireturn, 1) := by decide +kernel
theorem d_Timer_put_0 : decode y_Timer_put.2.1 0 = .ok (.iload_n 1, 1) := by decide +kernel
theorem d_Timer_put_1 : decode y_Timer_put.2.1 1 = .ok (.tableswitch 66 0 3 #[31, 39, 47, 58], 31) := by decide +kernel
theorem d_Timer_put_32 : decode y_Timer_put.2.1 32 = .ok (.aload_n 0, 1) := by decide +kernel
theorem d_Timer_put_33 : decode y_Timer_put.2.1 33 = .ok (.iload_n 2, 1) := by decide +kernel
theorem d_Timer_put_34 : decode y_Timer_put.2.1 34 = .ok (.putfield 7, 3) := by decide +kernel
theorem d_Timer_put_37 : decode y_Timer_put.2.1 37 = .ok (.goto 30, 3) := by decide +kernel
theorem d_Timer_put_40 : decode y_Timer_put.2.1 40 = .ok (.aload_n 0, 1) := by decide +kernel
theorem d_Timer_put_41 : decode y_Timer_put.2.1 41 = .ok (.iload_n 2, 1) := by decide +kernel
theorem d_Timer_put_42 : decode y_Timer_put.2.1 42 = .ok (.putfield 13, 3) := by decide +kernel
theorem d_Timer_put_45 : decode y_Timer_put.2.1 45 = .ok (.goto 22, 3) := by decide +kernel
theorem d_Timer_put_48 : decode y_Timer_put.2.1 48 = .ok (.aload_n 0, 1) := by decide +kernel
theorem d_Timer_put_49 : decode y_Timer_put.2.1 49 = .ok (.iload_n 2, 1) := by decide +kernel
theorem d_Timer_put_50 : decode y_Timer_put.2.1 50 = .ok (.bipush 15, 2) := by decide +kernel
theorem d_Timer_put_52 : decode y_Timer_put.2.1 52 = .ok (.iand, 1) := by decide +kernel
theorem d_Timer_put_53 : decode y_Timer_put.2.1 53 = .ok (.putfield 16, 3) := by decide +kernel
theorem d_Timer_put_56 : decode y_Timer_put.2.1 56 = .ok (.goto 11, 3) := by decide +kernel
theorem d_Timer_put_59 : decode y_Timer_put.2.1 59 = .ok (.aload_n 0, 1) := by decide +kernel
theorem d_Timer_put_60 : decode y_Timer_put.2.1 60 = .ok (.iconst 0, 1) := by decide +kernel
theorem d_Timer_put_61 : decode y_Timer_put.2.1 61 = .ok (.putfield 19, 3) := by decide +kernel
theorem d_Timer_put_64 : decode y_Timer_put.2.1 64 = .ok (.goto 3, 3) := by decide +kernel
theorem d_Timer_put_67 : decode y_Timer_put.2.1 67 = .ok (.return_, 1) := by decide +kernel
theorem d_Timer_goOn_0 : decode y_Timer_goOn.2.1 0 = .ok (.aload_n 0, 1) := by decide +kernel
theorem d_Timer_goOn_1 : decode y_Timer_goOn.2.1 1 = .ok (.getfield 16, 3) := by decide +kernel
theorem d_Timer_goOn_4 : decode y_Timer_goOn.2.1 4 = .ok (.iconst 1, 1) := by decide +kernel
theorem d_Timer_goOn_5 : decode y_Timer_goOn.2.1 5 = .ok (.iand, 1) := by decide +kernel
theorem d_Timer_goOn_6 : decode y_Timer_goOn.2.1 6 = .ok (.ifCond .ne 5, 3) := by decide +kernel
theorem d_Timer_goOn_9 : decode y_Timer_goOn.2.1 9 = .ok (.iconst 0, 1) := by decide +kernel
theorem d_Timer_goOn_10 : decode y_Timer_goOn.2.1 10 = .ok (.ireturn, 1) := by decide +kernel
theorem d_Timer_goOn_11 : decode y_Timer_goOn.2.1 11 = .ok (.aload_n 0, 1) := by decide +kernel
theorem d_Timer_goOn_12 : decode y_Timer_goOn.2.1 12 = .ok (.dup, 1) := by decide +kernel
theorem d_Timer_goOn_13 : decode y_Timer_goOn.2.1 13 = .ok (.getfield 7, 3) := by decide +kernel
theorem d_Timer_goOn_16 : decode y_Timer_goOn.2.1 16 = .ok (.iconst 1, 1) := by decide +kernel
theorem d_Timer_goOn_17 : decode y_Timer_goOn.2.1 17 = .ok (.iadd, 1) := by decide +kernel
theorem d_Timer_goOn_18 : decode y_Timer_goOn.2.1 18 = .ok (.putfield 7, 3) := by decide +kernel
theorem d_Timer_goOn_21 : decode y_Timer_goOn.2.1 21 = .ok (.aload_n 0, 1) := by decide +kernel
theorem d_Timer_goOn_22 : decode y_Timer_goOn.2.1 22 = .ok (.getfield 7, 3) := by decide +kernel
theorem d_Timer_goOn_25 : decode y_Timer_goOn.2.1 25 = .ok (.aload_n 0, 1) := by decide +kernel
theorem d_Timer_goOn_26 : decode y_Timer_goOn.2.1 26 = .ok (.getfield 13, 3) := by decide +kernel
theorem d_Timer_goOn_29 : decode y_Timer_goOn.2.1 29 = .ok (.if_icmp .eq 5, 3) := by decide +kernel
theorem d_Timer_goOn_32 : decode y_Timer_goOn.2.1 32 = .ok (.iconst 0, 1) := by decide +kernel
theorem d_Timer_goOn_33 : decode y_Timer_goOn.2.1 33 = .ok (.ireturn, 1) := by decide +kernel
theorem d_Timer_goOn_34 : decode y_Timer_goOn.2.1 34 = .ok (.aload_n 0, 1) := by decide +kernel
theorem d_Timer_goOn_35 : decode y_Timer_goOn.2.1 35 = .ok (.iconst 1, 1) := by decide +kernel
theorem d_Timer_goOn_36 : decode y_Timer_goOn.2.1 36 = .ok (.putfield 19, 3) := by decide +kernel
theorem d_Timer_goOn_39 : decode y_Timer_goOn.2.1 39 = .ok (.aload_n 0, 1) := by decide +kernel
theorem d_Timer_goOn_40 : decode y_Timer_goOn.2.1 40 = .ok (.getfield 16, 3) := by decide +kernel
theorem d_Timer_goOn_43 : decode y_Timer_goOn.2.1 43 = .ok (.iconst 2, 1) := by decide +kernel
theorem d_Timer_goOn_44 : decode y_Timer_goOn.2.1 44 = .ok (.iand, 1) := by decide +kernel
theorem d_Timer_goOn_45 : decode y_Timer_goOn.2.1 45 = .ok (.ifCond .eq 11, 3) := by decide +kernel
theorem d_Timer_goOn_48 : decode y_Timer_goOn.2.1 48 = .ok (.aload_n 0, 1) := by decide +kernel
theorem d_Timer_goOn_49 : decode y_Timer_goOn.2.1 49 = .ok (.iconst 0, 1) := by decide +kernel
theorem d_Timer_goOn_50 : decode y_Timer_goOn.2.1 50 = .ok (.putfield 7, 3) := by decide +kernel
theorem d_Timer_goOn_53 : decode y_Timer_goOn.2.1 53 = .ok (.goto 14, 3) := by decide +kernel
theorem d_Timer_goOn_56 : decode y_Timer_goOn.2.1 56 = .ok (.aload_n 0, 1) := by decide +kernel
theorem d_Timer_goOn_57 : decode y_Timer_goOn.2.1 57 = .ok (.dup, 1) := by decide +kernel
theorem d_Timer_goOn_58 : decode y_Timer_goOn.2.1 58 = .ok (.getfield 16, 3) := by decide +kernel
theorem d_Timer_goOn_61 : decode y_Timer_goOn.2.1 61 = .ok (.bipush (-2), 2) := by decide +kernel
theorem d_Timer_goOn_63 : decode y_Timer_goOn.2.1 63 = .ok (.iand, 1) := by decide +kernel
theorem d_Timer_goOn_64 : decode y_Timer_goOn.2.1 64 = .ok (.putfield 16, 3) := by decide +kernel
theorem d_Timer_goOn_67 : decode y_Timer_goOn.2.1 67 = .ok (.aload_n 0, 1) := by decide +kernel
theorem d_Timer_goOn_68 : decode y_Timer_goOn.2.1 68 = .ok (.getfield 16, 3) := by decide +kernel
theorem d_Timer_goOn_71 : decode y_Timer_goOn.2.1 71 = .ok (.bipush 8, 2) := by decide +kernel
theorem d_Timer_goOn_73 : decode y_Timer_goOn.2.1 73 = .ok (.iand, 1) := by decide +kernel
theorem d_Timer_goOn_74 : decode y_Timer_goOn.2.1 74 = .ok (.ifCond .eq 7, 3) := by decide +kernel
theorem d_Timer_goOn_77 : decode y_Timer_goOn.2.1 77 = .ok (.iconst 1, 1) := by decide +kernel
theorem d_Timer_goOn_78 : decode y_Timer_goOn.2.1 78 = .ok (.goto 4, 3) := by decide +kernel
theorem d_Timer_goOn_81 : decode y_Timer_goOn.2.1 81 = .ok (.iconst 0, 1) := by decide +kernel
theorem d_Timer_goOn_82 : decode y_Timer_goOn.2.1 82 = .ok (.ireturn, 1) := by decide +kernel
theorem d_Timer_wantsAttention_0 : decode y_Timer_wantsAttention.2.1 0 = .ok (.aload_n 0, 1) := by decide +kernel
theorem d_Timer_wantsAttention_1 : decode y_Timer_wantsAttention.2.1 1 = .ok (.getfield 16, 3) := by decide +kernel
theorem d_Timer_wantsAttention_4 : decode y_Timer_wantsAttention.2.1 4 = .ok (.iconst 4, 1) := by decide +kernel
theorem d_Timer_wantsAttention_5 : decode y_Timer_wantsAttention.2.1 5 = .ok (.iand, 1) := by decide +kernel
theorem d_Timer_wantsAttention_6 : decode y_Timer_wantsAttention.2.1 6 = .ok (.ifCond .eq 15, 3) := by decide +kernel
theorem d_Timer_wantsAttention_9 : decode y_Timer_wantsAttention.2.1 9 = .ok (.aload_n 0, 1) := by decide +kernel
theorem d_Timer_wantsAttention_10 : decode y_Timer_wantsAttention.2.1 10 = .ok (.getfield 19, 3) := by decide +kernel
theorem d_Timer_wantsAttention_13 : decode y_Timer_wantsAttention.2.1 13 = .ok (.iconst 1, 1) := by decide +kernel
theorem d_Timer_wantsAttention_14 : decode y_Timer_wantsAttention.2.1 14 = .ok (.if_icmp .ne 7, 3) := by decide +kernel
theorem d_Timer_wantsAttention_17 : decode y_Timer_wantsAttention.2.1 17 = .ok (.iconst 1, 1) := by decide +kernel
theorem d_Timer_wantsAttention_18 : decode y_Timer_wantsAttention.2.1 18 = .ok (.goto 4, 3) := by decide +kernel
theorem d_Timer_wantsAttention_21 : decode y_Timer_wantsAttention.2.1 21 = .ok (.iconst 0, 1) := by decide +kernel
theorem d_Timer_wantsAttention_22 : decode y_Timer_wantsAttention.2.1 22 = .ok (.ireturn, 1) := by decide +kernel
theorem d_Timer_beginAnew_0 : decode y_Timer_beginAnew.2.1 0 = .ok (.aload_n 0, 1) := by decide +kernel
theorem d_Timer_beginAnew_1 : decode y_Timer_beginAnew.2.1 1 = .ok (.iconst 0, 1) := by decide +kernel
theorem d_Timer_beginAnew_2 : decode y_Timer_beginAnew.2.1 2 = .ok (.putfield 7, 3) := by decide +kernel
theorem d_Timer_beginAnew_5 : decode y_Timer_beginAnew.2.1 5 = .ok (.aload_n 0, 1) := by decide +kernel
theorem d_Timer_beginAnew_6 : decode y_Timer_beginAnew.2.1 6 = .ok (.iconst 0, 1) := by decide +kernel
theorem d_Timer_beginAnew_7 : decode y_Timer_beginAnew.2.1 7 = .ok (.putfield 13, 3) := by decide +kernel
theorem d_Timer_beginAnew_10 : decode y_Timer_beginAnew.2.1 10 = .ok (.aload_n 0, 1) := by decide +kernel
theorem d_Timer_beginAnew_11 : decode y_Timer_beginAnew.2.1 11 = .ok (.iconst 0, 1) := by decide +kernel
theorem d_Timer_beginAnew_12 : decode y_Timer_beginAnew.2.1 12 = .ok (.putfield 16, 3) := by decide +kernel
theorem d_Timer_beginAnew_15 : decode y_Timer_beginAnew.2.1 15 = .ok (.aload_n 0, 1) := by decide +kernel
theorem d_Timer_beginAnew_16 : decode y_Timer_beginAnew.2.1 16 = .ok (.iconst 0, 1) := by decide +kernel
theorem d_Timer_beginAnew_17 : decode y_Timer_beginAnew.2.1 17 = .ok (.putfield 19, 3) := by decide +kernel
theorem d_Timer_beginAnew_20 : decode y_Timer_beginAnew.2.1 20 = .ok (.return_, 1) := by decide +kernel
end
section
theorem d_Counts_init_0 : decode y_Counts_init.2.1 0 = .ok (.aload_n 0, 1) := by decide +kernel
theorem d_Counts_init_1 : decode y_Counts_init.2.1 1 = .ok (.aload_n 1, 1) := by decide +kernel
theorem d_Counts_init_2 : decode y_Counts_init.2.1 2 = .ok (.invokespecial 3, 3) := by decide +kernel
theorem d_Counts_init_5 : decode y_Counts_init.2.1 5 = .ok (.aload_n 0, 1) := by decide +kernel
theorem d_Counts_init_6 : decode y_Counts_init.2.1 6 = .ok (.iconst 4, 1) := by decide +kernel
theorem d_Counts_init_7 : decode y_Counts_init.2.1 7 = .ok (.newarray .int, 2) := by decide +kernel
theorem d_Counts_init_9 : decode y_Counts_init.2.1 9 = .ok (.putfield 9, 3) := by decide +kernel
theorem d_Counts_init_12 : decode y_Counts_init.2.1 12 = .ok (.return_, 1) := by decide +kernel
theorem d_Counts_add_0 : decode y_Counts_add.2.1 0 = .ok (.iload_n 1, 1) := by decide +kernel
theorem d_Counts_add_1 : decode y_Counts_add.2.1 1 = .ok (.ifCond .lt 22, 3) := by decide +kernel
theorem d_Counts_add_4 : decode y_Counts_add.2.1 4 = .ok (.iload_n 1, 1) := by decide +kernel
theorem d_Counts_add_5 : decode y_Counts_add.2.1 5 = .ok (.aload_n 0, 1) := by decide +kernel
theorem d_Counts_add_6 : decode y_Counts_add.2.1 6 = .ok (.getfield 9, 3) := by decide +kernel
theorem d_Counts_add_9 : decode y_Counts_add.2.1 9 = .ok (.arraylength, 1) := by decide +kernel
theorem d_Counts_add_10 : decode y_Counts_add.2.1 10 = .ok (.if_icmp .ge 13, 3) := by decide +kernel
theorem d_Counts_add_13 : decode y_Counts_add.2.1 13 = .ok (.aload_n 0, 1) := by decide +kernel
theorem d_Counts_add_14 : decode y_Counts_add.2.1 14 = .ok (.getfield 9, 3) := by decide +kernel
theorem d_Counts_add_17 : decode y_Counts_add.2.1 17 = .ok (.iload_n 1, 1) := by decide +kernel
theorem d_Counts_add_18 : decode y_Counts_add.2.1 18 = .ok (.dup2, 1) := by decide +kernel
theorem d_Counts_add_19 : decode y_Counts_add.2.1 19 = .ok (.iaload, 1) := by decide +kernel
theorem d_Counts_add_20 : decode y_Counts_add.2.1 20 = .ok (.iconst 1, 1) := by decide +kernel
theorem d_Counts_add_21 : decode y_Counts_add.2.1 21 = .ok (.iadd, 1) := by decide +kernel
theorem d_Counts_add_22 : decode y_Counts_add.2.1 22 = .ok (.iastore, 1) := by decide +kernel
theorem d_Counts_add_23 : decode y_Counts_add.2.1 23 = .ok (.return_, 1) := by decide +kernel
theorem d_Counts_look_0 : decode y_Counts_look.2.1 0 = .ok (.iload_n 1, 1) := by decide +kernel
theorem d_Counts_look_1 : decode y_Counts_look.2.1 1 = .ok (.ifCond .lt 21, 3) := by decide +kernel
theorem d_Counts_look_4 : decode y_Counts_look.2.1 4 = .ok (.iload_n 1, 1) := by decide +kernel
theorem d_Counts_look_5 : decode y_Counts_look.2.1 5 = .ok (.aload_n 0, 1) := by decide +kernel
theorem d_Counts_look_6 : decode y_Counts_look.2.1 6 = .ok (.getfield 9, 3) := by decide +kernel
theorem d_Counts_look_9 : decode y_Counts_look.2.1 9 = .ok (.arraylength, 1) := by decide +kernel
theorem d_Counts_look_10 : decode y_Counts_look.2.1 10 = .ok (.if_icmp .ge 12, 3) := by decide +kernel
theorem d_Counts_look_13 : decode y_Counts_look.2.1 13 = .ok (.aload_n 0, 1) := by decide +kernel
theorem d_Counts_look_14 : decode y_Counts_look.2.1 14 = .ok (.getfield 9, 3) := by decide +kernel
theorem d_Counts_look_17 : decode y_Counts_look.2.1 17 = .ok (.iload_n 1, 1) := by decide +kernel
theorem d_Counts_look_18 : decode y_Counts_look.2.1 18 = .ok (.iaload, 1) := by decide +kernel
theorem d_Counts_look_19 : decode y_Counts_look.2.1 19 = .ok (.goto 4, 3) := by decide +kernel
theorem d_Counts_look_22 : decode y_Counts_look.2.1 22 = .ok (.iconst 0, 1) := by decide +kernel
theorem d_Counts_look_23 : decode y_Counts_look.2.1 23 = .ok (.ireturn, 1) := by decide +kernel
theorem d_Counts_put_0 : decode y_Counts_put.2.1 0 = .ok (.iload_n 1, 1) := by decide +kernel
theorem d_Counts_put_1 : decode y_Counts_put.2.1 1 = .ok (.ifCond .lt 19, 3) := by decide +kernel
theorem d_Counts_put_4 : decode y_Counts_put.2.1 4 = .ok (.iload_n 1, 1) := by decide +kernel
theorem d_Counts_put_5 : decode y_Counts_put.2.1 5 = .ok (.aload_n 0, 1) := by decide +kernel
theorem d_Counts_put_6 : decode y_Counts_put.2.1 6 = .ok (.getfield 9, 3) := by decide +kernel
theorem d_Counts_put_9 : decode y_Counts_put.2.1 9 = .ok (.arraylength, 1) := by decide +kernel
theorem d_Counts_put_10 : decode y_Counts_put.2.1 10 = .ok (.if_icmp .ge 10, 3) := by decide +kernel
theorem d_Counts_put_13 : decode y_Counts_put.2.1 13 = .ok (.aload_n 0, 1) := by decide +kernel
theorem d_Counts_put_14 : decode y_Counts_put.2.1 14 = .ok (.getfield 9, 3) := by decide +kernel
theorem d_Counts_put_17 : decode y_Counts_put.2.1 17 = .ok (.iload_n 1, 1) := by decide +kernel
theorem d_Counts_put_18 : decode y_Counts_put.2.1 18 = .ok (.iconst 0, 1) := by decide +kernel
theorem d_Counts_put_19 : decode y_Counts_put.2.1 19 = .ok (.iastore, 1) := by decide +kernel
theorem d_Counts_put_20 : decode y_Counts_put.2.1 20 = .ok (.return_, 1) := by decide +kernel
theorem d_Counts_goOn_0 : decode y_Counts_goOn.2.1 0 = .ok (.aload_n 0, 1) := by decide +kernel
theorem d_Counts_goOn_1 : decode y_Counts_goOn.2.1 1 = .ok (.iconst 0, 1) := by decide +kernel
theorem d_Counts_goOn_2 : decode y_Counts_goOn.2.1 2 = .ok (.invokevirtual 15, 3) := by decide +kernel
theorem d_Counts_goOn_5 : decode y_Counts_goOn.2.1 5 = .ok (.iconst 0, 1) := by decide +kernel
theorem d_Counts_goOn_6 : decode y_Counts_goOn.2.1 6 = .ok (.ireturn, 1) := by decide +kernel
theorem d_Counts_beginAnew_0 : decode y_Counts_beginAnew.2.1 0 = .ok (.iconst 0, 1) := by decide +kernel
theorem d_Counts_beginAnew_1 : decode y_Counts_beginAnew.2.1 1 = .ok (.istore_n 1, 1) := by decide +kernel
theorem d_Counts_beginAnew_2 : decode y_Counts_beginAnew.2.1 2 = .ok (.iload_n 1, 1) := by decide +kernel
theorem d_Counts_beginAnew_3 : decode y_Counts_beginAnew.2.1 3 = .ok (.aload_n 0, 1) := by decide +kernel
theorem d_Counts_beginAnew_4 : decode y_Counts_beginAnew.2.1 4 = .ok (.getfield 9, 3) := by decide +kernel
theorem d_Counts_beginAnew_7 : decode y_Counts_beginAnew.2.1 7 = .ok (.arraylength, 1) := by decide +kernel
theorem d_Counts_beginAnew_8 : decode y_Counts_beginAnew.2.1 8 = .ok (.if_icmp .ge 16, 3) := by decide +kernel
theorem d_Counts_beginAnew_11 : decode y_Counts_beginAnew.2.1 11 = .ok (.aload_n 0, 1) := by decide +kernel
theorem d_Counts_beginAnew_12 : decode y_Counts_beginAnew.2.1 12 = .ok (.getfield 9, 3) := by decide +kernel
theorem d_Counts_beginAnew_15 : decode y_Counts_beginAnew.2.1 15 = .ok (.iload_n 1, 1) := by decide +kernel
theorem d_Counts_beginAnew_16 : decode y_Counts_beginAnew.2.1 16 = .ok (.iconst 0, 1) := by decide +kernel
theorem d_Counts_beginAnew_17 : decode y_Counts_beginAnew.2.1 17 = .ok (.iastore, 1) := by decide +kernel
theorem d_Counts_beginAnew_18 : decode y_Counts_beginAnew.2.1 18 = .ok (.iinc 1 1, 3) := by decide +kernel
theorem d_Counts_beginAnew_21 : decode y_Counts_beginAnew.2.1 21 = .ok (.goto (-19), 3) := by decide +kernel
theorem d_Counts_beginAnew_24 : decode y_Counts_beginAnew.2.1 24 = .ok (.return_, 1) := by decide +kernel
theorem d_Part_init_0 : decode y_Part_init.2.1 0 = .ok (.aload_n 0, 1) := by decide +kernel
theorem d_Part_init_1 : decode y_Part_init.2.1 1 = .ok (.invokespecial 1, 3) := by decide +kernel
theorem d_Part_init_4 : decode y_Part_init.2.1 4 = .ok (.aload_n 0, 1) := by decide +kernel
theorem d_Part_init_5 : decode y_Part_init.2.1 5 = .ok (.aload_n 1, 1) := by decide +kernel
theorem d_Part_init_6 : decode y_Part_init.2.1 6 = .ok (.putfield 7, 3) := by decide +kernel
theorem d_Part_init_9 : decode y_Part_init.2.1 9 = .ok (.return_, 1) := by decide +kernel
theorem d_Part_refusesWrites_0 : decode y_Part_refusesWrites.2.1 0 = .ok (.iconst 0, 1) := by decide +kernel
theorem d_Part_refusesWrites_1 : decode y_Part_refusesWrites.2.1 1 = .ok (.ireturn, 1) := by decide +kernel
theorem d_Part_goOn_0 : decode y_Part_goOn.2.1 0 = .ok (.iconst 0, 1) := by decide +kernel
theorem d_Part_goOn_1 : decode y_Part_goOn.2.1 1 = .ok (.ireturn, 1) := by decide +kernel
theorem d_Part_wantsAttention_0 : decode y_Part_wantsAttention.2.1 0 = .ok (.iconst 0, 1) := by decide +kernel
theorem d_Part_wantsAttention_1 : decode y_Part_wantsAttention.2.1 1 = .ok (.ireturn, 1) := by decide +kernel
theorem d_Part_beginAnew_0 : decode y_Part_beginAnew.2.1 0 = .ok (.return_, 1) := by decide +kernel
theorem d_Rows_init_0 : decode y_Rows_init.2.1 0 = .ok (.aload_n 0, 1) := by decide +kernel
theorem d_Rows_init_1 : decode y_Rows_init.2.1 1 = .ok (.aload_n 1, 1) := by decide +kernel
theorem d_Rows_init_2 : decode y_Rows_init.2.1 2 = .ok (.invokespecial 3, 3) := by decide +kernel
theorem d_Rows_init_5 : decode y_Rows_init.2.1 5 = .ok (.aload_n 0, 1) := by decide +kernel
theorem d_Rows_init_6 : decode y_Rows_init.2.1 6 = .ok (.bipush 64, 2) := by decide +kernel
theorem d_Rows_init_8 : decode y_Rows_init.2.1 8 = .ok (.newarray .int, 2) := by decide +kernel
theorem d_Rows_init_10 : decode y_Rows_init.2.1 10 = .ok (.putfield 9, 3) := by decide +kernel
theorem d_Rows_init_13 : decode y_Rows_init.2.1 13 = .ok (.aload_n 0, 1) := by decide +kernel
theorem d_Rows_init_14 : decode y_Rows_init.2.1 14 = .ok (.bipush 8, 2) := by decide +kernel
theorem d_Rows_init_16 : decode y_Rows_init.2.1 16 = .ok (.newarray .int, 2) := by decide +kernel
theorem d_Rows_init_18 : decode y_Rows_init.2.1 18 = .ok (.putfield 13, 3) := by decide +kernel
theorem d_Rows_init_21 : decode y_Rows_init.2.1 21 = .ok (.aload_n 0, 1) := by decide +kernel
theorem d_Rows_init_22 : decode y_Rows_init.2.1 22 = .ok (.iconst 0, 1) := by decide +kernel
theorem d_Rows_init_23 : decode y_Rows_init.2.1 23 = .ok (.putfield 16, 3) := by decide +kernel
theorem d_Rows_init_26 : decode y_Rows_init.2.1 26 = .ok (.aload_n 0, 1) := by decide +kernel
theorem d_Rows_init_27 : decode y_Rows_init.2.1 27 = .ok (.iconst 0, 1) := by decide +kernel
theorem d_Rows_init_28 : decode y_Rows_init.2.1 28 = .ok (.putfield 20, 3) := by decide +kernel
theorem d_Rows_init_31 : decode y_Rows_init.2.1 31 = .ok (.aload_n 0, 1) := by decide +kernel
theorem d_Rows_init_32 : decode y_Rows_init.2.1 32 = .ok (.iconst 0, 1) := by decide +kernel
theorem d_Rows_init_33 : decode y_Rows_init.2.1 33 = .ok (.putfield 23, 3) := by decide +kernel
theorem d_Rows_init_36 : decode y_Rows_init.2.1 36 = .ok (.aload_n 0, 1) := by decide +kernel
theorem d_Rows_init_37 : decode y_Rows_init.2.1 37 = .ok (.iconst 0, 1) := by decide +kernel
theorem d_Rows_init_38 : decode y_Rows_init.2.1 38 = .ok (.putfield 26, 3) := by decide +kernel
theorem d_Rows_init_41 : decode y_Rows_init.2.1 41 = .ok (.aload_n 0, 1) := by decide +kernel
theorem d_Rows_init_42 : decode y_Rows_init.2.1 42 = .ok (.iconst 0, 1) := by decide +kernel
theorem d_Rows_init_43 : decode y_Rows_init.2.1 43 = .ok (.putfield 29, 3) := by decide +kernel
theorem d_Rows_init_46 : decode y_Rows_init.2.1 46 = .ok (.return_, 1) := by decide +kernel
theorem d_Rows_look_0 : decode y_Rows_look.2.1 0 = .ok (.iload_n 1, 1) := by decide +kernel
theorem d_Rows_look_1 : decode y_Rows_look.2.1 1 = .ok (.tableswitch 42 0 2 #[27, 32, 37], 27) := by decide +kernel
theorem d_Rows_look_28 : decode y_Rows_look.2.1 28 = .ok (.aload_n 0, 1) := by decide +kernel
theorem d_Rows_look_29 : decode y_Rows_look.2.1 29 = .ok (.getfield 16, 3) := by decide +kernel
theorem d_Rows_look_32 : decode y_Rows_look.2.1 32 = .ok (.ireturn, 1) := by decide +kernel
theorem d_Rows_look_33 : decode y_Rows_look.2.1 33 = .ok (.aload_n 0, 1) := by decide +kernel
theorem d_Rows_look_34 : decode y_Rows_look.2.1 34 = .ok (.getfield 20, 3) := by decide +kernel
theorem d_Rows_look_37 : decode y_Rows_look.2.1 37 = .ok (.ireturn, 1) := by decide +kernel
theorem d_Rows_look_38 : decode y_Rows_look.2.1 38 = .ok (.aload_n 0, 1) := by decide +kernel
theorem d_Rows_look_39 : decode y_Rows_look.2.1 39 = .ok (.getfield 29, 3) := by decide +kernel
theorem d_Rows_look_42 : decode y_Rows_look.2.1 42 = .ok (.ireturn, 1) := by decide +kernel
theorem d_Rows_look_43 : decode y_Rows_look.2.1 43 = .ok (.aload_n 0, 1) := by decide +kernel
theorem d_Rows_look_44 : decode y_Rows_look.2.1 44 = .ok (.iload_n 1, 1) := by decide +kernel
theorem d_Rows_look_45 : decode y_Rows_look.2.1 45 = .ok (.invokevirtual 32, 3) := by decide +kernel
theorem d_Rows_look_48 : decode y_Rows_look.2.1 48 = .ok (.ifCond .eq 14, 3) := by decide +kernel
theorem d_Rows_look_51 : decode y_Rows_look.2.1 51 = .ok (.aload_n 0, 1) := by decide +kernel
theorem d_Rows_look_52 : decode y_Rows_look.2.1 52 = .ok (.getfield 13, 3) := by decide +kernel
theorem d_Rows_look_55 : decode y_Rows_look.2.1 55 = .ok (.iload_n 1, 1) := by decide +kernel
theorem d_Rows_look_56 : decode y_Rows_look.2.1 56 = .ok (.iconst 3, 1) := by decide +kernel
theorem d_Rows_look_57 : decode y_Rows_look.2.1 57 = .ok (.isub, 1) := by decide +kernel
theorem d_Rows_look_58 : decode y_Rows_look.2.1 58 = .ok (.iaload, 1) := by decide +kernel
theorem d_Rows_look_59 : decode y_Rows_look.2.1 59 = .ok (.goto 4, 3) := by decide +kernel
theorem d_Rows_look_62 : decode y_Rows_look.2.1 62 = .ok (.iconst 0, 1) := by decide +kernel
theorem d_Rows_look_63 : decode y_Rows_look.2.1 63 = .ok (.ireturn, 1) := by decide +kernel
theorem d_Rows_inWindow_0 : decode y_Rows_inWindow.2.1 0 = .ok (.iload_n 1, 1) := by decide +kernel
theorem d_Rows_inWindow_1 : decode y_Rows_inWindow.2.1 1 = .ok (.iconst 3, 1) := by decide +kernel
theorem d_Rows_inWindow_2 : decode y_Rows_inWindow.2.1 2 = .ok (.if_icmp .lt 13, 3) := by decide +kernel
theorem d_Rows_inWindow_5 : decode y_Rows_inWindow.2.1 5 = .ok (.iload_n 1, 1) := by decide +kernel
theorem d_Rows_inWindow_6 : decode y_Rows_inWindow.2.1 6 = .ok (.bipush 11, 2) := by decide +kernel
theorem d_Rows_inWindow_8 : decode y_Rows_inWindow.2.1 8 = .ok (.if_icmp .ge 7, 3) := by decide +kernel
theorem d_Rows_inWindow_11 : decode y_Rows_inWindow.2.1 11 = .ok (.iconst 1, 1) := by decide +kernel
theorem d_Rows_inWindow_12 : decode y_Rows_inWindow.2.1 12 = .ok (.goto 4, 3) := by decide +kernel
theorem d_Rows_inWindow_15 : decode y_Rows_inWindow.2.1 15 = .ok (.iconst 0, 1) := by decide +kernel
theorem d_Rows_inWindow_16 : decode y_Rows_inWindow.2.1 16 = .ok (.ireturn, 1) := by decide +kernel
theorem d_Rows_put_0 : decode y_Rows_put.2.1 0 = .ok (.iload_n 1, 1) := by decide +kernel
theorem d_Rows_put_1 : decode y_Rows_put.2.1 1 = .ok (.tableswitch 54 0 2 #[27, 38, 46], 27) := by decide +kernel
theorem d_Rows_put_28 : decode y_Rows_put.2.1 28 = .ok (.aload_n 0, 1) := by decide +kernel
theorem d_Rows_put_29 : decode y_Rows_put.2.1 29 = .ok (.iload_n 2, 1) := by decide +kernel
theorem d_Rows_put_30 : decode y_Rows_put.2.1 30 = .ok (.bipush 7, 2) := by decide +kernel
theorem d_Rows_put_32 : decode y_Rows_put.2.1 32 = .ok (.iand, 1) := by decide +kernel
theorem d_Rows_put_33 : decode y_Rows_put.2.1 33 = .ok (.putfield 16, 3) := by decide +kernel
theorem d_Rows_put_36 : decode y_Rows_put.2.1 36 = .ok (.goto 43, 3) := by decide +kernel
theorem d_Rows_put_39 : decode y_Rows_put.2.1 39 = .ok (.aload_n 0, 1) := by decide +kernel
theorem d_Rows_put_40 : decode y_Rows_put.2.1 40 = .ok (.iload_n 2, 1) := by decide +kernel
theorem d_Rows_put_41 : decode y_Rows_put.2.1 41 = .ok (.invokevirtual 36, 3) := by decide +kernel
theorem d_Rows_put_44 : decode y_Rows_put.2.1 44 = .ok (.goto 35, 3) := by decide +kernel
theorem d_Rows_put_47 : decode y_Rows_put.2.1 47 = .ok (.aload_n 0, 1) := by decide +kernel
theorem d_Rows_put_48 : decode y_Rows_put.2.1 48 = .ok (.iconst 0, 1) := by decide +kernel
theorem d_Rows_put_49 : decode y_Rows_put.2.1 49 = .ok (.putfield 29, 3) := by decide +kernel
theorem d_Rows_put_52 : decode y_Rows_put.2.1 52 = .ok (.goto 27, 3) := by decide +kernel
theorem d_Rows_put_55 : decode y_Rows_put.2.1 55 = .ok (.aload_n 0, 1) := by decide +kernel
theorem d_Rows_put_56 : decode y_Rows_put.2.1 56 = .ok (.iload_n 1, 1) := by decide +kernel
theorem d_Rows_put_57 : decode y_Rows_put.2.1 57 = .ok (.invokevirtual 32, 3) := by decide +kernel
theorem d_Rows_put_60 : decode y_Rows_put.2.1 60 = .ok (.ifCond .eq 19, 3) := by decide +kernel
theorem d_Rows_put_63 : decode y_Rows_put.2.1 63 = .ok (.aload_n 0, 1) := by decide +kernel
theorem d_Rows_put_64 : decode y_Rows_put.2.1 64 = .ok (.getfield 20, 3) := by decide +kernel
theorem d_Rows_put_67 : decode y_Rows_put.2.1 67 = .ok (.ifCond .ne 12, 3) := by decide +kernel
theorem d_Rows_put_70 : decode y_Rows_put.2.1 70 = .ok (.aload_n 0, 1) := by decide +kernel
theorem d_Rows_put_71 : decode y_Rows_put.2.1 71 = .ok (.getfield 13, 3) := by decide +kernel
theorem d_Rows_put_74 : decode y_Rows_put.2.1 74 = .ok (.iload_n 1, 1) := by decide +kernel
theorem d_Rows_put_75 : decode y_Rows_put.2.1 75 = .ok (.iconst 3, 1) := by decide +kernel
theorem d_Rows_put_76 : decode y_Rows_put.2.1 76 = .ok (.isub, 1) := by decide +kernel
theorem d_Rows_put_77 : decode y_Rows_put.2.1 77 = .ok (.iload_n 2, 1) := by decide +kernel
theorem d_Rows_put_78 : decode y_Rows_put.2.1 78 = .ok (.iastore, 1) := by decide +kernel
theorem d_Rows_put_79 : decode y_Rows_put.2.1 79 = .ok (.return_, 1) := by decide +kernel
theorem d_Rows_begin_0 : decode y_Rows_begin.2.1 0 = .ok (.aload_n 0, 1) := by decide +kernel
theorem d_Rows_begin_1 : decode y_Rows_begin.2.1 1 = .ok (.getfield 20, 3) := by decide +kernel
theorem d_Rows_begin_4 : decode y_Rows_begin.2.1 4 = .ok (.ifCond .ne 13, 3) := by decide +kernel
theorem d_Rows_begin_7 : decode y_Rows_begin.2.1 7 = .ok (.iload_n 1, 1) := by decide +kernel
theorem d_Rows_begin_8 : decode y_Rows_begin.2.1 8 = .ok (.iconst 1, 1) := by decide +kernel
theorem d_Rows_begin_9 : decode y_Rows_begin.2.1 9 = .ok (.if_icmp .eq 9, 3) := by decide +kernel
theorem d_Rows_begin_12 : decode y_Rows_begin.2.1 12 = .ok (.iload_n 1, 1) := by decide +kernel
theorem d_Rows_begin_13 : decode y_Rows_begin.2.1 13 = .ok (.iconst 2, 1) := by decide +kernel
theorem d_Rows_begin_14 : decode y_Rows_begin.2.1 14 = .ok (.if_icmp .eq 4, 3) := by decide +kernel
theorem d_Rows_begin_17 : decode y_Rows_begin.2.1 17 = .ok (.return_, 1) := by decide +kernel
theorem d_Rows_begin_18 : decode y_Rows_begin.2.1 18 = .ok (.aload_n 0, 1) := by decide +kernel
theorem d_Rows_begin_19 : decode y_Rows_begin.2.1 19 = .ok (.iload_n 1, 1) := by decide +kernel
theorem d_Rows_begin_20 : decode y_Rows_begin.2.1 20 = .ok (.putfield 20, 3) := by decide +kernel
theorem d_Rows_begin_23 : decode y_Rows_begin.2.1 23 = .ok (.aload_n 0, 1) := by decide +kernel
theorem d_Rows_begin_24 : decode y_Rows_begin.2.1 24 = .ok (.aload_n 0, 1) := by decide +kernel
theorem d_Rows_begin_25 : decode y_Rows_begin.2.1 25 = .ok (.getfield 16, 3) := by decide +kernel
theorem d_Rows_begin_28 : decode y_Rows_begin.2.1 28 = .ok (.putfield 23, 3) := by decide +kernel
theorem d_Rows_begin_31 : decode y_Rows_begin.2.1 31 = .ok (.aload_n 0, 1) := by decide +kernel
theorem d_Rows_begin_32 : decode y_Rows_begin.2.1 32 = .ok (.bipush 10, 2) := by decide +kernel
theorem d_Rows_begin_34 : decode y_Rows_begin.2.1 34 = .ok (.putfield 26, 3) := by decide +kernel
theorem d_Rows_begin_37 : decode y_Rows_begin.2.1 37 = .ok (.return_, 1) := by decide +kernel
theorem d_Rows_goOn_0 : decode y_Rows_goOn.2.1 0 = .ok (.aload_n 0, 1) := by decide +kernel
theorem d_Rows_goOn_1 : decode y_Rows_goOn.2.1 1 = .ok (.getfield 20, 3) := by decide +kernel
theorem d_Rows_goOn_4 : decode y_Rows_goOn.2.1 4 = .ok (.ifCond .eq 34, 3) := by decide +kernel
theorem d_Rows_goOn_7 : decode y_Rows_goOn.2.1 7 = .ok (.aload_n 0, 1) := by decide +kernel
theorem d_Rows_goOn_8 : decode y_Rows_goOn.2.1 8 = .ok (.dup, 1) := by decide +kernel
theorem d_Rows_goOn_9 : decode y_Rows_goOn.2.1 9 = .ok (.getfield 26, 3) := by decide +kernel
theorem d_Rows_goOn_12 : decode y_Rows_goOn.2.1 12 = .ok (.iconst 1, 1) := by decide +kernel
theorem d_Rows_goOn_13 : decode y_Rows_goOn.2.1 13 = .ok (.isub, 1) := by decide +kernel
theorem d_Rows_goOn_14 : decode y_Rows_goOn.2.1 14 = .ok (.putfield 26, 3) := by decide +kernel
theorem d_Rows_goOn_17 : decode y_Rows_goOn.2.1 17 = .ok (.aload_n 0, 1) := by decide +kernel
theorem d_Rows_goOn_18 : decode y_Rows_goOn.2.1 18 = .ok (.getfield 26, 3) := by decide +kernel
theorem d_Rows_goOn_21 : decode y_Rows_goOn.2.1 21 = .ok (.ifCond .ne 17, 3) := by decide +kernel
theorem d_Rows_goOn_24 : decode y_Rows_goOn.2.1 24 = .ok (.aload_n 0, 1) := by decide +kernel
theorem d_Rows_goOn_25 : decode y_Rows_goOn.2.1 25 = .ok (.invokevirtual 40, 3) := by decide +kernel
theorem d_Rows_goOn_28 : decode y_Rows_goOn.2.1 28 = .ok (.aload_n 0, 1) := by decide +kernel
theorem d_Rows_goOn_29 : decode y_Rows_goOn.2.1 29 = .ok (.iconst 0, 1) := by decide +kernel
theorem d_Rows_goOn_30 : decode y_Rows_goOn.2.1 30 = .ok (.putfield 20, 3) := by decide +kernel
theorem d_Rows_goOn_33 : decode y_Rows_goOn.2.1 33 = .ok (.aload_n 0, 1) := by decide +kernel
theorem d_Rows_goOn_34 : decode y_Rows_goOn.2.1 34 = .ok (.iconst 1, 1) := by decide +kernel
theorem d_Rows_goOn_35 : decode y_Rows_goOn.2.1 35 = .ok (.putfield 29, 3) := by decide +kernel
theorem d_Rows_goOn_38 : decode y_Rows_goOn.2.1 38 = .ok (.iconst 0, 1) := by decide +kernel
theorem d_Rows_goOn_39 : decode y_Rows_goOn.2.1 39 = .ok (.ireturn, 1) := by decide +kernel
theorem d_Rows_moveNumbers_0 : decode y_Rows_moveNumbers.2.1 0 = .ok (.aload_n 0, 1) := by decide +kernel
theorem d_Rows_moveNumbers_1 : decode y_Rows_moveNumbers.2.1 1 = .ok (.getfield 23, 3) := by decide +kernel
theorem d_Rows_moveNumbers_4 : decode y_Rows_moveNumbers.2.1 4 = .ok (.bipush 7, 2) := by decide +kernel
theorem d_Rows_moveNumbers_6 : decode y_Rows_moveNumbers.2.1 6 = .ok (.iand, 1) := by decide +kernel
theorem d_Rows_moveNumbers_7 : decode y_Rows_moveNumbers.2.1 7 = .ok (.bipush 8, 2) := by decide +kernel
theorem d_Rows_moveNumbers_9 : decode y_Rows_moveNumbers.2.1 9 = .ok (.imul, 1) := by decide +kernel
theorem d_Rows_moveNumbers_10 : decode y_Rows_moveNumbers.2.1 10 = .ok (.istore_n 1, 1) := by decide +kernel
theorem d_Rows_moveNumbers_11 : decode y_Rows_moveNumbers.2.1 11 = .ok (.iconst 0, 1) := by decide +kernel
theorem d_Rows_moveNumbers_12 : decode y_Rows_moveNumbers.2.1 12 = .ok (.istore_n 2, 1) := by decide +kernel
theorem d_Rows_moveNumbers_13 : decode y_Rows_moveNumbers.2.1 13 = .ok (.iload_n 2, 1) := by decide +kernel
theorem d_Rows_moveNumbers_14 : decode y_Rows_moveNumbers.2.1 14 = .ok (.bipush 8, 2) := by decide +kernel
theorem d_Rows_moveNumbers_16 : decode y_Rows_moveNumbers.2.1 16 = .ok (.if_icmp .ge 48, 3) := by decide +kernel
theorem d_Rows_moveNumbers_19 : decode y_Rows_moveNumbers.2.1 19 = .ok (.aload_n 0, 1) := by decide +kernel
theorem d_Rows_moveNumbers_20 : decode y_Rows_moveNumbers.2.1 20 = .ok (.getfield 20, 3) := by decide +kernel
theorem d_Rows_moveNumbers_23 : decode y_Rows_moveNumbers.2.1 23 = .ok (.iconst 1, 1) := by decide +kernel
theorem d_Rows_moveNumbers_24 : decode y_Rows_moveNumbers.2.1 24 = .ok (.if_icmp .ne 20, 3) := by decide +kernel
theorem d_Rows_moveNumbers_27 : decode y_Rows_moveNumbers.2.1 27 = .ok (.aload_n 0, 1) := by decide +kernel
theorem d_Rows_moveNumbers_28 : decode y_Rows_moveNumbers.2.1 28 = .ok (.getfield 13, 3) := by decide +kernel
theorem d_Rows_moveNumbers_31 : decode y_Rows_moveNumbers.2.1 31 = .ok (.iload_n 2, 1) := by decide +kernel
theorem d_Rows_moveNumbers_32 : decode y_Rows_moveNumbers.2.1 32 = .ok (.aload_n 0, 1) := by decide +kernel
theorem d_Rows_moveNumbers_33 : decode y_Rows_moveNumbers.2.1 33 = .ok (.getfield 9, 3) := by decide +kernel
theorem d_Rows_moveNumbers_36 : decode y_Rows_moveNumbers.2.1 36 = .ok (.iload_n 1, 1) := by decide +kernel
theorem d_Rows_moveNumbers_37 : decode y_Rows_moveNumbers.2.1 37 = .ok (.iload_n 2, 1) := by decide +kernel
theorem d_Rows_moveNumbers_38 : decode y_Rows_moveNumbers.2.1 38 = .ok (.iadd, 1) := by decide +kernel
theorem d_Rows_moveNumbers_39 : decode y_Rows_moveNumbers.2.1 39 = .ok (.iaload, 1) := by decide +kernel
theorem d_Rows_moveNumbers_40 : decode y_Rows_moveNumbers.2.1 40 = .ok (.iastore, 1) := by decide +kernel
theorem d_Rows_moveNumbers_41 : decode y_Rows_moveNumbers.2.1 41 = .ok (.goto 17, 3) := by decide +kernel
theorem d_Rows_moveNumbers_44 : decode y_Rows_moveNumbers.2.1 44 = .ok (.aload_n 0, 1) := by decide +kernel
theorem d_Rows_moveNumbers_45 : decode y_Rows_moveNumbers.2.1 45 = .ok (.getfield 9, 3) := by decide +kernel
theorem d_Rows_moveNumbers_48 : decode y_Rows_moveNumbers.2.1 48 = .ok (.iload_n 1, 1) := by decide +kernel
theorem d_Rows_moveNumbers_49 : decode y_Rows_moveNumbers.2.1 49 = .ok (.iload_n 2, 1) := by decide +kernel
theorem d_Rows_moveNumbers_50 : decode y_Rows_moveNumbers.2.1 50 = .ok (.iadd, 1) := by decide +kernel
theorem d_Rows_moveNumbers_51 : decode y_Rows_moveNumbers.2.1 51 = .ok (.aload_n 0, 1) := by decide +kernel
theorem d_Rows_moveNumbers_52 : decode y_Rows_moveNumbers.2.1 52 = .ok (.getfield 13, 3) := by decide +kernel
theorem d_Rows_moveNumbers_55 : decode y_Rows_moveNumbers.2.1 55 = .ok (.iload_n 2, 1) := by decide +kernel
theorem d_Rows_moveNumbers_56 : decode y_Rows_moveNumbers.2.1 56 = .ok (.iaload, 1) := by decide +kernel
theorem d_Rows_moveNumbers_57 : decode y_Rows_moveNumbers.2.1 57 = .ok (.iastore, 1) := by decide +kernel
theorem d_Rows_moveNumbers_58 : decode y_Rows_moveNumbers.2.1 58 = .ok (.iinc 2 1, 3) := by decide +kernel
theorem d_Rows_moveNumbers_61 : decode y_Rows_moveNumbers.2.1 61 = .ok (.goto (-48), 3) := by decide +kernel
theorem d_Rows_moveNumbers_64 : decode y_Rows_moveNumbers.2.1 64 = .ok (.return_, 1) := by decide +kernel
theorem d_Rows_wantsAttention_0 : decode y_Rows_wantsAttention.2.1 0 = .ok (.aload_n 0, 1) := by decide +kernel
theorem d_Rows_wantsAttention_1 : decode y_Rows_wantsAttention.2.1 1 = .ok (.getfield 29, 3) := by decide +kernel
theorem d_Rows_wantsAttention_4 : decode y_Rows_wantsAttention.2.1 4 = .ok (.iconst 1, 1) := by decide +kernel
theorem d_Rows_wantsAttention_5 : decode y_Rows_wantsAttention.2.1 5 = .ok (.if_icmp .ne 7, 3) := by decide +kernel
theorem d_Rows_wantsAttention_8 : decode y_Rows_wantsAttention.2.1 8 = .ok (.iconst 1, 1) := by decide +kernel
theorem d_Rows_wantsAttention_9 : decode y_Rows_wantsAttention.2.1 9 = .ok (.goto 4, 3) := by decide +kernel
theorem d_Rows_wantsAttention_12 : decode y_Rows_wantsAttention.2.1 12 = .ok (.iconst 0, 1) := by decide +kernel
theorem d_Rows_wantsAttention_13 : decode y_Rows_wantsAttention.2.1 13 = .ok (.ireturn, 1) := by decide +kernel
theorem d_Rows_beginAnew_0 : decode y_Rows_beginAnew.2.1 0 = .ok (.iconst 0, 1) := by decide +kernel
theorem d_Rows_beginAnew_1 : decode y_Rows_beginAnew.2.1 1 = .ok (.istore_n 1, 1) := by decide +kernel
theorem d_Rows_beginAnew_2 : decode y_Rows_beginAnew.2.1 2 = .ok (.iload_n 1, 1) := by decide +kernel
theorem d_Rows_beginAnew_3 : decode y_Rows_beginAnew.2.1 3 = .ok (.aload_n 0, 1) := by decide +kernel
theorem d_Rows_beginAnew_4 : decode y_Rows_beginAnew.2.1 4 = .ok (.getfield 13, 3) := by decide +kernel
theorem d_Rows_beginAnew_7 : decode y_Rows_beginAnew.2.1 7 = .ok (.arraylength, 1) := by decide +kernel
theorem d_Rows_beginAnew_8 : decode y_Rows_beginAnew.2.1 8 = .ok (.if_icmp .ge 16, 3) := by decide +kernel
theorem d_Rows_beginAnew_11 : decode y_Rows_beginAnew.2.1 11 = .ok (.aload_n 0, 1) := by decide +kernel
theorem d_Rows_beginAnew_12 : decode y_Rows_beginAnew.2.1 12 = .ok (.getfield 13, 3) := by decide +kernel
theorem d_Rows_beginAnew_15 : decode y_Rows_beginAnew.2.1 15 = .ok (.iload_n 1, 1) := by decide +kernel
theorem d_Rows_beginAnew_16 : decode y_Rows_beginAnew.2.1 16 = .ok (.iconst 0, 1) := by decide +kernel
theorem d_Rows_beginAnew_17 : decode y_Rows_beginAnew.2.1 17 = .ok (.iastore, 1) := by decide +kernel
theorem d_Rows_beginAnew_18 : decode y_Rows_beginAnew.2.1 18 = .ok (.iinc 1 1, 3) := by decide +kernel
theorem d_Rows_beginAnew_21 : decode y_Rows_beginAnew.2.1 21 = .ok (.goto (-19), 3) := by decide +kernel
theorem d_Rows_beginAnew_24 : decode y_Rows_beginAnew.2.1 24 = .ok (.aload_n 0, 1) := by decide +kernel
theorem d_Rows_beginAnew_25 : decode y_Rows_beginAnew.2.1 25 = .ok (.iconst 0, 1) := by decide +kernel
theorem d_Rows_beginAnew_26 : decode y_Rows_beginAnew.2.1 26 = .ok (.putfield 16, 3) := by decide +kernel
theorem d_Rows_beginAnew_29 : decode y_Rows_beginAnew.2.1 29 = .ok (.aload_n 0, 1) := by decide +kernel
theorem d_Rows_beginAnew_30 : decode y_Rows_beginAnew.2.1 30 = .ok (.iconst 0, 1) := by decide +kernel
theorem d_Rows_beginAnew_31 : decode y_Rows_beginAnew.2.1 31 = .ok (.putfield 20, 3) := by decide +kernel
theorem d_Rows_beginAnew_34 : decode y_Rows_beginAnew.2.1 34 = .ok (.aload_n 0, 1) := by decide +kernel
theorem d_Rows_beginAnew_35 : decode y_Rows_beginAnew.2.1 35 = .ok (.iconst 0, 1) := by decide +kernel
theorem d_Rows_beginAnew_36 : decode y_Rows_beginAnew.2.1 36 = .ok (.putfield 23, 3) := by decide +kernel
theorem d_Rows_beginAnew_39 : decode y_Rows_beginAnew.2.1 39 = .ok (.aload_n 0, 1) := by decide +kernel
theorem d_Rows_beginAnew_40 : decode y_Rows_beginAnew.2.1 40 = .ok (.iconst 0, 1) := by decide +kernel
theorem d_Rows_beginAnew_41 : decode y_Rows_beginAnew.2.1 41 = .ok (.putfield 26, 3) := by decide +kernel
theorem d_Rows_beginAnew_44 : decode y_Rows_beginAnew.2.1 44 = .ok (.aload_n 0, 1) := by decide +kernel
theorem d_Rows_beginAnew_45 : decode y_Rows_beginAnew.2.1 45 = .ok (.iconst 0, 1) := by decide +kernel
theorem d_Rows_beginAnew_46 : decode y_Rows_beginAnew.2.1 46 = .ok (.putfield 29, 3) := by decide +kernel
theorem d_Rows_beginAnew_49 : decode y_Rows_beginAnew.2.1 49 = .ok (.return_, 1) := by decide +kernel
theorem d_Serial_init_0 : decode y_Serial_init.2.1 0 = .ok (.aload_n 0, 1) := by decide +kernel
theorem d_Serial_init_1 : decode y_Serial_init.2.1 1 = .ok (.aload_n 1, 1) := by decide +kernel
theorem d_Serial_init_2 : decode y_Serial_init.2.1 2 = .ok (.invokespecial 3, 3) := by decide +kernel
theorem d_Serial_init_5 : decode y_Serial_init.2.1 5 = .ok (.aload_n 0, 1) := by decide +kernel
theorem d_Serial_init_6 : decode y_Serial_init.2.1 6 = .ok (.bipush 32, 2) := by decide +kernel
theorem d_Serial_init_8 : decode y_Serial_init.2.1 8 = .ok (.newarray .int, 2) := by decide +kernel
theorem d_Serial_init_10 : decode y_Serial_init.2.1 10 = .ok (.putfield 9, 3) := by decide +kernel
theorem d_Serial_init_13 : decode y_Serial_init.2.1 13 = .ok (.aload_n 0, 1) := by decide +kernel
theorem d_Serial_init_14 : decode y_Serial_init.2.1 14 = .ok (.iconst 0, 1) := by decide +kernel
theorem d_Serial_init_15 : decode y_Serial_init.2.1 15 = .ok (.putfield 13, 3) := by decide +kernel
theorem d_Serial_init_18 : decode y_Serial_init.2.1 18 = .ok (.aload_n 0, 1) := by decide +kernel
theorem d_Serial_init_19 : decode y_Serial_init.2.1 19 = .ok (.iconst 0, 1) := by decide +kernel
theorem d_Serial_init_20 : decode y_Serial_init.2.1 20 = .ok (.putfield 17, 3) := by decide +kernel
theorem d_Serial_init_23 : decode y_Serial_init.2.1 23 = .ok (.aload_n 0, 1) := by decide +kernel
theorem d_Serial_init_24 : decode y_Serial_init.2.1 24 = .ok (.bipush 32, 2) := by decide +kernel
theorem d_Serial_init_26 : decode y_Serial_init.2.1 26 = .ok (.newarray .int, 2) := by decide +kernel
theorem d_Serial_init_28 : decode y_Serial_init.2.1 28 = .ok (.putfield 20, 3) := by decide +kernel
theorem d_Serial_init_31 : decode y_Serial_init.2.1 31 = .ok (.aload_n 0, 1) := by decide +kernel
theorem d_Serial_init_32 : decode y_Serial_init.2.1 32 = .ok (.iconst 0, 1) := by decide +kernel
theorem d_Serial_init_33 : decode y_Serial_init.2.1 33 = .ok (.putfield 23, 3) := by decide +kernel
theorem d_Serial_init_36 : decode y_Serial_init.2.1 36 = .ok (.aload_n 0, 1) := by decide +kernel
theorem d_Serial_init_37 : decode y_Serial_init.2.1 37 = .ok (.iconst 0, 1) := by decide +kernel
theorem d_Serial_init_38 : decode y_Serial_init.2.1 38 = .ok (.putfield 26, 3) := by decide +kernel
theorem d_Serial_init_41 : decode y_Serial_init.2.1 41 = .ok (.aload_n 0, 1) := by decide +kernel
theorem d_Serial_init_42 : decode y_Serial_init.2.1 42 = .ok (.iconst 0, 1) := by decide +kernel
theorem d_Serial_init_43 : decode y_Serial_init.2.1 43 = .ok (.putfield 29, 3) := by decide +kernel
theorem d_Serial_init_46 : decode y_Serial_init.2.1 46 = .ok (.aload_n 0, 1) := by decide +kernel
theorem d_Serial_init_47 : decode y_Serial_init.2.1 47 = .ok (.iconst 0, 1) := by decide +kernel
theorem d_Serial_init_48 : decode y_Serial_init.2.1 48 = .ok (.putfield 32, 3) := by decide +kernel
theorem d_Serial_init_51 : decode y_Serial_init.2.1 51 = .ok (.return_, 1) := by decide +kernel
theorem d_Serial_isFull_0 : decode y_Serial_isFull.2.1 0 = .ok (.aload_n 0, 1) := by decide +kernel
theorem d_Serial_isFull_1 : decode y_Serial_isFull.2.1 1 = .ok (.getfield 17, 3) := by decide +kernel
theorem d_Serial_isFull_4 : decode y_Serial_isFull.2.1 4 = .ok (.bipush 32, 2) := by decide +kernel
theorem d_Serial_isFull_6 : decode y_Serial_isFull.2.1 6 = .ok (.if_icmp .lt 7, 3) := by decide +kernel
theorem d_Serial_isFull_9 : decode y_Serial_isFull.2.1 9 = .ok (.iconst 1, 1) := by decide +kernel
theorem d_Serial_isFull_10 : decode y_Serial_isFull.2.1 10 = .ok (.goto 4, 3) := by decide +kernel
theorem d_Serial_isFull_13 : decode y_Serial_isFull.2.1 13 = .ok (.iconst 0, 1) := by decide +kernel
theorem d_Serial_isFull_14 : decode y_Serial_isFull.2.1 14 = .ok (.ireturn, 1) := by decide +kernel
theorem d_Serial_accept_0 : decode y_Serial_accept.2.1 0 = .ok (.aload_n 0, 1) := by decide +kernel
theorem d_Serial_accept_1 : decode y_Serial_accept.2.1 1 = .ok (.getfield 9, 3) := by decide +kernel
theorem d_Serial_accept_4 : decode y_Serial_accept.2.1 4 = .ok (.aload_n 0, 1) := by decide +kernel
theorem d_Serial_accept_5 : decode y_Serial_accept.2.1 5 = .ok (.getfield 13, 3) := by decide +kernel
theorem d_Serial_accept_8 : decode y_Serial_accept.2.1 8 = .ok (.aload_n 0, 1) := by decide +kernel
theorem d_Serial_accept_9 : decode y_Serial_accept.2.1 9 = .ok (.getfield 17, 3) := by decide +kernel
theorem d_Serial_accept_12 : decode y_Serial_accept.2.1 12 = .ok (.iadd, 1) := by decide +kernel
theorem d_Serial_accept_13 : decode y_Serial_accept.2.1 13 = .ok (.bipush 31, 2) := by decide +kernel
theorem d_Serial_accept_15 : decode y_Serial_accept.2.1 15 = .ok (.iand, 1) := by decide +kernel
theorem d_Serial_accept_16 : decode y_Serial_accept.2.1 16 = .ok (.iload_n 1, 1) := by decide +kernel
theorem d_Serial_accept_17 : decode y_Serial_accept.2.1 17 = .ok (.iastore, 1) := by decide +kernel
theorem d_Serial_accept_18 : decode y_Serial_accept.2.1 18 = .ok (.aload_n 0, 1) := by decide +kernel
theorem d_Serial_accept_19 : decode y_Serial_accept.2.1 19 = .ok (.dup, 1) := by decide +kernel
theorem d_Serial_accept_20 : decode y_Serial_accept.2.1 20 = .ok (.getfield 17, 3) := by decide +kernel
theorem d_Serial_accept_23 : decode y_Serial_accept.2.1 23 = .ok (.iconst 1, 1) := by decide +kernel
theorem d_Serial_accept_24 : decode y_Serial_accept.2.1 24 = .ok (.iadd, 1) := by decide +kernel
theorem d_Serial_accept_25 : decode y_Serial_accept.2.1 25 = .ok (.putfield 17, 3) := by decide +kernel
theorem d_Serial_accept_28 : decode y_Serial_accept.2.1 28 = .ok (.aload_n 0, 1) := by decide +kernel
theorem d_Serial_accept_29 : decode y_Serial_accept.2.1 29 = .ok (.getfield 17, 3) := by decide +kernel
theorem d_Serial_accept_32 : decode y_Serial_accept.2.1 32 = .ok (.ireturn, 1) := by decide +kernel
theorem d_Serial_goneKept_0 : decode y_Serial_goneKept.2.1 0 = .ok (.aload_n 0, 1) := by decide +kernel
theorem d_Serial_goneKept_1 : decode y_Serial_goneKept.2.1 1 = .ok (.getfield 23, 3) := by decide +kernel
theorem d_Serial_goneKept_4 : decode y_Serial_goneKept.2.1 4 = .ok (.bipush 32, 2) := by decide +kernel
theorem d_Serial_goneKept_6 : decode y_Serial_goneKept.2.1 6 = .ok (.invokestatic 35, 3) := by decide +kernel
theorem d_Serial_goneKept_9 : decode y_Serial_goneKept.2.1 9 = .ok (.ireturn, 1) := by decide +kernel
theorem d_Serial_goneAt_0 : decode y_Serial_goneAt.2.1 0 = .ok (.aload_n 0, 1) := by decide +kernel
theorem d_Serial_goneAt_1 : decode y_Serial_goneAt.2.1 1 = .ok (.getfield 20, 3) := by decide +kernel
theorem d_Serial_goneAt_4 : decode y_Serial_goneAt.2.1 4 = .ok (.aload_n 0, 1) := by decide +kernel
theorem d_Serial_goneAt_5 : decode y_Serial_goneAt.2.1 5 = .ok (.getfield 23, 3) := by decide +kernel
theorem d_Serial_goneAt_8 : decode y_Serial_goneAt.2.1 8 = .ok (.aload_n 0, 1) := by decide +kernel
theorem d_Serial_goneAt_9 : decode y_Serial_goneAt.2.1 9 = .ok (.invokevirtual 41, 3) := by decide +kernel
theorem d_Serial_goneAt_12 : decode y_Serial_goneAt.2.1 12 = .ok (.isub, 1) := by decide +kernel
theorem d_Serial_goneAt_13 : decode y_Serial_goneAt.2.1 13 = .ok (.iload_n 1, 1) := by decide +kernel
theorem d_Serial_goneAt_14 : decode y_Serial_goneAt.2.1 14 = .ok (.iadd, 1) := by decide +kernel
theorem d_Serial_goneAt_15 : decode y_Serial_goneAt.2.1 15 = .ok (.bipush 31, 2) := by decide +kernel
theorem d_Serial_goneAt_17 : decode y_Serial_goneAt.2.1 17 = .ok (.iand, 1) := by decide +kernel
theorem d_Serial_goneAt_18 : decode y_Serial_goneAt.2.1 18 = .ok (.iaload, 1) := by decide +kernel
theorem d_Serial_goneAt_19 : decode y_Serial_goneAt.2.1 19 = .ok (.ireturn, 1) := by decide +kernel
theorem d_Serial_look_0 : decode y_Serial_look.2.1 0 = .ok (.iload_n 1, 1) := by decide +kernel
theorem d_Serial_look_1 : decode y_Serial_look.2.1 1 = .ok (.tableswitch 63 0 2 #[27, 32, 58], 27) := by decide +kernel
theorem d_Serial_look_28 : decode y_Serial_look.2.1 28 = .ok (.aload_n 0, 1) := by decide +kernel
theorem d_Serial_look_29 : decode y_Serial_look.2.1 29 = .ok (.invokevirtual 45, 3) := by decide +kernel
theorem d_Serial_look_32 : decode y_Serial_look.2.1 32 = .ok (.ireturn, 1) := by decide +kernel
theorem d_Serial_look_33 : decode y_Serial_look.2.1 33 = .ok (.aload_n 0, 1) := by decide +kernel
theorem d_Serial_look_34 : decode y_Serial_look.2.1 34 = .ok (.getfield 17, 3) := by decide +kernel
theorem d_Serial_look_37 : decode y_Serial_look.2.1 37 = .ok (.ifCond .le 7, 3) := by decide +kernel
theorem d_Serial_look_40 : decode y_Serial_look.2.1 40 = .ok (.iconst 1, 1) := by decide +kernel
theorem d_Serial_look_41 : decode y_Serial_look.2.1 41 = .ok (.goto 4, 3) := by decide +kernel
theorem d_Serial_look_44 : decode y_Serial_look.2.1 44 = .ok (.iconst 0, 1) := by decide +kernel
theorem d_Serial_look_45 : decode y_Serial_look.2.1 45 = .ok (.aload_n 0, 1) := by decide +kernel
theorem d_Serial_look_46 : decode y_Serial_look.2.1 46 = .ok (.getfield 29, 3) := by decide +kernel
theorem d_Serial_look_49 : decode y_Serial_look.2.1 49 = .ok (.ifCond .ne 7, 3) := by decide +kernel
theorem d_Serial_look_52 : decode y_Serial_look.2.1 52 = .ok (.iconst 2, 1) := by decide +kernel
theorem d_Serial_look_53 : decode y_Serial_look.2.1 53 = .ok (.goto 4, 3) := by decide +kernel
theorem d_Serial_look_56 : decode y_Serial_look.2.1 56 = .ok (.iconst 0, 1) := by decide +kernel
theorem d_Serial_look_57 : decode y_Serial_look.2.1 57 = .ok (.iadd, 1) := by decide +kernel
theorem d_Serial_look_58 : decode y_Serial_look.2.1 58 = .ok (.ireturn, 1) := by decide +kernel
theorem d_Serial_look_59 : decode y_Serial_look.2.1 59 = .ok (.aload_n 0, 1) := by decide +kernel
theorem d_Serial_look_60 : decode y_Serial_look.2.1 60 = .ok (.getfield 32, 3) := by decide +kernel
theorem d_Serial_look_63 : decode y_Serial_look.2.1 63 = .ok (.ireturn, 1) := by decide +kernel
theorem d_Serial_look_64 : decode y_Serial_look.2.1 64 = .ok (.iconst 0, 1) := by decide +kernel
theorem d_Serial_look_65 : decode y_Serial_look.2.1 65 = .ok (.ireturn, 1) := by decide +kernel
theorem d_Serial_nextCome_0 : decode y_Serial_nextCome.2.1 0 = .ok (.aload_n 0, 1) := by decide +kernel
theorem d_Serial_nextCome_1 : decode y_Serial_nextCome.2.1 1 = .ok (.getfield 17, 3) := by decide +kernel
theorem d_Serial_nextCome_4 : decode y_Serial_nextCome.2.1 4 = .ok (.ifCond .gt 5, 3) := by decide +kernel
theorem d_Serial_nextCome_7 : decode y_Serial_nextCome.2.1 7 = .ok (.iconst 0, 1) := by decide +kernel
theorem d_Serial_nextCome_8 : decode y_Serial_nextCome.2.1 8 = .ok (.ireturn, 1) := by decide +kernel
theorem d_Serial_nextCome_9 : decode y_Serial_nextCome.2.1 9 = .ok (.aload_n 0, 1) := by decide +kernel
theorem d_Serial_nextCome_10 : decode y_Serial_nextCome.2.1 10 = .ok (.getfield 9, 3) := by decide +kernel
theorem d_Serial_nextCome_13 : decode y_Serial_nextCome.2.1 13 = .ok (.aload_n 0, 1) := by decide +kernel
theorem d_Serial_nextCome_14 : decode y_Serial_nextCome.2.1 14 = .ok (.getfield 13, 3) := by decide +kernel
theorem d_Serial_nextCome_17 : decode y_Serial_nextCome.2.1 17 = .ok (.bipush 31, 2) := by decide +kernel
theorem d_Serial_nextCome_19 : decode y_Serial_nextCome.2.1 19 = .ok (.iand, 1) := by decide +kernel
theorem d_Serial_nextCome_20 : decode y_Serial_nextCome.2.1 20 = .ok (.iaload, 1) := by decide +kernel
theorem d_Serial_nextCome_21 : decode y_Serial_nextCome.2.1 21 = .ok (.istore_n 1, 1) := by decide +kernel
theorem d_Serial_nextCome_22 : decode y_Serial_nextCome.2.1 22 = .ok (.aload_n 0, 1) := by decide +kernel
theorem d_Serial_nextCome_23 : decode y_Serial_nextCome.2.1 23 = .ok (.aload_n 0, 1) := by decide +kernel
theorem d_Serial_nextCome_24 : decode y_Serial_nextCome.2.1 24 = .ok (.getfield 13, 3) := by decide +kernel
theorem d_Serial_nextCome_27 : decode y_Serial_nextCome.2.1 27 = .ok (.iconst 1, 1) := by decide +kernel
theorem d_Serial_nextCome_28 : decode y_Serial_nextCome.2.1 28 = .ok (.iadd, 1) := by decide +kernel
theorem d_Serial_nextCome_29 : decode y_Serial_nextCome.2.1 29 = .ok (.bipush 31, 2) := by decide +kernel
theorem d_Serial_nextCome_31 : decode y_Serial_nextCome.2.1 31 = .ok (.iand, 1) := by decide +kernel
theorem d_Serial_nextCome_32 : decode y_Serial_nextCome.2.1 32 = .ok (.putfield 13, 3) := by decide +kernel
theorem d_Serial_nextCome_35 : decode y_Serial_nextCome.2.1 35 = .ok (.aload_n 0, 1) := by decide +kernel
theorem d_Serial_nextCome_36 : decode y_Serial_nextCome.2.1 36 = .ok (.dup, 1) := by decide +kernel
theorem d_Serial_nextCome_37 : decode y_Serial_nextCome.2.1 37 = .ok (.getfield 17, 3) := by decide +kernel
theorem d_Serial_nextCome_40 : decode y_Serial_nextCome.2.1 40 = .ok (.iconst 1, 1) := by decide +kernel
theorem d_Serial_nextCome_41 : decode y_Serial_nextCome.2.1 41 = .ok (.isub, 1) := by decide +kernel
theorem d_Serial_nextCome_42 : decode y_Serial_nextCome.2.1 42 = .ok (.putfield 17, 3) := by decide +kernel
theorem d_Serial_nextCome_45 : decode y_Serial_nextCome.2.1 45 = .ok (.iload_n 1, 1) := by decide +kernel
theorem d_Serial_nextCome_46 : decode y_Serial_nextCome.2.1 46 = .ok (.ireturn, 1) := by decide +kernel
theorem d_Serial_put_0 : decode y_Serial_put.2.1 0 = .ok (.iload_n 1, 1) := by decide +kernel
theorem d_Serial_put_1 : decode y_Serial_put.2.1 1 = .ok (.ifCond .ne 27, 3) := by decide +kernel
theorem d_Serial_put_4 : decode y_Serial_put.2.1 4 = .ok (.aload_n 0, 1) := by decide +kernel
theorem d_Serial_put_5 : decode y_Serial_put.2.1 5 = .ok (.getfield 29, 3) := by decide +kernel
theorem d_Serial_put_8 : decode y_Serial_put.2.1 8 = .ok (.ifCond .ne 20, 3) := by decide +kernel
theorem d_Serial_put_11 : decode y_Serial_put.2.1 11 = .ok (.aload_n 0, 1) := by decide +kernel
theorem d_Serial_put_12 : decode y_Serial_put.2.1 12 = .ok (.iload_n 2, 1) := by decide +kernel
theorem d_Serial_put_13 : decode y_Serial_put.2.1 13 = .ok (.sipush 255, 3) := by decide +kernel
theorem d_Serial_put_16 : decode y_Serial_put.2.1 16 = .ok (.iand, 1) := by decide +kernel
theorem d_Serial_put_17 : decode y_Serial_put.2.1 17 = .ok (.putfield 26, 3) := by decide +kernel
theorem d_Serial_put_20 : decode y_Serial_put.2.1 20 = .ok (.aload_n 0, 1) := by decide +kernel
theorem d_Serial_put_21 : decode y_Serial_put.2.1 21 = .ok (.iconst 4, 1) := by decide +kernel
theorem d_Serial_put_22 : decode y_Serial_put.2.1 22 = .ok (.putfield 29, 3) := by decide +kernel
theorem d_Serial_put_25 : decode y_Serial_put.2.1 25 = .ok (.goto 15, 3) := by decide +kernel
theorem d_Serial_put_28 : decode y_Serial_put.2.1 28 = .ok (.iload_n 1, 1) := by decide +kernel
theorem d_Serial_put_29 : decode y_Serial_put.2.1 29 = .ok (.iconst 2, 1) := by decide +kernel
theorem d_Serial_put_30 : decode y_Serial_put.2.1 30 = .ok (.if_icmp .ne 10, 3) := by decide +kernel
theorem d_Serial_put_33 : decode y_Serial_put.2.1 33 = .ok (.aload_n 0, 1) := by decide +kernel
theorem d_Serial_put_34 : decode y_Serial_put.2.1 34 = .ok (.iload_n 2, 1) := by decide +kernel
theorem d_Serial_put_35 : decode y_Serial_put.2.1 35 = .ok (.iconst 3, 1) := by decide +kernel
theorem d_Serial_put_36 : decode y_Serial_put.2.1 36 = .ok (.iand, 1) := by decide +kernel
theorem d_Serial_put_37 : decode y_Serial_put.2.1 37 = .ok (.putfield 32, 3) := by decide +kernel
theorem d_Serial_put_40 : decode y_Serial_put.2.1 40 = .ok (.return_, 1) := by decide +kernel
theorem d_Serial_goOn_0 : decode y_Serial_goOn.2.1 0 = .ok (.aload_n 0, 1) := by decide +kernel
theorem d_Serial_goOn_1 : decode y_Serial_goOn.2.1 1 = .ok (.getfield 29, 3) := by decide +kernel
theorem d_Serial_goOn_4 : decode y_Serial_goOn.2.1 4 = .ok (.ifCond .le 46, 3) := by decide +kernel
theorem d_Serial_goOn_7 : decode y_Serial_goOn.2.1 7 = .ok (.aload_n 0, 1) := by decide +kernel
theorem d_Serial_goOn_8 : decode y_Serial_goOn.2.1 8 = .ok (.dup, 1) := by decide +kernel
theorem d_Serial_goOn_9 : decode y_Serial_goOn.2.1 9 = .ok (.getfield 29, 3) := by decide +kernel
theorem d_Serial_goOn_12 : decode y_Serial_goOn.2.1 12 = .ok (.iconst 1, 1) := by decide +kernel
theorem d_Serial_goOn_13 : decode y_Serial_goOn.2.1 13 = .ok (.isub, 1) := by decide +kernel
theorem d_Serial_goOn_14 : decode y_Serial_goOn.2.1 14 = .ok (.putfield 29, 3) := by decide +kernel
theorem d_Serial_goOn_17 : decode y_Serial_goOn.2.1 17 = .ok (.aload_n 0, 1) := by decide +kernel
theorem d_Serial_goOn_18 : decode y_Serial_goOn.2.1 18 = .ok (.getfield 29, 3) := by decide +kernel
theorem d_Serial_goOn_21 : decode y_Serial_goOn.2.1 21 = .ok (.ifCond .ne 29, 3) := by decide +kernel
theorem d_Serial_goOn_24 : decode y_Serial_goOn.2.1 24 = .ok (.aload_n 0, 1) := by decide +kernel
theorem d_Serial_goOn_25 : decode y_Serial_goOn.2.1 25 = .ok (.getfield 20, 3) := by decide +kernel
theorem d_Serial_goOn_28 : decode y_Serial_goOn.2.1 28 = .ok (.aload_n 0, 1) := by decide +kernel
theorem d_Serial_goOn_29 : decode y_Serial_goOn.2.1 29 = .ok (.getfield 23, 3) := by decide +kernel
theorem d_Serial_goOn_32 : decode y_Serial_goOn.2.1 32 = .ok (.bipush 31, 2) := by decide +kernel
theorem d_Serial_goOn_34 : decode y_Serial_goOn.2.1 34 = .ok (.iand, 1) := by decide +kernel
theorem d_Serial_goOn_35 : decode y_Serial_goOn.2.1 35 = .ok (.aload_n 0, 1) := by decide +kernel
theorem d_Serial_goOn_36 : decode y_Serial_goOn.2.1 36 = .ok (.getfield 26, 3) := by decide +kernel
theorem d_Serial_goOn_39 : decode y_Serial_goOn.2.1 39 = .ok (.iastore, 1) := by decide +kernel
theorem d_Serial_goOn_40 : decode y_Serial_goOn.2.1 40 = .ok (.aload_n 0, 1) := by decide +kernel
theorem d_Serial_goOn_41 : decode y_Serial_goOn.2.1 41 = .ok (.dup, 1) := by decide +kernel
theorem d_Serial_goOn_42 : decode y_Serial_goOn.2.1 42 = .ok (.getfield 23, 3) := by decide +kernel
theorem d_Serial_goOn_45 : decode y_Serial_goOn.2.1 45 = .ok (.iconst 1, 1) := by decide +kernel
theorem d_Serial_goOn_46 : decode y_Serial_goOn.2.1 46 = .ok (.iadd, 1) := by decide +kernel
theorem d_Serial_goOn_47 : decode y_Serial_goOn.2.1 47 = .ok (.putfield 23, 3) := by decide +kernel
theorem d_Serial_goOn_50 : decode y_Serial_goOn.2.1 50 = .ok (.iconst 0, 1) := by decide +kernel
theorem d_Serial_goOn_51 : decode y_Serial_goOn.2.1 51 = .ok (.ireturn, 1) := by decide +kernel
theorem d_Serial_wantsAttention_0 : decode y_Serial_wantsAttention.2.1 0 = .ok (.aload_n 0, 1) := by decide +kernel
theorem d_Serial_wantsAttention_1 : decode y_Serial_wantsAttention.2.1 1 = .ok (.getfield 32, 3) := by decide +kernel
theorem d_Serial_wantsAttention_4 : decode y_Serial_wantsAttention.2.1 4 = .ok (.iconst 1, 1) := by decide +kernel
theorem d_Serial_wantsAttention_5 : decode y_Serial_wantsAttention.2.1 5 = .ok (.iand, 1) := by decide +kernel
theorem d_Serial_wantsAttention_6 : decode y_Serial_wantsAttention.2.1 6 = .ok (.ifCond .eq 10, 3) := by decide +kernel
theorem d_Serial_wantsAttention_9 : decode y_Serial_wantsAttention.2.1 9 = .ok (.aload_n 0, 1) := by decide +kernel
theorem d_Serial_wantsAttention_10 : decode y_Serial_wantsAttention.2.1 10 = .ok (.getfield 17, 3) := by decide +kernel
theorem d_Serial_wantsAttention_13 : decode y_Serial_wantsAttention.2.1 13 = .ok (.ifCond .gt 19, 3) := by decide +kernel
theorem d_Serial_wantsAttention_16 : decode y_Serial_wantsAttention.2.1 16 = .ok (.aload_n 0, 1) := by decide +kernel
theorem d_Serial_wantsAttention_17 : decode y_Serial_wantsAttention.2.1 17 = .ok (.getfield 32, 3) := by decide +kernel
theorem d_Serial_wantsAttention_20 : decode y_Serial_wantsAttention.2.1 20 = .ok (.iconst 2, 1) := by decide +kernel
theorem d_Serial_wantsAttention_21 : decode y_Serial_wantsAttention.2.1 21 = .ok (.iand, 1) := by decide +kernel
theorem d_Serial_wantsAttention_22 : decode y_Serial_wantsAttention.2.1 22 = .ok (.ifCond .eq 14, 3) := by decide +kernel
theorem d_Serial_wantsAttention_25 : decode y_Serial_wantsAttention.2.1 25 = .ok (.aload_n 0, 1) := by decide +kernel
theorem d_Serial_wantsAttention_26 : decode y_Serial_wantsAttention.2.1 26 = .ok (.getfield 29, 3) := by decide +kernel
theorem d_Serial_wantsAttention_29 : decode y_Serial_wantsAttention.2.1 29 = .ok (.ifCond .ne 7, 3) := by decide +kernel
theorem d_Serial_wantsAttention_32 : decode y_Serial_wantsAttention.2.1 32 = .ok (.iconst 1, 1) := by decide +kernel
theorem d_Serial_wantsAttention_33 : decode y_Serial_wantsAttention.2.1 33 = .ok (.goto 4, 3) := by decide +kernel
theorem d_Serial_wantsAttention_36 : decode y_Serial_wantsAttention.2.1 36 = .ok (.iconst 0, 1) := by decide +kernel
theorem d_Serial_wantsAttention_37 : decode y_Serial_wantsAttention.2.1 37 = .ok (.ireturn, 1) := by decide +kernel
theorem d_Serial_beginAnew_0 : decode y_Serial_beginAnew.2.1 0 = .ok (.aload_n 0, 1) := by decide +kernel
theorem d_Serial_beginAnew_1 : decode y_Serial_beginAnew.2.1 1 = .ok (.iconst 0, 1) := by decide +kernel
theorem d_Serial_beginAnew_2 : decode y_Serial_beginAnew.2.1 2 = .ok (.putfield 13, 3) := by decide +kernel
theorem d_Serial_beginAnew_5 : decode y_Serial_beginAnew.2.1 5 = .ok (.aload_n 0, 1) := by decide +kernel
theorem d_Serial_beginAnew_6 : decode y_Serial_beginAnew.2.1 6 = .ok (.iconst 0, 1) := by decide +kernel
theorem d_Serial_beginAnew_7 : decode y_Serial_beginAnew.2.1 7 = .ok (.putfield 17, 3) := by decide +kernel
theorem d_Serial_beginAnew_10 : decode y_Serial_beginAnew.2.1 10 = .ok (.aload_n 0, 1) := by decide +kernel
theorem d_Serial_beginAnew_11 : decode y_Serial_beginAnew.2.1 11 = .ok (.iconst 0, 1) := by decide +kernel
theorem d_Serial_beginAnew_12 : decode y_Serial_beginAnew.2.1 12 = .ok (.putfield 23, 3) := by decide +kernel
theorem d_Serial_beginAnew_15 : decode y_Serial_beginAnew.2.1 15 = .ok (.aload_n 0, 1) := by decide +kernel
theorem d_Serial_beginAnew_16 : decode y_Serial_beginAnew.2.1 16 = .ok (.iconst 0, 1) := by decide +kernel
theorem d_Serial_beginAnew_17 : decode y_Serial_beginAnew.2.1 17 = .ok (.putfield 26, 3) := by decide +kernel
theorem d_Serial_beginAnew_20 : decode y_Serial_beginAnew.2.1 20 = .ok (.aload_n 0, 1) := by decide +kernel
theorem d_Serial_beginAnew_21 : decode y_Serial_beginAnew.2.1 21 = .ok (.iconst 0, 1) := by decide +kernel
theorem d_Serial_beginAnew_22 : decode y_Serial_beginAnew.2.1 22 = .ok (.putfield 29, 3) := by decide +kernel
theorem d_Serial_beginAnew_25 : decode y_Serial_beginAnew.2.1 25 = .ok (.aload_n 0, 1) := by decide +kernel
theorem d_Serial_beginAnew_26 : decode y_Serial_beginAnew.2.1 26 = .ok (.iconst 0, 1) := by decide +kernel
theorem d_Serial_beginAnew_27 : decode y_Serial_beginAnew.2.1 27 = .ok (.putfield 32, 3) := by decide +kernel
theorem d_Serial_beginAnew_30 : decode y_Serial_beginAnew.2.1 30 = .ok (.return_, 1) := by decide +kernel
end
section
theorem d_SP_init_0 : decode y_SP_init.2.1 0 = .ok (.aload_n 0, 1) := by decide +kernel
theorem d_SP_init_1 : decode y_SP_init.2.1 1 = .ok (.invokespecial 1, 3) := by decide +kernel
theorem d_SP_init_4 : decode y_SP_init.2.1 4 = .ok (.aload_n 0, 1) := by decide +kernel
theorem d_SP_init_5 : decode y_SP_init.2.1 5 = .ok (.bipush 12, 2) := by decide +kernel
theorem d_SP_init_7 : decode y_SP_init.2.1 7 = .ok (.anewarray 9, 3) := by decide +kernel
theorem d_SP_init_10 : decode y_SP_init.2.1 10 = .ok (.putfield 11, 3) := by decide +kernel
theorem d_SP_init_13 : decode y_SP_init.2.1 13 = .ok (.aload_n 0, 1) := by decide +kernel
theorem d_SP_init_14 : decode y_SP_init.2.1 14 = .ok (.new 15, 3) := by decide +kernel
theorem d_SP_init_17 : decode y_SP_init.2.1 17 = .ok (.dup, 1) := by decide +kernel
theorem d_SP_init_18 : decode y_SP_init.2.1 18 = .ok (.invokespecial 17, 3) := by decide +kernel
theorem d_SP_init_21 : decode y_SP_init.2.1 21 = .ok (.putfield 18, 3) := by decide +kernel
theorem d_SP_init_24 : decode y_SP_init.2.1 24 = .ok (.aload_n 0, 1) := by decide +kernel
theorem d_SP_init_25 : decode y_SP_init.2.1 25 = .ok (.iconst 4, 1) := by decide +kernel
theorem d_SP_init_26 : decode y_SP_init.2.1 26 = .ok (.newarray .int, 2) := by decide +kernel
theorem d_SP_init_28 : decode y_SP_init.2.1 28 = .ok (.putfield 22, 3) := by decide +kernel
theorem d_SP_init_31 : decode y_SP_init.2.1 31 = .ok (.aload_n 0, 1) := by decide +kernel
theorem d_SP_init_32 : decode y_SP_init.2.1 32 = .ok (.iconst 0, 1) := by decide +kernel
theorem d_SP_init_33 : decode y_SP_init.2.1 33 = .ok (.putfield 26, 3) := by decide +kernel
theorem d_SP_init_36 : decode y_SP_init.2.1 36 = .ok (.aload_n 0, 1) := by decide +kernel
theorem d_SP_init_37 : decode y_SP_init.2.1 37 = .ok (.iconst 0, 1) := by decide +kernel
theorem d_SP_init_38 : decode y_SP_init.2.1 38 = .ok (.putfield 30, 3) := by decide +kernel
theorem d_SP_init_41 : decode y_SP_init.2.1 41 = .ok (.aload_n 0, 1) := by decide +kernel
theorem d_SP_init_42 : decode y_SP_init.2.1 42 = .ok (.iconst 0, 1) := by decide +kernel
theorem d_SP_init_43 : decode y_SP_init.2.1 43 = .ok (.putfield 33, 3) := by decide +kernel
theorem d_SP_init_46 : decode y_SP_init.2.1 46 = .ok (.return_, 1) := by decide +kernel
theorem d_SP_part_0 : decode y_SP_part.2.1 0 = .ok (.iload_n 1, 1) := by decide +kernel
theorem d_SP_part_1 : decode y_SP_part.2.1 1 = .ok (.iload_n 3, 1) := by decide +kernel
theorem d_SP_part_2 : decode y_SP_part.2.1 2 = .ok (.invokestatic 36, 3) := by decide +kernel
theorem d_SP_part_5 : decode y_SP_part.2.1 5 = .ok (.istore 6, 2) := by decide +kernel
theorem d_SP_part_7 : decode y_SP_part.2.1 7 = .ok (.iload 6, 2) := by decide +kernel
theorem d_SP_part_9 : decode y_SP_part.2.1 9 = .ok (.ifCond .le 37, 3) := by decide +kernel
theorem d_SP_part_12 : decode y_SP_part.2.1 12 = .ok (.iload 4, 2) := by decide +kernel
theorem d_SP_part_14 : decode y_SP_part.2.1 14 = .ok (.invokestatic 40, 3) := by decide +kernel
theorem d_SP_part_17 : decode y_SP_part.2.1 17 = .ok (.ifCond .eq 29, 3) := by decide +kernel
theorem d_SP_part_20 : decode y_SP_part.2.1 20 = .ok (.iload 5, 2) := by decide +kernel
theorem d_SP_part_22 : decode y_SP_part.2.1 22 = .ok (.ifCond .lt 24, 3) := by decide +kernel
theorem d_SP_part_25 : decode y_SP_part.2.1 25 = .ok (.iload 5, 2) := by decide +kernel
theorem d_SP_part_27 : decode y_SP_part.2.1 27 = .ok (.bipush 7, 2) := by decide +kernel
theorem d_SP_part_29 : decode y_SP_part.2.1 29 = .ok (.if_icmp .gt 17, 3) := by decide +kernel
theorem d_SP_part_32 : decode y_SP_part.2.1 32 = .ok (.aload_n 0, 1) := by decide +kernel
theorem d_SP_part_33 : decode y_SP_part.2.1 33 = .ok (.iload_n 2, 1) := by decide +kernel
theorem d_SP_part_34 : decode y_SP_part.2.1 34 = .ok (.iload 6, 2) := by decide +kernel
theorem d_SP_part_36 : decode y_SP_part.2.1 36 = .ok (.invokevirtual 44, 3) := by decide +kernel
theorem d_SP_part_39 : decode y_SP_part.2.1 39 = .ok (.ifCond .eq 7, 3) := by decide +kernel
theorem d_SP_part_42 : decode y_SP_part.2.1 42 = .ok (.iconst 1, 1) := by decide +kernel
theorem d_SP_part_43 : decode y_SP_part.2.1 43 = .ok (.goto 4, 3) := by decide +kernel
theorem d_SP_part_46 : decode y_SP_part.2.1 46 = .ok (.iconst 0, 1) := by decide +kernel
theorem d_SP_part_47 : decode y_SP_part.2.1 47 = .ok (.istore 7, 2) := by decide +kernel
theorem d_SP_part_49 : decode y_SP_part.2.1 49 = .ok (.iload 7, 2) := by decide +kernel
theorem d_SP_part_51 : decode y_SP_part.2.1 51 = .ok (.ifCond .ne 13, 3) := by decide +kernel
theorem d_SP_part_54 : decode y_SP_part.2.1 54 = .ok (.new 48, 3) := by decide +kernel
theorem d_SP_part_57 : decode y_SP_part.2.1 57 = .ok (.dup, 1) := by decide +kernel
theorem d_SP_part_58 : decode y_SP_part.2.1 58 = .ok (.ldc 50, 2) := by decide +kernel
theorem d_SP_part_60 : decode y_SP_part.2.1 60 = .ok (.invokespecial 52, 3) := by decide +kernel
theorem d_SP_part_63 : decode y_SP_part.2.1 63 = .ok (.athrow, 1) := by decide +kernel
theorem d_SP_part_64 : decode y_SP_part.2.1 64 = .ok (.aload_n 0, 1) := by decide +kernel
theorem d_SP_part_65 : decode y_SP_part.2.1 65 = .ok (.getfield 26, 3) := by decide +kernel
theorem d_SP_part_68 : decode y_SP_part.2.1 68 = .ok (.ifCond .lt 15, 3) := by decide +kernel
theorem d_SP_part_71 : decode y_SP_part.2.1 71 = .ok (.aload_n 0, 1) := by decide +kernel
theorem d_SP_part_72 : decode y_SP_part.2.1 72 = .ok (.getfield 26, 3) := by decide +kernel
theorem d_SP_part_75 : decode y_SP_part.2.1 75 = .ok (.aload_n 0, 1) := by decide +kernel
theorem d_SP_part_76 : decode y_SP_part.2.1 76 = .ok (.getfield 11, 3) := by decide +kernel
theorem d_SP_part_79 : decode y_SP_part.2.1 79 = .ok (.arraylength, 1) := by decide +kernel
theorem d_SP_part_80 : decode y_SP_part.2.1 80 = .ok (.if_icmp .lt 13, 3) := by decide +kernel
theorem d_SP_part_83 : decode y_SP_part.2.1 83 = .ok (.new 55, 3) := by decide +kernel
theorem d_SP_part_86 : decode y_SP_part.2.1 86 = .ok (.dup, 1) := by decide +kernel
theorem d_SP_part_87 : decode y_SP_part.2.1 87 = .ok (.ldc 57, 2) := by decide +kernel
theorem d_SP_part_89 : decode y_SP_part.2.1 89 = .ok (.invokespecial 59, 3) := by decide +kernel
theorem d_SP_part_92 : decode y_SP_part.2.1 92 = .ok (.athrow, 1) := by decide +kernel
theorem d_SP_part_93 : decode y_SP_part.2.1 93 = .ok (.aload_n 0, 1) := by decide +kernel
theorem d_SP_part_94 : decode y_SP_part.2.1 94 = .ok (.getfield 26, 3) := by decide +kernel
theorem d_SP_part_97 : decode y_SP_part.2.1 97 = .ok (.istore 8, 2) := by decide +kernel
theorem d_SP_part_99 : decode y_SP_part.2.1 99 = .ok (.aload_n 0, 1) := by decide +kernel
theorem d_SP_part_100 : decode y_SP_part.2.1 100 = .ok (.getfield 11, 3) := by decide +kernel
theorem d_SP_part_103 : decode y_SP_part.2.1 103 = .ok (.iload 8, 2) := by decide +kernel
theorem d_SP_part_105 : decode y_SP_part.2.1 105 = .ok (.iload_n 1, 1) := by decide +kernel
theorem d_SP_part_106 : decode y_SP_part.2.1 106 = .ok (.new 60, 3) := by decide +kernel
theorem d_SP_part_109 : decode y_SP_part.2.1 109 = .ok (.dup, 1) := by decide +kernel
theorem d_SP_part_110 : decode y_SP_part.2.1 110 = .ok (.iload_n 2, 1) := by decide +kernel
theorem d_SP_part_111 : decode y_SP_part.2.1 111 = .ok (.iload 6, 2) := by decide +kernel
theorem d_SP_part_113 : decode y_SP_part.2.1 113 = .ok (.iload 4, 2) := by decide +kernel
theorem d_SP_part_115 : decode y_SP_part.2.1 115 = .ok (.iload 5, 2) := by decide +kernel
theorem d_SP_part_117 : decode y_SP_part.2.1 117 = .ok (.invokespecial 62, 3) := by decide +kernel
theorem d_SP_part_120 : decode y_SP_part.2.1 120 = .ok (.invokestatic 65, 3) := by decide +kernel
theorem d_SP_part_123 : decode y_SP_part.2.1 123 = .ok (.aastore, 1) := by decide +kernel
theorem d_SP_part_124 : decode y_SP_part.2.1 124 = .ok (.aload_n 0, 1) := by decide +kernel
theorem d_SP_part_125 : decode y_SP_part.2.1 125 = .ok (.iload 8, 2) := by decide +kernel
theorem d_SP_part_127 : decode y_SP_part.2.1 127 = .ok (.iconst 1, 1) := by decide +kernel
theorem d_SP_part_128 : decode y_SP_part.2.1 128 = .ok (.iadd, 1) := by decide +kernel
theorem d_SP_part_129 : decode y_SP_part.2.1 129 = .ok (.putfield 26, 3) := by decide +kernel
theorem d_SP_part_132 : decode y_SP_part.2.1 132 = .ok (.iload 8, 2) := by decide +kernel
theorem d_SP_part_134 : decode y_SP_part.2.1 134 = .ok (.ireturn, 1) := by decide +kernel
theorem d_SP_load_0 : decode y_SP_load.2.1 0 = .ok (.aload_n 0, 1) := by decide +kernel
theorem d_SP_load_1 : decode y_SP_load.2.1 1 = .ok (.iload_n 1, 1) := by decide +kernel
theorem d_SP_load_2 : decode y_SP_load.2.1 2 = .ok (.invokevirtual 69, 3) := by decide +kernel
theorem d_SP_load_5 : decode y_SP_load.2.1 5 = .ok (.astore 4, 2) := by decide +kernel
theorem d_SP_load_7 : decode y_SP_load.2.1 7 = .ok (.aload 4, 2) := by decide +kernel
theorem d_SP_load_9 : decode y_SP_load.2.1 9 = .ok (.instanceof 73, 3) := by decide +kernel
theorem d_SP_load_12 : decode y_SP_load.2.1 12 = .ok (.ifCond .eq 38, 3) := by decide +kernel
theorem d_SP_load_15 : decode y_SP_load.2.1 15 = .ok (.aload 4, 2) := by decide +kernel
theorem d_SP_load_17 : decode y_SP_load.2.1 17 = .ok (.checkcast 73, 3) := by decide +kernel
theorem d_SP_load_20 : decode y_SP_load.2.1 20 = .ok (.astore_n 3, 1) := by decide +kernel
theorem d_SP_load_21 : decode y_SP_load.2.1 21 = .ok (.iload_n 1, 1) := by decide +kernel
theorem d_SP_load_22 : decode y_SP_load.2.1 22 = .ok (.aload_n 3, 1) := by decide +kernel
theorem d_SP_load_23 : decode y_SP_load.2.1 23 = .ok (.getfield 75, 3) := by decide +kernel
theorem d_SP_load_26 : decode y_SP_load.2.1 26 = .ok (.getfield 79, 3) := by decide +kernel
theorem d_SP_load_29 : decode y_SP_load.2.1 29 = .ok (.isub, 1) := by decide +kernel
theorem d_SP_load_30 : decode y_SP_load.2.1 30 = .ok (.istore 4, 2) := by decide +kernel
theorem d_SP_load_32 : decode y_SP_load.2.1 32 = .ok (.aload_n 3, 1) := by decide +kernel
theorem d_SP_load_33 : decode y_SP_load.2.1 33 = .ok (.iload 4, 2) := by decide +kernel
theorem d_SP_load_35 : decode y_SP_load.2.1 35 = .ok (.invokevirtual 82, 3) := by decide +kernel
theorem d_SP_load_38 : decode y_SP_load.2.1 38 = .ok (.istore 5, 2) := by decide +kernel
theorem d_SP_load_40 : decode y_SP_load.2.1 40 = .ok (.aload_n 3, 1) := by decide +kernel
theorem d_SP_load_41 : decode y_SP_load.2.1 41 = .ok (.iload 4, 2) := by decide +kernel
theorem d_SP_load_43 : decode y_SP_load.2.1 43 = .ok (.iload_n 2, 1) := by decide +kernel
theorem d_SP_load_44 : decode y_SP_load.2.1 44 = .ok (.invokevirtual 86, 3) := by decide +kernel
theorem d_SP_load_47 : decode y_SP_load.2.1 47 = .ok (.iload 5, 2) := by decide +kernel
theorem d_SP_load_49 : decode y_SP_load.2.1 49 = .ok (.ireturn, 1) := by decide +kernel
theorem d_SP_load_50 : decode y_SP_load.2.1 50 = .ok (.new 48, 3) := by decide +kernel
theorem d_SP_load_53 : decode y_SP_load.2.1 53 = .ok (.dup, 1) := by decide +kernel
theorem d_SP_load_54 : decode y_SP_load.2.1 54 = .ok (.ldc 90, 2) := by decide +kernel
theorem d_SP_load_56 : decode y_SP_load.2.1 56 = .ok (.invokespecial 52, 3) := by decide +kernel
theorem d_SP_load_59 : decode y_SP_load.2.1 59 = .ok (.athrow, 1) := by decide +kernel
theorem d_SP_read_0 : decode y_SP_read.2.1 0 = .ok (.aload_n 0, 1) := by decide +kernel
theorem d_SP_read_1 : decode y_SP_read.2.1 1 = .ok (.iload_n 1, 1) := by decide +kernel
theorem d_SP_read_2 : decode y_SP_read.2.1 2 = .ok (.invokevirtual 92, 3) := by decide +kernel
theorem d_SP_read_5 : decode y_SP_read.2.1 5 = .ok (.astore_n 2, 1) := by decide +kernel
theorem d_SP_read_6 : decode y_SP_read.2.1 6 = .ok (.aload_n 0, 1) := by decide +kernel
theorem d_SP_read_7 : decode y_SP_read.2.1 7 = .ok (.iconst 1, 1) := by decide +kernel
theorem d_SP_read_8 : decode y_SP_read.2.1 8 = .ok (.invokevirtual 95, 3) := by decide +kernel
theorem d_SP_read_11 : decode y_SP_read.2.1 11 = .ok (.aload_n 2, 1) := by decide +kernel
theorem d_SP_read_12 : decode y_SP_read.2.1 12 = .ok (.iload_n 1, 1) := by decide +kernel
theorem d_SP_read_13 : decode y_SP_read.2.1 13 = .ok (.aload_n 2, 1) := by decide +kernel
theorem d_SP_read_14 : decode y_SP_read.2.1 14 = .ok (.getfield 99, 3) := by decide +kernel
theorem d_SP_read_17 : decode y_SP_read.2.1 17 = .ok (.getfield 79, 3) := by decide +kernel
theorem d_SP_read_20 : decode y_SP_read.2.1 20 = .ok (.isub, 1) := by decide +kernel
theorem d_SP_read_21 : decode y_SP_read.2.1 21 = .ok (.invokevirtual 100, 3) := by decide +kernel
theorem d_SP_read_24 : decode y_SP_read.2.1 24 = .ok (.istore_n 3, 1) := by decide +kernel
theorem d_SP_read_25 : decode y_SP_read.2.1 25 = .ok (.aload_n 0, 1) := by decide +kernel
theorem d_SP_read_26 : decode y_SP_read.2.1 26 = .ok (.getfield 18, 3) := by decide +kernel
theorem d_SP_read_29 : decode y_SP_read.2.1 29 = .ok (.aload_n 0, 1) := by decide +kernel
theorem d_SP_read_30 : decode y_SP_read.2.1 30 = .ok (.invokevirtual 101, 3) := by decide +kernel
theorem d_SP_read_33 : decode y_SP_read.2.1 33 = .ok (.invokevirtual 105, 3) := by decide +kernel
theorem d_SP_read_36 : decode y_SP_read.2.1 36 = .ok (.iload_n 3, 1) := by decide +kernel
theorem d_SP_read_37 : decode y_SP_read.2.1 37 = .ok (.ireturn, 1) := by decide +kernel
theorem d_SP_write_0 : decode y_SP_write.2.1 0 = .ok (.aload_n 0, 1) := by decide +kernel
theorem d_SP_write_1 : decode y_SP_write.2.1 1 = .ok (.iload_n 1, 1) := by decide +kernel
theorem d_SP_write_2 : decode y_SP_write.2.1 2 = .ok (.invokevirtual 92, 3) := by decide +kernel
theorem d_SP_write_5 : decode y_SP_write.2.1 5 = .ok (.astore_n 3, 1) := by decide +kernel
theorem d_SP_write_6 : decode y_SP_write.2.1 6 = .ok (.aload_n 3, 1) := by decide +kernel
theorem d_SP_write_7 : decode y_SP_write.2.1 7 = .ok (.invokevirtual 108, 3) := by decide +kernel
theorem d_SP_write_10 : decode y_SP_write.2.1 10 = .ok (.ifCond .eq 18, 3) := by decide +kernel
theorem d_SP_write_13 : decode y_SP_write.2.1 13 = .ok (.aload_n 0, 1) := by decide +kernel
theorem d_SP_write_14 : decode y_SP_write.2.1 14 = .ok (.iconst 3, 1) := by decide +kernel
theorem d_SP_write_15 : decode y_SP_write.2.1 15 = .ok (.invokevirtual 95, 3) := by decide +kernel
theorem d_SP_write_18 : decode y_SP_write.2.1 18 = .ok (.new 112, 3) := by decide +kernel
theorem d_SP_write_21 : decode y_SP_write.2.1 21 = .ok (.dup, 1) := by decide +kernel
theorem d_SP_write_22 : decode y_SP_write.2.1 22 = .ok (.ldc 114, 2) := by decide +kernel
theorem d_SP_write_24 : decode y_SP_write.2.1 24 = .ok (.invokespecial 116, 3) := by decide +kernel
theorem d_SP_write_27 : decode y_SP_write.2.1 27 = .ok (.athrow, 1) := by decide +kernel
theorem d_SP_write_28 : decode y_SP_write.2.1 28 = .ok (.aload_n 0, 1) := by decide +kernel
theorem d_SP_write_29 : decode y_SP_write.2.1 29 = .ok (.iconst 2, 1) := by decide +kernel
theorem d_SP_write_30 : decode y_SP_write.2.1 30 = .ok (.invokevirtual 95, 3) := by decide +kernel
theorem d_SP_write_33 : decode y_SP_write.2.1 33 = .ok (.aload_n 3, 1) := by decide +kernel
theorem d_SP_write_34 : decode y_SP_write.2.1 34 = .ok (.iload_n 1, 1) := by decide +kernel
theorem d_SP_write_35 : decode y_SP_write.2.1 35 = .ok (.aload_n 3, 1) := by decide +kernel
theorem d_SP_write_36 : decode y_SP_write.2.1 36 = .ok (.getfield 99, 3) := by decide +kernel
theorem d_SP_write_39 : decode y_SP_write.2.1 39 = .ok (.getfield 79, 3) := by decide +kernel
theorem d_SP_write_42 : decode y_SP_write.2.1 42 = .ok (.isub, 1) := by decide +kernel
theorem d_SP_write_43 : decode y_SP_write.2.1 43 = .ok (.iload_n 2, 1) := by decide +kernel
theorem d_SP_write_44 : decode y_SP_write.2.1 44 = .ok (.invokevirtual 117, 3) := by decide +kernel
theorem d_SP_write_47 : decode y_SP_write.2.1 47 = .ok (.aload_n 0, 1) := by decide +kernel
theorem d_SP_write_48 : decode y_SP_write.2.1 48 = .ok (.getfield 18, 3) := by decide +kernel
theorem d_SP_write_51 : decode y_SP_write.2.1 51 = .ok (.aload_n 0, 1) := by decide +kernel
theorem d_SP_write_52 : decode y_SP_write.2.1 52 = .ok (.invokevirtual 101, 3) := by decide +kernel
theorem d_SP_write_55 : decode y_SP_write.2.1 55 = .ok (.invokevirtual 105, 3) := by decide +kernel
theorem d_SP_write_58 : decode y_SP_write.2.1 58 = .ok (.aload_n 3, 1) := by decide +kernel
theorem d_SP_write_59 : decode y_SP_write.2.1 59 = .ok (.getfield 99, 3) := by decide +kernel
theorem d_SP_write_62 : decode y_SP_write.2.1 62 = .ok (.invokevirtual 118, 3) := by decide +kernel
theorem d_SP_write_65 : decode y_SP_write.2.1 65 = .ok (.ireturn, 1) := by decide +kernel
theorem d_SP_step_0 : decode y_SP_step.2.1 0 = .ok (.iload_n 1, 1) := by decide +kernel
theorem d_SP_step_1 : decode y_SP_step.2.1 1 = .ok (.iconst 1, 1) := by decide +kernel
theorem d_SP_step_2 : decode y_SP_step.2.1 2 = .ok (.if_icmp .lt 10, 3) := by decide +kernel
theorem d_SP_step_5 : decode y_SP_step.2.1 5 = .ok (.iload_n 1, 1) := by decide +kernel
theorem d_SP_step_6 : decode y_SP_step.2.1 6 = .ok (.sipush 1000, 3) := by decide +kernel
theorem d_SP_step_9 : decode y_SP_step.2.1 9 = .ok (.if_icmp .le 13, 3) := by decide +kernel
theorem d_SP_step_12 : decode y_SP_step.2.1 12 = .ok (.new 48, 3) := by decide +kernel
theorem d_SP_step_15 : decode y_SP_step.2.1 15 = .ok (.dup, 1) := by decide +kernel
theorem d_SP_step_16 : decode y_SP_step.2.1 16 = .ok (.ldc 121, 2) := by decide +kernel
theorem d_SP_step_18 : decode y_SP_step.2.1 18 = .ok (.invokespecial 52, 3) := by decide +kernel
theorem d_SP_step_21 : decode y_SP_step.2.1 21 = .ok (.athrow, 1) := by decide +kernel
theorem d_SP_step_22 : decode y_SP_step.2.1 22 = .ok (.aload_n 0, 1) := by decide +kernel
theorem d_SP_step_23 : decode y_SP_step.2.1 23 = .ok (.iload_n 1, 1) := by decide +kernel
theorem d_SP_step_24 : decode y_SP_step.2.1 24 = .ok (.invokevirtual 123, 3) := by decide +kernel
theorem d_SP_step_27 : decode y_SP_step.2.1 27 = .ok (.ireturn, 1) := by decide +kernel
theorem d_SP_receive_0 : decode y_SP_receive.2.1 0 = .ok (.aload_n 0, 1) := by decide +kernel
theorem d_SP_receive_1 : decode y_SP_receive.2.1 1 = .ok (.iload_n 1, 1) := by decide +kernel
theorem d_SP_receive_2 : decode y_SP_receive.2.1 2 = .ok (.invokevirtual 126, 3) := by decide +kernel
theorem d_SP_receive_5 : decode y_SP_receive.2.1 5 = .ok (.astore_n 3, 1) := by decide +kernel
theorem d_SP_receive_6 : decode y_SP_receive.2.1 6 = .ok (.aload_n 3, 1) := by decide +kernel
theorem d_SP_receive_7 : decode y_SP_receive.2.1 7 = .ok (.invokevirtual 130, 3) := by decide +kernel
theorem d_SP_receive_10 : decode y_SP_receive.2.1 10 = .ok (.ifCond .eq 13, 3) := by decide +kernel
theorem d_SP_receive_13 : decode y_SP_receive.2.1 13 = .ok (.new 55, 3) := by decide +kernel
theorem d_SP_receive_16 : decode y_SP_receive.2.1 16 = .ok (.dup, 1) := by decide +kernel
theorem d_SP_receive_17 : decode y_SP_receive.2.1 17 = .ok (.ldc 135, 2) := by decide +kernel
theorem d_SP_receive_19 : decode y_SP_receive.2.1 19 = .ok (.invokespecial 59, 3) := by decide +kernel
theorem d_SP_receive_22 : decode y_SP_receive.2.1 22 = .ok (.athrow, 1) := by decide +kernel
theorem d_SP_receive_23 : decode y_SP_receive.2.1 23 = .ok (.aload_n 3, 1) := by decide +kernel
theorem d_SP_receive_24 : decode y_SP_receive.2.1 24 = .ok (.iload_n 2, 1) := by decide +kernel
theorem d_SP_receive_25 : decode y_SP_receive.2.1 25 = .ok (.invokevirtual 137, 3) := by decide +kernel
theorem d_SP_receive_28 : decode y_SP_receive.2.1 28 = .ok (.ireturn, 1) := by decide +kernel
theorem d_SP_sent_0 : decode y_SP_sent.2.1 0 = .ok (.aload_n 0, 1) := by decide +kernel
theorem d_SP_sent_1 : decode y_SP_sent.2.1 1 = .ok (.iload_n 1, 1) := by decide +kernel
theorem d_SP_sent_2 : decode y_SP_sent.2.1 2 = .ok (.invokevirtual 126, 3) := by decide +kernel
theorem d_SP_sent_5 : decode y_SP_sent.2.1 5 = .ok (.astore_n 3, 1) := by decide +kernel
theorem d_SP_sent_6 : decode y_SP_sent.2.1 6 = .ok (.iload_n 2, 1) := by decide +kernel
theorem d_SP_sent_7 : decode y_SP_sent.2.1 7 = .ok (.ifCond .lt 11, 3) := by decide +kernel
theorem d_SP_sent_10 : decode y_SP_sent.2.1 10 = .ok (.iload_n 2, 1) := by decide +kernel
theorem d_SP_sent_11 : decode y_SP_sent.2.1 11 = .ok (.aload_n 3, 1) := by decide +kernel
theorem d_SP_sent_12 : decode y_SP_sent.2.1 12 = .ok (.invokevirtual 140, 3) := by decide +kernel
theorem d_SP_sent_15 : decode y_SP_sent.2.1 15 = .ok (.if_icmp .lt 13, 3) := by decide +kernel
theorem d_SP_sent_18 : decode y_SP_sent.2.1 18 = .ok (.new 143, 3) := by decide +kernel
theorem d_SP_sent_21 : decode y_SP_sent.2.1 21 = .ok (.dup, 1) := by decide +kernel
theorem d_SP_sent_22 : decode y_SP_sent.2.1 22 = .ok (.ldc 145, 2) := by decide +kernel
theorem d_SP_sent_24 : decode y_SP_sent.2.1 24 = .ok (.invokespecial 147, 3) := by decide +kernel
theorem d_SP_sent_27 : decode y_SP_sent.2.1 27 = .ok (.athrow, 1) := by decide +kernel
theorem d_SP_sent_28 : decode y_SP_sent.2.1 28 = .ok (.aload_n 3, 1) := by decide +kernel
theorem d_SP_sent_29 : decode y_SP_sent.2.1 29 = .ok (.iload_n 2, 1) := by decide +kernel
theorem d_SP_sent_30 : decode y_SP_sent.2.1 30 = .ok (.invokevirtual 148, 3) := by decide +kernel
theorem d_SP_sent_33 : decode y_SP_sent.2.1 33 = .ok (.ireturn, 1) := by decide +kernel
theorem d_SP_line_0 : decode y_SP_line.2.1 0 = .ok (.iload_n 1, 1) := by decide +kernel
theorem d_SP_line_1 : decode y_SP_line.2.1 1 = .ok (.invokestatic 40, 3) := by decide +kernel
theorem d_SP_line_4 : decode y_SP_line.2.1 4 = .ok (.ifCond .ne 13, 3) := by decide +kernel
theorem d_SP_line_7 : decode y_SP_line.2.1 7 = .ok (.new 143, 3) := by decide +kernel
theorem d_SP_line_10 : decode y_SP_line.2.1 10 = .ok (.dup, 1) := by decide +kernel
theorem d_SP_line_11 : decode y_SP_line.2.1 11 = .ok (.ldc 151, 2) := by decide +kernel
theorem d_SP_line_13 : decode y_SP_line.2.1 13 = .ok (.invokespecial 147, 3) := by decide +kernel
theorem d_SP_line_16 : decode y_SP_line.2.1 16 = .ok (.athrow, 1) := by decide +kernel
theorem d_SP_line_17 : decode y_SP_line.2.1 17 = .ok (.iload_n 3, 1) := by decide +kernel
theorem d_SP_line_18 : decode y_SP_line.2.1 18 = .ok (.ifCond .lt 11, 3) := by decide +kernel
theorem d_SP_line_21 : decode y_SP_line.2.1 21 = .ok (.iload_n 3, 1) := by decide +kernel
theorem d_SP_line_22 : decode y_SP_line.2.1 22 = .ok (.iload_n 2, 1) := by decide +kernel
theorem d_SP_line_23 : decode y_SP_line.2.1 23 = .ok (.invokestatic 153, 3) := by decide +kernel
theorem d_SP_line_26 : decode y_SP_line.2.1 26 = .ok (.if_icmp .le 13, 3) := by decide +kernel
theorem d_SP_line_29 : decode y_SP_line.2.1 29 = .ok (.new 48, 3) := by decide +kernel
theorem d_SP_line_32 : decode y_SP_line.2.1 32 = .ok (.dup, 1) := by decide +kernel
theorem d_SP_line_33 : decode y_SP_line.2.1 33 = .ok (.ldc 156, 2) := by decide +kernel
theorem d_SP_line_35 : decode y_SP_line.2.1 35 = .ok (.invokespecial 52, 3) := by decide +kernel
theorem d_SP_line_38 : decode y_SP_line.2.1 38 = .ok (.athrow, 1) := by decide +kernel
theorem d_SP_line_39 : decode y_SP_line.2.1 39 = .ok (.aload_n 0, 1) := by decide +kernel
theorem d_SP_line_40 : decode y_SP_line.2.1 40 = .ok (.getfield 18, 3) := by decide +kernel
theorem d_SP_line_43 : decode y_SP_line.2.1 43 = .ok (.iload_n 1, 1) := by decide +kernel
theorem d_SP_line_44 : decode y_SP_line.2.1 44 = .ok (.iload_n 2, 1) := by decide +kernel
theorem d_SP_line_45 : decode y_SP_line.2.1 45 = .ok (.iload_n 3, 1) := by decide +kernel
theorem d_SP_line_46 : decode y_SP_line.2.1 46 = .ok (.invokevirtual 158, 3) := by decide +kernel
theorem d_SP_line_49 : decode y_SP_line.2.1 49 = .ok (.ireturn, 1) := by decide +kernel
theorem d_SP_asks_0 : decode y_SP_asks.2.1 0 = .ok (.iload_n 1, 1) := by decide +kernel
theorem d_SP_asks_1 : decode y_SP_asks.2.1 1 = .ok (.invokestatic 40, 3) := by decide +kernel
theorem d_SP_asks_4 : decode y_SP_asks.2.1 4 = .ok (.ifCond .ne 13, 3) := by decide +kernel
theorem d_SP_asks_7 : decode y_SP_asks.2.1 7 = .ok (.new 143, 3) := by decide +kernel
theorem d_SP_asks_10 : decode y_SP_asks.2.1 10 = .ok (.dup, 1) := by decide +kernel
theorem d_SP_asks_11 : decode y_SP_asks.2.1 11 = .ok (.ldc 151, 2) := by decide +kernel
theorem d_SP_asks_13 : decode y_SP_asks.2.1 13 = .ok (.invokespecial 147, 3) := by decide +kernel
theorem d_SP_asks_16 : decode y_SP_asks.2.1 16 = .ok (.athrow, 1) := by decide +kernel
theorem d_SP_asks_17 : decode y_SP_asks.2.1 17 = .ok (.aload_n 0, 1) := by decide +kernel
theorem d_SP_asks_18 : decode y_SP_asks.2.1 18 = .ok (.getfield 18, 3) := by decide +kernel
theorem d_SP_asks_21 : decode y_SP_asks.2.1 21 = .ok (.getfield 162, 3) := by decide +kernel
theorem d_SP_asks_24 : decode y_SP_asks.2.1 24 = .ok (.iload_n 1, 1) := by decide +kernel
theorem d_SP_asks_25 : decode y_SP_asks.2.1 25 = .ok (.ishr, 1) := by decide +kernel
theorem d_SP_asks_26 : decode y_SP_asks.2.1 26 = .ok (.iconst 1, 1) := by decide +kernel
theorem d_SP_asks_27 : decode y_SP_asks.2.1 27 = .ok (.iand, 1) := by decide +kernel
theorem d_SP_asks_28 : decode y_SP_asks.2.1 28 = .ok (.istore_n 2, 1) := by decide +kernel
theorem d_SP_asks_29 : decode y_SP_asks.2.1 29 = .ok (.aload_n 0, 1) := by decide +kernel
theorem d_SP_asks_30 : decode y_SP_asks.2.1 30 = .ok (.getfield 18, 3) := by decide +kernel
theorem d_SP_asks_33 : decode y_SP_asks.2.1 33 = .ok (.invokevirtual 165, 3) := by decide +kernel
theorem d_SP_asks_36 : decode y_SP_asks.2.1 36 = .ok (.iload_n 1, 1) := by decide +kernel
theorem d_SP_asks_37 : decode y_SP_asks.2.1 37 = .ok (.ishr, 1) := by decide +kernel
theorem d_SP_asks_38 : decode y_SP_asks.2.1 38 = .ok (.iconst 1, 1) := by decide +kernel
theorem d_SP_asks_39 : decode y_SP_asks.2.1 39 = .ok (.iand, 1) := by decide +kernel
theorem d_SP_asks_40 : decode y_SP_asks.2.1 40 = .ok (.istore_n 3, 1) := by decide +kernel
theorem d_SP_asks_41 : decode y_SP_asks.2.1 41 = .ok (.iload_n 2, 1) := by decide +kernel
theorem d_SP_asks_42 : decode y_SP_asks.2.1 42 = .ok (.iconst 2, 1) := by decide +kernel
theorem d_SP_asks_43 : decode y_SP_asks.2.1 43 = .ok (.iload_n 3, 1) := by decide +kernel
theorem d_SP_asks_44 : decode y_SP_asks.2.1 44 = .ok (.imul, 1) := by decide +kernel
theorem d_SP_asks_45 : decode y_SP_asks.2.1 45 = .ok (.iadd, 1) := by decide +kernel
theorem d_SP_asks_46 : decode y_SP_asks.2.1 46 = .ok (.ireturn, 1) := by decide +kernel
theorem d_SP_chosen_0 : decode y_SP_chosen.2.1 0 = .ok (.aload_n 0, 1) := by decide +kernel
theorem d_SP_chosen_1 : decode y_SP_chosen.2.1 1 = .ok (.getfield 18, 3) := by decide +kernel
theorem d_SP_chosen_4 : decode y_SP_chosen.2.1 4 = .ok (.invokevirtual 168, 3) := by decide +kernel
theorem d_SP_chosen_7 : decode y_SP_chosen.2.1 7 = .ok (.ireturn, 1) := by decide +kernel
theorem d_SP_take_0 : decode y_SP_take.2.1 0 = .ok (.aload_n 0, 1) := by decide +kernel
theorem d_SP_take_1 : decode y_SP_take.2.1 1 = .ok (.getfield 18, 3) := by decide +kernel
theorem d_SP_take_4 : decode y_SP_take.2.1 4 = .ok (.invokevirtual 168, 3) := by decide +kernel
theorem d_SP_take_7 : decode y_SP_take.2.1 7 = .ok (.istore_n 1, 1) := by decide +kernel
theorem d_SP_take_8 : decode y_SP_take.2.1 8 = .ok (.iload_n 1, 1) := by decide +kernel
theorem d_SP_take_9 : decode y_SP_take.2.1 9 = .ok (.iconst (-1), 1) := by decide +kernel
theorem d_SP_take_10 : decode y_SP_take.2.1 10 = .ok (.if_icmp .eq 11, 3) := by decide +kernel
theorem d_SP_take_13 : decode y_SP_take.2.1 13 = .ok (.aload_n 0, 1) := by decide +kernel
theorem d_SP_take_14 : decode y_SP_take.2.1 14 = .ok (.getfield 18, 3) := by decide +kernel
theorem d_SP_take_17 : decode y_SP_take.2.1 17 = .ok (.iload_n 1, 1) := by decide +kernel
theorem d_SP_take_18 : decode y_SP_take.2.1 18 = .ok (.invokevirtual 171, 3) := by decide +kernel
theorem d_SP_take_21 : decode y_SP_take.2.1 21 = .ok (.iload_n 1, 1) := by decide +kernel
theorem d_SP_take_22 : decode y_SP_take.2.1 22 = .ok (.ireturn, 1) := by decide +kernel
theorem d_SP_reset_0 : decode y_SP_reset.2.1 0 = .ok (.aload_n 0, 1) := by decide +kernel
theorem d_SP_reset_1 : decode y_SP_reset.2.1 1 = .ok (.getfield 33, 3) := by decide +kernel
theorem d_SP_reset_4 : decode y_SP_reset.2.1 4 = .ok (.istore_n 1, 1) := by decide +kernel
theorem d_SP_reset_5 : decode y_SP_reset.2.1 5 = .ok (.aload_n 0, 1) := by decide +kernel
theorem d_SP_reset_6 : decode y_SP_reset.2.1 6 = .ok (.iconst 1, 1) := by decide +kernel
theorem d_SP_reset_7 : decode y_SP_reset.2.1 7 = .ok (.invokevirtual 174, 3) := by decide +kernel
theorem d_SP_reset_10 : decode y_SP_reset.2.1 10 = .ok (.iload_n 1, 1) := by decide +kernel
theorem d_SP_reset_11 : decode y_SP_reset.2.1 11 = .ok (.ireturn, 1) := by decide +kernel
theorem d_SP_count_0 : decode y_SP_count.2.1 0 = .ok (.iload_n 1, 1) := by decide +kernel
theorem d_SP_count_1 : decode y_SP_count.2.1 1 = .ok (.tableswitch 117 0 9 #[55, 60, 65, 72, 79, 86, 91, 99, 107, 112], 55) := by decide +kernel
theorem d_SP_count_56 : decode y_SP_count.2.1 56 = .ok (.aload_n 0, 1) := by decide +kernel
theorem d_SP_count_57 : decode y_SP_count.2.1 57 = .ok (.getfield 30, 3) := by decide +kernel
theorem d_SP_count_60 : decode y_SP_count.2.1 60 = .ok (.ireturn, 1) := by decide +kernel
theorem d_SP_count_61 : decode y_SP_count.2.1 61 = .ok (.aload_n 0, 1) := by decide +kernel
theorem d_SP_count_62 : decode y_SP_count.2.1 62 = .ok (.getfield 26, 3) := by decide +kernel
theorem d_SP_count_65 : decode y_SP_count.2.1 65 = .ok (.ireturn, 1) := by decide +kernel
theorem d_SP_count_66 : decode y_SP_count.2.1 66 = .ok (.aload_n 0, 1) := by decide +kernel
theorem d_SP_count_67 : decode y_SP_count.2.1 67 = .ok (.getfield 22, 3) := by decide +kernel
theorem d_SP_count_70 : decode y_SP_count.2.1 70 = .ok (.iconst 1, 1) := by decide +kernel
theorem d_SP_count_71 : decode y_SP_count.2.1 71 = .ok (.iaload, 1) := by decide +kernel
theorem d_SP_count_72 : decode y_SP_count.2.1 72 = .ok (.ireturn, 1) := by decide +kernel
theorem d_SP_count_73 : decode y_SP_count.2.1 73 = .ok (.aload_n 0, 1) := by decide +kernel
theorem d_SP_count_74 : decode y_SP_count.2.1 74 = .ok (.getfield 22, 3) := by decide +kernel
theorem d_SP_count_77 : decode y_SP_count.2.1 77 = .ok (.iconst 2, 1) := by decide +kernel
theorem d_SP_count_78 : decode y_SP_count.2.1 78 = .ok (.iaload, 1) := by decide +kernel
theorem d_SP_count_79 : decode y_SP_count.2.1 79 = .ok (.ireturn, 1) := by decide +kernel
theorem d_SP_count_80 : decode y_SP_count.2.1 80 = .ok (.aload_n 0, 1) := by decide +kernel
theorem d_SP_count_81 : decode y_SP_count.2.1 81 = .ok (.getfield 22, 3) := by decide +kernel
theorem d_SP_count_84 : decode y_SP_count.2.1 84 = .ok (.iconst 3, 1) := by decide +kernel
theorem d_SP_count_85 : decode y_SP_count.2.1 85 = .ok (.iaload, 1) := by decide +kernel
theorem d_SP_count_86 : decode y_SP_count.2.1 86 = .ok (.ireturn, 1) := by decide +kernel
theorem d_SP_count_87 : decode y_SP_count.2.1 87 = .ok (.aload_n 0, 1) := by decide +kernel
theorem d_SP_count_88 : decode y_SP_count.2.1 88 = .ok (.getfield 33, 3) := by decide +kernel
theorem d_SP_count_91 : decode y_SP_count.2.1 91 = .ok (.ireturn, 1) := by decide +kernel
theorem d_SP_count_92 : decode y_SP_count.2.1 92 = .ok (.aload_n 0, 1) := by decide +kernel
theorem d_SP_count_93 : decode y_SP_count.2.1 93 = .ok (.getfield 18, 3) := by decide +kernel
theorem d_SP_count_96 : decode y_SP_count.2.1 96 = .ok (.getfield 162, 3) := by decide +kernel
theorem d_SP_count_99 : decode y_SP_count.2.1 99 = .ok (.ireturn, 1) := by decide +kernel
theorem d_SP_count_100 : decode y_SP_count.2.1 100 = .ok (.aload_n 0, 1) := by decide +kernel
theorem d_SP_count_101 : decode y_SP_count.2.1 101 = .ok (.getfield 18, 3) := by decide +kernel
theorem d_SP_count_104 : decode y_SP_count.2.1 104 = .ok (.invokevirtual 165, 3) := by decide +kernel
theorem d_SP_count_107 : decode y_SP_count.2.1 107 = .ok (.ireturn, 1) := by decide +kernel
theorem d_SP_count_108 : decode y_SP_count.2.1 108 = .ok (.aload_n 0, 1) := by decide +kernel
theorem d_SP_count_109 : decode y_SP_count.2.1 109 = .ok (.invokevirtual 177, 3) := by decide +kernel
theorem d_SP_count_112 : decode y_SP_count.2.1 112 = .ok (.ireturn, 1) := by decide +kernel
theorem d_SP_count_113 : decode y_SP_count.2.1 113 = .ok (.aload_n 0, 1) := by decide +kernel
theorem d_SP_count_114 : decode y_SP_count.2.1 114 = .ok (.invokevirtual 180, 3) := by decide +kernel
theorem d_SP_count_117 : decode y_SP_count.2.1 117 = .ok (.ireturn, 1) := by decide +kernel
theorem d_SP_count_118 : decode y_SP_count.2.1 118 = .ok (.iconst (-1), 1) := by decide +kernel
theorem d_SP_count_119 : decode y_SP_count.2.1 119 = .ok (.ireturn, 1) := by decide +kernel
theorem d_SP_isPlace_0 : decode y_SP_isPlace.2.1 0 = .ok (.iload_n 0, 1) := by decide +kernel
theorem d_SP_isPlace_1 : decode y_SP_isPlace.2.1 1 = .ok (.ifCond .lt 13, 3) := by decide +kernel
theorem d_SP_isPlace_4 : decode y_SP_isPlace.2.1 4 = .ok (.iload_n 0, 1) := by decide +kernel
theorem d_SP_isPlace_5 : decode y_SP_isPlace.2.1 5 = .ok (.ldc 183, 2) := by decide +kernel
theorem d_SP_isPlace_7 : decode y_SP_isPlace.2.1 7 = .ok (.if_icmp .ge 7, 3) := by decide +kernel
theorem d_SP_isPlace_10 : decode y_SP_isPlace.2.1 10 = .ok (.iconst 1, 1) := by decide +kernel
theorem d_SP_isPlace_11 : decode y_SP_isPlace.2.1 11 = .ok (.goto 4, 3) := by decide +kernel
theorem d_SP_isPlace_14 : decode y_SP_isPlace.2.1 14 = .ok (.iconst 0, 1) := by decide +kernel
theorem d_SP_isPlace_15 : decode y_SP_isPlace.2.1 15 = .ok (.ireturn, 1) := by decide +kernel
theorem d_SP_isLine_0 : decode y_SP_isLine.2.1 0 = .ok (.iload_n 0, 1) := by decide +kernel
theorem d_SP_isLine_1 : decode y_SP_isLine.2.1 1 = .ok (.ifCond .lt 13, 3) := by decide +kernel
theorem d_SP_isLine_4 : decode y_SP_isLine.2.1 4 = .ok (.iload_n 0, 1) := by decide +kernel
theorem d_SP_isLine_5 : decode y_SP_isLine.2.1 5 = .ok (.bipush 16, 2) := by decide +kernel
theorem d_SP_isLine_7 : decode y_SP_isLine.2.1 7 = .ok (.if_icmp .ge 7, 3) := by decide +kernel
theorem d_SP_isLine_10 : decode y_SP_isLine.2.1 10 = .ok (.iconst 1, 1) := by decide +kernel
theorem d_SP_isLine_11 : decode y_SP_isLine.2.1 11 = .ok (.goto 4, 3) := by decide +kernel
theorem d_SP_isLine_14 : decode y_SP_isLine.2.1 14 = .ok (.iconst 0, 1) := by decide +kernel
theorem d_SP_isLine_15 : decode y_SP_isLine.2.1 15 = .ok (.ireturn, 1) := by decide +kernel
theorem d_SP_lengthOf_0 : decode y_SP_lengthOf.2.1 0 = .ok (.iload_n 0, 1) := by decide +kernel
theorem d_SP_lengthOf_1 : decode y_SP_lengthOf.2.1 1 = .ok (.tableswitch 65 0 5 #[39, 39, 56, 58, 60, 63], 39) := by decide +kernel
theorem d_SP_lengthOf_40 : decode y_SP_lengthOf.2.1 40 = .ok (.iload_n 1, 1) := by decide +kernel
theorem d_SP_lengthOf_41 : decode y_SP_lengthOf.2.1 41 = .ok (.iconst 1, 1) := by decide +kernel
theorem d_SP_lengthOf_42 : decode y_SP_lengthOf.2.1 42 = .ok (.if_icmp .lt 13, 3) := by decide +kernel
theorem d_SP_lengthOf_45 : decode y_SP_lengthOf.2.1 45 = .ok (.iload_n 1, 1) := by decide +kernel
theorem d_SP_lengthOf_46 : decode y_SP_lengthOf.2.1 46 = .ok (.bipush 64, 2) := by decide +kernel
theorem d_SP_lengthOf_48 : decode y_SP_lengthOf.2.1 48 = .ok (.if_icmp .gt 7, 3) := by decide +kernel
theorem d_SP_lengthOf_51 : decode y_SP_lengthOf.2.1 51 = .ok (.iload_n 1, 1) := by decide +kernel
theorem d_SP_lengthOf_52 : decode y_SP_lengthOf.2.1 52 = .ok (.goto 4, 3) := by decide +kernel
theorem d_SP_lengthOf_55 : decode y_SP_lengthOf.2.1 55 = .ok (.iconst 0, 1) := by decide +kernel
theorem d_SP_lengthOf_56 : decode y_SP_lengthOf.2.1 56 = .ok (.ireturn, 1) := by decide +kernel
theorem d_SP_lengthOf_57 : decode y_SP_lengthOf.2.1 57 = .ok (.iconst 4, 1) := by decide +kernel
theorem d_SP_lengthOf_58 : decode y_SP_lengthOf.2.1 58 = .ok (.ireturn, 1) := by decide +kernel
theorem d_SP_lengthOf_59 : decode y_SP_lengthOf.2.1 59 = .ok (.iconst 3, 1) := by decide +kernel
theorem d_SP_lengthOf_60 : decode y_SP_lengthOf.2.1 60 = .ok (.ireturn, 1) := by decide +kernel
theorem d_SP_lengthOf_61 : decode y_SP_lengthOf.2.1 61 = .ok (.bipush 11, 2) := by decide +kernel
theorem d_SP_lengthOf_63 : decode y_SP_lengthOf.2.1 63 = .ok (.ireturn, 1) := by decide +kernel
theorem d_SP_lengthOf_64 : decode y_SP_lengthOf.2.1 64 = .ok (.iconst 4, 1) := by decide +kernel
theorem d_SP_lengthOf_65 : decode y_SP_lengthOf.2.1 65 = .ok (.ireturn, 1) := by decide +kernel
theorem d_SP_lengthOf_66 : decode y_SP_lengthOf.2.1 66 = .ok (.iconst 0, 1) := by decide +kernel
theorem d_SP_lengthOf_67 : decode y_SP_lengthOf.2.1 67 = .ok (.ireturn, 1) := by decide +kernel
theorem d_SP_newPart_0 : decode y_SP_newPart.2.1 0 = .ok (.iload_n 0, 1) := by decide +kernel
theorem d_SP_newPart_1 : decode y_SP_newPart.2.1 1 = .ok (.tableswitch 82 0 4 #[35, 45, 55, 64, 73], 35) := by decide +kernel
theorem d_SP_newPart_36 : decode y_SP_newPart.2.1 36 = .ok (.new 73, 3) := by decide +kernel
theorem d_SP_newPart_39 : decode y_SP_newPart.2.1 39 = .ok (.dup, 1) := by decide +kernel
theorem d_SP_newPart_40 : decode y_SP_newPart.2.1 40 = .ok (.aload_n 1, 1) := by decide +kernel
theorem d_SP_newPart_41 : decode y_SP_newPart.2.1 41 = .ok (.iconst 0, 1) := by decide +kernel
theorem d_SP_newPart_42 : decode y_SP_newPart.2.1 42 = .ok (.invokespecial 188, 3) := by decide +kernel
theorem d_SP_newPart_45 : decode y_SP_newPart.2.1 45 = .ok (.areturn, 1) := by decide +kernel
theorem d_SP_newPart_46 : decode y_SP_newPart.2.1 46 = .ok (.new 73, 3) := by decide +kernel
theorem d_SP_newPart_49 : decode y_SP_newPart.2.1 49 = .ok (.dup, 1) := by decide +kernel
theorem d_SP_newPart_50 : decode y_SP_newPart.2.1 50 = .ok (.aload_n 1, 1) := by decide +kernel
theorem d_SP_newPart_51 : decode y_SP_newPart.2.1 51 = .ok (.iconst 1, 1) := by decide +kernel
theorem d_SP_newPart_52 : decode y_SP_newPart.2.1 52 = .ok (.invokespecial 188, 3) := by decide +kernel
theorem d_SP_newPart_55 : decode y_SP_newPart.2.1 55 = .ok (.areturn, 1) := by decide +kernel
theorem d_SP_newPart_56 : decode y_SP_newPart.2.1 56 = .ok (.new 184, 3) := by decide +kernel
theorem d_SP_newPart_59 : decode y_SP_newPart.2.1 59 = .ok (.dup, 1) := by decide +kernel
theorem d_SP_newPart_60 : decode y_SP_newPart.2.1 60 = .ok (.aload_n 1, 1) := by decide +kernel
theorem d_SP_newPart_61 : decode y_SP_newPart.2.1 61 = .ok (.invokespecial 191, 3) := by decide +kernel
theorem d_SP_newPart_64 : decode y_SP_newPart.2.1 64 = .ok (.areturn, 1) := by decide +kernel
theorem d_SP_newPart_65 : decode y_SP_newPart.2.1 65 = .ok (.new 131, 3) := by decide +kernel
theorem d_SP_newPart_68 : decode y_SP_newPart.2.1 68 = .ok (.dup, 1) := by decide +kernel
theorem d_SP_newPart_69 : decode y_SP_newPart.2.1 69 = .ok (.aload_n 1, 1) := by decide +kernel
theorem d_SP_newPart_70 : decode y_SP_newPart.2.1 70 = .ok (.invokespecial 194, 3) := by decide +kernel
theorem d_SP_newPart_73 : decode y_SP_newPart.2.1 73 = .ok (.areturn, 1) := by decide +kernel
theorem d_SP_newPart_74 : decode y_SP_newPart.2.1 74 = .ok (.new 186, 3) := by decide +kernel
theorem d_SP_newPart_77 : decode y_SP_newPart.2.1 77 = .ok (.dup, 1) := by decide +kernel
theorem d_SP_newPart_78 : decode y_SP_newPart.2.1 78 = .ok (.aload_n 1, 1) := by decide +kernel
theorem d_SP_newPart_79 : decode y_SP_newPart.2.1 79 = .ok (.invokespecial 195, 3) := by decide +kernel
theorem d_SP_newPart_82 : decode y_SP_newPart.2.1 82 = .ok (.areturn, 1) := by decide +kernel
theorem d_SP_newPart_83 : decode y_SP_newPart.2.1 83 = .ok (.new 196, 3) := by decide +kernel
theorem d_SP_newPart_86 : decode y_SP_newPart.2.1 86 = .ok (.dup, 1) := by decide +kernel
theorem d_SP_newPart_87 : decode y_SP_newPart.2.1 87 = .ok (.aload_n 1, 1) := by decide +kernel
theorem d_SP_newPart_88 : decode y_SP_newPart.2.1 88 = .ok (.invokespecial 198, 3) := by decide +kernel
theorem d_SP_newPart_91 : decode y_SP_newPart.2.1 91 = .ok (.areturn, 1) := by decide +kernel
theorem d_SP_isFree_0 : decode y_SP_isFree.2.1 0 = .ok (.iload_n 1, 1) := by decide +kernel
theorem d_SP_isFree_1 : decode y_SP_isFree.2.1 1 = .ok (.invokestatic 199, 3) := by decide +kernel
theorem d_SP_isFree_4 : decode y_SP_isFree.2.1 4 = .ok (.ifCond .eq 11, 3) := by decide +kernel
theorem d_SP_isFree_7 : decode y_SP_isFree.2.1 7 = .ok (.iload_n 2, 1) := by decide +kernel
theorem d_SP_isFree_8 : decode y_SP_isFree.2.1 8 = .ok (.ldc 183, 2) := by decide +kernel
theorem d_SP_isFree_10 : decode y_SP_isFree.2.1 10 = .ok (.iload_n 1, 1) := by decide +kernel
theorem d_SP_isFree_11 : decode y_SP_isFree.2.1 11 = .ok (.isub, 1) := by decide +kernel
theorem d_SP_isFree_12 : decode y_SP_isFree.2.1 12 = .ok (.if_icmp .le 5, 3) := by decide +kernel
theorem d_SP_isFree_15 : decode y_SP_isFree.2.1 15 = .ok (.iconst 0, 1) := by decide +kernel
theorem d_SP_isFree_16 : decode y_SP_isFree.2.1 16 = .ok (.ireturn, 1) := by decide +kernel
theorem d_SP_isFree_17 : decode y_SP_isFree.2.1 17 = .ok (.iconst 0, 1) := by decide +kernel
theorem d_SP_isFree_18 : decode y_SP_isFree.2.1 18 = .ok (.istore_n 3, 1) := by decide +kernel
theorem d_SP_isFree_19 : decode y_SP_isFree.2.1 19 = .ok (.iload_n 3, 1) := by decide +kernel
theorem d_SP_isFree_20 : decode y_SP_isFree.2.1 20 = .ok (.aload_n 0, 1) := by decide +kernel
theorem d_SP_isFree_21 : decode y_SP_isFree.2.1 21 = .ok (.getfield 11, 3) := by decide +kernel
theorem d_SP_isFree_24 : decode y_SP_isFree.2.1 24 = .ok (.arraylength, 1) := by decide +kernel
theorem d_SP_isFree_25 : decode y_SP_isFree.2.1 25 = .ok (.if_icmp .ge 37, 3) := by decide +kernel
theorem d_SP_isFree_28 : decode y_SP_isFree.2.1 28 = .ok (.aload_n 0, 1) := by decide +kernel
theorem d_SP_isFree_29 : decode y_SP_isFree.2.1 29 = .ok (.getfield 11, 3) := by decide +kernel
theorem d_SP_isFree_32 : decode y_SP_isFree.2.1 32 = .ok (.iload_n 3, 1) := by decide +kernel
theorem d_SP_isFree_33 : decode y_SP_isFree.2.1 33 = .ok (.aaload, 1) := by decide +kernel
theorem d_SP_isFree_34 : decode y_SP_isFree.2.1 34 = .ok (.astore 4, 2) := by decide +kernel
theorem d_SP_isFree_36 : decode y_SP_isFree.2.1 36 = .ok (.aload 4, 2) := by decide +kernel
theorem d_SP_isFree_38 : decode y_SP_isFree.2.1 38 = .ok (.ifnull 18, 3) := by decide +kernel
theorem d_SP_isFree_41 : decode y_SP_isFree.2.1 41 = .ok (.aload 4, 2) := by decide +kernel
theorem d_SP_isFree_43 : decode y_SP_isFree.2.1 43 = .ok (.getfield 99, 3) := by decide +kernel
theorem d_SP_isFree_46 : decode y_SP_isFree.2.1 46 = .ok (.iload_n 1, 1) := by decide +kernel
theorem d_SP_isFree_47 : decode y_SP_isFree.2.1 47 = .ok (.iload_n 2, 1) := by decide +kernel
theorem d_SP_isFree_48 : decode y_SP_isFree.2.1 48 = .ok (.invokevirtual 202, 3) := by decide +kernel
theorem d_SP_isFree_51 : decode y_SP_isFree.2.1 51 = .ok (.ifCond .eq 5, 3) := by decide +kernel
theorem d_SP_isFree_54 : decode y_SP_isFree.2.1 54 = .ok (.iconst 0, 1) := by decide +kernel
theorem d_SP_isFree_55 : decode y_SP_isFree.2.1 55 = .ok (.ireturn, 1) := by decide +kernel
theorem d_SP_isFree_56 : decode y_SP_isFree.2.1 56 = .ok (.iinc 3 1, 3) := by decide +kernel
theorem d_SP_isFree_59 : decode y_SP_isFree.2.1 59 = .ok (.goto (-40), 3) := by decide +kernel
theorem d_SP_isFree_62 : decode y_SP_isFree.2.1 62 = .ok (.iconst 1, 1) := by decide +kernel
theorem d_SP_isFree_63 : decode y_SP_isFree.2.1 63 = .ok (.ireturn, 1) := by decide +kernel
theorem d_SP_partWith_0 : decode y_SP_partWith.2.1 0 = .ok (.iconst 0, 1) := by decide +kernel
theorem d_SP_partWith_1 : decode y_SP_partWith.2.1 1 = .ok (.istore_n 2, 1) := by decide +kernel
theorem d_SP_partWith_2 : decode y_SP_partWith.2.1 2 = .ok (.iload_n 2, 1) := by decide +kernel
theorem d_SP_partWith_3 : decode y_SP_partWith.2.1 3 = .ok (.aload_n 0, 1) := by decide +kernel
theorem d_SP_partWith_4 : decode y_SP_partWith.2.1 4 = .ok (.getfield 11, 3) := by decide +kernel
theorem d_SP_partWith_7 : decode y_SP_partWith.2.1 7 = .ok (.arraylength, 1) := by decide +kernel
theorem d_SP_partWith_8 : decode y_SP_partWith.2.1 8 = .ok (.if_icmp .ge 34, 3) := by decide +kernel
theorem d_SP_partWith_11 : decode y_SP_partWith.2.1 11 = .ok (.aload_n 0, 1) := by decide +kernel
theorem d_SP_partWith_12 : decode y_SP_partWith.2.1 12 = .ok (.getfield 11, 3) := by decide +kernel
theorem d_SP_partWith_15 : decode y_SP_partWith.2.1 15 = .ok (.iload_n 2, 1) := by decide +kernel
theorem d_SP_partWith_16 : decode y_SP_partWith.2.1 16 = .ok (.aaload, 1) := by decide +kernel
theorem d_SP_partWith_17 : decode y_SP_partWith.2.1 17 = .ok (.astore_n 3, 1) := by decide +kernel
theorem d_SP_partWith_18 : decode y_SP_partWith.2.1 18 = .ok (.aload_n 3, 1) := by decide +kernel
theorem d_SP_partWith_19 : decode y_SP_partWith.2.1 19 = .ok (.ifnull 17, 3) := by decide +kernel
theorem d_SP_partWith_22 : decode y_SP_partWith.2.1 22 = .ok (.aload_n 3, 1) := by decide +kernel
theorem d_SP_partWith_23 : decode y_SP_partWith.2.1 23 = .ok (.getfield 99, 3) := by decide +kernel
theorem d_SP_partWith_26 : decode y_SP_partWith.2.1 26 = .ok (.iload_n 1, 1) := by decide +kernel
theorem d_SP_partWith_27 : decode y_SP_partWith.2.1 27 = .ok (.iconst 1, 1) := by decide +kernel
theorem d_SP_partWith_28 : decode y_SP_partWith.2.1 28 = .ok (.invokevirtual 202, 3) := by decide +kernel
theorem d_SP_partWith_31 : decode y_SP_partWith.2.1 31 = .ok (.ifCond .eq 5, 3) := by decide +kernel
theorem d_SP_partWith_34 : decode y_SP_partWith.2.1 34 = .ok (.aload_n 3, 1) := by decide +kernel
theorem d_SP_partWith_35 : decode y_SP_partWith.2.1 35 = .ok (.areturn, 1) := by decide +kernel
theorem d_SP_partWith_36 : decode y_SP_partWith.2.1 36 = .ok (.iinc 2 1, 3) := by decide +kernel
theorem d_SP_partWith_39 : decode y_SP_partWith.2.1 39 = .ok (.goto (-37), 3) := by decide +kernel
theorem d_SP_partWith_42 : decode y_SP_partWith.2.1 42 = .ok (.aconst_null, 1) := by decide +kernel
theorem d_SP_partWith_43 : decode y_SP_partWith.2.1 43 = .ok (.areturn, 1) := by decide +kernel
theorem d_SP_reachPart_0 : decode y_SP_reachPart.2.1 0 = .ok (.iload_n 1, 1) := by decide +kernel
theorem d_SP_reachPart_1 : decode y_SP_reachPart.2.1 1 = .ok (.invokestatic 199, 3) := by decide +kernel
theorem d_SP_reachPart_4 : decode y_SP_reachPart.2.1 4 = .ok (.ifCond .ne 13, 3) := by decide +kernel
theorem d_SP_reachPart_7 : decode y_SP_reachPart.2.1 7 = .ok (.new 143, 3) := by decide +kernel
theorem d_SP_reachPart_10 : decode y_SP_reachPart.2.1 10 = .ok (.dup, 1) := by decide +kernel
theorem d_SP_reachPart_11 : decode y_SP_reachPart.2.1 11 = .ok (.ldc 205, 2) := by decide +kernel
theorem d_SP_reachPart_13 : decode y_SP_reachPart.2.1 13 = .ok (.invokespecial 147, 3) := by decide +kernel
theorem d_SP_reachPart_16 : decode y_SP_reachPart.2.1 16 = .ok (.athrow, 1) := by decide +kernel
theorem d_SP_reachPart_17 : decode y_SP_reachPart.2.1 17 = .ok (.aload_n 0, 1) := by decide +kernel
theorem d_SP_reachPart_18 : decode y_SP_reachPart.2.1 18 = .ok (.iload_n 1, 1) := by decide +kernel
theorem d_SP_reachPart_19 : decode y_SP_reachPart.2.1 19 = .ok (.invokevirtual 69, 3) := by decide +kernel
theorem d_SP_reachPart_22 : decode y_SP_reachPart.2.1 22 = .ok (.astore_n 2, 1) := by decide +kernel
theorem d_SP_reachPart_23 : decode y_SP_reachPart.2.1 23 = .ok (.aload_n 2, 1) := by decide +kernel
theorem d_SP_reachPart_24 : decode y_SP_reachPart.2.1 24 = .ok (.ifnonnull 18, 3) := by decide +kernel
theorem d_SP_reachPart_27 : decode y_SP_reachPart.2.1 27 = .ok (.aload_n 0, 1) := by decide +kernel
theorem d_SP_reachPart_28 : decode y_SP_reachPart.2.1 28 = .ok (.iconst 3, 1) := by decide +kernel
theorem d_SP_reachPart_29 : decode y_SP_reachPart.2.1 29 = .ok (.invokevirtual 95, 3) := by decide +kernel
theorem d_SP_reachPart_32 : decode y_SP_reachPart.2.1 32 = .ok (.new 112, 3) := by decide +kernel
theorem d_SP_reachPart_35 : decode y_SP_reachPart.2.1 35 = .ok (.dup, 1) := by decide +kernel
theorem d_SP_reachPart_36 : decode y_SP_reachPart.2.1 36 = .ok (.ldc 207, 2) := by decide +kernel
theorem d_SP_reachPart_38 : decode y_SP_reachPart.2.1 38 = .ok (.invokespecial 116, 3) := by decide +kernel
theorem d_SP_reachPart_41 : decode y_SP_reachPart.2.1 41 = .ok (.athrow, 1) := by decide +kernel
theorem d_SP_reachPart_42 : decode y_SP_reachPart.2.1 42 = .ok (.aload_n 0, 1) := by decide +kernel
theorem d_SP_reachPart_43 : decode y_SP_reachPart.2.1 43 = .ok (.aload_n 2, 1) := by decide +kernel
theorem d_SP_reachPart_44 : decode y_SP_reachPart.2.1 44 = .ok (.getfield 99, 3) := by decide +kernel
theorem d_SP_reachPart_47 : decode y_SP_reachPart.2.1 47 = .ok (.invokevirtual 118, 3) := by decide +kernel
theorem d_SP_reachPart_50 : decode y_SP_reachPart.2.1 50 = .ok (.invokevirtual 123, 3) := by decide +kernel
theorem d_SP_reachPart_53 : decode y_SP_reachPart.2.1 53 = .ok (.pop, 1) := by decide +kernel
theorem d_SP_reachPart_54 : decode y_SP_reachPart.2.1 54 = .ok (.aload_n 2, 1) := by decide +kernel
theorem d_SP_reachPart_55 : decode y_SP_reachPart.2.1 55 = .ok (.areturn, 1) := by decide +kernel
theorem d_SP_serialAt_0 : decode y_SP_serialAt.2.1 0 = .ok (.iload_n 1, 1) := by decide +kernel
theorem d_SP_serialAt_1 : decode y_SP_serialAt.2.1 1 = .ok (.ifCond .lt 33, 3) := by decide +kernel
theorem d_SP_serialAt_4 : decode y_SP_serialAt.2.1 4 = .ok (.iload_n 1, 1) := by decide +kernel
theorem d_SP_serialAt_5 : decode y_SP_serialAt.2.1 5 = .ok (.aload_n 0, 1) := by decide +kernel
theorem d_SP_serialAt_6 : decode y_SP_serialAt.2.1 6 = .ok (.getfield 11, 3) := by decide +kernel
theorem d_SP_serialAt_9 : decode y_SP_serialAt.2.1 9 = .ok (.arraylength, 1) := by decide +kernel
theorem d_SP_serialAt_10 : decode y_SP_serialAt.2.1 10 = .ok (.if_icmp .ge 24, 3) := by decide +kernel
theorem d_SP_serialAt_13 : decode y_SP_serialAt.2.1 13 = .ok (.aload_n 0, 1) := by decide +kernel
theorem d_SP_serialAt_14 : decode y_SP_serialAt.2.1 14 = .ok (.getfield 11, 3) := by decide +kernel
theorem d_SP_serialAt_17 : decode y_SP_serialAt.2.1 17 = .ok (.iload_n 1, 1) := by decide +kernel
theorem d_SP_serialAt_18 : decode y_SP_serialAt.2.1 18 = .ok (.aaload, 1) := by decide +kernel
theorem d_SP_serialAt_19 : decode y_SP_serialAt.2.1 19 = .ok (.astore_n 3, 1) := by decide +kernel
theorem d_SP_serialAt_20 : decode y_SP_serialAt.2.1 20 = .ok (.aload_n 3, 1) := by decide +kernel
theorem d_SP_serialAt_21 : decode y_SP_serialAt.2.1 21 = .ok (.instanceof 131, 3) := by decide +kernel
theorem d_SP_serialAt_24 : decode y_SP_serialAt.2.1 24 = .ok (.ifCond .eq 10, 3) := by decide +kernel
theorem d_SP_serialAt_27 : decode y_SP_serialAt.2.1 27 = .ok (.aload_n 3, 1) := by decide +kernel
theorem d_SP_serialAt_28 : decode y_SP_serialAt.2.1 28 = .ok (.checkcast 131, 3) := by decide +kernel
theorem d_SP_serialAt_31 : decode y_SP_serialAt.2.1 31 = .ok (.astore_n 2, 1) := by decide +kernel
theorem d_SP_serialAt_32 : decode y_SP_serialAt.2.1 32 = .ok (.aload_n 2, 1) := by decide +kernel
theorem d_SP_serialAt_33 : decode y_SP_serialAt.2.1 33 = .ok (.areturn, 1) := by decide +kernel
theorem d_SP_serialAt_34 : decode y_SP_serialAt.2.1 34 = .ok (.new 48, 3) := by decide +kernel
theorem d_SP_serialAt_37 : decode y_SP_serialAt.2.1 37 = .ok (.dup, 1) := by decide +kernel
theorem d_SP_serialAt_38 : decode y_SP_serialAt.2.1 38 = .ok (.ldc 209, 2) := by decide +kernel
theorem d_SP_serialAt_40 : decode y_SP_serialAt.2.1 40 = .ok (.invokespecial 52, 3) := by decide +kernel
theorem d_SP_serialAt_43 : decode y_SP_serialAt.2.1 43 = .ok (.athrow, 1) := by decide +kernel
theorem d_SP_runSteps_0 : decode y_SP_runSteps.2.1 0 = .ok (.iconst 0, 1) := by decide +kernel
theorem d_SP_runSteps_1 : decode y_SP_runSteps.2.1 1 = .ok (.istore_n 2, 1) := by decide +kernel
theorem d_SP_runSteps_2 : decode y_SP_runSteps.2.1 2 = .ok (.iconst 0, 1) := by decide +kernel
theorem d_SP_runSteps_3 : decode y_SP_runSteps.2.1 3 = .ok (.istore_n 3, 1) := by decide +kernel
theorem d_SP_runSteps_4 : decode y_SP_runSteps.2.1 4 = .ok (.iload_n 3, 1) := by decide +kernel
theorem d_SP_runSteps_5 : decode y_SP_runSteps.2.1 5 = .ok (.iload_n 1, 1) := by decide +kernel
theorem d_SP_runSteps_6 : decode y_SP_runSteps.2.1 6 = .ok (.if_icmp .ge 18, 3) := by decide +kernel
theorem d_SP_runSteps_9 : decode y_SP_runSteps.2.1 9 = .ok (.aload_n 0, 1) := by decide +kernel
theorem d_SP_runSteps_10 : decode y_SP_runSteps.2.1 10 = .ok (.invokevirtual 211, 3) := by decide +kernel
theorem d_SP_runSteps_13 : decode y_SP_runSteps.2.1 13 = .ok (.ifCond .eq 5, 3) := by decide +kernel
theorem d_SP_runSteps_16 : decode y_SP_runSteps.2.1 16 = .ok (.iconst 1, 1) := by decide +kernel
theorem d_SP_runSteps_17 : decode y_SP_runSteps.2.1 17 = .ok (.istore_n 2, 1) := by decide +kernel
theorem d_SP_runSteps_18 : decode y_SP_runSteps.2.1 18 = .ok (.iinc 3 1, 3) := by decide +kernel
theorem d_SP_runSteps_21 : decode y_SP_runSteps.2.1 21 = .ok (.goto (-17), 3) := by decide +kernel
theorem d_SP_runSteps_24 : decode y_SP_runSteps.2.1 24 = .ok (.iload_n 2, 1) := by decide +kernel
theorem d_SP_runSteps_25 : decode y_SP_runSteps.2.1 25 = .ok (.ireturn, 1) := by decide +kernel
theorem d_SP_oneStep_0 : decode y_SP_oneStep.2.1 0 = .ok (.aload_n 0, 1) := by decide +kernel
theorem d_SP_oneStep_1 : decode y_SP_oneStep.2.1 1 = .ok (.dup, 1) := by decide +kernel
theorem d_SP_oneStep_2 : decode y_SP_oneStep.2.1 2 = .ok (.getfield 30, 3) := by decide +kernel
theorem d_SP_oneStep_5 : decode y_SP_oneStep.2.1 5 = .ok (.iconst 1, 1) := by decide +kernel
theorem d_SP_oneStep_6 : decode y_SP_oneStep.2.1 6 = .ok (.iadd, 1) := by decide +kernel
theorem d_SP_oneStep_7 : decode y_SP_oneStep.2.1 7 = .ok (.putfield 30, 3) := by decide +kernel
theorem d_SP_oneStep_10 : decode y_SP_oneStep.2.1 10 = .ok (.iconst 0, 1) := by decide +kernel
theorem d_SP_oneStep_11 : decode y_SP_oneStep.2.1 11 = .ok (.istore_n 1, 1) := by decide +kernel
theorem d_SP_oneStep_12 : decode y_SP_oneStep.2.1 12 = .ok (.iload_n 1, 1) := by decide +kernel
theorem d_SP_oneStep_13 : decode y_SP_oneStep.2.1 13 = .ok (.aload_n 0, 1) := by decide +kernel
theorem d_SP_oneStep_14 : decode y_SP_oneStep.2.1 14 = .ok (.getfield 11, 3) := by decide +kernel
theorem d_SP_oneStep_17 : decode y_SP_oneStep.2.1 17 = .ok (.arraylength, 1) := by decide +kernel
theorem d_SP_oneStep_18 : decode y_SP_oneStep.2.1 18 = .ok (.if_icmp .ge 34, 3) := by decide +kernel
theorem d_SP_oneStep_21 : decode y_SP_oneStep.2.1 21 = .ok (.aload_n 0, 1) := by decide +kernel
theorem d_SP_oneStep_22 : decode y_SP_oneStep.2.1 22 = .ok (.getfield 11, 3) := by decide +kernel
theorem d_SP_oneStep_25 : decode y_SP_oneStep.2.1 25 = .ok (.iload_n 1, 1) := by decide +kernel
theorem d_SP_oneStep_26 : decode y_SP_oneStep.2.1 26 = .ok (.aaload, 1) := by decide +kernel
theorem d_SP_oneStep_27 : decode y_SP_oneStep.2.1 27 = .ok (.astore_n 2, 1) := by decide +kernel
theorem d_SP_oneStep_28 : decode y_SP_oneStep.2.1 28 = .ok (.aload_n 2, 1) := by decide +kernel
theorem d_SP_oneStep_29 : decode y_SP_oneStep.2.1 29 = .ok (.ifnull 17, 3) := by decide +kernel
theorem d_SP_oneStep_32 : decode y_SP_oneStep.2.1 32 = .ok (.aload_n 2, 1) := by decide +kernel
theorem d_SP_oneStep_33 : decode y_SP_oneStep.2.1 33 = .ok (.invokevirtual 214, 3) := by decide +kernel
theorem d_SP_oneStep_36 : decode y_SP_oneStep.2.1 36 = .ok (.ifCond .eq 10, 3) := by decide +kernel
theorem d_SP_oneStep_39 : decode y_SP_oneStep.2.1 39 = .ok (.aload_n 0, 1) := by decide +kernel
theorem d_SP_oneStep_40 : decode y_SP_oneStep.2.1 40 = .ok (.iconst 2, 1) := by decide +kernel
theorem d_SP_oneStep_41 : decode y_SP_oneStep.2.1 41 = .ok (.invokevirtual 174, 3) := by decide +kernel
theorem d_SP_oneStep_44 : decode y_SP_oneStep.2.1 44 = .ok (.iconst 1, 1) := by decide +kernel
theorem d_SP_oneStep_45 : decode y_SP_oneStep.2.1 45 = .ok (.ireturn, 1) := by decide +kernel
theorem d_SP_oneStep_46 : decode y_SP_oneStep.2.1 46 = .ok (.iinc 1 1, 3) := by decide +kernel
theorem d_SP_oneStep_49 : decode y_SP_oneStep.2.1 49 = .ok (.goto (-37), 3) := by decide +kernel
theorem d_SP_oneStep_52 : decode y_SP_oneStep.2.1 52 = .ok (.aload_n 0, 1) := by decide +kernel
theorem d_SP_oneStep_53 : decode y_SP_oneStep.2.1 53 = .ok (.getfield 18, 3) := by decide +kernel
theorem d_SP_oneStep_56 : decode y_SP_oneStep.2.1 56 = .ok (.aload_n 0, 1) := by decide +kernel
theorem d_SP_oneStep_57 : decode y_SP_oneStep.2.1 57 = .ok (.invokevirtual 101, 3) := by decide +kernel
theorem d_SP_oneStep_60 : decode y_SP_oneStep.2.1 60 = .ok (.invokevirtual 105, 3) := by decide +kernel
theorem d_SP_oneStep_63 : decode y_SP_oneStep.2.1 63 = .ok (.iconst 0, 1) := by decide +kernel
theorem d_SP_oneStep_64 : decode y_SP_oneStep.2.1 64 = .ok (.ireturn, 1) := by decide +kernel
theorem d_SP_askingLines_0 : decode y_SP_askingLines.2.1 0 = .ok (.iconst 0, 1) := by decide +kernel
theorem d_SP_askingLines_1 : decode y_SP_askingLines.2.1 1 = .ok (.istore_n 1, 1) := by decide +kernel
theorem d_SP_askingLines_2 : decode y_SP_askingLines.2.1 2 = .ok (.iconst 0, 1) := by decide +kernel
theorem d_SP_askingLines_3 : decode y_SP_askingLines.2.1 3 = .ok (.istore_n 2, 1) := by decide +kernel
theorem d_SP_askingLines_4 : decode y_SP_askingLines.2.1 4 = .ok (.iload_n 2, 1) := by decide +kernel
theorem d_SP_askingLines_5 : decode y_SP_askingLines.2.1 5 = .ok (.aload_n 0, 1) := by decide +kernel
theorem d_SP_askingLines_6 : decode y_SP_askingLines.2.1 6 = .ok (.getfield 11, 3) := by decide +kernel
theorem d_SP_askingLines_9 : decode y_SP_askingLines.2.1 9 = .ok (.arraylength, 1) := by decide +kernel
theorem d_SP_askingLines_10 : decode y_SP_askingLines.2.1 10 = .ok (.if_icmp .ge 39, 3) := by decide +kernel
theorem d_SP_askingLines_13 : decode y_SP_askingLines.2.1 13 = .ok (.aload_n 0, 1) := by decide +kernel
theorem d_SP_askingLines_14 : decode y_SP_askingLines.2.1 14 = .ok (.getfield 11, 3) := by decide +kernel
theorem d_SP_askingLines_17 : decode y_SP_askingLines.2.1 17 = .ok (.iload_n 2, 1) := by decide +kernel
theorem d_SP_askingLines_18 : decode y_SP_askingLines.2.1 18 = .ok (.aaload, 1) := by decide +kernel
theorem d_SP_askingLines_19 : decode y_SP_askingLines.2.1 19 = .ok (.astore_n 3, 1) := by decide +kernel
theorem d_SP_askingLines_20 : decode y_SP_askingLines.2.1 20 = .ok (.aload_n 3, 1) := by decide +kernel
theorem d_SP_askingLines_21 : decode y_SP_askingLines.2.1 21 = .ok (.ifnull 22, 3) := by decide +kernel
theorem d_SP_askingLines_24 : decode y_SP_askingLines.2.1 24 = .ok (.aload_n 3, 1) := by decide +kernel
theorem d_SP_askingLines_25 : decode y_SP_askingLines.2.1 25 = .ok (.invokevirtual 217, 3) := by decide +kernel
theorem d_SP_askingLines_28 : decode y_SP_askingLines.2.1 28 = .ok (.ifCond .eq 15, 3) := by decide +kernel
theorem d_SP_askingLines_31 : decode y_SP_askingLines.2.1 31 = .ok (.iload_n 1, 1) := by decide +kernel
theorem d_SP_askingLines_32 : decode y_SP_askingLines.2.1 32 = .ok (.iconst 1, 1) := by decide +kernel
theorem d_SP_askingLines_33 : decode y_SP_askingLines.2.1 33 = .ok (.aload_n 3, 1) := by decide +kernel
theorem d_SP_askingLines_34 : decode y_SP_askingLines.2.1 34 = .ok (.getfield 99, 3) := by decide +kernel
theorem d_SP_askingLines_37 : decode y_SP_askingLines.2.1 37 = .ok (.getfield 220, 3) := by decide +kernel
theorem d_SP_askingLines_40 : decode y_SP_askingLines.2.1 40 = .ok (.ishl, 1) := by decide +kernel
theorem d_SP_askingLines_41 : decode y_SP_askingLines.2.1 41 = .ok (.ior, 1) := by decide +kernel
theorem d_SP_askingLines_42 : decode y_SP_askingLines.2.1 42 = .ok (.istore_n 1, 1) := by decide +kernel
theorem d_SP_askingLines_43 : decode y_SP_askingLines.2.1 43 = .ok (.iinc 2 1, 3) := by decide +kernel
theorem d_SP_askingLines_46 : decode y_SP_askingLines.2.1 46 = .ok (.goto (-42), 3) := by decide +kernel
theorem d_SP_askingLines_49 : decode y_SP_askingLines.2.1 49 = .ok (.iload_n 1, 1) := by decide +kernel
theorem d_SP_askingLines_50 : decode y_SP_askingLines.2.1 50 = .ok (.ireturn, 1) := by decide +kernel
theorem d_SP_tallyOne_0 : decode y_SP_tallyOne.2.1 0 = .ok (.iload_n 1, 1) := by decide +kernel
theorem d_SP_tallyOne_1 : decode y_SP_tallyOne.2.1 1 = .ok (.ifCond .lt 12, 3) := by decide +kernel
theorem d_SP_tallyOne_4 : decode y_SP_tallyOne.2.1 4 = .ok (.iload_n 1, 1) := by decide +kernel
theorem d_SP_tallyOne_5 : decode y_SP_tallyOne.2.1 5 = .ok (.aload_n 0, 1) := by decide +kernel
theorem d_SP_tallyOne_6 : decode y_SP_tallyOne.2.1 6 = .ok (.getfield 22, 3) := by decide +kernel
theorem d_SP_tallyOne_9 : decode y_SP_tallyOne.2.1 9 = .ok (.arraylength, 1) := by decide +kernel
theorem d_SP_tallyOne_10 : decode y_SP_tallyOne.2.1 10 = .ok (.if_icmp .lt 4, 3) := by decide +kernel
theorem d_SP_tallyOne_13 : decode y_SP_tallyOne.2.1 13 = .ok (.return_, 1) := by decide +kernel
theorem d_SP_tallyOne_14 : decode y_SP_tallyOne.2.1 14 = .ok (.aload_n 0, 1) := by decide +kernel
theorem d_SP_tallyOne_15 : decode y_SP_tallyOne.2.1 15 = .ok (.getfield 22, 3) := by decide +kernel
theorem d_SP_tallyOne_18 : decode y_SP_tallyOne.2.1 18 = .ok (.iload_n 1, 1) := by decide +kernel
theorem d_SP_tallyOne_19 : decode y_SP_tallyOne.2.1 19 = .ok (.dup2, 1) := by decide +kernel
theorem d_SP_tallyOne_20 : decode y_SP_tallyOne.2.1 20 = .ok (.iaload, 1) := by decide +kernel
theorem d_SP_tallyOne_21 : decode y_SP_tallyOne.2.1 21 = .ok (.iconst 1, 1) := by decide +kernel
theorem d_SP_tallyOne_22 : decode y_SP_tallyOne.2.1 22 = .ok (.iadd, 1) := by decide +kernel
theorem d_SP_tallyOne_23 : decode y_SP_tallyOne.2.1 23 = .ok (.iastore, 1) := by decide +kernel
theorem d_SP_tallyOne_24 : decode y_SP_tallyOne.2.1 24 = .ok (.iconst 0, 1) := by decide +kernel
theorem d_SP_tallyOne_25 : decode y_SP_tallyOne.2.1 25 = .ok (.istore_n 2, 1) := by decide +kernel
theorem d_SP_tallyOne_26 : decode y_SP_tallyOne.2.1 26 = .ok (.iload_n 2, 1) := by decide +kernel
theorem d_SP_tallyOne_27 : decode y_SP_tallyOne.2.1 27 = .ok (.aload_n 0, 1) := by decide +kernel
theorem d_SP_tallyOne_28 : decode y_SP_tallyOne.2.1 28 = .ok (.getfield 11, 3) := by decide +kernel
theorem d_SP_tallyOne_31 : decode y_SP_tallyOne.2.1 31 = .ok (.arraylength, 1) := by decide +kernel
theorem d_SP_tallyOne_32 : decode y_SP_tallyOne.2.1 32 = .ok (.if_icmp .ge 36, 3) := by decide +kernel
theorem d_SP_tallyOne_35 : decode y_SP_tallyOne.2.1 35 = .ok (.aload_n 0, 1) := by decide +kernel
theorem d_SP_tallyOne_36 : decode y_SP_tallyOne.2.1 36 = .ok (.getfield 11, 3) := by decide +kernel
theorem d_SP_tallyOne_39 : decode y_SP_tallyOne.2.1 39 = .ok (.iload_n 2, 1) := by decide +kernel
theorem d_SP_tallyOne_40 : decode y_SP_tallyOne.2.1 40 = .ok (.aaload, 1) := by decide +kernel
theorem d_SP_tallyOne_41 : decode y_SP_tallyOne.2.1 41 = .ok (.astore 4, 2) := by decide +kernel
theorem d_SP_tallyOne_43 : decode y_SP_tallyOne.2.1 43 = .ok (.aload 4, 2) := by decide +kernel
theorem d_SP_tallyOne_45 : decode y_SP_tallyOne.2.1 45 = .ok (.instanceof 196, 3) := by decide +kernel
theorem d_SP_tallyOne_48 : decode y_SP_tallyOne.2.1 48 = .ok (.ifCond .eq 14, 3) := by decide +kernel
theorem d_SP_tallyOne_51 : decode y_SP_tallyOne.2.1 51 = .ok (.aload 4, 2) := by decide +kernel
theorem d_SP_tallyOne_53 : decode y_SP_tallyOne.2.1 53 = .ok (.checkcast 196, 3) := by decide +kernel
theorem d_SP_tallyOne_56 : decode y_SP_tallyOne.2.1 56 = .ok (.astore_n 3, 1) := by decide +kernel
theorem d_SP_tallyOne_57 : decode y_SP_tallyOne.2.1 57 = .ok (.aload_n 3, 1) := by decide +kernel
theorem d_SP_tallyOne_58 : decode y_SP_tallyOne.2.1 58 = .ok (.iload_n 1, 1) := by decide +kernel
theorem d_SP_tallyOne_59 : decode y_SP_tallyOne.2.1 59 = .ok (.invokevirtual 223, 3) := by decide +kernel
theorem d_SP_tallyOne_62 : decode y_SP_tallyOne.2.1 62 = .ok (.iinc 2 1, 3) := by decide +kernel
theorem d_SP_tallyOne_65 : decode y_SP_tallyOne.2.1 65 = .ok (.goto (-39), 3) := by decide +kernel
theorem d_SP_tallyOne_68 : decode y_SP_tallyOne.2.1 68 = .ok (.return_, 1) := by decide +kernel
theorem d_SP_resetAll_0 : decode y_SP_resetAll.2.1 0 = .ok (.aload_n 0, 1) := by decide +kernel
theorem d_SP_resetAll_1 : decode y_SP_resetAll.2.1 1 = .ok (.iload_n 1, 1) := by decide +kernel
theorem d_SP_resetAll_2 : decode y_SP_resetAll.2.1 2 = .ok (.putfield 33, 3) := by decide +kernel
theorem d_SP_resetAll_5 : decode y_SP_resetAll.2.1 5 = .ok (.iconst 0, 1) := by decide +kernel
theorem d_SP_resetAll_6 : decode y_SP_resetAll.2.1 6 = .ok (.istore_n 2, 1) := by decide +kernel
theorem d_SP_resetAll_7 : decode y_SP_resetAll.2.1 7 = .ok (.iload_n 2, 1) := by decide +kernel
theorem d_SP_resetAll_8 : decode y_SP_resetAll.2.1 8 = .ok (.aload_n 0, 1) := by decide +kernel
theorem d_SP_resetAll_9 : decode y_SP_resetAll.2.1 9 = .ok (.getfield 22, 3) := by decide +kernel
theorem d_SP_resetAll_12 : decode y_SP_resetAll.2.1 12 = .ok (.arraylength, 1) := by decide +kernel
theorem d_SP_resetAll_13 : decode y_SP_resetAll.2.1 13 = .ok (.if_icmp .ge 16, 3) := by decide +kernel
theorem d_SP_resetAll_16 : decode y_SP_resetAll.2.1 16 = .ok (.aload_n 0, 1) := by decide +kernel
theorem d_SP_resetAll_17 : decode y_SP_resetAll.2.1 17 = .ok (.getfield 22, 3) := by decide +kernel
theorem d_SP_resetAll_20 : decode y_SP_resetAll.2.1 20 = .ok (.iload_n 2, 1) := by decide +kernel
theorem d_SP_resetAll_21 : decode y_SP_resetAll.2.1 21 = .ok (.iconst 0, 1) := by decide +kernel
theorem d_SP_resetAll_22 : decode y_SP_resetAll.2.1 22 = .ok (.iastore, 1) := by decide +kernel
theorem d_SP_resetAll_23 : decode y_SP_resetAll.2.1 23 = .ok (.iinc 2 1, 3) := by decide +kernel
theorem d_SP_resetAll_26 : decode y_SP_resetAll.2.1 26 = .ok (.goto (-19), 3) := by decide +kernel
theorem d_SP_resetAll_29 : decode y_SP_resetAll.2.1 29 = .ok (.iconst 0, 1) := by decide +kernel
theorem d_SP_resetAll_30 : decode y_SP_resetAll.2.1 30 = .ok (.istore_n 2, 1) := by decide +kernel
theorem d_SP_resetAll_31 : decode y_SP_resetAll.2.1 31 = .ok (.iload_n 2, 1) := by decide +kernel
theorem d_SP_resetAll_32 : decode y_SP_resetAll.2.1 32 = .ok (.aload_n 0, 1) := by decide +kernel
theorem d_SP_resetAll_33 : decode y_SP_resetAll.2.1 33 = .ok (.getfield 11, 3) := by decide +kernel
theorem d_SP_resetAll_36 : decode y_SP_resetAll.2.1 36 = .ok (.arraylength, 1) := by decide +kernel
theorem d_SP_resetAll_37 : decode y_SP_resetAll.2.1 37 = .ok (.if_icmp .ge 24, 3) := by decide +kernel
theorem d_SP_resetAll_40 : decode y_SP_resetAll.2.1 40 = .ok (.aload_n 0, 1) := by decide +kernel
theorem d_SP_resetAll_41 : decode y_SP_resetAll.2.1 41 = .ok (.getfield 11, 3) := by decide +kernel
theorem d_SP_resetAll_44 : decode y_SP_resetAll.2.1 44 = .ok (.iload_n 2, 1) := by decide +kernel
theorem d_SP_resetAll_45 : decode y_SP_resetAll.2.1 45 = .ok (.aaload, 1) := by decide +kernel
theorem d_SP_resetAll_46 : decode y_SP_resetAll.2.1 46 = .ok (.astore_n 3, 1) := by decide +kernel
theorem d_SP_resetAll_47 : decode y_SP_resetAll.2.1 47 = .ok (.aload_n 3, 1) := by decide +kernel
theorem d_SP_resetAll_48 : decode y_SP_resetAll.2.1 48 = .ok (.ifnull 7, 3) := by decide +kernel
theorem d_SP_resetAll_51 : decode y_SP_resetAll.2.1 51 = .ok (.aload_n 3, 1) := by decide +kernel
theorem d_SP_resetAll_52 : decode y_SP_resetAll.2.1 52 = .ok (.invokevirtual 226, 3) := by decide +kernel
theorem d_SP_resetAll_55 : decode y_SP_resetAll.2.1 55 = .ok (.iinc 2 1, 3) := by decide +kernel
theorem d_SP_resetAll_58 : decode y_SP_resetAll.2.1 58 = .ok (.goto (-27), 3) := by decide +kernel
theorem d_SP_resetAll_61 : decode y_SP_resetAll.2.1 61 = .ok (.aload_n 0, 1) := by decide +kernel
theorem d_SP_resetAll_62 : decode y_SP_resetAll.2.1 62 = .ok (.getfield 18, 3) := by decide +kernel
theorem d_SP_resetAll_65 : decode y_SP_resetAll.2.1 65 = .ok (.invokevirtual 229, 3) := by decide +kernel
theorem d_SP_resetAll_68 : decode y_SP_resetAll.2.1 68 = .ok (.return_, 1) := by decide +kernel
theorem d_SP_allWaiting_0 : decode y_SP_allWaiting.2.1 0 = .ok (.iconst 0, 1) := by decide +kernel
theorem d_SP_allWaiting_1 : decode y_SP_allWaiting.2.1 1 = .ok (.istore_n 1, 1) := by decide +kernel
theorem d_SP_allWaiting_2 : decode y_SP_allWaiting.2.1 2 = .ok (.iconst 0, 1) := by decide +kernel
theorem d_SP_allWaiting_3 : decode y_SP_allWaiting.2.1 3 = .ok (.istore_n 2, 1) := by decide +kernel
theorem d_SP_allWaiting_4 : decode y_SP_allWaiting.2.1 4 = .ok (.iload_n 2, 1) := by decide +kernel
theorem d_SP_allWaiting_5 : decode y_SP_allWaiting.2.1 5 = .ok (.aload_n 0, 1) := by decide +kernel
theorem d_SP_allWaiting_6 : decode y_SP_allWaiting.2.1 6 = .ok (.getfield 11, 3) := by decide +kernel
theorem d_SP_allWaiting_9 : decode y_SP_allWaiting.2.1 9 = .ok (.arraylength, 1) := by decide +kernel
theorem d_SP_allWaiting_10 : decode y_SP_allWaiting.2.1 10 = .ok (.if_icmp .ge 38, 3) := by decide +kernel
theorem d_SP_allWaiting_13 : decode y_SP_allWaiting.2.1 13 = .ok (.aload_n 0, 1) := by decide +kernel
theorem d_SP_allWaiting_14 : decode y_SP_allWaiting.2.1 14 = .ok (.getfield 11, 3) := by decide +kernel
theorem d_SP_allWaiting_17 : decode y_SP_allWaiting.2.1 17 = .ok (.iload_n 2, 1) := by decide +kernel
theorem d_SP_allWaiting_18 : decode y_SP_allWaiting.2.1 18 = .ok (.aaload, 1) := by decide +kernel
theorem d_SP_allWaiting_19 : decode y_SP_allWaiting.2.1 19 = .ok (.astore 4, 2) := by decide +kernel
theorem d_SP_allWaiting_21 : decode y_SP_allWaiting.2.1 21 = .ok (.aload 4, 2) := by decide +kernel
theorem d_SP_allWaiting_23 : decode y_SP_allWaiting.2.1 23 = .ok (.instanceof 131, 3) := by decide +kernel
theorem d_SP_allWaiting_26 : decode y_SP_allWaiting.2.1 26 = .ok (.ifCond .eq 16, 3) := by decide +kernel
theorem d_SP_allWaiting_29 : decode y_SP_allWaiting.2.1 29 = .ok (.aload 4, 2) := by decide +kernel
theorem d_SP_allWaiting_31 : decode y_SP_allWaiting.2.1 31 = .ok (.checkcast 131, 3) := by decide +kernel
theorem d_SP_allWaiting_34 : decode y_SP_allWaiting.2.1 34 = .ok (.astore_n 3, 1) := by decide +kernel
theorem d_SP_allWaiting_35 : decode y_SP_allWaiting.2.1 35 = .ok (.iload_n 1, 1) := by decide +kernel
theorem d_SP_allWaiting_36 : decode y_SP_allWaiting.2.1 36 = .ok (.aload_n 3, 1) := by decide +kernel
theorem d_SP_allWaiting_37 : decode y_SP_allWaiting.2.1 37 = .ok (.getfield 232, 3) := by decide +kernel
theorem d_SP_allWaiting_40 : decode y_SP_allWaiting.2.1 40 = .ok (.iadd, 1) := by decide +kernel
theorem d_SP_allWaiting_41 : decode y_SP_allWaiting.2.1 41 = .ok (.istore_n 1, 1) := by decide +kernel
theorem d_SP_allWaiting_42 : decode y_SP_allWaiting.2.1 42 = .ok (.iinc 2 1, 3) := by decide +kernel
theorem d_SP_allWaiting_45 : decode y_SP_allWaiting.2.1 45 = .ok (.goto (-41), 3) := by decide +kernel
theorem d_SP_allWaiting_48 : decode y_SP_allWaiting.2.1 48 = .ok (.iload_n 1, 1) := by decide +kernel
theorem d_SP_allWaiting_49 : decode y_SP_allWaiting.2.1 49 = .ok (.ireturn, 1) := by decide +kernel
theorem d_SP_allGone_0 : decode y_SP_allGone.2.1 0 = .ok (.iconst 0, 1) := by decide +kernel
theorem d_SP_allGone_1 : decode y_SP_allGone.2.1 1 = .ok (.istore_n 1, 1) := by decide +kernel
theorem d_SP_allGone_2 : decode y_SP_allGone.2.1 2 = .ok (.iconst 0, 1) := by decide +kernel
theorem d_SP_allGone_3 : decode y_SP_allGone.2.1 3 = .ok (.istore_n 2, 1) := by decide +kernel
theorem d_SP_allGone_4 : decode y_SP_allGone.2.1 4 = .ok (.iload_n 2, 1) := by decide +kernel
theorem d_SP_allGone_5 : decode y_SP_allGone.2.1 5 = .ok (.aload_n 0, 1) := by decide +kernel
theorem d_SP_allGone_6 : decode y_SP_allGone.2.1 6 = .ok (.getfield 11, 3) := by decide +kernel
theorem d_SP_allGone_9 : decode y_SP_allGone.2.1 9 = .ok (.arraylength, 1) := by decide +kernel
theorem d_SP_allGone_10 : decode y_SP_allGone.2.1 10 = .ok (.if_icmp .ge 38, 3) := by decide +kernel
theorem d_SP_allGone_13 : decode y_SP_allGone.2.1 13 = .ok (.aload_n 0, 1) := by decide +kernel
theorem d_SP_allGone_14 : decode y_SP_allGone.2.1 14 = .ok (.getfield 11, 3) := by decide +kernel
theorem d_SP_allGone_17 : decode y_SP_allGone.2.1 17 = .ok (.iload_n 2, 1) := by decide +kernel
theorem d_SP_allGone_18 : decode y_SP_allGone.2.1 18 = .ok (.aaload, 1) := by decide +kernel
theorem d_SP_allGone_19 : decode y_SP_allGone.2.1 19 = .ok (.astore 4, 2) := by decide +kernel
theorem d_SP_allGone_21 : decode y_SP_allGone.2.1 21 = .ok (.aload 4, 2) := by decide +kernel
theorem d_SP_allGone_23 : decode y_SP_allGone.2.1 23 = .ok (.instanceof 131, 3) := by decide +kernel
theorem d_SP_allGone_26 : decode y_SP_allGone.2.1 26 = .ok (.ifCond .eq 16, 3) := by decide +kernel
theorem d_SP_allGone_29 : decode y_SP_allGone.2.1 29 = .ok (.aload 4, 2) := by decide +kernel
theorem d_SP_allGone_31 : decode y_SP_allGone.2.1 31 = .ok (.checkcast 131, 3) := by decide +kernel
theorem d_SP_allGone_34 : decode y_SP_allGone.2.1 34 = .ok (.astore_n 3, 1) := by decide +kernel
theorem d_SP_allGone_35 : decode y_SP_allGone.2.1 35 = .ok (.iload_n 1, 1) := by decide +kernel
theorem d_SP_allGone_36 : decode y_SP_allGone.2.1 36 = .ok (.aload_n 3, 1) := by decide +kernel
theorem d_SP_allGone_37 : decode y_SP_allGone.2.1 37 = .ok (.getfield 235, 3) := by decide +kernel
theorem d_SP_allGone_40 : decode y_SP_allGone.2.1 40 = .ok (.iadd, 1) := by decide +kernel
theorem d_SP_allGone_41 : decode y_SP_allGone.2.1 41 = .ok (.istore_n 1, 1) := by decide +kernel
theorem d_SP_allGone_42 : decode y_SP_allGone.2.1 42 = .ok (.iinc 2 1, 3) := by decide +kernel
theorem d_SP_allGone_45 : decode y_SP_allGone.2.1 45 = .ok (.goto (-41), 3) := by decide +kernel
theorem d_SP_allGone_48 : decode y_SP_allGone.2.1 48 = .ok (.iload_n 1, 1) := by decide +kernel
theorem d_SP_allGone_49 : decode y_SP_allGone.2.1 49 = .ok (.ireturn, 1) := by decide +kernel
end
section
theorem d_Model_init_0 : decode y_Model_init.2.1 0 = .ok (.aload_n 0, 1) := by decide +kernel
theorem d_Model_init_1 : decode y_Model_init.2.1 1 = .ok (.invokespecial 1, 3) := by decide +kernel
theorem d_Model_init_4 : decode y_Model_init.2.1 4 = .ok (.aload_n 0, 1) := by decide +kernel
theorem d_Model_init_5 : decode y_Model_init.2.1 5 = .ok (.bipush 12, 2) := by decide +kernel
theorem d_Model_init_7 : decode y_Model_init.2.1 7 = .ok (.newarray .int, 2) := by decide +kernel
theorem d_Model_init_9 : decode y_Model_init.2.1 9 = .ok (.putfield 7, 3) := by decide +kernel
theorem d_Model_init_12 : decode y_Model_init.2.1 12 = .ok (.aload_n 0, 1) := by decide +kernel
theorem d_Model_init_13 : decode y_Model_init.2.1 13 = .ok (.bipush 12, 2) := by decide +kernel
theorem d_Model_init_15 : decode y_Model_init.2.1 15 = .ok (.newarray .int, 2) := by decide +kernel
theorem d_Model_init_17 : decode y_Model_init.2.1 17 = .ok (.putfield 13, 3) := by decide +kernel
theorem d_Model_init_20 : decode y_Model_init.2.1 20 = .ok (.aload_n 0, 1) := by decide +kernel
theorem d_Model_init_21 : decode y_Model_init.2.1 21 = .ok (.bipush 12, 2) := by decide +kernel
theorem d_Model_init_23 : decode y_Model_init.2.1 23 = .ok (.newarray .int, 2) := by decide +kernel
theorem d_Model_init_25 : decode y_Model_init.2.1 25 = .ok (.putfield 16, 3) := by decide +kernel
theorem d_Model_init_28 : decode y_Model_init.2.1 28 = .ok (.aload_n 0, 1) := by decide +kernel
theorem d_Model_init_29 : decode y_Model_init.2.1 29 = .ok (.bipush 12, 2) := by decide +kernel
theorem d_Model_init_31 : decode y_Model_init.2.1 31 = .ok (.newarray .int, 2) := by decide +kernel
theorem d_Model_init_33 : decode y_Model_init.2.1 33 = .ok (.putfield 19, 3) := by decide +kernel
theorem d_Model_init_36 : decode y_Model_init.2.1 36 = .ok (.aload_n 0, 1) := by decide +kernel
theorem d_Model_init_37 : decode y_Model_init.2.1 37 = .ok (.bipush 12, 2) := by decide +kernel
theorem d_Model_init_39 : decode y_Model_init.2.1 39 = .ok (.newarray .int, 2) := by decide +kernel
theorem d_Model_init_41 : decode y_Model_init.2.1 41 = .ok (.putfield 22, 3) := by decide +kernel
theorem d_Model_init_44 : decode y_Model_init.2.1 44 = .ok (.aload_n 0, 1) := by decide +kernel
theorem d_Model_init_45 : decode y_Model_init.2.1 45 = .ok (.sipush 768, 3) := by decide +kernel
theorem d_Model_init_48 : decode y_Model_init.2.1 48 = .ok (.newarray .int, 2) := by decide +kernel
theorem d_Model_init_50 : decode y_Model_init.2.1 50 = .ok (.putfield 25, 3) := by decide +kernel
theorem d_Model_init_53 : decode y_Model_init.2.1 53 = .ok (.aload_n 0, 1) := by decide +kernel
theorem d_Model_init_54 : decode y_Model_init.2.1 54 = .ok (.bipush 12, 2) := by decide +kernel
theorem d_Model_init_56 : decode y_Model_init.2.1 56 = .ok (.newarray .int, 2) := by decide +kernel
theorem d_Model_init_58 : decode y_Model_init.2.1 58 = .ok (.putfield 28, 3) := by decide +kernel
theorem d_Model_init_61 : decode y_Model_init.2.1 61 = .ok (.aload_n 0, 1) := by decide +kernel
theorem d_Model_init_62 : decode y_Model_init.2.1 62 = .ok (.bipush 12, 2) := by decide +kernel
theorem d_Model_init_64 : decode y_Model_init.2.1 64 = .ok (.newarray .int, 2) := by decide +kernel
theorem d_Model_init_66 : decode y_Model_init.2.1 66 = .ok (.putfield 31, 3) := by decide +kernel
theorem d_Model_init_69 : decode y_Model_init.2.1 69 = .ok (.aload_n 0, 1) := by decide +kernel
theorem d_Model_init_70 : decode y_Model_init.2.1 70 = .ok (.bipush 12, 2) := by decide +kernel
theorem d_Model_init_72 : decode y_Model_init.2.1 72 = .ok (.newarray .int, 2) := by decide +kernel
theorem d_Model_init_74 : decode y_Model_init.2.1 74 = .ok (.putfield 34, 3) := by decide +kernel
theorem d_Model_init_77 : decode y_Model_init.2.1 77 = .ok (.aload_n 0, 1) := by decide +kernel
theorem d_Model_init_78 : decode y_Model_init.2.1 78 = .ok (.sipush 384, 3) := by decide +kernel
theorem d_Model_init_81 : decode y_Model_init.2.1 81 = .ok (.newarray .int, 2) := by decide +kernel
theorem d_Model_init_83 : decode y_Model_init.2.1 83 = .ok (.putfield 37, 3) := by decide +kernel
theorem d_Model_init_86 : decode y_Model_init.2.1 86 = .ok (.aload_n 0, 1) := by decide +kernel
theorem d_Model_init_87 : decode y_Model_init.2.1 87 = .ok (.bipush 12, 2) := by decide +kernel
theorem d_Model_init_89 : decode y_Model_init.2.1 89 = .ok (.newarray .int, 2) := by decide +kernel
theorem d_Model_init_91 : decode y_Model_init.2.1 91 = .ok (.putfield 40, 3) := by decide +kernel
theorem d_Model_init_94 : decode y_Model_init.2.1 94 = .ok (.aload_n 0, 1) := by decide +kernel
theorem d_Model_init_95 : decode y_Model_init.2.1 95 = .ok (.sipush 384, 3) := by decide +kernel
theorem d_Model_init_98 : decode y_Model_init.2.1 98 = .ok (.newarray .int, 2) := by decide +kernel
theorem d_Model_init_100 : decode y_Model_init.2.1 100 = .ok (.putfield 43, 3) := by decide +kernel
theorem d_Model_init_103 : decode y_Model_init.2.1 103 = .ok (.aload_n 0, 1) := by decide +kernel
theorem d_Model_init_104 : decode y_Model_init.2.1 104 = .ok (.sipush 768, 3) := by decide +kernel
theorem d_Model_init_107 : decode y_Model_init.2.1 107 = .ok (.newarray .int, 2) := by decide +kernel
theorem d_Model_init_109 : decode y_Model_init.2.1 109 = .ok (.putfield 46, 3) := by decide +kernel
theorem d_Model_init_112 : decode y_Model_init.2.1 112 = .ok (.aload_n 0, 1) := by decide +kernel
theorem d_Model_init_113 : decode y_Model_init.2.1 113 = .ok (.bipush 16, 2) := by decide +kernel
theorem d_Model_init_115 : decode y_Model_init.2.1 115 = .ok (.newarray .int, 2) := by decide +kernel
theorem d_Model_init_117 : decode y_Model_init.2.1 117 = .ok (.putfield 49, 3) := by decide +kernel
theorem d_Model_init_120 : decode y_Model_init.2.1 120 = .ok (.aload_n 0, 1) := by decide +kernel
theorem d_Model_init_121 : decode y_Model_init.2.1 121 = .ok (.bipush 16, 2) := by decide +kernel
theorem d_Model_init_123 : decode y_Model_init.2.1 123 = .ok (.newarray .int, 2) := by decide +kernel
theorem d_Model_init_125 : decode y_Model_init.2.1 125 = .ok (.putfield 52, 3) := by decide +kernel
theorem d_Model_init_128 : decode y_Model_init.2.1 128 = .ok (.aload_n 0, 1) := by decide +kernel
theorem d_Model_init_129 : decode y_Model_init.2.1 129 = .ok (.bipush 16, 2) := by decide +kernel
theorem d_Model_init_131 : decode y_Model_init.2.1 131 = .ok (.newarray .boolean, 2) := by decide +kernel
theorem d_Model_init_133 : decode y_Model_init.2.1 133 = .ok (.putfield 55, 3) := by decide +kernel
theorem d_Model_init_136 : decode y_Model_init.2.1 136 = .ok (.aload_n 0, 1) := by decide +kernel
theorem d_Model_init_137 : decode y_Model_init.2.1 137 = .ok (.bipush 16, 2) := by decide +kernel
theorem d_Model_init_139 : decode y_Model_init.2.1 139 = .ok (.newarray .boolean, 2) := by decide +kernel
theorem d_Model_init_141 : decode y_Model_init.2.1 141 = .ok (.putfield 59, 3) := by decide +kernel
theorem d_Model_init_144 : decode y_Model_init.2.1 144 = .ok (.aload_n 0, 1) := by decide +kernel
theorem d_Model_init_145 : decode y_Model_init.2.1 145 = .ok (.bipush 16, 2) := by decide +kernel
theorem d_Model_init_147 : decode y_Model_init.2.1 147 = .ok (.newarray .boolean, 2) := by decide +kernel
theorem d_Model_init_149 : decode y_Model_init.2.1 149 = .ok (.putfield 62, 3) := by decide +kernel
theorem d_Model_init_152 : decode y_Model_init.2.1 152 = .ok (.return_, 1) := by decide +kernel
theorem d_Model_thrown_0 : decode y_Model_thrown.2.1 0 = .ok (.aload_n 0, 1) := by decide +kernel
theorem d_Model_thrown_1 : decode y_Model_thrown.2.1 1 = .ok (.getfield 65, 3) := by decide +kernel
theorem d_Model_thrown_4 : decode y_Model_thrown.2.1 4 = .ok (.ireturn, 1) := by decide +kernel
theorem d_Model_fail_0 : decode y_Model_fail.2.1 0 = .ok (.aload_n 0, 1) := by decide +kernel
theorem d_Model_fail_1 : decode y_Model_fail.2.1 1 = .ok (.iload_n 1, 1) := by decide +kernel
theorem d_Model_fail_2 : decode y_Model_fail.2.1 2 = .ok (.putfield 65, 3) := by decide +kernel
theorem d_Model_fail_5 : decode y_Model_fail.2.1 5 = .ok (.iconst 0, 1) := by decide +kernel
theorem d_Model_fail_6 : decode y_Model_fail.2.1 6 = .ok (.ireturn, 1) := by decide +kernel
theorem d_Model_within_0 : decode y_Model_within.2.1 0 = .ok (.iload_n 0, 1) := by decide +kernel
theorem d_Model_within_1 : decode y_Model_within.2.1 1 = .ok (.iload_n 1, 1) := by decide +kernel
theorem d_Model_within_2 : decode y_Model_within.2.1 2 = .ok (.if_icmp .lt 12, 3) := by decide +kernel
theorem d_Model_within_5 : decode y_Model_within.2.1 5 = .ok (.iload_n 0, 1) := by decide +kernel
theorem d_Model_within_6 : decode y_Model_within.2.1 6 = .ok (.iload_n 2, 1) := by decide +kernel
theorem d_Model_within_7 : decode y_Model_within.2.1 7 = .ok (.if_icmp .gt 7, 3) := by decide +kernel
theorem d_Model_within_10 : decode y_Model_within.2.1 10 = .ok (.iconst 1, 1) := by decide +kernel
theorem d_Model_within_11 : decode y_Model_within.2.1 11 = .ok (.goto 4, 3) := by decide +kernel
theorem d_Model_within_14 : decode y_Model_within.2.1 14 = .ok (.iconst 0, 1) := by decide +kernel
theorem d_Model_within_15 : decode y_Model_within.2.1 15 = .ok (.ireturn, 1) := by decide +kernel
theorem d_Model_sizeOf_0 : decode y_Model_sizeOf.2.1 0 = .ok (.iload_n 0, 1) := by decide +kernel
theorem d_Model_sizeOf_1 : decode y_Model_sizeOf.2.1 1 = .ok (.iconst 2, 1) := by decide +kernel
theorem d_Model_sizeOf_2 : decode y_Model_sizeOf.2.1 2 = .ok (.if_icmp .ge 7, 3) := by decide +kernel
theorem d_Model_sizeOf_5 : decode y_Model_sizeOf.2.1 5 = .ok (.iload_n 1, 1) := by decide +kernel
theorem d_Model_sizeOf_6 : decode y_Model_sizeOf.2.1 6 = .ok (.goto 32, 3) := by decide +kernel
theorem d_Model_sizeOf_9 : decode y_Model_sizeOf.2.1 9 = .ok (.iload_n 0, 1) := by decide +kernel
theorem d_Model_sizeOf_10 : decode y_Model_sizeOf.2.1 10 = .ok (.iconst 2, 1) := by decide +kernel
theorem d_Model_sizeOf_11 : decode y_Model_sizeOf.2.1 11 = .ok (.if_icmp .ne 7, 3) := by decide +kernel
theorem d_Model_sizeOf_14 : decode y_Model_sizeOf.2.1 14 = .ok (.iconst 4, 1) := by decide +kernel
theorem d_Model_sizeOf_15 : decode y_Model_sizeOf.2.1 15 = .ok (.goto 23, 3) := by decide +kernel
theorem d_Model_sizeOf_18 : decode y_Model_sizeOf.2.1 18 = .ok (.iload_n 0, 1) := by decide +kernel
theorem d_Model_sizeOf_19 : decode y_Model_sizeOf.2.1 19 = .ok (.iconst 3, 1) := by decide +kernel
theorem d_Model_sizeOf_20 : decode y_Model_sizeOf.2.1 20 = .ok (.if_icmp .ne 7, 3) := by decide +kernel
theorem d_Model_sizeOf_23 : decode y_Model_sizeOf.2.1 23 = .ok (.iconst 3, 1) := by decide +kernel
theorem d_Model_sizeOf_24 : decode y_Model_sizeOf.2.1 24 = .ok (.goto 14, 3) := by decide +kernel
theorem d_Model_sizeOf_27 : decode y_Model_sizeOf.2.1 27 = .ok (.iload_n 0, 1) := by decide +kernel
theorem d_Model_sizeOf_28 : decode y_Model_sizeOf.2.1 28 = .ok (.iconst 4, 1) := by decide +kernel
theorem d_Model_sizeOf_29 : decode y_Model_sizeOf.2.1 29 = .ok (.if_icmp .ne 8, 3) := by decide +kernel
theorem d_Model_sizeOf_32 : decode y_Model_sizeOf.2.1 32 = .ok (.bipush 11, 2) := by decide +kernel
theorem d_Model_sizeOf_34 : decode y_Model_sizeOf.2.1 34 = .ok (.goto 4, 3) := by decide +kernel
theorem d_Model_sizeOf_37 : decode y_Model_sizeOf.2.1 37 = .ok (.iconst 4, 1) := by decide +kernel
theorem d_Model_sizeOf_38 : decode y_Model_sizeOf.2.1 38 = .ok (.ireturn, 1) := by decide +kernel
theorem d_Model_part_0 : decode y_Model_part.2.1 0 = .ok (.aload_n 0, 1) := by decide +kernel
theorem d_Model_part_1 : decode y_Model_part.2.1 1 = .ok (.iconst 0, 1) := by decide +kernel
theorem d_Model_part_2 : decode y_Model_part.2.1 2 = .ok (.putfield 65, 3) := by decide +kernel
theorem d_Model_part_5 : decode y_Model_part.2.1 5 = .ok (.iload_n 1, 1) := by decide +kernel
theorem d_Model_part_6 : decode y_Model_part.2.1 6 = .ok (.iconst 0, 1) := by decide +kernel
theorem d_Model_part_7 : decode y_Model_part.2.1 7 = .ok (.iconst 5, 1) := by decide +kernel
theorem d_Model_part_8 : decode y_Model_part.2.1 8 = .ok (.invokestatic 69, 3) := by decide +kernel
theorem d_Model_part_11 : decode y_Model_part.2.1 11 = .ok (.ifCond .eq 44, 3) := by decide +kernel
theorem d_Model_part_14 : decode y_Model_part.2.1 14 = .ok (.iload 4, 2) := by decide +kernel
theorem d_Model_part_16 : decode y_Model_part.2.1 16 = .ok (.iconst 0, 1) := by decide +kernel
theorem d_Model_part_17 : decode y_Model_part.2.1 17 = .ok (.bipush 15, 2) := by decide +kernel
theorem d_Model_part_19 : decode y_Model_part.2.1 19 = .ok (.invokestatic 69, 3) := by decide +kernel
theorem d_Model_part_22 : decode y_Model_part.2.1 22 = .ok (.ifCond .eq 33, 3) := by decide +kernel
theorem d_Model_part_25 : decode y_Model_part.2.1 25 = .ok (.iload 5, 2) := by decide +kernel
theorem d_Model_part_27 : decode y_Model_part.2.1 27 = .ok (.iconst 0, 1) := by decide +kernel
theorem d_Model_part_28 : decode y_Model_part.2.1 28 = .ok (.bipush 7, 2) := by decide +kernel
theorem d_Model_part_30 : decode y_Model_part.2.1 30 = .ok (.invokestatic 69, 3) := by decide +kernel
theorem d_Model_part_33 : decode y_Model_part.2.1 33 = .ok (.ifCond .eq 22, 3) := by decide +kernel
theorem d_Model_part_36 : decode y_Model_part.2.1 36 = .ok (.iload_n 1, 1) := by decide +kernel
theorem d_Model_part_37 : decode y_Model_part.2.1 37 = .ok (.iconst 1, 1) := by decide +kernel
theorem d_Model_part_38 : decode y_Model_part.2.1 38 = .ok (.if_icmp .gt 13, 3) := by decide +kernel
theorem d_Model_part_41 : decode y_Model_part.2.1 41 = .ok (.iload_n 3, 1) := by decide +kernel
theorem d_Model_part_42 : decode y_Model_part.2.1 42 = .ok (.iconst 1, 1) := by decide +kernel
theorem d_Model_part_43 : decode y_Model_part.2.1 43 = .ok (.bipush 64, 2) := by decide +kernel
theorem d_Model_part_45 : decode y_Model_part.2.1 45 = .ok (.invokestatic 69, 3) := by decide +kernel
theorem d_Model_part_48 : decode y_Model_part.2.1 48 = .ok (.ifCond .eq 7, 3) := by decide +kernel
theorem d_Model_part_51 : decode y_Model_part.2.1 51 = .ok (.iconst 1, 1) := by decide +kernel
theorem d_Model_part_52 : decode y_Model_part.2.1 52 = .ok (.goto 4, 3) := by decide +kernel
theorem d_Model_part_55 : decode y_Model_part.2.1 55 = .ok (.iconst 0, 1) := by decide +kernel
theorem d_Model_part_56 : decode y_Model_part.2.1 56 = .ok (.istore 6, 2) := by decide +kernel
theorem d_Model_part_58 : decode y_Model_part.2.1 58 = .ok (.iload 6, 2) := by decide +kernel
theorem d_Model_part_60 : decode y_Model_part.2.1 60 = .ok (.ifCond .eq 11, 3) := by decide +kernel
theorem d_Model_part_63 : decode y_Model_part.2.1 63 = .ok (.iload_n 1, 1) := by decide +kernel
theorem d_Model_part_64 : decode y_Model_part.2.1 64 = .ok (.iload_n 3, 1) := by decide +kernel
theorem d_Model_part_65 : decode y_Model_part.2.1 65 = .ok (.invokestatic 73, 3) := by decide +kernel
theorem d_Model_part_68 : decode y_Model_part.2.1 68 = .ok (.goto 4, 3) := by decide +kernel
theorem d_Model_part_71 : decode y_Model_part.2.1 71 = .ok (.iconst 0, 1) := by decide +kernel
theorem d_Model_part_72 : decode y_Model_part.2.1 72 = .ok (.istore 7, 2) := by decide +kernel
theorem d_Model_part_74 : decode y_Model_part.2.1 74 = .ok (.iload 6, 2) := by decide +kernel
theorem d_Model_part_76 : decode y_Model_part.2.1 76 = .ok (.ifCond .eq 20, 3) := by decide +kernel
theorem d_Model_part_79 : decode y_Model_part.2.1 79 = .ok (.iload_n 2, 1) := by decide +kernel
theorem d_Model_part_80 : decode y_Model_part.2.1 80 = .ok (.ifCond .lt 16, 3) := by decide +kernel
theorem d_Model_part_83 : decode y_Model_part.2.1 83 = .ok (.iload_n 2, 1) := by decide +kernel
theorem d_Model_part_84 : decode y_Model_part.2.1 84 = .ok (.ldc 77, 2) := by decide +kernel
theorem d_Model_part_86 : decode y_Model_part.2.1 86 = .ok (.iload 7, 2) := by decide +kernel
theorem d_Model_part_88 : decode y_Model_part.2.1 88 = .ok (.isub, 1) := by decide +kernel
theorem d_Model_part_89 : decode y_Model_part.2.1 89 = .ok (.if_icmp .gt 7, 3) := by decide +kernel
theorem d_Model_part_92 : decode y_Model_part.2.1 92 = .ok (.iconst 1, 1) := by decide +kernel
theorem d_Model_part_93 : decode y_Model_part.2.1 93 = .ok (.goto 4, 3) := by decide +kernel
theorem d_Model_part_96 : decode y_Model_part.2.1 96 = .ok (.iconst 0, 1) := by decide +kernel
theorem d_Model_part_97 : decode y_Model_part.2.1 97 = .ok (.istore 6, 2) := by decide +kernel
theorem d_Model_part_99 : decode y_Model_part.2.1 99 = .ok (.iconst 0, 1) := by decide +kernel
theorem d_Model_part_100 : decode y_Model_part.2.1 100 = .ok (.istore 8, 2) := by decide +kernel
theorem d_Model_part_102 : decode y_Model_part.2.1 102 = .ok (.iload 8, 2) := by decide +kernel
theorem d_Model_part_104 : decode y_Model_part.2.1 104 = .ok (.aload_n 0, 1) := by decide +kernel
theorem d_Model_part_105 : decode y_Model_part.2.1 105 = .ok (.getfield 78, 3) := by decide +kernel
theorem d_Model_part_108 : decode y_Model_part.2.1 108 = .ok (.if_icmp .ge 54, 3) := by decide +kernel
theorem d_Model_part_111 : decode y_Model_part.2.1 111 = .ok (.iload 6, 2) := by decide +kernel
theorem d_Model_part_113 : decode y_Model_part.2.1 113 = .ok (.ifCond .eq 49, 3) := by decide +kernel
theorem d_Model_part_116 : decode y_Model_part.2.1 116 = .ok (.iload_n 2, 1) := by decide +kernel
theorem d_Model_part_117 : decode y_Model_part.2.1 117 = .ok (.iload 7, 2) := by decide +kernel
theorem d_Model_part_119 : decode y_Model_part.2.1 119 = .ok (.iadd, 1) := by decide +kernel
theorem d_Model_part_120 : decode y_Model_part.2.1 120 = .ok (.aload_n 0, 1) := by decide +kernel
theorem d_Model_part_121 : decode y_Model_part.2.1 121 = .ok (.getfield 13, 3) := by decide +kernel
theorem d_Model_part_124 : decode y_Model_part.2.1 124 = .ok (.iload 8, 2) := by decide +kernel
theorem d_Model_part_126 : decode y_Model_part.2.1 126 = .ok (.iaload, 1) := by decide +kernel
theorem d_Model_part_127 : decode y_Model_part.2.1 127 = .ok (.if_icmp .le 22, 3) := by decide +kernel
theorem d_Model_part_130 : decode y_Model_part.2.1 130 = .ok (.aload_n 0, 1) := by decide +kernel
theorem d_Model_part_131 : decode y_Model_part.2.1 131 = .ok (.getfield 13, 3) := by decide +kernel
theorem d_Model_part_134 : decode y_Model_part.2.1 134 = .ok (.iload 8, 2) := by decide +kernel
theorem d_Model_part_136 : decode y_Model_part.2.1 136 = .ok (.iaload, 1) := by decide +kernel
theorem d_Model_part_137 : decode y_Model_part.2.1 137 = .ok (.aload_n 0, 1) := by decide +kernel
theorem d_Model_part_138 : decode y_Model_part.2.1 138 = .ok (.getfield 16, 3) := by decide +kernel
theorem d_Model_part_141 : decode y_Model_part.2.1 141 = .ok (.iload 8, 2) := by decide +kernel
theorem d_Model_part_143 : decode y_Model_part.2.1 143 = .ok (.iaload, 1) := by decide +kernel
theorem d_Model_part_144 : decode y_Model_part.2.1 144 = .ok (.iadd, 1) := by decide +kernel
theorem d_Model_part_145 : decode y_Model_part.2.1 145 = .ok (.iload_n 2, 1) := by decide +kernel
theorem d_Model_part_146 : decode y_Model_part.2.1 146 = .ok (.if_icmp .gt 7, 3) := by decide +kernel
theorem d_Model_part_149 : decode y_Model_part.2.1 149 = .ok (.iconst 1, 1) := by decide +kernel
theorem d_Model_part_150 : decode y_Model_part.2.1 150 = .ok (.goto 4, 3) := by decide +kernel
theorem d_Model_part_153 : decode y_Model_part.2.1 153 = .ok (.iconst 0, 1) := by decide +kernel
theorem d_Model_part_154 : decode y_Model_part.2.1 154 = .ok (.istore 6, 2) := by decide +kernel
theorem d_Model_part_156 : decode y_Model_part.2.1 156 = .ok (.iinc 8 1, 3) := by decide +kernel
theorem d_Model_part_159 : decode y_Model_part.2.1 159 = .ok (.goto (-57), 3) := by decide +kernel
theorem d_Model_part_162 : decode y_Model_part.2.1 162 = .ok (.iload 6, 2) := by decide +kernel
theorem d_Model_part_164 : decode y_Model_part.2.1 164 = .ok (.ifCond .ne 9, 3) := by decide +kernel
theorem d_Model_part_167 : decode y_Model_part.2.1 167 = .ok (.aload_n 0, 1) := by decide +kernel
theorem d_Model_part_168 : decode y_Model_part.2.1 168 = .ok (.iconst 1, 1) := by decide +kernel
theorem d_Model_part_169 : decode y_Model_part.2.1 169 = .ok (.invokevirtual 81, 3) := by decide +kernel
theorem d_Model_part_172 : decode y_Model_part.2.1 172 = .ok (.ireturn, 1) := by decide +kernel
theorem d_Model_part_173 : decode y_Model_part.2.1 173 = .ok (.aload_n 0, 1) := by decide +kernel
theorem d_Model_part_174 : decode y_Model_part.2.1 174 = .ok (.getfield 78, 3) := by decide +kernel
theorem d_Model_part_177 : decode y_Model_part.2.1 177 = .ok (.bipush 12, 2) := by decide +kernel
theorem d_Model_part_179 : decode y_Model_part.2.1 179 = .ok (.if_icmp .ne 9, 3) := by decide +kernel
theorem d_Model_part_182 : decode y_Model_part.2.1 182 = .ok (.aload_n 0, 1) := by decide +kernel
theorem d_Model_part_183 : decode y_Model_part.2.1 183 = .ok (.iconst 2, 1) := by decide +kernel
theorem d_Model_part_184 : decode y_Model_part.2.1 184 = .ok (.invokevirtual 81, 3) := by decide +kernel
theorem d_Model_part_187 : decode y_Model_part.2.1 187 = .ok (.ireturn, 1) := by decide +kernel
theorem d_Model_part_188 : decode y_Model_part.2.1 188 = .ok (.aload_n 0, 1) := by decide +kernel
theorem d_Model_part_189 : decode y_Model_part.2.1 189 = .ok (.getfield 7, 3) := by decide +kernel
theorem d_Model_part_192 : decode y_Model_part.2.1 192 = .ok (.aload_n 0, 1) := by decide +kernel
theorem d_Model_part_193 : decode y_Model_part.2.1 193 = .ok (.getfield 78, 3) := by decide +kernel
theorem d_Model_part_196 : decode y_Model_part.2.1 196 = .ok (.iload_n 1, 1) := by decide +kernel
theorem d_Model_part_197 : decode y_Model_part.2.1 197 = .ok (.iastore, 1) := by decide +kernel
theorem d_Model_part_198 : decode y_Model_part.2.1 198 = .ok (.aload_n 0, 1) := by decide +kernel
theorem d_Model_part_199 : decode y_Model_part.2.1 199 = .ok (.getfield 13, 3) := by decide +kernel
theorem d_Model_part_202 : decode y_Model_part.2.1 202 = .ok (.aload_n 0, 1) := by decide +kernel
theorem d_Model_part_203 : decode y_Model_part.2.1 203 = .ok (.getfield 78, 3) := by decide +kernel
theorem d_Model_part_206 : decode y_Model_part.2.1 206 = .ok (.iload_n 2, 1) := by decide +kernel
theorem d_Model_part_207 : decode y_Model_part.2.1 207 = .ok (.iastore, 1) := by decide +kernel
theorem d_Model_part_208 : decode y_Model_part.2.1 208 = .ok (.aload_n 0, 1) := by decide +kernel
theorem d_Model_part_209 : decode y_Model_part.2.1 209 = .ok (.getfield 16, 3) := by decide +kernel
theorem d_Model_part_212 : decode y_Model_part.2.1 212 = .ok (.aload_n 0, 1) := by decide +kernel
theorem d_Model_part_213 : decode y_Model_part.2.1 213 = .ok (.getfield 78, 3) := by decide +kernel
theorem d_Model_part_216 : decode y_Model_part.2.1 216 = .ok (.iload 7, 2) := by decide +kernel
theorem d_Model_part_218 : decode y_Model_part.2.1 218 = .ok (.iastore, 1) := by decide +kernel
theorem d_Model_part_219 : decode y_Model_part.2.1 219 = .ok (.aload_n 0, 1) := by decide +kernel
theorem d_Model_part_220 : decode y_Model_part.2.1 220 = .ok (.getfield 19, 3) := by decide +kernel
theorem d_Model_part_223 : decode y_Model_part.2.1 223 = .ok (.aload_n 0, 1) := by decide +kernel
theorem d_Model_part_224 : decode y_Model_part.2.1 224 = .ok (.getfield 78, 3) := by decide +kernel
theorem d_Model_part_227 : decode y_Model_part.2.1 227 = .ok (.iload 4, 2) := by decide +kernel
theorem d_Model_part_229 : decode y_Model_part.2.1 229 = .ok (.iastore, 1) := by decide +kernel
theorem d_Model_part_230 : decode y_Model_part.2.1 230 = .ok (.aload_n 0, 1) := by decide +kernel
theorem d_Model_part_231 : decode y_Model_part.2.1 231 = .ok (.getfield 22, 3) := by decide +kernel
theorem d_Model_part_234 : decode y_Model_part.2.1 234 = .ok (.aload_n 0, 1) := by decide +kernel
theorem d_Model_part_235 : decode y_Model_part.2.1 235 = .ok (.getfield 78, 3) := by decide +kernel
theorem d_Model_part_238 : decode y_Model_part.2.1 238 = .ok (.iload 5, 2) := by decide +kernel
theorem d_Model_part_240 : decode y_Model_part.2.1 240 = .ok (.iastore, 1) := by decide +kernel
theorem d_Model_part_241 : decode y_Model_part.2.1 241 = .ok (.aload_n 0, 1) := by decide +kernel
theorem d_Model_part_242 : decode y_Model_part.2.1 242 = .ok (.dup, 1) := by decide +kernel
theorem d_Model_part_243 : decode y_Model_part.2.1 243 = .ok (.getfield 78, 3) := by decide +kernel
theorem d_Model_part_246 : decode y_Model_part.2.1 246 = .ok (.iconst 1, 1) := by decide +kernel
theorem d_Model_part_247 : decode y_Model_part.2.1 247 = .ok (.iadd, 1) := by decide +kernel
theorem d_Model_part_248 : decode y_Model_part.2.1 248 = .ok (.putfield 78, 3) := by decide +kernel
theorem d_Model_part_251 : decode y_Model_part.2.1 251 = .ok (.aload_n 0, 1) := by decide +kernel
theorem d_Model_part_252 : decode y_Model_part.2.1 252 = .ok (.getfield 78, 3) := by decide +kernel
theorem d_Model_part_255 : decode y_Model_part.2.1 255 = .ok (.iconst 1, 1) := by decide +kernel
theorem d_Model_part_256 : decode y_Model_part.2.1 256 = .ok (.isub, 1) := by decide +kernel
theorem d_Model_part_257 : decode y_Model_part.2.1 257 = .ok (.ireturn, 1) := by decide +kernel
theorem d_Model_partAt_0 : decode y_Model_partAt.2.1 0 = .ok (.iconst 0, 1) := by decide +kernel
theorem d_Model_partAt_1 : decode y_Model_partAt.2.1 1 = .ok (.istore_n 2, 1) := by decide +kernel
theorem d_Model_partAt_2 : decode y_Model_partAt.2.1 2 = .ok (.iload_n 2, 1) := by decide +kernel
theorem d_Model_partAt_3 : decode y_Model_partAt.2.1 3 = .ok (.aload_n 0, 1) := by decide +kernel
theorem d_Model_partAt_4 : decode y_Model_partAt.2.1 4 = .ok (.getfield 78, 3) := by decide +kernel
theorem d_Model_partAt_7 : decode y_Model_partAt.2.1 7 = .ok (.if_icmp .ge 39, 3) := by decide +kernel
theorem d_Model_partAt_10 : decode y_Model_partAt.2.1 10 = .ok (.iload_n 1, 1) := by decide +kernel
theorem d_Model_partAt_11 : decode y_Model_partAt.2.1 11 = .ok (.aload_n 0, 1) := by decide +kernel
theorem d_Model_partAt_12 : decode y_Model_partAt.2.1 12 = .ok (.getfield 13, 3) := by decide +kernel
theorem d_Model_partAt_15 : decode y_Model_partAt.2.1 15 = .ok (.iload_n 2, 1) := by decide +kernel
theorem d_Model_partAt_16 : decode y_Model_partAt.2.1 16 = .ok (.iaload, 1) := by decide +kernel
theorem d_Model_partAt_17 : decode y_Model_partAt.2.1 17 = .ok (.aload_n 0, 1) := by decide +kernel
theorem d_Model_partAt_18 : decode y_Model_partAt.2.1 18 = .ok (.getfield 13, 3) := by decide +kernel
theorem d_Model_partAt_21 : decode y_Model_partAt.2.1 21 = .ok (.iload_n 2, 1) := by decide +kernel
theorem d_Model_partAt_22 : decode y_Model_partAt.2.1 22 = .ok (.iaload, 1) := by decide +kernel
theorem d_Model_partAt_23 : decode y_Model_partAt.2.1 23 = .ok (.aload_n 0, 1) := by decide +kernel
theorem d_Model_partAt_24 : decode y_Model_partAt.2.1 24 = .ok (.getfield 16, 3) := by decide +kernel
theorem d_Model_partAt_27 : decode y_Model_partAt.2.1 27 = .ok (.iload_n 2, 1) := by decide +kernel
theorem d_Model_partAt_28 : decode y_Model_partAt.2.1 28 = .ok (.iaload, 1) := by decide +kernel
theorem d_Model_partAt_29 : decode y_Model_partAt.2.1 29 = .ok (.iadd, 1) := by decide +kernel
theorem d_Model_partAt_30 : decode y_Model_partAt.2.1 30 = .ok (.iconst 1, 1) := by decide +kernel
theorem d_Model_partAt_31 : decode y_Model_partAt.2.1 31 = .ok (.isub, 1) := by decide +kernel
theorem d_Model_partAt_32 : decode y_Model_partAt.2.1 32 = .ok (.invokestatic 69, 3) := by decide +kernel
theorem d_Model_partAt_35 : decode y_Model_partAt.2.1 35 = .ok (.ifCond .eq 5, 3) := by decide +kernel
theorem d_Model_partAt_38 : decode y_Model_partAt.2.1 38 = .ok (.iload_n 2, 1) := by decide +kernel
theorem d_Model_partAt_39 : decode y_Model_partAt.2.1 39 = .ok (.ireturn, 1) := by decide +kernel
theorem d_Model_partAt_40 : decode y_Model_partAt.2.1 40 = .ok (.iinc 2 1, 3) := by decide +kernel
theorem d_Model_partAt_43 : decode y_Model_partAt.2.1 43 = .ok (.goto (-41), 3) := by decide +kernel
theorem d_Model_partAt_46 : decode y_Model_partAt.2.1 46 = .ok (.iconst (-1), 1) := by decide +kernel
theorem d_Model_partAt_47 : decode y_Model_partAt.2.1 47 = .ok (.ireturn, 1) := by decide +kernel
theorem d_Model_load_0 : decode y_Model_load.2.1 0 = .ok (.aload_n 0, 1) := by decide +kernel
theorem d_Model_load_1 : decode y_Model_load.2.1 1 = .ok (.iconst 0, 1) := by decide +kernel
theorem d_Model_load_2 : decode y_Model_load.2.1 2 = .ok (.putfield 65, 3) := by decide +kernel
theorem d_Model_load_5 : decode y_Model_load.2.1 5 = .ok (.aload_n 0, 1) := by decide +kernel
theorem d_Model_load_6 : decode y_Model_load.2.1 6 = .ok (.iload_n 1, 1) := by decide +kernel
theorem d_Model_load_7 : decode y_Model_load.2.1 7 = .ok (.invokevirtual 85, 3) := by decide +kernel
theorem d_Model_load_10 : decode y_Model_load.2.1 10 = .ok (.istore_n 3, 1) := by decide +kernel
theorem d_Model_load_11 : decode y_Model_load.2.1 11 = .ok (.iload_n 3, 1) := by decide +kernel
theorem d_Model_load_12 : decode y_Model_load.2.1 12 = .ok (.ifCond .lt 13, 3) := by decide +kernel
theorem d_Model_load_15 : decode y_Model_load.2.1 15 = .ok (.aload_n 0, 1) := by decide +kernel
theorem d_Model_load_16 : decode y_Model_load.2.1 16 = .ok (.getfield 7, 3) := by decide +kernel
theorem d_Model_load_19 : decode y_Model_load.2.1 19 = .ok (.iload_n 3, 1) := by decide +kernel
theorem d_Model_load_20 : decode y_Model_load.2.1 20 = .ok (.iaload, 1) := by decide +kernel
theorem d_Model_load_21 : decode y_Model_load.2.1 21 = .ok (.iconst 1, 1) := by decide +kernel
theorem d_Model_load_22 : decode y_Model_load.2.1 22 = .ok (.if_icmp .le 9, 3) := by decide +kernel
theorem d_Model_load_25 : decode y_Model_load.2.1 25 = .ok (.aload_n 0, 1) := by decide +kernel
theorem d_Model_load_26 : decode y_Model_load.2.1 26 = .ok (.iconst 1, 1) := by decide +kernel
theorem d_Model_load_27 : decode y_Model_load.2.1 27 = .ok (.invokevirtual 81, 3) := by decide +kernel
theorem d_Model_load_30 : decode y_Model_load.2.1 30 = .ok (.ireturn, 1) := by decide +kernel
theorem d_Model_load_31 : decode y_Model_load.2.1 31 = .ok (.bipush 64, 2) := by decide +kernel
theorem d_Model_load_33 : decode y_Model_load.2.1 33 = .ok (.iload_n 3, 1) := by decide +kernel
theorem d_Model_load_34 : decode y_Model_load.2.1 34 = .ok (.imul, 1) := by decide +kernel
theorem d_Model_load_35 : decode y_Model_load.2.1 35 = .ok (.iload_n 1, 1) := by decide +kernel
theorem d_Model_load_36 : decode y_Model_load.2.1 36 = .ok (.iadd, 1) := by decide +kernel
theorem d_Model_load_37 : decode y_Model_load.2.1 37 = .ok (.aload_n 0, 1) := by decide +kernel
theorem d_Model_load_38 : decode y_Model_load.2.1 38 = .ok (.getfield 13, 3) := by decide +kernel
theorem d_Model_load_41 : decode y_Model_load.2.1 41 = .ok (.iload_n 3, 1) := by decide +kernel
theorem d_Model_load_42 : decode y_Model_load.2.1 42 = .ok (.iaload, 1) := by decide +kernel
theorem d_Model_load_43 : decode y_Model_load.2.1 43 = .ok (.isub, 1) := by decide +kernel
theorem d_Model_load_44 : decode y_Model_load.2.1 44 = .ok (.istore 4, 2) := by decide +kernel
theorem d_Model_load_46 : decode y_Model_load.2.1 46 = .ok (.aload_n 0, 1) := by decide +kernel
theorem d_Model_load_47 : decode y_Model_load.2.1 47 = .ok (.getfield 25, 3) := by decide +kernel
theorem d_Model_load_50 : decode y_Model_load.2.1 50 = .ok (.iload 4, 2) := by decide +kernel
theorem d_Model_load_52 : decode y_Model_load.2.1 52 = .ok (.iaload, 1) := by decide +kernel
theorem d_Model_load_53 : decode y_Model_load.2.1 53 = .ok (.istore 5, 2) := by decide +kernel
theorem d_Model_load_55 : decode y_Model_load.2.1 55 = .ok (.aload_n 0, 1) := by decide +kernel
theorem d_Model_load_56 : decode y_Model_load.2.1 56 = .ok (.getfield 25, 3) := by decide +kernel
theorem d_Model_load_59 : decode y_Model_load.2.1 59 = .ok (.iload 4, 2) := by decide +kernel
theorem d_Model_load_61 : decode y_Model_load.2.1 61 = .ok (.iload_n 2, 1) := by decide +kernel
theorem d_Model_load_62 : decode y_Model_load.2.1 62 = .ok (.iastore, 1) := by decide +kernel
theorem d_Model_load_63 : decode y_Model_load.2.1 63 = .ok (.iload 5, 2) := by decide +kernel
theorem d_Model_load_65 : decode y_Model_load.2.1 65 = .ok (.ireturn, 1) := by decide +kernel
theorem d_Model_resetAll_0 : decode y_Model_resetAll.2.1 0 = .ok (.aload_n 0, 1) := by decide +kernel
theorem d_Model_resetAll_1 : decode y_Model_resetAll.2.1 1 = .ok (.iload_n 1, 1) := by decide +kernel
theorem d_Model_resetAll_2 : decode y_Model_resetAll.2.1 2 = .ok (.putfield 88, 3) := by decide +kernel
theorem d_Model_resetAll_5 : decode y_Model_resetAll.2.1 5 = .ok (.aload_n 0, 1) := by decide +kernel
theorem d_Model_resetAll_6 : decode y_Model_resetAll.2.1 6 = .ok (.iconst 0, 1) := by decide +kernel
theorem d_Model_resetAll_7 : decode y_Model_resetAll.2.1 7 = .ok (.putfield 91, 3) := by decide +kernel
theorem d_Model_resetAll_10 : decode y_Model_resetAll.2.1 10 = .ok (.aload_n 0, 1) := by decide +kernel
theorem d_Model_resetAll_11 : decode y_Model_resetAll.2.1 11 = .ok (.iconst 0, 1) := by decide +kernel
theorem d_Model_resetAll_12 : decode y_Model_resetAll.2.1 12 = .ok (.putfield 94, 3) := by decide +kernel
theorem d_Model_resetAll_15 : decode y_Model_resetAll.2.1 15 = .ok (.aload_n 0, 1) := by decide +kernel
theorem d_Model_resetAll_16 : decode y_Model_resetAll.2.1 16 = .ok (.iconst 0, 1) := by decide +kernel
theorem d_Model_resetAll_17 : decode y_Model_resetAll.2.1 17 = .ok (.putfield 97, 3) := by decide +kernel
theorem d_Model_resetAll_20 : decode y_Model_resetAll.2.1 20 = .ok (.iconst 0, 1) := by decide +kernel
theorem d_Model_resetAll_21 : decode y_Model_resetAll.2.1 21 = .ok (.istore_n 2, 1) := by decide +kernel
theorem d_Model_resetAll_22 : decode y_Model_resetAll.2.1 22 = .ok (.iload_n 2, 1) := by decide +kernel
theorem d_Model_resetAll_23 : decode y_Model_resetAll.2.1 23 = .ok (.aload_n 0, 1) := by decide +kernel
theorem d_Model_resetAll_24 : decode y_Model_resetAll.2.1 24 = .ok (.getfield 78, 3) := by decide +kernel
theorem d_Model_resetAll_27 : decode y_Model_resetAll.2.1 27 = .ok (.if_icmp .ge 66, 3) := by decide +kernel
theorem d_Model_resetAll_30 : decode y_Model_resetAll.2.1 30 = .ok (.iconst 0, 1) := by decide +kernel
theorem d_Model_resetAll_31 : decode y_Model_resetAll.2.1 31 = .ok (.istore_n 3, 1) := by decide +kernel
theorem d_Model_resetAll_32 : decode y_Model_resetAll.2.1 32 = .ok (.iload_n 3, 1) := by decide +kernel
theorem d_Model_resetAll_33 : decode y_Model_resetAll.2.1 33 = .ok (.bipush 64, 2) := by decide +kernel
theorem d_Model_resetAll_35 : decode y_Model_resetAll.2.1 35 = .ok (.if_icmp .ge 31, 3) := by decide +kernel
theorem d_Model_resetAll_38 : decode y_Model_resetAll.2.1 38 = .ok (.aload_n 0, 1) := by decide +kernel
theorem d_Model_resetAll_39 : decode y_Model_resetAll.2.1 39 = .ok (.getfield 7, 3) := by decide +kernel
theorem d_Model_resetAll_42 : decode y_Model_resetAll.2.1 42 = .ok (.iload_n 2, 1) := by decide +kernel
theorem d_Model_resetAll_43 : decode y_Model_resetAll.2.1 43 = .ok (.iaload, 1) := by decide +kernel
theorem d_Model_resetAll_44 : decode y_Model_resetAll.2.1 44 = .ok (.iconst 1, 1) := by decide +kernel
theorem d_Model_resetAll_45 : decode y_Model_resetAll.2.1 45 = .ok (.if_icmp .le 21, 3) := by decide +kernel
theorem d_Model_resetAll_48 : decode y_Model_resetAll.2.1 48 = .ok (.aload_n 0, 1) := by decide +kernel
theorem d_Model_resetAll_49 : decode y_Model_resetAll.2.1 49 = .ok (.getfield 25, 3) := by decide +kernel
theorem d_Model_resetAll_52 : decode y_Model_resetAll.2.1 52 = .ok (.bipush 64, 2) := by decide +kernel
theorem d_Model_resetAll_54 : decode y_Model_resetAll.2.1 54 = .ok (.iload_n 2, 1) := by decide +kernel
theorem d_Model_resetAll_55 : decode y_Model_resetAll.2.1 55 = .ok (.imul, 1) := by decide +kernel
theorem d_Model_resetAll_56 : decode y_Model_resetAll.2.1 56 = .ok (.iload_n 3, 1) := by decide +kernel
theorem d_Model_resetAll_57 : decode y_Model_resetAll.2.1 57 = .ok (.iadd, 1) := by decide +kernel
theorem d_Model_resetAll_58 : decode y_Model_resetAll.2.1 58 = .ok (.iconst 0, 1) := by decide +kernel
theorem d_Model_resetAll_59 : decode y_Model_resetAll.2.1 59 = .ok (.iastore, 1) := by decide +kernel
theorem d_Model_resetAll_60 : decode y_Model_resetAll.2.1 60 = .ok (.iinc 3 1, 3) := by decide +kernel
theorem d_Model_resetAll_63 : decode y_Model_resetAll.2.1 63 = .ok (.goto (-31), 3) := by decide +kernel
theorem d_Model_resetAll_66 : decode y_Model_resetAll.2.1 66 = .ok (.aload_n 0, 1) := by decide +kernel
theorem d_Model_resetAll_67 : decode y_Model_resetAll.2.1 67 = .ok (.getfield 28, 3) := by decide +kernel
theorem d_Model_resetAll_70 : decode y_Model_resetAll.2.1 70 = .ok (.iload_n 2, 1) := by decide +kernel
theorem d_Model_resetAll_71 : decode y_Model_resetAll.2.1 71 = .ok (.iconst 0, 1) := by decide +kernel
theorem d_Model_resetAll_72 : decode y_Model_resetAll.2.1 72 = .ok (.iastore, 1) := by decide +kernel
theorem d_Model_resetAll_73 : decode y_Model_resetAll.2.1 73 = .ok (.aload_n 0, 1) := by decide +kernel
theorem d_Model_resetAll_74 : decode y_Model_resetAll.2.1 74 = .ok (.getfield 34, 3) := by decide +kernel
theorem d_Model_resetAll_77 : decode y_Model_resetAll.2.1 77 = .ok (.iload_n 2, 1) := by decide +kernel
theorem d_Model_resetAll_78 : decode y_Model_resetAll.2.1 78 = .ok (.iconst 0, 1) := by decide +kernel
theorem d_Model_resetAll_79 : decode y_Model_resetAll.2.1 79 = .ok (.iastore, 1) := by decide +kernel
theorem d_Model_resetAll_80 : decode y_Model_resetAll.2.1 80 = .ok (.aload_n 0, 1) := by decide +kernel
theorem d_Model_resetAll_81 : decode y_Model_resetAll.2.1 81 = .ok (.getfield 40, 3) := by decide +kernel
theorem d_Model_resetAll_84 : decode y_Model_resetAll.2.1 84 = .ok (.iload_n 2, 1) := by decide +kernel
theorem d_Model_resetAll_85 : decode y_Model_resetAll.2.1 85 = .ok (.iconst 0, 1) := by decide +kernel
theorem d_Model_resetAll_86 : decode y_Model_resetAll.2.1 86 = .ok (.iastore, 1) := by decide +kernel
theorem d_Model_resetAll_87 : decode y_Model_resetAll.2.1 87 = .ok (.iinc 2 1, 3) := by decide +kernel
theorem d_Model_resetAll_90 : decode y_Model_resetAll.2.1 90 = .ok (.goto (-68), 3) := by decide +kernel
theorem d_Model_resetAll_93 : decode y_Model_resetAll.2.1 93 = .ok (.iconst 0, 1) := by decide +kernel
theorem d_Model_resetAll_94 : decode y_Model_resetAll.2.1 94 = .ok (.istore_n 2, 1) := by decide +kernel
theorem d_Model_resetAll_95 : decode y_Model_resetAll.2.1 95 = .ok (.iload_n 2, 1) := by decide +kernel
theorem d_Model_resetAll_96 : decode y_Model_resetAll.2.1 96 = .ok (.bipush 16, 2) := by decide +kernel
theorem d_Model_resetAll_98 : decode y_Model_resetAll.2.1 98 = .ok (.if_icmp .ge 23, 3) := by decide +kernel
theorem d_Model_resetAll_101 : decode y_Model_resetAll.2.1 101 = .ok (.aload_n 0, 1) := by decide +kernel
theorem d_Model_resetAll_102 : decode y_Model_resetAll.2.1 102 = .ok (.getfield 59, 3) := by decide +kernel
theorem d_Model_resetAll_105 : decode y_Model_resetAll.2.1 105 = .ok (.iload_n 2, 1) := by decide +kernel
theorem d_Model_resetAll_106 : decode y_Model_resetAll.2.1 106 = .ok (.iconst 0, 1) := by decide +kernel
theorem d_Model_resetAll_107 : decode y_Model_resetAll.2.1 107 = .ok (.bastore, 1) := by decide +kernel
theorem d_Model_resetAll_108 : decode y_Model_resetAll.2.1 108 = .ok (.aload_n 0, 1) := by decide +kernel
theorem d_Model_resetAll_109 : decode y_Model_resetAll.2.1 109 = .ok (.getfield 62, 3) := by decide +kernel
theorem d_Model_resetAll_112 : decode y_Model_resetAll.2.1 112 = .ok (.iload_n 2, 1) := by decide +kernel
theorem d_Model_resetAll_113 : decode y_Model_resetAll.2.1 113 = .ok (.iconst 0, 1) := by decide +kernel
theorem d_Model_resetAll_114 : decode y_Model_resetAll.2.1 114 = .ok (.bastore, 1) := by decide +kernel
theorem d_Model_resetAll_115 : decode y_Model_resetAll.2.1 115 = .ok (.iinc 2 1, 3) := by decide +kernel
theorem d_Model_resetAll_118 : decode y_Model_resetAll.2.1 118 = .ok (.goto (-23), 3) := by decide +kernel
theorem d_Model_resetAll_121 : decode y_Model_resetAll.2.1 121 = .ok (.return_, 1) := by decide +kernel
theorem d_Model_asksNow_0 : decode y_Model_asksNow.2.1 0 = .ok (.bipush 64, 2) := by decide +kernel
theorem d_Model_asksNow_2 : decode y_Model_asksNow.2.1 2 = .ok (.iload_n 1, 1) := by decide +kernel
theorem d_Model_asksNow_3 : decode y_Model_asksNow.2.1 3 = .ok (.imul, 1) := by decide +kernel
theorem d_Model_asksNow_4 : decode y_Model_asksNow.2.1 4 = .ok (.istore_n 2, 1) := by decide +kernel
theorem d_Model_asksNow_5 : decode y_Model_asksNow.2.1 5 = .ok (.aload_n 0, 1) := by decide +kernel
theorem d_Model_asksNow_6 : decode y_Model_asksNow.2.1 6 = .ok (.getfield 7, 3) := by decide +kernel
theorem d_Model_asksNow_9 : decode y_Model_asksNow.2.1 9 = .ok (.iload_n 1, 1) := by decide +kernel
theorem d_Model_asksNow_10 : decode y_Model_asksNow.2.1 10 = .ok (.iaload, 1) := by decide +kernel
theorem d_Model_asksNow_11 : decode y_Model_asksNow.2.1 11 = .ok (.iconst 2, 1) := by decide +kernel
theorem d_Model_asksNow_12 : decode y_Model_asksNow.2.1 12 = .ok (.if_icmp .ne 34, 3) := by decide +kernel
theorem d_Model_asksNow_15 : decode y_Model_asksNow.2.1 15 = .ok (.aload_n 0, 1) := by decide +kernel
theorem d_Model_asksNow_16 : decode y_Model_asksNow.2.1 16 = .ok (.getfield 25, 3) := by decide +kernel
theorem d_Model_asksNow_19 : decode y_Model_asksNow.2.1 19 = .ok (.iload_n 2, 1) := by decide +kernel
theorem d_Model_asksNow_20 : decode y_Model_asksNow.2.1 20 = .ok (.iconst 2, 1) := by decide +kernel
theorem d_Model_asksNow_21 : decode y_Model_asksNow.2.1 21 = .ok (.iadd, 1) := by decide +kernel
theorem d_Model_asksNow_22 : decode y_Model_asksNow.2.1 22 = .ok (.iaload, 1) := by decide +kernel
theorem d_Model_asksNow_23 : decode y_Model_asksNow.2.1 23 = .ok (.iconst 4, 1) := by decide +kernel
theorem d_Model_asksNow_24 : decode y_Model_asksNow.2.1 24 = .ok (.iand, 1) := by decide +kernel
theorem d_Model_asksNow_25 : decode y_Model_asksNow.2.1 25 = .ok (.ifCond .eq 19, 3) := by decide +kernel
theorem d_Model_asksNow_28 : decode y_Model_asksNow.2.1 28 = .ok (.aload_n 0, 1) := by decide +kernel
theorem d_Model_asksNow_29 : decode y_Model_asksNow.2.1 29 = .ok (.getfield 25, 3) := by decide +kernel
theorem d_Model_asksNow_32 : decode y_Model_asksNow.2.1 32 = .ok (.iload_n 2, 1) := by decide +kernel
theorem d_Model_asksNow_33 : decode y_Model_asksNow.2.1 33 = .ok (.iconst 3, 1) := by decide +kernel
theorem d_Model_asksNow_34 : decode y_Model_asksNow.2.1 34 = .ok (.iadd, 1) := by decide +kernel
theorem d_Model_asksNow_35 : decode y_Model_asksNow.2.1 35 = .ok (.iaload, 1) := by decide +kernel
theorem d_Model_asksNow_36 : decode y_Model_asksNow.2.1 36 = .ok (.iconst 1, 1) := by decide +kernel
theorem d_Model_asksNow_37 : decode y_Model_asksNow.2.1 37 = .ok (.if_icmp .ne 7, 3) := by decide +kernel
theorem d_Model_asksNow_40 : decode y_Model_asksNow.2.1 40 = .ok (.iconst 1, 1) := by decide +kernel
theorem d_Model_asksNow_41 : decode y_Model_asksNow.2.1 41 = .ok (.goto 4, 3) := by decide +kernel
theorem d_Model_asksNow_44 : decode y_Model_asksNow.2.1 44 = .ok (.iconst 0, 1) := by decide +kernel
theorem d_Model_asksNow_45 : decode y_Model_asksNow.2.1 45 = .ok (.ireturn, 1) := by decide +kernel
theorem d_Model_asksNow_46 : decode y_Model_asksNow.2.1 46 = .ok (.aload_n 0, 1) := by decide +kernel
theorem d_Model_asksNow_47 : decode y_Model_asksNow.2.1 47 = .ok (.getfield 7, 3) := by decide +kernel
theorem d_Model_asksNow_50 : decode y_Model_asksNow.2.1 50 = .ok (.iload_n 1, 1) := by decide +kernel
theorem d_Model_asksNow_51 : decode y_Model_asksNow.2.1 51 = .ok (.iaload, 1) := by decide +kernel
theorem d_Model_asksNow_52 : decode y_Model_asksNow.2.1 52 = .ok (.iconst 3, 1) := by decide +kernel
theorem d_Model_asksNow_53 : decode y_Model_asksNow.2.1 53 = .ok (.if_icmp .ne 53, 3) := by decide +kernel
theorem d_Model_asksNow_56 : decode y_Model_asksNow.2.1 56 = .ok (.aload_n 0, 1) := by decide +kernel
theorem d_Model_asksNow_57 : decode y_Model_asksNow.2.1 57 = .ok (.getfield 25, 3) := by decide +kernel
theorem d_Model_asksNow_60 : decode y_Model_asksNow.2.1 60 = .ok (.iload_n 2, 1) := by decide +kernel
theorem d_Model_asksNow_61 : decode y_Model_asksNow.2.1 61 = .ok (.iconst 2, 1) := by decide +kernel
theorem d_Model_asksNow_62 : decode y_Model_asksNow.2.1 62 = .ok (.iadd, 1) := by decide +kernel
theorem d_Model_asksNow_63 : decode y_Model_asksNow.2.1 63 = .ok (.iaload, 1) := by decide +kernel
theorem d_Model_asksNow_64 : decode y_Model_asksNow.2.1 64 = .ok (.iconst 1, 1) := by decide +kernel
theorem d_Model_asksNow_65 : decode y_Model_asksNow.2.1 65 = .ok (.iand, 1) := by decide +kernel
theorem d_Model_asksNow_66 : decode y_Model_asksNow.2.1 66 = .ok (.ifCond .eq 12, 3) := by decide +kernel
theorem d_Model_asksNow_69 : decode y_Model_asksNow.2.1 69 = .ok (.aload_n 0, 1) := by decide +kernel
theorem d_Model_asksNow_70 : decode y_Model_asksNow.2.1 70 = .ok (.getfield 34, 3) := by decide +kernel
theorem d_Model_asksNow_73 : decode y_Model_asksNow.2.1 73 = .ok (.iload_n 1, 1) := by decide +kernel
theorem d_Model_asksNow_74 : decode y_Model_asksNow.2.1 74 = .ok (.iaload, 1) := by decide +kernel
theorem d_Model_asksNow_75 : decode y_Model_asksNow.2.1 75 = .ok (.ifCond .gt 25, 3) := by decide +kernel
theorem d_Model_asksNow_78 : decode y_Model_asksNow.2.1 78 = .ok (.aload_n 0, 1) := by decide +kernel
theorem d_Model_asksNow_79 : decode y_Model_asksNow.2.1 79 = .ok (.getfield 25, 3) := by decide +kernel
theorem d_Model_asksNow_82 : decode y_Model_asksNow.2.1 82 = .ok (.iload_n 2, 1) := by decide +kernel
theorem d_Model_asksNow_83 : decode y_Model_asksNow.2.1 83 = .ok (.iconst 2, 1) := by decide +kernel
theorem d_Model_asksNow_84 : decode y_Model_asksNow.2.1 84 = .ok (.iadd, 1) := by decide +kernel
theorem d_Model_asksNow_85 : decode y_Model_asksNow.2.1 85 = .ok (.iaload, 1) := by decide +kernel
theorem d_Model_asksNow_86 : decode y_Model_asksNow.2.1 86 = .ok (.iconst 2, 1) := by decide +kernel
theorem d_Model_asksNow_87 : decode y_Model_asksNow.2.1 87 = .ok (.iand, 1) := by decide +kernel
theorem d_Model_asksNow_88 : decode y_Model_asksNow.2.1 88 = .ok (.ifCond .eq 16, 3) := by decide +kernel
theorem d_Model_asksNow_91 : decode y_Model_asksNow.2.1 91 = .ok (.aload_n 0, 1) := by decide +kernel
theorem d_Model_asksNow_92 : decode y_Model_asksNow.2.1 92 = .ok (.getfield 28, 3) := by decide +kernel
theorem d_Model_asksNow_95 : decode y_Model_asksNow.2.1 95 = .ok (.iload_n 1, 1) := by decide +kernel
theorem d_Model_asksNow_96 : decode y_Model_asksNow.2.1 96 = .ok (.iaload, 1) := by decide +kernel
theorem d_Model_asksNow_97 : decode y_Model_asksNow.2.1 97 = .ok (.ifCond .ne 7, 3) := by decide +kernel
theorem d_Model_asksNow_100 : decode y_Model_asksNow.2.1 100 = .ok (.iconst 1, 1) := by decide +kernel
theorem d_Model_asksNow_101 : decode y_Model_asksNow.2.1 101 = .ok (.goto 4, 3) := by decide +kernel
theorem d_Model_asksNow_104 : decode y_Model_asksNow.2.1 104 = .ok (.iconst 0, 1) := by decide +kernel
theorem d_Model_asksNow_105 : decode y_Model_asksNow.2.1 105 = .ok (.ireturn, 1) := by decide +kernel
theorem d_Model_asksNow_106 : decode y_Model_asksNow.2.1 106 = .ok (.aload_n 0, 1) := by decide +kernel
theorem d_Model_asksNow_107 : decode y_Model_asksNow.2.1 107 = .ok (.getfield 7, 3) := by decide +kernel
theorem d_Model_asksNow_110 : decode y_Model_asksNow.2.1 110 = .ok (.iload_n 1, 1) := by decide +kernel
theorem d_Model_asksNow_111 : decode y_Model_asksNow.2.1 111 = .ok (.iaload, 1) := by decide +kernel
theorem d_Model_asksNow_112 : decode y_Model_asksNow.2.1 112 = .ok (.iconst 4, 1) := by decide +kernel
theorem d_Model_asksNow_113 : decode y_Model_asksNow.2.1 113 = .ok (.if_icmp .ne 19, 3) := by decide +kernel
theorem d_Model_asksNow_116 : decode y_Model_asksNow.2.1 116 = .ok (.aload_n 0, 1) := by decide +kernel
theorem d_Model_asksNow_117 : decode y_Model_asksNow.2.1 117 = .ok (.getfield 25, 3) := by decide +kernel
theorem d_Model_asksNow_120 : decode y_Model_asksNow.2.1 120 = .ok (.iload_n 2, 1) := by decide +kernel
theorem d_Model_asksNow_121 : decode y_Model_asksNow.2.1 121 = .ok (.iconst 2, 1) := by decide +kernel
theorem d_Model_asksNow_122 : decode y_Model_asksNow.2.1 122 = .ok (.iadd, 1) := by decide +kernel
theorem d_Model_asksNow_123 : decode y_Model_asksNow.2.1 123 = .ok (.iaload, 1) := by decide +kernel
theorem d_Model_asksNow_124 : decode y_Model_asksNow.2.1 124 = .ok (.iconst 1, 1) := by decide +kernel
theorem d_Model_asksNow_125 : decode y_Model_asksNow.2.1 125 = .ok (.if_icmp .ne 7, 3) := by decide +kernel
theorem d_Model_asksNow_128 : decode y_Model_asksNow.2.1 128 = .ok (.iconst 1, 1) := by decide +kernel
theorem d_Model_asksNow_129 : decode y_Model_asksNow.2.1 129 = .ok (.goto 4, 3) := by decide +kernel
theorem d_Model_asksNow_132 : decode y_Model_asksNow.2.1 132 = .ok (.iconst 0, 1) := by decide +kernel
theorem d_Model_asksNow_133 : decode y_Model_asksNow.2.1 133 = .ok (.ireturn, 1) := by decide +kernel
theorem d_Model_lookAtLines_0 : decode y_Model_lookAtLines.2.1 0 = .ok (.iconst 0, 1) := by decide +kernel
theorem d_Model_lookAtLines_1 : decode y_Model_lookAtLines.2.1 1 = .ok (.istore_n 1, 1) := by decide +kernel
theorem d_Model_lookAtLines_2 : decode y_Model_lookAtLines.2.1 2 = .ok (.iload_n 1, 1) := by decide +kernel
theorem d_Model_lookAtLines_3 : decode y_Model_lookAtLines.2.1 3 = .ok (.bipush 16, 2) := by decide +kernel
theorem d_Model_lookAtLines_5 : decode y_Model_lookAtLines.2.1 5 = .ok (.if_icmp .ge 112, 3) := by decide +kernel
theorem d_Model_lookAtLines_8 : decode y_Model_lookAtLines.2.1 8 = .ok (.iconst 0, 1) := by decide +kernel
theorem d_Model_lookAtLines_9 : decode y_Model_lookAtLines.2.1 9 = .ok (.istore_n 2, 1) := by decide +kernel
theorem d_Model_lookAtLines_10 : decode y_Model_lookAtLines.2.1 10 = .ok (.iconst 0, 1) := by decide +kernel
theorem d_Model_lookAtLines_11 : decode y_Model_lookAtLines.2.1 11 = .ok (.istore_n 3, 1) := by decide +kernel
theorem d_Model_lookAtLines_12 : decode y_Model_lookAtLines.2.1 12 = .ok (.iload_n 3, 1) := by decide +kernel
theorem d_Model_lookAtLines_13 : decode y_Model_lookAtLines.2.1 13 = .ok (.aload_n 0, 1) := by decide +kernel
theorem d_Model_lookAtLines_14 : decode y_Model_lookAtLines.2.1 14 = .ok (.getfield 78, 3) := by decide +kernel
theorem d_Model_lookAtLines_17 : decode y_Model_lookAtLines.2.1 17 = .ok (.if_icmp .ge 37, 3) := by decide +kernel
theorem d_Model_lookAtLines_20 : decode y_Model_lookAtLines.2.1 20 = .ok (.iload_n 2, 1) := by decide +kernel
theorem d_Model_lookAtLines_21 : decode y_Model_lookAtLines.2.1 21 = .ok (.ifCond .ne 21, 3) := by decide +kernel
theorem d_Model_lookAtLines_24 : decode y_Model_lookAtLines.2.1 24 = .ok (.aload_n 0, 1) := by decide +kernel
theorem d_Model_lookAtLines_25 : decode y_Model_lookAtLines.2.1 25 = .ok (.getfield 19, 3) := by decide +kernel
theorem d_Model_lookAtLines_28 : decode y_Model_lookAtLines.2.1 28 = .ok (.iload_n 3, 1) := by decide +kernel
theorem d_Model_lookAtLines_29 : decode y_Model_lookAtLines.2.1 29 = .ok (.iaload, 1) := by decide +kernel
theorem d_Model_lookAtLines_30 : decode y_Model_lookAtLines.2.1 30 = .ok (.iload_n 1, 1) := by decide +kernel
theorem d_Model_lookAtLines_31 : decode y_Model_lookAtLines.2.1 31 = .ok (.if_icmp .ne 15, 3) := by decide +kernel
theorem d_Model_lookAtLines_34 : decode y_Model_lookAtLines.2.1 34 = .ok (.aload_n 0, 1) := by decide +kernel
theorem d_Model_lookAtLines_35 : decode y_Model_lookAtLines.2.1 35 = .ok (.iload_n 3, 1) := by decide +kernel
theorem d_Model_lookAtLines_36 : decode y_Model_lookAtLines.2.1 36 = .ok (.invokevirtual 100, 3) := by decide +kernel
theorem d_Model_lookAtLines_39 : decode y_Model_lookAtLines.2.1 39 = .ok (.ifCond .eq 7, 3) := by decide +kernel
theorem d_Model_lookAtLines_42 : decode y_Model_lookAtLines.2.1 42 = .ok (.iconst 1, 1) := by decide +kernel
theorem d_Model_lookAtLines_43 : decode y_Model_lookAtLines.2.1 43 = .ok (.goto 4, 3) := by decide +kernel
theorem d_Model_lookAtLines_46 : decode y_Model_lookAtLines.2.1 46 = .ok (.iconst 0, 1) := by decide +kernel
theorem d_Model_lookAtLines_47 : decode y_Model_lookAtLines.2.1 47 = .ok (.istore_n 2, 1) := by decide +kernel
theorem d_Model_lookAtLines_48 : decode y_Model_lookAtLines.2.1 48 = .ok (.iinc 3 1, 3) := by decide +kernel
theorem d_Model_lookAtLines_51 : decode y_Model_lookAtLines.2.1 51 = .ok (.goto (-39), 3) := by decide +kernel
theorem d_Model_lookAtLines_54 : decode y_Model_lookAtLines.2.1 54 = .ok (.aload_n 0, 1) := by decide +kernel
theorem d_Model_lookAtLines_55 : decode y_Model_lookAtLines.2.1 55 = .ok (.getfield 49, 3) := by decide +kernel
theorem d_Model_lookAtLines_58 : decode y_Model_lookAtLines.2.1 58 = .ok (.iload_n 1, 1) := by decide +kernel
theorem d_Model_lookAtLines_59 : decode y_Model_lookAtLines.2.1 59 = .ok (.iaload, 1) := by decide +kernel
theorem d_Model_lookAtLines_60 : decode y_Model_lookAtLines.2.1 60 = .ok (.iconst 1, 1) := by decide +kernel
theorem d_Model_lookAtLines_61 : decode y_Model_lookAtLines.2.1 61 = .ok (.if_icmp .ne 16, 3) := by decide +kernel
theorem d_Model_lookAtLines_64 : decode y_Model_lookAtLines.2.1 64 = .ok (.iload_n 2, 1) := by decide +kernel
theorem d_Model_lookAtLines_65 : decode y_Model_lookAtLines.2.1 65 = .ok (.ifCond .eq 12, 3) := by decide +kernel
theorem d_Model_lookAtLines_68 : decode y_Model_lookAtLines.2.1 68 = .ok (.aload_n 0, 1) := by decide +kernel
theorem d_Model_lookAtLines_69 : decode y_Model_lookAtLines.2.1 69 = .ok (.getfield 59, 3) := by decide +kernel
theorem d_Model_lookAtLines_72 : decode y_Model_lookAtLines.2.1 72 = .ok (.iload_n 1, 1) := by decide +kernel
theorem d_Model_lookAtLines_73 : decode y_Model_lookAtLines.2.1 73 = .ok (.baload, 1) := by decide +kernel
theorem d_Model_lookAtLines_74 : decode y_Model_lookAtLines.2.1 74 = .ok (.ifCond .eq 23, 3) := by decide +kernel
theorem d_Model_lookAtLines_77 : decode y_Model_lookAtLines.2.1 77 = .ok (.aload_n 0, 1) := by decide +kernel
theorem d_Model_lookAtLines_78 : decode y_Model_lookAtLines.2.1 78 = .ok (.getfield 49, 3) := by decide +kernel
theorem d_Model_lookAtLines_81 : decode y_Model_lookAtLines.2.1 81 = .ok (.iload_n 1, 1) := by decide +kernel
theorem d_Model_lookAtLines_82 : decode y_Model_lookAtLines.2.1 82 = .ok (.iaload, 1) := by decide +kernel
theorem d_Model_lookAtLines_83 : decode y_Model_lookAtLines.2.1 83 = .ok (.iconst 2, 1) := by decide +kernel
theorem d_Model_lookAtLines_84 : decode y_Model_lookAtLines.2.1 84 = .ok (.if_icmp .ne 20, 3) := by decide +kernel
theorem d_Model_lookAtLines_87 : decode y_Model_lookAtLines.2.1 87 = .ok (.iload_n 2, 1) := by decide +kernel
theorem d_Model_lookAtLines_88 : decode y_Model_lookAtLines.2.1 88 = .ok (.aload_n 0, 1) := by decide +kernel
theorem d_Model_lookAtLines_89 : decode y_Model_lookAtLines.2.1 89 = .ok (.getfield 59, 3) := by decide +kernel
theorem d_Model_lookAtLines_92 : decode y_Model_lookAtLines.2.1 92 = .ok (.iload_n 1, 1) := by decide +kernel
theorem d_Model_lookAtLines_93 : decode y_Model_lookAtLines.2.1 93 = .ok (.baload, 1) := by decide +kernel
theorem d_Model_lookAtLines_94 : decode y_Model_lookAtLines.2.1 94 = .ok (.if_icmp .eq 10, 3) := by decide +kernel
theorem d_Model_lookAtLines_97 : decode y_Model_lookAtLines.2.1 97 = .ok (.aload_n 0, 1) := by decide +kernel
theorem d_Model_lookAtLines_98 : decode y_Model_lookAtLines.2.1 98 = .ok (.getfield 62, 3) := by decide +kernel
theorem d_Model_lookAtLines_101 : decode y_Model_lookAtLines.2.1 101 = .ok (.iload_n 1, 1) := by decide +kernel
theorem d_Model_lookAtLines_102 : decode y_Model_lookAtLines.2.1 102 = .ok (.iconst 1, 1) := by decide +kernel
theorem d_Model_lookAtLines_103 : decode y_Model_lookAtLines.2.1 103 = .ok (.bastore, 1) := by decide +kernel
theorem d_Model_lookAtLines_104 : decode y_Model_lookAtLines.2.1 104 = .ok (.aload_n 0, 1) := by decide +kernel
theorem d_Model_lookAtLines_105 : decode y_Model_lookAtLines.2.1 105 = .ok (.getfield 59, 3) := by decide +kernel
theorem d_Model_lookAtLines_108 : decode y_Model_lookAtLines.2.1 108 = .ok (.iload_n 1, 1) := by decide +kernel
theorem d_Model_lookAtLines_109 : decode y_Model_lookAtLines.2.1 109 = .ok (.iload_n 2, 1) := by decide +kernel
theorem d_Model_lookAtLines_110 : decode y_Model_lookAtLines.2.1 110 = .ok (.bastore, 1) := by decide +kernel
theorem d_Model_lookAtLines_111 : decode y_Model_lookAtLines.2.1 111 = .ok (.iinc 1 1, 3) := by decide +kernel
theorem d_Model_lookAtLines_114 : decode y_Model_lookAtLines.2.1 114 = .ok (.goto (-112), 3) := by decide +kernel
theorem d_Model_lookAtLines_117 : decode y_Model_lookAtLines.2.1 117 = .ok (.return_, 1) := by decide +kernel
theorem d_Model_timerStep_0 : decode y_Model_timerStep.2.1 0 = .ok (.aload_n 0, 1) := by decide +kernel
theorem d_Model_timerStep_1 : decode y_Model_timerStep.2.1 1 = .ok (.getfield 25, 3) := by decide +kernel
theorem d_Model_timerStep_4 : decode y_Model_timerStep.2.1 4 = .ok (.iload_n 1, 1) := by decide +kernel
theorem d_Model_timerStep_5 : decode y_Model_timerStep.2.1 5 = .ok (.iconst 2, 1) := by decide +kernel
theorem d_Model_timerStep_6 : decode y_Model_timerStep.2.1 6 = .ok (.iadd, 1) := by decide +kernel
theorem d_Model_timerStep_7 : decode y_Model_timerStep.2.1 7 = .ok (.iaload, 1) := by decide +kernel
theorem d_Model_timerStep_8 : decode y_Model_timerStep.2.1 8 = .ok (.iconst 1, 1) := by decide +kernel
theorem d_Model_timerStep_9 : decode y_Model_timerStep.2.1 9 = .ok (.iand, 1) := by decide +kernel
theorem d_Model_timerStep_10 : decode y_Model_timerStep.2.1 10 = .ok (.ifCond .ne 5, 3) := by decide +kernel
theorem d_Model_timerStep_13 : decode y_Model_timerStep.2.1 13 = .ok (.iconst 0, 1) := by decide +kernel
theorem d_Model_timerStep_14 : decode y_Model_timerStep.2.1 14 = .ok (.ireturn, 1) := by decide +kernel
theorem d_Model_timerStep_15 : decode y_Model_timerStep.2.1 15 = .ok (.aload_n 0, 1) := by decide +kernel
theorem d_Model_timerStep_16 : decode y_Model_timerStep.2.1 16 = .ok (.getfield 25, 3) := by decide +kernel
theorem d_Model_timerStep_19 : decode y_Model_timerStep.2.1 19 = .ok (.iload_n 1, 1) := by decide +kernel
theorem d_Model_timerStep_20 : decode y_Model_timerStep.2.1 20 = .ok (.dup2, 1) := by decide +kernel
theorem d_Model_timerStep_21 : decode y_Model_timerStep.2.1 21 = .ok (.iaload, 1) := by decide +kernel
theorem d_Model_timerStep_22 : decode y_Model_timerStep.2.1 22 = .ok (.iconst 1, 1) := by decide +kernel
theorem d_Model_timerStep_23 : decode y_Model_timerStep.2.1 23 = .ok (.iadd, 1) := by decide +kernel
theorem d_Model_timerStep_24 : decode y_Model_timerStep.2.1 24 = .ok (.iastore, 1) := by decide +kernel
theorem d_Model_timerStep_25 : decode y_Model_timerStep.2.1 25 = .ok (.aload_n 0, 1) := by decide +kernel
theorem d_Model_timerStep_26 : decode y_Model_timerStep.2.1 26 = .ok (.getfield 25, 3) := by decide +kernel
theorem d_Model_timerStep_29 : decode y_Model_timerStep.2.1 29 = .ok (.iload_n 1, 1) := by decide +kernel
theorem d_Model_timerStep_30 : decode y_Model_timerStep.2.1 30 = .ok (.iaload, 1) := by decide +kernel
theorem d_Model_timerStep_31 : decode y_Model_timerStep.2.1 31 = .ok (.aload_n 0, 1) := by decide +kernel
theorem d_Model_timerStep_32 : decode y_Model_timerStep.2.1 32 = .ok (.getfield 25, 3) := by decide +kernel
theorem d_Model_timerStep_35 : decode y_Model_timerStep.2.1 35 = .ok (.iload_n 1, 1) := by decide +kernel
theorem d_Model_timerStep_36 : decode y_Model_timerStep.2.1 36 = .ok (.iconst 1, 1) := by decide +kernel
theorem d_Model_timerStep_37 : decode y_Model_timerStep.2.1 37 = .ok (.iadd, 1) := by decide +kernel
theorem d_Model_timerStep_38 : decode y_Model_timerStep.2.1 38 = .ok (.iaload, 1) := by decide +kernel
theorem d_Model_timerStep_39 : decode y_Model_timerStep.2.1 39 = .ok (.if_icmp .eq 5, 3) := by decide +kernel
theorem d_Model_timerStep_42 : decode y_Model_timerStep.2.1 42 = .ok (.iconst 0, 1) := by decide +kernel
theorem d_Model_timerStep_43 : decode y_Model_timerStep.2.1 43 = .ok (.ireturn, 1) := by decide +kernel
theorem d_Model_timerStep_44 : decode y_Model_timerStep.2.1 44 = .ok (.aload_n 0, 1) := by decide +kernel
theorem d_Model_timerStep_45 : decode y_Model_timerStep.2.1 45 = .ok (.getfield 25, 3) := by decide +kernel
theorem d_Model_timerStep_48 : decode y_Model_timerStep.2.1 48 = .ok (.iload_n 1, 1) := by decide +kernel
theorem d_Model_timerStep_49 : decode y_Model_timerStep.2.1 49 = .ok (.iconst 3, 1) := by decide +kernel
theorem d_Model_timerStep_50 : decode y_Model_timerStep.2.1 50 = .ok (.iadd, 1) := by decide +kernel
theorem d_Model_timerStep_51 : decode y_Model_timerStep.2.1 51 = .ok (.iconst 1, 1) := by decide +kernel
theorem d_Model_timerStep_52 : decode y_Model_timerStep.2.1 52 = .ok (.iastore, 1) := by decide +kernel
theorem d_Model_timerStep_53 : decode y_Model_timerStep.2.1 53 = .ok (.aload_n 0, 1) := by decide +kernel
theorem d_Model_timerStep_54 : decode y_Model_timerStep.2.1 54 = .ok (.getfield 25, 3) := by decide +kernel
theorem d_Model_timerStep_57 : decode y_Model_timerStep.2.1 57 = .ok (.iload_n 1, 1) := by decide +kernel
theorem d_Model_timerStep_58 : decode y_Model_timerStep.2.1 58 = .ok (.iconst 2, 1) := by decide +kernel
theorem d_Model_timerStep_59 : decode y_Model_timerStep.2.1 59 = .ok (.iadd, 1) := by decide +kernel
theorem d_Model_timerStep_60 : decode y_Model_timerStep.2.1 60 = .ok (.iaload, 1) := by decide +kernel
theorem d_Model_timerStep_61 : decode y_Model_timerStep.2.1 61 = .ok (.iconst 2, 1) := by decide +kernel
theorem d_Model_timerStep_62 : decode y_Model_timerStep.2.1 62 = .ok (.iand, 1) := by decide +kernel
theorem d_Model_timerStep_63 : decode y_Model_timerStep.2.1 63 = .ok (.ifCond .eq 13, 3) := by decide +kernel
theorem d_Model_timerStep_66 : decode y_Model_timerStep.2.1 66 = .ok (.aload_n 0, 1) := by decide +kernel
theorem d_Model_timerStep_67 : decode y_Model_timerStep.2.1 67 = .ok (.getfield 25, 3) := by decide +kernel
theorem d_Model_timerStep_70 : decode y_Model_timerStep.2.1 70 = .ok (.iload_n 1, 1) := by decide +kernel
theorem d_Model_timerStep_71 : decode y_Model_timerStep.2.1 71 = .ok (.iconst 0, 1) := by decide +kernel
theorem d_Model_timerStep_72 : decode y_Model_timerStep.2.1 72 = .ok (.iastore, 1) := by decide +kernel
theorem d_Model_timerStep_73 : decode y_Model_timerStep.2.1 73 = .ok (.goto 16, 3) := by decide +kernel
theorem d_Model_timerStep_76 : decode y_Model_timerStep.2.1 76 = .ok (.aload_n 0, 1) := by decide +kernel
theorem d_Model_timerStep_77 : decode y_Model_timerStep.2.1 77 = .ok (.getfield 25, 3) := by decide +kernel
theorem d_Model_timerStep_80 : decode y_Model_timerStep.2.1 80 = .ok (.iload_n 1, 1) := by decide +kernel
theorem d_Model_timerStep_81 : decode y_Model_timerStep.2.1 81 = .ok (.iconst 2, 1) := by decide +kernel
theorem d_Model_timerStep_82 : decode y_Model_timerStep.2.1 82 = .ok (.iadd, 1) := by decide +kernel
theorem d_Model_timerStep_83 : decode y_Model_timerStep.2.1 83 = .ok (.dup2, 1) := by decide +kernel
theorem d_Model_timerStep_84 : decode y_Model_timerStep.2.1 84 = .ok (.iaload, 1) := by decide +kernel
theorem d_Model_timerStep_85 : decode y_Model_timerStep.2.1 85 = .ok (.bipush 14, 2) := by decide +kernel
theorem d_Model_timerStep_87 : decode y_Model_timerStep.2.1 87 = .ok (.iand, 1) := by decide +kernel
theorem d_Model_timerStep_88 : decode y_Model_timerStep.2.1 88 = .ok (.iastore, 1) := by decide +kernel
theorem d_Model_timerStep_89 : decode y_Model_timerStep.2.1 89 = .ok (.aload_n 0, 1) := by decide +kernel
theorem d_Model_timerStep_90 : decode y_Model_timerStep.2.1 90 = .ok (.getfield 25, 3) := by decide +kernel
theorem d_Model_timerStep_93 : decode y_Model_timerStep.2.1 93 = .ok (.iload_n 1, 1) := by decide +kernel
theorem d_Model_timerStep_94 : decode y_Model_timerStep.2.1 94 = .ok (.iconst 2, 1) := by decide +kernel
theorem d_Model_timerStep_95 : decode y_Model_timerStep.2.1 95 = .ok (.iadd, 1) := by decide +kernel
theorem d_Model_timerStep_96 : decode y_Model_timerStep.2.1 96 = .ok (.iaload, 1) := by decide +kernel
theorem d_Model_timerStep_97 : decode y_Model_timerStep.2.1 97 = .ok (.bipush 8, 2) := by decide +kernel
theorem d_Model_timerStep_99 : decode y_Model_timerStep.2.1 99 = .ok (.iand, 1) := by decide +kernel
theorem d_Model_timerStep_100 : decode y_Model_timerStep.2.1 100 = .ok (.ifCond .eq 7, 3) := by decide +kernel
theorem d_Model_timerStep_103 : decode y_Model_timerStep.2.1 103 = .ok (.iconst 1, 1) := by decide +kernel
theorem d_Model_timerStep_104 : decode y_Model_timerStep.2.1 104 = .ok (.goto 4, 3) := by decide +kernel
theorem d_Model_timerStep_107 : decode y_Model_timerStep.2.1 107 = .ok (.iconst 0, 1) := by decide +kernel
theorem d_Model_timerStep_108 : decode y_Model_timerStep.2.1 108 = .ok (.ireturn, 1) := by decide +kernel
theorem d_Model_sendStep_0 : decode y_Model_sendStep.2.1 0 = .ok (.aload_n 0, 1) := by decide +kernel
theorem d_Model_sendStep_1 : decode y_Model_sendStep.2.1 1 = .ok (.getfield 28, 3) := by decide +kernel
theorem d_Model_sendStep_4 : decode y_Model_sendStep.2.1 4 = .ok (.iload_n 1, 1) := by decide +kernel
theorem d_Model_sendStep_5 : decode y_Model_sendStep.2.1 5 = .ok (.iaload, 1) := by decide +kernel
theorem d_Model_sendStep_6 : decode y_Model_sendStep.2.1 6 = .ok (.ifCond .ne 4, 3) := by decide +kernel
theorem d_Model_sendStep_9 : decode y_Model_sendStep.2.1 9 = .ok (.return_, 1) := by decide +kernel
theorem d_Model_sendStep_10 : decode y_Model_sendStep.2.1 10 = .ok (.aload_n 0, 1) := by decide +kernel
theorem d_Model_sendStep_11 : decode y_Model_sendStep.2.1 11 = .ok (.getfield 28, 3) := by decide +kernel
theorem d_Model_sendStep_14 : decode y_Model_sendStep.2.1 14 = .ok (.iload_n 1, 1) := by decide +kernel
theorem d_Model_sendStep_15 : decode y_Model_sendStep.2.1 15 = .ok (.dup2, 1) := by decide +kernel
theorem d_Model_sendStep_16 : decode y_Model_sendStep.2.1 16 = .ok (.iaload, 1) := by decide +kernel
theorem d_Model_sendStep_17 : decode y_Model_sendStep.2.1 17 = .ok (.iconst 1, 1) := by decide +kernel
theorem d_Model_sendStep_18 : decode y_Model_sendStep.2.1 18 = .ok (.isub, 1) := by decide +kernel
theorem d_Model_sendStep_19 : decode y_Model_sendStep.2.1 19 = .ok (.iastore, 1) := by decide +kernel
theorem d_Model_sendStep_20 : decode y_Model_sendStep.2.1 20 = .ok (.aload_n 0, 1) := by decide +kernel
theorem d_Model_sendStep_21 : decode y_Model_sendStep.2.1 21 = .ok (.getfield 28, 3) := by decide +kernel
theorem d_Model_sendStep_24 : decode y_Model_sendStep.2.1 24 = .ok (.iload_n 1, 1) := by decide +kernel
theorem d_Model_sendStep_25 : decode y_Model_sendStep.2.1 25 = .ok (.iaload, 1) := by decide +kernel
theorem d_Model_sendStep_26 : decode y_Model_sendStep.2.1 26 = .ok (.ifCond .le 4, 3) := by decide +kernel
theorem d_Model_sendStep_29 : decode y_Model_sendStep.2.1 29 = .ok (.return_, 1) := by decide +kernel
theorem d_Model_sendStep_30 : decode y_Model_sendStep.2.1 30 = .ok (.aload_n 0, 1) := by decide +kernel
theorem d_Model_sendStep_31 : decode y_Model_sendStep.2.1 31 = .ok (.getfield 40, 3) := by decide +kernel
theorem d_Model_sendStep_34 : decode y_Model_sendStep.2.1 34 = .ok (.iload_n 1, 1) := by decide +kernel
theorem d_Model_sendStep_35 : decode y_Model_sendStep.2.1 35 = .ok (.iaload, 1) := by decide +kernel
theorem d_Model_sendStep_36 : decode y_Model_sendStep.2.1 36 = .ok (.bipush 32, 2) := by decide +kernel
theorem d_Model_sendStep_38 : decode y_Model_sendStep.2.1 38 = .ok (.if_icmp .lt 41, 3) := by decide +kernel
theorem d_Model_sendStep_41 : decode y_Model_sendStep.2.1 41 = .ok (.iconst 1, 1) := by decide +kernel
theorem d_Model_sendStep_42 : decode y_Model_sendStep.2.1 42 = .ok (.istore_n 2, 1) := by decide +kernel
theorem d_Model_sendStep_43 : decode y_Model_sendStep.2.1 43 = .ok (.iload_n 2, 1) := by decide +kernel
theorem d_Model_sendStep_44 : decode y_Model_sendStep.2.1 44 = .ok (.bipush 32, 2) := by decide +kernel
theorem d_Model_sendStep_46 : decode y_Model_sendStep.2.1 46 = .ok (.if_icmp .ge 33, 3) := by decide +kernel
theorem d_Model_sendStep_49 : decode y_Model_sendStep.2.1 49 = .ok (.aload_n 0, 1) := by decide +kernel
theorem d_Model_sendStep_50 : decode y_Model_sendStep.2.1 50 = .ok (.getfield 43, 3) := by decide +kernel
theorem d_Model_sendStep_53 : decode y_Model_sendStep.2.1 53 = .ok (.bipush 32, 2) := by decide +kernel
theorem d_Model_sendStep_55 : decode y_Model_sendStep.2.1 55 = .ok (.iload_n 1, 1) := by decide +kernel
theorem d_Model_sendStep_56 : decode y_Model_sendStep.2.1 56 = .ok (.imul, 1) := by decide +kernel
theorem d_Model_sendStep_57 : decode y_Model_sendStep.2.1 57 = .ok (.iload_n 2, 1) := by decide +kernel
theorem d_Model_sendStep_58 : decode y_Model_sendStep.2.1 58 = .ok (.iadd, 1) := by decide +kernel
theorem d_Model_sendStep_59 : decode y_Model_sendStep.2.1 59 = .ok (.iconst 1, 1) := by decide +kernel
theorem d_Model_sendStep_60 : decode y_Model_sendStep.2.1 60 = .ok (.isub, 1) := by decide +kernel
theorem d_Model_sendStep_61 : decode y_Model_sendStep.2.1 61 = .ok (.aload_n 0, 1) := by decide +kernel
theorem d_Model_sendStep_62 : decode y_Model_sendStep.2.1 62 = .ok (.getfield 43, 3) := by decide +kernel
theorem d_Model_sendStep_65 : decode y_Model_sendStep.2.1 65 = .ok (.bipush 32, 2) := by decide +kernel
theorem d_Model_sendStep_67 : decode y_Model_sendStep.2.1 67 = .ok (.iload_n 1, 1) := by decide +kernel
theorem d_Model_sendStep_68 : decode y_Model_sendStep.2.1 68 = .ok (.imul, 1) := by decide +kernel
theorem d_Model_sendStep_69 : decode y_Model_sendStep.2.1 69 = .ok (.iload_n 2, 1) := by decide +kernel
theorem d_Model_sendStep_70 : decode y_Model_sendStep.2.1 70 = .ok (.iadd, 1) := by decide +kernel
theorem d_Model_sendStep_71 : decode y_Model_sendStep.2.1 71 = .ok (.iaload, 1) := by decide +kernel
theorem d_Model_sendStep_72 : decode y_Model_sendStep.2.1 72 = .ok (.iastore, 1) := by decide +kernel
theorem d_Model_sendStep_73 : decode y_Model_sendStep.2.1 73 = .ok (.iinc 2 1, 3) := by decide +kernel
theorem d_Model_sendStep_76 : decode y_Model_sendStep.2.1 76 = .ok (.goto (-33), 3) := by decide +kernel
theorem d_Model_sendStep_79 : decode y_Model_sendStep.2.1 79 = .ok (.aload_n 0, 1) := by decide +kernel
theorem d_Model_sendStep_80 : decode y_Model_sendStep.2.1 80 = .ok (.getfield 43, 3) := by decide +kernel
theorem d_Model_sendStep_83 : decode y_Model_sendStep.2.1 83 = .ok (.bipush 32, 2) := by decide +kernel
theorem d_Model_sendStep_85 : decode y_Model_sendStep.2.1 85 = .ok (.iload_n 1, 1) := by decide +kernel
theorem d_Model_sendStep_86 : decode y_Model_sendStep.2.1 86 = .ok (.imul, 1) := by decide +kernel
theorem d_Model_sendStep_87 : decode y_Model_sendStep.2.1 87 = .ok (.aload_n 0, 1) := by decide +kernel
theorem d_Model_sendStep_88 : decode y_Model_sendStep.2.1 88 = .ok (.getfield 40, 3) := by decide +kernel
theorem d_Model_sendStep_91 : decode y_Model_sendStep.2.1 91 = .ok (.iload_n 1, 1) := by decide +kernel
theorem d_Model_sendStep_92 : decode y_Model_sendStep.2.1 92 = .ok (.iaload, 1) := by decide +kernel
theorem d_Model_sendStep_93 : decode y_Model_sendStep.2.1 93 = .ok (.bipush 32, 2) := by decide +kernel
theorem d_Model_sendStep_95 : decode y_Model_sendStep.2.1 95 = .ok (.if_icmp .ge 12, 3) := by decide +kernel
theorem d_Model_sendStep_98 : decode y_Model_sendStep.2.1 98 = .ok (.aload_n 0, 1) := by decide +kernel
theorem d_Model_sendStep_99 : decode y_Model_sendStep.2.1 99 = .ok (.getfield 40, 3) := by decide +kernel
theorem d_Model_sendStep_102 : decode y_Model_sendStep.2.1 102 = .ok (.iload_n 1, 1) := by decide +kernel
theorem d_Model_sendStep_103 : decode y_Model_sendStep.2.1 103 = .ok (.iaload, 1) := by decide +kernel
theorem d_Model_sendStep_104 : decode y_Model_sendStep.2.1 104 = .ok (.goto 5, 3) := by decide +kernel
theorem d_Model_sendStep_107 : decode y_Model_sendStep.2.1 107 = .ok (.bipush 31, 2) := by decide +kernel
theorem d_Model_sendStep_109 : decode y_Model_sendStep.2.1 109 = .ok (.iadd, 1) := by decide +kernel
theorem d_Model_sendStep_110 : decode y_Model_sendStep.2.1 110 = .ok (.aload_n 0, 1) := by decide +kernel
theorem d_Model_sendStep_111 : decode y_Model_sendStep.2.1 111 = .ok (.getfield 31, 3) := by decide +kernel
theorem d_Model_sendStep_114 : decode y_Model_sendStep.2.1 114 = .ok (.iload_n 1, 1) := by decide +kernel
theorem d_Model_sendStep_115 : decode y_Model_sendStep.2.1 115 = .ok (.iaload, 1) := by decide +kernel
theorem d_Model_sendStep_116 : decode y_Model_sendStep.2.1 116 = .ok (.iastore, 1) := by decide +kernel
theorem d_Model_sendStep_117 : decode y_Model_sendStep.2.1 117 = .ok (.aload_n 0, 1) := by decide +kernel
theorem d_Model_sendStep_118 : decode y_Model_sendStep.2.1 118 = .ok (.getfield 40, 3) := by decide +kernel
theorem d_Model_sendStep_121 : decode y_Model_sendStep.2.1 121 = .ok (.iload_n 1, 1) := by decide +kernel
theorem d_Model_sendStep_122 : decode y_Model_sendStep.2.1 122 = .ok (.dup2, 1) := by decide +kernel
theorem d_Model_sendStep_123 : decode y_Model_sendStep.2.1 123 = .ok (.iaload, 1) := by decide +kernel
theorem d_Model_sendStep_124 : decode y_Model_sendStep.2.1 124 = .ok (.iconst 1, 1) := by decide +kernel
theorem d_Model_sendStep_125 : decode y_Model_sendStep.2.1 125 = .ok (.iadd, 1) := by decide +kernel
theorem d_Model_sendStep_126 : decode y_Model_sendStep.2.1 126 = .ok (.iastore, 1) := by decide +kernel
theorem d_Model_sendStep_127 : decode y_Model_sendStep.2.1 127 = .ok (.return_, 1) := by decide +kernel
theorem d_Model_rowStep_0 : decode y_Model_rowStep.2.1 0 = .ok (.bipush 64, 2) := by decide +kernel
theorem d_Model_rowStep_2 : decode y_Model_rowStep.2.1 2 = .ok (.iload_n 1, 1) := by decide +kernel
theorem d_Model_rowStep_3 : decode y_Model_rowStep.2.1 3 = .ok (.imul, 1) := by decide +kernel
theorem d_Model_rowStep_4 : decode y_Model_rowStep.2.1 4 = .ok (.istore_n 2, 1) := by decide +kernel
theorem d_Model_rowStep_5 : decode y_Model_rowStep.2.1 5 = .ok (.aload_n 0, 1) := by decide +kernel
theorem d_Model_rowStep_6 : decode y_Model_rowStep.2.1 6 = .ok (.getfield 28, 3) := by decide +kernel
theorem d_Model_rowStep_9 : decode y_Model_rowStep.2.1 9 = .ok (.iload_n 1, 1) := by decide +kernel
theorem d_Model_rowStep_10 : decode y_Model_rowStep.2.1 10 = .ok (.iaload, 1) := by decide +kernel
theorem d_Model_rowStep_11 : decode y_Model_rowStep.2.1 11 = .ok (.ifCond .ne 4, 3) := by decide +kernel
theorem d_Model_rowStep_14 : decode y_Model_rowStep.2.1 14 = .ok (.return_, 1) := by decide +kernel
theorem d_Model_rowStep_15 : decode y_Model_rowStep.2.1 15 = .ok (.aload_n 0, 1) := by decide +kernel
theorem d_Model_rowStep_16 : decode y_Model_rowStep.2.1 16 = .ok (.getfield 28, 3) := by decide +kernel
theorem d_Model_rowStep_19 : decode y_Model_rowStep.2.1 19 = .ok (.iload_n 1, 1) := by decide +kernel
theorem d_Model_rowStep_20 : decode y_Model_rowStep.2.1 20 = .ok (.dup2, 1) := by decide +kernel
theorem d_Model_rowStep_21 : decode y_Model_rowStep.2.1 21 = .ok (.iaload, 1) := by decide +kernel
theorem d_Model_rowStep_22 : decode y_Model_rowStep.2.1 22 = .ok (.iconst 1, 1) := by decide +kernel
theorem d_Model_rowStep_23 : decode y_Model_rowStep.2.1 23 = .ok (.isub, 1) := by decide +kernel
theorem d_Model_rowStep_24 : decode y_Model_rowStep.2.1 24 = .ok (.iastore, 1) := by decide +kernel
theorem d_Model_rowStep_25 : decode y_Model_rowStep.2.1 25 = .ok (.aload_n 0, 1) := by decide +kernel
theorem d_Model_rowStep_26 : decode y_Model_rowStep.2.1 26 = .ok (.getfield 28, 3) := by decide +kernel
theorem d_Model_rowStep_29 : decode y_Model_rowStep.2.1 29 = .ok (.iload_n 1, 1) := by decide +kernel
theorem d_Model_rowStep_30 : decode y_Model_rowStep.2.1 30 = .ok (.iaload, 1) := by decide +kernel
theorem d_Model_rowStep_31 : decode y_Model_rowStep.2.1 31 = .ok (.ifCond .le 4, 3) := by decide +kernel
theorem d_Model_rowStep_34 : decode y_Model_rowStep.2.1 34 = .ok (.return_, 1) := by decide +kernel
theorem d_Model_rowStep_35 : decode y_Model_rowStep.2.1 35 = .ok (.iconst 0, 1) := by decide +kernel
theorem d_Model_rowStep_36 : decode y_Model_rowStep.2.1 36 = .ok (.istore_n 3, 1) := by decide +kernel
theorem d_Model_rowStep_37 : decode y_Model_rowStep.2.1 37 = .ok (.iload_n 3, 1) := by decide +kernel
theorem d_Model_rowStep_38 : decode y_Model_rowStep.2.1 38 = .ok (.bipush 8, 2) := by decide +kernel
theorem d_Model_rowStep_40 : decode y_Model_rowStep.2.1 40 = .ok (.if_icmp .ge 76, 3) := by decide +kernel
theorem d_Model_rowStep_43 : decode y_Model_rowStep.2.1 43 = .ok (.bipush 64, 2) := by decide +kernel
theorem d_Model_rowStep_45 : decode y_Model_rowStep.2.1 45 = .ok (.iload_n 1, 1) := by decide +kernel
theorem d_Model_rowStep_46 : decode y_Model_rowStep.2.1 46 = .ok (.imul, 1) := by decide +kernel
theorem d_Model_rowStep_47 : decode y_Model_rowStep.2.1 47 = .ok (.bipush 8, 2) := by decide +kernel
theorem d_Model_rowStep_49 : decode y_Model_rowStep.2.1 49 = .ok (.aload_n 0, 1) := by decide +kernel
theorem d_Model_rowStep_50 : decode y_Model_rowStep.2.1 50 = .ok (.getfield 31, 3) := by decide +kernel
theorem d_Model_rowStep_53 : decode y_Model_rowStep.2.1 53 = .ok (.iload_n 1, 1) := by decide +kernel
theorem d_Model_rowStep_54 : decode y_Model_rowStep.2.1 54 = .ok (.iaload, 1) := by decide +kernel
theorem d_Model_rowStep_55 : decode y_Model_rowStep.2.1 55 = .ok (.imul, 1) := by decide +kernel
theorem d_Model_rowStep_56 : decode y_Model_rowStep.2.1 56 = .ok (.iadd, 1) := by decide +kernel
theorem d_Model_rowStep_57 : decode y_Model_rowStep.2.1 57 = .ok (.iload_n 3, 1) := by decide +kernel
theorem d_Model_rowStep_58 : decode y_Model_rowStep.2.1 58 = .ok (.iadd, 1) := by decide +kernel
theorem d_Model_rowStep_59 : decode y_Model_rowStep.2.1 59 = .ok (.istore 4, 2) := by decide +kernel
theorem d_Model_rowStep_61 : decode y_Model_rowStep.2.1 61 = .ok (.aload_n 0, 1) := by decide +kernel
theorem d_Model_rowStep_62 : decode y_Model_rowStep.2.1 62 = .ok (.getfield 25, 3) := by decide +kernel
theorem d_Model_rowStep_65 : decode y_Model_rowStep.2.1 65 = .ok (.iload_n 2, 1) := by decide +kernel
theorem d_Model_rowStep_66 : decode y_Model_rowStep.2.1 66 = .ok (.iconst 1, 1) := by decide +kernel
theorem d_Model_rowStep_67 : decode y_Model_rowStep.2.1 67 = .ok (.iadd, 1) := by decide +kernel
theorem d_Model_rowStep_68 : decode y_Model_rowStep.2.1 68 = .ok (.iaload, 1) := by decide +kernel
theorem d_Model_rowStep_69 : decode y_Model_rowStep.2.1 69 = .ok (.iconst 1, 1) := by decide +kernel
theorem d_Model_rowStep_70 : decode y_Model_rowStep.2.1 70 = .ok (.if_icmp .ne 23, 3) := by decide +kernel
theorem d_Model_rowStep_73 : decode y_Model_rowStep.2.1 73 = .ok (.aload_n 0, 1) := by decide +kernel
theorem d_Model_rowStep_74 : decode y_Model_rowStep.2.1 74 = .ok (.getfield 25, 3) := by decide +kernel
theorem d_Model_rowStep_77 : decode y_Model_rowStep.2.1 77 = .ok (.iload_n 2, 1) := by decide +kernel
theorem d_Model_rowStep_78 : decode y_Model_rowStep.2.1 78 = .ok (.iconst 3, 1) := by decide +kernel
theorem d_Model_rowStep_79 : decode y_Model_rowStep.2.1 79 = .ok (.iadd, 1) := by decide +kernel
theorem d_Model_rowStep_80 : decode y_Model_rowStep.2.1 80 = .ok (.iload_n 3, 1) := by decide +kernel
theorem d_Model_rowStep_81 : decode y_Model_rowStep.2.1 81 = .ok (.iadd, 1) := by decide +kernel
theorem d_Model_rowStep_82 : decode y_Model_rowStep.2.1 82 = .ok (.aload_n 0, 1) := by decide +kernel
theorem d_Model_rowStep_83 : decode y_Model_rowStep.2.1 83 = .ok (.getfield 46, 3) := by decide +kernel
theorem d_Model_rowStep_86 : decode y_Model_rowStep.2.1 86 = .ok (.iload 4, 2) := by decide +kernel
theorem d_Model_rowStep_88 : decode y_Model_rowStep.2.1 88 = .ok (.iaload, 1) := by decide +kernel
theorem d_Model_rowStep_89 : decode y_Model_rowStep.2.1 89 = .ok (.iastore, 1) := by decide +kernel
theorem d_Model_rowStep_90 : decode y_Model_rowStep.2.1 90 = .ok (.goto 20, 3) := by decide +kernel
theorem d_Model_rowStep_93 : decode y_Model_rowStep.2.1 93 = .ok (.aload_n 0, 1) := by decide +kernel
theorem d_Model_rowStep_94 : decode y_Model_rowStep.2.1 94 = .ok (.getfield 46, 3) := by decide +kernel
theorem d_Model_rowStep_97 : decode y_Model_rowStep.2.1 97 = .ok (.iload 4, 2) := by decide +kernel
theorem d_Model_rowStep_99 : decode y_Model_rowStep.2.1 99 = .ok (.aload_n 0, 1) := by decide +kernel
theorem d_Model_rowStep_100 : decode y_Model_rowStep.2.1 100 = .ok (.getfield 25, 3) := by decide +kernel
theorem d_Model_rowStep_103 : decode y_Model_rowStep.2.1 103 = .ok (.iload_n 2, 1) := by decide +kernel
theorem d_Model_rowStep_104 : decode y_Model_rowStep.2.1 104 = .ok (.iconst 3, 1) := by decide +kernel
theorem d_Model_rowStep_105 : decode y_Model_rowStep.2.1 105 = .ok (.iadd, 1) := by decide +kernel
theorem d_Model_rowStep_106 : decode y_Model_rowStep.2.1 106 = .ok (.iload_n 3, 1) := by decide +kernel
theorem d_Model_rowStep_107 : decode y_Model_rowStep.2.1 107 = .ok (.iadd, 1) := by decide +kernel
theorem d_Model_rowStep_108 : decode y_Model_rowStep.2.1 108 = .ok (.iaload, 1) := by decide +kernel
theorem d_Model_rowStep_109 : decode y_Model_rowStep.2.1 109 = .ok (.iastore, 1) := by decide +kernel
theorem d_Model_rowStep_110 : decode y_Model_rowStep.2.1 110 = .ok (.iinc 3 1, 3) := by decide +kernel
theorem d_Model_rowStep_113 : decode y_Model_rowStep.2.1 113 = .ok (.goto (-76), 3) := by decide +kernel
theorem d_Model_rowStep_116 : decode y_Model_rowStep.2.1 116 = .ok (.aload_n 0, 1) := by decide +kernel
theorem d_Model_rowStep_117 : decode y_Model_rowStep.2.1 117 = .ok (.getfield 25, 3) := by decide +kernel
theorem d_Model_rowStep_120 : decode y_Model_rowStep.2.1 120 = .ok (.iload_n 2, 1) := by decide +kernel
theorem d_Model_rowStep_121 : decode y_Model_rowStep.2.1 121 = .ok (.iconst 1, 1) := by decide +kernel
theorem d_Model_rowStep_122 : decode y_Model_rowStep.2.1 122 = .ok (.iadd, 1) := by decide +kernel
theorem d_Model_rowStep_123 : decode y_Model_rowStep.2.1 123 = .ok (.iconst 0, 1) := by decide +kernel
theorem d_Model_rowStep_124 : decode y_Model_rowStep.2.1 124 = .ok (.iastore, 1) := by decide +kernel
theorem d_Model_rowStep_125 : decode y_Model_rowStep.2.1 125 = .ok (.aload_n 0, 1) := by decide +kernel
theorem d_Model_rowStep_126 : decode y_Model_rowStep.2.1 126 = .ok (.getfield 25, 3) := by decide +kernel
theorem d_Model_rowStep_129 : decode y_Model_rowStep.2.1 129 = .ok (.iload_n 2, 1) := by decide +kernel
theorem d_Model_rowStep_130 : decode y_Model_rowStep.2.1 130 = .ok (.iconst 2, 1) := by decide +kernel
theorem d_Model_rowStep_131 : decode y_Model_rowStep.2.1 131 = .ok (.iadd, 1) := by decide +kernel
theorem d_Model_rowStep_132 : decode y_Model_rowStep.2.1 132 = .ok (.iconst 1, 1) := by decide +kernel
theorem d_Model_rowStep_133 : decode y_Model_rowStep.2.1 133 = .ok (.iastore, 1) := by decide +kernel
theorem d_Model_rowStep_134 : decode y_Model_rowStep.2.1 134 = .ok (.return_, 1) := by decide +kernel
theorem d_Model_stepOnce_0 : decode y_Model_stepOnce.2.1 0 = .ok (.aload_n 0, 1) := by decide +kernel
theorem d_Model_stepOnce_1 : decode y_Model_stepOnce.2.1 1 = .ok (.dup, 1) := by decide +kernel
theorem d_Model_stepOnce_2 : decode y_Model_stepOnce.2.1 2 = .ok (.getfield 104, 3) := by decide +kernel
theorem d_Model_stepOnce_5 : decode y_Model_stepOnce.2.1 5 = .ok (.iconst 1, 1) := by decide +kernel
theorem d_Model_stepOnce_6 : decode y_Model_stepOnce.2.1 6 = .ok (.iadd, 1) := by decide +kernel
theorem d_Model_stepOnce_7 : decode y_Model_stepOnce.2.1 7 = .ok (.putfield 104, 3) := by decide +kernel
theorem d_Model_stepOnce_10 : decode y_Model_stepOnce.2.1 10 = .ok (.iconst 0, 1) := by decide +kernel
theorem d_Model_stepOnce_11 : decode y_Model_stepOnce.2.1 11 = .ok (.istore_n 1, 1) := by decide +kernel
theorem d_Model_stepOnce_12 : decode y_Model_stepOnce.2.1 12 = .ok (.iload_n 1, 1) := by decide +kernel
theorem d_Model_stepOnce_13 : decode y_Model_stepOnce.2.1 13 = .ok (.aload_n 0, 1) := by decide +kernel
theorem d_Model_stepOnce_14 : decode y_Model_stepOnce.2.1 14 = .ok (.getfield 78, 3) := by decide +kernel
theorem d_Model_stepOnce_17 : decode y_Model_stepOnce.2.1 17 = .ok (.if_icmp .ge 32, 3) := by decide +kernel
theorem d_Model_stepOnce_20 : decode y_Model_stepOnce.2.1 20 = .ok (.aload_n 0, 1) := by decide +kernel
theorem d_Model_stepOnce_21 : decode y_Model_stepOnce.2.1 21 = .ok (.getfield 7, 3) := by decide +kernel
theorem d_Model_stepOnce_24 : decode y_Model_stepOnce.2.1 24 = .ok (.iload_n 1, 1) := by decide +kernel
theorem d_Model_stepOnce_25 : decode y_Model_stepOnce.2.1 25 = .ok (.iaload, 1) := by decide +kernel
theorem d_Model_stepOnce_26 : decode y_Model_stepOnce.2.1 26 = .ok (.iconst 5, 1) := by decide +kernel
theorem d_Model_stepOnce_27 : decode y_Model_stepOnce.2.1 27 = .ok (.if_icmp .ne 16, 3) := by decide +kernel
theorem d_Model_stepOnce_30 : decode y_Model_stepOnce.2.1 30 = .ok (.aload_n 0, 1) := by decide +kernel
theorem d_Model_stepOnce_31 : decode y_Model_stepOnce.2.1 31 = .ok (.getfield 25, 3) := by decide +kernel
theorem d_Model_stepOnce_34 : decode y_Model_stepOnce.2.1 34 = .ok (.bipush 64, 2) := by decide +kernel
theorem d_Model_stepOnce_36 : decode y_Model_stepOnce.2.1 36 = .ok (.iload_n 1, 1) := by decide +kernel
theorem d_Model_stepOnce_37 : decode y_Model_stepOnce.2.1 37 = .ok (.imul, 1) := by decide +kernel
theorem d_Model_stepOnce_38 : decode y_Model_stepOnce.2.1 38 = .ok (.dup2, 1) := by decide +kernel
theorem d_Model_stepOnce_39 : decode y_Model_stepOnce.2.1 39 = .ok (.iaload, 1) := by decide +kernel
theorem d_Model_stepOnce_40 : decode y_Model_stepOnce.2.1 40 = .ok (.iconst 1, 1) := by decide +kernel
theorem d_Model_stepOnce_41 : decode y_Model_stepOnce.2.1 41 = .ok (.iadd, 1) := by decide +kernel
theorem d_Model_stepOnce_42 : decode y_Model_stepOnce.2.1 42 = .ok (.iastore, 1) := by decide +kernel
theorem d_Model_stepOnce_43 : decode y_Model_stepOnce.2.1 43 = .ok (.iinc 1 1, 3) := by decide +kernel
theorem d_Model_stepOnce_46 : decode y_Model_stepOnce.2.1 46 = .ok (.goto (-34), 3) := by decide +kernel
theorem d_Model_stepOnce_49 : decode y_Model_stepOnce.2.1 49 = .ok (.iconst 0, 1) := by decide +kernel
theorem d_Model_stepOnce_50 : decode y_Model_stepOnce.2.1 50 = .ok (.istore_n 1, 1) := by decide +kernel
theorem d_Model_stepOnce_51 : decode y_Model_stepOnce.2.1 51 = .ok (.iload_n 1, 1) := by decide +kernel
theorem d_Model_stepOnce_52 : decode y_Model_stepOnce.2.1 52 = .ok (.aload_n 0, 1) := by decide +kernel
theorem d_Model_stepOnce_53 : decode y_Model_stepOnce.2.1 53 = .ok (.getfield 78, 3) := by decide +kernel
theorem d_Model_stepOnce_56 : decode y_Model_stepOnce.2.1 56 = .ok (.if_icmp .ge 67, 3) := by decide +kernel
theorem d_Model_stepOnce_59 : decode y_Model_stepOnce.2.1 59 = .ok (.aload_n 0, 1) := by decide +kernel
theorem d_Model_stepOnce_60 : decode y_Model_stepOnce.2.1 60 = .ok (.getfield 7, 3) := by decide +kernel
theorem d_Model_stepOnce_63 : decode y_Model_stepOnce.2.1 63 = .ok (.iload_n 1, 1) := by decide +kernel
theorem d_Model_stepOnce_64 : decode y_Model_stepOnce.2.1 64 = .ok (.iaload, 1) := by decide +kernel
theorem d_Model_stepOnce_65 : decode y_Model_stepOnce.2.1 65 = .ok (.iconst 2, 1) := by decide +kernel
theorem d_Model_stepOnce_66 : decode y_Model_stepOnce.2.1 66 = .ok (.if_icmp .ne 21, 3) := by decide +kernel
theorem d_Model_stepOnce_69 : decode y_Model_stepOnce.2.1 69 = .ok (.aload_n 0, 1) := by decide +kernel
theorem d_Model_stepOnce_70 : decode y_Model_stepOnce.2.1 70 = .ok (.bipush 64, 2) := by decide +kernel
theorem d_Model_stepOnce_72 : decode y_Model_stepOnce.2.1 72 = .ok (.iload_n 1, 1) := by decide +kernel
theorem d_Model_stepOnce_73 : decode y_Model_stepOnce.2.1 73 = .ok (.imul, 1) := by decide +kernel
theorem d_Model_stepOnce_74 : decode y_Model_stepOnce.2.1 74 = .ok (.invokevirtual 107, 3) := by decide +kernel
theorem d_Model_stepOnce_77 : decode y_Model_stepOnce.2.1 77 = .ok (.ifCond .eq 10, 3) := by decide +kernel
theorem d_Model_stepOnce_80 : decode y_Model_stepOnce.2.1 80 = .ok (.aload_n 0, 1) := by decide +kernel
theorem d_Model_stepOnce_81 : decode y_Model_stepOnce.2.1 81 = .ok (.iconst 2, 1) := by decide +kernel
theorem d_Model_stepOnce_82 : decode y_Model_stepOnce.2.1 82 = .ok (.invokevirtual 110, 3) := by decide +kernel
theorem d_Model_stepOnce_85 : decode y_Model_stepOnce.2.1 85 = .ok (.iconst 1, 1) := by decide +kernel
theorem d_Model_stepOnce_86 : decode y_Model_stepOnce.2.1 86 = .ok (.ireturn, 1) := by decide +kernel
theorem d_Model_stepOnce_87 : decode y_Model_stepOnce.2.1 87 = .ok (.aload_n 0, 1) := by decide +kernel
theorem d_Model_stepOnce_88 : decode y_Model_stepOnce.2.1 88 = .ok (.getfield 7, 3) := by decide +kernel
theorem d_Model_stepOnce_91 : decode y_Model_stepOnce.2.1 91 = .ok (.iload_n 1, 1) := by decide +kernel
theorem d_Model_stepOnce_92 : decode y_Model_stepOnce.2.1 92 = .ok (.iaload, 1) := by decide +kernel
theorem d_Model_stepOnce_93 : decode y_Model_stepOnce.2.1 93 = .ok (.iconst 3, 1) := by decide +kernel
theorem d_Model_stepOnce_94 : decode y_Model_stepOnce.2.1 94 = .ok (.if_icmp .ne 8, 3) := by decide +kernel
theorem d_Model_stepOnce_97 : decode y_Model_stepOnce.2.1 97 = .ok (.aload_n 0, 1) := by decide +kernel
theorem d_Model_stepOnce_98 : decode y_Model_stepOnce.2.1 98 = .ok (.iload_n 1, 1) := by decide +kernel
theorem d_Model_stepOnce_99 : decode y_Model_stepOnce.2.1 99 = .ok (.invokevirtual 114, 3) := by decide +kernel
theorem d_Model_stepOnce_102 : decode y_Model_stepOnce.2.1 102 = .ok (.aload_n 0, 1) := by decide +kernel
theorem d_Model_stepOnce_103 : decode y_Model_stepOnce.2.1 103 = .ok (.getfield 7, 3) := by decide +kernel
theorem d_Model_stepOnce_106 : decode y_Model_stepOnce.2.1 106 = .ok (.iload_n 1, 1) := by decide +kernel
theorem d_Model_stepOnce_107 : decode y_Model_stepOnce.2.1 107 = .ok (.iaload, 1) := by decide +kernel
theorem d_Model_stepOnce_108 : decode y_Model_stepOnce.2.1 108 = .ok (.iconst 4, 1) := by decide +kernel
theorem d_Model_stepOnce_109 : decode y_Model_stepOnce.2.1 109 = .ok (.if_icmp .ne 8, 3) := by decide +kernel
theorem d_Model_stepOnce_112 : decode y_Model_stepOnce.2.1 112 = .ok (.aload_n 0, 1) := by decide +kernel
theorem d_Model_stepOnce_113 : decode y_Model_stepOnce.2.1 113 = .ok (.iload_n 1, 1) := by decide +kernel
theorem d_Model_stepOnce_114 : decode y_Model_stepOnce.2.1 114 = .ok (.invokevirtual 117, 3) := by decide +kernel
theorem d_Model_stepOnce_117 : decode y_Model_stepOnce.2.1 117 = .ok (.iinc 1 1, 3) := by decide +kernel
theorem d_Model_stepOnce_120 : decode y_Model_stepOnce.2.1 120 = .ok (.goto (-69), 3) := by decide +kernel
theorem d_Model_stepOnce_123 : decode y_Model_stepOnce.2.1 123 = .ok (.aload_n 0, 1) := by decide +kernel
theorem d_Model_stepOnce_124 : decode y_Model_stepOnce.2.1 124 = .ok (.invokevirtual 120, 3) := by decide +kernel
theorem d_Model_stepOnce_127 : decode y_Model_stepOnce.2.1 127 = .ok (.iconst 0, 1) := by decide +kernel
theorem d_Model_stepOnce_128 : decode y_Model_stepOnce.2.1 128 = .ok (.ireturn, 1) := by decide +kernel
theorem d_Model_step_0 : decode y_Model_step.2.1 0 = .ok (.aload_n 0, 1) := by decide +kernel
theorem d_Model_step_1 : decode y_Model_step.2.1 1 = .ok (.iconst 0, 1) := by decide +kernel
theorem d_Model_step_2 : decode y_Model_step.2.1 2 = .ok (.putfield 65, 3) := by decide +kernel
theorem d_Model_step_5 : decode y_Model_step.2.1 5 = .ok (.iload_n 1, 1) := by decide +kernel
theorem d_Model_step_6 : decode y_Model_step.2.1 6 = .ok (.iconst 1, 1) := by decide +kernel
theorem d_Model_step_7 : decode y_Model_step.2.1 7 = .ok (.sipush 1000, 3) := by decide +kernel
theorem d_Model_step_10 : decode y_Model_step.2.1 10 = .ok (.invokestatic 69, 3) := by decide +kernel
theorem d_Model_step_13 : decode y_Model_step.2.1 13 = .ok (.ifCond .ne 17, 3) := by decide +kernel
theorem d_Model_step_16 : decode y_Model_step.2.1 16 = .ok (.aload_n 0, 1) := by decide +kernel
theorem d_Model_step_17 : decode y_Model_step.2.1 17 = .ok (.iconst 1, 1) := by decide +kernel
theorem d_Model_step_18 : decode y_Model_step.2.1 18 = .ok (.invokevirtual 81, 3) := by decide +kernel
theorem d_Model_step_21 : decode y_Model_step.2.1 21 = .ok (.ifCond .le 7, 3) := by decide +kernel
theorem d_Model_step_24 : decode y_Model_step.2.1 24 = .ok (.iconst 1, 1) := by decide +kernel
theorem d_Model_step_25 : decode y_Model_step.2.1 25 = .ok (.goto 4, 3) := by decide +kernel
theorem d_Model_step_28 : decode y_Model_step.2.1 28 = .ok (.iconst 0, 1) := by decide +kernel
theorem d_Model_step_29 : decode y_Model_step.2.1 29 = .ok (.ireturn, 1) := by decide +kernel
theorem d_Model_step_30 : decode y_Model_step.2.1 30 = .ok (.iconst 0, 1) := by decide +kernel
theorem d_Model_step_31 : decode y_Model_step.2.1 31 = .ok (.istore_n 2, 1) := by decide +kernel
theorem d_Model_step_32 : decode y_Model_step.2.1 32 = .ok (.iconst 0, 1) := by decide +kernel
theorem d_Model_step_33 : decode y_Model_step.2.1 33 = .ok (.istore_n 3, 1) := by decide +kernel
theorem d_Model_step_34 : decode y_Model_step.2.1 34 = .ok (.iload_n 3, 1) := by decide +kernel
theorem d_Model_step_35 : decode y_Model_step.2.1 35 = .ok (.iload_n 1, 1) := by decide +kernel
theorem d_Model_step_36 : decode y_Model_step.2.1 36 = .ok (.if_icmp .ge 26, 3) := by decide +kernel
theorem d_Model_step_39 : decode y_Model_step.2.1 39 = .ok (.aload_n 0, 1) := by decide +kernel
theorem d_Model_step_40 : decode y_Model_step.2.1 40 = .ok (.invokevirtual 123, 3) := by decide +kernel
theorem d_Model_step_43 : decode y_Model_step.2.1 43 = .ok (.ifCond .ne 7, 3) := by decide +kernel
theorem d_Model_step_46 : decode y_Model_step.2.1 46 = .ok (.iload_n 2, 1) := by decide +kernel
theorem d_Model_step_47 : decode y_Model_step.2.1 47 = .ok (.ifCond .eq 7, 3) := by decide +kernel
theorem d_Model_step_50 : decode y_Model_step.2.1 50 = .ok (.iconst 1, 1) := by decide +kernel
theorem d_Model_step_51 : decode y_Model_step.2.1 51 = .ok (.goto 4, 3) := by decide +kernel
theorem d_Model_step_54 : decode y_Model_step.2.1 54 = .ok (.iconst 0, 1) := by decide +kernel
theorem d_Model_step_55 : decode y_Model_step.2.1 55 = .ok (.istore_n 2, 1) := by decide +kernel
theorem d_Model_step_56 : decode y_Model_step.2.1 56 = .ok (.iinc 3 1, 3) := by decide +kernel
theorem d_Model_step_59 : decode y_Model_step.2.1 59 = .ok (.goto (-25), 3) := by decide +kernel
theorem d_Model_step_62 : decode y_Model_step.2.1 62 = .ok (.iload_n 2, 1) := by decide +kernel
theorem d_Model_step_63 : decode y_Model_step.2.1 63 = .ok (.ireturn, 1) := by decide +kernel
theorem d_Model_countAll_0 : decode y_Model_countAll.2.1 0 = .ok (.iload_n 1, 1) := by decide +kernel
theorem d_Model_countAll_1 : decode y_Model_countAll.2.1 1 = .ok (.iconst 1, 1) := by decide +kernel
theorem d_Model_countAll_2 : decode y_Model_countAll.2.1 2 = .ok (.if_icmp .ne 16, 3) := by decide +kernel
theorem d_Model_countAll_5 : decode y_Model_countAll.2.1 5 = .ok (.aload_n 0, 1) := by decide +kernel
theorem d_Model_countAll_6 : decode y_Model_countAll.2.1 6 = .ok (.dup, 1) := by decide +kernel
theorem d_Model_countAll_7 : decode y_Model_countAll.2.1 7 = .ok (.getfield 91, 3) := by decide +kernel
theorem d_Model_countAll_10 : decode y_Model_countAll.2.1 10 = .ok (.iconst 1, 1) := by decide +kernel
theorem d_Model_countAll_11 : decode y_Model_countAll.2.1 11 = .ok (.iadd, 1) := by decide +kernel
theorem d_Model_countAll_12 : decode y_Model_countAll.2.1 12 = .ok (.putfield 91, 3) := by decide +kernel
theorem d_Model_countAll_15 : decode y_Model_countAll.2.1 15 = .ok (.goto 31, 3) := by decide +kernel
theorem d_Model_countAll_18 : decode y_Model_countAll.2.1 18 = .ok (.iload_n 1, 1) := by decide +kernel
theorem d_Model_countAll_19 : decode y_Model_countAll.2.1 19 = .ok (.iconst 2, 1) := by decide +kernel
theorem d_Model_countAll_20 : decode y_Model_countAll.2.1 20 = .ok (.if_icmp .ne 16, 3) := by decide +kernel
theorem d_Model_countAll_23 : decode y_Model_countAll.2.1 23 = .ok (.aload_n 0, 1) := by decide +kernel
theorem d_Model_countAll_24 : decode y_Model_countAll.2.1 24 = .ok (.dup, 1) := by decide +kernel
theorem d_Model_countAll_25 : decode y_Model_countAll.2.1 25 = .ok (.getfield 94, 3) := by decide +kernel
theorem d_Model_countAll_28 : decode y_Model_countAll.2.1 28 = .ok (.iconst 1, 1) := by decide +kernel
theorem d_Model_countAll_29 : decode y_Model_countAll.2.1 29 = .ok (.iadd, 1) := by decide +kernel
theorem d_Model_countAll_30 : decode y_Model_countAll.2.1 30 = .ok (.putfield 94, 3) := by decide +kernel
theorem d_Model_countAll_33 : decode y_Model_countAll.2.1 33 = .ok (.goto 13, 3) := by decide +kernel
theorem d_Model_countAll_36 : decode y_Model_countAll.2.1 36 = .ok (.aload_n 0, 1) := by decide +kernel
theorem d_Model_countAll_37 : decode y_Model_countAll.2.1 37 = .ok (.dup, 1) := by decide +kernel
theorem d_Model_countAll_38 : decode y_Model_countAll.2.1 38 = .ok (.getfield 97, 3) := by decide +kernel
theorem d_Model_countAll_41 : decode y_Model_countAll.2.1 41 = .ok (.iconst 1, 1) := by decide +kernel
theorem d_Model_countAll_42 : decode y_Model_countAll.2.1 42 = .ok (.iadd, 1) := by decide +kernel
theorem d_Model_countAll_43 : decode y_Model_countAll.2.1 43 = .ok (.putfield 97, 3) := by decide +kernel
theorem d_Model_countAll_46 : decode y_Model_countAll.2.1 46 = .ok (.iconst 0, 1) := by decide +kernel
theorem d_Model_countAll_47 : decode y_Model_countAll.2.1 47 = .ok (.istore_n 2, 1) := by decide +kernel
theorem d_Model_countAll_48 : decode y_Model_countAll.2.1 48 = .ok (.iload_n 2, 1) := by decide +kernel
theorem d_Model_countAll_49 : decode y_Model_countAll.2.1 49 = .ok (.aload_n 0, 1) := by decide +kernel
theorem d_Model_countAll_50 : decode y_Model_countAll.2.1 50 = .ok (.getfield 78, 3) := by decide +kernel
theorem d_Model_countAll_53 : decode y_Model_countAll.2.1 53 = .ok (.if_icmp .ge 34, 3) := by decide +kernel
theorem d_Model_countAll_56 : decode y_Model_countAll.2.1 56 = .ok (.aload_n 0, 1) := by decide +kernel
theorem d_Model_countAll_57 : decode y_Model_countAll.2.1 57 = .ok (.getfield 7, 3) := by decide +kernel
theorem d_Model_countAll_60 : decode y_Model_countAll.2.1 60 = .ok (.iload_n 2, 1) := by decide +kernel
theorem d_Model_countAll_61 : decode y_Model_countAll.2.1 61 = .ok (.iaload, 1) := by decide +kernel
theorem d_Model_countAll_62 : decode y_Model_countAll.2.1 62 = .ok (.iconst 5, 1) := by decide +kernel
theorem d_Model_countAll_63 : decode y_Model_countAll.2.1 63 = .ok (.if_icmp .ne 18, 3) := by decide +kernel
theorem d_Model_countAll_66 : decode y_Model_countAll.2.1 66 = .ok (.aload_n 0, 1) := by decide +kernel
theorem d_Model_countAll_67 : decode y_Model_countAll.2.1 67 = .ok (.getfield 25, 3) := by decide +kernel
theorem d_Model_countAll_70 : decode y_Model_countAll.2.1 70 = .ok (.bipush 64, 2) := by decide +kernel
theorem d_Model_countAll_72 : decode y_Model_countAll.2.1 72 = .ok (.iload_n 2, 1) := by decide +kernel
theorem d_Model_countAll_73 : decode y_Model_countAll.2.1 73 = .ok (.imul, 1) := by decide +kernel
theorem d_Model_countAll_74 : decode y_Model_countAll.2.1 74 = .ok (.iload_n 1, 1) := by decide +kernel
theorem d_Model_countAll_75 : decode y_Model_countAll.2.1 75 = .ok (.iadd, 1) := by decide +kernel
theorem d_Model_countAll_76 : decode y_Model_countAll.2.1 76 = .ok (.dup2, 1) := by decide +kernel
theorem d_Model_countAll_77 : decode y_Model_countAll.2.1 77 = .ok (.iaload, 1) := by decide +kernel
theorem d_Model_countAll_78 : decode y_Model_countAll.2.1 78 = .ok (.iconst 1, 1) := by decide +kernel
theorem d_Model_countAll_79 : decode y_Model_countAll.2.1 79 = .ok (.iadd, 1) := by decide +kernel
theorem d_Model_countAll_80 : decode y_Model_countAll.2.1 80 = .ok (.iastore, 1) := by decide +kernel
theorem d_Model_countAll_81 : decode y_Model_countAll.2.1 81 = .ok (.iinc 2 1, 3) := by decide +kernel
theorem d_Model_countAll_84 : decode y_Model_countAll.2.1 84 = .ok (.goto (-36), 3) := by decide +kernel
theorem d_Model_countAll_87 : decode y_Model_countAll.2.1 87 = .ok (.return_, 1) := by decide +kernel
theorem d_Model_waitFor_0 : decode y_Model_waitFor.2.1 0 = .ok (.iconst 0, 1) := by decide +kernel
theorem d_Model_waitFor_1 : decode y_Model_waitFor.2.1 1 = .ok (.istore_n 2, 1) := by decide +kernel
theorem d_Model_waitFor_2 : decode y_Model_waitFor.2.1 2 = .ok (.iload_n 2, 1) := by decide +kernel
theorem d_Model_waitFor_3 : decode y_Model_waitFor.2.1 3 = .ok (.aload_n 0, 1) := by decide +kernel
theorem d_Model_waitFor_4 : decode y_Model_waitFor.2.1 4 = .ok (.getfield 22, 3) := by decide +kernel
theorem d_Model_waitFor_7 : decode y_Model_waitFor.2.1 7 = .ok (.iload_n 1, 1) := by decide +kernel
theorem d_Model_waitFor_8 : decode y_Model_waitFor.2.1 8 = .ok (.iaload, 1) := by decide +kernel
theorem d_Model_waitFor_9 : decode y_Model_waitFor.2.1 9 = .ok (.if_icmp .gt 14, 3) := by decide +kernel
theorem d_Model_waitFor_12 : decode y_Model_waitFor.2.1 12 = .ok (.aload_n 0, 1) := by decide +kernel
theorem d_Model_waitFor_13 : decode y_Model_waitFor.2.1 13 = .ok (.invokevirtual 123, 3) := by decide +kernel
theorem d_Model_waitFor_16 : decode y_Model_waitFor.2.1 16 = .ok (.pop, 1) := by decide +kernel
theorem d_Model_waitFor_17 : decode y_Model_waitFor.2.1 17 = .ok (.iinc 2 1, 3) := by decide +kernel
theorem d_Model_waitFor_20 : decode y_Model_waitFor.2.1 20 = .ok (.goto (-18), 3) := by decide +kernel
theorem d_Model_waitFor_23 : decode y_Model_waitFor.2.1 23 = .ok (.return_, 1) := by decide +kernel
end
section
theorem d_Model_takeIn_0 : decode y_Model_takeIn.2.1 0 = .ok (.aload_n 0, 1) := by decide +kernel
theorem d_Model_takeIn_1 : decode y_Model_takeIn.2.1 1 = .ok (.getfield 34, 3) := by decide +kernel
theorem d_Model_takeIn_4 : decode y_Model_takeIn.2.1 4 = .ok (.iload_n 1, 1) := by decide +kernel
theorem d_Model_takeIn_5 : decode y_Model_takeIn.2.1 5 = .ok (.iaload, 1) := by decide +kernel
theorem d_Model_takeIn_6 : decode y_Model_takeIn.2.1 6 = .ok (.ifCond .ne 5, 3) := by decide +kernel
theorem d_Model_takeIn_9 : decode y_Model_takeIn.2.1 9 = .ok (.iconst 0, 1) := by decide +kernel
theorem d_Model_takeIn_10 : decode y_Model_takeIn.2.1 10 = .ok (.ireturn, 1) := by decide +kernel
theorem d_Model_takeIn_11 : decode y_Model_takeIn.2.1 11 = .ok (.aload_n 0, 1) := by decide +kernel
theorem d_Model_takeIn_12 : decode y_Model_takeIn.2.1 12 = .ok (.getfield 37, 3) := by decide +kernel
theorem d_Model_takeIn_15 : decode y_Model_takeIn.2.1 15 = .ok (.bipush 32, 2) := by decide +kernel
theorem d_Model_takeIn_17 : decode y_Model_takeIn.2.1 17 = .ok (.iload_n 1, 1) := by decide +kernel
theorem d_Model_takeIn_18 : decode y_Model_takeIn.2.1 18 = .ok (.imul, 1) := by decide +kernel
theorem d_Model_takeIn_19 : decode y_Model_takeIn.2.1 19 = .ok (.iaload, 1) := by decide +kernel
theorem d_Model_takeIn_20 : decode y_Model_takeIn.2.1 20 = .ok (.istore_n 2, 1) := by decide +kernel
theorem d_Model_takeIn_21 : decode y_Model_takeIn.2.1 21 = .ok (.aload_n 0, 1) := by decide +kernel
theorem d_Model_takeIn_22 : decode y_Model_takeIn.2.1 22 = .ok (.getfield 34, 3) := by decide +kernel
theorem d_Model_takeIn_25 : decode y_Model_takeIn.2.1 25 = .ok (.iload_n 1, 1) := by decide +kernel
theorem d_Model_takeIn_26 : decode y_Model_takeIn.2.1 26 = .ok (.dup2, 1) := by decide +kernel
theorem d_Model_takeIn_27 : decode y_Model_takeIn.2.1 27 = .ok (.iaload, 1) := by decide +kernel
theorem d_Model_takeIn_28 : decode y_Model_takeIn.2.1 28 = .ok (.iconst 1, 1) := by decide +kernel
theorem d_Model_takeIn_29 : decode y_Model_takeIn.2.1 29 = .ok (.isub, 1) := by decide +kernel
theorem d_Model_takeIn_30 : decode y_Model_takeIn.2.1 30 = .ok (.iastore, 1) := by decide +kernel
theorem d_Model_takeIn_31 : decode y_Model_takeIn.2.1 31 = .ok (.iconst 0, 1) := by decide +kernel
theorem d_Model_takeIn_32 : decode y_Model_takeIn.2.1 32 = .ok (.istore_n 3, 1) := by decide +kernel
theorem d_Model_takeIn_33 : decode y_Model_takeIn.2.1 33 = .ok (.iload_n 3, 1) := by decide +kernel
theorem d_Model_takeIn_34 : decode y_Model_takeIn.2.1 34 = .ok (.aload_n 0, 1) := by decide +kernel
theorem d_Model_takeIn_35 : decode y_Model_takeIn.2.1 35 = .ok (.getfield 34, 3) := by decide +kernel
theorem d_Model_takeIn_38 : decode y_Model_takeIn.2.1 38 = .ok (.iload_n 1, 1) := by decide +kernel
theorem d_Model_takeIn_39 : decode y_Model_takeIn.2.1 39 = .ok (.iaload, 1) := by decide +kernel
theorem d_Model_takeIn_40 : decode y_Model_takeIn.2.1 40 = .ok (.if_icmp .ge 33, 3) := by decide +kernel
theorem d_Model_takeIn_43 : decode y_Model_takeIn.2.1 43 = .ok (.aload_n 0, 1) := by decide +kernel
theorem d_Model_takeIn_44 : decode y_Model_takeIn.2.1 44 = .ok (.getfield 37, 3) := by decide +kernel
theorem d_Model_takeIn_47 : decode y_Model_takeIn.2.1 47 = .ok (.bipush 32, 2) := by decide +kernel
theorem d_Model_takeIn_49 : decode y_Model_takeIn.2.1 49 = .ok (.iload_n 1, 1) := by decide +kernel
theorem d_Model_takeIn_50 : decode y_Model_takeIn.2.1 50 = .ok (.imul, 1) := by decide +kernel
theorem d_Model_takeIn_51 : decode y_Model_takeIn.2.1 51 = .ok (.iload_n 3, 1) := by decide +kernel
theorem d_Model_takeIn_52 : decode y_Model_takeIn.2.1 52 = .ok (.iadd, 1) := by decide +kernel
theorem d_Model_takeIn_53 : decode y_Model_takeIn.2.1 53 = .ok (.aload_n 0, 1) := by decide +kernel
theorem d_Model_takeIn_54 : decode y_Model_takeIn.2.1 54 = .ok (.getfield 37, 3) := by decide +kernel
theorem d_Model_takeIn_57 : decode y_Model_takeIn.2.1 57 = .ok (.bipush 32, 2) := by decide +kernel
theorem d_Model_takeIn_59 : decode y_Model_takeIn.2.1 59 = .ok (.iload_n 1, 1) := by decide +kernel
theorem d_Model_takeIn_60 : decode y_Model_takeIn.2.1 60 = .ok (.imul, 1) := by decide +kernel
theorem d_Model_takeIn_61 : decode y_Model_takeIn.2.1 61 = .ok (.iload_n 3, 1) := by decide +kernel
theorem d_Model_takeIn_62 : decode y_Model_takeIn.2.1 62 = .ok (.iadd, 1) := by decide +kernel
theorem d_Model_takeIn_63 : decode y_Model_takeIn.2.1 63 = .ok (.iconst 1, 1) := by decide +kernel
theorem d_Model_takeIn_64 : decode y_Model_takeIn.2.1 64 = .ok (.iadd, 1) := by decide +kernel
theorem d_Model_takeIn_65 : decode y_Model_takeIn.2.1 65 = .ok (.iaload, 1) := by decide +kernel
theorem d_Model_takeIn_66 : decode y_Model_takeIn.2.1 66 = .ok (.iastore, 1) := by decide +kernel
theorem d_Model_takeIn_67 : decode y_Model_takeIn.2.1 67 = .ok (.iinc 3 1, 3) := by decide +kernel
theorem d_Model_takeIn_70 : decode y_Model_takeIn.2.1 70 = .ok (.goto (-37), 3) := by decide +kernel
theorem d_Model_takeIn_73 : decode y_Model_takeIn.2.1 73 = .ok (.iload_n 2, 1) := by decide +kernel
theorem d_Model_takeIn_74 : decode y_Model_takeIn.2.1 74 = .ok (.ireturn, 1) := by decide +kernel
theorem d_Model_read_0 : decode y_Model_read.2.1 0 = .ok (.aload_n 0, 1) := by decide +kernel
theorem d_Model_read_1 : decode y_Model_read.2.1 1 = .ok (.iconst 0, 1) := by decide +kernel
theorem d_Model_read_2 : decode y_Model_read.2.1 2 = .ok (.putfield 65, 3) := by decide +kernel
theorem d_Model_read_5 : decode y_Model_read.2.1 5 = .ok (.iload_n 1, 1) := by decide +kernel
theorem d_Model_read_6 : decode y_Model_read.2.1 6 = .ok (.iconst 0, 1) := by decide +kernel
theorem d_Model_read_7 : decode y_Model_read.2.1 7 = .ok (.ldc 127, 2) := by decide +kernel
theorem d_Model_read_9 : decode y_Model_read.2.1 9 = .ok (.invokestatic 69, 3) := by decide +kernel
theorem d_Model_read_12 : decode y_Model_read.2.1 12 = .ok (.ifCond .ne 9, 3) := by decide +kernel
theorem d_Model_read_15 : decode y_Model_read.2.1 15 = .ok (.aload_n 0, 1) := by decide +kernel
theorem d_Model_read_16 : decode y_Model_read.2.1 16 = .ok (.iconst 1, 1) := by decide +kernel
theorem d_Model_read_17 : decode y_Model_read.2.1 17 = .ok (.invokevirtual 81, 3) := by decide +kernel
theorem d_Model_read_20 : decode y_Model_read.2.1 20 = .ok (.ireturn, 1) := by decide +kernel
theorem d_Model_read_21 : decode y_Model_read.2.1 21 = .ok (.aload_n 0, 1) := by decide +kernel
theorem d_Model_read_22 : decode y_Model_read.2.1 22 = .ok (.iload_n 1, 1) := by decide +kernel
theorem d_Model_read_23 : decode y_Model_read.2.1 23 = .ok (.invokevirtual 85, 3) := by decide +kernel
theorem d_Model_read_26 : decode y_Model_read.2.1 26 = .ok (.istore_n 2, 1) := by decide +kernel
theorem d_Model_read_27 : decode y_Model_read.2.1 27 = .ok (.iload_n 2, 1) := by decide +kernel
theorem d_Model_read_28 : decode y_Model_read.2.1 28 = .ok (.ifCond .ge 14, 3) := by decide +kernel
theorem d_Model_read_31 : decode y_Model_read.2.1 31 = .ok (.aload_n 0, 1) := by decide +kernel
theorem d_Model_read_32 : decode y_Model_read.2.1 32 = .ok (.iconst 3, 1) := by decide +kernel
theorem d_Model_read_33 : decode y_Model_read.2.1 33 = .ok (.invokevirtual 128, 3) := by decide +kernel
theorem d_Model_read_36 : decode y_Model_read.2.1 36 = .ok (.aload_n 0, 1) := by decide +kernel
theorem d_Model_read_37 : decode y_Model_read.2.1 37 = .ok (.iconst 2, 1) := by decide +kernel
theorem d_Model_read_38 : decode y_Model_read.2.1 38 = .ok (.invokevirtual 81, 3) := by decide +kernel
theorem d_Model_read_41 : decode y_Model_read.2.1 41 = .ok (.ireturn, 1) := by decide +kernel
theorem d_Model_read_42 : decode y_Model_read.2.1 42 = .ok (.aload_n 0, 1) := by decide +kernel
theorem d_Model_read_43 : decode y_Model_read.2.1 43 = .ok (.iload_n 2, 1) := by decide +kernel
theorem d_Model_read_44 : decode y_Model_read.2.1 44 = .ok (.invokevirtual 131, 3) := by decide +kernel
theorem d_Model_read_47 : decode y_Model_read.2.1 47 = .ok (.aload_n 0, 1) := by decide +kernel
theorem d_Model_read_48 : decode y_Model_read.2.1 48 = .ok (.iconst 1, 1) := by decide +kernel
theorem d_Model_read_49 : decode y_Model_read.2.1 49 = .ok (.invokevirtual 128, 3) := by decide +kernel
theorem d_Model_read_52 : decode y_Model_read.2.1 52 = .ok (.iload_n 1, 1) := by decide +kernel
theorem d_Model_read_53 : decode y_Model_read.2.1 53 = .ok (.aload_n 0, 1) := by decide +kernel
theorem d_Model_read_54 : decode y_Model_read.2.1 54 = .ok (.getfield 13, 3) := by decide +kernel
theorem d_Model_read_57 : decode y_Model_read.2.1 57 = .ok (.iload_n 2, 1) := by decide +kernel
theorem d_Model_read_58 : decode y_Model_read.2.1 58 = .ok (.iaload, 1) := by decide +kernel
theorem d_Model_read_59 : decode y_Model_read.2.1 59 = .ok (.isub, 1) := by decide +kernel
theorem d_Model_read_60 : decode y_Model_read.2.1 60 = .ok (.istore_n 3, 1) := by decide +kernel
theorem d_Model_read_61 : decode y_Model_read.2.1 61 = .ok (.aload_n 0, 1) := by decide +kernel
theorem d_Model_read_62 : decode y_Model_read.2.1 62 = .ok (.getfield 25, 3) := by decide +kernel
theorem d_Model_read_65 : decode y_Model_read.2.1 65 = .ok (.bipush 64, 2) := by decide +kernel
theorem d_Model_read_67 : decode y_Model_read.2.1 67 = .ok (.iload_n 2, 1) := by decide +kernel
theorem d_Model_read_68 : decode y_Model_read.2.1 68 = .ok (.imul, 1) := by decide +kernel
theorem d_Model_read_69 : decode y_Model_read.2.1 69 = .ok (.iload_n 3, 1) := by decide +kernel
theorem d_Model_read_70 : decode y_Model_read.2.1 70 = .ok (.iadd, 1) := by decide +kernel
theorem d_Model_read_71 : decode y_Model_read.2.1 71 = .ok (.iaload, 1) := by decide +kernel
theorem d_Model_read_72 : decode y_Model_read.2.1 72 = .ok (.istore 4, 2) := by decide +kernel
theorem d_Model_read_74 : decode y_Model_read.2.1 74 = .ok (.aload_n 0, 1) := by decide +kernel
theorem d_Model_read_75 : decode y_Model_read.2.1 75 = .ok (.getfield 7, 3) := by decide +kernel
theorem d_Model_read_78 : decode y_Model_read.2.1 78 = .ok (.iload_n 2, 1) := by decide +kernel
theorem d_Model_read_79 : decode y_Model_read.2.1 79 = .ok (.iaload, 1) := by decide +kernel
theorem d_Model_read_80 : decode y_Model_read.2.1 80 = .ok (.iconst 3, 1) := by decide +kernel
theorem d_Model_read_81 : decode y_Model_read.2.1 81 = .ok (.if_icmp .ne 14, 3) := by decide +kernel
theorem d_Model_read_84 : decode y_Model_read.2.1 84 = .ok (.iload_n 3, 1) := by decide +kernel
theorem d_Model_read_85 : decode y_Model_read.2.1 85 = .ok (.ifCond .ne 10, 3) := by decide +kernel
theorem d_Model_read_88 : decode y_Model_read.2.1 88 = .ok (.aload_n 0, 1) := by decide +kernel
theorem d_Model_read_89 : decode y_Model_read.2.1 89 = .ok (.iload_n 2, 1) := by decide +kernel
theorem d_Model_read_90 : decode y_Model_read.2.1 90 = .ok (.invokevirtual 134, 3) := by decide +kernel
theorem d_Model_read_93 : decode y_Model_read.2.1 93 = .ok (.istore 4, 2) := by decide +kernel
theorem d_Model_read_95 : decode y_Model_read.2.1 95 = .ok (.aload_n 0, 1) := by decide +kernel
theorem d_Model_read_96 : decode y_Model_read.2.1 96 = .ok (.getfield 7, 3) := by decide +kernel
theorem d_Model_read_99 : decode y_Model_read.2.1 99 = .ok (.iload_n 2, 1) := by decide +kernel
theorem d_Model_read_100 : decode y_Model_read.2.1 100 = .ok (.iaload, 1) := by decide +kernel
theorem d_Model_read_101 : decode y_Model_read.2.1 101 = .ok (.iconst 3, 1) := by decide +kernel
theorem d_Model_read_102 : decode y_Model_read.2.1 102 = .ok (.if_icmp .ne 39, 3) := by decide +kernel
theorem d_Model_read_105 : decode y_Model_read.2.1 105 = .ok (.iload_n 3, 1) := by decide +kernel
theorem d_Model_read_106 : decode y_Model_read.2.1 106 = .ok (.iconst 1, 1) := by decide +kernel
theorem d_Model_read_107 : decode y_Model_read.2.1 107 = .ok (.if_icmp .ne 34, 3) := by decide +kernel
theorem d_Model_read_110 : decode y_Model_read.2.1 110 = .ok (.aload_n 0, 1) := by decide +kernel
theorem d_Model_read_111 : decode y_Model_read.2.1 111 = .ok (.getfield 34, 3) := by decide +kernel
theorem d_Model_read_114 : decode y_Model_read.2.1 114 = .ok (.iload_n 2, 1) := by decide +kernel
theorem d_Model_read_115 : decode y_Model_read.2.1 115 = .ok (.iaload, 1) := by decide +kernel
theorem d_Model_read_116 : decode y_Model_read.2.1 116 = .ok (.ifCond .le 7, 3) := by decide +kernel
theorem d_Model_read_119 : decode y_Model_read.2.1 119 = .ok (.iconst 1, 1) := by decide +kernel
theorem d_Model_read_120 : decode y_Model_read.2.1 120 = .ok (.goto 4, 3) := by decide +kernel
theorem d_Model_read_123 : decode y_Model_read.2.1 123 = .ok (.iconst 0, 1) := by decide +kernel
theorem d_Model_read_124 : decode y_Model_read.2.1 124 = .ok (.aload_n 0, 1) := by decide +kernel
theorem d_Model_read_125 : decode y_Model_read.2.1 125 = .ok (.getfield 28, 3) := by decide +kernel
theorem d_Model_read_128 : decode y_Model_read.2.1 128 = .ok (.iload_n 2, 1) := by decide +kernel
theorem d_Model_read_129 : decode y_Model_read.2.1 129 = .ok (.iaload, 1) := by decide +kernel
theorem d_Model_read_130 : decode y_Model_read.2.1 130 = .ok (.ifCond .ne 7, 3) := by decide +kernel
theorem d_Model_read_133 : decode y_Model_read.2.1 133 = .ok (.iconst 2, 1) := by decide +kernel
theorem d_Model_read_134 : decode y_Model_read.2.1 134 = .ok (.goto 4, 3) := by decide +kernel
theorem d_Model_read_137 : decode y_Model_read.2.1 137 = .ok (.iconst 0, 1) := by decide +kernel
theorem d_Model_read_138 : decode y_Model_read.2.1 138 = .ok (.iadd, 1) := by decide +kernel
theorem d_Model_read_139 : decode y_Model_read.2.1 139 = .ok (.istore 4, 2) := by decide +kernel
theorem d_Model_read_141 : decode y_Model_read.2.1 141 = .ok (.aload_n 0, 1) := by decide +kernel
theorem d_Model_read_142 : decode y_Model_read.2.1 142 = .ok (.invokevirtual 120, 3) := by decide +kernel
theorem d_Model_read_145 : decode y_Model_read.2.1 145 = .ok (.iload 4, 2) := by decide +kernel
theorem d_Model_read_147 : decode y_Model_read.2.1 147 = .ok (.ireturn, 1) := by decide +kernel
theorem d_Model_writeTimer_0 : decode y_Model_writeTimer.2.1 0 = .ok (.aload_n 0, 1) := by decide +kernel
theorem d_Model_writeTimer_1 : decode y_Model_writeTimer.2.1 1 = .ok (.getfield 25, 3) := by decide +kernel
theorem d_Model_writeTimer_4 : decode y_Model_writeTimer.2.1 4 = .ok (.iload_n 1, 1) := by decide +kernel
theorem d_Model_writeTimer_5 : decode y_Model_writeTimer.2.1 5 = .ok (.iload_n 2, 1) := by decide +kernel
theorem d_Model_writeTimer_6 : decode y_Model_writeTimer.2.1 6 = .ok (.iadd, 1) := by decide +kernel
theorem d_Model_writeTimer_7 : decode y_Model_writeTimer.2.1 7 = .ok (.iload_n 2, 1) := by decide +kernel
theorem d_Model_writeTimer_8 : decode y_Model_writeTimer.2.1 8 = .ok (.iconst 2, 1) := by decide +kernel
theorem d_Model_writeTimer_9 : decode y_Model_writeTimer.2.1 9 = .ok (.if_icmp .ne 10, 3) := by decide +kernel
theorem d_Model_writeTimer_12 : decode y_Model_writeTimer.2.1 12 = .ok (.iload_n 3, 1) := by decide +kernel
theorem d_Model_writeTimer_13 : decode y_Model_writeTimer.2.1 13 = .ok (.bipush 15, 2) := by decide +kernel
theorem d_Model_writeTimer_15 : decode y_Model_writeTimer.2.1 15 = .ok (.iand, 1) := by decide +kernel
theorem d_Model_writeTimer_16 : decode y_Model_writeTimer.2.1 16 = .ok (.goto 13, 3) := by decide +kernel
theorem d_Model_writeTimer_19 : decode y_Model_writeTimer.2.1 19 = .ok (.iload_n 2, 1) := by decide +kernel
theorem d_Model_writeTimer_20 : decode y_Model_writeTimer.2.1 20 = .ok (.iconst 3, 1) := by decide +kernel
theorem d_Model_writeTimer_21 : decode y_Model_writeTimer.2.1 21 = .ok (.if_icmp .ne 7, 3) := by decide +kernel
theorem d_Model_writeTimer_24 : decode y_Model_writeTimer.2.1 24 = .ok (.iconst 0, 1) := by decide +kernel
theorem d_Model_writeTimer_25 : decode y_Model_writeTimer.2.1 25 = .ok (.goto 4, 3) := by decide +kernel
theorem d_Model_writeTimer_28 : decode y_Model_writeTimer.2.1 28 = .ok (.iload_n 3, 1) := by decide +kernel
theorem d_Model_writeTimer_29 : decode y_Model_writeTimer.2.1 29 = .ok (.iastore, 1) := by decide +kernel
theorem d_Model_writeTimer_30 : decode y_Model_writeTimer.2.1 30 = .ok (.return_, 1) := by decide +kernel
theorem d_Model_writeSerial_0 : decode y_Model_writeSerial.2.1 0 = .ok (.iload_n 2, 1) := by decide +kernel
theorem d_Model_writeSerial_1 : decode y_Model_writeSerial.2.1 1 = .ok (.iconst 2, 1) := by decide +kernel
theorem d_Model_writeSerial_2 : decode y_Model_writeSerial.2.1 2 = .ok (.if_icmp .ne 17, 3) := by decide +kernel
theorem d_Model_writeSerial_5 : decode y_Model_writeSerial.2.1 5 = .ok (.aload_n 0, 1) := by decide +kernel
theorem d_Model_writeSerial_6 : decode y_Model_writeSerial.2.1 6 = .ok (.getfield 25, 3) := by decide +kernel
theorem d_Model_writeSerial_9 : decode y_Model_writeSerial.2.1 9 = .ok (.bipush 64, 2) := by decide +kernel
theorem d_Model_writeSerial_11 : decode y_Model_writeSerial.2.1 11 = .ok (.iload_n 1, 1) := by decide +kernel
theorem d_Model_writeSerial_12 : decode y_Model_writeSerial.2.1 12 = .ok (.imul, 1) := by decide +kernel
theorem d_Model_writeSerial_13 : decode y_Model_writeSerial.2.1 13 = .ok (.iconst 2, 1) := by decide +kernel
theorem d_Model_writeSerial_14 : decode y_Model_writeSerial.2.1 14 = .ok (.iadd, 1) := by decide +kernel
theorem d_Model_writeSerial_15 : decode y_Model_writeSerial.2.1 15 = .ok (.iload_n 3, 1) := by decide +kernel
theorem d_Model_writeSerial_16 : decode y_Model_writeSerial.2.1 16 = .ok (.iconst 3, 1) := by decide +kernel
theorem d_Model_writeSerial_17 : decode y_Model_writeSerial.2.1 17 = .ok (.iand, 1) := by decide +kernel
theorem d_Model_writeSerial_18 : decode y_Model_writeSerial.2.1 18 = .ok (.iastore, 1) := by decide +kernel
theorem d_Model_writeSerial_19 : decode y_Model_writeSerial.2.1 19 = .ok (.iload_n 2, 1) := by decide +kernel
theorem d_Model_writeSerial_20 : decode y_Model_writeSerial.2.1 20 = .ok (.ifCond .ne 30, 3) := by decide +kernel
theorem d_Model_writeSerial_23 : decode y_Model_writeSerial.2.1 23 = .ok (.aload_n 0, 1) := by decide +kernel
theorem d_Model_writeSerial_24 : decode y_Model_writeSerial.2.1 24 = .ok (.getfield 28, 3) := by decide +kernel
theorem d_Model_writeSerial_27 : decode y_Model_writeSerial.2.1 27 = .ok (.iload_n 1, 1) := by decide +kernel
theorem d_Model_writeSerial_28 : decode y_Model_writeSerial.2.1 28 = .ok (.iaload, 1) := by decide +kernel
theorem d_Model_writeSerial_29 : decode y_Model_writeSerial.2.1 29 = .ok (.ifCond .ne 21, 3) := by decide +kernel
theorem d_Model_writeSerial_32 : decode y_Model_writeSerial.2.1 32 = .ok (.aload_n 0, 1) := by decide +kernel
theorem d_Model_writeSerial_33 : decode y_Model_writeSerial.2.1 33 = .ok (.getfield 28, 3) := by decide +kernel
theorem d_Model_writeSerial_36 : decode y_Model_writeSerial.2.1 36 = .ok (.iload_n 1, 1) := by decide +kernel
theorem d_Model_writeSerial_37 : decode y_Model_writeSerial.2.1 37 = .ok (.iconst 4, 1) := by decide +kernel
theorem d_Model_writeSerial_38 : decode y_Model_writeSerial.2.1 38 = .ok (.iastore, 1) := by decide +kernel
theorem d_Model_writeSerial_39 : decode y_Model_writeSerial.2.1 39 = .ok (.aload_n 0, 1) := by decide +kernel
theorem d_Model_writeSerial_40 : decode y_Model_writeSerial.2.1 40 = .ok (.getfield 31, 3) := by decide +kernel
theorem d_Model_writeSerial_43 : decode y_Model_writeSerial.2.1 43 = .ok (.iload_n 1, 1) := by decide +kernel
theorem d_Model_writeSerial_44 : decode y_Model_writeSerial.2.1 44 = .ok (.iload_n 3, 1) := by decide +kernel
theorem d_Model_writeSerial_45 : decode y_Model_writeSerial.2.1 45 = .ok (.sipush 255, 3) := by decide +kernel
theorem d_Model_writeSerial_48 : decode y_Model_writeSerial.2.1 48 = .ok (.iand, 1) := by decide +kernel
theorem d_Model_writeSerial_49 : decode y_Model_writeSerial.2.1 49 = .ok (.iastore, 1) := by decide +kernel
theorem d_Model_writeSerial_50 : decode y_Model_writeSerial.2.1 50 = .ok (.return_, 1) := by decide +kernel
theorem d_Model_writeRows_0 : decode y_Model_writeRows.2.1 0 = .ok (.bipush 64, 2) := by decide +kernel
theorem d_Model_writeRows_2 : decode y_Model_writeRows.2.1 2 = .ok (.iload_n 1, 1) := by decide +kernel
theorem d_Model_writeRows_3 : decode y_Model_writeRows.2.1 3 = .ok (.imul, 1) := by decide +kernel
theorem d_Model_writeRows_4 : decode y_Model_writeRows.2.1 4 = .ok (.istore 4, 2) := by decide +kernel
theorem d_Model_writeRows_6 : decode y_Model_writeRows.2.1 6 = .ok (.aload_n 0, 1) := by decide +kernel
theorem d_Model_writeRows_7 : decode y_Model_writeRows.2.1 7 = .ok (.getfield 28, 3) := by decide +kernel
theorem d_Model_writeRows_10 : decode y_Model_writeRows.2.1 10 = .ok (.iload_n 1, 1) := by decide +kernel
theorem d_Model_writeRows_11 : decode y_Model_writeRows.2.1 11 = .ok (.iaload, 1) := by decide +kernel
theorem d_Model_writeRows_12 : decode y_Model_writeRows.2.1 12 = .ok (.ifCond .le 7, 3) := by decide +kernel
theorem d_Model_writeRows_15 : decode y_Model_writeRows.2.1 15 = .ok (.iconst 1, 1) := by decide +kernel
theorem d_Model_writeRows_16 : decode y_Model_writeRows.2.1 16 = .ok (.goto 4, 3) := by decide +kernel
theorem d_Model_writeRows_19 : decode y_Model_writeRows.2.1 19 = .ok (.iconst 0, 1) := by decide +kernel
theorem d_Model_writeRows_20 : decode y_Model_writeRows.2.1 20 = .ok (.istore 5, 2) := by decide +kernel
theorem d_Model_writeRows_22 : decode y_Model_writeRows.2.1 22 = .ok (.iload_n 2, 1) := by decide +kernel
theorem d_Model_writeRows_23 : decode y_Model_writeRows.2.1 23 = .ok (.ifCond .ne 14, 3) := by decide +kernel
theorem d_Model_writeRows_26 : decode y_Model_writeRows.2.1 26 = .ok (.aload_n 0, 1) := by decide +kernel
theorem d_Model_writeRows_27 : decode y_Model_writeRows.2.1 27 = .ok (.getfield 25, 3) := by decide +kernel
theorem d_Model_writeRows_30 : decode y_Model_writeRows.2.1 30 = .ok (.iload 4, 2) := by decide +kernel
theorem d_Model_writeRows_32 : decode y_Model_writeRows.2.1 32 = .ok (.iload_n 3, 1) := by decide +kernel
theorem d_Model_writeRows_33 : decode y_Model_writeRows.2.1 33 = .ok (.bipush 7, 2) := by decide +kernel
theorem d_Model_writeRows_35 : decode y_Model_writeRows.2.1 35 = .ok (.iand, 1) := by decide +kernel
theorem d_Model_writeRows_36 : decode y_Model_writeRows.2.1 36 = .ok (.iastore, 1) := by decide +kernel
theorem d_Model_writeRows_37 : decode y_Model_writeRows.2.1 37 = .ok (.iload_n 2, 1) := by decide +kernel
theorem d_Model_writeRows_38 : decode y_Model_writeRows.2.1 38 = .ok (.iconst 2, 1) := by decide +kernel
theorem d_Model_writeRows_39 : decode y_Model_writeRows.2.1 39 = .ok (.if_icmp .ne 13, 3) := by decide +kernel
theorem d_Model_writeRows_42 : decode y_Model_writeRows.2.1 42 = .ok (.aload_n 0, 1) := by decide +kernel
theorem d_Model_writeRows_43 : decode y_Model_writeRows.2.1 43 = .ok (.getfield 25, 3) := by decide +kernel
theorem d_Model_writeRows_46 : decode y_Model_writeRows.2.1 46 = .ok (.iload 4, 2) := by decide +kernel
theorem d_Model_writeRows_48 : decode y_Model_writeRows.2.1 48 = .ok (.iconst 2, 1) := by decide +kernel
theorem d_Model_writeRows_49 : decode y_Model_writeRows.2.1 49 = .ok (.iadd, 1) := by decide +kernel
theorem d_Model_writeRows_50 : decode y_Model_writeRows.2.1 50 = .ok (.iconst 0, 1) := by decide +kernel
theorem d_Model_writeRows_51 : decode y_Model_writeRows.2.1 51 = .ok (.iastore, 1) := by decide +kernel
theorem d_Model_writeRows_52 : decode y_Model_writeRows.2.1 52 = .ok (.iload_n 2, 1) := by decide +kernel
theorem d_Model_writeRows_53 : decode y_Model_writeRows.2.1 53 = .ok (.iconst 2, 1) := by decide +kernel
theorem d_Model_writeRows_54 : decode y_Model_writeRows.2.1 54 = .ok (.if_icmp .le 18, 3) := by decide +kernel
theorem d_Model_writeRows_57 : decode y_Model_writeRows.2.1 57 = .ok (.iload 5, 2) := by decide +kernel
theorem d_Model_writeRows_59 : decode y_Model_writeRows.2.1 59 = .ok (.ifCond .ne 13, 3) := by decide +kernel
theorem d_Model_writeRows_62 : decode y_Model_writeRows.2.1 62 = .ok (.aload_n 0, 1) := by decide +kernel
theorem d_Model_writeRows_63 : decode y_Model_writeRows.2.1 63 = .ok (.getfield 25, 3) := by decide +kernel
theorem d_Model_writeRows_66 : decode y_Model_writeRows.2.1 66 = .ok (.iload 4, 2) := by decide +kernel
theorem d_Model_writeRows_68 : decode y_Model_writeRows.2.1 68 = .ok (.iload_n 2, 1) := by decide +kernel
theorem d_Model_writeRows_69 : decode y_Model_writeRows.2.1 69 = .ok (.iadd, 1) := by decide +kernel
theorem d_Model_writeRows_70 : decode y_Model_writeRows.2.1 70 = .ok (.iload_n 3, 1) := by decide +kernel
theorem d_Model_writeRows_71 : decode y_Model_writeRows.2.1 71 = .ok (.iastore, 1) := by decide +kernel
theorem d_Model_writeRows_72 : decode y_Model_writeRows.2.1 72 = .ok (.iload_n 2, 1) := by decide +kernel
theorem d_Model_writeRows_73 : decode y_Model_writeRows.2.1 73 = .ok (.iconst 1, 1) := by decide +kernel
theorem d_Model_writeRows_74 : decode y_Model_writeRows.2.1 74 = .ok (.if_icmp .ne 49, 3) := by decide +kernel
theorem d_Model_writeRows_77 : decode y_Model_writeRows.2.1 77 = .ok (.iload 5, 2) := by decide +kernel
theorem d_Model_writeRows_79 : decode y_Model_writeRows.2.1 79 = .ok (.ifCond .ne 44, 3) := by decide +kernel
theorem d_Model_writeRows_82 : decode y_Model_writeRows.2.1 82 = .ok (.iload_n 3, 1) := by decide +kernel
theorem d_Model_writeRows_83 : decode y_Model_writeRows.2.1 83 = .ok (.iconst 1, 1) := by decide +kernel
theorem d_Model_writeRows_84 : decode y_Model_writeRows.2.1 84 = .ok (.if_icmp .eq 8, 3) := by decide +kernel
theorem d_Model_writeRows_87 : decode y_Model_writeRows.2.1 87 = .ok (.iload_n 3, 1) := by decide +kernel
theorem d_Model_writeRows_88 : decode y_Model_writeRows.2.1 88 = .ok (.iconst 2, 1) := by decide +kernel
theorem d_Model_writeRows_89 : decode y_Model_writeRows.2.1 89 = .ok (.if_icmp .ne 34, 3) := by decide +kernel
theorem d_Model_writeRows_92 : decode y_Model_writeRows.2.1 92 = .ok (.aload_n 0, 1) := by decide +kernel
theorem d_Model_writeRows_93 : decode y_Model_writeRows.2.1 93 = .ok (.getfield 25, 3) := by decide +kernel
theorem d_Model_writeRows_96 : decode y_Model_writeRows.2.1 96 = .ok (.iload 4, 2) := by decide +kernel
theorem d_Model_writeRows_98 : decode y_Model_writeRows.2.1 98 = .ok (.iconst 1, 1) := by decide +kernel
theorem d_Model_writeRows_99 : decode y_Model_writeRows.2.1 99 = .ok (.iadd, 1) := by decide +kernel
theorem d_Model_writeRows_100 : decode y_Model_writeRows.2.1 100 = .ok (.iload_n 3, 1) := by decide +kernel
theorem d_Model_writeRows_101 : decode y_Model_writeRows.2.1 101 = .ok (.iastore, 1) := by decide +kernel
theorem d_Model_writeRows_102 : decode y_Model_writeRows.2.1 102 = .ok (.aload_n 0, 1) := by decide +kernel
theorem d_Model_writeRows_103 : decode y_Model_writeRows.2.1 103 = .ok (.getfield 28, 3) := by decide +kernel
theorem d_Model_writeRows_106 : decode y_Model_writeRows.2.1 106 = .ok (.iload_n 1, 1) := by decide +kernel
theorem d_Model_writeRows_107 : decode y_Model_writeRows.2.1 107 = .ok (.bipush 10, 2) := by decide +kernel
theorem d_Model_writeRows_109 : decode y_Model_writeRows.2.1 109 = .ok (.iastore, 1) := by decide +kernel
theorem d_Model_writeRows_110 : decode y_Model_writeRows.2.1 110 = .ok (.aload_n 0, 1) := by decide +kernel
theorem d_Model_writeRows_111 : decode y_Model_writeRows.2.1 111 = .ok (.getfield 31, 3) := by decide +kernel
theorem d_Model_writeRows_114 : decode y_Model_writeRows.2.1 114 = .ok (.iload_n 1, 1) := by decide +kernel
theorem d_Model_writeRows_115 : decode y_Model_writeRows.2.1 115 = .ok (.aload_n 0, 1) := by decide +kernel
theorem d_Model_writeRows_116 : decode y_Model_writeRows.2.1 116 = .ok (.getfield 25, 3) := by decide +kernel
theorem d_Model_writeRows_119 : decode y_Model_writeRows.2.1 119 = .ok (.iload 4, 2) := by decide +kernel
theorem d_Model_writeRows_121 : decode y_Model_writeRows.2.1 121 = .ok (.iaload, 1) := by decide +kernel
theorem d_Model_writeRows_122 : decode y_Model_writeRows.2.1 122 = .ok (.iastore, 1) := by decide +kernel
theorem d_Model_writeRows_123 : decode y_Model_writeRows.2.1 123 = .ok (.return_, 1) := by decide +kernel
theorem d_Model_write_0 : decode y_Model_write.2.1 0 = .ok (.aload_n 0, 1) := by decide +kernel
theorem d_Model_write_1 : decode y_Model_write.2.1 1 = .ok (.iconst 0, 1) := by decide +kernel
theorem d_Model_write_2 : decode y_Model_write.2.1 2 = .ok (.putfield 65, 3) := by decide +kernel
theorem d_Model_write_5 : decode y_Model_write.2.1 5 = .ok (.iload_n 1, 1) := by decide +kernel
theorem d_Model_write_6 : decode y_Model_write.2.1 6 = .ok (.iconst 0, 1) := by decide +kernel
theorem d_Model_write_7 : decode y_Model_write.2.1 7 = .ok (.ldc 127, 2) := by decide +kernel
theorem d_Model_write_9 : decode y_Model_write.2.1 9 = .ok (.invokestatic 69, 3) := by decide +kernel
theorem d_Model_write_12 : decode y_Model_write.2.1 12 = .ok (.ifCond .ne 9, 3) := by decide +kernel
theorem d_Model_write_15 : decode y_Model_write.2.1 15 = .ok (.aload_n 0, 1) := by decide +kernel
theorem d_Model_write_16 : decode y_Model_write.2.1 16 = .ok (.iconst 1, 1) := by decide +kernel
theorem d_Model_write_17 : decode y_Model_write.2.1 17 = .ok (.invokevirtual 81, 3) := by decide +kernel
theorem d_Model_write_20 : decode y_Model_write.2.1 20 = .ok (.ireturn, 1) := by decide +kernel
theorem d_Model_write_21 : decode y_Model_write.2.1 21 = .ok (.aload_n 0, 1) := by decide +kernel
theorem d_Model_write_22 : decode y_Model_write.2.1 22 = .ok (.iload_n 1, 1) := by decide +kernel
theorem d_Model_write_23 : decode y_Model_write.2.1 23 = .ok (.invokevirtual 85, 3) := by decide +kernel
theorem d_Model_write_26 : decode y_Model_write.2.1 26 = .ok (.istore_n 3, 1) := by decide +kernel
theorem d_Model_write_27 : decode y_Model_write.2.1 27 = .ok (.iload_n 3, 1) := by decide +kernel
theorem d_Model_write_28 : decode y_Model_write.2.1 28 = .ok (.ifCond .ge 14, 3) := by decide +kernel
theorem d_Model_write_31 : decode y_Model_write.2.1 31 = .ok (.aload_n 0, 1) := by decide +kernel
theorem d_Model_write_32 : decode y_Model_write.2.1 32 = .ok (.iconst 3, 1) := by decide +kernel
theorem d_Model_write_33 : decode y_Model_write.2.1 33 = .ok (.invokevirtual 128, 3) := by decide +kernel
theorem d_Model_write_36 : decode y_Model_write.2.1 36 = .ok (.aload_n 0, 1) := by decide +kernel
theorem d_Model_write_37 : decode y_Model_write.2.1 37 = .ok (.iconst 2, 1) := by decide +kernel
theorem d_Model_write_38 : decode y_Model_write.2.1 38 = .ok (.invokevirtual 81, 3) := by decide +kernel
theorem d_Model_write_41 : decode y_Model_write.2.1 41 = .ok (.ireturn, 1) := by decide +kernel
theorem d_Model_write_42 : decode y_Model_write.2.1 42 = .ok (.aload_n 0, 1) := by decide +kernel
theorem d_Model_write_43 : decode y_Model_write.2.1 43 = .ok (.iload_n 3, 1) := by decide +kernel
theorem d_Model_write_44 : decode y_Model_write.2.1 44 = .ok (.invokevirtual 131, 3) := by decide +kernel
theorem d_Model_write_47 : decode y_Model_write.2.1 47 = .ok (.aload_n 0, 1) := by decide +kernel
theorem d_Model_write_48 : decode y_Model_write.2.1 48 = .ok (.getfield 7, 3) := by decide +kernel
theorem d_Model_write_51 : decode y_Model_write.2.1 51 = .ok (.iload_n 3, 1) := by decide +kernel
theorem d_Model_write_52 : decode y_Model_write.2.1 52 = .ok (.iaload, 1) := by decide +kernel
theorem d_Model_write_53 : decode y_Model_write.2.1 53 = .ok (.iconst 1, 1) := by decide +kernel
theorem d_Model_write_54 : decode y_Model_write.2.1 54 = .ok (.if_icmp .ne 14, 3) := by decide +kernel
theorem d_Model_write_57 : decode y_Model_write.2.1 57 = .ok (.aload_n 0, 1) := by decide +kernel
theorem d_Model_write_58 : decode y_Model_write.2.1 58 = .ok (.iconst 3, 1) := by decide +kernel
theorem d_Model_write_59 : decode y_Model_write.2.1 59 = .ok (.invokevirtual 128, 3) := by decide +kernel
theorem d_Model_write_62 : decode y_Model_write.2.1 62 = .ok (.aload_n 0, 1) := by decide +kernel
theorem d_Model_write_63 : decode y_Model_write.2.1 63 = .ok (.iconst 2, 1) := by decide +kernel
theorem d_Model_write_64 : decode y_Model_write.2.1 64 = .ok (.invokevirtual 81, 3) := by decide +kernel
theorem d_Model_write_67 : decode y_Model_write.2.1 67 = .ok (.ireturn, 1) := by decide +kernel
theorem d_Model_write_68 : decode y_Model_write.2.1 68 = .ok (.aload_n 0, 1) := by decide +kernel
theorem d_Model_write_69 : decode y_Model_write.2.1 69 = .ok (.iconst 2, 1) := by decide +kernel
theorem d_Model_write_70 : decode y_Model_write.2.1 70 = .ok (.invokevirtual 128, 3) := by decide +kernel
theorem d_Model_write_73 : decode y_Model_write.2.1 73 = .ok (.iload_n 1, 1) := by decide +kernel
theorem d_Model_write_74 : decode y_Model_write.2.1 74 = .ok (.aload_n 0, 1) := by decide +kernel
theorem d_Model_write_75 : decode y_Model_write.2.1 75 = .ok (.getfield 13, 3) := by decide +kernel
theorem d_Model_write_78 : decode y_Model_write.2.1 78 = .ok (.iload_n 3, 1) := by decide +kernel
theorem d_Model_write_79 : decode y_Model_write.2.1 79 = .ok (.iaload, 1) := by decide +kernel
theorem d_Model_write_80 : decode y_Model_write.2.1 80 = .ok (.isub, 1) := by decide +kernel
theorem d_Model_write_81 : decode y_Model_write.2.1 81 = .ok (.istore 4, 2) := by decide +kernel
theorem d_Model_write_83 : decode y_Model_write.2.1 83 = .ok (.aload_n 0, 1) := by decide +kernel
theorem d_Model_write_84 : decode y_Model_write.2.1 84 = .ok (.getfield 7, 3) := by decide +kernel
theorem d_Model_write_87 : decode y_Model_write.2.1 87 = .ok (.iload_n 3, 1) := by decide +kernel
theorem d_Model_write_88 : decode y_Model_write.2.1 88 = .ok (.iaload, 1) := by decide +kernel
theorem d_Model_write_89 : decode y_Model_write.2.1 89 = .ok (.ifCond .ne 19, 3) := by decide +kernel
theorem d_Model_write_92 : decode y_Model_write.2.1 92 = .ok (.aload_n 0, 1) := by decide +kernel
theorem d_Model_write_93 : decode y_Model_write.2.1 93 = .ok (.getfield 25, 3) := by decide +kernel
theorem d_Model_write_96 : decode y_Model_write.2.1 96 = .ok (.bipush 64, 2) := by decide +kernel
theorem d_Model_write_98 : decode y_Model_write.2.1 98 = .ok (.iload_n 3, 1) := by decide +kernel
theorem d_Model_write_99 : decode y_Model_write.2.1 99 = .ok (.imul, 1) := by decide +kernel
theorem d_Model_write_100 : decode y_Model_write.2.1 100 = .ok (.iload 4, 2) := by decide +kernel
theorem d_Model_write_102 : decode y_Model_write.2.1 102 = .ok (.iadd, 1) := by decide +kernel
theorem d_Model_write_103 : decode y_Model_write.2.1 103 = .ok (.iload_n 2, 1) := by decide +kernel
theorem d_Model_write_104 : decode y_Model_write.2.1 104 = .ok (.iastore, 1) := by decide +kernel
theorem d_Model_write_105 : decode y_Model_write.2.1 105 = .ok (.goto 82, 3) := by decide +kernel
theorem d_Model_write_108 : decode y_Model_write.2.1 108 = .ok (.aload_n 0, 1) := by decide +kernel
theorem d_Model_write_109 : decode y_Model_write.2.1 109 = .ok (.getfield 7, 3) := by decide +kernel
theorem d_Model_write_112 : decode y_Model_write.2.1 112 = .ok (.iload_n 3, 1) := by decide +kernel
theorem d_Model_write_113 : decode y_Model_write.2.1 113 = .ok (.iaload, 1) := by decide +kernel
theorem d_Model_write_114 : decode y_Model_write.2.1 114 = .ok (.iconst 2, 1) := by decide +kernel
theorem d_Model_write_115 : decode y_Model_write.2.1 115 = .ok (.if_icmp .ne 17, 3) := by decide +kernel
theorem d_Model_write_118 : decode y_Model_write.2.1 118 = .ok (.aload_n 0, 1) := by decide +kernel
theorem d_Model_write_119 : decode y_Model_write.2.1 119 = .ok (.bipush 64, 2) := by decide +kernel
theorem d_Model_write_121 : decode y_Model_write.2.1 121 = .ok (.iload_n 3, 1) := by decide +kernel
theorem d_Model_write_122 : decode y_Model_write.2.1 122 = .ok (.imul, 1) := by decide +kernel
theorem d_Model_write_123 : decode y_Model_write.2.1 123 = .ok (.iload 4, 2) := by decide +kernel
theorem d_Model_write_125 : decode y_Model_write.2.1 125 = .ok (.iload_n 2, 1) := by decide +kernel
theorem d_Model_write_126 : decode y_Model_write.2.1 126 = .ok (.invokevirtual 137, 3) := by decide +kernel
theorem d_Model_write_129 : decode y_Model_write.2.1 129 = .ok (.goto 58, 3) := by decide +kernel
theorem d_Model_write_132 : decode y_Model_write.2.1 132 = .ok (.aload_n 0, 1) := by decide +kernel
theorem d_Model_write_133 : decode y_Model_write.2.1 133 = .ok (.getfield 7, 3) := by decide +kernel
theorem d_Model_write_136 : decode y_Model_write.2.1 136 = .ok (.iload_n 3, 1) := by decide +kernel
theorem d_Model_write_137 : decode y_Model_write.2.1 137 = .ok (.iaload, 1) := by decide +kernel
theorem d_Model_write_138 : decode y_Model_write.2.1 138 = .ok (.iconst 3, 1) := by decide +kernel
theorem d_Model_write_139 : decode y_Model_write.2.1 139 = .ok (.if_icmp .ne 14, 3) := by decide +kernel
theorem d_Model_write_142 : decode y_Model_write.2.1 142 = .ok (.aload_n 0, 1) := by decide +kernel
theorem d_Model_write_143 : decode y_Model_write.2.1 143 = .ok (.iload_n 3, 1) := by decide +kernel
theorem d_Model_write_144 : decode y_Model_write.2.1 144 = .ok (.iload 4, 2) := by decide +kernel
theorem d_Model_write_146 : decode y_Model_write.2.1 146 = .ok (.iload_n 2, 1) := by decide +kernel
theorem d_Model_write_147 : decode y_Model_write.2.1 147 = .ok (.invokevirtual 141, 3) := by decide +kernel
theorem d_Model_write_150 : decode y_Model_write.2.1 150 = .ok (.goto 37, 3) := by decide +kernel
theorem d_Model_write_153 : decode y_Model_write.2.1 153 = .ok (.aload_n 0, 1) := by decide +kernel
theorem d_Model_write_154 : decode y_Model_write.2.1 154 = .ok (.getfield 7, 3) := by decide +kernel
theorem d_Model_write_157 : decode y_Model_write.2.1 157 = .ok (.iload_n 3, 1) := by decide +kernel
theorem d_Model_write_158 : decode y_Model_write.2.1 158 = .ok (.iaload, 1) := by decide +kernel
theorem d_Model_write_159 : decode y_Model_write.2.1 159 = .ok (.iconst 4, 1) := by decide +kernel
theorem d_Model_write_160 : decode y_Model_write.2.1 160 = .ok (.if_icmp .ne 14, 3) := by decide +kernel
theorem d_Model_write_163 : decode y_Model_write.2.1 163 = .ok (.aload_n 0, 1) := by decide +kernel
theorem d_Model_write_164 : decode y_Model_write.2.1 164 = .ok (.iload_n 3, 1) := by decide +kernel
theorem d_Model_write_165 : decode y_Model_write.2.1 165 = .ok (.iload 4, 2) := by decide +kernel
theorem d_Model_write_167 : decode y_Model_write.2.1 167 = .ok (.iload_n 2, 1) := by decide +kernel
theorem d_Model_write_168 : decode y_Model_write.2.1 168 = .ok (.invokevirtual 144, 3) := by decide +kernel
theorem d_Model_write_171 : decode y_Model_write.2.1 171 = .ok (.goto 16, 3) := by decide +kernel
theorem d_Model_write_174 : decode y_Model_write.2.1 174 = .ok (.aload_n 0, 1) := by decide +kernel
theorem d_Model_write_175 : decode y_Model_write.2.1 175 = .ok (.getfield 25, 3) := by decide +kernel
theorem d_Model_write_178 : decode y_Model_write.2.1 178 = .ok (.bipush 64, 2) := by decide +kernel
theorem d_Model_write_180 : decode y_Model_write.2.1 180 = .ok (.iload_n 3, 1) := by decide +kernel
theorem d_Model_write_181 : decode y_Model_write.2.1 181 = .ok (.imul, 1) := by decide +kernel
theorem d_Model_write_182 : decode y_Model_write.2.1 182 = .ok (.iload 4, 2) := by decide +kernel
theorem d_Model_write_184 : decode y_Model_write.2.1 184 = .ok (.iadd, 1) := by decide +kernel
theorem d_Model_write_185 : decode y_Model_write.2.1 185 = .ok (.iconst 0, 1) := by decide +kernel
theorem d_Model_write_186 : decode y_Model_write.2.1 186 = .ok (.iastore, 1) := by decide +kernel
theorem d_Model_write_187 : decode y_Model_write.2.1 187 = .ok (.aload_n 0, 1) := by decide +kernel
theorem d_Model_write_188 : decode y_Model_write.2.1 188 = .ok (.invokevirtual 120, 3) := by decide +kernel
theorem d_Model_write_191 : decode y_Model_write.2.1 191 = .ok (.iconst 1, 1) := by decide +kernel
theorem d_Model_write_192 : decode y_Model_write.2.1 192 = .ok (.aload_n 0, 1) := by decide +kernel
theorem d_Model_write_193 : decode y_Model_write.2.1 193 = .ok (.getfield 22, 3) := by decide +kernel
theorem d_Model_write_196 : decode y_Model_write.2.1 196 = .ok (.iload_n 3, 1) := by decide +kernel
theorem d_Model_write_197 : decode y_Model_write.2.1 197 = .ok (.iaload, 1) := by decide +kernel
theorem d_Model_write_198 : decode y_Model_write.2.1 198 = .ok (.iadd, 1) := by decide +kernel
theorem d_Model_write_199 : decode y_Model_write.2.1 199 = .ok (.ireturn, 1) := by decide +kernel
theorem d_Model_isSerial_0 : decode y_Model_isSerial.2.1 0 = .ok (.iload_n 1, 1) := by decide +kernel
theorem d_Model_isSerial_1 : decode y_Model_isSerial.2.1 1 = .ok (.iconst 0, 1) := by decide +kernel
theorem d_Model_isSerial_2 : decode y_Model_isSerial.2.1 2 = .ok (.aload_n 0, 1) := by decide +kernel
theorem d_Model_isSerial_3 : decode y_Model_isSerial.2.1 3 = .ok (.getfield 78, 3) := by decide +kernel
theorem d_Model_isSerial_6 : decode y_Model_isSerial.2.1 6 = .ok (.iconst 1, 1) := by decide +kernel
theorem d_Model_isSerial_7 : decode y_Model_isSerial.2.1 7 = .ok (.isub, 1) := by decide +kernel
theorem d_Model_isSerial_8 : decode y_Model_isSerial.2.1 8 = .ok (.invokestatic 69, 3) := by decide +kernel
theorem d_Model_isSerial_11 : decode y_Model_isSerial.2.1 11 = .ok (.ifCond .eq 17, 3) := by decide +kernel
theorem d_Model_isSerial_14 : decode y_Model_isSerial.2.1 14 = .ok (.aload_n 0, 1) := by decide +kernel
theorem d_Model_isSerial_15 : decode y_Model_isSerial.2.1 15 = .ok (.getfield 7, 3) := by decide +kernel
theorem d_Model_isSerial_18 : decode y_Model_isSerial.2.1 18 = .ok (.iload_n 1, 1) := by decide +kernel
theorem d_Model_isSerial_19 : decode y_Model_isSerial.2.1 19 = .ok (.iaload, 1) := by decide +kernel
theorem d_Model_isSerial_20 : decode y_Model_isSerial.2.1 20 = .ok (.iconst 3, 1) := by decide +kernel
theorem d_Model_isSerial_21 : decode y_Model_isSerial.2.1 21 = .ok (.if_icmp .ne 7, 3) := by decide +kernel
theorem d_Model_isSerial_24 : decode y_Model_isSerial.2.1 24 = .ok (.iconst 1, 1) := by decide +kernel
theorem d_Model_isSerial_25 : decode y_Model_isSerial.2.1 25 = .ok (.goto 4, 3) := by decide +kernel
theorem d_Model_isSerial_28 : decode y_Model_isSerial.2.1 28 = .ok (.iconst 0, 1) := by decide +kernel
theorem d_Model_isSerial_29 : decode y_Model_isSerial.2.1 29 = .ok (.ireturn, 1) := by decide +kernel
theorem d_Model_receive_0 : decode y_Model_receive.2.1 0 = .ok (.aload_n 0, 1) := by decide +kernel
theorem d_Model_receive_1 : decode y_Model_receive.2.1 1 = .ok (.iconst 0, 1) := by decide +kernel
theorem d_Model_receive_2 : decode y_Model_receive.2.1 2 = .ok (.putfield 65, 3) := by decide +kernel
theorem d_Model_receive_5 : decode y_Model_receive.2.1 5 = .ok (.aload_n 0, 1) := by decide +kernel
theorem d_Model_receive_6 : decode y_Model_receive.2.1 6 = .ok (.iload_n 1, 1) := by decide +kernel
theorem d_Model_receive_7 : decode y_Model_receive.2.1 7 = .ok (.invokevirtual 147, 3) := by decide +kernel
theorem d_Model_receive_10 : decode y_Model_receive.2.1 10 = .ok (.ifCond .ne 9, 3) := by decide +kernel
theorem d_Model_receive_13 : decode y_Model_receive.2.1 13 = .ok (.aload_n 0, 1) := by decide +kernel
theorem d_Model_receive_14 : decode y_Model_receive.2.1 14 = .ok (.iconst 1, 1) := by decide +kernel
theorem d_Model_receive_15 : decode y_Model_receive.2.1 15 = .ok (.invokevirtual 81, 3) := by decide +kernel
theorem d_Model_receive_18 : decode y_Model_receive.2.1 18 = .ok (.ireturn, 1) := by decide +kernel
theorem d_Model_receive_19 : decode y_Model_receive.2.1 19 = .ok (.aload_n 0, 1) := by decide +kernel
theorem d_Model_receive_20 : decode y_Model_receive.2.1 20 = .ok (.getfield 34, 3) := by decide +kernel
theorem d_Model_receive_23 : decode y_Model_receive.2.1 23 = .ok (.iload_n 1, 1) := by decide +kernel
theorem d_Model_receive_24 : decode y_Model_receive.2.1 24 = .ok (.iaload, 1) := by decide +kernel
theorem d_Model_receive_25 : decode y_Model_receive.2.1 25 = .ok (.bipush 32, 2) := by decide +kernel
theorem d_Model_receive_27 : decode y_Model_receive.2.1 27 = .ok (.if_icmp .ne 9, 3) := by decide +kernel
theorem d_Model_receive_30 : decode y_Model_receive.2.1 30 = .ok (.aload_n 0, 1) := by decide +kernel
theorem d_Model_receive_31 : decode y_Model_receive.2.1 31 = .ok (.iconst 2, 1) := by decide +kernel
theorem d_Model_receive_32 : decode y_Model_receive.2.1 32 = .ok (.invokevirtual 81, 3) := by decide +kernel
theorem d_Model_receive_35 : decode y_Model_receive.2.1 35 = .ok (.ireturn, 1) := by decide +kernel
theorem d_Model_receive_36 : decode y_Model_receive.2.1 36 = .ok (.aload_n 0, 1) := by decide +kernel
theorem d_Model_receive_37 : decode y_Model_receive.2.1 37 = .ok (.getfield 37, 3) := by decide +kernel
theorem d_Model_receive_40 : decode y_Model_receive.2.1 40 = .ok (.bipush 32, 2) := by decide +kernel
theorem d_Model_receive_42 : decode y_Model_receive.2.1 42 = .ok (.iload_n 1, 1) := by decide +kernel
theorem d_Model_receive_43 : decode y_Model_receive.2.1 43 = .ok (.imul, 1) := by decide +kernel
theorem d_Model_receive_44 : decode y_Model_receive.2.1 44 = .ok (.aload_n 0, 1) := by decide +kernel
theorem d_Model_receive_45 : decode y_Model_receive.2.1 45 = .ok (.getfield 34, 3) := by decide +kernel
theorem d_Model_receive_48 : decode y_Model_receive.2.1 48 = .ok (.iload_n 1, 1) := by decide +kernel
theorem d_Model_receive_49 : decode y_Model_receive.2.1 49 = .ok (.iaload, 1) := by decide +kernel
theorem d_Model_receive_50 : decode y_Model_receive.2.1 50 = .ok (.iadd, 1) := by decide +kernel
theorem d_Model_receive_51 : decode y_Model_receive.2.1 51 = .ok (.iload_n 2, 1) := by decide +kernel
theorem d_Model_receive_52 : decode y_Model_receive.2.1 52 = .ok (.iastore, 1) := by decide +kernel
theorem d_Model_receive_53 : decode y_Model_receive.2.1 53 = .ok (.aload_n 0, 1) := by decide +kernel
theorem d_Model_receive_54 : decode y_Model_receive.2.1 54 = .ok (.getfield 34, 3) := by decide +kernel
theorem d_Model_receive_57 : decode y_Model_receive.2.1 57 = .ok (.iload_n 1, 1) := by decide +kernel
theorem d_Model_receive_58 : decode y_Model_receive.2.1 58 = .ok (.dup2, 1) := by decide +kernel
theorem d_Model_receive_59 : decode y_Model_receive.2.1 59 = .ok (.iaload, 1) := by decide +kernel
theorem d_Model_receive_60 : decode y_Model_receive.2.1 60 = .ok (.iconst 1, 1) := by decide +kernel
theorem d_Model_receive_61 : decode y_Model_receive.2.1 61 = .ok (.iadd, 1) := by decide +kernel
theorem d_Model_receive_62 : decode y_Model_receive.2.1 62 = .ok (.iastore, 1) := by decide +kernel
theorem d_Model_receive_63 : decode y_Model_receive.2.1 63 = .ok (.aload_n 0, 1) := by decide +kernel
theorem d_Model_receive_64 : decode y_Model_receive.2.1 64 = .ok (.getfield 34, 3) := by decide +kernel
theorem d_Model_receive_67 : decode y_Model_receive.2.1 67 = .ok (.iload_n 1, 1) := by decide +kernel
theorem d_Model_receive_68 : decode y_Model_receive.2.1 68 = .ok (.iaload, 1) := by decide +kernel
theorem d_Model_receive_69 : decode y_Model_receive.2.1 69 = .ok (.ireturn, 1) := by decide +kernel
theorem d_Model_sent_0 : decode y_Model_sent.2.1 0 = .ok (.aload_n 0, 1) := by decide +kernel
theorem d_Model_sent_1 : decode y_Model_sent.2.1 1 = .ok (.iconst 0, 1) := by decide +kernel
theorem d_Model_sent_2 : decode y_Model_sent.2.1 2 = .ok (.putfield 65, 3) := by decide +kernel
theorem d_Model_sent_5 : decode y_Model_sent.2.1 5 = .ok (.aload_n 0, 1) := by decide +kernel
theorem d_Model_sent_6 : decode y_Model_sent.2.1 6 = .ok (.iload_n 1, 1) := by decide +kernel
theorem d_Model_sent_7 : decode y_Model_sent.2.1 7 = .ok (.invokevirtual 147, 3) := by decide +kernel
theorem d_Model_sent_10 : decode y_Model_sent.2.1 10 = .ok (.ifCond .ne 9, 3) := by decide +kernel
theorem d_Model_sent_13 : decode y_Model_sent.2.1 13 = .ok (.aload_n 0, 1) := by decide +kernel
theorem d_Model_sent_14 : decode y_Model_sent.2.1 14 = .ok (.iconst 1, 1) := by decide +kernel
theorem d_Model_sent_15 : decode y_Model_sent.2.1 15 = .ok (.invokevirtual 81, 3) := by decide +kernel
theorem d_Model_sent_18 : decode y_Model_sent.2.1 18 = .ok (.ireturn, 1) := by decide +kernel
theorem d_Model_sent_19 : decode y_Model_sent.2.1 19 = .ok (.aload_n 0, 1) := by decide +kernel
theorem d_Model_sent_20 : decode y_Model_sent.2.1 20 = .ok (.getfield 40, 3) := by decide +kernel
theorem d_Model_sent_23 : decode y_Model_sent.2.1 23 = .ok (.iload_n 1, 1) := by decide +kernel
theorem d_Model_sent_24 : decode y_Model_sent.2.1 24 = .ok (.iaload, 1) := by decide +kernel
theorem d_Model_sent_25 : decode y_Model_sent.2.1 25 = .ok (.bipush 32, 2) := by decide +kernel
theorem d_Model_sent_27 : decode y_Model_sent.2.1 27 = .ok (.if_icmp .ge 12, 3) := by decide +kernel
theorem d_Model_sent_30 : decode y_Model_sent.2.1 30 = .ok (.aload_n 0, 1) := by decide +kernel
theorem d_Model_sent_31 : decode y_Model_sent.2.1 31 = .ok (.getfield 40, 3) := by decide +kernel
theorem d_Model_sent_34 : decode y_Model_sent.2.1 34 = .ok (.iload_n 1, 1) := by decide +kernel
theorem d_Model_sent_35 : decode y_Model_sent.2.1 35 = .ok (.iaload, 1) := by decide +kernel
theorem d_Model_sent_36 : decode y_Model_sent.2.1 36 = .ok (.goto 5, 3) := by decide +kernel
theorem d_Model_sent_39 : decode y_Model_sent.2.1 39 = .ok (.bipush 32, 2) := by decide +kernel
theorem d_Model_sent_41 : decode y_Model_sent.2.1 41 = .ok (.istore_n 3, 1) := by decide +kernel
theorem d_Model_sent_42 : decode y_Model_sent.2.1 42 = .ok (.iload_n 2, 1) := by decide +kernel
theorem d_Model_sent_43 : decode y_Model_sent.2.1 43 = .ok (.iconst 0, 1) := by decide +kernel
theorem d_Model_sent_44 : decode y_Model_sent.2.1 44 = .ok (.iload_n 3, 1) := by decide +kernel
theorem d_Model_sent_45 : decode y_Model_sent.2.1 45 = .ok (.iconst 1, 1) := by decide +kernel
theorem d_Model_sent_46 : decode y_Model_sent.2.1 46 = .ok (.isub, 1) := by decide +kernel
theorem d_Model_sent_47 : decode y_Model_sent.2.1 47 = .ok (.invokestatic 69, 3) := by decide +kernel
theorem d_Model_sent_50 : decode y_Model_sent.2.1 50 = .ok (.ifCond .eq 17, 3) := by decide +kernel
theorem d_Model_sent_53 : decode y_Model_sent.2.1 53 = .ok (.aload_n 0, 1) := by decide +kernel
theorem d_Model_sent_54 : decode y_Model_sent.2.1 54 = .ok (.getfield 43, 3) := by decide +kernel
theorem d_Model_sent_57 : decode y_Model_sent.2.1 57 = .ok (.bipush 32, 2) := by decide +kernel
theorem d_Model_sent_59 : decode y_Model_sent.2.1 59 = .ok (.iload_n 1, 1) := by decide +kernel
theorem d_Model_sent_60 : decode y_Model_sent.2.1 60 = .ok (.imul, 1) := by decide +kernel
theorem d_Model_sent_61 : decode y_Model_sent.2.1 61 = .ok (.iload_n 2, 1) := by decide +kernel
theorem d_Model_sent_62 : decode y_Model_sent.2.1 62 = .ok (.iadd, 1) := by decide +kernel
theorem d_Model_sent_63 : decode y_Model_sent.2.1 63 = .ok (.iaload, 1) := by decide +kernel
theorem d_Model_sent_64 : decode y_Model_sent.2.1 64 = .ok (.goto 8, 3) := by decide +kernel
theorem d_Model_sent_67 : decode y_Model_sent.2.1 67 = .ok (.aload_n 0, 1) := by decide +kernel
theorem d_Model_sent_68 : decode y_Model_sent.2.1 68 = .ok (.iconst 2, 1) := by decide +kernel
theorem d_Model_sent_69 : decode y_Model_sent.2.1 69 = .ok (.invokevirtual 81, 3) := by decide +kernel
theorem d_Model_sent_72 : decode y_Model_sent.2.1 72 = .ok (.ireturn, 1) := by decide +kernel
theorem d_Model_line_0 : decode y_Model_line.2.1 0 = .ok (.aload_n 0, 1) := by decide +kernel
theorem d_Model_line_1 : decode y_Model_line.2.1 1 = .ok (.iconst 0, 1) := by decide +kernel
theorem d_Model_line_2 : decode y_Model_line.2.1 2 = .ok (.putfield 65, 3) := by decide +kernel
theorem d_Model_line_5 : decode y_Model_line.2.1 5 = .ok (.iload_n 1, 1) := by decide +kernel
theorem d_Model_line_6 : decode y_Model_line.2.1 6 = .ok (.iconst 0, 1) := by decide +kernel
theorem d_Model_line_7 : decode y_Model_line.2.1 7 = .ok (.bipush 15, 2) := by decide +kernel
theorem d_Model_line_9 : decode y_Model_line.2.1 9 = .ok (.invokestatic 69, 3) := by decide +kernel
theorem d_Model_line_12 : decode y_Model_line.2.1 12 = .ok (.ifCond .ne 9, 3) := by decide +kernel
theorem d_Model_line_15 : decode y_Model_line.2.1 15 = .ok (.aload_n 0, 1) := by decide +kernel
theorem d_Model_line_16 : decode y_Model_line.2.1 16 = .ok (.iconst 1, 1) := by decide +kernel
theorem d_Model_line_17 : decode y_Model_line.2.1 17 = .ok (.invokevirtual 81, 3) := by decide +kernel
theorem d_Model_line_20 : decode y_Model_line.2.1 20 = .ok (.ireturn, 1) := by decide +kernel
theorem d_Model_line_21 : decode y_Model_line.2.1 21 = .ok (.iload_n 2, 1) := by decide +kernel
theorem d_Model_line_22 : decode y_Model_line.2.1 22 = .ok (.iconst 0, 1) := by decide +kernel
theorem d_Model_line_23 : decode y_Model_line.2.1 23 = .ok (.iconst 2, 1) := by decide +kernel
theorem d_Model_line_24 : decode y_Model_line.2.1 24 = .ok (.invokestatic 69, 3) := by decide +kernel
theorem d_Model_line_27 : decode y_Model_line.2.1 27 = .ok (.ifCond .eq 30, 3) := by decide +kernel
theorem d_Model_line_30 : decode y_Model_line.2.1 30 = .ok (.iload_n 3, 1) := by decide +kernel
theorem d_Model_line_31 : decode y_Model_line.2.1 31 = .ok (.iconst 0, 1) := by decide +kernel
theorem d_Model_line_32 : decode y_Model_line.2.1 32 = .ok (.iload_n 2, 1) := by decide +kernel
theorem d_Model_line_33 : decode y_Model_line.2.1 33 = .ok (.ifCond .ne 7, 3) := by decide +kernel
theorem d_Model_line_36 : decode y_Model_line.2.1 36 = .ok (.iconst 2, 1) := by decide +kernel
theorem d_Model_line_37 : decode y_Model_line.2.1 37 = .ok (.goto 14, 3) := by decide +kernel
theorem d_Model_line_40 : decode y_Model_line.2.1 40 = .ok (.iload_n 2, 1) := by decide +kernel
theorem d_Model_line_41 : decode y_Model_line.2.1 41 = .ok (.iconst 1, 1) := by decide +kernel
theorem d_Model_line_42 : decode y_Model_line.2.1 42 = .ok (.if_icmp .ne 8, 3) := by decide +kernel
theorem d_Model_line_45 : decode y_Model_line.2.1 45 = .ok (.bipush 15, 2) := by decide +kernel
theorem d_Model_line_47 : decode y_Model_line.2.1 47 = .ok (.goto 4, 3) := by decide +kernel
theorem d_Model_line_50 : decode y_Model_line.2.1 50 = .ok (.iconst 1, 1) := by decide +kernel
theorem d_Model_line_51 : decode y_Model_line.2.1 51 = .ok (.invokestatic 69, 3) := by decide +kernel
theorem d_Model_line_54 : decode y_Model_line.2.1 54 = .ok (.ifCond .ne 9, 3) := by decide +kernel
theorem d_Model_line_57 : decode y_Model_line.2.1 57 = .ok (.aload_n 0, 1) := by decide +kernel
theorem d_Model_line_58 : decode y_Model_line.2.1 58 = .ok (.iconst 2, 1) := by decide +kernel
theorem d_Model_line_59 : decode y_Model_line.2.1 59 = .ok (.invokevirtual 81, 3) := by decide +kernel
theorem d_Model_line_62 : decode y_Model_line.2.1 62 = .ok (.ireturn, 1) := by decide +kernel
theorem d_Model_line_63 : decode y_Model_line.2.1 63 = .ok (.iload_n 2, 1) := by decide +kernel
theorem d_Model_line_64 : decode y_Model_line.2.1 64 = .ok (.ifCond .ne 12, 3) := by decide +kernel
theorem d_Model_line_67 : decode y_Model_line.2.1 67 = .ok (.aload_n 0, 1) := by decide +kernel
theorem d_Model_line_68 : decode y_Model_line.2.1 68 = .ok (.getfield 49, 3) := by decide +kernel
theorem d_Model_line_71 : decode y_Model_line.2.1 71 = .ok (.iload_n 1, 1) := by decide +kernel
theorem d_Model_line_72 : decode y_Model_line.2.1 72 = .ok (.iaload, 1) := by decide +kernel
theorem d_Model_line_73 : decode y_Model_line.2.1 73 = .ok (.goto 31, 3) := by decide +kernel
theorem d_Model_line_76 : decode y_Model_line.2.1 76 = .ok (.iload_n 2, 1) := by decide +kernel
theorem d_Model_line_77 : decode y_Model_line.2.1 77 = .ok (.iconst 1, 1) := by decide +kernel
theorem d_Model_line_78 : decode y_Model_line.2.1 78 = .ok (.if_icmp .ne 12, 3) := by decide +kernel
theorem d_Model_line_81 : decode y_Model_line.2.1 81 = .ok (.aload_n 0, 1) := by decide +kernel
theorem d_Model_line_82 : decode y_Model_line.2.1 82 = .ok (.getfield 52, 3) := by decide +kernel
theorem d_Model_line_85 : decode y_Model_line.2.1 85 = .ok (.iload_n 1, 1) := by decide +kernel
theorem d_Model_line_86 : decode y_Model_line.2.1 86 = .ok (.iaload, 1) := by decide +kernel
theorem d_Model_line_87 : decode y_Model_line.2.1 87 = .ok (.goto 17, 3) := by decide +kernel
theorem d_Model_line_90 : decode y_Model_line.2.1 90 = .ok (.aload_n 0, 1) := by decide +kernel
theorem d_Model_line_91 : decode y_Model_line.2.1 91 = .ok (.getfield 55, 3) := by decide +kernel
theorem d_Model_line_94 : decode y_Model_line.2.1 94 = .ok (.iload_n 1, 1) := by decide +kernel
theorem d_Model_line_95 : decode y_Model_line.2.1 95 = .ok (.baload, 1) := by decide +kernel
theorem d_Model_line_96 : decode y_Model_line.2.1 96 = .ok (.ifCond .eq 7, 3) := by decide +kernel
theorem d_Model_line_99 : decode y_Model_line.2.1 99 = .ok (.iconst 1, 1) := by decide +kernel
theorem d_Model_line_100 : decode y_Model_line.2.1 100 = .ok (.goto 4, 3) := by decide +kernel
theorem d_Model_line_103 : decode y_Model_line.2.1 103 = .ok (.iconst 0, 1) := by decide +kernel
theorem d_Model_line_104 : decode y_Model_line.2.1 104 = .ok (.istore 4, 2) := by decide +kernel
theorem d_Model_line_106 : decode y_Model_line.2.1 106 = .ok (.iload_n 2, 1) := by decide +kernel
theorem d_Model_line_107 : decode y_Model_line.2.1 107 = .ok (.ifCond .ne 20, 3) := by decide +kernel
theorem d_Model_line_110 : decode y_Model_line.2.1 110 = .ok (.iload_n 3, 1) := by decide +kernel
theorem d_Model_line_111 : decode y_Model_line.2.1 111 = .ok (.aload_n 0, 1) := by decide +kernel
theorem d_Model_line_112 : decode y_Model_line.2.1 112 = .ok (.getfield 49, 3) := by decide +kernel
theorem d_Model_line_115 : decode y_Model_line.2.1 115 = .ok (.iload_n 1, 1) := by decide +kernel
theorem d_Model_line_116 : decode y_Model_line.2.1 116 = .ok (.iaload, 1) := by decide +kernel
theorem d_Model_line_117 : decode y_Model_line.2.1 117 = .ok (.if_icmp .eq 10, 3) := by decide +kernel
theorem d_Model_line_120 : decode y_Model_line.2.1 120 = .ok (.aload_n 0, 1) := by decide +kernel
theorem d_Model_line_121 : decode y_Model_line.2.1 121 = .ok (.getfield 62, 3) := by decide +kernel
theorem d_Model_line_124 : decode y_Model_line.2.1 124 = .ok (.iload_n 1, 1) := by decide +kernel
theorem d_Model_line_125 : decode y_Model_line.2.1 125 = .ok (.iconst 0, 1) := by decide +kernel
theorem d_Model_line_126 : decode y_Model_line.2.1 126 = .ok (.bastore, 1) := by decide +kernel
theorem d_Model_line_127 : decode y_Model_line.2.1 127 = .ok (.iload_n 2, 1) := by decide +kernel
theorem d_Model_line_128 : decode y_Model_line.2.1 128 = .ok (.ifCond .ne 10, 3) := by decide +kernel
theorem d_Model_line_131 : decode y_Model_line.2.1 131 = .ok (.aload_n 0, 1) := by decide +kernel
theorem d_Model_line_132 : decode y_Model_line.2.1 132 = .ok (.getfield 49, 3) := by decide +kernel
theorem d_Model_line_135 : decode y_Model_line.2.1 135 = .ok (.iload_n 1, 1) := by decide +kernel
theorem d_Model_line_136 : decode y_Model_line.2.1 136 = .ok (.iload_n 3, 1) := by decide +kernel
theorem d_Model_line_137 : decode y_Model_line.2.1 137 = .ok (.iastore, 1) := by decide +kernel
theorem d_Model_line_138 : decode y_Model_line.2.1 138 = .ok (.iload_n 2, 1) := by decide +kernel
theorem d_Model_line_139 : decode y_Model_line.2.1 139 = .ok (.iconst 1, 1) := by decide +kernel
theorem d_Model_line_140 : decode y_Model_line.2.1 140 = .ok (.if_icmp .ne 10, 3) := by decide +kernel
theorem d_Model_line_143 : decode y_Model_line.2.1 143 = .ok (.aload_n 0, 1) := by decide +kernel
theorem d_Model_line_144 : decode y_Model_line.2.1 144 = .ok (.getfield 52, 3) := by decide +kernel
theorem d_Model_line_147 : decode y_Model_line.2.1 147 = .ok (.iload_n 1, 1) := by decide +kernel
theorem d_Model_line_148 : decode y_Model_line.2.1 148 = .ok (.iload_n 3, 1) := by decide +kernel
theorem d_Model_line_149 : decode y_Model_line.2.1 149 = .ok (.iastore, 1) := by decide +kernel
theorem d_Model_line_150 : decode y_Model_line.2.1 150 = .ok (.iload_n 2, 1) := by decide +kernel
theorem d_Model_line_151 : decode y_Model_line.2.1 151 = .ok (.iconst 2, 1) := by decide +kernel
theorem d_Model_line_152 : decode y_Model_line.2.1 152 = .ok (.if_icmp .ne 19, 3) := by decide +kernel
theorem d_Model_line_155 : decode y_Model_line.2.1 155 = .ok (.aload_n 0, 1) := by decide +kernel
theorem d_Model_line_156 : decode y_Model_line.2.1 156 = .ok (.getfield 55, 3) := by decide +kernel
theorem d_Model_line_159 : decode y_Model_line.2.1 159 = .ok (.iload_n 1, 1) := by decide +kernel
theorem d_Model_line_160 : decode y_Model_line.2.1 160 = .ok (.iload_n 3, 1) := by decide +kernel
theorem d_Model_line_161 : decode y_Model_line.2.1 161 = .ok (.iconst 1, 1) := by decide +kernel
theorem d_Model_line_162 : decode y_Model_line.2.1 162 = .ok (.if_icmp .ne 7, 3) := by decide +kernel
theorem d_Model_line_165 : decode y_Model_line.2.1 165 = .ok (.iconst 1, 1) := by decide +kernel
theorem d_Model_line_166 : decode y_Model_line.2.1 166 = .ok (.goto 4, 3) := by decide +kernel
theorem d_Model_line_169 : decode y_Model_line.2.1 169 = .ok (.iconst 0, 1) := by decide +kernel
theorem d_Model_line_170 : decode y_Model_line.2.1 170 = .ok (.bastore, 1) := by decide +kernel
theorem d_Model_line_171 : decode y_Model_line.2.1 171 = .ok (.iload 4, 2) := by decide +kernel
theorem d_Model_line_173 : decode y_Model_line.2.1 173 = .ok (.ireturn, 1) := by decide +kernel
theorem d_Model_isPending_0 : decode y_Model_isPending.2.1 0 = .ok (.aload_n 0, 1) := by decide +kernel
theorem d_Model_isPending_1 : decode y_Model_isPending.2.1 1 = .ok (.getfield 49, 3) := by decide +kernel
theorem d_Model_isPending_4 : decode y_Model_isPending.2.1 4 = .ok (.iload_n 1, 1) := by decide +kernel
theorem d_Model_isPending_5 : decode y_Model_isPending.2.1 5 = .ok (.iaload, 1) := by decide +kernel
theorem d_Model_isPending_6 : decode y_Model_isPending.2.1 6 = .ok (.ifCond .ne 12, 3) := by decide +kernel
theorem d_Model_isPending_9 : decode y_Model_isPending.2.1 9 = .ok (.aload_n 0, 1) := by decide +kernel
theorem d_Model_isPending_10 : decode y_Model_isPending.2.1 10 = .ok (.getfield 59, 3) := by decide +kernel
theorem d_Model_isPending_13 : decode y_Model_isPending.2.1 13 = .ok (.iload_n 1, 1) := by decide +kernel
theorem d_Model_isPending_14 : decode y_Model_isPending.2.1 14 = .ok (.baload, 1) := by decide +kernel
theorem d_Model_isPending_15 : decode y_Model_isPending.2.1 15 = .ok (.goto 9, 3) := by decide +kernel
theorem d_Model_isPending_18 : decode y_Model_isPending.2.1 18 = .ok (.aload_n 0, 1) := by decide +kernel
theorem d_Model_isPending_19 : decode y_Model_isPending.2.1 19 = .ok (.getfield 62, 3) := by decide +kernel
theorem d_Model_isPending_22 : decode y_Model_isPending.2.1 22 = .ok (.iload_n 1, 1) := by decide +kernel
theorem d_Model_isPending_23 : decode y_Model_isPending.2.1 23 = .ok (.baload, 1) := by decide +kernel
theorem d_Model_isPending_24 : decode y_Model_isPending.2.1 24 = .ok (.ireturn, 1) := by decide +kernel
theorem d_Model_asks_0 : decode y_Model_asks.2.1 0 = .ok (.aload_n 0, 1) := by decide +kernel
theorem d_Model_asks_1 : decode y_Model_asks.2.1 1 = .ok (.iconst 0, 1) := by decide +kernel
theorem d_Model_asks_2 : decode y_Model_asks.2.1 2 = .ok (.putfield 65, 3) := by decide +kernel
theorem d_Model_asks_5 : decode y_Model_asks.2.1 5 = .ok (.iload_n 1, 1) := by decide +kernel
theorem d_Model_asks_6 : decode y_Model_asks.2.1 6 = .ok (.iconst 0, 1) := by decide +kernel
theorem d_Model_asks_7 : decode y_Model_asks.2.1 7 = .ok (.bipush 15, 2) := by decide +kernel
theorem d_Model_asks_9 : decode y_Model_asks.2.1 9 = .ok (.invokestatic 69, 3) := by decide +kernel
theorem d_Model_asks_12 : decode y_Model_asks.2.1 12 = .ok (.ifCond .ne 9, 3) := by decide +kernel
theorem d_Model_asks_15 : decode y_Model_asks.2.1 15 = .ok (.aload_n 0, 1) := by decide +kernel
theorem d_Model_asks_16 : decode y_Model_asks.2.1 16 = .ok (.iconst 1, 1) := by decide +kernel
theorem d_Model_asks_17 : decode y_Model_asks.2.1 17 = .ok (.invokevirtual 81, 3) := by decide +kernel
theorem d_Model_asks_20 : decode y_Model_asks.2.1 20 = .ok (.ireturn, 1) := by decide +kernel
theorem d_Model_asks_21 : decode y_Model_asks.2.1 21 = .ok (.aload_n 0, 1) := by decide +kernel
theorem d_Model_asks_22 : decode y_Model_asks.2.1 22 = .ok (.getfield 59, 3) := by decide +kernel
theorem d_Model_asks_25 : decode y_Model_asks.2.1 25 = .ok (.iload_n 1, 1) := by decide +kernel
theorem d_Model_asks_26 : decode y_Model_asks.2.1 26 = .ok (.baload, 1) := by decide +kernel
theorem d_Model_asks_27 : decode y_Model_asks.2.1 27 = .ok (.ifCond .eq 7, 3) := by decide +kernel
theorem d_Model_asks_30 : decode y_Model_asks.2.1 30 = .ok (.iconst 1, 1) := by decide +kernel
theorem d_Model_asks_31 : decode y_Model_asks.2.1 31 = .ok (.goto 4, 3) := by decide +kernel
theorem d_Model_asks_34 : decode y_Model_asks.2.1 34 = .ok (.iconst 0, 1) := by decide +kernel
theorem d_Model_asks_35 : decode y_Model_asks.2.1 35 = .ok (.aload_n 0, 1) := by decide +kernel
theorem d_Model_asks_36 : decode y_Model_asks.2.1 36 = .ok (.iload_n 1, 1) := by decide +kernel
theorem d_Model_asks_37 : decode y_Model_asks.2.1 37 = .ok (.invokevirtual 150, 3) := by decide +kernel
theorem d_Model_asks_40 : decode y_Model_asks.2.1 40 = .ok (.ifCond .eq 7, 3) := by decide +kernel
theorem d_Model_asks_43 : decode y_Model_asks.2.1 43 = .ok (.iconst 2, 1) := by decide +kernel
theorem d_Model_asks_44 : decode y_Model_asks.2.1 44 = .ok (.goto 4, 3) := by decide +kernel
theorem d_Model_asks_47 : decode y_Model_asks.2.1 47 = .ok (.iconst 0, 1) := by decide +kernel
theorem d_Model_asks_48 : decode y_Model_asks.2.1 48 = .ok (.iadd, 1) := by decide +kernel
theorem d_Model_asks_49 : decode y_Model_asks.2.1 49 = .ok (.ireturn, 1) := by decide +kernel
theorem d_Model_choose_0 : decode y_Model_choose.2.1 0 = .ok (.iconst (-1), 1) := by decide +kernel
theorem d_Model_choose_1 : decode y_Model_choose.2.1 1 = .ok (.istore_n 1, 1) := by decide +kernel
theorem d_Model_choose_2 : decode y_Model_choose.2.1 2 = .ok (.iconst 0, 1) := by decide +kernel
theorem d_Model_choose_3 : decode y_Model_choose.2.1 3 = .ok (.istore_n 2, 1) := by decide +kernel
theorem d_Model_choose_4 : decode y_Model_choose.2.1 4 = .ok (.iload_n 2, 1) := by decide +kernel
theorem d_Model_choose_5 : decode y_Model_choose.2.1 5 = .ok (.bipush 16, 2) := by decide +kernel
theorem d_Model_choose_7 : decode y_Model_choose.2.1 7 = .ok (.if_icmp .ge 47, 3) := by decide +kernel
theorem d_Model_choose_10 : decode y_Model_choose.2.1 10 = .ok (.aload_n 0, 1) := by decide +kernel
theorem d_Model_choose_11 : decode y_Model_choose.2.1 11 = .ok (.iload_n 2, 1) := by decide +kernel
theorem d_Model_choose_12 : decode y_Model_choose.2.1 12 = .ok (.invokevirtual 150, 3) := by decide +kernel
theorem d_Model_choose_15 : decode y_Model_choose.2.1 15 = .ok (.ifCond .eq 33, 3) := by decide +kernel
theorem d_Model_choose_18 : decode y_Model_choose.2.1 18 = .ok (.aload_n 0, 1) := by decide +kernel
theorem d_Model_choose_19 : decode y_Model_choose.2.1 19 = .ok (.getfield 55, 3) := by decide +kernel
theorem d_Model_choose_22 : decode y_Model_choose.2.1 22 = .ok (.iload_n 2, 1) := by decide +kernel
theorem d_Model_choose_23 : decode y_Model_choose.2.1 23 = .ok (.baload, 1) := by decide +kernel
theorem d_Model_choose_24 : decode y_Model_choose.2.1 24 = .ok (.ifCond .ne 24, 3) := by decide +kernel
theorem d_Model_choose_27 : decode y_Model_choose.2.1 27 = .ok (.iload_n 1, 1) := by decide +kernel
theorem d_Model_choose_28 : decode y_Model_choose.2.1 28 = .ok (.ifCond .lt 18, 3) := by decide +kernel
theorem d_Model_choose_31 : decode y_Model_choose.2.1 31 = .ok (.aload_n 0, 1) := by decide +kernel
theorem d_Model_choose_32 : decode y_Model_choose.2.1 32 = .ok (.getfield 52, 3) := by decide +kernel
theorem d_Model_choose_35 : decode y_Model_choose.2.1 35 = .ok (.iload_n 2, 1) := by decide +kernel
theorem d_Model_choose_36 : decode y_Model_choose.2.1 36 = .ok (.iaload, 1) := by decide +kernel
theorem d_Model_choose_37 : decode y_Model_choose.2.1 37 = .ok (.aload_n 0, 1) := by decide +kernel
theorem d_Model_choose_38 : decode y_Model_choose.2.1 38 = .ok (.getfield 52, 3) := by decide +kernel
theorem d_Model_choose_41 : decode y_Model_choose.2.1 41 = .ok (.iload_n 1, 1) := by decide +kernel
theorem d_Model_choose_42 : decode y_Model_choose.2.1 42 = .ok (.iaload, 1) := by decide +kernel
theorem d_Model_choose_43 : decode y_Model_choose.2.1 43 = .ok (.if_icmp .le 5, 3) := by decide +kernel
theorem d_Model_choose_46 : decode y_Model_choose.2.1 46 = .ok (.iload_n 2, 1) := by decide +kernel
theorem d_Model_choose_47 : decode y_Model_choose.2.1 47 = .ok (.istore_n 1, 1) := by decide +kernel
theorem d_Model_choose_48 : decode y_Model_choose.2.1 48 = .ok (.iinc 2 1, 3) := by decide +kernel
theorem d_Model_choose_51 : decode y_Model_choose.2.1 51 = .ok (.goto (-47), 3) := by decide +kernel
theorem d_Model_choose_54 : decode y_Model_choose.2.1 54 = .ok (.iload_n 1, 1) := by decide +kernel
theorem d_Model_choose_55 : decode y_Model_choose.2.1 55 = .ok (.ireturn, 1) := by decide +kernel
theorem d_Model_chosen_0 : decode y_Model_chosen.2.1 0 = .ok (.aload_n 0, 1) := by decide +kernel
theorem d_Model_chosen_1 : decode y_Model_chosen.2.1 1 = .ok (.iconst 0, 1) := by decide +kernel
theorem d_Model_chosen_2 : decode y_Model_chosen.2.1 2 = .ok (.putfield 65, 3) := by decide +kernel
theorem d_Model_chosen_5 : decode y_Model_chosen.2.1 5 = .ok (.aload_n 0, 1) := by decide +kernel
theorem d_Model_chosen_6 : decode y_Model_chosen.2.1 6 = .ok (.invokevirtual 153, 3) := by decide +kernel
theorem d_Model_chosen_9 : decode y_Model_chosen.2.1 9 = .ok (.ireturn, 1) := by decide +kernel
theorem d_Model_take_0 : decode y_Model_take.2.1 0 = .ok (.aload_n 0, 1) := by decide +kernel
theorem d_Model_take_1 : decode y_Model_take.2.1 1 = .ok (.iconst 0, 1) := by decide +kernel
theorem d_Model_take_2 : decode y_Model_take.2.1 2 = .ok (.putfield 65, 3) := by decide +kernel
theorem d_Model_take_5 : decode y_Model_take.2.1 5 = .ok (.aload_n 0, 1) := by decide +kernel
theorem d_Model_take_6 : decode y_Model_take.2.1 6 = .ok (.invokevirtual 153, 3) := by decide +kernel
theorem d_Model_take_9 : decode y_Model_take.2.1 9 = .ok (.istore_n 1, 1) := by decide +kernel
theorem d_Model_take_10 : decode y_Model_take.2.1 10 = .ok (.iload_n 1, 1) := by decide +kernel
theorem d_Model_take_11 : decode y_Model_take.2.1 11 = .ok (.ifCond .lt 10, 3) := by decide +kernel
theorem d_Model_take_14 : decode y_Model_take.2.1 14 = .ok (.aload_n 0, 1) := by decide +kernel
theorem d_Model_take_15 : decode y_Model_take.2.1 15 = .ok (.getfield 62, 3) := by decide +kernel
theorem d_Model_take_18 : decode y_Model_take.2.1 18 = .ok (.iload_n 1, 1) := by decide +kernel
theorem d_Model_take_19 : decode y_Model_take.2.1 19 = .ok (.iconst 0, 1) := by decide +kernel
theorem d_Model_take_20 : decode y_Model_take.2.1 20 = .ok (.bastore, 1) := by decide +kernel
theorem d_Model_take_21 : decode y_Model_take.2.1 21 = .ok (.iload_n 1, 1) := by decide +kernel
theorem d_Model_take_22 : decode y_Model_take.2.1 22 = .ok (.ireturn, 1) := by decide +kernel
theorem d_Model_reset_0 : decode y_Model_reset.2.1 0 = .ok (.aload_n 0, 1) := by decide +kernel
theorem d_Model_reset_1 : decode y_Model_reset.2.1 1 = .ok (.iconst 0, 1) := by decide +kernel
theorem d_Model_reset_2 : decode y_Model_reset.2.1 2 = .ok (.putfield 65, 3) := by decide +kernel
theorem d_Model_reset_5 : decode y_Model_reset.2.1 5 = .ok (.aload_n 0, 1) := by decide +kernel
theorem d_Model_reset_6 : decode y_Model_reset.2.1 6 = .ok (.getfield 88, 3) := by decide +kernel
theorem d_Model_reset_9 : decode y_Model_reset.2.1 9 = .ok (.istore_n 1, 1) := by decide +kernel
theorem d_Model_reset_10 : decode y_Model_reset.2.1 10 = .ok (.aload_n 0, 1) := by decide +kernel
theorem d_Model_reset_11 : decode y_Model_reset.2.1 11 = .ok (.iconst 1, 1) := by decide +kernel
theorem d_Model_reset_12 : decode y_Model_reset.2.1 12 = .ok (.invokevirtual 110, 3) := by decide +kernel
theorem d_Model_reset_15 : decode y_Model_reset.2.1 15 = .ok (.iload_n 1, 1) := by decide +kernel
theorem d_Model_reset_16 : decode y_Model_reset.2.1 16 = .ok (.ireturn, 1) := by decide +kernel
theorem d_Model_count_0 : decode y_Model_count.2.1 0 = .ok (.aload_n 0, 1) := by decide +kernel
theorem d_Model_count_1 : decode y_Model_count.2.1 1 = .ok (.iconst 0, 1) := by decide +kernel
theorem d_Model_count_2 : decode y_Model_count.2.1 2 = .ok (.putfield 65, 3) := by decide +kernel
theorem d_Model_count_5 : decode y_Model_count.2.1 5 = .ok (.iconst 0, 1) := by decide +kernel
theorem d_Model_count_6 : decode y_Model_count.2.1 6 = .ok (.istore_n 2, 1) := by decide +kernel
theorem d_Model_count_7 : decode y_Model_count.2.1 7 = .ok (.iconst 0, 1) := by decide +kernel
theorem d_Model_count_8 : decode y_Model_count.2.1 8 = .ok (.istore_n 3, 1) := by decide +kernel
theorem d_Model_count_9 : decode y_Model_count.2.1 9 = .ok (.iload_n 1, 1) := by decide +kernel
theorem d_Model_count_10 : decode y_Model_count.2.1 10 = .ok (.tableswitch 187 0 9 #[54, 59, 64, 69, 74, 79, 84, 84, 141, 141], 54) := by decide +kernel
theorem d_Model_count_64 : decode y_Model_count.2.1 64 = .ok (.aload_n 0, 1) := by decide +kernel
theorem d_Model_count_65 : decode y_Model_count.2.1 65 = .ok (.getfield 104, 3) := by decide +kernel
theorem d_Model_count_68 : decode y_Model_count.2.1 68 = .ok (.ireturn, 1) := by decide +kernel
theorem d_Model_count_69 : decode y_Model_count.2.1 69 = .ok (.aload_n 0, 1) := by decide +kernel
theorem d_Model_count_70 : decode y_Model_count.2.1 70 = .ok (.getfield 78, 3) := by decide +kernel
theorem d_Model_count_73 : decode y_Model_count.2.1 73 = .ok (.ireturn, 1) := by decide +kernel
theorem d_Model_count_74 : decode y_Model_count.2.1 74 = .ok (.aload_n 0, 1) := by decide +kernel
theorem d_Model_count_75 : decode y_Model_count.2.1 75 = .ok (.getfield 91, 3) := by decide +kernel
theorem d_Model_count_78 : decode y_Model_count.2.1 78 = .ok (.ireturn, 1) := by decide +kernel
theorem d_Model_count_79 : decode y_Model_count.2.1 79 = .ok (.aload_n 0, 1) := by decide +kernel
theorem d_Model_count_80 : decode y_Model_count.2.1 80 = .ok (.getfield 94, 3) := by decide +kernel
theorem d_Model_count_83 : decode y_Model_count.2.1 83 = .ok (.ireturn, 1) := by decide +kernel
theorem d_Model_count_84 : decode y_Model_count.2.1 84 = .ok (.aload_n 0, 1) := by decide +kernel
theorem d_Model_count_85 : decode y_Model_count.2.1 85 = .ok (.getfield 97, 3) := by decide +kernel
theorem d_Model_count_88 : decode y_Model_count.2.1 88 = .ok (.ireturn, 1) := by decide +kernel
theorem d_Model_count_89 : decode y_Model_count.2.1 89 = .ok (.aload_n 0, 1) := by decide +kernel
theorem d_Model_count_90 : decode y_Model_count.2.1 90 = .ok (.getfield 88, 3) := by decide +kernel
theorem d_Model_count_93 : decode y_Model_count.2.1 93 = .ok (.ireturn, 1) := by decide +kernel
theorem d_Model_count_94 : decode y_Model_count.2.1 94 = .ok (.iconst 0, 1) := by decide +kernel
theorem d_Model_count_95 : decode y_Model_count.2.1 95 = .ok (.istore 4, 2) := by decide +kernel
theorem d_Model_count_97 : decode y_Model_count.2.1 97 = .ok (.iload 4, 2) := by decide +kernel
theorem d_Model_count_99 : decode y_Model_count.2.1 99 = .ok (.bipush 16, 2) := by decide +kernel
theorem d_Model_count_101 : decode y_Model_count.2.1 101 = .ok (.if_icmp .ge 48, 3) := by decide +kernel
theorem d_Model_count_104 : decode y_Model_count.2.1 104 = .ok (.iload_n 2, 1) := by decide +kernel
theorem d_Model_count_105 : decode y_Model_count.2.1 105 = .ok (.iload_n 1, 1) := by decide +kernel
theorem d_Model_count_106 : decode y_Model_count.2.1 106 = .ok (.bipush 6, 2) := by decide +kernel
theorem d_Model_count_108 : decode y_Model_count.2.1 108 = .ok (.if_icmp .ne 16, 3) := by decide +kernel
theorem d_Model_count_111 : decode y_Model_count.2.1 111 = .ok (.aload_n 0, 1) := by decide +kernel
theorem d_Model_count_112 : decode y_Model_count.2.1 112 = .ok (.getfield 59, 3) := by decide +kernel
theorem d_Model_count_115 : decode y_Model_count.2.1 115 = .ok (.iload 4, 2) := by decide +kernel
theorem d_Model_count_117 : decode y_Model_count.2.1 117 = .ok (.baload, 1) := by decide +kernel
theorem d_Model_count_118 : decode y_Model_count.2.1 118 = .ok (.ifCond .eq 22, 3) := by decide +kernel
theorem d_Model_count_121 : decode y_Model_count.2.1 121 = .ok (.goto 12, 3) := by decide +kernel
theorem d_Model_count_124 : decode y_Model_count.2.1 124 = .ok (.aload_n 0, 1) := by decide +kernel
theorem d_Model_count_125 : decode y_Model_count.2.1 125 = .ok (.iload 4, 2) := by decide +kernel
theorem d_Model_count_127 : decode y_Model_count.2.1 127 = .ok (.invokevirtual 150, 3) := by decide +kernel
theorem d_Model_count_130 : decode y_Model_count.2.1 130 = .ok (.ifCond .eq 10, 3) := by decide +kernel
theorem d_Model_count_133 : decode y_Model_count.2.1 133 = .ok (.iconst 1, 1) := by decide +kernel
theorem d_Model_count_134 : decode y_Model_count.2.1 134 = .ok (.iload 4, 2) := by decide +kernel
theorem d_Model_count_136 : decode y_Model_count.2.1 136 = .ok (.ishl, 1) := by decide +kernel
theorem d_Model_count_137 : decode y_Model_count.2.1 137 = .ok (.goto 4, 3) := by decide +kernel
theorem d_Model_count_140 : decode y_Model_count.2.1 140 = .ok (.iconst 0, 1) := by decide +kernel
theorem d_Model_count_141 : decode y_Model_count.2.1 141 = .ok (.ior, 1) := by decide +kernel
theorem d_Model_count_142 : decode y_Model_count.2.1 142 = .ok (.istore_n 2, 1) := by decide +kernel
theorem d_Model_count_143 : decode y_Model_count.2.1 143 = .ok (.iinc 4 1, 3) := by decide +kernel
theorem d_Model_count_146 : decode y_Model_count.2.1 146 = .ok (.goto (-49), 3) := by decide +kernel
theorem d_Model_count_149 : decode y_Model_count.2.1 149 = .ok (.iload_n 2, 1) := by decide +kernel
theorem d_Model_count_150 : decode y_Model_count.2.1 150 = .ok (.ireturn, 1) := by decide +kernel
theorem d_Model_count_151 : decode y_Model_count.2.1 151 = .ok (.iconst 0, 1) := by decide +kernel
theorem d_Model_count_152 : decode y_Model_count.2.1 152 = .ok (.istore 4, 2) := by decide +kernel
theorem d_Model_count_154 : decode y_Model_count.2.1 154 = .ok (.iload 4, 2) := by decide +kernel
theorem d_Model_count_156 : decode y_Model_count.2.1 156 = .ok (.aload_n 0, 1) := by decide +kernel
theorem d_Model_count_157 : decode y_Model_count.2.1 157 = .ok (.getfield 78, 3) := by decide +kernel
theorem d_Model_count_160 : decode y_Model_count.2.1 160 = .ok (.if_icmp .ge 35, 3) := by decide +kernel
theorem d_Model_count_163 : decode y_Model_count.2.1 163 = .ok (.iload_n 3, 1) := by decide +kernel
theorem d_Model_count_164 : decode y_Model_count.2.1 164 = .ok (.iload_n 1, 1) := by decide +kernel
theorem d_Model_count_165 : decode y_Model_count.2.1 165 = .ok (.bipush 8, 2) := by decide +kernel
theorem d_Model_count_167 : decode y_Model_count.2.1 167 = .ok (.if_icmp .ne 13, 3) := by decide +kernel
theorem d_Model_count_170 : decode y_Model_count.2.1 170 = .ok (.aload_n 0, 1) := by decide +kernel
theorem d_Model_count_171 : decode y_Model_count.2.1 171 = .ok (.getfield 34, 3) := by decide +kernel
theorem d_Model_count_174 : decode y_Model_count.2.1 174 = .ok (.iload 4, 2) := by decide +kernel
theorem d_Model_count_176 : decode y_Model_count.2.1 176 = .ok (.iaload, 1) := by decide +kernel
theorem d_Model_count_177 : decode y_Model_count.2.1 177 = .ok (.goto 10, 3) := by decide +kernel
theorem d_Model_count_180 : decode y_Model_count.2.1 180 = .ok (.aload_n 0, 1) := by decide +kernel
theorem d_Model_count_181 : decode y_Model_count.2.1 181 = .ok (.getfield 40, 3) := by decide +kernel
theorem d_Model_count_184 : decode y_Model_count.2.1 184 = .ok (.iload 4, 2) := by decide +kernel
theorem d_Model_count_186 : decode y_Model_count.2.1 186 = .ok (.iaload, 1) := by decide +kernel
theorem d_Model_count_187 : decode y_Model_count.2.1 187 = .ok (.iadd, 1) := by decide +kernel
theorem d_Model_count_188 : decode y_Model_count.2.1 188 = .ok (.istore_n 3, 1) := by decide +kernel
theorem d_Model_count_189 : decode y_Model_count.2.1 189 = .ok (.iinc 4 1, 3) := by decide +kernel
theorem d_Model_count_192 : decode y_Model_count.2.1 192 = .ok (.goto (-38), 3) := by decide +kernel
theorem d_Model_count_195 : decode y_Model_count.2.1 195 = .ok (.iload_n 3, 1) := by decide +kernel
theorem d_Model_count_196 : decode y_Model_count.2.1 196 = .ok (.ireturn, 1) := by decide +kernel
theorem d_Model_count_197 : decode y_Model_count.2.1 197 = .ok (.iconst (-1), 1) := by decide +kernel
theorem d_Model_count_198 : decode y_Model_count.2.1 198 = .ok (.ireturn, 1) := by decide +kernel
end
section
theorem d_Law_part_0 : decode y_Law_part.2.1 0 = .ok (.aload 6, 2) := by decide +kernel
theorem d_Law_part_2 : decode y_Law_part.2.1 2 = .ok (.iconst 0, 1) := by decide +kernel
theorem d_Law_part_3 : decode y_Law_part.2.1 3 = .ok (.aload_n 0, 1) := by decide +kernel
theorem d_Law_part_4 : decode y_Law_part.2.1 4 = .ok (.iload_n 1, 1) := by decide +kernel
theorem d_Law_part_5 : decode y_Law_part.2.1 5 = .ok (.iload_n 2, 1) := by decide +kernel
theorem d_Law_part_6 : decode y_Law_part.2.1 6 = .ok (.iload_n 3, 1) := by decide +kernel
theorem d_Law_part_7 : decode y_Law_part.2.1 7 = .ok (.iload 4, 2) := by decide +kernel
theorem d_Law_part_9 : decode y_Law_part.2.1 9 = .ok (.iload 5, 2) := by decide +kernel
theorem d_Law_part_11 : decode y_Law_part.2.1 11 = .ok (.invokevirtual 7, 3) := by decide +kernel
theorem d_Law_part_14 : decode y_Law_part.2.1 14 = .ok (.i2l, 1) := by decide +kernel
theorem d_Law_part_15 : decode y_Law_part.2.1 15 = .ok (.lastore, 1) := by decide +kernel
theorem d_Law_part_16 : decode y_Law_part.2.1 16 = .ok (.goto 11, 3) := by decide +kernel
theorem d_Law_part_19 : decode y_Law_part.2.1 19 = .ok (.astore 7, 2) := by decide +kernel
theorem d_Law_part_21 : decode y_Law_part.2.1 21 = .ok (.iconst 1, 1) := by decide +kernel
theorem d_Law_part_22 : decode y_Law_part.2.1 22 = .ok (.ireturn, 1) := by decide +kernel
theorem d_Law_part_23 : decode y_Law_part.2.1 23 = .ok (.astore 7, 2) := by decide +kernel
theorem d_Law_part_25 : decode y_Law_part.2.1 25 = .ok (.iconst 2, 1) := by decide +kernel
theorem d_Law_part_26 : decode y_Law_part.2.1 26 = .ok (.ireturn, 1) := by decide +kernel
theorem d_Law_part_27 : decode y_Law_part.2.1 27 = .ok (.iconst 0, 1) := by decide +kernel
theorem d_Law_part_28 : decode y_Law_part.2.1 28 = .ok (.ireturn, 1) := by decide +kernel
theorem d_Law_load_0 : decode y_Law_load.2.1 0 = .ok (.aload_n 3, 1) := by decide +kernel
theorem d_Law_load_1 : decode y_Law_load.2.1 1 = .ok (.iconst 0, 1) := by decide +kernel
theorem d_Law_load_2 : decode y_Law_load.2.1 2 = .ok (.aload_n 0, 1) := by decide +kernel
theorem d_Law_load_3 : decode y_Law_load.2.1 3 = .ok (.iload_n 1, 1) := by decide +kernel
theorem d_Law_load_4 : decode y_Law_load.2.1 4 = .ok (.iload_n 2, 1) := by decide +kernel
theorem d_Law_load_5 : decode y_Law_load.2.1 5 = .ok (.invokevirtual 17, 3) := by decide +kernel
theorem d_Law_load_8 : decode y_Law_load.2.1 8 = .ok (.i2l, 1) := by decide +kernel
theorem d_Law_load_9 : decode y_Law_load.2.1 9 = .ok (.lastore, 1) := by decide +kernel
theorem d_Law_load_10 : decode y_Law_load.2.1 10 = .ok (.goto 7, 3) := by decide +kernel
theorem d_Law_load_13 : decode y_Law_load.2.1 13 = .ok (.astore 4, 2) := by decide +kernel
theorem d_Law_load_15 : decode y_Law_load.2.1 15 = .ok (.iconst 1, 1) := by decide +kernel
theorem d_Law_load_16 : decode y_Law_load.2.1 16 = .ok (.ireturn, 1) := by decide +kernel
theorem d_Law_load_17 : decode y_Law_load.2.1 17 = .ok (.iconst 0, 1) := by decide +kernel
theorem d_Law_load_18 : decode y_Law_load.2.1 18 = .ok (.ireturn, 1) := by decide +kernel
theorem d_Law_read_0 : decode y_Law_read.2.1 0 = .ok (.aload_n 2, 1) := by decide +kernel
theorem d_Law_read_1 : decode y_Law_read.2.1 1 = .ok (.iconst 0, 1) := by decide +kernel
theorem d_Law_read_2 : decode y_Law_read.2.1 2 = .ok (.aload_n 0, 1) := by decide +kernel
theorem d_Law_read_3 : decode y_Law_read.2.1 3 = .ok (.iload_n 1, 1) := by decide +kernel
theorem d_Law_read_4 : decode y_Law_read.2.1 4 = .ok (.invokevirtual 21, 3) := by decide +kernel
theorem d_Law_read_7 : decode y_Law_read.2.1 7 = .ok (.i2l, 1) := by decide +kernel
theorem d_Law_read_8 : decode y_Law_read.2.1 8 = .ok (.lastore, 1) := by decide +kernel
theorem d_Law_read_9 : decode y_Law_read.2.1 9 = .ok (.goto 9, 3) := by decide +kernel
theorem d_Law_read_12 : decode y_Law_read.2.1 12 = .ok (.astore_n 3, 1) := by decide +kernel
theorem d_Law_read_13 : decode y_Law_read.2.1 13 = .ok (.iconst 1, 1) := by decide +kernel
theorem d_Law_read_14 : decode y_Law_read.2.1 14 = .ok (.ireturn, 1) := by decide +kernel
theorem d_Law_read_15 : decode y_Law_read.2.1 15 = .ok (.astore_n 3, 1) := by decide +kernel
theorem d_Law_read_16 : decode y_Law_read.2.1 16 = .ok (.iconst 2, 1) := by decide +kernel
theorem d_Law_read_17 : decode y_Law_read.2.1 17 = .ok (.ireturn, 1) := by decide +kernel
theorem d_Law_read_18 : decode y_Law_read.2.1 18 = .ok (.iconst 0, 1) := by decide +kernel
theorem d_Law_read_19 : decode y_Law_read.2.1 19 = .ok (.ireturn, 1) := by decide +kernel
theorem d_Law_write_0 : decode y_Law_write.2.1 0 = .ok (.aload_n 3, 1) := by decide +kernel
theorem d_Law_write_1 : decode y_Law_write.2.1 1 = .ok (.iconst 0, 1) := by decide +kernel
theorem d_Law_write_2 : decode y_Law_write.2.1 2 = .ok (.aload_n 0, 1) := by decide +kernel
theorem d_Law_write_3 : decode y_Law_write.2.1 3 = .ok (.iload_n 1, 1) := by decide +kernel
theorem d_Law_write_4 : decode y_Law_write.2.1 4 = .ok (.iload_n 2, 1) := by decide +kernel
theorem d_Law_write_5 : decode y_Law_write.2.1 5 = .ok (.invokevirtual 29, 3) := by decide +kernel
theorem d_Law_write_8 : decode y_Law_write.2.1 8 = .ok (.i2l, 1) := by decide +kernel
theorem d_Law_write_9 : decode y_Law_write.2.1 9 = .ok (.lastore, 1) := by decide +kernel
theorem d_Law_write_10 : decode y_Law_write.2.1 10 = .ok (.goto 11, 3) := by decide +kernel
theorem d_Law_write_13 : decode y_Law_write.2.1 13 = .ok (.astore 4, 2) := by decide +kernel
theorem d_Law_write_15 : decode y_Law_write.2.1 15 = .ok (.iconst 1, 1) := by decide +kernel
theorem d_Law_write_16 : decode y_Law_write.2.1 16 = .ok (.ireturn, 1) := by decide +kernel
theorem d_Law_write_17 : decode y_Law_write.2.1 17 = .ok (.astore 4, 2) := by decide +kernel
theorem d_Law_write_19 : decode y_Law_write.2.1 19 = .ok (.iconst 2, 1) := by decide +kernel
theorem d_Law_write_20 : decode y_Law_write.2.1 20 = .ok (.ireturn, 1) := by decide +kernel
theorem d_Law_write_21 : decode y_Law_write.2.1 21 = .ok (.iconst 0, 1) := by decide +kernel
theorem d_Law_write_22 : decode y_Law_write.2.1 22 = .ok (.ireturn, 1) := by decide +kernel
theorem d_Law_step_0 : decode y_Law_step.2.1 0 = .ok (.aload_n 2, 1) := by decide +kernel
theorem d_Law_step_1 : decode y_Law_step.2.1 1 = .ok (.iconst 0, 1) := by decide +kernel
theorem d_Law_step_2 : decode y_Law_step.2.1 2 = .ok (.aload_n 0, 1) := by decide +kernel
theorem d_Law_step_3 : decode y_Law_step.2.1 3 = .ok (.iload_n 1, 1) := by decide +kernel
theorem d_Law_step_4 : decode y_Law_step.2.1 4 = .ok (.invokevirtual 32, 3) := by decide +kernel
theorem d_Law_step_7 : decode y_Law_step.2.1 7 = .ok (.ifCond .eq 7, 3) := by decide +kernel
theorem d_Law_step_10 : decode y_Law_step.2.1 10 = .ok (.lconst 1, 1) := by decide +kernel
theorem d_Law_step_11 : decode y_Law_step.2.1 11 = .ok (.goto 4, 3) := by decide +kernel
theorem d_Law_step_14 : decode y_Law_step.2.1 14 = .ok (.lconst 0, 1) := by decide +kernel
theorem d_Law_step_15 : decode y_Law_step.2.1 15 = .ok (.lastore, 1) := by decide +kernel
theorem d_Law_step_16 : decode y_Law_step.2.1 16 = .ok (.goto 6, 3) := by decide +kernel
theorem d_Law_step_19 : decode y_Law_step.2.1 19 = .ok (.astore_n 3, 1) := by decide +kernel
theorem d_Law_step_20 : decode y_Law_step.2.1 20 = .ok (.iconst 1, 1) := by decide +kernel
theorem d_Law_step_21 : decode y_Law_step.2.1 21 = .ok (.ireturn, 1) := by decide +kernel
theorem d_Law_step_22 : decode y_Law_step.2.1 22 = .ok (.iconst 0, 1) := by decide +kernel
theorem d_Law_step_23 : decode y_Law_step.2.1 23 = .ok (.ireturn, 1) := by decide +kernel
theorem d_Law_receive_0 : decode y_Law_receive.2.1 0 = .ok (.aload_n 3, 1) := by decide +kernel
theorem d_Law_receive_1 : decode y_Law_receive.2.1 1 = .ok (.iconst 0, 1) := by decide +kernel
theorem d_Law_receive_2 : decode y_Law_receive.2.1 2 = .ok (.aload_n 0, 1) := by decide +kernel
theorem d_Law_receive_3 : decode y_Law_receive.2.1 3 = .ok (.iload_n 1, 1) := by decide +kernel
theorem d_Law_receive_4 : decode y_Law_receive.2.1 4 = .ok (.iload_n 2, 1) := by decide +kernel
theorem d_Law_receive_5 : decode y_Law_receive.2.1 5 = .ok (.invokevirtual 36, 3) := by decide +kernel
theorem d_Law_receive_8 : decode y_Law_receive.2.1 8 = .ok (.i2l, 1) := by decide +kernel
theorem d_Law_receive_9 : decode y_Law_receive.2.1 9 = .ok (.lastore, 1) := by decide +kernel
theorem d_Law_receive_10 : decode y_Law_receive.2.1 10 = .ok (.goto 11, 3) := by decide +kernel
theorem d_Law_receive_13 : decode y_Law_receive.2.1 13 = .ok (.astore 4, 2) := by decide +kernel
theorem d_Law_receive_15 : decode y_Law_receive.2.1 15 = .ok (.iconst 1, 1) := by decide +kernel
theorem d_Law_receive_16 : decode y_Law_receive.2.1 16 = .ok (.ireturn, 1) := by decide +kernel
theorem d_Law_receive_17 : decode y_Law_receive.2.1 17 = .ok (.astore 4, 2) := by decide +kernel
theorem d_Law_receive_19 : decode y_Law_receive.2.1 19 = .ok (.iconst 2, 1) := by decide +kernel
theorem d_Law_receive_20 : decode y_Law_receive.2.1 20 = .ok (.ireturn, 1) := by decide +kernel
theorem d_Law_receive_21 : decode y_Law_receive.2.1 21 = .ok (.iconst 0, 1) := by decide +kernel
theorem d_Law_receive_22 : decode y_Law_receive.2.1 22 = .ok (.ireturn, 1) := by decide +kernel
theorem d_Law_sent_0 : decode y_Law_sent.2.1 0 = .ok (.aload_n 3, 1) := by decide +kernel
theorem d_Law_sent_1 : decode y_Law_sent.2.1 1 = .ok (.iconst 0, 1) := by decide +kernel
theorem d_Law_sent_2 : decode y_Law_sent.2.1 2 = .ok (.aload_n 0, 1) := by decide +kernel
theorem d_Law_sent_3 : decode y_Law_sent.2.1 3 = .ok (.iload_n 1, 1) := by decide +kernel
theorem d_Law_sent_4 : decode y_Law_sent.2.1 4 = .ok (.iload_n 2, 1) := by decide +kernel
theorem d_Law_sent_5 : decode y_Law_sent.2.1 5 = .ok (.invokevirtual 39, 3) := by decide +kernel
theorem d_Law_sent_8 : decode y_Law_sent.2.1 8 = .ok (.i2l, 1) := by decide +kernel
theorem d_Law_sent_9 : decode y_Law_sent.2.1 9 = .ok (.lastore, 1) := by decide +kernel
theorem d_Law_sent_10 : decode y_Law_sent.2.1 10 = .ok (.goto 11, 3) := by decide +kernel
theorem d_Law_sent_13 : decode y_Law_sent.2.1 13 = .ok (.astore 4, 2) := by decide +kernel
theorem d_Law_sent_15 : decode y_Law_sent.2.1 15 = .ok (.iconst 1, 1) := by decide +kernel
theorem d_Law_sent_16 : decode y_Law_sent.2.1 16 = .ok (.ireturn, 1) := by decide +kernel
theorem d_Law_sent_17 : decode y_Law_sent.2.1 17 = .ok (.astore 4, 2) := by decide +kernel
theorem d_Law_sent_19 : decode y_Law_sent.2.1 19 = .ok (.iconst 2, 1) := by decide +kernel
theorem d_Law_sent_20 : decode y_Law_sent.2.1 20 = .ok (.ireturn, 1) := by decide +kernel
theorem d_Law_sent_21 : decode y_Law_sent.2.1 21 = .ok (.iconst 0, 1) := by decide +kernel
theorem d_Law_sent_22 : decode y_Law_sent.2.1 22 = .ok (.ireturn, 1) := by decide +kernel
theorem d_Law_line_0 : decode y_Law_line.2.1 0 = .ok (.aload 4, 2) := by decide +kernel
theorem d_Law_line_2 : decode y_Law_line.2.1 2 = .ok (.iconst 0, 1) := by decide +kernel
theorem d_Law_line_3 : decode y_Law_line.2.1 3 = .ok (.aload_n 0, 1) := by decide +kernel
theorem d_Law_line_4 : decode y_Law_line.2.1 4 = .ok (.iload_n 1, 1) := by decide +kernel
theorem d_Law_line_5 : decode y_Law_line.2.1 5 = .ok (.iload_n 2, 1) := by decide +kernel
theorem d_Law_line_6 : decode y_Law_line.2.1 6 = .ok (.iload_n 3, 1) := by decide +kernel
theorem d_Law_line_7 : decode y_Law_line.2.1 7 = .ok (.invokevirtual 42, 3) := by decide +kernel
theorem d_Law_line_10 : decode y_Law_line.2.1 10 = .ok (.i2l, 1) := by decide +kernel
theorem d_Law_line_11 : decode y_Law_line.2.1 11 = .ok (.lastore, 1) := by decide +kernel
theorem d_Law_line_12 : decode y_Law_line.2.1 12 = .ok (.goto 11, 3) := by decide +kernel
theorem d_Law_line_15 : decode y_Law_line.2.1 15 = .ok (.astore 5, 2) := by decide +kernel
theorem d_Law_line_17 : decode y_Law_line.2.1 17 = .ok (.iconst 1, 1) := by decide +kernel
theorem d_Law_line_18 : decode y_Law_line.2.1 18 = .ok (.ireturn, 1) := by decide +kernel
theorem d_Law_line_19 : decode y_Law_line.2.1 19 = .ok (.astore 5, 2) := by decide +kernel
theorem d_Law_line_21 : decode y_Law_line.2.1 21 = .ok (.iconst 2, 1) := by decide +kernel
theorem d_Law_line_22 : decode y_Law_line.2.1 22 = .ok (.ireturn, 1) := by decide +kernel
theorem d_Law_line_23 : decode y_Law_line.2.1 23 = .ok (.iconst 0, 1) := by decide +kernel
theorem d_Law_line_24 : decode y_Law_line.2.1 24 = .ok (.ireturn, 1) := by decide +kernel
theorem d_Law_asks_0 : decode y_Law_asks.2.1 0 = .ok (.aload_n 2, 1) := by decide +kernel
theorem d_Law_asks_1 : decode y_Law_asks.2.1 1 = .ok (.iconst 0, 1) := by decide +kernel
theorem d_Law_asks_2 : decode y_Law_asks.2.1 2 = .ok (.aload_n 0, 1) := by decide +kernel
theorem d_Law_asks_3 : decode y_Law_asks.2.1 3 = .ok (.iload_n 1, 1) := by decide +kernel
theorem d_Law_asks_4 : decode y_Law_asks.2.1 4 = .ok (.invokevirtual 46, 3) := by decide +kernel
theorem d_Law_asks_7 : decode y_Law_asks.2.1 7 = .ok (.i2l, 1) := by decide +kernel
theorem d_Law_asks_8 : decode y_Law_asks.2.1 8 = .ok (.lastore, 1) := by decide +kernel
theorem d_Law_asks_9 : decode y_Law_asks.2.1 9 = .ok (.goto 6, 3) := by decide +kernel
theorem d_Law_asks_12 : decode y_Law_asks.2.1 12 = .ok (.astore_n 3, 1) := by decide +kernel
theorem d_Law_asks_13 : decode y_Law_asks.2.1 13 = .ok (.iconst 1, 1) := by decide +kernel
theorem d_Law_asks_14 : decode y_Law_asks.2.1 14 = .ok (.ireturn, 1) := by decide +kernel
theorem d_Law_asks_15 : decode y_Law_asks.2.1 15 = .ok (.iconst 0, 1) := by decide +kernel
theorem d_Law_asks_16 : decode y_Law_asks.2.1 16 = .ok (.ireturn, 1) := by decide +kernel
theorem d_Law_law_0 : decode y_Law_law.2.1 0 = .ok (.new 8, 3) := by decide +kernel
theorem d_Law_law_3 : decode y_Law_law.2.1 3 = .ok (.dup, 1) := by decide +kernel
theorem d_Law_law_4 : decode y_Law_law.2.1 4 = .ok (.invokespecial 49, 3) := by decide +kernel
theorem d_Law_law_7 : decode y_Law_law.2.1 7 = .ok (.astore_n 1, 1) := by decide +kernel
theorem d_Law_law_8 : decode y_Law_law.2.1 8 = .ok (.new 50, 3) := by decide +kernel
theorem d_Law_law_11 : decode y_Law_law.2.1 11 = .ok (.dup, 1) := by decide +kernel
theorem d_Law_law_12 : decode y_Law_law.2.1 12 = .ok (.invokespecial 52, 3) := by decide +kernel
theorem d_Law_law_15 : decode y_Law_law.2.1 15 = .ok (.astore_n 2, 1) := by decide +kernel
theorem d_Law_law_16 : decode y_Law_law.2.1 16 = .ok (.iconst 1, 1) := by decide +kernel
theorem d_Law_law_17 : decode y_Law_law.2.1 17 = .ok (.newarray .long, 2) := by decide +kernel
theorem d_Law_law_19 : decode y_Law_law.2.1 19 = .ok (.astore_n 3, 1) := by decide +kernel
theorem d_Law_law_20 : decode y_Law_law.2.1 20 = .ok (.iconst 0, 1) := by decide +kernel
theorem d_Law_law_21 : decode y_Law_law.2.1 21 = .ok (.istore 4, 2) := by decide +kernel
theorem d_Law_law_23 : decode y_Law_law.2.1 23 = .ok (.iload 4, 2) := by decide +kernel
theorem d_Law_law_25 : decode y_Law_law.2.1 25 = .ok (.aload_n 0, 1) := by decide +kernel
theorem d_Law_law_26 : decode y_Law_law.2.1 26 = .ok (.arraylength, 1) := by decide +kernel
theorem d_Law_law_27 : decode y_Law_law.2.1 27 = .ok (.bipush 6, 2) := by decide +kernel
theorem d_Law_law_29 : decode y_Law_law.2.1 29 = .ok (.isub, 1) := by decide +kernel
theorem d_Law_law_30 : decode y_Law_law.2.1 30 = .ok (.if_icmp .gt 779, 3) := by decide +kernel
theorem d_Law_law_33 : decode y_Law_law.2.1 33 = .ok (.aload_n 0, 1) := by decide +kernel
theorem d_Law_law_34 : decode y_Law_law.2.1 34 = .ok (.iload 4, 2) := by decide +kernel
theorem d_Law_law_36 : decode y_Law_law.2.1 36 = .ok (.iaload, 1) := by decide +kernel
theorem d_Law_law_37 : decode y_Law_law.2.1 37 = .ok (.bipush 15, 2) := by decide +kernel
theorem d_Law_law_39 : decode y_Law_law.2.1 39 = .ok (.iand, 1) := by decide +kernel
theorem d_Law_law_40 : decode y_Law_law.2.1 40 = .ok (.tableswitch 763 0 12 #[68, 172, 240, 296, 364, 427, 495, 563, 643, 699, 712, 725, 738], 68) := by decide +kernel
theorem d_Law_law_108 : decode y_Law_law.2.1 108 = .ok (.aload_n 1, 1) := by decide +kernel
theorem d_Law_law_109 : decode y_Law_law.2.1 109 = .ok (.aload_n 0, 1) := by decide +kernel
theorem d_Law_law_110 : decode y_Law_law.2.1 110 = .ok (.iload 4, 2) := by decide +kernel
theorem d_Law_law_112 : decode y_Law_law.2.1 112 = .ok (.iconst 1, 1) := by decide +kernel
theorem d_Law_law_113 : decode y_Law_law.2.1 113 = .ok (.iadd, 1) := by decide +kernel
theorem d_Law_law_114 : decode y_Law_law.2.1 114 = .ok (.iaload, 1) := by decide +kernel
theorem d_Law_law_115 : decode y_Law_law.2.1 115 = .ok (.aload_n 0, 1) := by decide +kernel
theorem d_Law_law_116 : decode y_Law_law.2.1 116 = .ok (.iload 4, 2) := by decide +kernel
theorem d_Law_law_118 : decode y_Law_law.2.1 118 = .ok (.iconst 2, 1) := by decide +kernel
theorem d_Law_law_119 : decode y_Law_law.2.1 119 = .ok (.iadd, 1) := by decide +kernel
theorem d_Law_law_120 : decode y_Law_law.2.1 120 = .ok (.iaload, 1) := by decide +kernel
theorem d_Law_law_121 : decode y_Law_law.2.1 121 = .ok (.aload_n 0, 1) := by decide +kernel
theorem d_Law_law_122 : decode y_Law_law.2.1 122 = .ok (.iload 4, 2) := by decide +kernel
theorem d_Law_law_124 : decode y_Law_law.2.1 124 = .ok (.iconst 3, 1) := by decide +kernel
theorem d_Law_law_125 : decode y_Law_law.2.1 125 = .ok (.iadd, 1) := by decide +kernel
theorem d_Law_law_126 : decode y_Law_law.2.1 126 = .ok (.iaload, 1) := by decide +kernel
theorem d_Law_law_127 : decode y_Law_law.2.1 127 = .ok (.aload_n 0, 1) := by decide +kernel
theorem d_Law_law_128 : decode y_Law_law.2.1 128 = .ok (.iload 4, 2) := by decide +kernel
theorem d_Law_law_130 : decode y_Law_law.2.1 130 = .ok (.iconst 4, 1) := by decide +kernel
theorem d_Law_law_131 : decode y_Law_law.2.1 131 = .ok (.iadd, 1) := by decide +kernel
theorem d_Law_law_132 : decode y_Law_law.2.1 132 = .ok (.iaload, 1) := by decide +kernel
theorem d_Law_law_133 : decode y_Law_law.2.1 133 = .ok (.aload_n 0, 1) := by decide +kernel
theorem d_Law_law_134 : decode y_Law_law.2.1 134 = .ok (.iload 4, 2) := by decide +kernel
theorem d_Law_law_136 : decode y_Law_law.2.1 136 = .ok (.iconst 5, 1) := by decide +kernel
theorem d_Law_law_137 : decode y_Law_law.2.1 137 = .ok (.iadd, 1) := by decide +kernel
theorem d_Law_law_138 : decode y_Law_law.2.1 138 = .ok (.iaload, 1) := by decide +kernel
theorem d_Law_law_139 : decode y_Law_law.2.1 139 = .ok (.aload_n 3, 1) := by decide +kernel
theorem d_Law_law_140 : decode y_Law_law.2.1 140 = .ok (.invokestatic 53, 3) := by decide +kernel
theorem d_Law_law_143 : decode y_Law_law.2.1 143 = .ok (.istore 5, 2) := by decide +kernel
theorem d_Law_law_145 : decode y_Law_law.2.1 145 = .ok (.aload_n 2, 1) := by decide +kernel
theorem d_Law_law_146 : decode y_Law_law.2.1 146 = .ok (.aload_n 0, 1) := by decide +kernel
theorem d_Law_law_147 : decode y_Law_law.2.1 147 = .ok (.iload 4, 2) := by decide +kernel
theorem d_Law_law_149 : decode y_Law_law.2.1 149 = .ok (.iconst 1, 1) := by decide +kernel
theorem d_Law_law_150 : decode y_Law_law.2.1 150 = .ok (.iadd, 1) := by decide +kernel
theorem d_Law_law_151 : decode y_Law_law.2.1 151 = .ok (.iaload, 1) := by decide +kernel
theorem d_Law_law_152 : decode y_Law_law.2.1 152 = .ok (.aload_n 0, 1) := by decide +kernel
theorem d_Law_law_153 : decode y_Law_law.2.1 153 = .ok (.iload 4, 2) := by decide +kernel
theorem d_Law_law_155 : decode y_Law_law.2.1 155 = .ok (.iconst 2, 1) := by decide +kernel
theorem d_Law_law_156 : decode y_Law_law.2.1 156 = .ok (.iadd, 1) := by decide +kernel
theorem d_Law_law_157 : decode y_Law_law.2.1 157 = .ok (.iaload, 1) := by decide +kernel
theorem d_Law_law_158 : decode y_Law_law.2.1 158 = .ok (.aload_n 0, 1) := by decide +kernel
theorem d_Law_law_159 : decode y_Law_law.2.1 159 = .ok (.iload 4, 2) := by decide +kernel
theorem d_Law_law_161 : decode y_Law_law.2.1 161 = .ok (.iconst 3, 1) := by decide +kernel
theorem d_Law_law_162 : decode y_Law_law.2.1 162 = .ok (.iadd, 1) := by decide +kernel
theorem d_Law_law_163 : decode y_Law_law.2.1 163 = .ok (.iaload, 1) := by decide +kernel
theorem d_Law_law_164 : decode y_Law_law.2.1 164 = .ok (.aload_n 0, 1) := by decide +kernel
theorem d_Law_law_165 : decode y_Law_law.2.1 165 = .ok (.iload 4, 2) := by decide +kernel
theorem d_Law_law_167 : decode y_Law_law.2.1 167 = .ok (.iconst 4, 1) := by decide +kernel
theorem d_Law_law_168 : decode y_Law_law.2.1 168 = .ok (.iadd, 1) := by decide +kernel
theorem d_Law_law_169 : decode y_Law_law.2.1 169 = .ok (.iaload, 1) := by decide +kernel
theorem d_Law_law_170 : decode y_Law_law.2.1 170 = .ok (.aload_n 0, 1) := by decide +kernel
theorem d_Law_law_171 : decode y_Law_law.2.1 171 = .ok (.iload 4, 2) := by decide +kernel
theorem d_Law_law_173 : decode y_Law_law.2.1 173 = .ok (.iconst 5, 1) := by decide +kernel
theorem d_Law_law_174 : decode y_Law_law.2.1 174 = .ok (.iadd, 1) := by decide +kernel
theorem d_Law_law_175 : decode y_Law_law.2.1 175 = .ok (.iaload, 1) := by decide +kernel
theorem d_Law_law_176 : decode y_Law_law.2.1 176 = .ok (.invokevirtual 58, 3) := by decide +kernel
theorem d_Law_law_179 : decode y_Law_law.2.1 179 = .ok (.istore 6, 2) := by decide +kernel
theorem d_Law_law_181 : decode y_Law_law.2.1 181 = .ok (.aload_n 2, 1) := by decide +kernel
theorem d_Law_law_182 : decode y_Law_law.2.1 182 = .ok (.invokevirtual 59, 3) := by decide +kernel
theorem d_Law_law_185 : decode y_Law_law.2.1 185 = .ok (.iload 5, 2) := by decide +kernel
theorem d_Law_law_187 : decode y_Law_law.2.1 187 = .ok (.if_icmp .eq 5, 3) := by decide +kernel
theorem d_Law_law_190 : decode y_Law_law.2.1 190 = .ok (.iconst 0, 1) := by decide +kernel
theorem d_Law_law_191 : decode y_Law_law.2.1 191 = .ok (.ireturn, 1) := by decide +kernel
theorem d_Law_law_192 : decode y_Law_law.2.1 192 = .ok (.iload 5, 2) := by decide +kernel
theorem d_Law_law_194 : decode y_Law_law.2.1 194 = .ok (.ifCond .ne 15, 3) := by decide +kernel
theorem d_Law_law_197 : decode y_Law_law.2.1 197 = .ok (.aload_n 3, 1) := by decide +kernel
theorem d_Law_law_198 : decode y_Law_law.2.1 198 = .ok (.iconst 0, 1) := by decide +kernel
theorem d_Law_law_199 : decode y_Law_law.2.1 199 = .ok (.laload, 1) := by decide +kernel
theorem d_Law_law_200 : decode y_Law_law.2.1 200 = .ok (.iload 6, 2) := by decide +kernel
theorem d_Law_law_202 : decode y_Law_law.2.1 202 = .ok (.i2l, 1) := by decide +kernel
theorem d_Law_law_203 : decode y_Law_law.2.1 203 = .ok (.lcmp, 1) := by decide +kernel
theorem d_Law_law_204 : decode y_Law_law.2.1 204 = .ok (.ifCond .eq 5, 3) := by decide +kernel
theorem d_Law_law_207 : decode y_Law_law.2.1 207 = .ok (.iconst 0, 1) := by decide +kernel
theorem d_Law_law_208 : decode y_Law_law.2.1 208 = .ok (.ireturn, 1) := by decide +kernel
theorem d_Law_law_209 : decode y_Law_law.2.1 209 = .ok (.goto 594, 3) := by decide +kernel
theorem d_Law_law_212 : decode y_Law_law.2.1 212 = .ok (.aload_n 1, 1) := by decide +kernel
theorem d_Law_law_213 : decode y_Law_law.2.1 213 = .ok (.aload_n 0, 1) := by decide +kernel
theorem d_Law_law_214 : decode y_Law_law.2.1 214 = .ok (.iload 4, 2) := by decide +kernel
theorem d_Law_law_216 : decode y_Law_law.2.1 216 = .ok (.iconst 1, 1) := by decide +kernel
theorem d_Law_law_217 : decode y_Law_law.2.1 217 = .ok (.iadd, 1) := by decide +kernel
theorem d_Law_law_218 : decode y_Law_law.2.1 218 = .ok (.iaload, 1) := by decide +kernel
theorem d_Law_law_219 : decode y_Law_law.2.1 219 = .ok (.aload_n 0, 1) := by decide +kernel
theorem d_Law_law_220 : decode y_Law_law.2.1 220 = .ok (.iload 4, 2) := by decide +kernel
theorem d_Law_law_222 : decode y_Law_law.2.1 222 = .ok (.iconst 2, 1) := by decide +kernel
theorem d_Law_law_223 : decode y_Law_law.2.1 223 = .ok (.iadd, 1) := by decide +kernel
theorem d_Law_law_224 : decode y_Law_law.2.1 224 = .ok (.iaload, 1) := by decide +kernel
theorem d_Law_law_225 : decode y_Law_law.2.1 225 = .ok (.aload_n 3, 1) := by decide +kernel
theorem d_Law_law_226 : decode y_Law_law.2.1 226 = .ok (.invokestatic 63, 3) := by decide +kernel
theorem d_Law_law_229 : decode y_Law_law.2.1 229 = .ok (.istore 5, 2) := by decide +kernel
theorem d_Law_law_231 : decode y_Law_law.2.1 231 = .ok (.aload_n 2, 1) := by decide +kernel
theorem d_Law_law_232 : decode y_Law_law.2.1 232 = .ok (.aload_n 0, 1) := by decide +kernel
theorem d_Law_law_233 : decode y_Law_law.2.1 233 = .ok (.iload 4, 2) := by decide +kernel
theorem d_Law_law_235 : decode y_Law_law.2.1 235 = .ok (.iconst 1, 1) := by decide +kernel
theorem d_Law_law_236 : decode y_Law_law.2.1 236 = .ok (.iadd, 1) := by decide +kernel
theorem d_Law_law_237 : decode y_Law_law.2.1 237 = .ok (.iaload, 1) := by decide +kernel
theorem d_Law_law_238 : decode y_Law_law.2.1 238 = .ok (.aload_n 0, 1) := by decide +kernel
theorem d_Law_law_239 : decode y_Law_law.2.1 239 = .ok (.iload 4, 2) := by decide +kernel
theorem d_Law_law_241 : decode y_Law_law.2.1 241 = .ok (.iconst 2, 1) := by decide +kernel
theorem d_Law_law_242 : decode y_Law_law.2.1 242 = .ok (.iadd, 1) := by decide +kernel
theorem d_Law_law_243 : decode y_Law_law.2.1 243 = .ok (.iaload, 1) := by decide +kernel
theorem d_Law_law_244 : decode y_Law_law.2.1 244 = .ok (.invokevirtual 66, 3) := by decide +kernel
theorem d_Law_law_247 : decode y_Law_law.2.1 247 = .ok (.istore 6, 2) := by decide +kernel
theorem d_Law_law_249 : decode y_Law_law.2.1 249 = .ok (.aload_n 2, 1) := by decide +kernel
theorem d_Law_law_250 : decode y_Law_law.2.1 250 = .ok (.invokevirtual 59, 3) := by decide +kernel
theorem d_Law_law_253 : decode y_Law_law.2.1 253 = .ok (.iload 5, 2) := by decide +kernel
theorem d_Law_law_255 : decode y_Law_law.2.1 255 = .ok (.if_icmp .eq 5, 3) := by decide +kernel
theorem d_Law_law_258 : decode y_Law_law.2.1 258 = .ok (.iconst 0, 1) := by decide +kernel
theorem d_Law_law_259 : decode y_Law_law.2.1 259 = .ok (.ireturn, 1) := by decide +kernel
theorem d_Law_law_260 : decode y_Law_law.2.1 260 = .ok (.iload 5, 2) := by decide +kernel
theorem d_Law_law_262 : decode y_Law_law.2.1 262 = .ok (.ifCond .ne 15, 3) := by decide +kernel
theorem d_Law_law_265 : decode y_Law_law.2.1 265 = .ok (.aload_n 3, 1) := by decide +kernel
theorem d_Law_law_266 : decode y_Law_law.2.1 266 = .ok (.iconst 0, 1) := by decide +kernel
theorem d_Law_law_267 : decode y_Law_law.2.1 267 = .ok (.laload, 1) := by decide +kernel
theorem d_Law_law_268 : decode y_Law_law.2.1 268 = .ok (.iload 6, 2) := by decide +kernel
theorem d_Law_law_270 : decode y_Law_law.2.1 270 = .ok (.i2l, 1) := by decide +kernel
theorem d_Law_law_271 : decode y_Law_law.2.1 271 = .ok (.lcmp, 1) := by decide +kernel
theorem d_Law_law_272 : decode y_Law_law.2.1 272 = .ok (.ifCond .eq 5, 3) := by decide +kernel
theorem d_Law_law_275 : decode y_Law_law.2.1 275 = .ok (.iconst 0, 1) := by decide +kernel
theorem d_Law_law_276 : decode y_Law_law.2.1 276 = .ok (.ireturn, 1) := by decide +kernel
theorem d_Law_law_277 : decode y_Law_law.2.1 277 = .ok (.goto 526, 3) := by decide +kernel
theorem d_Law_law_280 : decode y_Law_law.2.1 280 = .ok (.aload_n 1, 1) := by decide +kernel
theorem d_Law_law_281 : decode y_Law_law.2.1 281 = .ok (.aload_n 0, 1) := by decide +kernel
theorem d_Law_law_282 : decode y_Law_law.2.1 282 = .ok (.iload 4, 2) := by decide +kernel
theorem d_Law_law_284 : decode y_Law_law.2.1 284 = .ok (.iconst 1, 1) := by decide +kernel
theorem d_Law_law_285 : decode y_Law_law.2.1 285 = .ok (.iadd, 1) := by decide +kernel
theorem d_Law_law_286 : decode y_Law_law.2.1 286 = .ok (.iaload, 1) := by decide +kernel
theorem d_Law_law_287 : decode y_Law_law.2.1 287 = .ok (.aload_n 3, 1) := by decide +kernel
theorem d_Law_law_288 : decode y_Law_law.2.1 288 = .ok (.invokestatic 67, 3) := by decide +kernel
theorem d_Law_law_291 : decode y_Law_law.2.1 291 = .ok (.istore 5, 2) := by decide +kernel
theorem d_Law_law_293 : decode y_Law_law.2.1 293 = .ok (.aload_n 2, 1) := by decide +kernel
theorem d_Law_law_294 : decode y_Law_law.2.1 294 = .ok (.aload_n 0, 1) := by decide +kernel
theorem d_Law_law_295 : decode y_Law_law.2.1 295 = .ok (.iload 4, 2) := by decide +kernel
theorem d_Law_law_297 : decode y_Law_law.2.1 297 = .ok (.iconst 1, 1) := by decide +kernel
theorem d_Law_law_298 : decode y_Law_law.2.1 298 = .ok (.iadd, 1) := by decide +kernel
theorem d_Law_law_299 : decode y_Law_law.2.1 299 = .ok (.iaload, 1) := by decide +kernel
theorem d_Law_law_300 : decode y_Law_law.2.1 300 = .ok (.invokevirtual 70, 3) := by decide +kernel
theorem d_Law_law_303 : decode y_Law_law.2.1 303 = .ok (.istore 6, 2) := by decide +kernel
theorem d_Law_law_305 : decode y_Law_law.2.1 305 = .ok (.aload_n 2, 1) := by decide +kernel
theorem d_Law_law_306 : decode y_Law_law.2.1 306 = .ok (.invokevirtual 59, 3) := by decide +kernel
theorem d_Law_law_309 : decode y_Law_law.2.1 309 = .ok (.iload 5, 2) := by decide +kernel
theorem d_Law_law_311 : decode y_Law_law.2.1 311 = .ok (.if_icmp .eq 5, 3) := by decide +kernel
theorem d_Law_law_314 : decode y_Law_law.2.1 314 = .ok (.iconst 0, 1) := by decide +kernel
theorem d_Law_law_315 : decode y_Law_law.2.1 315 = .ok (.ireturn, 1) := by decide +kernel
theorem d_Law_law_316 : decode y_Law_law.2.1 316 = .ok (.iload 5, 2) := by decide +kernel
theorem d_Law_law_318 : decode y_Law_law.2.1 318 = .ok (.ifCond .ne 15, 3) := by decide +kernel
theorem d_Law_law_321 : decode y_Law_law.2.1 321 = .ok (.aload_n 3, 1) := by decide +kernel
theorem d_Law_law_322 : decode y_Law_law.2.1 322 = .ok (.iconst 0, 1) := by decide +kernel
theorem d_Law_law_323 : decode y_Law_law.2.1 323 = .ok (.laload, 1) := by decide +kernel
theorem d_Law_law_324 : decode y_Law_law.2.1 324 = .ok (.iload 6, 2) := by decide +kernel
theorem d_Law_law_326 : decode y_Law_law.2.1 326 = .ok (.i2l, 1) := by decide +kernel
theorem d_Law_law_327 : decode y_Law_law.2.1 327 = .ok (.lcmp, 1) := by decide +kernel
theorem d_Law_law_328 : decode y_Law_law.2.1 328 = .ok (.ifCond .eq 5, 3) := by decide +kernel
theorem d_Law_law_331 : decode y_Law_law.2.1 331 = .ok (.iconst 0, 1) := by decide +kernel
theorem d_Law_law_332 : decode y_Law_law.2.1 332 = .ok (.ireturn, 1) := by decide +kernel
theorem d_Law_law_333 : decode y_Law_law.2.1 333 = .ok (.goto 470, 3) := by decide +kernel
theorem d_Law_law_336 : decode y_Law_law.2.1 336 = .ok (.aload_n 1, 1) := by decide +kernel
theorem d_Law_law_337 : decode y_Law_law.2.1 337 = .ok (.aload_n 0, 1) := by decide +kernel
theorem d_Law_law_338 : decode y_Law_law.2.1 338 = .ok (.iload 4, 2) := by decide +kernel
theorem d_Law_law_340 : decode y_Law_law.2.1 340 = .ok (.iconst 1, 1) := by decide +kernel
theorem d_Law_law_341 : decode y_Law_law.2.1 341 = .ok (.iadd, 1) := by decide +kernel
theorem d_Law_law_342 : decode y_Law_law.2.1 342 = .ok (.iaload, 1) := by decide +kernel
theorem d_Law_law_343 : decode y_Law_law.2.1 343 = .ok (.aload_n 0, 1) := by decide +kernel
theorem d_Law_law_344 : decode y_Law_law.2.1 344 = .ok (.iload 4, 2) := by decide +kernel
theorem d_Law_law_346 : decode y_Law_law.2.1 346 = .ok (.iconst 2, 1) := by decide +kernel
theorem d_Law_law_347 : decode y_Law_law.2.1 347 = .ok (.iadd, 1) := by decide +kernel
theorem d_Law_law_348 : decode y_Law_law.2.1 348 = .ok (.iaload, 1) := by decide +kernel
theorem d_Law_law_349 : decode y_Law_law.2.1 349 = .ok (.aload_n 3, 1) := by decide +kernel
theorem d_Law_law_350 : decode y_Law_law.2.1 350 = .ok (.invokestatic 71, 3) := by decide +kernel
theorem d_Law_law_353 : decode y_Law_law.2.1 353 = .ok (.istore 5, 2) := by decide +kernel
theorem d_Law_law_355 : decode y_Law_law.2.1 355 = .ok (.aload_n 2, 1) := by decide +kernel
theorem d_Law_law_356 : decode y_Law_law.2.1 356 = .ok (.aload_n 0, 1) := by decide +kernel
theorem d_Law_law_357 : decode y_Law_law.2.1 357 = .ok (.iload 4, 2) := by decide +kernel
theorem d_Law_law_359 : decode y_Law_law.2.1 359 = .ok (.iconst 1, 1) := by decide +kernel
theorem d_Law_law_360 : decode y_Law_law.2.1 360 = .ok (.iadd, 1) := by decide +kernel
theorem d_Law_law_361 : decode y_Law_law.2.1 361 = .ok (.iaload, 1) := by decide +kernel
theorem d_Law_law_362 : decode y_Law_law.2.1 362 = .ok (.aload_n 0, 1) := by decide +kernel
theorem d_Law_law_363 : decode y_Law_law.2.1 363 = .ok (.iload 4, 2) := by decide +kernel
theorem d_Law_law_365 : decode y_Law_law.2.1 365 = .ok (.iconst 2, 1) := by decide +kernel
theorem d_Law_law_366 : decode y_Law_law.2.1 366 = .ok (.iadd, 1) := by decide +kernel
theorem d_Law_law_367 : decode y_Law_law.2.1 367 = .ok (.iaload, 1) := by decide +kernel
theorem d_Law_law_368 : decode y_Law_law.2.1 368 = .ok (.invokevirtual 73, 3) := by decide +kernel
theorem d_Law_law_371 : decode y_Law_law.2.1 371 = .ok (.istore 6, 2) := by decide +kernel
theorem d_Law_law_373 : decode y_Law_law.2.1 373 = .ok (.aload_n 2, 1) := by decide +kernel
theorem d_Law_law_374 : decode y_Law_law.2.1 374 = .ok (.invokevirtual 59, 3) := by decide +kernel
theorem d_Law_law_377 : decode y_Law_law.2.1 377 = .ok (.iload 5, 2) := by decide +kernel
theorem d_Law_law_379 : decode y_Law_law.2.1 379 = .ok (.if_icmp .eq 5, 3) := by decide +kernel
theorem d_Law_law_382 : decode y_Law_law.2.1 382 = .ok (.iconst 0, 1) := by decide +kernel
theorem d_Law_law_383 : decode y_Law_law.2.1 383 = .ok (.ireturn, 1) := by decide +kernel
theorem d_Law_law_384 : decode y_Law_law.2.1 384 = .ok (.iload 5, 2) := by decide +kernel
theorem d_Law_law_386 : decode y_Law_law.2.1 386 = .ok (.ifCond .ne 15, 3) := by decide +kernel
theorem d_Law_law_389 : decode y_Law_law.2.1 389 = .ok (.aload_n 3, 1) := by decide +kernel
theorem d_Law_law_390 : decode y_Law_law.2.1 390 = .ok (.iconst 0, 1) := by decide +kernel
theorem d_Law_law_391 : decode y_Law_law.2.1 391 = .ok (.laload, 1) := by decide +kernel
theorem d_Law_law_392 : decode y_Law_law.2.1 392 = .ok (.iload 6, 2) := by decide +kernel
theorem d_Law_law_394 : decode y_Law_law.2.1 394 = .ok (.i2l, 1) := by decide +kernel
theorem d_Law_law_395 : decode y_Law_law.2.1 395 = .ok (.lcmp, 1) := by decide +kernel
theorem d_Law_law_396 : decode y_Law_law.2.1 396 = .ok (.ifCond .eq 5, 3) := by decide +kernel
theorem d_Law_law_399 : decode y_Law_law.2.1 399 = .ok (.iconst 0, 1) := by decide +kernel
theorem d_Law_law_400 : decode y_Law_law.2.1 400 = .ok (.ireturn, 1) := by decide +kernel
theorem d_Law_law_401 : decode y_Law_law.2.1 401 = .ok (.goto 402, 3) := by decide +kernel
theorem d_Law_law_404 : decode y_Law_law.2.1 404 = .ok (.aload_n 1, 1) := by decide +kernel
theorem d_Law_law_405 : decode y_Law_law.2.1 405 = .ok (.aload_n 0, 1) := by decide +kernel
theorem d_Law_law_406 : decode y_Law_law.2.1 406 = .ok (.iload 4, 2) := by decide +kernel
theorem d_Law_law_408 : decode y_Law_law.2.1 408 = .ok (.iconst 1, 1) := by decide +kernel
theorem d_Law_law_409 : decode y_Law_law.2.1 409 = .ok (.iadd, 1) := by decide +kernel
theorem d_Law_law_410 : decode y_Law_law.2.1 410 = .ok (.iaload, 1) := by decide +kernel
theorem d_Law_law_411 : decode y_Law_law.2.1 411 = .ok (.aload_n 3, 1) := by decide +kernel
theorem d_Law_law_412 : decode y_Law_law.2.1 412 = .ok (.invokestatic 74, 3) := by decide +kernel
theorem d_Law_law_415 : decode y_Law_law.2.1 415 = .ok (.istore 5, 2) := by decide +kernel
theorem d_Law_law_417 : decode y_Law_law.2.1 417 = .ok (.aload_n 2, 1) := by decide +kernel
theorem d_Law_law_418 : decode y_Law_law.2.1 418 = .ok (.aload_n 0, 1) := by decide +kernel
theorem d_Law_law_419 : decode y_Law_law.2.1 419 = .ok (.iload 4, 2) := by decide +kernel
theorem d_Law_law_421 : decode y_Law_law.2.1 421 = .ok (.iconst 1, 1) := by decide +kernel
theorem d_Law_law_422 : decode y_Law_law.2.1 422 = .ok (.iadd, 1) := by decide +kernel
theorem d_Law_law_423 : decode y_Law_law.2.1 423 = .ok (.iaload, 1) := by decide +kernel
theorem d_Law_law_424 : decode y_Law_law.2.1 424 = .ok (.invokevirtual 76, 3) := by decide +kernel
theorem d_Law_law_427 : decode y_Law_law.2.1 427 = .ok (.istore 6, 2) := by decide +kernel
theorem d_Law_law_429 : decode y_Law_law.2.1 429 = .ok (.aload_n 2, 1) := by decide +kernel
theorem d_Law_law_430 : decode y_Law_law.2.1 430 = .ok (.invokevirtual 59, 3) := by decide +kernel
theorem d_Law_law_433 : decode y_Law_law.2.1 433 = .ok (.iload 5, 2) := by decide +kernel
theorem d_Law_law_435 : decode y_Law_law.2.1 435 = .ok (.if_icmp .eq 5, 3) := by decide +kernel
theorem d_Law_law_438 : decode y_Law_law.2.1 438 = .ok (.iconst 0, 1) := by decide +kernel
theorem d_Law_law_439 : decode y_Law_law.2.1 439 = .ok (.ireturn, 1) := by decide +kernel
theorem d_Law_law_440 : decode y_Law_law.2.1 440 = .ok (.iload 5, 2) := by decide +kernel
theorem d_Law_law_442 : decode y_Law_law.2.1 442 = .ok (.ifCond .ne 22, 3) := by decide +kernel
theorem d_Law_law_445 : decode y_Law_law.2.1 445 = .ok (.aload_n 3, 1) := by decide +kernel
theorem d_Law_law_446 : decode y_Law_law.2.1 446 = .ok (.iconst 0, 1) := by decide +kernel
theorem d_Law_law_447 : decode y_Law_law.2.1 447 = .ok (.laload, 1) := by decide +kernel
theorem d_Law_law_448 : decode y_Law_law.2.1 448 = .ok (.iload 6, 2) := by decide +kernel
theorem d_Law_law_450 : decode y_Law_law.2.1 450 = .ok (.ifCond .eq 7, 3) := by decide +kernel
theorem d_Law_law_453 : decode y_Law_law.2.1 453 = .ok (.lconst 1, 1) := by decide +kernel
theorem d_Law_law_454 : decode y_Law_law.2.1 454 = .ok (.goto 4, 3) := by decide +kernel
theorem d_Law_law_457 : decode y_Law_law.2.1 457 = .ok (.lconst 0, 1) := by decide +kernel
theorem d_Law_law_458 : decode y_Law_law.2.1 458 = .ok (.lcmp, 1) := by decide +kernel
theorem d_Law_law_459 : decode y_Law_law.2.1 459 = .ok (.ifCond .eq 5, 3) := by decide +kernel
theorem d_Law_law_462 : decode y_Law_law.2.1 462 = .ok (.iconst 0, 1) := by decide +kernel
theorem d_Law_law_463 : decode y_Law_law.2.1 463 = .ok (.ireturn, 1) := by decide +kernel
theorem d_Law_law_464 : decode y_Law_law.2.1 464 = .ok (.goto 339, 3) := by decide +kernel
theorem d_Law_law_467 : decode y_Law_law.2.1 467 = .ok (.aload_n 1, 1) := by decide +kernel
theorem d_Law_law_468 : decode y_Law_law.2.1 468 = .ok (.aload_n 0, 1) := by decide +kernel
theorem d_Law_law_469 : decode y_Law_law.2.1 469 = .ok (.iload 4, 2) := by decide +kernel
theorem d_Law_law_471 : decode y_Law_law.2.1 471 = .ok (.iconst 1, 1) := by decide +kernel
theorem d_Law_law_472 : decode y_Law_law.2.1 472 = .ok (.iadd, 1) := by decide +kernel
theorem d_Law_law_473 : decode y_Law_law.2.1 473 = .ok (.iaload, 1) := by decide +kernel
theorem d_Law_law_474 : decode y_Law_law.2.1 474 = .ok (.aload_n 0, 1) := by decide +kernel
theorem d_Law_law_475 : decode y_Law_law.2.1 475 = .ok (.iload 4, 2) := by decide +kernel
theorem d_Law_law_477 : decode y_Law_law.2.1 477 = .ok (.iconst 2, 1) := by decide +kernel
theorem d_Law_law_478 : decode y_Law_law.2.1 478 = .ok (.iadd, 1) := by decide +kernel
theorem d_Law_law_479 : decode y_Law_law.2.1 479 = .ok (.iaload, 1) := by decide +kernel
theorem d_Law_law_480 : decode y_Law_law.2.1 480 = .ok (.aload_n 3, 1) := by decide +kernel
theorem d_Law_law_481 : decode y_Law_law.2.1 481 = .ok (.invokestatic 77, 3) := by decide +kernel
theorem d_Law_law_484 : decode y_Law_law.2.1 484 = .ok (.istore 5, 2) := by decide +kernel
theorem d_Law_law_486 : decode y_Law_law.2.1 486 = .ok (.aload_n 2, 1) := by decide +kernel
theorem d_Law_law_487 : decode y_Law_law.2.1 487 = .ok (.aload_n 0, 1) := by decide +kernel
theorem d_Law_law_488 : decode y_Law_law.2.1 488 = .ok (.iload 4, 2) := by decide +kernel
theorem d_Law_law_490 : decode y_Law_law.2.1 490 = .ok (.iconst 1, 1) := by decide +kernel
theorem d_Law_law_491 : decode y_Law_law.2.1 491 = .ok (.iadd, 1) := by decide +kernel
theorem d_Law_law_492 : decode y_Law_law.2.1 492 = .ok (.iaload, 1) := by decide +kernel
theorem d_Law_law_493 : decode y_Law_law.2.1 493 = .ok (.aload_n 0, 1) := by decide +kernel
theorem d_Law_law_494 : decode y_Law_law.2.1 494 = .ok (.iload 4, 2) := by decide +kernel
theorem d_Law_law_496 : decode y_Law_law.2.1 496 = .ok (.iconst 2, 1) := by decide +kernel
theorem d_Law_law_497 : decode y_Law_law.2.1 497 = .ok (.iadd, 1) := by decide +kernel
theorem d_Law_law_498 : decode y_Law_law.2.1 498 = .ok (.iaload, 1) := by decide +kernel
theorem d_Law_law_499 : decode y_Law_law.2.1 499 = .ok (.invokevirtual 79, 3) := by decide +kernel
theorem d_Law_law_502 : decode y_Law_law.2.1 502 = .ok (.istore 6, 2) := by decide +kernel
theorem d_Law_law_504 : decode y_Law_law.2.1 504 = .ok (.aload_n 2, 1) := by decide +kernel
theorem d_Law_law_505 : decode y_Law_law.2.1 505 = .ok (.invokevirtual 59, 3) := by decide +kernel
theorem d_Law_law_508 : decode y_Law_law.2.1 508 = .ok (.iload 5, 2) := by decide +kernel
theorem d_Law_law_510 : decode y_Law_law.2.1 510 = .ok (.if_icmp .eq 5, 3) := by decide +kernel
theorem d_Law_law_513 : decode y_Law_law.2.1 513 = .ok (.iconst 0, 1) := by decide +kernel
theorem d_Law_law_514 : decode y_Law_law.2.1 514 = .ok (.ireturn, 1) := by decide +kernel
theorem d_Law_law_515 : decode y_Law_law.2.1 515 = .ok (.iload 5, 2) := by decide +kernel
theorem d_Law_law_517 : decode y_Law_law.2.1 517 = .ok (.ifCond .ne 15, 3) := by decide +kernel
theorem d_Law_law_520 : decode y_Law_law.2.1 520 = .ok (.aload_n 3, 1) := by decide +kernel
theorem d_Law_law_521 : decode y_Law_law.2.1 521 = .ok (.iconst 0, 1) := by decide +kernel
theorem d_Law_law_522 : decode y_Law_law.2.1 522 = .ok (.laload, 1) := by decide +kernel
theorem d_Law_law_523 : decode y_Law_law.2.1 523 = .ok (.iload 6, 2) := by decide +kernel
theorem d_Law_law_525 : decode y_Law_law.2.1 525 = .ok (.i2l, 1) := by decide +kernel
theorem d_Law_law_526 : decode y_Law_law.2.1 526 = .ok (.lcmp, 1) := by decide +kernel
theorem d_Law_law_527 : decode y_Law_law.2.1 527 = .ok (.ifCond .eq 5, 3) := by decide +kernel
theorem d_Law_law_530 : decode y_Law_law.2.1 530 = .ok (.iconst 0, 1) := by decide +kernel
theorem d_Law_law_531 : decode y_Law_law.2.1 531 = .ok (.ireturn, 1) := by decide +kernel
theorem d_Law_law_532 : decode y_Law_law.2.1 532 = .ok (.goto 271, 3) := by decide +kernel
theorem d_Law_law_535 : decode y_Law_law.2.1 535 = .ok (.aload_n 1, 1) := by decide +kernel
theorem d_Law_law_536 : decode y_Law_law.2.1 536 = .ok (.aload_n 0, 1) := by decide +kernel
theorem d_Law_law_537 : decode y_Law_law.2.1 537 = .ok (.iload 4, 2) := by decide +kernel
theorem d_Law_law_539 : decode y_Law_law.2.1 539 = .ok (.iconst 1, 1) := by decide +kernel
theorem d_Law_law_540 : decode y_Law_law.2.1 540 = .ok (.iadd, 1) := by decide +kernel
theorem d_Law_law_541 : decode y_Law_law.2.1 541 = .ok (.iaload, 1) := by decide +kernel
theorem d_Law_law_542 : decode y_Law_law.2.1 542 = .ok (.aload_n 0, 1) := by decide +kernel
theorem d_Law_law_543 : decode y_Law_law.2.1 543 = .ok (.iload 4, 2) := by decide +kernel
theorem d_Law_law_545 : decode y_Law_law.2.1 545 = .ok (.iconst 2, 1) := by decide +kernel
theorem d_Law_law_546 : decode y_Law_law.2.1 546 = .ok (.iadd, 1) := by decide +kernel
theorem d_Law_law_547 : decode y_Law_law.2.1 547 = .ok (.iaload, 1) := by decide +kernel
theorem d_Law_law_548 : decode y_Law_law.2.1 548 = .ok (.aload_n 3, 1) := by decide +kernel
theorem d_Law_law_549 : decode y_Law_law.2.1 549 = .ok (.invokestatic 80, 3) := by decide +kernel
theorem d_Law_law_552 : decode y_Law_law.2.1 552 = .ok (.istore 5, 2) := by decide +kernel
theorem d_Law_law_554 : decode y_Law_law.2.1 554 = .ok (.aload_n 2, 1) := by decide +kernel
theorem d_Law_law_555 : decode y_Law_law.2.1 555 = .ok (.aload_n 0, 1) := by decide +kernel
theorem d_Law_law_556 : decode y_Law_law.2.1 556 = .ok (.iload 4, 2) := by decide +kernel
theorem d_Law_law_558 : decode y_Law_law.2.1 558 = .ok (.iconst 1, 1) := by decide +kernel
theorem d_Law_law_559 : decode y_Law_law.2.1 559 = .ok (.iadd, 1) := by decide +kernel
theorem d_Law_law_560 : decode y_Law_law.2.1 560 = .ok (.iaload, 1) := by decide +kernel
theorem d_Law_law_561 : decode y_Law_law.2.1 561 = .ok (.aload_n 0, 1) := by decide +kernel
theorem d_Law_law_562 : decode y_Law_law.2.1 562 = .ok (.iload 4, 2) := by decide +kernel
theorem d_Law_law_564 : decode y_Law_law.2.1 564 = .ok (.iconst 2, 1) := by decide +kernel
theorem d_Law_law_565 : decode y_Law_law.2.1 565 = .ok (.iadd, 1) := by decide +kernel
theorem d_Law_law_566 : decode y_Law_law.2.1 566 = .ok (.iaload, 1) := by decide +kernel
theorem d_Law_law_567 : decode y_Law_law.2.1 567 = .ok (.invokevirtual 82, 3) := by decide +kernel
theorem d_Law_law_570 : decode y_Law_law.2.1 570 = .ok (.istore 6, 2) := by decide +kernel
theorem d_Law_law_572 : decode y_Law_law.2.1 572 = .ok (.aload_n 2, 1) := by decide +kernel
theorem d_Law_law_573 : decode y_Law_law.2.1 573 = .ok (.invokevirtual 59, 3) := by decide +kernel
theorem d_Law_law_576 : decode y_Law_law.2.1 576 = .ok (.iload 5, 2) := by decide +kernel
theorem d_Law_law_578 : decode y_Law_law.2.1 578 = .ok (.if_icmp .eq 5, 3) := by decide +kernel
theorem d_Law_law_581 : decode y_Law_law.2.1 581 = .ok (.iconst 0, 1) := by decide +kernel
theorem d_Law_law_582 : decode y_Law_law.2.1 582 = .ok (.ireturn, 1) := by decide +kernel
theorem d_Law_law_583 : decode y_Law_law.2.1 583 = .ok (.iload 5, 2) := by decide +kernel
theorem d_Law_law_585 : decode y_Law_law.2.1 585 = .ok (.ifCond .ne 15, 3) := by decide +kernel
theorem d_Law_law_588 : decode y_Law_law.2.1 588 = .ok (.aload_n 3, 1) := by decide +kernel
theorem d_Law_law_589 : decode y_Law_law.2.1 589 = .ok (.iconst 0, 1) := by decide +kernel
theorem d_Law_law_590 : decode y_Law_law.2.1 590 = .ok (.laload, 1) := by decide +kernel
theorem d_Law_law_591 : decode y_Law_law.2.1 591 = .ok (.iload 6, 2) := by decide +kernel
theorem d_Law_law_593 : decode y_Law_law.2.1 593 = .ok (.i2l, 1) := by decide +kernel
theorem d_Law_law_594 : decode y_Law_law.2.1 594 = .ok (.lcmp, 1) := by decide +kernel
theorem d_Law_law_595 : decode y_Law_law.2.1 595 = .ok (.ifCond .eq 5, 3) := by decide +kernel
theorem d_Law_law_598 : decode y_Law_law.2.1 598 = .ok (.iconst 0, 1) := by decide +kernel
theorem d_Law_law_599 : decode y_Law_law.2.1 599 = .ok (.ireturn, 1) := by decide +kernel
theorem d_Law_law_600 : decode y_Law_law.2.1 600 = .ok (.goto 203, 3) := by decide +kernel
theorem d_Law_law_603 : decode y_Law_law.2.1 603 = .ok (.aload_n 1, 1) := by decide +kernel
theorem d_Law_law_604 : decode y_Law_law.2.1 604 = .ok (.aload_n 0, 1) := by decide +kernel
theorem d_Law_law_605 : decode y_Law_law.2.1 605 = .ok (.iload 4, 2) := by decide +kernel
theorem d_Law_law_607 : decode y_Law_law.2.1 607 = .ok (.iconst 1, 1) := by decide +kernel
theorem d_Law_law_608 : decode y_Law_law.2.1 608 = .ok (.iadd, 1) := by decide +kernel
theorem d_Law_law_609 : decode y_Law_law.2.1 609 = .ok (.iaload, 1) := by decide +kernel
theorem d_Law_law_610 : decode y_Law_law.2.1 610 = .ok (.aload_n 0, 1) := by decide +kernel
theorem d_Law_law_611 : decode y_Law_law.2.1 611 = .ok (.iload 4, 2) := by decide +kernel
theorem d_Law_law_613 : decode y_Law_law.2.1 613 = .ok (.iconst 2, 1) := by decide +kernel
theorem d_Law_law_614 : decode y_Law_law.2.1 614 = .ok (.iadd, 1) := by decide +kernel
theorem d_Law_law_615 : decode y_Law_law.2.1 615 = .ok (.iaload, 1) := by decide +kernel
theorem d_Law_law_616 : decode y_Law_law.2.1 616 = .ok (.aload_n 0, 1) := by decide +kernel
theorem d_Law_law_617 : decode y_Law_law.2.1 617 = .ok (.iload 4, 2) := by decide +kernel
theorem d_Law_law_619 : decode y_Law_law.2.1 619 = .ok (.iconst 3, 1) := by decide +kernel
theorem d_Law_law_620 : decode y_Law_law.2.1 620 = .ok (.iadd, 1) := by decide +kernel
theorem d_Law_law_621 : decode y_Law_law.2.1 621 = .ok (.iaload, 1) := by decide +kernel
theorem d_Law_law_622 : decode y_Law_law.2.1 622 = .ok (.aload_n 3, 1) := by decide +kernel
theorem d_Law_law_623 : decode y_Law_law.2.1 623 = .ok (.invokestatic 83, 3) := by decide +kernel
theorem d_Law_law_626 : decode y_Law_law.2.1 626 = .ok (.istore 5, 2) := by decide +kernel
theorem d_Law_law_628 : decode y_Law_law.2.1 628 = .ok (.aload_n 2, 1) := by decide +kernel
theorem d_Law_law_629 : decode y_Law_law.2.1 629 = .ok (.aload_n 0, 1) := by decide +kernel
theorem d_Law_law_630 : decode y_Law_law.2.1 630 = .ok (.iload 4, 2) := by decide +kernel
theorem d_Law_law_632 : decode y_Law_law.2.1 632 = .ok (.iconst 1, 1) := by decide +kernel
theorem d_Law_law_633 : decode y_Law_law.2.1 633 = .ok (.iadd, 1) := by decide +kernel
theorem d_Law_law_634 : decode y_Law_law.2.1 634 = .ok (.iaload, 1) := by decide +kernel
theorem d_Law_law_635 : decode y_Law_law.2.1 635 = .ok (.aload_n 0, 1) := by decide +kernel
theorem d_Law_law_636 : decode y_Law_law.2.1 636 = .ok (.iload 4, 2) := by decide +kernel
theorem d_Law_law_638 : decode y_Law_law.2.1 638 = .ok (.iconst 2, 1) := by decide +kernel
theorem d_Law_law_639 : decode y_Law_law.2.1 639 = .ok (.iadd, 1) := by decide +kernel
theorem d_Law_law_640 : decode y_Law_law.2.1 640 = .ok (.iaload, 1) := by decide +kernel
theorem d_Law_law_641 : decode y_Law_law.2.1 641 = .ok (.aload_n 0, 1) := by decide +kernel
theorem d_Law_law_642 : decode y_Law_law.2.1 642 = .ok (.iload 4, 2) := by decide +kernel
theorem d_Law_law_644 : decode y_Law_law.2.1 644 = .ok (.iconst 3, 1) := by decide +kernel
theorem d_Law_law_645 : decode y_Law_law.2.1 645 = .ok (.iadd, 1) := by decide +kernel
theorem d_Law_law_646 : decode y_Law_law.2.1 646 = .ok (.iaload, 1) := by decide +kernel
theorem d_Law_law_647 : decode y_Law_law.2.1 647 = .ok (.invokevirtual 86, 3) := by decide +kernel
theorem d_Law_law_650 : decode y_Law_law.2.1 650 = .ok (.istore 6, 2) := by decide +kernel
theorem d_Law_law_652 : decode y_Law_law.2.1 652 = .ok (.aload_n 2, 1) := by decide +kernel
theorem d_Law_law_653 : decode y_Law_law.2.1 653 = .ok (.invokevirtual 59, 3) := by decide +kernel
theorem d_Law_law_656 : decode y_Law_law.2.1 656 = .ok (.iload 5, 2) := by decide +kernel
theorem d_Law_law_658 : decode y_Law_law.2.1 658 = .ok (.if_icmp .eq 5, 3) := by decide +kernel
theorem d_Law_law_661 : decode y_Law_law.2.1 661 = .ok (.iconst 0, 1) := by decide +kernel
theorem d_Law_law_662 : decode y_Law_law.2.1 662 = .ok (.ireturn, 1) := by decide +kernel
theorem d_Law_law_663 : decode y_Law_law.2.1 663 = .ok (.iload 5, 2) := by decide +kernel
theorem d_Law_law_665 : decode y_Law_law.2.1 665 = .ok (.ifCond .ne 15, 3) := by decide +kernel
theorem d_Law_law_668 : decode y_Law_law.2.1 668 = .ok (.aload_n 3, 1) := by decide +kernel
theorem d_Law_law_669 : decode y_Law_law.2.1 669 = .ok (.iconst 0, 1) := by decide +kernel
theorem d_Law_law_670 : decode y_Law_law.2.1 670 = .ok (.laload, 1) := by decide +kernel
theorem d_Law_law_671 : decode y_Law_law.2.1 671 = .ok (.iload 6, 2) := by decide +kernel
theorem d_Law_law_673 : decode y_Law_law.2.1 673 = .ok (.i2l, 1) := by decide +kernel
theorem d_Law_law_674 : decode y_Law_law.2.1 674 = .ok (.lcmp, 1) := by decide +kernel
theorem d_Law_law_675 : decode y_Law_law.2.1 675 = .ok (.ifCond .eq 5, 3) := by decide +kernel
theorem d_Law_law_678 : decode y_Law_law.2.1 678 = .ok (.iconst 0, 1) := by decide +kernel
theorem d_Law_law_679 : decode y_Law_law.2.1 679 = .ok (.ireturn, 1) := by decide +kernel
theorem d_Law_law_680 : decode y_Law_law.2.1 680 = .ok (.goto 123, 3) := by decide +kernel
theorem d_Law_law_683 : decode y_Law_law.2.1 683 = .ok (.aload_n 1, 1) := by decide +kernel
theorem d_Law_law_684 : decode y_Law_law.2.1 684 = .ok (.aload_n 0, 1) := by decide +kernel
theorem d_Law_law_685 : decode y_Law_law.2.1 685 = .ok (.iload 4, 2) := by decide +kernel
theorem d_Law_law_687 : decode y_Law_law.2.1 687 = .ok (.iconst 1, 1) := by decide +kernel
theorem d_Law_law_688 : decode y_Law_law.2.1 688 = .ok (.iadd, 1) := by decide +kernel
theorem d_Law_law_689 : decode y_Law_law.2.1 689 = .ok (.iaload, 1) := by decide +kernel
theorem d_Law_law_690 : decode y_Law_law.2.1 690 = .ok (.aload_n 3, 1) := by decide +kernel
theorem d_Law_law_691 : decode y_Law_law.2.1 691 = .ok (.invokestatic 87, 3) := by decide +kernel
theorem d_Law_law_694 : decode y_Law_law.2.1 694 = .ok (.istore 5, 2) := by decide +kernel
theorem d_Law_law_696 : decode y_Law_law.2.1 696 = .ok (.aload_n 2, 1) := by decide +kernel
theorem d_Law_law_697 : decode y_Law_law.2.1 697 = .ok (.aload_n 0, 1) := by decide +kernel
theorem d_Law_law_698 : decode y_Law_law.2.1 698 = .ok (.iload 4, 2) := by decide +kernel
theorem d_Law_law_700 : decode y_Law_law.2.1 700 = .ok (.iconst 1, 1) := by decide +kernel
theorem d_Law_law_701 : decode y_Law_law.2.1 701 = .ok (.iadd, 1) := by decide +kernel
theorem d_Law_law_702 : decode y_Law_law.2.1 702 = .ok (.iaload, 1) := by decide +kernel
theorem d_Law_law_703 : decode y_Law_law.2.1 703 = .ok (.invokevirtual 89, 3) := by decide +kernel
theorem d_Law_law_706 : decode y_Law_law.2.1 706 = .ok (.istore 6, 2) := by decide +kernel
theorem d_Law_law_708 : decode y_Law_law.2.1 708 = .ok (.aload_n 2, 1) := by decide +kernel
theorem d_Law_law_709 : decode y_Law_law.2.1 709 = .ok (.invokevirtual 59, 3) := by decide +kernel
theorem d_Law_law_712 : decode y_Law_law.2.1 712 = .ok (.iload 5, 2) := by decide +kernel
theorem d_Law_law_714 : decode y_Law_law.2.1 714 = .ok (.if_icmp .eq 5, 3) := by decide +kernel
theorem d_Law_law_717 : decode y_Law_law.2.1 717 = .ok (.iconst 0, 1) := by decide +kernel
theorem d_Law_law_718 : decode y_Law_law.2.1 718 = .ok (.ireturn, 1) := by decide +kernel
theorem d_Law_law_719 : decode y_Law_law.2.1 719 = .ok (.iload 5, 2) := by decide +kernel
theorem d_Law_law_721 : decode y_Law_law.2.1 721 = .ok (.ifCond .ne 15, 3) := by decide +kernel
theorem d_Law_law_724 : decode y_Law_law.2.1 724 = .ok (.aload_n 3, 1) := by decide +kernel
theorem d_Law_law_725 : decode y_Law_law.2.1 725 = .ok (.iconst 0, 1) := by decide +kernel
theorem d_Law_law_726 : decode y_Law_law.2.1 726 = .ok (.laload, 1) := by decide +kernel
theorem d_Law_law_727 : decode y_Law_law.2.1 727 = .ok (.iload 6, 2) := by decide +kernel
theorem d_Law_law_729 : decode y_Law_law.2.1 729 = .ok (.i2l, 1) := by decide +kernel
theorem d_Law_law_730 : decode y_Law_law.2.1 730 = .ok (.lcmp, 1) := by decide +kernel
theorem d_Law_law_731 : decode y_Law_law.2.1 731 = .ok (.ifCond .eq 5, 3) := by decide +kernel
theorem d_Law_law_734 : decode y_Law_law.2.1 734 = .ok (.iconst 0, 1) := by decide +kernel
theorem d_Law_law_735 : decode y_Law_law.2.1 735 = .ok (.ireturn, 1) := by decide +kernel
theorem d_Law_law_736 : decode y_Law_law.2.1 736 = .ok (.goto 67, 3) := by decide +kernel
theorem d_Law_law_739 : decode y_Law_law.2.1 739 = .ok (.aload_n 1, 1) := by decide +kernel
theorem d_Law_law_740 : decode y_Law_law.2.1 740 = .ok (.invokevirtual 90, 3) := by decide +kernel
theorem d_Law_law_743 : decode y_Law_law.2.1 743 = .ok (.aload_n 2, 1) := by decide +kernel
theorem d_Law_law_744 : decode y_Law_law.2.1 744 = .ok (.invokevirtual 93, 3) := by decide +kernel
theorem d_Law_law_747 : decode y_Law_law.2.1 747 = .ok (.if_icmp .eq 56, 3) := by decide +kernel
theorem d_Law_law_750 : decode y_Law_law.2.1 750 = .ok (.iconst 0, 1) := by decide +kernel
theorem d_Law_law_751 : decode y_Law_law.2.1 751 = .ok (.ireturn, 1) := by decide +kernel
theorem d_Law_law_752 : decode y_Law_law.2.1 752 = .ok (.aload_n 1, 1) := by decide +kernel
theorem d_Law_law_753 : decode y_Law_law.2.1 753 = .ok (.invokevirtual 94, 3) := by decide +kernel
theorem d_Law_law_756 : decode y_Law_law.2.1 756 = .ok (.aload_n 2, 1) := by decide +kernel
theorem d_Law_law_757 : decode y_Law_law.2.1 757 = .ok (.invokevirtual 97, 3) := by decide +kernel
theorem d_Law_law_760 : decode y_Law_law.2.1 760 = .ok (.if_icmp .eq 43, 3) := by decide +kernel
theorem d_Law_law_763 : decode y_Law_law.2.1 763 = .ok (.iconst 0, 1) := by decide +kernel
theorem d_Law_law_764 : decode y_Law_law.2.1 764 = .ok (.ireturn, 1) := by decide +kernel
theorem d_Law_law_765 : decode y_Law_law.2.1 765 = .ok (.aload_n 1, 1) := by decide +kernel
theorem d_Law_law_766 : decode y_Law_law.2.1 766 = .ok (.invokevirtual 98, 3) := by decide +kernel
theorem d_Law_law_769 : decode y_Law_law.2.1 769 = .ok (.aload_n 2, 1) := by decide +kernel
theorem d_Law_law_770 : decode y_Law_law.2.1 770 = .ok (.invokevirtual 101, 3) := by decide +kernel
theorem d_Law_law_773 : decode y_Law_law.2.1 773 = .ok (.if_icmp .eq 30, 3) := by decide +kernel
theorem d_Law_law_776 : decode y_Law_law.2.1 776 = .ok (.iconst 0, 1) := by decide +kernel
theorem d_Law_law_777 : decode y_Law_law.2.1 777 = .ok (.ireturn, 1) := by decide +kernel
theorem d_Law_law_778 : decode y_Law_law.2.1 778 = .ok (.aload_n 1, 1) := by decide +kernel
theorem d_Law_law_779 : decode y_Law_law.2.1 779 = .ok (.aload_n 0, 1) := by decide +kernel
theorem d_Law_law_780 : decode y_Law_law.2.1 780 = .ok (.iload 4, 2) := by decide +kernel
theorem d_Law_law_782 : decode y_Law_law.2.1 782 = .ok (.iconst 1, 1) := by decide +kernel
theorem d_Law_law_783 : decode y_Law_law.2.1 783 = .ok (.iadd, 1) := by decide +kernel
theorem d_Law_law_784 : decode y_Law_law.2.1 784 = .ok (.iaload, 1) := by decide +kernel
theorem d_Law_law_785 : decode y_Law_law.2.1 785 = .ok (.invokevirtual 102, 3) := by decide +kernel
theorem d_Law_law_788 : decode y_Law_law.2.1 788 = .ok (.aload_n 2, 1) := by decide +kernel
theorem d_Law_law_789 : decode y_Law_law.2.1 789 = .ok (.aload_n 0, 1) := by decide +kernel
theorem d_Law_law_790 : decode y_Law_law.2.1 790 = .ok (.iload 4, 2) := by decide +kernel
theorem d_Law_law_792 : decode y_Law_law.2.1 792 = .ok (.iconst 1, 1) := by decide +kernel
theorem d_Law_law_793 : decode y_Law_law.2.1 793 = .ok (.iadd, 1) := by decide +kernel
theorem d_Law_law_794 : decode y_Law_law.2.1 794 = .ok (.iaload, 1) := by decide +kernel
theorem d_Law_law_795 : decode y_Law_law.2.1 795 = .ok (.invokevirtual 105, 3) := by decide +kernel
theorem d_Law_law_798 : decode y_Law_law.2.1 798 = .ok (.if_icmp .eq 5, 3) := by decide +kernel
theorem d_Law_law_801 : decode y_Law_law.2.1 801 = .ok (.iconst 0, 1) := by decide +kernel
theorem d_Law_law_802 : decode y_Law_law.2.1 802 = .ok (.ireturn, 1) := by decide +kernel
theorem d_Law_law_803 : decode y_Law_law.2.1 803 = .ok (.iinc 4 6, 3) := by decide +kernel
theorem d_Law_law_806 : decode y_Law_law.2.1 806 = .ok (.goto (-783), 3) := by decide +kernel
theorem d_Law_law_809 : decode y_Law_law.2.1 809 = .ok (.iconst 1, 1) := by decide +kernel
theorem d_Law_law_810 : decode y_Law_law.2.1 810 = .ok (.ireturn, 1) := by decide +kernel
end
section
set_option maxRecDepth 100000 in
theorem mp_0 : Cond.selects "SystemParts" ⟨"SystemParts", "resetAll", "(I)V"⟩ ⟨"SystemParts", "resetAll", "(I)V"⟩ ∈ lw_tbl := List.mem_of_getElem? (i := 0) (by decide +kernel)
set_option maxRecDepth 100000 in
theorem mp_1 : Cond.selects "SystemParts" ⟨"SystemParts", "allWaiting", "()I"⟩ ⟨"SystemParts", "allWaiting", "()I"⟩ ∈ lw_tbl := List.mem_of_getElem? (i := 1) (by decide +kernel)
set_option maxRecDepth 100000 in
theorem mp_2 : Cond.selects "SystemParts" ⟨"SystemParts", "allGone", "()I"⟩ ⟨"SystemParts", "allGone", "()I"⟩ ∈ lw_tbl := List.mem_of_getElem? (i := 2) (by decide +kernel)
set_option maxRecDepth 100000 in
theorem mp_3 : Cond.selects "SystemParts" ⟨"SystemParts", "isFree", "(II)Z"⟩ ⟨"SystemParts", "isFree", "(II)Z"⟩ ∈ lw_tbl := List.mem_of_getElem? (i := 3) (by decide +kernel)
set_option maxRecDepth 100000 in
theorem mp_4 : Cond.selects "java/lang/Throwable" ⟨"java/lang/Throwable", "fillInStackTrace", "(I)Ljava/lang/Throwable;"⟩ ⟨"java/lang/Throwable", "fillInStackTrace", "(I)Ljava/lang/Throwable;"⟩ ∈ lw_tbl := List.mem_of_getElem? (i := 4) (by decide +kernel)
set_option maxRecDepth 100000 in
theorem mp_5 : Cond.selects "SystemParts" ⟨"SystemParts", "partWith", "(I)LSystemParts$Part;"⟩ ⟨"SystemParts", "partWith", "(I)LSystemParts$Part;"⟩ ∈ lw_tbl := List.mem_of_getElem? (i := 5) (by decide +kernel)
set_option maxRecDepth 100000 in
theorem mp_6 : Cond.selects "SystemParts" ⟨"SystemParts", "reachPart", "(I)LSystemParts$Part;"⟩ ⟨"SystemParts", "reachPart", "(I)LSystemParts$Part;"⟩ ∈ lw_tbl := List.mem_of_getElem? (i := 6) (by decide +kernel)
set_option maxRecDepth 100000 in
theorem mp_7 : Cond.selects "SystemParts" ⟨"SystemParts", "tallyOne", "(I)V"⟩ ⟨"SystemParts", "tallyOne", "(I)V"⟩ ∈ lw_tbl := List.mem_of_getElem? (i := 7) (by decide +kernel)
set_option maxRecDepth 100000 in
theorem mp_8 : Cond.selects "SystemParts" ⟨"SystemParts", "runSteps", "(I)Z"⟩ ⟨"SystemParts", "runSteps", "(I)Z"⟩ ∈ lw_tbl := List.mem_of_getElem? (i := 8) (by decide +kernel)
set_option maxRecDepth 100000 in
theorem mp_9 : Cond.selects "SystemParts" ⟨"SystemParts", "oneStep", "()Z"⟩ ⟨"SystemParts", "oneStep", "()Z"⟩ ∈ lw_tbl := List.mem_of_getElem? (i := 9) (by decide +kernel)
set_option maxRecDepth 100000 in
theorem mp_10 : Cond.selects "SystemParts$Rows" ⟨"SystemParts$Rows", "moveNumbers", "()V"⟩ ⟨"SystemParts$Rows", "moveNumbers", "()V"⟩ ∈ lw_tbl := List.mem_of_getElem? (i := 10) (by decide +kernel)
set_option maxRecDepth 100000 in
theorem mp_11 : Cond.selects "SystemParts" ⟨"SystemParts", "askingLines", "()I"⟩ ⟨"SystemParts", "askingLines", "()I"⟩ ∈ lw_tbl := List.mem_of_getElem? (i := 11) (by decide +kernel)
set_option maxRecDepth 100000 in
theorem mp_12 : Cond.selects "SystemParts$Rows" ⟨"SystemParts$Rows", "inWindow", "(I)Z"⟩ ⟨"SystemParts$Rows", "inWindow", "(I)Z"⟩ ∈ lw_tbl := List.mem_of_getElem? (i := 12) (by decide +kernel)
set_option maxRecDepth 100000 in
theorem mp_13 : Cond.selects "SystemParts$Serial" ⟨"SystemParts$Serial", "nextCome", "()I"⟩ ⟨"SystemParts$Serial", "nextCome", "()I"⟩ ∈ lw_tbl := List.mem_of_getElem? (i := 13) (by decide +kernel)
set_option maxRecDepth 100000 in
theorem mp_14 : Cond.selects "SystemParts$Rows" ⟨"SystemParts$Rows", "begin", "(I)V"⟩ ⟨"SystemParts$Rows", "begin", "(I)V"⟩ ∈ lw_tbl := List.mem_of_getElem? (i := 14) (by decide +kernel)
set_option maxRecDepth 100000 in
theorem mp_15 : Cond.selects "SystemParts" ⟨"SystemParts", "serialAt", "(I)LSystemParts$Serial;"⟩ ⟨"SystemParts", "serialAt", "(I)LSystemParts$Serial;"⟩ ∈ lw_tbl := List.mem_of_getElem? (i := 15) (by decide +kernel)
set_option maxRecDepth 100000 in
theorem mp_16 : Cond.selects "SystemParts$Lines" ⟨"SystemParts$Lines", "changeWay", "(II)I"⟩ ⟨"SystemParts$Lines", "changeWay", "(II)I"⟩ ∈ lw_tbl := List.mem_of_getElem? (i := 16) (by decide +kernel)
set_option maxRecDepth 100000 in
theorem mp_17 : Cond.selects "SystemParts$Lines" ⟨"SystemParts$Lines", "changeRank", "(II)I"⟩ ⟨"SystemParts$Lines", "changeRank", "(II)I"⟩ ∈ lw_tbl := List.mem_of_getElem? (i := 17) (by decide +kernel)
set_option maxRecDepth 100000 in
theorem mp_18 : Cond.selects "SystemParts$Lines" ⟨"SystemParts$Lines", "changeHidden", "(II)I"⟩ ⟨"SystemParts$Lines", "changeHidden", "(II)I"⟩ ∈ lw_tbl := List.mem_of_getElem? (i := 18) (by decide +kernel)
set_option maxRecDepth 100000 in
theorem mp_19 : Cond.selects "SystemPartsModel" ⟨"SystemPartsModel", "fail", "(I)I"⟩ ⟨"SystemPartsModel", "fail", "(I)I"⟩ ∈ lw_tbl := List.mem_of_getElem? (i := 19) (by decide +kernel)
set_option maxRecDepth 100000 in
theorem mp_20 : Cond.selects "SystemPartsModel" ⟨"SystemPartsModel", "partAt", "(I)I"⟩ ⟨"SystemPartsModel", "partAt", "(I)I"⟩ ∈ lw_tbl := List.mem_of_getElem? (i := 20) (by decide +kernel)
set_option maxRecDepth 100000 in
theorem mp_21 : Cond.selects "SystemPartsModel" ⟨"SystemPartsModel", "stepOnce", "()Z"⟩ ⟨"SystemPartsModel", "stepOnce", "()Z"⟩ ∈ lw_tbl := List.mem_of_getElem? (i := 21) (by decide +kernel)
set_option maxRecDepth 100000 in
theorem mp_22 : Cond.selects "SystemPartsModel" ⟨"SystemPartsModel", "timerStep", "(I)Z"⟩ ⟨"SystemPartsModel", "timerStep", "(I)Z"⟩ ∈ lw_tbl := List.mem_of_getElem? (i := 22) (by decide +kernel)
set_option maxRecDepth 100000 in
theorem mp_23 : Cond.selects "SystemPartsModel" ⟨"SystemPartsModel", "resetAll", "(I)V"⟩ ⟨"SystemPartsModel", "resetAll", "(I)V"⟩ ∈ lw_tbl := List.mem_of_getElem? (i := 23) (by decide +kernel)
set_option maxRecDepth 100000 in
theorem mp_24 : Cond.selects "SystemPartsModel" ⟨"SystemPartsModel", "sendStep", "(I)V"⟩ ⟨"SystemPartsModel", "sendStep", "(I)V"⟩ ∈ lw_tbl := List.mem_of_getElem? (i := 24) (by decide +kernel)
set_option maxRecDepth 100000 in
theorem mp_25 : Cond.selects "SystemPartsModel" ⟨"SystemPartsModel", "rowStep", "(I)V"⟩ ⟨"SystemPartsModel", "rowStep", "(I)V"⟩ ∈ lw_tbl := List.mem_of_getElem? (i := 25) (by decide +kernel)
set_option maxRecDepth 100000 in
theorem mp_26 : Cond.selects "SystemPartsModel" ⟨"SystemPartsModel", "lookAtLines", "()V"⟩ ⟨"SystemPartsModel", "lookAtLines", "()V"⟩ ∈ lw_tbl := List.mem_of_getElem? (i := 26) (by decide +kernel)
set_option maxRecDepth 100000 in
theorem mp_27 : Cond.selects "SystemPartsModel" ⟨"SystemPartsModel", "asksNow", "(I)Z"⟩ ⟨"SystemPartsModel", "asksNow", "(I)Z"⟩ ∈ lw_tbl := List.mem_of_getElem? (i := 27) (by decide +kernel)
set_option maxRecDepth 100000 in
theorem mp_28 : Cond.selects "SystemPartsModel" ⟨"SystemPartsModel", "countAll", "(I)V"⟩ ⟨"SystemPartsModel", "countAll", "(I)V"⟩ ∈ lw_tbl := List.mem_of_getElem? (i := 28) (by decide +kernel)
set_option maxRecDepth 100000 in
theorem mp_29 : Cond.selects "SystemPartsModel" ⟨"SystemPartsModel", "waitFor", "(I)V"⟩ ⟨"SystemPartsModel", "waitFor", "(I)V"⟩ ∈ lw_tbl := List.mem_of_getElem? (i := 29) (by decide +kernel)
set_option maxRecDepth 100000 in
theorem mp_30 : Cond.selects "SystemPartsModel" ⟨"SystemPartsModel", "takeIn", "(I)I"⟩ ⟨"SystemPartsModel", "takeIn", "(I)I"⟩ ∈ lw_tbl := List.mem_of_getElem? (i := 30) (by decide +kernel)
set_option maxRecDepth 100000 in
theorem mp_31 : Cond.selects "SystemPartsModel" ⟨"SystemPartsModel", "writeTimer", "(III)V"⟩ ⟨"SystemPartsModel", "writeTimer", "(III)V"⟩ ∈ lw_tbl := List.mem_of_getElem? (i := 31) (by decide +kernel)
set_option maxRecDepth 100000 in
theorem mp_32 : Cond.selects "SystemPartsModel" ⟨"SystemPartsModel", "writeSerial", "(III)V"⟩ ⟨"SystemPartsModel", "writeSerial", "(III)V"⟩ ∈ lw_tbl := List.mem_of_getElem? (i := 32) (by decide +kernel)
set_option maxRecDepth 100000 in
theorem mp_33 : Cond.selects "SystemPartsModel" ⟨"SystemPartsModel", "writeRows", "(III)V"⟩ ⟨"SystemPartsModel", "writeRows", "(III)V"⟩ ∈ lw_tbl := List.mem_of_getElem? (i := 33) (by decide +kernel)
set_option maxRecDepth 100000 in
theorem mp_34 : Cond.selects "SystemPartsModel" ⟨"SystemPartsModel", "isSerial", "(I)Z"⟩ ⟨"SystemPartsModel", "isSerial", "(I)Z"⟩ ∈ lw_tbl := List.mem_of_getElem? (i := 34) (by decide +kernel)
set_option maxRecDepth 100000 in
theorem mp_35 : Cond.selects "SystemPartsModel" ⟨"SystemPartsModel", "isPending", "(I)Z"⟩ ⟨"SystemPartsModel", "isPending", "(I)Z"⟩ ∈ lw_tbl := List.mem_of_getElem? (i := 35) (by decide +kernel)
set_option maxRecDepth 100000 in
theorem mp_36 : Cond.selects "SystemPartsModel" ⟨"SystemPartsModel", "choose", "()I"⟩ ⟨"SystemPartsModel", "choose", "()I"⟩ ∈ lw_tbl := List.mem_of_getElem? (i := 36) (by decide +kernel)
theorem ln_SP_init : (parseMethodDescriptor y_SP_init.1.desc).map (fun z => z.parameters.length) = some 0 := by decide +kernel
theorem ln_Lines_init : (parseMethodDescriptor y_Lines_init.1.desc).map (fun z => z.parameters.length) = some 0 := by decide +kernel
theorem ln_SP_chosen : (parseMethodDescriptor y_SP_chosen.1.desc).map (fun z => z.parameters.length) = some 0 := by decide +kernel
theorem ln_Lines_best : (parseMethodDescriptor y_Lines_best.1.desc).map (fun z => z.parameters.length) = some 0 := by decide +kernel
theorem ln_Lines_pending : (parseMethodDescriptor y_Lines_pending.1.desc).map (fun z => z.parameters.length) = some 0 := by decide +kernel
theorem ln_SP_take : (parseMethodDescriptor y_SP_take.1.desc).map (fun z => z.parameters.length) = some 0 := by decide +kernel
theorem ln_Lines_forget : (parseMethodDescriptor y_Lines_forget.1.desc).map (fun z => z.parameters.length) = some 1 := by decide +kernel
theorem ln_SP_reset : (parseMethodDescriptor y_SP_reset.1.desc).map (fun z => z.parameters.length) = some 0 := by decide +kernel
theorem ln_SP_resetAll : (parseMethodDescriptor y_SP_resetAll.1.desc).map (fun z => z.parameters.length) = some 1 := by decide +kernel
theorem ln_Counts_beginAnew : (parseMethodDescriptor y_Counts_beginAnew.1.desc).map (fun z => z.parameters.length) = some 0 := by decide +kernel
theorem ln_Rows_beginAnew : (parseMethodDescriptor y_Rows_beginAnew.1.desc).map (fun z => z.parameters.length) = some 0 := by decide +kernel
theorem ln_Serial_beginAnew : (parseMethodDescriptor y_Serial_beginAnew.1.desc).map (fun z => z.parameters.length) = some 0 := by decide +kernel
theorem ln_Timer_beginAnew : (parseMethodDescriptor y_Timer_beginAnew.1.desc).map (fun z => z.parameters.length) = some 0 := by decide +kernel
theorem ln_Part_beginAnew : (parseMethodDescriptor y_Part_beginAnew.1.desc).map (fun z => z.parameters.length) = some 0 := by decide +kernel
theorem ln_Lines_allDown : (parseMethodDescriptor y_Lines_allDown.1.desc).map (fun z => z.parameters.length) = some 0 := by decide +kernel
theorem ln_SP_count : (parseMethodDescriptor y_SP_count.1.desc).map (fun z => z.parameters.length) = some 1 := by decide +kernel
theorem ln_SP_allWaiting : (parseMethodDescriptor y_SP_allWaiting.1.desc).map (fun z => z.parameters.length) = some 0 := by decide +kernel
theorem ln_SP_allGone : (parseMethodDescriptor y_SP_allGone.1.desc).map (fun z => z.parameters.length) = some 0 := by decide +kernel
theorem ln_Law_part : (parseMethodDescriptor y_Law_part.1.desc).map (fun z => z.parameters.length) = some 7 := by decide +kernel
theorem ln_SP_part : (parseMethodDescriptor y_SP_part.1.desc).map (fun z => z.parameters.length) = some 5 := by decide +kernel
theorem ln_SP_lengthOf : (parseMethodDescriptor y_SP_lengthOf.1.desc).map (fun z => z.parameters.length) = some 2 := by decide +kernel
theorem ln_SP_isLine : (parseMethodDescriptor y_SP_isLine.1.desc).map (fun z => z.parameters.length) = some 1 := by decide +kernel
theorem ln_SP_isFree : (parseMethodDescriptor y_SP_isFree.1.desc).map (fun z => z.parameters.length) = some 2 := by decide +kernel
theorem ln_SP_isPlace : (parseMethodDescriptor y_SP_isPlace.1.desc).map (fun z => z.parameters.length) = some 1 := by decide +kernel
theorem ln_Seat_meets : (parseMethodDescriptor y_Seat_meets.1.desc).map (fun z => z.parameters.length) = some 2 := by decide +kernel
theorem ln_Seat_init : (parseMethodDescriptor y_Seat_init.1.desc).map (fun z => z.parameters.length) = some 4 := by decide +kernel
theorem ln_SP_newPart : (parseMethodDescriptor y_SP_newPart.1.desc).map (fun z => z.parameters.length) = some 2 := by decide +kernel
theorem ln_Cells_init : (parseMethodDescriptor y_Cells_init.1.desc).map (fun z => z.parameters.length) = some 2 := by decide +kernel
theorem ln_Part_init : (parseMethodDescriptor y_Part_init.1.desc).map (fun z => z.parameters.length) = some 1 := by decide +kernel
theorem ln_Timer_init : (parseMethodDescriptor y_Timer_init.1.desc).map (fun z => z.parameters.length) = some 1 := by decide +kernel
theorem ln_Serial_init : (parseMethodDescriptor y_Serial_init.1.desc).map (fun z => z.parameters.length) = some 1 := by decide +kernel
theorem ln_Rows_init : (parseMethodDescriptor y_Rows_init.1.desc).map (fun z => z.parameters.length) = some 1 := by decide +kernel
theorem ln_Counts_init : (parseMethodDescriptor y_Counts_init.1.desc).map (fun z => z.parameters.length) = some 1 := by decide +kernel
theorem ln_Law_load : (parseMethodDescriptor y_Law_load.1.desc).map (fun z => z.parameters.length) = some 4 := by decide +kernel
theorem ln_SP_load : (parseMethodDescriptor y_SP_load.1.desc).map (fun z => z.parameters.length) = some 2 := by decide +kernel
theorem ln_SP_partWith : (parseMethodDescriptor y_SP_partWith.1.desc).map (fun z => z.parameters.length) = some 1 := by decide +kernel
theorem ln_Cells_look : (parseMethodDescriptor y_Cells_look.1.desc).map (fun z => z.parameters.length) = some 1 := by decide +kernel
theorem ln_Cells_put : (parseMethodDescriptor y_Cells_put.1.desc).map (fun z => z.parameters.length) = some 2 := by decide +kernel
theorem ln_Law_read : (parseMethodDescriptor y_Law_read.1.desc).map (fun z => z.parameters.length) = some 3 := by decide +kernel
theorem ln_SP_read : (parseMethodDescriptor y_SP_read.1.desc).map (fun z => z.parameters.length) = some 1 := by decide +kernel
theorem ln_SP_reachPart : (parseMethodDescriptor y_SP_reachPart.1.desc).map (fun z => z.parameters.length) = some 1 := by decide +kernel
theorem ln_SP_tallyOne : (parseMethodDescriptor y_SP_tallyOne.1.desc).map (fun z => z.parameters.length) = some 1 := by decide +kernel
theorem ln_Counts_add : (parseMethodDescriptor y_Counts_add.1.desc).map (fun z => z.parameters.length) = some 1 := by decide +kernel
theorem ln_Seat_accessSteps : (parseMethodDescriptor y_Seat_accessSteps.1.desc).map (fun z => z.parameters.length) = some 0 := by decide +kernel
theorem ln_SP_runSteps : (parseMethodDescriptor y_SP_runSteps.1.desc).map (fun z => z.parameters.length) = some 1 := by decide +kernel
theorem ln_SP_oneStep : (parseMethodDescriptor y_SP_oneStep.1.desc).map (fun z => z.parameters.length) = some 0 := by decide +kernel
theorem ln_Counts_goOn : (parseMethodDescriptor y_Counts_goOn.1.desc).map (fun z => z.parameters.length) = some 0 := by decide +kernel
theorem ln_Rows_goOn : (parseMethodDescriptor y_Rows_goOn.1.desc).map (fun z => z.parameters.length) = some 0 := by decide +kernel
theorem ln_Rows_moveNumbers : (parseMethodDescriptor y_Rows_moveNumbers.1.desc).map (fun z => z.parameters.length) = some 0 := by decide +kernel
theorem ln_Serial_goOn : (parseMethodDescriptor y_Serial_goOn.1.desc).map (fun z => z.parameters.length) = some 0 := by decide +kernel
theorem ln_Timer_goOn : (parseMethodDescriptor y_Timer_goOn.1.desc).map (fun z => z.parameters.length) = some 0 := by decide +kernel
theorem ln_Part_goOn : (parseMethodDescriptor y_Part_goOn.1.desc).map (fun z => z.parameters.length) = some 0 := by decide +kernel
theorem ln_SP_askingLines : (parseMethodDescriptor y_SP_askingLines.1.desc).map (fun z => z.parameters.length) = some 0 := by decide +kernel
theorem ln_Rows_wantsAttention : (parseMethodDescriptor y_Rows_wantsAttention.1.desc).map (fun z => z.parameters.length) = some 0 := by decide +kernel
theorem ln_Serial_wantsAttention : (parseMethodDescriptor y_Serial_wantsAttention.1.desc).map (fun z => z.parameters.length) = some 0 := by decide +kernel
theorem ln_Timer_wantsAttention : (parseMethodDescriptor y_Timer_wantsAttention.1.desc).map (fun z => z.parameters.length) = some 0 := by decide +kernel
theorem ln_Part_wantsAttention : (parseMethodDescriptor y_Part_wantsAttention.1.desc).map (fun z => z.parameters.length) = some 0 := by decide +kernel
theorem ln_Lines_follow : (parseMethodDescriptor y_Lines_follow.1.desc).map (fun z => z.parameters.length) = some 1 := by decide +kernel
theorem ln_Counts_look : (parseMethodDescriptor y_Counts_look.1.desc).map (fun z => z.parameters.length) = some 1 := by decide +kernel
theorem ln_Rows_look : (parseMethodDescriptor y_Rows_look.1.desc).map (fun z => z.parameters.length) = some 1 := by decide +kernel
theorem ln_Rows_inWindow : (parseMethodDescriptor y_Rows_inWindow.1.desc).map (fun z => z.parameters.length) = some 1 := by decide +kernel
theorem ln_Serial_look : (parseMethodDescriptor y_Serial_look.1.desc).map (fun z => z.parameters.length) = some 1 := by decide +kernel
theorem ln_Serial_nextCome : (parseMethodDescriptor y_Serial_nextCome.1.desc).map (fun z => z.parameters.length) = some 0 := by decide +kernel
theorem ln_Timer_look : (parseMethodDescriptor y_Timer_look.1.desc).map (fun z => z.parameters.length) = some 1 := by decide +kernel
theorem ln_Law_write : (parseMethodDescriptor y_Law_write.1.desc).map (fun z => z.parameters.length) = some 4 := by decide +kernel
theorem ln_SP_write : (parseMethodDescriptor y_SP_write.1.desc).map (fun z => z.parameters.length) = some 2 := by decide +kernel
theorem ln_Cells_refusesWrites : (parseMethodDescriptor y_Cells_refusesWrites.1.desc).map (fun z => z.parameters.length) = some 0 := by decide +kernel
theorem ln_Part_refusesWrites : (parseMethodDescriptor y_Part_refusesWrites.1.desc).map (fun z => z.parameters.length) = some 0 := by decide +kernel
theorem ln_Counts_put : (parseMethodDescriptor y_Counts_put.1.desc).map (fun z => z.parameters.length) = some 2 := by decide +kernel
theorem ln_Rows_put : (parseMethodDescriptor y_Rows_put.1.desc).map (fun z => z.parameters.length) = some 2 := by decide +kernel
theorem ln_Rows_begin : (parseMethodDescriptor y_Rows_begin.1.desc).map (fun z => z.parameters.length) = some 1 := by decide +kernel
theorem ln_Serial_put : (parseMethodDescriptor y_Serial_put.1.desc).map (fun z => z.parameters.length) = some 2 := by decide +kernel
theorem ln_Timer_put : (parseMethodDescriptor y_Timer_put.1.desc).map (fun z => z.parameters.length) = some 2 := by decide +kernel
theorem ln_Law_step : (parseMethodDescriptor y_Law_step.1.desc).map (fun z => z.parameters.length) = some 3 := by decide +kernel
theorem ln_SP_step : (parseMethodDescriptor y_SP_step.1.desc).map (fun z => z.parameters.length) = some 1 := by decide +kernel
theorem ln_Law_receive : (parseMethodDescriptor y_Law_receive.1.desc).map (fun z => z.parameters.length) = some 4 := by decide +kernel
theorem ln_SP_receive : (parseMethodDescriptor y_SP_receive.1.desc).map (fun z => z.parameters.length) = some 2 := by decide +kernel
theorem ln_SP_serialAt : (parseMethodDescriptor y_SP_serialAt.1.desc).map (fun z => z.parameters.length) = some 1 := by decide +kernel
theorem ln_Serial_isFull : (parseMethodDescriptor y_Serial_isFull.1.desc).map (fun z => z.parameters.length) = some 0 := by decide +kernel
theorem ln_Serial_accept : (parseMethodDescriptor y_Serial_accept.1.desc).map (fun z => z.parameters.length) = some 1 := by decide +kernel
theorem ln_Law_sent : (parseMethodDescriptor y_Law_sent.1.desc).map (fun z => z.parameters.length) = some 4 := by decide +kernel
theorem ln_SP_sent : (parseMethodDescriptor y_SP_sent.1.desc).map (fun z => z.parameters.length) = some 2 := by decide +kernel
theorem ln_Serial_goneKept : (parseMethodDescriptor y_Serial_goneKept.1.desc).map (fun z => z.parameters.length) = some 0 := by decide +kernel
theorem ln_Serial_goneAt : (parseMethodDescriptor y_Serial_goneAt.1.desc).map (fun z => z.parameters.length) = some 1 := by decide +kernel
theorem ln_Law_line : (parseMethodDescriptor y_Law_line.1.desc).map (fun z => z.parameters.length) = some 5 := by decide +kernel
theorem ln_SP_line : (parseMethodDescriptor y_SP_line.1.desc).map (fun z => z.parameters.length) = some 3 := by decide +kernel
theorem ln_Lines_greatest : (parseMethodDescriptor y_Lines_greatest.1.desc).map (fun z => z.parameters.length) = some 1 := by decide +kernel
theorem ln_Lines_change : (parseMethodDescriptor y_Lines_change.1.desc).map (fun z => z.parameters.length) = some 3 := by decide +kernel
theorem ln_Lines_changeWay : (parseMethodDescriptor y_Lines_changeWay.1.desc).map (fun z => z.parameters.length) = some 2 := by decide +kernel
theorem ln_Lines_changeRank : (parseMethodDescriptor y_Lines_changeRank.1.desc).map (fun z => z.parameters.length) = some 2 := by decide +kernel
theorem ln_Lines_changeHidden : (parseMethodDescriptor y_Lines_changeHidden.1.desc).map (fun z => z.parameters.length) = some 2 := by decide +kernel
theorem ln_Law_asks : (parseMethodDescriptor y_Law_asks.1.desc).map (fun z => z.parameters.length) = some 3 := by decide +kernel
theorem ln_SP_asks : (parseMethodDescriptor y_SP_asks.1.desc).map (fun z => z.parameters.length) = some 1 := by decide +kernel
theorem ln_Model_init : (parseMethodDescriptor y_Model_init.1.desc).map (fun z => z.parameters.length) = some 0 := by decide +kernel
theorem ln_Model_thrown : (parseMethodDescriptor y_Model_thrown.1.desc).map (fun z => z.parameters.length) = some 0 := by decide +kernel
theorem ln_Model_part : (parseMethodDescriptor y_Model_part.1.desc).map (fun z => z.parameters.length) = some 5 := by decide +kernel
theorem ln_Model_within : (parseMethodDescriptor y_Model_within.1.desc).map (fun z => z.parameters.length) = some 3 := by decide +kernel
theorem ln_Model_sizeOf : (parseMethodDescriptor y_Model_sizeOf.1.desc).map (fun z => z.parameters.length) = some 2 := by decide +kernel
theorem ln_Model_fail : (parseMethodDescriptor y_Model_fail.1.desc).map (fun z => z.parameters.length) = some 1 := by decide +kernel
theorem ln_Model_load : (parseMethodDescriptor y_Model_load.1.desc).map (fun z => z.parameters.length) = some 2 := by decide +kernel
theorem ln_Model_partAt : (parseMethodDescriptor y_Model_partAt.1.desc).map (fun z => z.parameters.length) = some 1 := by decide +kernel
theorem ln_Model_step : (parseMethodDescriptor y_Model_step.1.desc).map (fun z => z.parameters.length) = some 1 := by decide +kernel
theorem ln_Model_stepOnce : (parseMethodDescriptor y_Model_stepOnce.1.desc).map (fun z => z.parameters.length) = some 0 := by decide +kernel
theorem ln_Model_timerStep : (parseMethodDescriptor y_Model_timerStep.1.desc).map (fun z => z.parameters.length) = some 1 := by decide +kernel
theorem ln_Model_resetAll : (parseMethodDescriptor y_Model_resetAll.1.desc).map (fun z => z.parameters.length) = some 1 := by decide +kernel
theorem ln_Model_sendStep : (parseMethodDescriptor y_Model_sendStep.1.desc).map (fun z => z.parameters.length) = some 1 := by decide +kernel
theorem ln_Model_rowStep : (parseMethodDescriptor y_Model_rowStep.1.desc).map (fun z => z.parameters.length) = some 1 := by decide +kernel
theorem ln_Model_lookAtLines : (parseMethodDescriptor y_Model_lookAtLines.1.desc).map (fun z => z.parameters.length) = some 0 := by decide +kernel
theorem ln_Model_asksNow : (parseMethodDescriptor y_Model_asksNow.1.desc).map (fun z => z.parameters.length) = some 1 := by decide +kernel
theorem ln_Model_read : (parseMethodDescriptor y_Model_read.1.desc).map (fun z => z.parameters.length) = some 1 := by decide +kernel
theorem ln_Model_countAll : (parseMethodDescriptor y_Model_countAll.1.desc).map (fun z => z.parameters.length) = some 1 := by decide +kernel
theorem ln_Model_waitFor : (parseMethodDescriptor y_Model_waitFor.1.desc).map (fun z => z.parameters.length) = some 1 := by decide +kernel
theorem ln_Model_takeIn : (parseMethodDescriptor y_Model_takeIn.1.desc).map (fun z => z.parameters.length) = some 1 := by decide +kernel
theorem ln_Model_write : (parseMethodDescriptor y_Model_write.1.desc).map (fun z => z.parameters.length) = some 2 := by decide +kernel
theorem ln_Model_writeTimer : (parseMethodDescriptor y_Model_writeTimer.1.desc).map (fun z => z.parameters.length) = some 3 := by decide +kernel
theorem ln_Model_writeSerial : (parseMethodDescriptor y_Model_writeSerial.1.desc).map (fun z => z.parameters.length) = some 3 := by decide +kernel
theorem ln_Model_writeRows : (parseMethodDescriptor y_Model_writeRows.1.desc).map (fun z => z.parameters.length) = some 3 := by decide +kernel
theorem ln_Model_receive : (parseMethodDescriptor y_Model_receive.1.desc).map (fun z => z.parameters.length) = some 2 := by decide +kernel
theorem ln_Model_isSerial : (parseMethodDescriptor y_Model_isSerial.1.desc).map (fun z => z.parameters.length) = some 1 := by decide +kernel
theorem ln_Model_sent : (parseMethodDescriptor y_Model_sent.1.desc).map (fun z => z.parameters.length) = some 2 := by decide +kernel
theorem ln_Model_line : (parseMethodDescriptor y_Model_line.1.desc).map (fun z => z.parameters.length) = some 3 := by decide +kernel
theorem ln_Model_asks : (parseMethodDescriptor y_Model_asks.1.desc).map (fun z => z.parameters.length) = some 1 := by decide +kernel
theorem ln_Model_isPending : (parseMethodDescriptor y_Model_isPending.1.desc).map (fun z => z.parameters.length) = some 1 := by decide +kernel
theorem ln_Model_chosen : (parseMethodDescriptor y_Model_chosen.1.desc).map (fun z => z.parameters.length) = some 0 := by decide +kernel
theorem ln_Model_choose : (parseMethodDescriptor y_Model_choose.1.desc).map (fun z => z.parameters.length) = some 0 := by decide +kernel
theorem ln_Model_take : (parseMethodDescriptor y_Model_take.1.desc).map (fun z => z.parameters.length) = some 0 := by decide +kernel
theorem ln_Model_reset : (parseMethodDescriptor y_Model_reset.1.desc).map (fun z => z.parameters.length) = some 0 := by decide +kernel
theorem ln_Model_count : (parseMethodDescriptor y_Model_count.1.desc).map (fun z => z.parameters.length) = some 1 := by decide +kernel
theorem ln_Law_law : (parseMethodDescriptor y_Law_law.1.desc).map (fun z => z.parameters.length) = some 1 := by decide +kernel
theorem mm_G.cast {sc : mm_Sc} {y : mm_M} {d pc : Nat} {l l' : mm_L} {st st' : List Value} {n : Nat} {h h' : mm_H} {kc ks : Nat} {Q : mm_O → Nat → mm_H → Prop} (hl : l = l') (hs : st = st') (hh : h = h') (k : mm_G sc y d pc l' st' n h' kc ks Q) : mm_G sc y d pc l st n h kc ks Q := by subst hl; subst hs; subst hh; exact k
theorem mm_inb {k : Int32} {len : Nat} (hl : len < 2 ^ 31) (c1 : ¬ k < 0) (c2 : ¬ Int32.ofNat len ≤ k) : vp_in k len := by
  obtain ⟨j, h1, h2, -⟩ := pk_mu (L := len) c1 c2 hl
  rw [h2]
  exact vp_in_nI h1 hl
theorem mm_inb' {k : Int32} {len : Nat} (hl : len < 2 ^ 31) (c1 : ¬ k < 0) (c2 : k < Int32.ofNat len) : vp_in k len := mm_inb hl c1 (fun h => absurd c2 (Int32.not_lt.mpr h))
theorem mm_upJ {h : mm_H} {a b : Nat} {c1 c2 : Option mm_C} (hne : a ≠ b) : va_up (va_up h a c1) b c2 = va_up (va_up h b c2) a c1 := by
  funext j
  by_cases e1 : j = a
  · subst e1; rw [va_up_ne _ _ hne, va_up_self, va_up_self]
  · by_cases e2 : j = b
    · subst e2; rw [va_up_self, va_up_ne _ _ e1, va_up_self]
    · rw [va_up_ne _ _ e2, va_up_ne _ _ e1, va_up_ne _ _ e1, va_up_ne _ _ e2]
theorem mm_up_idE {h : mm_H} {a : Nat} {c c' : mm_C} (ha : h a = some c) (e : c' = c) : h = va_up h a (some c') := by
  subst e
  funext j
  by_cases q : j = a
  · subst q; rw [va_up_self, ha]
  · rw [va_up_ne _ _ q]
/-- the first i are 0 -/
def za (A : Nat → Int32) (i : Nat) : Nat → Int32 := fun j => if j < i then 0 else A j
theorem za_0 (A : Nat → Int32) : za A 0 = A := by funext j; simp [za]
theorem za_s (A : Nat → Int32) (i : Nat) : upd (za A i) i 0 = za A (i + 1) := by
  funext j
  by_cases h : j = i
  · subst h; simp [upd, za]
  · by_cases h2 : j < i
    · simp [upd, za, h, h2, Nat.lt_succ_of_lt h2]
    · have h3 : ¬ j < i + 1 := by omega
      simp [upd, za, h, h2, h3]
end
section
theorem mm_neq {h : mm_H} {a b : Nat} {c1 c2 : mm_C} (ha : h a = some c1) (hb : h b = some c2) (hne : c1 ≠ c2) : a ≠ b := fun e => hne (by rw [e] at ha; exact Option.some.inj (ha.symm.trans hb))
theorem mm_up_id {h : mm_H} {a : Nat} {c : mm_C} (ha : h a = some c) : va_up h a (some c) = h := by
  funext j
  by_cases e : j = a
  · subst e; rw [va_up_self, ha]
  · rw [va_up_ne _ _ e]
theorem mm_tsw2 {x : Int32} (c0 : ¬ x = 0) (c1 : ¬ x = 1) : x.toInt < 0 ∨ 1 < x.toInt := by
  have h0 := lv_neT c0 (a := 0) (by decide)
  have h1 := lv_neT c1 (a := 1) (by decide)
  omega
theorem mm_tsw3 {x : Int32} (c0 : ¬ x = 0) (c1 : ¬ x = 1) (c2 : ¬ x = 2) : x.toInt < 0 ∨ 2 < x.toInt := by
  have h0 := lv_neT c0 (a := 0) (by decide)
  have h1 := lv_neT c1 (a := 1) (by decide)
  have h2 := lv_neT c2 (a := 2) (by decide)
  omega
theorem mm_tsw4 {x : Int32} (c0 : ¬ x = 0) (c1 : ¬ x = 1) (c2 : ¬ x = 2) (c3 : ¬ x = 3) : x.toInt < 0 ∨ 3 < x.toInt := by
  have h0 := lv_neT c0 (a := 0) (by decide)
  have h1 := lv_neT c1 (a := 1) (by decide)
  have h2 := lv_neT c2 (a := 2) (by decide)
  have h3 := lv_neT c3 (a := 3) (by decide)
  omega
theorem mm_tsw5 {x : Int32} (c0 : ¬ x = 0) (c1 : ¬ x = 1) (c2 : ¬ x = 2) (c3 : ¬ x = 3) (c4 : ¬ x = 4) : x.toInt < 0 ∨ 4 < x.toInt := by
  have h0 := lv_neT c0 (a := 0) (by decide)
  have h1 := lv_neT c1 (a := 1) (by decide)
  have h2 := lv_neT c2 (a := 2) (by decide)
  have h3 := lv_neT c3 (a := 3) (by decide)
  have h4 := lv_neT c4 (a := 4) (by decide)
  omega
theorem mm_tsw6 {x : Int32} (c0 : ¬ x = 0) (c1 : ¬ x = 1) (c2 : ¬ x = 2) (c3 : ¬ x = 3) (c4 : ¬ x = 4) (c5 : ¬ x = 5) : x.toInt < 0 ∨ 5 < x.toInt := by
  have h0 := lv_neT c0 (a := 0) (by decide)
  have h1 := lv_neT c1 (a := 1) (by decide)
  have h2 := lv_neT c2 (a := 2) (by decide)
  have h3 := lv_neT c3 (a := 3) (by decide)
  have h4 := lv_neT c4 (a := 4) (by decide)
  have h5 := lv_neT c5 (a := 5) (by decide)
  omega
theorem mm_tsw10 {x : Int32} (c0 : ¬ x = 0) (c1 : ¬ x = 1) (c2 : ¬ x = 2) (c3 : ¬ x = 3) (c4 : ¬ x = 4) (c5 : ¬ x = 5) (c6 : ¬ x = 6) (c7 : ¬ x = 7) (c8 : ¬ x = 8) (c9 : ¬ x = 9) : x.toInt < 0 ∨ 9 < x.toInt := by
  have h0 := lv_neT c0 (a := 0) (by decide)
  have h1 := lv_neT c1 (a := 1) (by decide)
  have h2 := lv_neT c2 (a := 2) (by decide)
  have h3 := lv_neT c3 (a := 3) (by decide)
  have h4 := lv_neT c4 (a := 4) (by decide)
  have h5 := lv_neT c5 (a := 5) (by decide)
  have h6 := lv_neT c6 (a := 6) (by decide)
  have h7 := lv_neT c7 (a := 7) (by decide)
  have h8 := lv_neT c8 (a := 8) (by decide)
  have h9 := lv_neT c9 (a := 9) (by decide)
  omega
theorem mm_tsw13 {x : Int32} (c0 : ¬ x = 0) (c1 : ¬ x = 1) (c2 : ¬ x = 2) (c3 : ¬ x = 3) (c4 : ¬ x = 4) (c5 : ¬ x = 5) (c6 : ¬ x = 6) (c7 : ¬ x = 7) (c8 : ¬ x = 8) (c9 : ¬ x = 9) (c10 : ¬ x = 10) (c11 : ¬ x = 11) (c12 : ¬ x = 12) : x.toInt < 0 ∨ 12 < x.toInt := by
  have h0 := lv_neT c0 (a := 0) (by decide)
  have h1 := lv_neT c1 (a := 1) (by decide)
  have h2 := lv_neT c2 (a := 2) (by decide)
  have h3 := lv_neT c3 (a := 3) (by decide)
  have h4 := lv_neT c4 (a := 4) (by decide)
  have h5 := lv_neT c5 (a := 5) (by decide)
  have h6 := lv_neT c6 (a := 6) (by decide)
  have h7 := lv_neT c7 (a := 7) (by decide)
  have h8 := lv_neT c8 (a := 8) (by decide)
  have h9 := lv_neT c9 (a := 9) (by decide)
  have h10 := lv_neT c10 (a := 10) (by decide)
  have h11 := lv_neT c11 (a := 11) (by decide)
  have h12 := lv_neT c12 (a := 12) (by decide)
  omega
/-- a timer's step: count, mode, fired, the answer -/
def tm_go (r li mo fi : Int32) : Int32 × Int32 × Int32 × Int32 :=
  if mo &&& 1 = 0 then (r, mo, fi, 0)
  else if r + 1 = li then (if mo &&& 2 = 0 then (r + 1, mo &&& (-2), 1, if mo &&& (-2) &&& 8 = 0 then 0 else 1) else (0, mo, 1, if mo &&& 8 = 0 then 0 else 1))
  else (r + 1, mo, fi, 0)
set_option maxRecDepth 100000 in
theorem J_Timer_goOn {sc : mm_Sc} {n : Nat} {h : mm_H} {a s : Nat} {r li mo fi : Int32} (ha : h a = some (.inr (4, [.int r, .int li, .int mo, .int fi, .ref s]))) : mm_J sc y_Timer_goOn 1 [.ref a] n h 0 0 (fun o n' h' => o = .inl (some (.int ((tm_go r li mo fi).2.2.2))) ∧ n' = n ∧ h' = va_up h a (some (.inr (4, [.int ((tm_go r li mo fi).1), .int li, .int ((tm_go r li mo fi).2.1), .int ((tm_go r li mo fi).2.2.1), .ref s])))) := by
  refine mm_J.of (show mm_G sc y_Timer_goOn 1 0 [some (.ref a)] [] n h 0 0 _ from ?_) ce_Timer_goOn.2.2.2.2.1 (Nat.le_of_ble_eq_true rfl) (by simp [Value.category])
  refine mm_aload_n d_Timer_goOn_0 rfl ?_
  refine mm_getf d_Timer_goOn_1 cl_Timer fl_Timer_16_Timer (by decide) ha rfl ?_
  refine mm_iconst (v := 1) d_Timer_goOn_4 (by decide) ?_
  refine mm_iand d_Timer_goOn_5 ?_
  refine mm_if_ne (tgt := 11) d_Timer_goOn_6 (by decide) (fun c_6 => ?_) (fun c_6 => ?_)
  · refine mm_aload_n d_Timer_goOn_11 rfl ?_
    refine mm_dup d_Timer_goOn_12 rfl ?_
    refine mm_getf d_Timer_goOn_13 cl_Timer fl_Timer_7_Timer (by decide) ha rfl ?_
    refine mm_iconst (v := 1) d_Timer_goOn_16 (by decide) ?_
    refine mm_iadd d_Timer_goOn_17 ?_
    refine mm_putf d_Timer_goOn_18 cl_Timer ty_Timer fl_Timer_7_Timer (by decide) rfl rfl rfl ha (Nat.le_of_ble_eq_true rfl) ?_
    refine mm_hp (fun h1 e1 => ?_)
    have ha_v1 : h1 a = some (.inr (4, [.int (r + 1), .int li, .int mo, .int fi, .ref s])) := by rw [e1]; exact va_up_self _ _ _
    refine mm_aload_n d_Timer_goOn_21 rfl ?_
    refine mm_getf d_Timer_goOn_22 cl_Timer fl_Timer_7_Timer (by decide) ha_v1 rfl ?_
    refine mm_aload_n d_Timer_goOn_25 rfl ?_
    refine mm_getf d_Timer_goOn_26 cl_Timer fl_Timer_13_Timer (by decide) ha_v1 rfl ?_
    refine mm_icmp_eq (tgt := 34) d_Timer_goOn_29 (by decide) (fun c_29 => ?_) (fun c_29 => ?_)
    · refine mm_aload_n d_Timer_goOn_34 rfl ?_
      refine mm_iconst (v := 1) d_Timer_goOn_35 (by decide) ?_
      refine mm_putf d_Timer_goOn_36 cl_Timer ty_Timer fl_Timer_19_Timer (by decide) rfl rfl rfl ha_v1 (Nat.le_of_ble_eq_true rfl) ?_
      refine mm_hp (fun h2 e2 => ?_)
      have ha_v2 : h2 a = some (.inr (4, [.int (r + 1), .int li, .int mo, .int 1, .ref s])) := by rw [e2]; exact va_up_self _ _ _
      refine mm_aload_n d_Timer_goOn_39 rfl ?_
      refine mm_getf d_Timer_goOn_40 cl_Timer fl_Timer_16_Timer (by decide) ha_v2 rfl ?_
      refine mm_iconst (v := 2) d_Timer_goOn_43 (by decide) ?_
      refine mm_iand d_Timer_goOn_44 ?_
      refine mm_if_eq (tgt := 56) d_Timer_goOn_45 (by decide) (fun c_45 => ?_) (fun c_45 => ?_)
      · refine mm_aload_n d_Timer_goOn_56 rfl ?_
        refine mm_dup d_Timer_goOn_57 rfl ?_
        refine mm_getf d_Timer_goOn_58 cl_Timer fl_Timer_16_Timer (by decide) ha_v2 rfl ?_
        refine mm_bipush (v := (-2)) d_Timer_goOn_61 (by decide) ?_
        refine mm_iand d_Timer_goOn_63 ?_
        refine mm_putf d_Timer_goOn_64 cl_Timer ty_Timer fl_Timer_16_Timer (by decide) rfl rfl rfl ha_v2 (Nat.le_of_ble_eq_true rfl) ?_
        refine mm_hp (fun h3 e3 => ?_)
        have ha_v3 : h3 a = some (.inr (4, [.int (r + 1), .int li, .int (mo &&& (-2)), .int 1, .ref s])) := by rw [e3]; exact va_up_self _ _ _
        refine mm_aload_n d_Timer_goOn_67 rfl ?_
        refine mm_getf d_Timer_goOn_68 cl_Timer fl_Timer_16_Timer (by decide) ha_v3 rfl ?_
        refine mm_bipush (v := 8) d_Timer_goOn_71 (by decide) ?_
        refine mm_iand d_Timer_goOn_73 ?_
        refine mm_if_eq (tgt := 81) d_Timer_goOn_74 (by decide) (fun c_74 => ?_) (fun c_74 => ?_)
        · refine mm_iconst (v := 0) d_Timer_goOn_81 (by decide) ?_
          exact mm_zreturn d_Timer_goOn_82 rfl rfl ⟨by simp [tm_go, c_6, c_29, c_45, c_74, bx_uu, e3, e2, e1], rfl, by simp [tm_go, c_6, c_29, c_45, c_74, bx_uu, e3, e2, e1, mm_up_id ha]⟩
        · refine mm_iconst (v := 1) d_Timer_goOn_77 (by decide) ?_
          refine mm_goto (tgt := 82) d_Timer_goOn_78 (by decide) ?_
          exact mm_zreturn d_Timer_goOn_82 rfl rfl ⟨by simp [tm_go, c_6, c_29, c_45, c_74, bx_uu, e3, e2, e1], rfl, by simp [tm_go, c_6, c_29, c_45, c_74, bx_uu, e3, e2, e1, mm_up_id ha]⟩
      · refine mm_aload_n d_Timer_goOn_48 rfl ?_
        refine mm_iconst (v := 0) d_Timer_goOn_49 (by decide) ?_
        refine mm_putf d_Timer_goOn_50 cl_Timer ty_Timer fl_Timer_7_Timer (by decide) rfl rfl rfl ha_v2 (Nat.le_of_ble_eq_true rfl) ?_
        refine mm_hp (fun h4 e4 => ?_)
        have ha_v4 : h4 a = some (.inr (4, [.int 0, .int li, .int mo, .int 1, .ref s])) := by rw [e4]; exact va_up_self _ _ _
        refine mm_goto (tgt := 67) d_Timer_goOn_53 (by decide) ?_
        refine mm_aload_n d_Timer_goOn_67 rfl ?_
        refine mm_getf d_Timer_goOn_68 cl_Timer fl_Timer_16_Timer (by decide) ha_v4 rfl ?_
        refine mm_bipush (v := 8) d_Timer_goOn_71 (by decide) ?_
        refine mm_iand d_Timer_goOn_73 ?_
        refine mm_if_eq (tgt := 81) d_Timer_goOn_74 (by decide) (fun c_74 => ?_) (fun c_74 => ?_)
        · refine mm_iconst (v := 0) d_Timer_goOn_81 (by decide) ?_
          exact mm_zreturn d_Timer_goOn_82 rfl rfl ⟨by simp [tm_go, c_6, c_29, c_45, c_74, bx_uu, e4, e2, e1], rfl, by simp [tm_go, c_6, c_29, c_45, c_74, bx_uu, e4, e2, e1, mm_up_id ha]⟩
        · refine mm_iconst (v := 1) d_Timer_goOn_77 (by decide) ?_
          refine mm_goto (tgt := 82) d_Timer_goOn_78 (by decide) ?_
          exact mm_zreturn d_Timer_goOn_82 rfl rfl ⟨by simp [tm_go, c_6, c_29, c_45, c_74, bx_uu, e4, e2, e1], rfl, by simp [tm_go, c_6, c_29, c_45, c_74, bx_uu, e4, e2, e1, mm_up_id ha]⟩
    · refine mm_iconst (v := 0) d_Timer_goOn_32 (by decide) ?_
      exact mm_zreturn d_Timer_goOn_33 rfl rfl ⟨by simp [tm_go, c_6, c_29, bx_uu, e1], rfl, by simp [tm_go, c_6, c_29, bx_uu, e1, mm_up_id ha]⟩
  · refine mm_iconst (v := 0) d_Timer_goOn_9 (by decide) ?_
    exact mm_zreturn d_Timer_goOn_10 rfl rfl ⟨by simp [tm_go, c_6, bx_uu], rfl, by simp [tm_go, c_6, bx_uu, mm_up_id ha]⟩
def tm_look (r li mo fi k : Int32) : Int32 := if k = 0 then r else if k = 1 then li else if k = 2 then mo else if k = 3 then fi else 0
set_option maxRecDepth 100000 in
theorem J_Timer_look {sc : mm_Sc} {n : Nat} {h : mm_H} {a s : Nat} {r li mo fi : Int32} {k : Int32} (ha : h a = some (.inr (4, [.int r, .int li, .int mo, .int fi, .ref s]))) : mm_J sc y_Timer_look 1 [.ref a, .int k] n h 0 0 (fun o n' h' => o = .inl (some (.int (tm_look r li mo fi k))) ∧ n' = n ∧ h' = h) := by
  refine mm_J.of (show mm_G sc y_Timer_look 1 0 [some (.ref a), some (.int k)] [] n h 0 0 _ from ?_) ce_Timer_look.2.2.2.2.1 (Nat.le_of_ble_eq_true rfl) (by simp [Value.category])
  refine mm_iload_n d_Timer_look_0 rfl ?_
  by_cases c_1_0 : k = 0
  · refine mm_tableIn (tgt := 32) (off := 31) d_Timer_look_1 (by rw [c_1_0]; decide) (by rw [c_1_0]; decide) (by rw [c_1_0]; decide) (by decide) ?_
    refine mm_aload_n d_Timer_look_32 rfl ?_
    refine mm_getf d_Timer_look_33 cl_Timer fl_Timer_7_Timer (by decide) ha rfl ?_
    exact mm_ireturn d_Timer_look_36 rfl ⟨by simp [tm_look, c_1_0, bx_uu], rfl, by simp [tm_look, c_1_0, bx_uu, mm_up_id ha]⟩
  by_cases c_1_1 : k = 1
  · refine mm_tableIn (tgt := 37) (off := 36) d_Timer_look_1 (by rw [c_1_1]; decide) (by rw [c_1_1]; decide) (by rw [c_1_1]; decide) (by decide) ?_
    refine mm_aload_n d_Timer_look_37 rfl ?_
    refine mm_getf d_Timer_look_38 cl_Timer fl_Timer_13_Timer (by decide) ha rfl ?_
    exact mm_ireturn d_Timer_look_41 rfl ⟨by simp [tm_look, c_1_0, c_1_1, bx_uu], rfl, by simp [tm_look, c_1_0, c_1_1, bx_uu, mm_up_id ha]⟩
  by_cases c_1_2 : k = 2
  · refine mm_tableIn (tgt := 42) (off := 41) d_Timer_look_1 (by rw [c_1_2]; decide) (by rw [c_1_2]; decide) (by rw [c_1_2]; decide) (by decide) ?_
    refine mm_aload_n d_Timer_look_42 rfl ?_
    refine mm_getf d_Timer_look_43 cl_Timer fl_Timer_16_Timer (by decide) ha rfl ?_
    exact mm_ireturn d_Timer_look_46 rfl ⟨by simp [tm_look, c_1_0, c_1_1, c_1_2, bx_uu], rfl, by simp [tm_look, c_1_0, c_1_1, c_1_2, bx_uu, mm_up_id ha]⟩
  by_cases c_1_3 : k = 3
  · refine mm_tableIn (tgt := 47) (off := 46) d_Timer_look_1 (by rw [c_1_3]; decide) (by rw [c_1_3]; decide) (by rw [c_1_3]; decide) (by decide) ?_
    refine mm_aload_n d_Timer_look_47 rfl ?_
    refine mm_getf d_Timer_look_48 cl_Timer fl_Timer_19_Timer (by decide) ha rfl ?_
    exact mm_ireturn d_Timer_look_51 rfl ⟨by simp [tm_look, c_1_0, c_1_1, c_1_2, c_1_3, bx_uu], rfl, by simp [tm_look, c_1_0, c_1_1, c_1_2, c_1_3, bx_uu, mm_up_id ha]⟩
  refine mm_tableOut (tgt := 52) d_Timer_look_1 (mm_tsw4 c_1_0 c_1_1 c_1_2 c_1_3) (by decide) ?_
  refine mm_iconst (v := 0) d_Timer_look_52 (by decide) ?_
  exact mm_ireturn d_Timer_look_53 rfl ⟨by simp [tm_look, c_1_0, c_1_1, c_1_2, c_1_3, bx_uu], rfl, by simp [tm_look, c_1_0, c_1_1, c_1_2, c_1_3, bx_uu, mm_up_id ha]⟩
set_option maxRecDepth 100000 in
theorem J_Timer_put {sc : mm_Sc} {n : Nat} {h : mm_H} {a s : Nat} {r li mo fi : Int32} {k v : Int32} (ha : h a = some (.inr (4, [.int r, .int li, .int mo, .int fi, .ref s]))) : mm_J sc y_Timer_put 1 [.ref a, .int k, .int v] n h 0 0 (fun o n' h' => o = .inl (none) ∧ n' = n ∧ h' = va_up h a (some (.inr (4, [.int (if k = 0 then v else r), .int (if k = 1 then v else li), .int (if k = 2 then v &&& 15 else mo), .int (if k = 3 then 0 else fi), .ref s])))) := by
  refine mm_J.of (show mm_G sc y_Timer_put 1 0 [some (.ref a), some (.int k), some (.int v)] [] n h 0 0 _ from ?_) ce_Timer_put.2.2.2.2.1 (Nat.le_of_ble_eq_true rfl) (by simp [Value.category])
  refine mm_iload_n d_Timer_put_0 rfl ?_
  by_cases c_1_0 : k = 0
  · refine mm_tableIn (tgt := 32) (off := 31) d_Timer_put_1 (by rw [c_1_0]; decide) (by rw [c_1_0]; decide) (by rw [c_1_0]; decide) (by decide) ?_
    refine mm_aload_n d_Timer_put_32 rfl ?_
    refine mm_iload_n d_Timer_put_33 rfl ?_
    refine mm_putf d_Timer_put_34 cl_Timer ty_Timer fl_Timer_7_Timer (by decide) rfl rfl rfl ha (Nat.le_of_ble_eq_true rfl) ?_
    refine mm_hp (fun h1 e1 => ?_)
    have ha_v1 : h1 a = some (.inr (4, [.int v, .int li, .int mo, .int fi, .ref s])) := by rw [e1]; exact va_up_self _ _ _
    refine mm_goto (tgt := 67) d_Timer_put_37 (by decide) ?_
    exact mm_return d_Timer_put_67 rfl ⟨by simp [c_1_0, bx_uu, e1], rfl, by simp [c_1_0, bx_uu, e1, mm_up_id ha]⟩
  by_cases c_1_1 : k = 1
  · refine mm_tableIn (tgt := 40) (off := 39) d_Timer_put_1 (by rw [c_1_1]; decide) (by rw [c_1_1]; decide) (by rw [c_1_1]; decide) (by decide) ?_
    refine mm_aload_n d_Timer_put_40 rfl ?_
    refine mm_iload_n d_Timer_put_41 rfl ?_
    refine mm_putf d_Timer_put_42 cl_Timer ty_Timer fl_Timer_13_Timer (by decide) rfl rfl rfl ha (Nat.le_of_ble_eq_true rfl) ?_
    refine mm_hp (fun h2 e2 => ?_)
    have ha_v2 : h2 a = some (.inr (4, [.int r, .int v, .int mo, .int fi, .ref s])) := by rw [e2]; exact va_up_self _ _ _
    refine mm_goto (tgt := 67) d_Timer_put_45 (by decide) ?_
    exact mm_return d_Timer_put_67 rfl ⟨by simp [c_1_0, c_1_1, bx_uu, e2], rfl, by simp [c_1_0, c_1_1, bx_uu, e2, mm_up_id ha]⟩
  by_cases c_1_2 : k = 2
  · refine mm_tableIn (tgt := 48) (off := 47) d_Timer_put_1 (by rw [c_1_2]; decide) (by rw [c_1_2]; decide) (by rw [c_1_2]; decide) (by decide) ?_
    refine mm_aload_n d_Timer_put_48 rfl ?_
    refine mm_iload_n d_Timer_put_49 rfl ?_
    refine mm_bipush (v := 15) d_Timer_put_50 (by decide) ?_
    refine mm_iand d_Timer_put_52 ?_
    refine mm_putf d_Timer_put_53 cl_Timer ty_Timer fl_Timer_16_Timer (by decide) rfl rfl rfl ha (Nat.le_of_ble_eq_true rfl) ?_
    refine mm_hp (fun h3 e3 => ?_)
    have ha_v3 : h3 a = some (.inr (4, [.int r, .int li, .int (v &&& 15), .int fi, .ref s])) := by rw [e3]; exact va_up_self _ _ _
    refine mm_goto (tgt := 67) d_Timer_put_56 (by decide) ?_
    exact mm_return d_Timer_put_67 rfl ⟨by simp [c_1_0, c_1_1, c_1_2, bx_uu, e3], rfl, by simp [c_1_0, c_1_1, c_1_2, bx_uu, e3, mm_up_id ha]⟩
  by_cases c_1_3 : k = 3
  · refine mm_tableIn (tgt := 59) (off := 58) d_Timer_put_1 (by rw [c_1_3]; decide) (by rw [c_1_3]; decide) (by rw [c_1_3]; decide) (by decide) ?_
    refine mm_aload_n d_Timer_put_59 rfl ?_
    refine mm_iconst (v := 0) d_Timer_put_60 (by decide) ?_
    refine mm_putf d_Timer_put_61 cl_Timer ty_Timer fl_Timer_19_Timer (by decide) rfl rfl rfl ha (Nat.le_of_ble_eq_true rfl) ?_
    refine mm_hp (fun h4 e4 => ?_)
    have ha_v4 : h4 a = some (.inr (4, [.int r, .int li, .int mo, .int 0, .ref s])) := by rw [e4]; exact va_up_self _ _ _
    refine mm_goto (tgt := 67) d_Timer_put_64 (by decide) ?_
    exact mm_return d_Timer_put_67 rfl ⟨by simp [c_1_0, c_1_1, c_1_2, c_1_3, bx_uu, e4], rfl, by simp [c_1_0, c_1_1, c_1_2, c_1_3, bx_uu, e4, mm_up_id ha]⟩
  refine mm_tableOut (tgt := 67) d_Timer_put_1 (mm_tsw4 c_1_0 c_1_1 c_1_2 c_1_3) (by decide) ?_
  exact mm_return d_Timer_put_67 rfl ⟨by simp [c_1_0, c_1_1, c_1_2, c_1_3, bx_uu], rfl, by simp [c_1_0, c_1_1, c_1_2, c_1_3, bx_uu, mm_up_id ha]⟩
def tm_asks (mo fi : Int32) : Int32 := if mo &&& 4 = 0 then 0 else if fi = 1 then 1 else 0
set_option maxRecDepth 100000 in
theorem J_Timer_wantsAttention {sc : mm_Sc} {n : Nat} {h : mm_H} {a s : Nat} {r li mo fi : Int32} (ha : h a = some (.inr (4, [.int r, .int li, .int mo, .int fi, .ref s]))) : mm_J sc y_Timer_wantsAttention 1 [.ref a] n h 0 0 (fun o n' h' => o = .inl (some (.int (tm_asks mo fi))) ∧ n' = n ∧ h' = h) := by
  refine mm_J.of (show mm_G sc y_Timer_wantsAttention 1 0 [some (.ref a)] [] n h 0 0 _ from ?_) ce_Timer_wantsAttention.2.2.2.2.1 (Nat.le_of_ble_eq_true rfl) (by simp [Value.category])
  refine mm_aload_n d_Timer_wantsAttention_0 rfl ?_
  refine mm_getf d_Timer_wantsAttention_1 cl_Timer fl_Timer_16_Timer (by decide) ha rfl ?_
  refine mm_iconst (v := 4) d_Timer_wantsAttention_4 (by decide) ?_
  refine mm_iand d_Timer_wantsAttention_5 ?_
  refine mm_if_eq (tgt := 21) d_Timer_wantsAttention_6 (by decide) (fun c_6 => ?_) (fun c_6 => ?_)
  · refine mm_iconst (v := 0) d_Timer_wantsAttention_21 (by decide) ?_
    exact mm_zreturn d_Timer_wantsAttention_22 rfl rfl ⟨by simp [tm_asks, c_6, bx_uu], rfl, by simp [tm_asks, c_6, bx_uu, mm_up_id ha]⟩
  · refine mm_aload_n d_Timer_wantsAttention_9 rfl ?_
    refine mm_getf d_Timer_wantsAttention_10 cl_Timer fl_Timer_19_Timer (by decide) ha rfl ?_
    refine mm_iconst (v := 1) d_Timer_wantsAttention_13 (by decide) ?_
    refine mm_icmp_ne (tgt := 21) d_Timer_wantsAttention_14 (by decide) (fun c_14 => ?_) (fun c_14 => ?_)
    · refine mm_iconst (v := 0) d_Timer_wantsAttention_21 (by decide) ?_
      exact mm_zreturn d_Timer_wantsAttention_22 rfl rfl ⟨by simp [tm_asks, c_6, c_14, bx_uu], rfl, by simp [tm_asks, c_6, c_14, bx_uu, mm_up_id ha]⟩
    · refine mm_iconst (v := 1) d_Timer_wantsAttention_17 (by decide) ?_
      refine mm_goto (tgt := 22) d_Timer_wantsAttention_18 (by decide) ?_
      exact mm_zreturn d_Timer_wantsAttention_22 rfl rfl ⟨by simp [tm_asks, c_6, c_14, bx_uu], rfl, by simp [tm_asks, c_6, c_14, bx_uu, mm_up_id ha]⟩
set_option maxRecDepth 100000 in
theorem J_Timer_beginAnew {sc : mm_Sc} {n : Nat} {h : mm_H} {a s : Nat} {r li mo fi : Int32} (ha : h a = some (.inr (4, [.int r, .int li, .int mo, .int fi, .ref s]))) : mm_J sc y_Timer_beginAnew 1 [.ref a] n h 0 0 (fun o n' h' => o = .inl (none) ∧ n' = n ∧ h' = va_up h a (some (.inr (4, [.int 0, .int 0, .int 0, .int 0, .ref s])))) := by
  refine mm_J.of (show mm_G sc y_Timer_beginAnew 1 0 [some (.ref a)] [] n h 0 0 _ from ?_) ce_Timer_beginAnew.2.2.2.2.1 (Nat.le_of_ble_eq_true rfl) (by simp [Value.category])
  refine mm_aload_n d_Timer_beginAnew_0 rfl ?_
  refine mm_iconst (v := 0) d_Timer_beginAnew_1 (by decide) ?_
  refine mm_putf d_Timer_beginAnew_2 cl_Timer ty_Timer fl_Timer_7_Timer (by decide) rfl rfl rfl ha (Nat.le_of_ble_eq_true rfl) ?_
  refine mm_hp (fun h1 e1 => ?_)
  have ha_v1 : h1 a = some (.inr (4, [.int 0, .int li, .int mo, .int fi, .ref s])) := by rw [e1]; exact va_up_self _ _ _
  refine mm_aload_n d_Timer_beginAnew_5 rfl ?_
  refine mm_iconst (v := 0) d_Timer_beginAnew_6 (by decide) ?_
  refine mm_putf d_Timer_beginAnew_7 cl_Timer ty_Timer fl_Timer_13_Timer (by decide) rfl rfl rfl ha_v1 (Nat.le_of_ble_eq_true rfl) ?_
  refine mm_hp (fun h2 e2 => ?_)
  have ha_v2 : h2 a = some (.inr (4, [.int 0, .int 0, .int mo, .int fi, .ref s])) := by rw [e2]; exact va_up_self _ _ _
  refine mm_aload_n d_Timer_beginAnew_10 rfl ?_
  refine mm_iconst (v := 0) d_Timer_beginAnew_11 (by decide) ?_
  refine mm_putf d_Timer_beginAnew_12 cl_Timer ty_Timer fl_Timer_16_Timer (by decide) rfl rfl rfl ha_v2 (Nat.le_of_ble_eq_true rfl) ?_
  refine mm_hp (fun h3 e3 => ?_)
  have ha_v3 : h3 a = some (.inr (4, [.int 0, .int 0, .int 0, .int fi, .ref s])) := by rw [e3]; exact va_up_self _ _ _
  refine mm_aload_n d_Timer_beginAnew_15 rfl ?_
  refine mm_iconst (v := 0) d_Timer_beginAnew_16 (by decide) ?_
  refine mm_putf d_Timer_beginAnew_17 cl_Timer ty_Timer fl_Timer_19_Timer (by decide) rfl rfl rfl ha_v3 (Nat.le_of_ble_eq_true rfl) ?_
  refine mm_hp (fun h4 e4 => ?_)
  have ha_v4 : h4 a = some (.inr (4, [.int 0, .int 0, .int 0, .int 0, .ref s])) := by rw [e4]; exact va_up_self _ _ _
  exact mm_return d_Timer_beginAnew_20 rfl ⟨by simp [bx_uu, e4, e3, e2, e1], rfl, by simp [bx_uu, e4, e3, e2, e1, mm_up_id ha]⟩
end
section
set_option maxRecDepth 100000 in
theorem J_Seat_init {sc : mm_Sc} {n : Nat} {h : mm_H} {a : Nat} {f l li w : Int32} (ha : h a = some (.inr (2, [.int 0, .int 0, .int 0, .int 0]))) : mm_J sc y_Seat_init 2 [.ref a, .int f, .int l, .int li, .int w] n h 0 0 (fun o n' h' => o = .inl (none) ∧ n' = n ∧ h' = va_up h a (some (.inr (2, [.int f, .int l, .int li, .int w])))) := by
  refine mm_J.of (show mm_G sc y_Seat_init 2 0 [some (.ref a), some (.int f), some (.int l), some (.int li), some (.int w)] [] n h 0 0 _ from ?_) ce_Seat_init.2.2.2.2.1 (Nat.le_of_ble_eq_true rfl) (by simp [Value.category])
  refine mm_aload_n d_Seat_init_0 rfl ?_
  refine mm_objInit d_Seat_init_1 m_252 m_25 m_26 (by decide) (Nat.le_of_ble_eq_true rfl) ?_
  refine mm_aload_n d_Seat_init_4 rfl ?_
  refine mm_iload_n d_Seat_init_5 rfl ?_
  refine mm_putfF (k := 0) d_Seat_init_6 cl_Seat ty_Seat m_253 (by decide) rfl rfl rfl rfl rfl ha (Nat.le_of_ble_eq_true rfl) ?_
  refine mm_hp (fun h1 e1 => ?_)
  have ha_v1 : h1 a = some (.inr (2, [.int f, .int 0, .int 0, .int 0])) := by rw [e1]; exact va_up_self _ _ _
  refine mm_aload_n d_Seat_init_9 rfl ?_
  refine mm_iload_n d_Seat_init_10 rfl ?_
  refine mm_putfF (k := 1) d_Seat_init_11 cl_Seat ty_Seat m_256 (by decide) rfl rfl rfl rfl rfl ha_v1 (Nat.le_of_ble_eq_true rfl) ?_
  refine mm_hp (fun h2 e2 => ?_)
  have ha_v2 : h2 a = some (.inr (2, [.int f, .int l, .int 0, .int 0])) := by rw [e2]; exact va_up_self _ _ _
  refine mm_aload_n d_Seat_init_14 rfl ?_
  refine mm_iload_n d_Seat_init_15 rfl ?_
  refine mm_putfF (k := 2) d_Seat_init_16 cl_Seat ty_Seat m_257 (by decide) rfl rfl rfl rfl rfl ha_v2 (Nat.le_of_ble_eq_true rfl) ?_
  refine mm_hp (fun h3 e3 => ?_)
  have ha_v3 : h3 a = some (.inr (2, [.int f, .int l, .int li, .int 0])) := by rw [e3]; exact va_up_self _ _ _
  refine mm_aload_n d_Seat_init_19 rfl ?_
  refine mm_iload d_Seat_init_20 rfl ?_
  refine mm_putfF (k := 3) d_Seat_init_22 cl_Seat ty_Seat m_259 (by decide) rfl rfl rfl rfl rfl ha_v3 (Nat.le_of_ble_eq_true rfl) ?_
  refine mm_hp (fun h4 e4 => ?_)
  have ha_v4 : h4 a = some (.inr (2, [.int f, .int l, .int li, .int w])) := by rw [e4]; exact va_up_self _ _ _
  exact mm_return d_Seat_init_25 rfl (by first | (refine ⟨?_, rfl, ?_⟩ <;> simp [bx_uu, e4, e3, e2, e1] <;> done) | (exfalso; simp_all; done))
set_option maxRecDepth 100000 in
theorem J_Seat_accessSteps {sc : mm_Sc} {n : Nat} {h : mm_H} {a : Nat} {f l li w : Int32} (ha : h a = some (.inr (2, [.int f, .int l, .int li, .int w]))) : mm_J sc y_Seat_accessSteps 1 [.ref a] n h 0 0 (fun o n' h' => o = .inl (some (.int (1 + w))) ∧ n' = n ∧ h' = h) := by
  refine mm_J.of (show mm_G sc y_Seat_accessSteps 1 0 [some (.ref a)] [] n h 0 0 _ from ?_) ce_Seat_accessSteps.2.2.2.2.1 (Nat.le_of_ble_eq_true rfl) (by simp [Value.category])
  refine mm_iconst (v := 1) d_Seat_accessSteps_0 (by decide) ?_
  refine mm_aload_n d_Seat_accessSteps_1 rfl ?_
  refine mm_getf d_Seat_accessSteps_2 cl_Seat fl_Seat_19_Seat (by decide) ha rfl ?_
  refine mm_iadd d_Seat_accessSteps_5 ?_
  exact mm_ireturn d_Seat_accessSteps_6 rfl ⟨by simp [], rfl, by first | exact Eq.refl h | exact mm_up_idE ha (by simp [])⟩
def st_meets (f l p k : Int32) : Int32 := if p < f then (if p < 0 then 0 else if f - p < k then 1 else 0) else if p - f < l then 1 else 0
set_option maxRecDepth 100000 in
theorem J_Seat_meets {sc : mm_Sc} {n : Nat} {h : mm_H} {a : Nat} {f l li w : Int32} {p k : Int32} (ha : h a = some (.inr (2, [.int f, .int l, .int li, .int w]))) : mm_J sc y_Seat_meets 1 [.ref a, .int p, .int k] n h 0 0 (fun o n' h' => o = .inl (some (.int (st_meets f l p k))) ∧ n' = n ∧ h' = h) := by
  refine mm_J.of (show mm_G sc y_Seat_meets 1 0 [some (.ref a), some (.int p), some (.int k)] [] n h 0 0 _ from ?_) ce_Seat_meets.2.2.2.2.1 (Nat.le_of_ble_eq_true rfl) (by simp [Value.category])
  refine mm_iload_n d_Seat_meets_0 rfl ?_
  refine mm_aload_n d_Seat_meets_1 rfl ?_
  refine mm_getf d_Seat_meets_2 cl_Seat fl_Seat_7_Seat (by decide) ha rfl ?_
  refine mm_icmp_lt (tgt := 29) d_Seat_meets_5 (by decide) (fun c_5 => ?_) (fun c_5 => ?_)
  · refine mm_iload_n d_Seat_meets_29 rfl ?_
    refine mm_if_lt (tgt := 47) d_Seat_meets_30 (by decide) (fun c_30 => ?_) (fun c_30 => ?_)
    · refine mm_iconst (v := 0) d_Seat_meets_47 (by decide) ?_
      exact mm_zreturn d_Seat_meets_48 rfl rfl ⟨by simp [st_meets, c_5, Int32.not_le.mpr c_5, c_30, Int32.not_le.mpr c_30], rfl, by first | exact Eq.refl h | exact mm_up_idE ha (by simp [st_meets, c_5, Int32.not_le.mpr c_5, c_30, Int32.not_le.mpr c_30])⟩
    · refine mm_aload_n d_Seat_meets_33 rfl ?_
      refine mm_getf d_Seat_meets_34 cl_Seat fl_Seat_7_Seat (by decide) ha rfl ?_
      refine mm_iload_n d_Seat_meets_37 rfl ?_
      refine mm_isub d_Seat_meets_38 ?_
      refine mm_iload_n d_Seat_meets_39 rfl ?_
      refine mm_icmp_ge (tgt := 47) d_Seat_meets_40 (by decide) (fun c_40 => ?_) (fun c_40 => ?_)
      · refine mm_iconst (v := 0) d_Seat_meets_47 (by decide) ?_
        exact mm_zreturn d_Seat_meets_48 rfl rfl ⟨by simp [st_meets, c_5, Int32.not_le.mpr c_5, c_30, Int32.not_lt.mp c_30, c_40, Int32.not_lt.mpr c_40], rfl, by first | exact Eq.refl h | exact mm_up_idE ha (by simp [st_meets, c_5, Int32.not_le.mpr c_5, c_30, Int32.not_lt.mp c_30, c_40, Int32.not_lt.mpr c_40])⟩
      · refine mm_iconst (v := 1) d_Seat_meets_43 (by decide) ?_
        refine mm_goto (tgt := 48) d_Seat_meets_44 (by decide) ?_
        exact mm_zreturn d_Seat_meets_48 rfl rfl ⟨by simp [st_meets, c_5, Int32.not_le.mpr c_5, c_30, Int32.not_lt.mp c_30, c_40, Int32.not_le.mp c_40], rfl, by first | exact Eq.refl h | exact mm_up_idE ha (by simp [st_meets, c_5, Int32.not_le.mpr c_5, c_30, Int32.not_lt.mp c_30, c_40, Int32.not_le.mp c_40])⟩
  · refine mm_iload_n d_Seat_meets_8 rfl ?_
    refine mm_aload_n d_Seat_meets_9 rfl ?_
    refine mm_getf d_Seat_meets_10 cl_Seat fl_Seat_7_Seat (by decide) ha rfl ?_
    refine mm_isub d_Seat_meets_13 ?_
    refine mm_aload_n d_Seat_meets_14 rfl ?_
    refine mm_getf d_Seat_meets_15 cl_Seat fl_Seat_13_Seat (by decide) ha rfl ?_
    refine mm_icmp_ge (tgt := 25) d_Seat_meets_18 (by decide) (fun c_18 => ?_) (fun c_18 => ?_)
    · refine mm_iconst (v := 0) d_Seat_meets_25 (by decide) ?_
      refine mm_goto (tgt := 48) d_Seat_meets_26 (by decide) ?_
      exact mm_zreturn d_Seat_meets_48 rfl rfl ⟨by simp [st_meets, c_5, Int32.not_lt.mp c_5, c_18, Int32.not_lt.mpr c_18], rfl, by first | exact Eq.refl h | exact mm_up_idE ha (by simp [st_meets, c_5, Int32.not_lt.mp c_5, c_18, Int32.not_lt.mpr c_18])⟩
    · refine mm_iconst (v := 1) d_Seat_meets_21 (by decide) ?_
      refine mm_goto (tgt := 48) d_Seat_meets_22 (by decide) ?_
      exact mm_zreturn d_Seat_meets_48 rfl rfl ⟨by simp [st_meets, c_5, Int32.not_lt.mp c_5, c_18, Int32.not_le.mp c_18], rfl, by first | exact Eq.refl h | exact mm_up_idE ha (by simp [st_meets, c_5, Int32.not_lt.mp c_5, c_18, Int32.not_le.mp c_18])⟩
set_option maxRecDepth 100000 in
theorem J_Part_refusesWrites {sc : mm_Sc} {n : Nat} {h : mm_H} {a : Nat}  : mm_J sc y_Part_refusesWrites 1 [.ref a] n h 0 0 (fun o n' h' => o = .inl (some (.int 0)) ∧ n' = n ∧ h' = h) := by
  refine mm_J.of (show mm_G sc y_Part_refusesWrites 1 0 [some (.ref a)] [] n h 0 0 _ from ?_) ce_Part_refusesWrites.2.2.2.2.1 (Nat.le_of_ble_eq_true rfl) (by simp [Value.category])
  refine mm_iconst (v := 0) d_Part_refusesWrites_0 (by decide) ?_
  exact mm_zreturn d_Part_refusesWrites_1 rfl rfl ⟨by simp [], rfl, rfl⟩
set_option maxRecDepth 100000 in
theorem J_Part_goOn {sc : mm_Sc} {n : Nat} {h : mm_H} {a : Nat}  : mm_J sc y_Part_goOn 1 [.ref a] n h 0 0 (fun o n' h' => o = .inl (some (.int 0)) ∧ n' = n ∧ h' = h) := by
  refine mm_J.of (show mm_G sc y_Part_goOn 1 0 [some (.ref a)] [] n h 0 0 _ from ?_) ce_Part_goOn.2.2.2.2.1 (Nat.le_of_ble_eq_true rfl) (by simp [Value.category])
  refine mm_iconst (v := 0) d_Part_goOn_0 (by decide) ?_
  exact mm_zreturn d_Part_goOn_1 rfl rfl ⟨by simp [], rfl, rfl⟩
set_option maxRecDepth 100000 in
theorem J_Part_wantsAttention {sc : mm_Sc} {n : Nat} {h : mm_H} {a : Nat}  : mm_J sc y_Part_wantsAttention 1 [.ref a] n h 0 0 (fun o n' h' => o = .inl (some (.int 0)) ∧ n' = n ∧ h' = h) := by
  refine mm_J.of (show mm_G sc y_Part_wantsAttention 1 0 [some (.ref a)] [] n h 0 0 _ from ?_) ce_Part_wantsAttention.2.2.2.2.1 (Nat.le_of_ble_eq_true rfl) (by simp [Value.category])
  refine mm_iconst (v := 0) d_Part_wantsAttention_0 (by decide) ?_
  exact mm_zreturn d_Part_wantsAttention_1 rfl rfl ⟨by simp [], rfl, rfl⟩
set_option maxRecDepth 100000 in
theorem J_Part_beginAnew {sc : mm_Sc} {n : Nat} {h : mm_H} {a : Nat}  : mm_J sc y_Part_beginAnew 1 [.ref a] n h 0 0 (fun o n' h' => o = .inl (none) ∧ n' = n ∧ h' = h) := by
  refine mm_J.of (show mm_G sc y_Part_beginAnew 1 0 [some (.ref a)] [] n h 0 0 _ from ?_) ce_Part_beginAnew.2.2.2.2.1 (Nat.le_of_ble_eq_true rfl) (by simp [Value.category])
  exact mm_return d_Part_beginAnew_0 rfl ⟨by simp [], rfl, rfl⟩
set_option maxRecDepth 100000 in
theorem J_Part_init_Cells {sc : mm_Sc} {n : Nat} {h : mm_H} {a s : Nat} (ha : h a = some (.inr (3, [.null, .int 0, .null]))) : mm_J sc y_Part_init 2 [.ref a, .ref s] n h 0 0 (fun o n' h' => o = .inl (none) ∧ n' = n ∧ h' = va_up h a (some (.inr (3, [.null, .int 0, .ref s])))) := by
  refine mm_J.of (show mm_G sc y_Part_init 2 0 [some (.ref a), some (.ref s)] [] n h 0 0 _ from ?_) ce_Part_init.2.2.2.2.1 (Nat.le_of_ble_eq_true rfl) (by simp [Value.category])
  refine mm_aload_n d_Part_init_0 rfl ?_
  refine mm_objInit d_Part_init_1 m_280 m_25 m_26 (by decide) (Nat.le_of_ble_eq_true rfl) ?_
  refine mm_aload_n d_Part_init_4 rfl ?_
  refine mm_aload_n d_Part_init_5 rfl ?_
  refine mm_putfF (k := 2) d_Part_init_6 cl_Cells ty_Cells m_283 (by decide) rfl rfl rfl rfl rfl ha (Nat.le_of_ble_eq_true rfl) ?_
  refine mm_hp (fun h1 e1 => ?_)
  have ha_v1 : h1 a = some (.inr (3, [.null, .int 0, .ref s])) := by rw [e1]; exact va_up_self _ _ _
  exact mm_return d_Part_init_9 rfl (by first | (refine ⟨?_, rfl, ?_⟩ <;> simp [bx_uu, e1] <;> done) | (exfalso; simp_all; done))
set_option maxRecDepth 100000 in
theorem J_Part_init_Timer {sc : mm_Sc} {n : Nat} {h : mm_H} {a s : Nat} (ha : h a = some (.inr (4, [.int 0, .int 0, .int 0, .int 0, .null]))) : mm_J sc y_Part_init 2 [.ref a, .ref s] n h 0 0 (fun o n' h' => o = .inl (none) ∧ n' = n ∧ h' = va_up h a (some (.inr (4, [.int 0, .int 0, .int 0, .int 0, .ref s])))) := by
  refine mm_J.of (show mm_G sc y_Part_init 2 0 [some (.ref a), some (.ref s)] [] n h 0 0 _ from ?_) ce_Part_init.2.2.2.2.1 (Nat.le_of_ble_eq_true rfl) (by simp [Value.category])
  refine mm_aload_n d_Part_init_0 rfl ?_
  refine mm_objInit d_Part_init_1 m_280 m_25 m_26 (by decide) (Nat.le_of_ble_eq_true rfl) ?_
  refine mm_aload_n d_Part_init_4 rfl ?_
  refine mm_aload_n d_Part_init_5 rfl ?_
  refine mm_putfF (k := 4) d_Part_init_6 cl_Timer ty_Timer m_283 (by decide) rfl rfl rfl rfl rfl ha (Nat.le_of_ble_eq_true rfl) ?_
  refine mm_hp (fun h1 e1 => ?_)
  have ha_v1 : h1 a = some (.inr (4, [.int 0, .int 0, .int 0, .int 0, .ref s])) := by rw [e1]; exact va_up_self _ _ _
  exact mm_return d_Part_init_9 rfl (by first | (refine ⟨?_, rfl, ?_⟩ <;> simp [bx_uu, e1] <;> done) | (exfalso; simp_all; done))
set_option maxRecDepth 100000 in
theorem J_Part_init_Serial {sc : mm_Sc} {n : Nat} {h : mm_H} {a s : Nat} (ha : h a = some (.inr (5, [.null, .int 0, .int 0, .null, .int 0, .int 0, .int 0, .int 0, .null]))) : mm_J sc y_Part_init 2 [.ref a, .ref s] n h 0 0 (fun o n' h' => o = .inl (none) ∧ n' = n ∧ h' = va_up h a (some (.inr (5, [.null, .int 0, .int 0, .null, .int 0, .int 0, .int 0, .int 0, .ref s])))) := by
  refine mm_J.of (show mm_G sc y_Part_init 2 0 [some (.ref a), some (.ref s)] [] n h 0 0 _ from ?_) ce_Part_init.2.2.2.2.1 (Nat.le_of_ble_eq_true rfl) (by simp [Value.category])
  refine mm_aload_n d_Part_init_0 rfl ?_
  refine mm_objInit d_Part_init_1 m_280 m_25 m_26 (by decide) (Nat.le_of_ble_eq_true rfl) ?_
  refine mm_aload_n d_Part_init_4 rfl ?_
  refine mm_aload_n d_Part_init_5 rfl ?_
  refine mm_putfF (k := 8) d_Part_init_6 cl_Serial ty_Serial m_283 (by decide) rfl rfl rfl rfl rfl ha (Nat.le_of_ble_eq_true rfl) ?_
  refine mm_hp (fun h1 e1 => ?_)
  have ha_v1 : h1 a = some (.inr (5, [.null, .int 0, .int 0, .null, .int 0, .int 0, .int 0, .int 0, .ref s])) := by rw [e1]; exact va_up_self _ _ _
  exact mm_return d_Part_init_9 rfl (by first | (refine ⟨?_, rfl, ?_⟩ <;> simp [bx_uu, e1] <;> done) | (exfalso; simp_all; done))
set_option maxRecDepth 100000 in
theorem J_Part_init_Rows {sc : mm_Sc} {n : Nat} {h : mm_H} {a s : Nat} (ha : h a = some (.inr (6, [.null, .null, .int 0, .int 0, .int 0, .int 0, .int 0, .null]))) : mm_J sc y_Part_init 2 [.ref a, .ref s] n h 0 0 (fun o n' h' => o = .inl (none) ∧ n' = n ∧ h' = va_up h a (some (.inr (6, [.null, .null, .int 0, .int 0, .int 0, .int 0, .int 0, .ref s])))) := by
  refine mm_J.of (show mm_G sc y_Part_init 2 0 [some (.ref a), some (.ref s)] [] n h 0 0 _ from ?_) ce_Part_init.2.2.2.2.1 (Nat.le_of_ble_eq_true rfl) (by simp [Value.category])
  refine mm_aload_n d_Part_init_0 rfl ?_
  refine mm_objInit d_Part_init_1 m_280 m_25 m_26 (by decide) (Nat.le_of_ble_eq_true rfl) ?_
  refine mm_aload_n d_Part_init_4 rfl ?_
  refine mm_aload_n d_Part_init_5 rfl ?_
  refine mm_putfF (k := 7) d_Part_init_6 cl_Rows ty_Rows m_283 (by decide) rfl rfl rfl rfl rfl ha (Nat.le_of_ble_eq_true rfl) ?_
  refine mm_hp (fun h1 e1 => ?_)
  have ha_v1 : h1 a = some (.inr (6, [.null, .null, .int 0, .int 0, .int 0, .int 0, .int 0, .ref s])) := by rw [e1]; exact va_up_self _ _ _
  exact mm_return d_Part_init_9 rfl (by first | (refine ⟨?_, rfl, ?_⟩ <;> simp [bx_uu, e1] <;> done) | (exfalso; simp_all; done))
set_option maxRecDepth 100000 in
theorem J_Part_init_Counts {sc : mm_Sc} {n : Nat} {h : mm_H} {a s : Nat} (ha : h a = some (.inr (7, [.null, .null]))) : mm_J sc y_Part_init 2 [.ref a, .ref s] n h 0 0 (fun o n' h' => o = .inl (none) ∧ n' = n ∧ h' = va_up h a (some (.inr (7, [.null, .ref s])))) := by
  refine mm_J.of (show mm_G sc y_Part_init 2 0 [some (.ref a), some (.ref s)] [] n h 0 0 _ from ?_) ce_Part_init.2.2.2.2.1 (Nat.le_of_ble_eq_true rfl) (by simp [Value.category])
  refine mm_aload_n d_Part_init_0 rfl ?_
  refine mm_objInit d_Part_init_1 m_280 m_25 m_26 (by decide) (Nat.le_of_ble_eq_true rfl) ?_
  refine mm_aload_n d_Part_init_4 rfl ?_
  refine mm_aload_n d_Part_init_5 rfl ?_
  refine mm_putfF (k := 1) d_Part_init_6 cl_Counts ty_Counts m_283 (by decide) rfl rfl rfl rfl rfl ha (Nat.le_of_ble_eq_true rfl) ?_
  refine mm_hp (fun h1 e1 => ?_)
  have ha_v1 : h1 a = some (.inr (7, [.null, .ref s])) := by rw [e1]; exact va_up_self _ _ _
  exact mm_return d_Part_init_9 rfl (by first | (refine ⟨?_, rfl, ?_⟩ <;> simp [bx_uu, e1] <;> done) | (exfalso; simp_all; done))
def ar_look (A : Nat → Int32) (len : Nat) (k : Int32) : Int32 := if k < 0 then 0 else if Int32.ofNat len ≤ k then 0 else A k.toNatClampNeg
def ar_put (A : Nat → Int32) (len : Nat) (k v : Int32) : Nat → Int32 := if k < 0 then A else if Int32.ofNat len ≤ k then A else upd A k.toNatClampNeg v
set_option maxRecDepth 100000 in
theorem J_Cells_look {sc : mm_Sc} {n : Nat} {h : mm_H} {a b s len : Nat} {A : Nat → Int32} {fx k v : Int32} (hl : len < 2 ^ 31) (ha : h a = some (.inr (3, [.ref b, .int fx, .ref s]))) (hb : h b = some (.inl (0, len, .inl A))) : mm_J sc y_Cells_look 1 [.ref a, .int k] n h 0 0 (fun o n' h' => o = .inl (some (.int (ar_look A len k))) ∧ n' = n ∧ h' = h) := by
  refine mm_J.of (show mm_G sc y_Cells_look 1 0 [some (.ref a), some (.int k)] [] n h 0 0 _ from ?_) ce_Cells_look.2.2.2.2.1 (Nat.le_of_ble_eq_true rfl) (by simp [Value.category])
  refine mm_iload_n d_Cells_look_0 rfl ?_
  refine mm_if_lt (tgt := 22) d_Cells_look_1 (by decide) (fun c_1 => ?_) (fun c_1 => ?_)
  · refine mm_iconst (v := 0) d_Cells_look_22 (by decide) ?_
    exact mm_ireturn d_Cells_look_23 rfl ⟨by simp [ar_look, c_1, Int32.not_le.mpr c_1], rfl, by first | exact Eq.refl h | exact mm_up_idE ha (by simp [ar_look, c_1, Int32.not_le.mpr c_1])⟩
  · refine mm_iload_n d_Cells_look_4 rfl ?_
    refine mm_aload_n d_Cells_look_5 rfl ?_
    refine mm_getf d_Cells_look_6 cl_Cells fl_Cells_13_Cells (by decide) ha rfl ?_
    refine mm_alen d_Cells_look_9 hb (by decide) ?_
    refine mm_icmp_ge (tgt := 22) d_Cells_look_10 (by decide) (fun c_10 => ?_) (fun c_10 => ?_)
    · refine mm_iconst (v := 0) d_Cells_look_22 (by decide) ?_
      exact mm_ireturn d_Cells_look_23 rfl ⟨by simp [ar_look, c_1, Int32.not_lt.mp c_1, c_10, Int32.not_lt.mpr c_10], rfl, by first | exact Eq.refl h | exact mm_up_idE ha (by simp [ar_look, c_1, Int32.not_lt.mp c_1, c_10, Int32.not_lt.mpr c_10])⟩
    · refine mm_aload_n d_Cells_look_13 rfl ?_
      refine mm_getf d_Cells_look_14 cl_Cells fl_Cells_13_Cells (by decide) ha rfl ?_
      refine mm_iload_n d_Cells_look_17 rfl ?_
      refine mm_iald d_Cells_look_18 hb (mm_inb hl c_1 c_10) ?_
      refine mm_goto (tgt := 23) d_Cells_look_19 (by decide) ?_
      exact mm_ireturn d_Cells_look_23 rfl ⟨by simp [ar_look, c_1, Int32.not_lt.mp c_1, c_10, Int32.not_le.mp c_10], rfl, by first | exact Eq.refl h | exact mm_up_idE ha (by simp [ar_look, c_1, Int32.not_lt.mp c_1, c_10, Int32.not_le.mp c_10])⟩
set_option maxRecDepth 100000 in
theorem J_Cells_put {sc : mm_Sc} {n : Nat} {h : mm_H} {a b s len : Nat} {A : Nat → Int32} {fx k v : Int32} (hl : len < 2 ^ 31) (ha : h a = some (.inr (3, [.ref b, .int fx, .ref s]))) (hb : h b = some (.inl (0, len, .inl A))) : mm_J sc y_Cells_put 1 [.ref a, .int k, .int v] n h 0 0 (fun o n' h' => o = .inl (none) ∧ n' = n ∧ h' = va_up h b (some (.inl (0, len, .inl (ar_put A len k v))))) := by
  refine mm_J.of (show mm_G sc y_Cells_put 1 0 [some (.ref a), some (.int k), some (.int v)] [] n h 0 0 _ from ?_) ce_Cells_put.2.2.2.2.1 (Nat.le_of_ble_eq_true rfl) (by simp [Value.category])
  refine mm_iload_n d_Cells_put_0 rfl ?_
  refine mm_if_lt (tgt := 20) d_Cells_put_1 (by decide) (fun c_1 => ?_) (fun c_1 => ?_)
  · exact mm_return d_Cells_put_20 rfl ⟨by simp [ar_put, c_1, Int32.not_le.mpr c_1], rfl, by first | exact Eq.refl h | exact mm_up_idE hb (by simp [ar_put, c_1, Int32.not_le.mpr c_1])⟩
  · refine mm_iload_n d_Cells_put_4 rfl ?_
    refine mm_aload_n d_Cells_put_5 rfl ?_
    refine mm_getf d_Cells_put_6 cl_Cells fl_Cells_13_Cells (by decide) ha rfl ?_
    refine mm_alen d_Cells_put_9 hb (by decide) ?_
    refine mm_icmp_ge (tgt := 20) d_Cells_put_10 (by decide) (fun c_10 => ?_) (fun c_10 => ?_)
    · exact mm_return d_Cells_put_20 rfl ⟨by simp [ar_put, c_1, Int32.not_lt.mp c_1, c_10, Int32.not_lt.mpr c_10], rfl, by first | exact Eq.refl h | exact mm_up_idE hb (by simp [ar_put, c_1, Int32.not_lt.mp c_1, c_10, Int32.not_lt.mpr c_10])⟩
    · refine mm_aload_n d_Cells_put_13 rfl ?_
      refine mm_getf d_Cells_put_14 cl_Cells fl_Cells_13_Cells (by decide) ha rfl ?_
      refine mm_iload_n d_Cells_put_17 rfl ?_
      refine mm_iload_n d_Cells_put_18 rfl ?_
      refine mm_iast d_Cells_put_19 hb (mm_inb hl c_1 c_10) ?_
      refine mm_hp (fun h1 e1 => ?_)
      have ha_v1 : h1 a = some (.inr (3, [.ref b, .int fx, .ref s])) := by rw [e1, va_up_ne _ _ (mm_neq ha hb (by simp))]; exact ha
      have hb_v1 : h1 b = some (.inl (0, len, .inl (upd A k.toNatClampNeg v))) := by rw [e1]; exact va_up_self _ _ _
      exact mm_return d_Cells_put_20 rfl (by first | (refine ⟨?_, rfl, ?_⟩ <;> simp [ar_put, c_1, Int32.not_lt.mp c_1, c_10, Int32.not_le.mp c_10, bx_uu, e1] <;> done) | (exfalso; simp_all; done))
set_option maxRecDepth 100000 in
theorem J_Counts_look {sc : mm_Sc} {n : Nat} {h : mm_H} {a b s len : Nat} {A : Nat → Int32} {k v : Int32} (hl : len < 2 ^ 31) (ha : h a = some (.inr (7, [.ref b, .ref s]))) (hb : h b = some (.inl (0, len, .inl A))) : mm_J sc y_Counts_look 1 [.ref a, .int k] n h 0 0 (fun o n' h' => o = .inl (some (.int (ar_look A len k))) ∧ n' = n ∧ h' = h) := by
  refine mm_J.of (show mm_G sc y_Counts_look 1 0 [some (.ref a), some (.int k)] [] n h 0 0 _ from ?_) ce_Counts_look.2.2.2.2.1 (Nat.le_of_ble_eq_true rfl) (by simp [Value.category])
  refine mm_iload_n d_Counts_look_0 rfl ?_
  refine mm_if_lt (tgt := 22) d_Counts_look_1 (by decide) (fun c_1 => ?_) (fun c_1 => ?_)
  · refine mm_iconst (v := 0) d_Counts_look_22 (by decide) ?_
    exact mm_ireturn d_Counts_look_23 rfl ⟨by simp [ar_look, c_1, Int32.not_le.mpr c_1], rfl, by first | exact Eq.refl h | exact mm_up_idE ha (by simp [ar_look, c_1, Int32.not_le.mpr c_1])⟩
  · refine mm_iload_n d_Counts_look_4 rfl ?_
    refine mm_aload_n d_Counts_look_5 rfl ?_
    refine mm_getf d_Counts_look_6 cl_Counts fl_Counts_9_Counts (by decide) ha rfl ?_
    refine mm_alen d_Counts_look_9 hb (by decide) ?_
    refine mm_icmp_ge (tgt := 22) d_Counts_look_10 (by decide) (fun c_10 => ?_) (fun c_10 => ?_)
    · refine mm_iconst (v := 0) d_Counts_look_22 (by decide) ?_
      exact mm_ireturn d_Counts_look_23 rfl ⟨by simp [ar_look, c_1, Int32.not_lt.mp c_1, c_10, Int32.not_lt.mpr c_10], rfl, by first | exact Eq.refl h | exact mm_up_idE ha (by simp [ar_look, c_1, Int32.not_lt.mp c_1, c_10, Int32.not_lt.mpr c_10])⟩
    · refine mm_aload_n d_Counts_look_13 rfl ?_
      refine mm_getf d_Counts_look_14 cl_Counts fl_Counts_9_Counts (by decide) ha rfl ?_
      refine mm_iload_n d_Counts_look_17 rfl ?_
      refine mm_iald d_Counts_look_18 hb (mm_inb hl c_1 c_10) ?_
      refine mm_goto (tgt := 23) d_Counts_look_19 (by decide) ?_
      exact mm_ireturn d_Counts_look_23 rfl ⟨by simp [ar_look, c_1, Int32.not_lt.mp c_1, c_10, Int32.not_le.mp c_10], rfl, by first | exact Eq.refl h | exact mm_up_idE ha (by simp [ar_look, c_1, Int32.not_lt.mp c_1, c_10, Int32.not_le.mp c_10])⟩
set_option maxRecDepth 100000 in
theorem J_Counts_put {sc : mm_Sc} {n : Nat} {h : mm_H} {a b s len : Nat} {A : Nat → Int32} {k v : Int32} (hl : len < 2 ^ 31) (ha : h a = some (.inr (7, [.ref b, .ref s]))) (hb : h b = some (.inl (0, len, .inl A))) : mm_J sc y_Counts_put 1 [.ref a, .int k, .int v] n h 0 0 (fun o n' h' => o = .inl (none) ∧ n' = n ∧ h' = va_up h b (some (.inl (0, len, .inl (ar_put A len k 0))))) := by
  refine mm_J.of (show mm_G sc y_Counts_put 1 0 [some (.ref a), some (.int k), some (.int v)] [] n h 0 0 _ from ?_) ce_Counts_put.2.2.2.2.1 (Nat.le_of_ble_eq_true rfl) (by simp [Value.category])
  refine mm_iload_n d_Counts_put_0 rfl ?_
  refine mm_if_lt (tgt := 20) d_Counts_put_1 (by decide) (fun c_1 => ?_) (fun c_1 => ?_)
  · exact mm_return d_Counts_put_20 rfl ⟨by simp [ar_put, c_1, Int32.not_le.mpr c_1], rfl, by first | exact Eq.refl h | exact mm_up_idE hb (by simp [ar_put, c_1, Int32.not_le.mpr c_1])⟩
  · refine mm_iload_n d_Counts_put_4 rfl ?_
    refine mm_aload_n d_Counts_put_5 rfl ?_
    refine mm_getf d_Counts_put_6 cl_Counts fl_Counts_9_Counts (by decide) ha rfl ?_
    refine mm_alen d_Counts_put_9 hb (by decide) ?_
    refine mm_icmp_ge (tgt := 20) d_Counts_put_10 (by decide) (fun c_10 => ?_) (fun c_10 => ?_)
    · exact mm_return d_Counts_put_20 rfl ⟨by simp [ar_put, c_1, Int32.not_lt.mp c_1, c_10, Int32.not_lt.mpr c_10], rfl, by first | exact Eq.refl h | exact mm_up_idE hb (by simp [ar_put, c_1, Int32.not_lt.mp c_1, c_10, Int32.not_lt.mpr c_10])⟩
    · refine mm_aload_n d_Counts_put_13 rfl ?_
      refine mm_getf d_Counts_put_14 cl_Counts fl_Counts_9_Counts (by decide) ha rfl ?_
      refine mm_iload_n d_Counts_put_17 rfl ?_
      refine mm_iconst (v := 0) d_Counts_put_18 (by decide) ?_
      refine mm_iast d_Counts_put_19 hb (mm_inb hl c_1 c_10) ?_
      refine mm_hp (fun h1 e1 => ?_)
      have ha_v1 : h1 a = some (.inr (7, [.ref b, .ref s])) := by rw [e1, va_up_ne _ _ (mm_neq ha hb (by simp))]; exact ha
      have hb_v1 : h1 b = some (.inl (0, len, .inl (upd A k.toNatClampNeg 0))) := by rw [e1]; exact va_up_self _ _ _
      exact mm_return d_Counts_put_20 rfl (by first | (refine ⟨?_, rfl, ?_⟩ <;> simp [ar_put, c_1, Int32.not_lt.mp c_1, c_10, Int32.not_le.mp c_10, bx_uu, e1] <;> done) | (exfalso; simp_all; done))
set_option maxRecDepth 100000 in
theorem J_Cells_refusesWrites {sc : mm_Sc} {n : Nat} {h : mm_H} {a b s : Nat} {fx : Int32} (hz : narrow .boolean (.int fx) = .int fx) (ha : h a = some (.inr (3, [.ref b, .int fx, .ref s]))) : mm_J sc y_Cells_refusesWrites 1 [.ref a] n h 0 0 (fun o n' h' => o = .inl (some (.int fx)) ∧ n' = n ∧ h' = h) := by
  refine mm_J.of (show mm_G sc y_Cells_refusesWrites 1 0 [some (.ref a)] [] n h 0 0 _ from ?_) ce_Cells_refusesWrites.2.2.2.2.1 (Nat.le_of_ble_eq_true rfl) (by simp [Value.category])
  refine mm_aload_n d_Cells_refusesWrites_0 rfl ?_
  refine mm_getf d_Cells_refusesWrites_1 cl_Cells fl_Cells_19_Cells (by decide) ha rfl ?_
  exact mm_zreturn d_Cells_refusesWrites_4 rfl hz ⟨by simp [], rfl, by first | exact Eq.refl h | exact mm_up_idE ha (by simp [])⟩
def ct_add (A : Nat → Int32) (len : Nat) (k : Int32) : Nat → Int32 := if k < 0 then A else if Int32.ofNat len ≤ k then A else upd A k.toNatClampNeg (A k.toNatClampNeg + 1)
set_option maxRecDepth 100000 in
theorem J_Counts_add {sc : mm_Sc} {n : Nat} {h : mm_H} {a b s len : Nat} {A : Nat → Int32} {k : Int32} (hl : len < 2 ^ 31) (ha : h a = some (.inr (7, [.ref b, .ref s]))) (hb : h b = some (.inl (0, len, .inl A))) : mm_J sc y_Counts_add 1 [.ref a, .int k] n h 0 0 (fun o n' h' => o = .inl (none) ∧ n' = n ∧ h' = va_up h b (some (.inl (0, len, .inl (ct_add A len k))))) := by
  refine mm_J.of (show mm_G sc y_Counts_add 1 0 [some (.ref a), some (.int k)] [] n h 0 0 _ from ?_) ce_Counts_add.2.2.2.2.1 (Nat.le_of_ble_eq_true rfl) (by simp [Value.category])
  refine mm_iload_n d_Counts_add_0 rfl ?_
  refine mm_if_lt (tgt := 23) d_Counts_add_1 (by decide) (fun c_1 => ?_) (fun c_1 => ?_)
  · exact mm_return d_Counts_add_23 rfl ⟨by simp [ct_add, c_1, Int32.not_le.mpr c_1], rfl, by first | exact Eq.refl h | exact mm_up_idE hb (by simp [ct_add, c_1, Int32.not_le.mpr c_1])⟩
  · refine mm_iload_n d_Counts_add_4 rfl ?_
    refine mm_aload_n d_Counts_add_5 rfl ?_
    refine mm_getf d_Counts_add_6 cl_Counts fl_Counts_9_Counts (by decide) ha rfl ?_
    refine mm_alen d_Counts_add_9 hb (by decide) ?_
    refine mm_icmp_ge (tgt := 23) d_Counts_add_10 (by decide) (fun c_10 => ?_) (fun c_10 => ?_)
    · exact mm_return d_Counts_add_23 rfl ⟨by simp [ct_add, c_1, Int32.not_lt.mp c_1, c_10, Int32.not_lt.mpr c_10], rfl, by first | exact Eq.refl h | exact mm_up_idE hb (by simp [ct_add, c_1, Int32.not_lt.mp c_1, c_10, Int32.not_lt.mpr c_10])⟩
    · refine mm_aload_n d_Counts_add_13 rfl ?_
      refine mm_getf d_Counts_add_14 cl_Counts fl_Counts_9_Counts (by decide) ha rfl ?_
      refine mm_iload_n d_Counts_add_17 rfl ?_
      refine mm_dup2 d_Counts_add_18 rfl rfl ?_
      refine mm_iald d_Counts_add_19 hb (mm_inb hl c_1 c_10) ?_
      refine mm_iconst (v := 1) d_Counts_add_20 (by decide) ?_
      refine mm_iadd d_Counts_add_21 ?_
      refine mm_iast d_Counts_add_22 hb (mm_inb hl c_1 c_10) ?_
      refine mm_hp (fun h1 e1 => ?_)
      have ha_v1 : h1 a = some (.inr (7, [.ref b, .ref s])) := by rw [e1, va_up_ne _ _ (mm_neq ha hb (by simp))]; exact ha
      have hb_v1 : h1 b = some (.inl (0, len, .inl (upd A k.toNatClampNeg ((A k.toNatClampNeg) + 1)))) := by rw [e1]; exact va_up_self _ _ _
      exact mm_return d_Counts_add_23 rfl (by first | (refine ⟨?_, rfl, ?_⟩ <;> simp [ct_add, c_1, Int32.not_lt.mp c_1, c_10, Int32.not_le.mp c_10, bx_uu, e1] <;> done) | (exfalso; simp_all; done))
set_option maxRecDepth 100000 in
theorem J_Counts_goOn {sc : mm_Sc} {n : Nat} {h : mm_H} {a b s len : Nat} {A : Nat → Int32} (hl : len < 2 ^ 31) (ha : h a = some (.inr (7, [.ref b, .ref s]))) (hb : h b = some (.inl (0, len, .inl A))) : mm_J sc y_Counts_goOn 2 [.ref a] n h 0 0 (fun o n' h' => o = .inl (some (.int 0)) ∧ n' = n ∧ h' = va_up h b (some (.inl (0, len, .inl (ct_add A len 0))))) := by
  refine mm_J.of (show mm_G sc y_Counts_goOn 2 0 [some (.ref a)] [] n h 0 0 _ from ?_) ce_Counts_goOn.2.2.2.2.1 (Nat.le_of_ble_eq_true rfl) (by simp [Value.category])
  refine mm_aload_n d_Counts_goOn_0 rfl ?_
  refine mm_iconst (v := 0) d_Counts_goOn_1 (by decide) ?_
  refine mm_callD d_Counts_goOn_2 (mm_Inv.vi (as := [.int 0]) d_Counts_goOn_2 (Or.inl m_479) m_441 ce_Counts_add.2.1 ce_Counts_add.2.2.1 m_442 ce_Counts_add.2.2.2.2.2 ln_Counts_add cl_Counts ha rfl) (J_Counts_add hl ha hb) (by decide) ce_Counts_add.1 ce_Counts_add.2.1 ce_Counts_add.2.2.1 ce_Counts_add.2.2.2.1 (Nat.le_of_ble_eq_true rfl) ?_
  refine mm_hp (fun h1 e1 => ?_)
  have ha_v1 : h1 a = some (.inr (7, [.ref b, .ref s])) := by rw [e1, va_up_ne _ _ (mm_neq ha hb (by simp))]; exact ha
  have hb_v1 : h1 b = some (.inl (0, len, .inl (ct_add A len 0))) := by rw [e1]; exact va_up_self _ _ _
  refine mm_iconst (v := 0) d_Counts_goOn_5 (by decide) ?_
  exact mm_zreturn d_Counts_goOn_6 rfl rfl (by first | (refine ⟨?_, rfl, ?_⟩ <;> simp [bx_uu, e1] <;> done) | (exfalso; simp_all; done))
end
section
set_option maxRecDepth 100000 in
theorem J_Serial_isFull {sc : mm_Sc} {n : Nat} {h : mm_H} {a b c s : Nat} {A O : Nat → Int32} {fc wa go se sl mo : Int32} (hbc : b ≠ c) (ha : h a = some (.inr (5, [.ref b, .int fc, .int wa, .ref c, .int go, .int se, .int sl, .int mo, .ref s]))) (hb : h b = some (.inl (0, 32, .inl A))) (hc : h c = some (.inl (0, 32, .inl O))) : mm_J sc y_Serial_isFull 1 [.ref a] n h 0 0 (fun o n' h' => o = .inl (some (.int (if wa < 32 then 0 else 1))) ∧ n' = n ∧ h' = h) := by
  refine mm_J.of (show mm_G sc y_Serial_isFull 1 0 [some (.ref a)] [] n h 0 0 _ from ?_) ce_Serial_isFull.2.2.2.2.1 (Nat.le_of_ble_eq_true rfl) (by simp [Value.category])
  refine mm_aload_n d_Serial_isFull_0 rfl ?_
  refine mm_getf d_Serial_isFull_1 cl_Serial fl_Serial_17_Serial (by decide) ha rfl ?_
  refine mm_bipush (v := 32) d_Serial_isFull_4 (by decide) ?_
  refine mm_icmp_lt (tgt := 13) d_Serial_isFull_6 (by decide) (fun c_6 => ?_) (fun c_6 => ?_)
  · refine mm_iconst (v := 0) d_Serial_isFull_13 (by decide) ?_
    exact mm_zreturn d_Serial_isFull_14 rfl rfl ⟨by simp [c_6, Int32.not_le.mpr c_6], rfl, rfl⟩
  · refine mm_iconst (v := 1) d_Serial_isFull_9 (by decide) ?_
    refine mm_goto (tgt := 14) d_Serial_isFull_10 (by decide) ?_
    exact mm_zreturn d_Serial_isFull_14 rfl rfl ⟨by simp [c_6, Int32.not_lt.mp c_6], rfl, rfl⟩
set_option maxRecDepth 100000 in
theorem J_Serial_accept {sc : mm_Sc} {n : Nat} {h : mm_H} {a b c s : Nat} {A O : Nat → Int32} {fc wa go se sl mo : Int32} (hbc : b ≠ c) {v : Int32} (ha : h a = some (.inr (5, [.ref b, .int fc, .int wa, .ref c, .int go, .int se, .int sl, .int mo, .ref s]))) (hb : h b = some (.inl (0, 32, .inl A))) (hc : h c = some (.inl (0, 32, .inl O))) : mm_J sc y_Serial_accept 1 [.ref a, .int v] n h 0 0 (fun o n' h' => o = .inl (some (.int (wa + 1))) ∧ n' = n ∧ h' = va_up (va_up h b (some (.inl (0, 32, .inl (upd A (fc + wa &&& 31).toNatClampNeg v))))) a (some (.inr (5, [.ref b, .int fc, .int (wa + 1), .ref c, .int go, .int se, .int sl, .int mo, .ref s])))) := by
  refine mm_J.of (show mm_G sc y_Serial_accept 1 0 [some (.ref a), some (.int v)] [] n h 0 0 _ from ?_) ce_Serial_accept.2.2.2.2.1 (Nat.le_of_ble_eq_true rfl) (by simp [Value.category])
  refine mm_aload_n d_Serial_accept_0 rfl ?_
  refine mm_getf d_Serial_accept_1 cl_Serial fl_Serial_9_Serial (by decide) ha rfl ?_
  refine mm_aload_n d_Serial_accept_4 rfl ?_
  refine mm_getf d_Serial_accept_5 cl_Serial fl_Serial_13_Serial (by decide) ha rfl ?_
  refine mm_aload_n d_Serial_accept_8 rfl ?_
  refine mm_getf d_Serial_accept_9 cl_Serial fl_Serial_17_Serial (by decide) ha rfl ?_
  refine mm_iadd d_Serial_accept_12 ?_
  refine mm_bipush (v := 31) d_Serial_accept_13 (by decide) ?_
  refine mm_iand d_Serial_accept_15 ?_
  refine mm_iload_n d_Serial_accept_16 rfl ?_
  refine mm_iast d_Serial_accept_17 hb (show vp_in _ 32 from pk_andIn _ 5 (by decide) (by decide)) ?_
  refine mm_hp (fun h1 e1 => ?_)
  have ha_v1 : h1 a = some (.inr (5, [.ref b, .int fc, .int wa, .ref c, .int go, .int se, .int sl, .int mo, .ref s])) := by rw [e1, va_up_ne _ _ (mm_neq ha hb (by simp))]; exact ha
  have hb_v1 : h1 b = some (.inl (0, 32, .inl (upd A ((fc + wa) &&& 31).toNatClampNeg v))) := by rw [e1]; exact va_up_self _ _ _
  have hc_v1 : h1 c = some (.inl (0, 32, .inl O)) := by rw [e1, va_up_ne _ _ (Ne.symm hbc)]; exact hc
  refine mm_aload_n d_Serial_accept_18 rfl ?_
  refine mm_dup d_Serial_accept_19 rfl ?_
  refine mm_getf d_Serial_accept_20 cl_Serial fl_Serial_17_Serial (by decide) ha_v1 rfl ?_
  refine mm_iconst (v := 1) d_Serial_accept_23 (by decide) ?_
  refine mm_iadd d_Serial_accept_24 ?_
  refine mm_putf d_Serial_accept_25 cl_Serial ty_Serial fl_Serial_17_Serial (by decide) rfl rfl rfl ha_v1 (Nat.le_of_ble_eq_true rfl) ?_
  refine mm_hp (fun h2 e2 => ?_)
  have ha_v2 : h2 a = some (.inr (5, [.ref b, .int fc, .int (wa + 1), .ref c, .int go, .int se, .int sl, .int mo, .ref s])) := by rw [e2]; exact va_up_self _ _ _
  have hb_v2 : h2 b = some (.inl (0, 32, .inl (upd A ((fc + wa) &&& 31).toNatClampNeg v))) := by rw [e2, va_up_ne _ _ (mm_neq hb_v1 ha_v1 (by simp))]; exact hb_v1
  have hc_v2 : h2 c = some (.inl (0, 32, .inl O)) := by rw [e2, va_up_ne _ _ (mm_neq hc_v1 ha_v1 (by simp))]; exact hc_v1
  refine mm_aload_n d_Serial_accept_28 rfl ?_
  refine mm_getf d_Serial_accept_29 cl_Serial fl_Serial_17_Serial (by decide) ha_v2 rfl ?_
  exact mm_ireturn d_Serial_accept_32 rfl (by first | (refine ⟨?_, rfl, ?_⟩ <;> simp [bx_uu, e2, e1] <;> done) | (exfalso; simp_all; done))
def sr_kept (go : Int32) : Int32 := if 32 < go then 32 else go
set_option maxRecDepth 100000 in
theorem J_Serial_goneKept {sc : mm_Sc} {n : Nat} {h : mm_H} {a b c s : Nat} {A O : Nat → Int32} {fc wa go se sl mo : Int32} (hbc : b ≠ c) (ha : h a = some (.inr (5, [.ref b, .int fc, .int wa, .ref c, .int go, .int se, .int sl, .int mo, .ref s]))) (hb : h b = some (.inl (0, 32, .inl A))) (hc : h c = some (.inl (0, 32, .inl O))) : mm_J sc y_Serial_goneKept 2 [.ref a] n h 0 0 (fun o n' h' => o = .inl (some (.int (sr_kept go))) ∧ n' = n ∧ h' = h) := by
  refine mm_J.of (show mm_G sc y_Serial_goneKept 2 0 [some (.ref a)] [] n h 0 0 _ from ?_) ce_Serial_goneKept.2.2.2.2.1 (Nat.le_of_ble_eq_true rfl) (by simp [Value.category])
  refine mm_aload_n d_Serial_goneKept_0 rfl ?_
  refine mm_getf d_Serial_goneKept_1 cl_Serial fl_Serial_23_Serial (by decide) ha rfl ?_
  refine mm_bipush (v := 32) d_Serial_goneKept_4 (by decide) ?_
  refine mm_mmin d_Serial_goneKept_6 m_620 m_621 m_18 m_622 (by decide) (Nat.le_of_ble_eq_true rfl) ?_
  exact mm_ireturn d_Serial_goneKept_9 rfl ⟨by simp [sr_kept], rfl, rfl⟩
set_option maxRecDepth 100000 in
theorem J_Serial_goneAt {sc : mm_Sc} {n : Nat} {h : mm_H} {a b c s : Nat} {A O : Nat → Int32} {fc wa go se sl mo : Int32} (hbc : b ≠ c) {k : Int32} (ha : h a = some (.inr (5, [.ref b, .int fc, .int wa, .ref c, .int go, .int se, .int sl, .int mo, .ref s]))) (hb : h b = some (.inl (0, 32, .inl A))) (hc : h c = some (.inl (0, 32, .inl O))) : mm_J sc y_Serial_goneAt 3 [.ref a, .int k] n h 0 0 (fun o n' h' => o = .inl (some (.int (O (go - sr_kept go + k &&& 31).toNatClampNeg))) ∧ n' = n ∧ h' = h) := by
  refine mm_J.of (show mm_G sc y_Serial_goneAt 3 0 [some (.ref a), some (.int k)] [] n h 0 0 _ from ?_) ce_Serial_goneAt.2.2.2.2.1 (Nat.le_of_ble_eq_true rfl) (by simp [Value.category])
  refine mm_aload_n d_Serial_goneAt_0 rfl ?_
  refine mm_getf d_Serial_goneAt_1 cl_Serial fl_Serial_20_Serial (by decide) ha rfl ?_
  refine mm_aload_n d_Serial_goneAt_4 rfl ?_
  refine mm_getf d_Serial_goneAt_5 cl_Serial fl_Serial_23_Serial (by decide) ha rfl ?_
  refine mm_aload_n d_Serial_goneAt_8 rfl ?_
  refine mm_callD d_Serial_goneAt_9 (mm_Inv.vi (as := []) d_Serial_goneAt_9 (Or.inl m_628) m_617 ce_Serial_goneKept.2.1 ce_Serial_goneKept.2.2.1 m_618 ce_Serial_goneKept.2.2.2.2.2 ln_Serial_goneKept cl_Serial ha rfl) (J_Serial_goneKept hbc ha hb hc) (by decide) ce_Serial_goneKept.1 ce_Serial_goneKept.2.1 ce_Serial_goneKept.2.2.1 ce_Serial_goneKept.2.2.2.1 (Nat.le_of_ble_eq_true rfl) ?_
  refine mm_isub d_Serial_goneAt_12 ?_
  refine mm_iload_n d_Serial_goneAt_13 rfl ?_
  refine mm_iadd d_Serial_goneAt_14 ?_
  refine mm_bipush (v := 31) d_Serial_goneAt_15 (by decide) ?_
  refine mm_iand d_Serial_goneAt_17 ?_
  refine mm_iald d_Serial_goneAt_18 hc (show vp_in _ 32 from pk_andIn _ 5 (by decide) (by decide)) ?_
  exact mm_ireturn d_Serial_goneAt_19 rfl ⟨by simp [], rfl, rfl⟩
set_option maxRecDepth 100000 in
theorem J_Serial_nextCome {sc : mm_Sc} {n : Nat} {h : mm_H} {a b c s : Nat} {A O : Nat → Int32} {fc wa go se sl mo : Int32} (hbc : b ≠ c) (ha : h a = some (.inr (5, [.ref b, .int fc, .int wa, .ref c, .int go, .int se, .int sl, .int mo, .ref s]))) (hb : h b = some (.inl (0, 32, .inl A))) (hc : h c = some (.inl (0, 32, .inl O))) : mm_J sc y_Serial_nextCome 1 [.ref a] n h 0 0 (fun o n' h' => o = .inl (some (.int (if wa ≤ 0 then 0 else A (fc &&& 31).toNatClampNeg))) ∧ n' = n ∧ h' = va_up h a (some (.inr (5, [.ref b, .int (if wa ≤ 0 then fc else fc + 1 &&& 31), .int (if wa ≤ 0 then wa else wa - 1), .ref c, .int go, .int se, .int sl, .int mo, .ref s])))) := by
  refine mm_J.of (show mm_G sc y_Serial_nextCome 1 0 [some (.ref a), none] [] n h 0 0 _ from ?_) ce_Serial_nextCome.2.2.2.2.1 (Nat.le_of_ble_eq_true rfl) (by simp [Value.category])
  refine mm_aload_n d_Serial_nextCome_0 rfl ?_
  refine mm_getf d_Serial_nextCome_1 cl_Serial fl_Serial_17_Serial (by decide) ha rfl ?_
  refine mm_if_gt (tgt := 9) d_Serial_nextCome_4 (by decide) (fun c_4 => ?_) (fun c_4 => ?_)
  · refine mm_aload_n d_Serial_nextCome_9 rfl ?_
    refine mm_getf d_Serial_nextCome_10 cl_Serial fl_Serial_9_Serial (by decide) ha rfl ?_
    refine mm_aload_n d_Serial_nextCome_13 rfl ?_
    refine mm_getf d_Serial_nextCome_14 cl_Serial fl_Serial_13_Serial (by decide) ha rfl ?_
    refine mm_bipush (v := 31) d_Serial_nextCome_17 (by decide) ?_
    refine mm_iand d_Serial_nextCome_19 ?_
    refine mm_iald d_Serial_nextCome_20 hb (show vp_in _ 32 from pk_andIn _ 5 (by decide) (by decide)) ?_
    refine mm_istore_n d_Serial_nextCome_21 (by decide) ?_
    refine mm_aload_n d_Serial_nextCome_22 rfl ?_
    refine mm_aload_n d_Serial_nextCome_23 rfl ?_
    refine mm_getf d_Serial_nextCome_24 cl_Serial fl_Serial_13_Serial (by decide) ha rfl ?_
    refine mm_iconst (v := 1) d_Serial_nextCome_27 (by decide) ?_
    refine mm_iadd d_Serial_nextCome_28 ?_
    refine mm_bipush (v := 31) d_Serial_nextCome_29 (by decide) ?_
    refine mm_iand d_Serial_nextCome_31 ?_
    refine mm_putf d_Serial_nextCome_32 cl_Serial ty_Serial fl_Serial_13_Serial (by decide) rfl rfl rfl ha (Nat.le_of_ble_eq_true rfl) ?_
    refine mm_hp (fun h1 e1 => ?_)
    have ha_v1 : h1 a = some (.inr (5, [.ref b, .int ((fc + 1) &&& 31), .int wa, .ref c, .int go, .int se, .int sl, .int mo, .ref s])) := by rw [e1]; exact va_up_self _ _ _
    have hb_v1 : h1 b = some (.inl (0, 32, .inl A)) := by rw [e1, va_up_ne _ _ (mm_neq hb ha (by simp))]; exact hb
    have hc_v1 : h1 c = some (.inl (0, 32, .inl O)) := by rw [e1, va_up_ne _ _ (mm_neq hc ha (by simp))]; exact hc
    refine mm_aload_n d_Serial_nextCome_35 rfl ?_
    refine mm_dup d_Serial_nextCome_36 rfl ?_
    refine mm_getf d_Serial_nextCome_37 cl_Serial fl_Serial_17_Serial (by decide) ha_v1 rfl ?_
    refine mm_iconst (v := 1) d_Serial_nextCome_40 (by decide) ?_
    refine mm_isub d_Serial_nextCome_41 ?_
    refine mm_putf d_Serial_nextCome_42 cl_Serial ty_Serial fl_Serial_17_Serial (by decide) rfl rfl rfl ha_v1 (Nat.le_of_ble_eq_true rfl) ?_
    refine mm_hp (fun h2 e2 => ?_)
    have ha_v2 : h2 a = some (.inr (5, [.ref b, .int ((fc + 1) &&& 31), .int (wa - 1), .ref c, .int go, .int se, .int sl, .int mo, .ref s])) := by rw [e2]; exact va_up_self _ _ _
    have hb_v2 : h2 b = some (.inl (0, 32, .inl A)) := by rw [e2, va_up_ne _ _ (mm_neq hb_v1 ha_v1 (by simp))]; exact hb_v1
    have hc_v2 : h2 c = some (.inl (0, 32, .inl O)) := by rw [e2, va_up_ne _ _ (mm_neq hc_v1 ha_v1 (by simp))]; exact hc_v1
    refine mm_iload_n d_Serial_nextCome_45 rfl ?_
    exact mm_ireturn d_Serial_nextCome_46 rfl (by first | (refine ⟨?_, rfl, ?_⟩ <;> simp [c_4, Int32.not_le.mpr c_4, bx_uu, e2, e1] <;> done) | (exfalso; simp_all; done))
  · refine mm_iconst (v := 0) d_Serial_nextCome_7 (by decide) ?_
    exact mm_ireturn d_Serial_nextCome_8 rfl ⟨by simp [c_4, Int32.not_lt.mp c_4], rfl, by first | exact Eq.refl h | exact mm_up_idE ha (by simp [c_4, Int32.not_lt.mp c_4])⟩
def sr_look (A : Nat → Int32) (fc wa sl mo k : Int32) : Int32 := if k = 0 then (if wa ≤ 0 then 0 else A (fc &&& 31).toNatClampNeg) else if k = 1 then (if wa ≤ 0 then 0 else 1) + (if sl = 0 then 2 else 0) else if k = 2 then mo else 0
set_option maxRecDepth 100000 in
theorem J_Serial_look {sc : mm_Sc} {n : Nat} {h : mm_H} {a b c s : Nat} {A O : Nat → Int32} {fc wa go se sl mo : Int32} (hbc : b ≠ c) {k : Int32} (ha : h a = some (.inr (5, [.ref b, .int fc, .int wa, .ref c, .int go, .int se, .int sl, .int mo, .ref s]))) (hb : h b = some (.inl (0, 32, .inl A))) (hc : h c = some (.inl (0, 32, .inl O))) : mm_J sc y_Serial_look 2 [.ref a, .int k] n h 0 0 (fun o n' h' => o = .inl (some (.int (sr_look A fc wa sl mo k))) ∧ n' = n ∧ h' = va_up h a (some (.inr (5, [.ref b, .int (if k = 0 then (if wa ≤ 0 then fc else fc + 1 &&& 31) else fc), .int (if k = 0 then (if wa ≤ 0 then wa else wa - 1) else wa), .ref c, .int go, .int se, .int sl, .int mo, .ref s])))) := by
  refine mm_J.of (show mm_G sc y_Serial_look 2 0 [some (.ref a), some (.int k)] [] n h 0 0 _ from ?_) ce_Serial_look.2.2.2.2.1 (Nat.le_of_ble_eq_true rfl) (by simp [Value.category])
  refine mm_iload_n d_Serial_look_0 rfl ?_
  by_cases c_1_0 : k = 0
  · refine mm_tableIn (tgt := 28) (off := 27) d_Serial_look_1 (by rw [c_1_0]; decide) (by rw [c_1_0]; decide) (by rw [c_1_0]; decide) (by decide) ?_
    refine mm_aload_n d_Serial_look_28 rfl ?_
    refine mm_callD d_Serial_look_29 (mm_Inv.vi (as := []) d_Serial_look_29 (Or.inl m_534) m_536 ce_Serial_nextCome.2.1 ce_Serial_nextCome.2.2.1 mp_13 ce_Serial_nextCome.2.2.2.2.2 ln_Serial_nextCome cl_Serial ha rfl) (J_Serial_nextCome hbc ha hb hc) (by decide) ce_Serial_nextCome.1 ce_Serial_nextCome.2.1 ce_Serial_nextCome.2.2.1 ce_Serial_nextCome.2.2.2.1 (Nat.le_of_ble_eq_true rfl) ?_
    refine mm_hp (fun h1 e1 => ?_)
    have ha_v1 : h1 a = some (.inr (5, [.ref b, .int (if wa ≤ 0 then fc else fc + 1 &&& 31), .int (if wa ≤ 0 then wa else wa - 1), .ref c, .int go, .int se, .int sl, .int mo, .ref s])) := by rw [e1]; exact va_up_self _ _ _
    have hb_v1 : h1 b = some (.inl (0, 32, .inl A)) := by rw [e1, va_up_ne _ _ (mm_neq hb ha (by simp))]; exact hb
    have hc_v1 : h1 c = some (.inl (0, 32, .inl O)) := by rw [e1, va_up_ne _ _ (mm_neq hc ha (by simp))]; exact hc
    exact mm_ireturn d_Serial_look_32 rfl (by first | (refine ⟨?_, rfl, ?_⟩ <;> simp [sr_look, c_1_0, bx_uu, e1] <;> done) | (exfalso; simp_all; done))
  by_cases c_1_1 : k = 1
  · refine mm_tableIn (tgt := 33) (off := 32) d_Serial_look_1 (by rw [c_1_1]; decide) (by rw [c_1_1]; decide) (by rw [c_1_1]; decide) (by decide) ?_
    refine mm_aload_n d_Serial_look_33 rfl ?_
    refine mm_getf d_Serial_look_34 cl_Serial fl_Serial_17_Serial (by decide) ha rfl ?_
    refine mm_if_le (tgt := 44) d_Serial_look_37 (by decide) (fun c_37 => ?_) (fun c_37 => ?_)
    · refine mm_iconst (v := 0) d_Serial_look_44 (by decide) ?_
      refine mm_aload_n d_Serial_look_45 rfl ?_
      refine mm_getf d_Serial_look_46 cl_Serial fl_Serial_29_Serial (by decide) ha rfl ?_
      refine mm_if_ne (tgt := 56) d_Serial_look_49 (by decide) (fun c_49 => ?_) (fun c_49 => ?_)
      · refine mm_iconst (v := 0) d_Serial_look_56 (by decide) ?_
        refine mm_iadd d_Serial_look_57 ?_
        exact mm_ireturn d_Serial_look_58 rfl ⟨by simp [sr_look, c_1_0, c_1_1, c_37, Int32.not_lt.mpr c_37, c_49], rfl, by first | exact Eq.refl h | exact mm_up_idE ha (by simp [sr_look, c_1_0, c_1_1, c_37, Int32.not_lt.mpr c_37, c_49])⟩
      · refine mm_iconst (v := 2) d_Serial_look_52 (by decide) ?_
        refine mm_goto (tgt := 57) d_Serial_look_53 (by decide) ?_
        refine mm_iadd d_Serial_look_57 ?_
        exact mm_ireturn d_Serial_look_58 rfl ⟨by simp [sr_look, c_1_0, c_1_1, c_37, Int32.not_lt.mpr c_37, c_49], rfl, by first | exact Eq.refl h | exact mm_up_idE ha (by simp [sr_look, c_1_0, c_1_1, c_37, Int32.not_lt.mpr c_37, c_49])⟩
    · refine mm_iconst (v := 1) d_Serial_look_40 (by decide) ?_
      refine mm_goto (tgt := 45) d_Serial_look_41 (by decide) ?_
      refine mm_aload_n d_Serial_look_45 rfl ?_
      refine mm_getf d_Serial_look_46 cl_Serial fl_Serial_29_Serial (by decide) ha rfl ?_
      refine mm_if_ne (tgt := 56) d_Serial_look_49 (by decide) (fun c_49 => ?_) (fun c_49 => ?_)
      · refine mm_iconst (v := 0) d_Serial_look_56 (by decide) ?_
        refine mm_iadd d_Serial_look_57 ?_
        exact mm_ireturn d_Serial_look_58 rfl ⟨by simp [sr_look, c_1_0, c_1_1, c_37, Int32.not_le.mp c_37, c_49], rfl, by first | exact Eq.refl h | exact mm_up_idE ha (by simp [sr_look, c_1_0, c_1_1, c_37, Int32.not_le.mp c_37, c_49])⟩
      · refine mm_iconst (v := 2) d_Serial_look_52 (by decide) ?_
        refine mm_goto (tgt := 57) d_Serial_look_53 (by decide) ?_
        refine mm_iadd d_Serial_look_57 ?_
        exact mm_ireturn d_Serial_look_58 rfl ⟨by simp [sr_look, c_1_0, c_1_1, c_37, Int32.not_le.mp c_37, c_49], rfl, by first | exact Eq.refl h | exact mm_up_idE ha (by simp [sr_look, c_1_0, c_1_1, c_37, Int32.not_le.mp c_37, c_49])⟩
  by_cases c_1_2 : k = 2
  · refine mm_tableIn (tgt := 59) (off := 58) d_Serial_look_1 (by rw [c_1_2]; decide) (by rw [c_1_2]; decide) (by rw [c_1_2]; decide) (by decide) ?_
    refine mm_aload_n d_Serial_look_59 rfl ?_
    refine mm_getf d_Serial_look_60 cl_Serial fl_Serial_32_Serial (by decide) ha rfl ?_
    exact mm_ireturn d_Serial_look_63 rfl ⟨by simp [sr_look, c_1_0, c_1_1, c_1_2], rfl, by first | exact Eq.refl h | exact mm_up_idE ha (by simp [sr_look, c_1_0, c_1_1, c_1_2])⟩
  refine mm_tableOut (tgt := 64) d_Serial_look_1 (mm_tsw3 c_1_0 c_1_1 c_1_2) (by decide) ?_
  refine mm_iconst (v := 0) d_Serial_look_64 (by decide) ?_
  exact mm_ireturn d_Serial_look_65 rfl ⟨by simp [sr_look, c_1_0, c_1_1, c_1_2], rfl, by first | exact Eq.refl h | exact mm_up_idE ha (by simp [sr_look, c_1_0, c_1_1, c_1_2])⟩
set_option maxRecDepth 100000 in
theorem J_Serial_put {sc : mm_Sc} {n : Nat} {h : mm_H} {a b c s : Nat} {A O : Nat → Int32} {fc wa go se sl mo : Int32} (hbc : b ≠ c) {k v : Int32} (ha : h a = some (.inr (5, [.ref b, .int fc, .int wa, .ref c, .int go, .int se, .int sl, .int mo, .ref s]))) (hb : h b = some (.inl (0, 32, .inl A))) (hc : h c = some (.inl (0, 32, .inl O))) : mm_J sc y_Serial_put 1 [.ref a, .int k, .int v] n h 0 0 (fun o n' h' => o = .inl (none) ∧ n' = n ∧ h' = va_up h a (some (.inr (5, [.ref b, .int fc, .int wa, .ref c, .int go, .int (if k = 0 then (if sl = 0 then v &&& 255 else se) else se), .int (if k = 0 then (if sl = 0 then 4 else sl) else sl), .int (if k = 2 then v &&& 3 else mo), .ref s])))) := by
  refine mm_J.of (show mm_G sc y_Serial_put 1 0 [some (.ref a), some (.int k), some (.int v)] [] n h 0 0 _ from ?_) ce_Serial_put.2.2.2.2.1 (Nat.le_of_ble_eq_true rfl) (by simp [Value.category])
  refine mm_iload_n d_Serial_put_0 rfl ?_
  refine mm_if_ne (tgt := 28) d_Serial_put_1 (by decide) (fun c_1 => ?_) (fun c_1 => ?_)
  · refine mm_iload_n d_Serial_put_28 rfl ?_
    refine mm_iconst (v := 2) d_Serial_put_29 (by decide) ?_
    refine mm_icmp_ne (tgt := 40) d_Serial_put_30 (by decide) (fun c_30 => ?_) (fun c_30 => ?_)
    · exact mm_return d_Serial_put_40 rfl ⟨by simp [c_1, c_30], rfl, by first | exact Eq.refl h | exact mm_up_idE ha (by simp [c_1, c_30])⟩
    · refine mm_aload_n d_Serial_put_33 rfl ?_
      refine mm_iload_n d_Serial_put_34 rfl ?_
      refine mm_iconst (v := 3) d_Serial_put_35 (by decide) ?_
      refine mm_iand d_Serial_put_36 ?_
      refine mm_putf d_Serial_put_37 cl_Serial ty_Serial fl_Serial_32_Serial (by decide) rfl rfl rfl ha (Nat.le_of_ble_eq_true rfl) ?_
      refine mm_hp (fun h1 e1 => ?_)
      have ha_v1 : h1 a = some (.inr (5, [.ref b, .int fc, .int wa, .ref c, .int go, .int se, .int sl, .int (v &&& 3), .ref s])) := by rw [e1]; exact va_up_self _ _ _
      have hb_v1 : h1 b = some (.inl (0, 32, .inl A)) := by rw [e1, va_up_ne _ _ (mm_neq hb ha (by simp))]; exact hb
      have hc_v1 : h1 c = some (.inl (0, 32, .inl O)) := by rw [e1, va_up_ne _ _ (mm_neq hc ha (by simp))]; exact hc
      exact mm_return d_Serial_put_40 rfl (by first | (refine ⟨?_, rfl, ?_⟩ <;> simp [c_1, c_30, bx_uu, e1] <;> done) | (exfalso; simp_all; done))
  · refine mm_aload_n d_Serial_put_4 rfl ?_
    refine mm_getf d_Serial_put_5 cl_Serial fl_Serial_29_Serial (by decide) ha rfl ?_
    refine mm_if_ne (tgt := 28) d_Serial_put_8 (by decide) (fun c_8 => ?_) (fun c_8 => ?_)
    · refine mm_iload_n d_Serial_put_28 rfl ?_
      refine mm_iconst (v := 2) d_Serial_put_29 (by decide) ?_
      refine mm_icmp_ne (tgt := 40) d_Serial_put_30 (by decide) (fun c_30 => ?_) (fun c_30 => ?_)
      · exact mm_return d_Serial_put_40 rfl ⟨by simp [c_1, c_8, c_30], rfl, by first | exact Eq.refl h | exact mm_up_idE ha (by simp [c_1, c_8, c_30])⟩
      · refine mm_aload_n d_Serial_put_33 rfl ?_
        refine mm_iload_n d_Serial_put_34 rfl ?_
        refine mm_iconst (v := 3) d_Serial_put_35 (by decide) ?_
        refine mm_iand d_Serial_put_36 ?_
        refine mm_putf d_Serial_put_37 cl_Serial ty_Serial fl_Serial_32_Serial (by decide) rfl rfl rfl ha (Nat.le_of_ble_eq_true rfl) ?_
        refine mm_hp (fun h2 e2 => ?_)
        have ha_v2 : h2 a = some (.inr (5, [.ref b, .int fc, .int wa, .ref c, .int go, .int se, .int sl, .int (v &&& 3), .ref s])) := by rw [e2]; exact va_up_self _ _ _
        have hb_v2 : h2 b = some (.inl (0, 32, .inl A)) := by rw [e2, va_up_ne _ _ (mm_neq hb ha (by simp))]; exact hb
        have hc_v2 : h2 c = some (.inl (0, 32, .inl O)) := by rw [e2, va_up_ne _ _ (mm_neq hc ha (by simp))]; exact hc
        exact mm_return d_Serial_put_40 rfl (by first | (refine ⟨?_, rfl, ?_⟩ <;> simp [c_1, c_8, c_30, bx_uu, e2] <;> done) | (exfalso; simp_all; done))
    · refine mm_aload_n d_Serial_put_11 rfl ?_
      refine mm_iload_n d_Serial_put_12 rfl ?_
      refine mm_sipush (v := 255) d_Serial_put_13 (by decide) ?_
      refine mm_iand d_Serial_put_16 ?_
      refine mm_putf d_Serial_put_17 cl_Serial ty_Serial fl_Serial_26_Serial (by decide) rfl rfl rfl ha (Nat.le_of_ble_eq_true rfl) ?_
      refine mm_hp (fun h3 e3 => ?_)
      have ha_v3 : h3 a = some (.inr (5, [.ref b, .int fc, .int wa, .ref c, .int go, .int (v &&& 255), .int sl, .int mo, .ref s])) := by rw [e3]; exact va_up_self _ _ _
      have hb_v3 : h3 b = some (.inl (0, 32, .inl A)) := by rw [e3, va_up_ne _ _ (mm_neq hb ha (by simp))]; exact hb
      have hc_v3 : h3 c = some (.inl (0, 32, .inl O)) := by rw [e3, va_up_ne _ _ (mm_neq hc ha (by simp))]; exact hc
      refine mm_aload_n d_Serial_put_20 rfl ?_
      refine mm_iconst (v := 4) d_Serial_put_21 (by decide) ?_
      refine mm_putf d_Serial_put_22 cl_Serial ty_Serial fl_Serial_29_Serial (by decide) rfl rfl rfl ha_v3 (Nat.le_of_ble_eq_true rfl) ?_
      refine mm_hp (fun h4 e4 => ?_)
      have ha_v4 : h4 a = some (.inr (5, [.ref b, .int fc, .int wa, .ref c, .int go, .int (v &&& 255), .int 4, .int mo, .ref s])) := by rw [e4]; exact va_up_self _ _ _
      have hb_v4 : h4 b = some (.inl (0, 32, .inl A)) := by rw [e4, va_up_ne _ _ (mm_neq hb_v3 ha_v3 (by simp))]; exact hb_v3
      have hc_v4 : h4 c = some (.inl (0, 32, .inl O)) := by rw [e4, va_up_ne _ _ (mm_neq hc_v3 ha_v3 (by simp))]; exact hc_v3
      refine mm_goto (tgt := 40) d_Serial_put_25 (by decide) ?_
      exact mm_return d_Serial_put_40 rfl (by first | (refine ⟨?_, rfl, ?_⟩ <;> simp [c_1, c_8, bx_uu, e4, e3] <;> done) | (exfalso; simp_all; done))
set_option maxRecDepth 100000 in
theorem J_Serial_goOn {sc : mm_Sc} {n : Nat} {h : mm_H} {a b c s : Nat} {A O : Nat → Int32} {fc wa go se sl mo : Int32} (hbc : b ≠ c) (ha : h a = some (.inr (5, [.ref b, .int fc, .int wa, .ref c, .int go, .int se, .int sl, .int mo, .ref s]))) (hb : h b = some (.inl (0, 32, .inl A))) (hc : h c = some (.inl (0, 32, .inl O))) : mm_J sc y_Serial_goOn 1 [.ref a] n h 0 0 (fun o n' h' => o = .inl (some (.int 0)) ∧ n' = n ∧ h' = va_up (va_up h c (some (.inl (0, 32, .inl (if 0 < sl then (if sl - 1 = 0 then upd O (go &&& 31).toNatClampNeg se else O) else O))))) a (some (.inr (5, [.ref b, .int fc, .int wa, .ref c, .int (if 0 < sl then (if sl - 1 = 0 then go + 1 else go) else go), .int se, .int (if 0 < sl then sl - 1 else sl), .int mo, .ref s])))) := by
  refine mm_J.of (show mm_G sc y_Serial_goOn 1 0 [some (.ref a)] [] n h 0 0 _ from ?_) ce_Serial_goOn.2.2.2.2.1 (Nat.le_of_ble_eq_true rfl) (by simp [Value.category])
  refine mm_aload_n d_Serial_goOn_0 rfl ?_
  refine mm_getf d_Serial_goOn_1 cl_Serial fl_Serial_29_Serial (by decide) ha rfl ?_
  refine mm_if_le (tgt := 50) d_Serial_goOn_4 (by decide) (fun c_4 => ?_) (fun c_4 => ?_)
  · refine mm_iconst (v := 0) d_Serial_goOn_50 (by decide) ?_
    exact mm_zreturn d_Serial_goOn_51 rfl rfl ⟨by simp [c_4, Int32.not_lt.mpr c_4], rfl, by
        funext j
        by_cases j0 : j = a
        · rw [j0]; simp [va_up, c_4, Int32.not_lt.mpr c_4, ha, hc, (mm_neq ha hc (by simp)), Ne.symm (mm_neq ha hc (by simp))]
        by_cases j1 : j = c
        · rw [j1]; simp [va_up, c_4, Int32.not_lt.mpr c_4, ha, hc, (mm_neq ha hc (by simp)), Ne.symm (mm_neq ha hc (by simp))]
        simp [va_up, j0, j1, c_4, Int32.not_lt.mpr c_4]⟩
  · refine mm_aload_n d_Serial_goOn_7 rfl ?_
    refine mm_dup d_Serial_goOn_8 rfl ?_
    refine mm_getf d_Serial_goOn_9 cl_Serial fl_Serial_29_Serial (by decide) ha rfl ?_
    refine mm_iconst (v := 1) d_Serial_goOn_12 (by decide) ?_
    refine mm_isub d_Serial_goOn_13 ?_
    refine mm_putf d_Serial_goOn_14 cl_Serial ty_Serial fl_Serial_29_Serial (by decide) rfl rfl rfl ha (Nat.le_of_ble_eq_true rfl) ?_
    refine mm_hp (fun h1 e1 => ?_)
    have ha_v1 : h1 a = some (.inr (5, [.ref b, .int fc, .int wa, .ref c, .int go, .int se, .int (sl - 1), .int mo, .ref s])) := by rw [e1]; exact va_up_self _ _ _
    have hb_v1 : h1 b = some (.inl (0, 32, .inl A)) := by rw [e1, va_up_ne _ _ (mm_neq hb ha (by simp))]; exact hb
    have hc_v1 : h1 c = some (.inl (0, 32, .inl O)) := by rw [e1, va_up_ne _ _ (mm_neq hc ha (by simp))]; exact hc
    refine mm_aload_n d_Serial_goOn_17 rfl ?_
    refine mm_getf d_Serial_goOn_18 cl_Serial fl_Serial_29_Serial (by decide) ha_v1 rfl ?_
    refine mm_if_ne (tgt := 50) d_Serial_goOn_21 (by decide) (fun c_21 => ?_) (fun c_21 => ?_)
    · refine mm_iconst (v := 0) d_Serial_goOn_50 (by decide) ?_
      exact mm_zreturn d_Serial_goOn_51 rfl rfl ⟨by simp [c_4, Int32.not_le.mp c_4, c_21, e1], rfl, by
        funext j
        by_cases j0 : j = a
        · rw [j0]; simp [va_up, c_4, Int32.not_le.mp c_4, c_21, e1, ha, hc, (mm_neq ha hc (by simp)), Ne.symm (mm_neq ha hc (by simp))]
        by_cases j1 : j = c
        · rw [j1]; simp [va_up, c_4, Int32.not_le.mp c_4, c_21, e1, ha, hc, (mm_neq ha hc (by simp)), Ne.symm (mm_neq ha hc (by simp))]
        simp [va_up, j0, j1, c_4, Int32.not_le.mp c_4, c_21, e1]⟩
    · refine mm_aload_n d_Serial_goOn_24 rfl ?_
      refine mm_getf d_Serial_goOn_25 cl_Serial fl_Serial_20_Serial (by decide) ha_v1 rfl ?_
      refine mm_aload_n d_Serial_goOn_28 rfl ?_
      refine mm_getf d_Serial_goOn_29 cl_Serial fl_Serial_23_Serial (by decide) ha_v1 rfl ?_
      refine mm_bipush (v := 31) d_Serial_goOn_32 (by decide) ?_
      refine mm_iand d_Serial_goOn_34 ?_
      refine mm_aload_n d_Serial_goOn_35 rfl ?_
      refine mm_getf d_Serial_goOn_36 cl_Serial fl_Serial_26_Serial (by decide) ha_v1 rfl ?_
      refine mm_iast d_Serial_goOn_39 hc_v1 (show vp_in _ 32 from pk_andIn _ 5 (by decide) (by decide)) ?_
      refine mm_hp (fun h2 e2 => ?_)
      have ha_v2 : h2 a = some (.inr (5, [.ref b, .int fc, .int wa, .ref c, .int go, .int se, .int (sl - 1), .int mo, .ref s])) := by rw [e2, va_up_ne _ _ (mm_neq ha_v1 hc_v1 (by simp))]; exact ha_v1
      have hb_v2 : h2 b = some (.inl (0, 32, .inl A)) := by rw [e2, va_up_ne _ _ hbc]; exact hb_v1
      have hc_v2 : h2 c = some (.inl (0, 32, .inl (upd O (go &&& 31).toNatClampNeg se))) := by rw [e2]; exact va_up_self _ _ _
      refine mm_aload_n d_Serial_goOn_40 rfl ?_
      refine mm_dup d_Serial_goOn_41 rfl ?_
      refine mm_getf d_Serial_goOn_42 cl_Serial fl_Serial_23_Serial (by decide) ha_v2 rfl ?_
      refine mm_iconst (v := 1) d_Serial_goOn_45 (by decide) ?_
      refine mm_iadd d_Serial_goOn_46 ?_
      refine mm_putf d_Serial_goOn_47 cl_Serial ty_Serial fl_Serial_23_Serial (by decide) rfl rfl rfl ha_v2 (Nat.le_of_ble_eq_true rfl) ?_
      refine mm_hp (fun h3 e3 => ?_)
      have ha_v3 : h3 a = some (.inr (5, [.ref b, .int fc, .int wa, .ref c, .int (go + 1), .int se, .int (sl - 1), .int mo, .ref s])) := by rw [e3]; exact va_up_self _ _ _
      have hb_v3 : h3 b = some (.inl (0, 32, .inl A)) := by rw [e3, va_up_ne _ _ (mm_neq hb_v2 ha_v2 (by simp))]; exact hb_v2
      have hc_v3 : h3 c = some (.inl (0, 32, .inl (upd O (go &&& 31).toNatClampNeg se))) := by rw [e3, va_up_ne _ _ (mm_neq hc_v2 ha_v2 (by simp))]; exact hc_v2
      refine mm_iconst (v := 0) d_Serial_goOn_50 (by decide) ?_
      exact mm_zreturn d_Serial_goOn_51 rfl rfl ⟨by simp [c_4, Int32.not_le.mp c_4, c_21, e3, e2, e1], rfl, by
        funext j
        by_cases j0 : j = a
        · rw [j0]; simp [va_up, c_4, Int32.not_le.mp c_4, c_21, e3, e2, e1, ha, hc, (mm_neq ha hc (by simp)), Ne.symm (mm_neq ha hc (by simp))]
        by_cases j1 : j = c
        · rw [j1]; simp [va_up, c_4, Int32.not_le.mp c_4, c_21, e3, e2, e1, ha, hc, (mm_neq ha hc (by simp)), Ne.symm (mm_neq ha hc (by simp))]
        simp [va_up, j0, j1, c_4, Int32.not_le.mp c_4, c_21, e3, e2, e1]⟩
def sr_asks (wa sl mo : Int32) : Int32 := if mo &&& 1 = 0 then (if mo &&& 2 = 0 then 0 else if sl = 0 then 1 else 0) else if wa ≤ 0 then (if mo &&& 2 = 0 then 0 else if sl = 0 then 1 else 0) else 1
set_option maxRecDepth 100000 in
theorem J_Serial_wantsAttention {sc : mm_Sc} {n : Nat} {h : mm_H} {a b c s : Nat} {A O : Nat → Int32} {fc wa go se sl mo : Int32} (hbc : b ≠ c) (ha : h a = some (.inr (5, [.ref b, .int fc, .int wa, .ref c, .int go, .int se, .int sl, .int mo, .ref s]))) (hb : h b = some (.inl (0, 32, .inl A))) (hc : h c = some (.inl (0, 32, .inl O))) : mm_J sc y_Serial_wantsAttention 1 [.ref a] n h 0 0 (fun o n' h' => o = .inl (some (.int (sr_asks wa sl mo))) ∧ n' = n ∧ h' = h) := by
  refine mm_J.of (show mm_G sc y_Serial_wantsAttention 1 0 [some (.ref a)] [] n h 0 0 _ from ?_) ce_Serial_wantsAttention.2.2.2.2.1 (Nat.le_of_ble_eq_true rfl) (by simp [Value.category])
  refine mm_aload_n d_Serial_wantsAttention_0 rfl ?_
  refine mm_getf d_Serial_wantsAttention_1 cl_Serial fl_Serial_32_Serial (by decide) ha rfl ?_
  refine mm_iconst (v := 1) d_Serial_wantsAttention_4 (by decide) ?_
  refine mm_iand d_Serial_wantsAttention_5 ?_
  refine mm_if_eq (tgt := 16) d_Serial_wantsAttention_6 (by decide) (fun c_6 => ?_) (fun c_6 => ?_)
  · refine mm_aload_n d_Serial_wantsAttention_16 rfl ?_
    refine mm_getf d_Serial_wantsAttention_17 cl_Serial fl_Serial_32_Serial (by decide) ha rfl ?_
    refine mm_iconst (v := 2) d_Serial_wantsAttention_20 (by decide) ?_
    refine mm_iand d_Serial_wantsAttention_21 ?_
    refine mm_if_eq (tgt := 36) d_Serial_wantsAttention_22 (by decide) (fun c_22 => ?_) (fun c_22 => ?_)
    · refine mm_iconst (v := 0) d_Serial_wantsAttention_36 (by decide) ?_
      exact mm_zreturn d_Serial_wantsAttention_37 rfl rfl ⟨by simp [sr_asks, c_6, c_22], rfl, rfl⟩
    · refine mm_aload_n d_Serial_wantsAttention_25 rfl ?_
      refine mm_getf d_Serial_wantsAttention_26 cl_Serial fl_Serial_29_Serial (by decide) ha rfl ?_
      refine mm_if_ne (tgt := 36) d_Serial_wantsAttention_29 (by decide) (fun c_29 => ?_) (fun c_29 => ?_)
      · refine mm_iconst (v := 0) d_Serial_wantsAttention_36 (by decide) ?_
        exact mm_zreturn d_Serial_wantsAttention_37 rfl rfl ⟨by simp [sr_asks, c_6, c_22, c_29], rfl, rfl⟩
      · refine mm_iconst (v := 1) d_Serial_wantsAttention_32 (by decide) ?_
        refine mm_goto (tgt := 37) d_Serial_wantsAttention_33 (by decide) ?_
        exact mm_zreturn d_Serial_wantsAttention_37 rfl rfl ⟨by simp [sr_asks, c_6, c_22, c_29], rfl, rfl⟩
  · refine mm_aload_n d_Serial_wantsAttention_9 rfl ?_
    refine mm_getf d_Serial_wantsAttention_10 cl_Serial fl_Serial_17_Serial (by decide) ha rfl ?_
    refine mm_if_gt (tgt := 32) d_Serial_wantsAttention_13 (by decide) (fun c_13 => ?_) (fun c_13 => ?_)
    · refine mm_iconst (v := 1) d_Serial_wantsAttention_32 (by decide) ?_
      refine mm_goto (tgt := 37) d_Serial_wantsAttention_33 (by decide) ?_
      exact mm_zreturn d_Serial_wantsAttention_37 rfl rfl ⟨by simp [sr_asks, c_6, c_13, Int32.not_le.mpr c_13], rfl, rfl⟩
    · refine mm_aload_n d_Serial_wantsAttention_16 rfl ?_
      refine mm_getf d_Serial_wantsAttention_17 cl_Serial fl_Serial_32_Serial (by decide) ha rfl ?_
      refine mm_iconst (v := 2) d_Serial_wantsAttention_20 (by decide) ?_
      refine mm_iand d_Serial_wantsAttention_21 ?_
      refine mm_if_eq (tgt := 36) d_Serial_wantsAttention_22 (by decide) (fun c_22 => ?_) (fun c_22 => ?_)
      · refine mm_iconst (v := 0) d_Serial_wantsAttention_36 (by decide) ?_
        exact mm_zreturn d_Serial_wantsAttention_37 rfl rfl ⟨by simp [sr_asks, c_6, c_13, Int32.not_lt.mp c_13, c_22], rfl, rfl⟩
      · refine mm_aload_n d_Serial_wantsAttention_25 rfl ?_
        refine mm_getf d_Serial_wantsAttention_26 cl_Serial fl_Serial_29_Serial (by decide) ha rfl ?_
        refine mm_if_ne (tgt := 36) d_Serial_wantsAttention_29 (by decide) (fun c_29 => ?_) (fun c_29 => ?_)
        · refine mm_iconst (v := 0) d_Serial_wantsAttention_36 (by decide) ?_
          exact mm_zreturn d_Serial_wantsAttention_37 rfl rfl ⟨by simp [sr_asks, c_6, c_13, Int32.not_lt.mp c_13, c_22, c_29], rfl, rfl⟩
        · refine mm_iconst (v := 1) d_Serial_wantsAttention_32 (by decide) ?_
          refine mm_goto (tgt := 37) d_Serial_wantsAttention_33 (by decide) ?_
          exact mm_zreturn d_Serial_wantsAttention_37 rfl rfl ⟨by simp [sr_asks, c_6, c_13, Int32.not_lt.mp c_13, c_22, c_29], rfl, rfl⟩
set_option maxRecDepth 100000 in
theorem J_Serial_beginAnew {sc : mm_Sc} {n : Nat} {h : mm_H} {a b c s : Nat} {A O : Nat → Int32} {fc wa go se sl mo : Int32} (hbc : b ≠ c) (ha : h a = some (.inr (5, [.ref b, .int fc, .int wa, .ref c, .int go, .int se, .int sl, .int mo, .ref s]))) (hb : h b = some (.inl (0, 32, .inl A))) (hc : h c = some (.inl (0, 32, .inl O))) : mm_J sc y_Serial_beginAnew 1 [.ref a] n h 0 0 (fun o n' h' => o = .inl (none) ∧ n' = n ∧ h' = va_up h a (some (.inr (5, [.ref b, .int 0, .int 0, .ref c, .int 0, .int 0, .int 0, .int 0, .ref s])))) := by
  refine mm_J.of (show mm_G sc y_Serial_beginAnew 1 0 [some (.ref a)] [] n h 0 0 _ from ?_) ce_Serial_beginAnew.2.2.2.2.1 (Nat.le_of_ble_eq_true rfl) (by simp [Value.category])
  refine mm_aload_n d_Serial_beginAnew_0 rfl ?_
  refine mm_iconst (v := 0) d_Serial_beginAnew_1 (by decide) ?_
  refine mm_putf d_Serial_beginAnew_2 cl_Serial ty_Serial fl_Serial_13_Serial (by decide) rfl rfl rfl ha (Nat.le_of_ble_eq_true rfl) ?_
  refine mm_hp (fun h1 e1 => ?_)
  have ha_v1 : h1 a = some (.inr (5, [.ref b, .int 0, .int wa, .ref c, .int go, .int se, .int sl, .int mo, .ref s])) := by rw [e1]; exact va_up_self _ _ _
  have hb_v1 : h1 b = some (.inl (0, 32, .inl A)) := by rw [e1, va_up_ne _ _ (mm_neq hb ha (by simp))]; exact hb
  have hc_v1 : h1 c = some (.inl (0, 32, .inl O)) := by rw [e1, va_up_ne _ _ (mm_neq hc ha (by simp))]; exact hc
  refine mm_aload_n d_Serial_beginAnew_5 rfl ?_
  refine mm_iconst (v := 0) d_Serial_beginAnew_6 (by decide) ?_
  refine mm_putf d_Serial_beginAnew_7 cl_Serial ty_Serial fl_Serial_17_Serial (by decide) rfl rfl rfl ha_v1 (Nat.le_of_ble_eq_true rfl) ?_
  refine mm_hp (fun h2 e2 => ?_)
  have ha_v2 : h2 a = some (.inr (5, [.ref b, .int 0, .int 0, .ref c, .int go, .int se, .int sl, .int mo, .ref s])) := by rw [e2]; exact va_up_self _ _ _
  have hb_v2 : h2 b = some (.inl (0, 32, .inl A)) := by rw [e2, va_up_ne _ _ (mm_neq hb_v1 ha_v1 (by simp))]; exact hb_v1
  have hc_v2 : h2 c = some (.inl (0, 32, .inl O)) := by rw [e2, va_up_ne _ _ (mm_neq hc_v1 ha_v1 (by simp))]; exact hc_v1
  refine mm_aload_n d_Serial_beginAnew_10 rfl ?_
  refine mm_iconst (v := 0) d_Serial_beginAnew_11 (by decide) ?_
  refine mm_putf d_Serial_beginAnew_12 cl_Serial ty_Serial fl_Serial_23_Serial (by decide) rfl rfl rfl ha_v2 (Nat.le_of_ble_eq_true rfl) ?_
  refine mm_hp (fun h3 e3 => ?_)
  have ha_v3 : h3 a = some (.inr (5, [.ref b, .int 0, .int 0, .ref c, .int 0, .int se, .int sl, .int mo, .ref s])) := by rw [e3]; exact va_up_self _ _ _
  have hb_v3 : h3 b = some (.inl (0, 32, .inl A)) := by rw [e3, va_up_ne _ _ (mm_neq hb_v2 ha_v2 (by simp))]; exact hb_v2
  have hc_v3 : h3 c = some (.inl (0, 32, .inl O)) := by rw [e3, va_up_ne _ _ (mm_neq hc_v2 ha_v2 (by simp))]; exact hc_v2
  refine mm_aload_n d_Serial_beginAnew_15 rfl ?_
  refine mm_iconst (v := 0) d_Serial_beginAnew_16 (by decide) ?_
  refine mm_putf d_Serial_beginAnew_17 cl_Serial ty_Serial fl_Serial_26_Serial (by decide) rfl rfl rfl ha_v3 (Nat.le_of_ble_eq_true rfl) ?_
  refine mm_hp (fun h4 e4 => ?_)
  have ha_v4 : h4 a = some (.inr (5, [.ref b, .int 0, .int 0, .ref c, .int 0, .int 0, .int sl, .int mo, .ref s])) := by rw [e4]; exact va_up_self _ _ _
  have hb_v4 : h4 b = some (.inl (0, 32, .inl A)) := by rw [e4, va_up_ne _ _ (mm_neq hb_v3 ha_v3 (by simp))]; exact hb_v3
  have hc_v4 : h4 c = some (.inl (0, 32, .inl O)) := by rw [e4, va_up_ne _ _ (mm_neq hc_v3 ha_v3 (by simp))]; exact hc_v3
  refine mm_aload_n d_Serial_beginAnew_20 rfl ?_
  refine mm_iconst (v := 0) d_Serial_beginAnew_21 (by decide) ?_
  refine mm_putf d_Serial_beginAnew_22 cl_Serial ty_Serial fl_Serial_29_Serial (by decide) rfl rfl rfl ha_v4 (Nat.le_of_ble_eq_true rfl) ?_
  refine mm_hp (fun h5 e5 => ?_)
  have ha_v5 : h5 a = some (.inr (5, [.ref b, .int 0, .int 0, .ref c, .int 0, .int 0, .int 0, .int mo, .ref s])) := by rw [e5]; exact va_up_self _ _ _
  have hb_v5 : h5 b = some (.inl (0, 32, .inl A)) := by rw [e5, va_up_ne _ _ (mm_neq hb_v4 ha_v4 (by simp))]; exact hb_v4
  have hc_v5 : h5 c = some (.inl (0, 32, .inl O)) := by rw [e5, va_up_ne _ _ (mm_neq hc_v4 ha_v4 (by simp))]; exact hc_v4
  refine mm_aload_n d_Serial_beginAnew_25 rfl ?_
  refine mm_iconst (v := 0) d_Serial_beginAnew_26 (by decide) ?_
  refine mm_putf d_Serial_beginAnew_27 cl_Serial ty_Serial fl_Serial_32_Serial (by decide) rfl rfl rfl ha_v5 (Nat.le_of_ble_eq_true rfl) ?_
  refine mm_hp (fun h6 e6 => ?_)
  have ha_v6 : h6 a = some (.inr (5, [.ref b, .int 0, .int 0, .ref c, .int 0, .int 0, .int 0, .int 0, .ref s])) := by rw [e6]; exact va_up_self _ _ _
  have hb_v6 : h6 b = some (.inl (0, 32, .inl A)) := by rw [e6, va_up_ne _ _ (mm_neq hb_v5 ha_v5 (by simp))]; exact hb_v5
  have hc_v6 : h6 c = some (.inl (0, 32, .inl O)) := by rw [e6, va_up_ne _ _ (mm_neq hc_v5 ha_v5 (by simp))]; exact hc_v5
  exact mm_return d_Serial_beginAnew_30 rfl (by first | (refine ⟨?_, rfl, ?_⟩ <;> simp [bx_uu, e6, e5, e4, e3, e2, e1] <;> done) | (exfalso; simp_all; done))
end
section
theorem cpy_0 {f g : Nat → Int32} {sp dp : Nat} : va_cpy f g sp dp 0 = g := by
  funext j
  simp [va_cpy]
  omega
theorem cpy_s {f g : Nat → Int32} {sp dp i : Nat} : upd (va_cpy f g sp dp i) (dp + i) (f (sp + i)) = va_cpy f g sp dp (i + 1) := by
  funext j
  by_cases h : j = dp + i
  · subst h
    simp [upd, va_cpy]
  · simp only [upd, va_cpy, h, if_false]
    by_cases h1 : dp ≤ j ∧ j < dp + i
    · rw [if_pos h1, if_pos ⟨h1.1, by omega⟩]
    · rw [if_neg h1, if_neg (by omega)]
set_option maxRecDepth 100000 in
theorem lp_Counts_beginAnew {sc : mm_Sc} {n d kc ks : Nat} {h : mm_H} {Q : mm_O → Nat → mm_H → Prop} {a b s len : Nat} {A : Nat → Int32} (ha : h a = some (.inr (7, [.ref b, .ref s]))) (hb : h b = some (.inl (0, len, .inl A))) (hl : len < 2 ^ 31) (hq : mm_G sc y_Counts_beginAnew d 24 [some (.ref a), some (.int (nI len))] [] n (va_up h b (some (.inl (0, len, .inl (za A len))))) kc ks Q) : ∀ (m i : Nat), i + m = len → mm_G sc y_Counts_beginAnew d 2 [some (.ref a), some (.int (nI i))] [] n (va_up h b (some (.inl (0, len, .inl (za A i))))) kc ks Q := by
  intro m
  induction m with
  | zero =>
    intro i hi
    obtain rfl : len = i := by omega
    refine mm_hp (fun g0 e0 => ?_)
    have ha_g : g0 a = some (.inr (7, [.ref b, .ref s])) := by rw [e0, va_up_ne _ _ (mm_neq ha hb (by simp))]; exact ha
    have hb_g : g0 b = some (.inl (0, len, .inl (za A len))) := by rw [e0]; exact va_up_self _ _ _
    refine mm_iload_n d_Counts_beginAnew_2 rfl ?_
    refine mm_aload_n d_Counts_beginAnew_3 rfl ?_
    refine mm_getf d_Counts_beginAnew_4 cl_Counts fl_Counts_9_Counts (by decide) ha_g rfl ?_
    refine mm_alen d_Counts_beginAnew_7 hb_g (by decide) ?_
    refine mm_icmp_ge (tgt := 24) d_Counts_beginAnew_8 (by decide) (fun c_8 => ?_) (fun c_8 => absurd (nI_le (Nat.le_refl _) (by omega)) c_8)
    rw [e0]
    exact hq
  | succ m ih =>
    intro i hi
    refine mm_hp (fun g0 e0 => ?_)
    have ha_g : g0 a = some (.inr (7, [.ref b, .ref s])) := by rw [e0, va_up_ne _ _ (mm_neq ha hb (by simp))]; exact ha
    have hb_g : g0 b = some (.inl (0, len, .inl (za A i))) := by rw [e0]; exact va_up_self _ _ _
    refine mm_iload_n d_Counts_beginAnew_2 rfl ?_
    refine mm_aload_n d_Counts_beginAnew_3 rfl ?_
    refine mm_getf d_Counts_beginAnew_4 cl_Counts fl_Counts_9_Counts (by decide) ha_g rfl ?_
    refine mm_alen d_Counts_beginAnew_7 hb_g (by decide) ?_
    refine mm_icmp_ge (tgt := 24) d_Counts_beginAnew_8 (by decide) (fun c_8 => absurd c_8 (nI_ge (by omega) (by omega))) (fun c_8 => ?_)
    refine mm_aload_n d_Counts_beginAnew_11 rfl ?_
    refine mm_getf d_Counts_beginAnew_12 cl_Counts fl_Counts_9_Counts (by decide) ha_g rfl ?_
    refine mm_iload_n d_Counts_beginAnew_15 rfl ?_
    refine mm_iconst (v := 0) d_Counts_beginAnew_16 (by decide) ?_
    refine mm_iast d_Counts_beginAnew_17 hb_g (vp_in_nI (by omega) (by omega)) ?_
    refine mm_hp (fun h1 e1 => ?_)
    have ha_g_v1 : h1 a = some (.inr (7, [.ref b, .ref s])) := by rw [e1, va_up_ne _ _ (mm_neq ha_g hb_g (by simp))]; exact ha_g
    have hb_g_v1 : h1 b = some (.inl (0, len, .inl (upd (za A i) (nI i).toNatClampNeg 0))) := by rw [e1]; exact va_up_self _ _ _
    refine mm_iinc (v := (nI i) + 1) d_Counts_beginAnew_18 rfl rfl (by decide) ?_
    refine mm_goto (tgt := 2) d_Counts_beginAnew_21 (by decide) ?_
    exact mm_G.cast (by rw [nI_1]; rfl) rfl (by rw [e1, e0, bx_uu, nI_clamp (by omega), za_s]) (ih (i + 1) (by omega))
set_option maxRecDepth 100000 in
theorem J_Counts_beginAnew {sc : mm_Sc} {n : Nat} {h : mm_H} {a b s len : Nat} {A : Nat → Int32} (hl : len < 2 ^ 31) (ha : h a = some (.inr (7, [.ref b, .ref s]))) (hb : h b = some (.inl (0, len, .inl A))) : mm_J sc y_Counts_beginAnew 1 [.ref a] n h 0 0 (fun o n' h' => o = .inl (none) ∧ n' = n ∧ h' = va_up h b (some (.inl (0, len, .inl (za A len))))) := by
  refine mm_J.of (show mm_G sc y_Counts_beginAnew 1 0 [some (.ref a), none] [] n h 0 0 _ from ?_) ce_Counts_beginAnew.2.2.2.2.1 (Nat.le_of_ble_eq_true rfl) (by simp [Value.category])
  refine mm_iconst (v := 0) d_Counts_beginAnew_0 (by decide) ?_
  refine mm_istore_n d_Counts_beginAnew_1 (by decide) ?_
  exact mm_G.cast rfl rfl (by rw [za_0, mm_up_id hb]) (lp_Counts_beginAnew ha hb hl (mm_return d_Counts_beginAnew_24 rfl ⟨rfl, rfl, rfl⟩) len 0 (by omega))
def rw_in (k : Int32) : Int32 := if k < 3 then 0 else if 11 ≤ k then 0 else 1
theorem rw_win {k : Int32} (c : ¬ rw_in k = 0) : vp_in (k - 3) 8 := by
  unfold rw_in at c
  split at c
  · exact absurd rfl c
  · rename_i h1
    split at c
    · exact absurd rfl c
    · rename_i h2
      rcases pk_ix k (n := 11) (by omega) with h | h | ⟨j, hj, rfl⟩
      · exact absurd (Int32.lt_trans h (by decide)) h1
      · exact absurd h h2
      · have h3 : 3 ≤ j := by
          rcases Nat.lt_or_ge j 3 with q | q
          · exact absurd (show nI j < nI 3 from nI_lt q (by omega)) h1
          · exact q
        rw [show (nI j - 3 : Int32) = nI (j - 3) from pk_sub (a := j) (b := 3) h3]
        exact vp_in_nI (by omega) (by omega)
set_option maxRecDepth 100000 in
theorem J_Rows_inWindow {sc : mm_Sc} {n : Nat} {h : mm_H} {a : Nat} {k : Int32}  : mm_J sc y_Rows_inWindow 1 [.ref a, .int k] n h 0 0 (fun o n' h' => o = .inl (some (.int (rw_in k))) ∧ n' = n ∧ h' = h) := by
  refine mm_J.of (show mm_G sc y_Rows_inWindow 1 0 [some (.ref a), some (.int k)] [] n h 0 0 _ from ?_) ce_Rows_inWindow.2.2.2.2.1 (Nat.le_of_ble_eq_true rfl) (by simp [Value.category])
  refine mm_iload_n d_Rows_inWindow_0 rfl ?_
  refine mm_iconst (v := 3) d_Rows_inWindow_1 (by decide) ?_
  refine mm_icmp_lt (tgt := 15) d_Rows_inWindow_2 (by decide) (fun c_2 => ?_) (fun c_2 => ?_)
  · refine mm_iconst (v := 0) d_Rows_inWindow_15 (by decide) ?_
    exact mm_zreturn d_Rows_inWindow_16 rfl rfl ⟨by simp [rw_in, c_2, Int32.not_le.mpr c_2], rfl, rfl⟩
  · refine mm_iload_n d_Rows_inWindow_5 rfl ?_
    refine mm_bipush (v := 11) d_Rows_inWindow_6 (by decide) ?_
    refine mm_icmp_ge (tgt := 15) d_Rows_inWindow_8 (by decide) (fun c_8 => ?_) (fun c_8 => ?_)
    · refine mm_iconst (v := 0) d_Rows_inWindow_15 (by decide) ?_
      exact mm_zreturn d_Rows_inWindow_16 rfl rfl ⟨by simp [rw_in, c_2, Int32.not_lt.mp c_2, c_8, Int32.not_lt.mpr c_8], rfl, rfl⟩
    · refine mm_iconst (v := 1) d_Rows_inWindow_11 (by decide) ?_
      refine mm_goto (tgt := 16) d_Rows_inWindow_12 (by decide) ?_
      exact mm_zreturn d_Rows_inWindow_16 rfl rfl ⟨by simp [rw_in, c_2, Int32.not_lt.mp c_2, c_8, Int32.not_le.mp c_8], rfl, rfl⟩
def rw_look (Wn : Nat → Int32) (r wk dn k : Int32) : Int32 := if k = 0 then r else if k = 1 then wk else if k = 2 then dn else if rw_in k = 0 then 0 else Wn (k - 3).toNatClampNeg
set_option maxRecDepth 100000 in
theorem J_Rows_look {sc : mm_Sc} {n : Nat} {h : mm_H} {a b c s : Nat} {Rw Wn : Nat → Int32} {rw_ wk wr sl dn : Int32} (hbc : b ≠ c) {k : Int32} (ha : h a = some (.inr (6, [.ref b, .ref c, .int rw_, .int wk, .int wr, .int sl, .int dn, .ref s]))) (hb : h b = some (.inl (0, 64, .inl Rw))) (hc : h c = some (.inl (0, 8, .inl Wn))) : mm_J sc y_Rows_look 2 [.ref a, .int k] n h 0 0 (fun o n' h' => o = .inl (some (.int (rw_look Wn rw_ wk dn k))) ∧ n' = n ∧ h' = h) := by
  refine mm_J.of (show mm_G sc y_Rows_look 2 0 [some (.ref a), some (.int k)] [] n h 0 0 _ from ?_) ce_Rows_look.2.2.2.2.1 (Nat.le_of_ble_eq_true rfl) (by simp [Value.category])
  refine mm_iload_n d_Rows_look_0 rfl ?_
  by_cases c_1_0 : k = 0
  · refine mm_tableIn (tgt := 28) (off := 27) d_Rows_look_1 (by rw [c_1_0]; decide) (by rw [c_1_0]; decide) (by rw [c_1_0]; decide) (by decide) ?_
    refine mm_aload_n d_Rows_look_28 rfl ?_
    refine mm_getf d_Rows_look_29 cl_Rows fl_Rows_16_Rows (by decide) ha rfl ?_
    exact mm_ireturn d_Rows_look_32 rfl ⟨by simp [rw_look, c_1_0], rfl, rfl⟩
  by_cases c_1_1 : k = 1
  · refine mm_tableIn (tgt := 33) (off := 32) d_Rows_look_1 (by rw [c_1_1]; decide) (by rw [c_1_1]; decide) (by rw [c_1_1]; decide) (by decide) ?_
    refine mm_aload_n d_Rows_look_33 rfl ?_
    refine mm_getf d_Rows_look_34 cl_Rows fl_Rows_20_Rows (by decide) ha rfl ?_
    exact mm_ireturn d_Rows_look_37 rfl ⟨by simp [rw_look, c_1_0, c_1_1], rfl, rfl⟩
  by_cases c_1_2 : k = 2
  · refine mm_tableIn (tgt := 38) (off := 37) d_Rows_look_1 (by rw [c_1_2]; decide) (by rw [c_1_2]; decide) (by rw [c_1_2]; decide) (by decide) ?_
    refine mm_aload_n d_Rows_look_38 rfl ?_
    refine mm_getf d_Rows_look_39 cl_Rows fl_Rows_29_Rows (by decide) ha rfl ?_
    exact mm_ireturn d_Rows_look_42 rfl ⟨by simp [rw_look, c_1_0, c_1_1, c_1_2], rfl, rfl⟩
  refine mm_tableOut (tgt := 43) d_Rows_look_1 (mm_tsw3 c_1_0 c_1_1 c_1_2) (by decide) ?_
  refine mm_aload_n d_Rows_look_43 rfl ?_
  refine mm_iload_n d_Rows_look_44 rfl ?_
  refine mm_callD d_Rows_look_45 (mm_Inv.vi (as := [.int k]) d_Rows_look_45 (Or.inl m_527) m_529 ce_Rows_inWindow.2.1 ce_Rows_inWindow.2.2.1 mp_12 ce_Rows_inWindow.2.2.2.2.2 ln_Rows_inWindow cl_Rows ha rfl) J_Rows_inWindow (by decide) ce_Rows_inWindow.1 ce_Rows_inWindow.2.1 ce_Rows_inWindow.2.2.1 ce_Rows_inWindow.2.2.2.1 (Nat.le_of_ble_eq_true rfl) ?_
  refine mm_if_eq (tgt := 62) d_Rows_look_48 (by decide) (fun c_48 => ?_) (fun c_48 => ?_)
  · refine mm_iconst (v := 0) d_Rows_look_62 (by decide) ?_
    exact mm_ireturn d_Rows_look_63 rfl ⟨by simp [rw_look, c_1_0, c_1_1, c_1_2, c_48], rfl, rfl⟩
  · refine mm_aload_n d_Rows_look_51 rfl ?_
    refine mm_getf d_Rows_look_52 cl_Rows fl_Rows_13_Rows (by decide) ha rfl ?_
    refine mm_iload_n d_Rows_look_55 rfl ?_
    refine mm_iconst (v := 3) d_Rows_look_56 (by decide) ?_
    refine mm_isub d_Rows_look_57 ?_
    refine mm_iald d_Rows_look_58 hc (rw_win c_48) ?_
    refine mm_goto (tgt := 63) d_Rows_look_59 (by decide) ?_
    exact mm_ireturn d_Rows_look_63 rfl ⟨by simp [rw_look, c_1_0, c_1_1, c_1_2, c_48], rfl, rfl⟩
def rw_ok (wk v : Int32) : Bool := decide (wk = 0) && (decide (v = 1) || decide (v = 2))
set_option maxRecDepth 100000 in
theorem J_Rows_begin {sc : mm_Sc} {n : Nat} {h : mm_H} {a b c s : Nat} {Rw Wn : Nat → Int32} {rw_ wk wr sl dn : Int32} (hbc : b ≠ c) {v : Int32} (ha : h a = some (.inr (6, [.ref b, .ref c, .int rw_, .int wk, .int wr, .int sl, .int dn, .ref s]))) (hb : h b = some (.inl (0, 64, .inl Rw))) (hc : h c = some (.inl (0, 8, .inl Wn))) : mm_J sc y_Rows_begin 1 [.ref a, .int v] n h 0 0 (fun o n' h' => o = .inl (none) ∧ n' = n ∧ h' = va_up h a (some (.inr (6, [.ref b, .ref c, .int rw_, .int (if rw_ok wk v then v else wk), .int (if rw_ok wk v then rw_ else wr), .int (if rw_ok wk v then 10 else sl), .int dn, .ref s])))) := by
  refine mm_J.of (show mm_G sc y_Rows_begin 1 0 [some (.ref a), some (.int v)] [] n h 0 0 _ from ?_) ce_Rows_begin.2.2.2.2.1 (Nat.le_of_ble_eq_true rfl) (by simp [Value.category])
  refine mm_aload_n d_Rows_begin_0 rfl ?_
  refine mm_getf d_Rows_begin_1 cl_Rows fl_Rows_20_Rows (by decide) ha rfl ?_
  refine mm_if_ne (tgt := 17) d_Rows_begin_4 (by decide) (fun c_4 => ?_) (fun c_4 => ?_)
  · exact mm_return d_Rows_begin_17 rfl ⟨by simp [rw_ok, c_4], rfl, by first | exact Eq.refl h | exact mm_up_idE ha (by simp [rw_ok, c_4])⟩
  · refine mm_iload_n d_Rows_begin_7 rfl ?_
    refine mm_iconst (v := 1) d_Rows_begin_8 (by decide) ?_
    refine mm_icmp_eq (tgt := 18) d_Rows_begin_9 (by decide) (fun c_9 => ?_) (fun c_9 => ?_)
    · refine mm_aload_n d_Rows_begin_18 rfl ?_
      refine mm_iload_n d_Rows_begin_19 rfl ?_
      refine mm_putf d_Rows_begin_20 cl_Rows ty_Rows fl_Rows_20_Rows (by decide) rfl rfl rfl ha (Nat.le_of_ble_eq_true rfl) ?_
      refine mm_hp (fun h1 e1 => ?_)
      have ha_v1 : h1 a = some (.inr (6, [.ref b, .ref c, .int rw_, .int v, .int wr, .int sl, .int dn, .ref s])) := by rw [e1]; exact va_up_self _ _ _
      have hb_v1 : h1 b = some (.inl (0, 64, .inl Rw)) := by rw [e1, va_up_ne _ _ (mm_neq hb ha (by simp))]; exact hb
      have hc_v1 : h1 c = some (.inl (0, 8, .inl Wn)) := by rw [e1, va_up_ne _ _ (mm_neq hc ha (by simp))]; exact hc
      refine mm_aload_n d_Rows_begin_23 rfl ?_
      refine mm_aload_n d_Rows_begin_24 rfl ?_
      refine mm_getf d_Rows_begin_25 cl_Rows fl_Rows_16_Rows (by decide) ha_v1 rfl ?_
      refine mm_putf d_Rows_begin_28 cl_Rows ty_Rows fl_Rows_23_Rows (by decide) rfl rfl rfl ha_v1 (Nat.le_of_ble_eq_true rfl) ?_
      refine mm_hp (fun h2 e2 => ?_)
      have ha_v2 : h2 a = some (.inr (6, [.ref b, .ref c, .int rw_, .int v, .int rw_, .int sl, .int dn, .ref s])) := by rw [e2]; exact va_up_self _ _ _
      have hb_v2 : h2 b = some (.inl (0, 64, .inl Rw)) := by rw [e2, va_up_ne _ _ (mm_neq hb_v1 ha_v1 (by simp))]; exact hb_v1
      have hc_v2 : h2 c = some (.inl (0, 8, .inl Wn)) := by rw [e2, va_up_ne _ _ (mm_neq hc_v1 ha_v1 (by simp))]; exact hc_v1
      refine mm_aload_n d_Rows_begin_31 rfl ?_
      refine mm_bipush (v := 10) d_Rows_begin_32 (by decide) ?_
      refine mm_putf d_Rows_begin_34 cl_Rows ty_Rows fl_Rows_26_Rows (by decide) rfl rfl rfl ha_v2 (Nat.le_of_ble_eq_true rfl) ?_
      refine mm_hp (fun h3 e3 => ?_)
      have ha_v3 : h3 a = some (.inr (6, [.ref b, .ref c, .int rw_, .int v, .int rw_, .int 10, .int dn, .ref s])) := by rw [e3]; exact va_up_self _ _ _
      have hb_v3 : h3 b = some (.inl (0, 64, .inl Rw)) := by rw [e3, va_up_ne _ _ (mm_neq hb_v2 ha_v2 (by simp))]; exact hb_v2
      have hc_v3 : h3 c = some (.inl (0, 8, .inl Wn)) := by rw [e3, va_up_ne _ _ (mm_neq hc_v2 ha_v2 (by simp))]; exact hc_v2
      exact mm_return d_Rows_begin_37 rfl (by first | (refine ⟨?_, rfl, ?_⟩ <;> simp [rw_ok, c_4, c_9, bx_uu, e3, e2, e1] <;> done) | (exfalso; simp_all; done))
    · refine mm_iload_n d_Rows_begin_12 rfl ?_
      refine mm_iconst (v := 2) d_Rows_begin_13 (by decide) ?_
      refine mm_icmp_eq (tgt := 18) d_Rows_begin_14 (by decide) (fun c_14 => ?_) (fun c_14 => ?_)
      · refine mm_aload_n d_Rows_begin_18 rfl ?_
        refine mm_iload_n d_Rows_begin_19 rfl ?_
        refine mm_putf d_Rows_begin_20 cl_Rows ty_Rows fl_Rows_20_Rows (by decide) rfl rfl rfl ha (Nat.le_of_ble_eq_true rfl) ?_
        refine mm_hp (fun h4 e4 => ?_)
        have ha_v4 : h4 a = some (.inr (6, [.ref b, .ref c, .int rw_, .int v, .int wr, .int sl, .int dn, .ref s])) := by rw [e4]; exact va_up_self _ _ _
        have hb_v4 : h4 b = some (.inl (0, 64, .inl Rw)) := by rw [e4, va_up_ne _ _ (mm_neq hb ha (by simp))]; exact hb
        have hc_v4 : h4 c = some (.inl (0, 8, .inl Wn)) := by rw [e4, va_up_ne _ _ (mm_neq hc ha (by simp))]; exact hc
        refine mm_aload_n d_Rows_begin_23 rfl ?_
        refine mm_aload_n d_Rows_begin_24 rfl ?_
        refine mm_getf d_Rows_begin_25 cl_Rows fl_Rows_16_Rows (by decide) ha_v4 rfl ?_
        refine mm_putf d_Rows_begin_28 cl_Rows ty_Rows fl_Rows_23_Rows (by decide) rfl rfl rfl ha_v4 (Nat.le_of_ble_eq_true rfl) ?_
        refine mm_hp (fun h5 e5 => ?_)
        have ha_v5 : h5 a = some (.inr (6, [.ref b, .ref c, .int rw_, .int v, .int rw_, .int sl, .int dn, .ref s])) := by rw [e5]; exact va_up_self _ _ _
        have hb_v5 : h5 b = some (.inl (0, 64, .inl Rw)) := by rw [e5, va_up_ne _ _ (mm_neq hb_v4 ha_v4 (by simp))]; exact hb_v4
        have hc_v5 : h5 c = some (.inl (0, 8, .inl Wn)) := by rw [e5, va_up_ne _ _ (mm_neq hc_v4 ha_v4 (by simp))]; exact hc_v4
        refine mm_aload_n d_Rows_begin_31 rfl ?_
        refine mm_bipush (v := 10) d_Rows_begin_32 (by decide) ?_
        refine mm_putf d_Rows_begin_34 cl_Rows ty_Rows fl_Rows_26_Rows (by decide) rfl rfl rfl ha_v5 (Nat.le_of_ble_eq_true rfl) ?_
        refine mm_hp (fun h6 e6 => ?_)
        have ha_v6 : h6 a = some (.inr (6, [.ref b, .ref c, .int rw_, .int v, .int rw_, .int 10, .int dn, .ref s])) := by rw [e6]; exact va_up_self _ _ _
        have hb_v6 : h6 b = some (.inl (0, 64, .inl Rw)) := by rw [e6, va_up_ne _ _ (mm_neq hb_v5 ha_v5 (by simp))]; exact hb_v5
        have hc_v6 : h6 c = some (.inl (0, 8, .inl Wn)) := by rw [e6, va_up_ne _ _ (mm_neq hc_v5 ha_v5 (by simp))]; exact hc_v5
        exact mm_return d_Rows_begin_37 rfl (by first | (refine ⟨?_, rfl, ?_⟩ <;> simp [rw_ok, c_4, c_9, c_14, bx_uu, e6, e5, e4] <;> done) | (exfalso; simp_all; done))
      · exact mm_return d_Rows_begin_17 rfl ⟨by simp [rw_ok, c_4, c_9, c_14], rfl, by first | exact Eq.refl h | exact mm_up_idE ha (by simp [rw_ok, c_4, c_9, c_14])⟩
def rw_putW (Wn : Nat → Int32) (wk k v : Int32) : Nat → Int32 := if k = 0 then Wn else if k = 1 then Wn else if k = 2 then Wn else if rw_in k = 0 then Wn else if wk = 0 then upd Wn (k - 3).toNatClampNeg v else Wn
set_option maxRecDepth 100000 in
theorem J_Rows_put {sc : mm_Sc} {n : Nat} {h : mm_H} {a b c s : Nat} {Rw Wn : Nat → Int32} {rw_ wk wr sl dn : Int32} (hbc : b ≠ c) {k v : Int32} (ha : h a = some (.inr (6, [.ref b, .ref c, .int rw_, .int wk, .int wr, .int sl, .int dn, .ref s]))) (hb : h b = some (.inl (0, 64, .inl Rw))) (hc : h c = some (.inl (0, 8, .inl Wn))) : mm_J sc y_Rows_put 2 [.ref a, .int k, .int v] n h 0 0 (fun o n' h' => o = .inl (none) ∧ n' = n ∧ h' = va_up (va_up h c (some (.inl (0, 8, .inl (rw_putW Wn wk k v))))) a (some (.inr (6, [.ref b, .ref c, .int (if k = 0 then v &&& 7 else rw_), .int (if k = 1 then (if rw_ok wk v then v else wk) else wk), .int (if k = 1 then (if rw_ok wk v then rw_ else wr) else wr), .int (if k = 1 then (if rw_ok wk v then 10 else sl) else sl), .int (if k = 2 then 0 else dn), .ref s])))) := by
  refine mm_J.of (show mm_G sc y_Rows_put 2 0 [some (.ref a), some (.int k), some (.int v)] [] n h 0 0 _ from ?_) ce_Rows_put.2.2.2.2.1 (Nat.le_of_ble_eq_true rfl) (by simp [Value.category])
  refine mm_iload_n d_Rows_put_0 rfl ?_
  by_cases c_1_0 : k = 0
  · refine mm_tableIn (tgt := 28) (off := 27) d_Rows_put_1 (by rw [c_1_0]; decide) (by rw [c_1_0]; decide) (by rw [c_1_0]; decide) (by decide) ?_
    refine mm_aload_n d_Rows_put_28 rfl ?_
    refine mm_iload_n d_Rows_put_29 rfl ?_
    refine mm_bipush (v := 7) d_Rows_put_30 (by decide) ?_
    refine mm_iand d_Rows_put_32 ?_
    refine mm_putf d_Rows_put_33 cl_Rows ty_Rows fl_Rows_16_Rows (by decide) rfl rfl rfl ha (Nat.le_of_ble_eq_true rfl) ?_
    refine mm_hp (fun h1 e1 => ?_)
    have ha_v1 : h1 a = some (.inr (6, [.ref b, .ref c, .int (v &&& 7), .int wk, .int wr, .int sl, .int dn, .ref s])) := by rw [e1]; exact va_up_self _ _ _
    have hb_v1 : h1 b = some (.inl (0, 64, .inl Rw)) := by rw [e1, va_up_ne _ _ (mm_neq hb ha (by simp))]; exact hb
    have hc_v1 : h1 c = some (.inl (0, 8, .inl Wn)) := by rw [e1, va_up_ne _ _ (mm_neq hc ha (by simp))]; exact hc
    refine mm_goto (tgt := 79) d_Rows_put_36 (by decide) ?_
    exact mm_return d_Rows_put_79 rfl ⟨by simp [rw_putW, c_1_0, e1], rfl, by
        funext j
        by_cases j0 : j = a
        · rw [j0]; simp [va_up, rw_putW, c_1_0, e1, ha, hc, (mm_neq ha hc (by simp)), Ne.symm (mm_neq ha hc (by simp))]
        by_cases j1 : j = c
        · rw [j1]; simp [va_up, rw_putW, c_1_0, e1, ha, hc, (mm_neq ha hc (by simp)), Ne.symm (mm_neq ha hc (by simp))]
        simp [va_up, j0, j1, rw_putW, c_1_0, e1]⟩
  by_cases c_1_1 : k = 1
  · refine mm_tableIn (tgt := 39) (off := 38) d_Rows_put_1 (by rw [c_1_1]; decide) (by rw [c_1_1]; decide) (by rw [c_1_1]; decide) (by decide) ?_
    refine mm_aload_n d_Rows_put_39 rfl ?_
    refine mm_iload_n d_Rows_put_40 rfl ?_
    refine mm_callD d_Rows_put_41 (mm_Inv.vi (as := [.int v]) d_Rows_put_41 (Or.inl m_570) m_572 ce_Rows_begin.2.1 ce_Rows_begin.2.2.1 mp_14 ce_Rows_begin.2.2.2.2.2 ln_Rows_begin cl_Rows ha rfl) (J_Rows_begin hbc ha hb hc) (by decide) ce_Rows_begin.1 ce_Rows_begin.2.1 ce_Rows_begin.2.2.1 ce_Rows_begin.2.2.2.1 (Nat.le_of_ble_eq_true rfl) ?_
    refine mm_hp (fun h2 e2 => ?_)
    have ha_v2 : h2 a = some (.inr (6, [.ref b, .ref c, .int rw_, .int (if rw_ok wk v then v else wk), .int (if rw_ok wk v then rw_ else wr), .int (if rw_ok wk v then 10 else sl), .int dn, .ref s])) := by rw [e2]; exact va_up_self _ _ _
    have hb_v2 : h2 b = some (.inl (0, 64, .inl Rw)) := by rw [e2, va_up_ne _ _ (mm_neq hb ha (by simp))]; exact hb
    have hc_v2 : h2 c = some (.inl (0, 8, .inl Wn)) := by rw [e2, va_up_ne _ _ (mm_neq hc ha (by simp))]; exact hc
    refine mm_goto (tgt := 79) d_Rows_put_44 (by decide) ?_
    exact mm_return d_Rows_put_79 rfl ⟨by simp [rw_putW, c_1_0, c_1_1, e2], rfl, by
        funext j
        by_cases j0 : j = a
        · rw [j0]; simp [va_up, rw_putW, c_1_0, c_1_1, e2, ha, hc, (mm_neq ha hc (by simp)), Ne.symm (mm_neq ha hc (by simp))]
        by_cases j1 : j = c
        · rw [j1]; simp [va_up, rw_putW, c_1_0, c_1_1, e2, ha, hc, (mm_neq ha hc (by simp)), Ne.symm (mm_neq ha hc (by simp))]
        simp [va_up, j0, j1, rw_putW, c_1_0, c_1_1, e2]⟩
  by_cases c_1_2 : k = 2
  · refine mm_tableIn (tgt := 47) (off := 46) d_Rows_put_1 (by rw [c_1_2]; decide) (by rw [c_1_2]; decide) (by rw [c_1_2]; decide) (by decide) ?_
    refine mm_aload_n d_Rows_put_47 rfl ?_
    refine mm_iconst (v := 0) d_Rows_put_48 (by decide) ?_
    refine mm_putf d_Rows_put_49 cl_Rows ty_Rows fl_Rows_29_Rows (by decide) rfl rfl rfl ha (Nat.le_of_ble_eq_true rfl) ?_
    refine mm_hp (fun h3 e3 => ?_)
    have ha_v3 : h3 a = some (.inr (6, [.ref b, .ref c, .int rw_, .int wk, .int wr, .int sl, .int 0, .ref s])) := by rw [e3]; exact va_up_self _ _ _
    have hb_v3 : h3 b = some (.inl (0, 64, .inl Rw)) := by rw [e3, va_up_ne _ _ (mm_neq hb ha (by simp))]; exact hb
    have hc_v3 : h3 c = some (.inl (0, 8, .inl Wn)) := by rw [e3, va_up_ne _ _ (mm_neq hc ha (by simp))]; exact hc
    refine mm_goto (tgt := 79) d_Rows_put_52 (by decide) ?_
    exact mm_return d_Rows_put_79 rfl ⟨by simp [rw_putW, c_1_0, c_1_1, c_1_2, e3], rfl, by
        funext j
        by_cases j0 : j = a
        · rw [j0]; simp [va_up, rw_putW, c_1_0, c_1_1, c_1_2, e3, ha, hc, (mm_neq ha hc (by simp)), Ne.symm (mm_neq ha hc (by simp))]
        by_cases j1 : j = c
        · rw [j1]; simp [va_up, rw_putW, c_1_0, c_1_1, c_1_2, e3, ha, hc, (mm_neq ha hc (by simp)), Ne.symm (mm_neq ha hc (by simp))]
        simp [va_up, j0, j1, rw_putW, c_1_0, c_1_1, c_1_2, e3]⟩
  refine mm_tableOut (tgt := 55) d_Rows_put_1 (mm_tsw3 c_1_0 c_1_1 c_1_2) (by decide) ?_
  refine mm_aload_n d_Rows_put_55 rfl ?_
  refine mm_iload_n d_Rows_put_56 rfl ?_
  refine mm_callD d_Rows_put_57 (mm_Inv.vi (as := [.int k]) d_Rows_put_57 (Or.inl m_527) m_529 ce_Rows_inWindow.2.1 ce_Rows_inWindow.2.2.1 mp_12 ce_Rows_inWindow.2.2.2.2.2 ln_Rows_inWindow cl_Rows ha rfl) J_Rows_inWindow (by decide) ce_Rows_inWindow.1 ce_Rows_inWindow.2.1 ce_Rows_inWindow.2.2.1 ce_Rows_inWindow.2.2.2.1 (Nat.le_of_ble_eq_true rfl) ?_
  refine mm_if_eq (tgt := 79) d_Rows_put_60 (by decide) (fun c_60 => ?_) (fun c_60 => ?_)
  · exact mm_return d_Rows_put_79 rfl ⟨by simp [rw_putW, c_1_0, c_1_1, c_1_2, c_60], rfl, by
        funext j
        by_cases j0 : j = a
        · rw [j0]; simp [va_up, rw_putW, c_1_0, c_1_1, c_1_2, c_60, ha, hc, (mm_neq ha hc (by simp)), Ne.symm (mm_neq ha hc (by simp))]
        by_cases j1 : j = c
        · rw [j1]; simp [va_up, rw_putW, c_1_0, c_1_1, c_1_2, c_60, ha, hc, (mm_neq ha hc (by simp)), Ne.symm (mm_neq ha hc (by simp))]
        simp [va_up, j0, j1, rw_putW, c_1_0, c_1_1, c_1_2, c_60]⟩
  · refine mm_aload_n d_Rows_put_63 rfl ?_
    refine mm_getf d_Rows_put_64 cl_Rows fl_Rows_20_Rows (by decide) ha rfl ?_
    refine mm_if_ne (tgt := 79) d_Rows_put_67 (by decide) (fun c_67 => ?_) (fun c_67 => ?_)
    · exact mm_return d_Rows_put_79 rfl ⟨by simp [rw_putW, c_1_0, c_1_1, c_1_2, c_60, c_67], rfl, by
        funext j
        by_cases j0 : j = a
        · rw [j0]; simp [va_up, rw_putW, c_1_0, c_1_1, c_1_2, c_60, c_67, ha, hc, (mm_neq ha hc (by simp)), Ne.symm (mm_neq ha hc (by simp))]
        by_cases j1 : j = c
        · rw [j1]; simp [va_up, rw_putW, c_1_0, c_1_1, c_1_2, c_60, c_67, ha, hc, (mm_neq ha hc (by simp)), Ne.symm (mm_neq ha hc (by simp))]
        simp [va_up, j0, j1, rw_putW, c_1_0, c_1_1, c_1_2, c_60, c_67]⟩
    · refine mm_aload_n d_Rows_put_70 rfl ?_
      refine mm_getf d_Rows_put_71 cl_Rows fl_Rows_13_Rows (by decide) ha rfl ?_
      refine mm_iload_n d_Rows_put_74 rfl ?_
      refine mm_iconst (v := 3) d_Rows_put_75 (by decide) ?_
      refine mm_isub d_Rows_put_76 ?_
      refine mm_iload_n d_Rows_put_77 rfl ?_
      refine mm_iast d_Rows_put_78 hc (rw_win c_60) ?_
      refine mm_hp (fun h4 e4 => ?_)
      have ha_v4 : h4 a = some (.inr (6, [.ref b, .ref c, .int rw_, .int wk, .int wr, .int sl, .int dn, .ref s])) := by rw [e4, va_up_ne _ _ (mm_neq ha hc (by simp))]; exact ha
      have hb_v4 : h4 b = some (.inl (0, 64, .inl Rw)) := by rw [e4, va_up_ne _ _ hbc]; exact hb
      have hc_v4 : h4 c = some (.inl (0, 8, .inl (upd Wn (k - 3).toNatClampNeg v))) := by rw [e4]; exact va_up_self _ _ _
      exact mm_return d_Rows_put_79 rfl ⟨by simp [rw_putW, c_1_0, c_1_1, c_1_2, c_60, c_67, e4], rfl, by
        funext j
        by_cases j0 : j = a
        · rw [j0]; simp [va_up, rw_putW, c_1_0, c_1_1, c_1_2, c_60, c_67, e4, ha, hc, (mm_neq ha hc (by simp)), Ne.symm (mm_neq ha hc (by simp))]
        by_cases j1 : j = c
        · rw [j1]; simp [va_up, rw_putW, c_1_0, c_1_1, c_1_2, c_60, c_67, e4, ha, hc, (mm_neq ha hc (by simp)), Ne.symm (mm_neq ha hc (by simp))]
        simp [va_up, j0, j1, rw_putW, c_1_0, c_1_1, c_1_2, c_60, c_67, e4]⟩
set_option maxRecDepth 100000 in
theorem J_Rows_wantsAttention {sc : mm_Sc} {n : Nat} {h : mm_H} {a b c s : Nat} {Rw Wn : Nat → Int32} {rw_ wk wr sl dn : Int32} (hbc : b ≠ c) (ha : h a = some (.inr (6, [.ref b, .ref c, .int rw_, .int wk, .int wr, .int sl, .int dn, .ref s]))) (hb : h b = some (.inl (0, 64, .inl Rw))) (hc : h c = some (.inl (0, 8, .inl Wn))) : mm_J sc y_Rows_wantsAttention 1 [.ref a] n h 0 0 (fun o n' h' => o = .inl (some (.int (if dn = 1 then 1 else 0))) ∧ n' = n ∧ h' = h) := by
  refine mm_J.of (show mm_G sc y_Rows_wantsAttention 1 0 [some (.ref a)] [] n h 0 0 _ from ?_) ce_Rows_wantsAttention.2.2.2.2.1 (Nat.le_of_ble_eq_true rfl) (by simp [Value.category])
  refine mm_aload_n d_Rows_wantsAttention_0 rfl ?_
  refine mm_getf d_Rows_wantsAttention_1 cl_Rows fl_Rows_29_Rows (by decide) ha rfl ?_
  refine mm_iconst (v := 1) d_Rows_wantsAttention_4 (by decide) ?_
  refine mm_icmp_ne (tgt := 12) d_Rows_wantsAttention_5 (by decide) (fun c_5 => ?_) (fun c_5 => ?_)
  · refine mm_iconst (v := 0) d_Rows_wantsAttention_12 (by decide) ?_
    exact mm_zreturn d_Rows_wantsAttention_13 rfl rfl ⟨by simp [c_5], rfl, rfl⟩
  · refine mm_iconst (v := 1) d_Rows_wantsAttention_8 (by decide) ?_
    refine mm_goto (tgt := 13) d_Rows_wantsAttention_9 (by decide) ?_
    exact mm_zreturn d_Rows_wantsAttention_13 rfl rfl ⟨by simp [c_5], rfl, rfl⟩
set_option maxRecDepth 100000 in
theorem lp_Rows_read {sc : mm_Sc} {n d kc ks : Nat} {h : mm_H} {Q : mm_O → Nat → mm_H → Prop} {a b c s : Nat} {Rw Wn : Nat → Int32} {rw_ wk wr sl dn : Int32} (hbc : b ≠ c) {q : Nat} (hq8 : q < 8) (hw : wk = 1) (ha : h a = some (.inr (6, [.ref b, .ref c, .int rw_, .int wk, .int wr, .int sl, .int dn, .ref s]))) (hb : h b = some (.inl (0, 64, .inl Rw))) (hc : h c = some (.inl (0, 8, .inl Wn))) (hq : mm_G sc y_Rows_moveNumbers d 64 [some (.ref a), some (.int (nI (q * 8))), some (.int (nI 8))] [] n (va_up h c (some (.inl (0, 8, .inl (va_cpy Rw Wn (q * 8) 0 8))))) kc ks Q) : ∀ (m i : Nat), i + m = 8 → mm_G sc y_Rows_moveNumbers d 13 [some (.ref a), some (.int (nI (q * 8))), some (.int (nI i))] [] n (va_up h c (some (.inl (0, 8, .inl (va_cpy Rw Wn (q * 8) 0 i))))) kc ks Q := by
  intro m
  induction m with
  | zero =>
    intro i hi
    obtain rfl : i = 8 := by omega
    refine mm_hp (fun g0 e0 => ?_)
    have ha_g : g0 a = some (.inr (6, [.ref b, .ref c, .int rw_, .int wk, .int wr, .int sl, .int dn, .ref s])) := by rw [e0, va_up_ne _ _ (mm_neq ha hc (by simp))]; exact ha
    have hb_g : g0 b = some (.inl (0, 64, .inl Rw)) := by rw [e0, va_up_ne _ _ hbc]; exact hb
    have hc_g : g0 c = some (.inl (0, 8, .inl (va_cpy Rw Wn (q * 8) 0 8))) := by rw [e0]; exact va_up_self _ _ _
    refine mm_iload_n d_Rows_moveNumbers_13 rfl ?_
    refine mm_bipush (v := 8) d_Rows_moveNumbers_14 (by decide) ?_
    refine mm_icmp_ge (tgt := 64) d_Rows_moveNumbers_16 (by decide) (fun c_16 => ?_) (fun c_16 => absurd (by decide) c_16)
    rw [e0]
    exact hq
  | succ m ih =>
    intro i hi
    have e8 : nI (q * 8) + nI i = nI (q * 8 + i) := nI_add _ _
    refine mm_hp (fun g0 e0 => ?_)
    have ha_g : g0 a = some (.inr (6, [.ref b, .ref c, .int rw_, .int wk, .int wr, .int sl, .int dn, .ref s])) := by rw [e0, va_up_ne _ _ (mm_neq ha hc (by simp))]; exact ha
    have hb_g : g0 b = some (.inl (0, 64, .inl Rw)) := by rw [e0, va_up_ne _ _ hbc]; exact hb
    have hc_g : g0 c = some (.inl (0, 8, .inl (va_cpy Rw Wn (q * 8) 0 i))) := by rw [e0]; exact va_up_self _ _ _
    refine mm_iload_n d_Rows_moveNumbers_13 rfl ?_
    refine mm_bipush (v := 8) d_Rows_moveNumbers_14 (by decide) ?_
    refine mm_icmp_ge (tgt := 64) d_Rows_moveNumbers_16 (by decide) (fun c_16 => absurd c_16 (show ¬ nI 8 ≤ nI i from nI_ge (by omega) (by omega))) (fun c_16 => ?_)
    refine mm_aload_n d_Rows_moveNumbers_19 rfl ?_
    refine mm_getf d_Rows_moveNumbers_20 cl_Rows fl_Rows_20_Rows (by decide) ha_g rfl ?_
    refine mm_iconst (v := 1) d_Rows_moveNumbers_23 (by decide) ?_
    refine mm_icmp_ne (tgt := 44) d_Rows_moveNumbers_24 (by decide) (fun c_24 => absurd hw c_24) (fun c_24 => ?_)
    refine mm_aload_n d_Rows_moveNumbers_27 rfl ?_
    refine mm_getf d_Rows_moveNumbers_28 cl_Rows fl_Rows_13_Rows (by decide) ha_g rfl ?_
    refine mm_iload_n d_Rows_moveNumbers_31 rfl ?_
    refine mm_aload_n d_Rows_moveNumbers_32 rfl ?_
    refine mm_getf d_Rows_moveNumbers_33 cl_Rows fl_Rows_9_Rows (by decide) ha_g rfl ?_
    refine mm_iload_n d_Rows_moveNumbers_36 rfl ?_
    refine mm_iload_n d_Rows_moveNumbers_37 rfl ?_
    refine mm_iadd d_Rows_moveNumbers_38 ?_
    refine mm_iald d_Rows_moveNumbers_39 hb_g (by rw [e8]; exact vp_in_nI (by omega) (by omega)) ?_
    refine mm_iast d_Rows_moveNumbers_40 hc_g (vp_in_nI (by omega) (by omega)) ?_
    refine mm_hp (fun h1 e1 => ?_)
    have ha_g_v1 : h1 a = some (.inr (6, [.ref b, .ref c, .int rw_, .int wk, .int wr, .int sl, .int dn, .ref s])) := by rw [e1, va_up_ne _ _ (mm_neq ha_g hc_g (by simp))]; exact ha_g
    have hb_g_v1 : h1 b = some (.inl (0, 64, .inl Rw)) := by rw [e1, va_up_ne _ _ hbc]; exact hb_g
    have hc_g_v1 : h1 c = some (.inl (0, 8, .inl (upd (va_cpy Rw Wn (q * 8) 0 i) (nI i).toNatClampNeg (Rw ((nI (q * 8)) + (nI i)).toNatClampNeg)))) := by rw [e1]; exact va_up_self _ _ _
    refine mm_goto (tgt := 58) d_Rows_moveNumbers_41 (by decide) ?_
    refine mm_iinc (v := (nI i) + 1) d_Rows_moveNumbers_58 rfl rfl (by decide) ?_
    refine mm_goto (tgt := 13) d_Rows_moveNumbers_61 (by decide) ?_
    have h9 : upd (va_cpy Rw Wn (q * 8) 0 i) (nI i).toNatClampNeg (Rw (nI (q * 8) + nI i).toNatClampNeg) = va_cpy Rw Wn (q * 8) 0 (i + 1) := by rw [nI_clamp (by omega), e8, nI_clamp (by omega), ← cpy_s, Nat.zero_add]
    exact mm_G.cast (by rw [nI_1]; rfl) rfl (by rw [e1, e0, bx_uu, h9]) (ih (i + 1) (by omega))
set_option maxRecDepth 100000 in
theorem lp_Rows_write {sc : mm_Sc} {n d kc ks : Nat} {h : mm_H} {Q : mm_O → Nat → mm_H → Prop} {a b c s : Nat} {Rw Wn : Nat → Int32} {rw_ wk wr sl dn : Int32} (hbc : b ≠ c) {q : Nat} (hq8 : q < 8) (hw : ¬ wk = 1) (ha : h a = some (.inr (6, [.ref b, .ref c, .int rw_, .int wk, .int wr, .int sl, .int dn, .ref s]))) (hb : h b = some (.inl (0, 64, .inl Rw))) (hc : h c = some (.inl (0, 8, .inl Wn))) (hq : mm_G sc y_Rows_moveNumbers d 64 [some (.ref a), some (.int (nI (q * 8))), some (.int (nI 8))] [] n (va_up h b (some (.inl (0, 64, .inl (va_cpy Wn Rw 0 (q * 8) 8))))) kc ks Q) : ∀ (m i : Nat), i + m = 8 → mm_G sc y_Rows_moveNumbers d 13 [some (.ref a), some (.int (nI (q * 8))), some (.int (nI i))] [] n (va_up h b (some (.inl (0, 64, .inl (va_cpy Wn Rw 0 (q * 8) i))))) kc ks Q := by
  intro m
  induction m with
  | zero =>
    intro i hi
    obtain rfl : i = 8 := by omega
    refine mm_hp (fun g0 e0 => ?_)
    have ha_g : g0 a = some (.inr (6, [.ref b, .ref c, .int rw_, .int wk, .int wr, .int sl, .int dn, .ref s])) := by rw [e0, va_up_ne _ _ (mm_neq ha hb (by simp))]; exact ha
    have hb_g : g0 b = some (.inl (0, 64, .inl (va_cpy Wn Rw 0 (q * 8) 8))) := by rw [e0]; exact va_up_self _ _ _
    have hc_g : g0 c = some (.inl (0, 8, .inl Wn)) := by rw [e0, va_up_ne _ _ (Ne.symm hbc)]; exact hc
    refine mm_iload_n d_Rows_moveNumbers_13 rfl ?_
    refine mm_bipush (v := 8) d_Rows_moveNumbers_14 (by decide) ?_
    refine mm_icmp_ge (tgt := 64) d_Rows_moveNumbers_16 (by decide) (fun c_16 => ?_) (fun c_16 => absurd (by decide) c_16)
    rw [e0]
    exact hq
  | succ m ih =>
    intro i hi
    have e8 : nI (q * 8) + nI i = nI (q * 8 + i) := nI_add _ _
    refine mm_hp (fun g0 e0 => ?_)
    have ha_g : g0 a = some (.inr (6, [.ref b, .ref c, .int rw_, .int wk, .int wr, .int sl, .int dn, .ref s])) := by rw [e0, va_up_ne _ _ (mm_neq ha hb (by simp))]; exact ha
    have hb_g : g0 b = some (.inl (0, 64, .inl (va_cpy Wn Rw 0 (q * 8) i))) := by rw [e0]; exact va_up_self _ _ _
    have hc_g : g0 c = some (.inl (0, 8, .inl Wn)) := by rw [e0, va_up_ne _ _ (Ne.symm hbc)]; exact hc
    refine mm_iload_n d_Rows_moveNumbers_13 rfl ?_
    refine mm_bipush (v := 8) d_Rows_moveNumbers_14 (by decide) ?_
    refine mm_icmp_ge (tgt := 64) d_Rows_moveNumbers_16 (by decide) (fun c_16 => absurd c_16 (show ¬ nI 8 ≤ nI i from nI_ge (by omega) (by omega))) (fun c_16 => ?_)
    refine mm_aload_n d_Rows_moveNumbers_19 rfl ?_
    refine mm_getf d_Rows_moveNumbers_20 cl_Rows fl_Rows_20_Rows (by decide) ha_g rfl ?_
    refine mm_iconst (v := 1) d_Rows_moveNumbers_23 (by decide) ?_
    refine mm_icmp_ne (tgt := 44) d_Rows_moveNumbers_24 (by decide) (fun c_24 => ?_) (fun c_24 => absurd c_24 hw)
    refine mm_aload_n d_Rows_moveNumbers_44 rfl ?_
    refine mm_getf d_Rows_moveNumbers_45 cl_Rows fl_Rows_9_Rows (by decide) ha_g rfl ?_
    refine mm_iload_n d_Rows_moveNumbers_48 rfl ?_
    refine mm_iload_n d_Rows_moveNumbers_49 rfl ?_
    refine mm_iadd d_Rows_moveNumbers_50 ?_
    refine mm_aload_n d_Rows_moveNumbers_51 rfl ?_
    refine mm_getf d_Rows_moveNumbers_52 cl_Rows fl_Rows_13_Rows (by decide) ha_g rfl ?_
    refine mm_iload_n d_Rows_moveNumbers_55 rfl ?_
    refine mm_iald d_Rows_moveNumbers_56 hc_g (vp_in_nI (by omega) (by omega)) ?_
    refine mm_iast d_Rows_moveNumbers_57 hb_g (by rw [e8]; exact vp_in_nI (by omega) (by omega)) ?_
    refine mm_hp (fun h1 e1 => ?_)
    have ha_g_v1 : h1 a = some (.inr (6, [.ref b, .ref c, .int rw_, .int wk, .int wr, .int sl, .int dn, .ref s])) := by rw [e1, va_up_ne _ _ (mm_neq ha_g hb_g (by simp))]; exact ha_g
    have hb_g_v1 : h1 b = some (.inl (0, 64, .inl (upd (va_cpy Wn Rw 0 (q * 8) i) ((nI (q * 8)) + (nI i)).toNatClampNeg (Wn (nI i).toNatClampNeg)))) := by rw [e1]; exact va_up_self _ _ _
    have hc_g_v1 : h1 c = some (.inl (0, 8, .inl Wn)) := by rw [e1, va_up_ne _ _ (Ne.symm hbc)]; exact hc_g
    refine mm_iinc (v := (nI i) + 1) d_Rows_moveNumbers_58 rfl rfl (by decide) ?_
    refine mm_goto (tgt := 13) d_Rows_moveNumbers_61 (by decide) ?_
    have h9 : upd (va_cpy Wn Rw 0 (q * 8) i) (nI (q * 8) + nI i).toNatClampNeg (Wn (nI i).toNatClampNeg) = va_cpy Wn Rw 0 (q * 8) (i + 1) := by rw [e8, nI_clamp (by omega), nI_clamp (by omega), ← cpy_s, Nat.zero_add]
    exact mm_G.cast (by rw [nI_1]; rfl) rfl (by rw [e1, e0, bx_uu, h9]) (ih (i + 1) (by omega))
def rw_q (wr : Int32) : Nat := (wr &&& 7).toNatClampNeg
theorem rw_q_lt (wr : Int32) : rw_q wr < 8 ∧ wr &&& 7 = nI (rw_q wr) := by
  obtain ⟨j, hj, e⟩ := pk_andE wr (m := 7) 3 (by decide)
  have hj : j < 8 := hj
  unfold rw_q
  rw [e, nI_clamp (by omega)]
  exact ⟨hj, rfl⟩
set_option maxRecDepth 100000 in
theorem J_Rows_moveNumbers {sc : mm_Sc} {n : Nat} {h : mm_H} {a b c s : Nat} {Rw Wn : Nat → Int32} {rw_ wk wr sl dn : Int32} (hbc : b ≠ c) (ha : h a = some (.inr (6, [.ref b, .ref c, .int rw_, .int wk, .int wr, .int sl, .int dn, .ref s]))) (hb : h b = some (.inl (0, 64, .inl Rw))) (hc : h c = some (.inl (0, 8, .inl Wn))) : mm_J sc y_Rows_moveNumbers 1 [.ref a] n h 0 0 (fun o n' h' => o = .inl (none) ∧ n' = n ∧ h' = va_up (va_up h b (some (.inl (0, 64, .inl (if wk = 1 then Rw else va_cpy Wn Rw 0 (rw_q wr * 8) 8))))) c (some (.inl (0, 8, .inl (if wk = 1 then va_cpy Rw Wn (rw_q wr * 8) 0 8 else Wn))))) := by
  refine mm_J.of (show mm_G sc y_Rows_moveNumbers 1 0 [some (.ref a), none, none] [] n h 0 0 _ from ?_) ce_Rows_moveNumbers.2.2.2.2.1 (Nat.le_of_ble_eq_true rfl) (by simp [Value.category])
  refine mm_aload_n d_Rows_moveNumbers_0 rfl ?_
  refine mm_getf d_Rows_moveNumbers_1 cl_Rows fl_Rows_23_Rows (by decide) ha rfl ?_
  refine mm_bipush (v := 7) d_Rows_moveNumbers_4 (by decide) ?_
  refine mm_iand d_Rows_moveNumbers_6 ?_
  refine mm_bipush (v := 8) d_Rows_moveNumbers_7 (by decide) ?_
  refine mm_imul d_Rows_moveNumbers_9 ?_
  refine mm_istore_n d_Rows_moveNumbers_10 (by decide) ?_
  refine mm_iconst (v := 0) d_Rows_moveNumbers_11 (by decide) ?_
  refine mm_istore_n d_Rows_moveNumbers_12 (by decide) ?_
  have e9 : (wr &&& 7) * 8 = nI (rw_q wr * 8) := by rw [(rw_q_lt wr).2]; exact pk_mul _ 8
  by_cases hw : wk = 1
  · refine mm_G.cast (by rw [e9]; rfl) rfl (by rw [cpy_0, mm_up_id hc]) (lp_Rows_read hbc (rw_q_lt wr).1 hw ha hb hc (mm_return d_Rows_moveNumbers_64 rfl ⟨rfl, rfl, ?_⟩) 8 0 (by omega))
    rw [if_pos hw, if_pos hw, mm_up_id hb]
  · refine mm_G.cast (by rw [e9]; rfl) rfl (by rw [cpy_0, mm_up_id hb]) (lp_Rows_write hbc (rw_q_lt wr).1 hw ha hb hc (mm_return d_Rows_moveNumbers_64 rfl ⟨rfl, rfl, ?_⟩) 8 0 (by omega))
    rw [if_neg hw, if_neg hw]
    exact (mm_up_id (by rw [va_up_ne _ _ (Ne.symm hbc)]; exact hc)).symm
def rw_end (wk sl : Int32) : Bool := decide (¬ wk = 0) && decide (sl - 1 = 0)
set_option maxRecDepth 100000 in
theorem J_Rows_goOn {sc : mm_Sc} {n : Nat} {h : mm_H} {a b c s : Nat} {Rw Wn : Nat → Int32} {rw_ wk wr sl dn : Int32} (hbc : b ≠ c) (ha : h a = some (.inr (6, [.ref b, .ref c, .int rw_, .int wk, .int wr, .int sl, .int dn, .ref s]))) (hb : h b = some (.inl (0, 64, .inl Rw))) (hc : h c = some (.inl (0, 8, .inl Wn))) : mm_J sc y_Rows_goOn 2 [.ref a] n h 0 0 (fun o n' h' => o = .inl (some (.int 0)) ∧ n' = n ∧ h' = va_up (va_up (va_up h b (some (.inl (0, 64, .inl (if rw_end wk sl then (if wk = 1 then Rw else va_cpy Wn Rw 0 (rw_q wr * 8) 8) else Rw))))) c (some (.inl (0, 8, .inl (if rw_end wk sl then (if wk = 1 then va_cpy Rw Wn (rw_q wr * 8) 0 8 else Wn) else Wn))))) a (some (.inr (6, [.ref b, .ref c, .int rw_, .int (if rw_end wk sl then 0 else wk), .int wr, .int (if wk = 0 then sl else sl - 1), .int (if rw_end wk sl then 1 else dn), .ref s])))) := by
  refine mm_J.of (show mm_G sc y_Rows_goOn 2 0 [some (.ref a)] [] n h 0 0 _ from ?_) ce_Rows_goOn.2.2.2.2.1 (Nat.le_of_ble_eq_true rfl) (by simp [Value.category])
  refine mm_aload_n d_Rows_goOn_0 rfl ?_
  refine mm_getf d_Rows_goOn_1 cl_Rows fl_Rows_20_Rows (by decide) ha rfl ?_
  refine mm_if_eq (tgt := 38) d_Rows_goOn_4 (by decide) (fun c_4 => ?_) (fun c_4 => ?_)
  · refine mm_iconst (v := 0) d_Rows_goOn_38 (by decide) ?_
    exact mm_zreturn d_Rows_goOn_39 rfl rfl ⟨by simp [rw_end, c_4], rfl, by
        funext j
        by_cases j0 : j = a
        · rw [j0]; simp [va_up, rw_end, c_4, ha, hb, hc, (mm_neq ha hb (by simp)), (mm_neq ha hc (by simp)), hbc, Ne.symm (mm_neq ha hb (by simp)), Ne.symm (mm_neq ha hc (by simp)), Ne.symm hbc]
        by_cases j1 : j = b
        · rw [j1]; simp [va_up, rw_end, c_4, ha, hb, hc, (mm_neq ha hb (by simp)), (mm_neq ha hc (by simp)), hbc, Ne.symm (mm_neq ha hb (by simp)), Ne.symm (mm_neq ha hc (by simp)), Ne.symm hbc]
        by_cases j2 : j = c
        · rw [j2]; simp [va_up, rw_end, c_4, ha, hb, hc, (mm_neq ha hb (by simp)), (mm_neq ha hc (by simp)), hbc, Ne.symm (mm_neq ha hb (by simp)), Ne.symm (mm_neq ha hc (by simp)), Ne.symm hbc]
        simp [va_up, j0, j1, j2, rw_end, c_4]⟩
  · refine mm_aload_n d_Rows_goOn_7 rfl ?_
    refine mm_dup d_Rows_goOn_8 rfl ?_
    refine mm_getf d_Rows_goOn_9 cl_Rows fl_Rows_26_Rows (by decide) ha rfl ?_
    refine mm_iconst (v := 1) d_Rows_goOn_12 (by decide) ?_
    refine mm_isub d_Rows_goOn_13 ?_
    refine mm_putf d_Rows_goOn_14 cl_Rows ty_Rows fl_Rows_26_Rows (by decide) rfl rfl rfl ha (Nat.le_of_ble_eq_true rfl) ?_
    refine mm_hp (fun h1 e1 => ?_)
    have ha_v1 : h1 a = some (.inr (6, [.ref b, .ref c, .int rw_, .int wk, .int wr, .int (sl - 1), .int dn, .ref s])) := by rw [e1]; exact va_up_self _ _ _
    have hb_v1 : h1 b = some (.inl (0, 64, .inl Rw)) := by rw [e1, va_up_ne _ _ (mm_neq hb ha (by simp))]; exact hb
    have hc_v1 : h1 c = some (.inl (0, 8, .inl Wn)) := by rw [e1, va_up_ne _ _ (mm_neq hc ha (by simp))]; exact hc
    refine mm_aload_n d_Rows_goOn_17 rfl ?_
    refine mm_getf d_Rows_goOn_18 cl_Rows fl_Rows_26_Rows (by decide) ha_v1 rfl ?_
    refine mm_if_ne (tgt := 38) d_Rows_goOn_21 (by decide) (fun c_21 => ?_) (fun c_21 => ?_)
    · refine mm_iconst (v := 0) d_Rows_goOn_38 (by decide) ?_
      exact mm_zreturn d_Rows_goOn_39 rfl rfl ⟨by simp [rw_end, c_4, c_21, e1], rfl, by
        funext j
        by_cases j0 : j = a
        · rw [j0]; simp [va_up, rw_end, c_4, c_21, e1, ha, hb, hc, (mm_neq ha hb (by simp)), (mm_neq ha hc (by simp)), hbc, Ne.symm (mm_neq ha hb (by simp)), Ne.symm (mm_neq ha hc (by simp)), Ne.symm hbc]
        by_cases j1 : j = b
        · rw [j1]; simp [va_up, rw_end, c_4, c_21, e1, ha, hb, hc, (mm_neq ha hb (by simp)), (mm_neq ha hc (by simp)), hbc, Ne.symm (mm_neq ha hb (by simp)), Ne.symm (mm_neq ha hc (by simp)), Ne.symm hbc]
        by_cases j2 : j = c
        · rw [j2]; simp [va_up, rw_end, c_4, c_21, e1, ha, hb, hc, (mm_neq ha hb (by simp)), (mm_neq ha hc (by simp)), hbc, Ne.symm (mm_neq ha hb (by simp)), Ne.symm (mm_neq ha hc (by simp)), Ne.symm hbc]
        simp [va_up, j0, j1, j2, rw_end, c_4, c_21, e1]⟩
    · refine mm_aload_n d_Rows_goOn_24 rfl ?_
      refine mm_callD d_Rows_goOn_25 (mm_Inv.vi (as := []) d_Rows_goOn_25 (Or.inl m_483) m_485 ce_Rows_moveNumbers.2.1 ce_Rows_moveNumbers.2.2.1 mp_10 ce_Rows_moveNumbers.2.2.2.2.2 ln_Rows_moveNumbers cl_Rows ha_v1 rfl) (J_Rows_moveNumbers hbc ha_v1 hb_v1 hc_v1) (by decide) ce_Rows_moveNumbers.1 ce_Rows_moveNumbers.2.1 ce_Rows_moveNumbers.2.2.1 ce_Rows_moveNumbers.2.2.2.1 (Nat.le_of_ble_eq_true rfl) ?_
      refine mm_hp (fun h2 e2 => ?_)
      have ha_v2 : h2 a = some (.inr (6, [.ref b, .ref c, .int rw_, .int wk, .int wr, .int (sl - 1), .int dn, .ref s])) := by rw [e2, va_up_ne _ _ (mm_neq ha_v1 hc_v1 (by simp)), va_up_ne _ _ (mm_neq ha_v1 hb_v1 (by simp))]; exact ha_v1
      have hb_v2 : h2 b = some (.inl (0, 64, .inl (if wk = 1 then Rw else va_cpy Wn Rw 0 (rw_q wr * 8) 8))) := by rw [e2, va_up_ne _ _ hbc]; exact va_up_self _ _ _
      have hc_v2 : h2 c = some (.inl (0, 8, .inl (if wk = 1 then va_cpy Rw Wn (rw_q wr * 8) 0 8 else Wn))) := by rw [e2]; exact va_up_self _ _ _
      refine mm_aload_n d_Rows_goOn_28 rfl ?_
      refine mm_iconst (v := 0) d_Rows_goOn_29 (by decide) ?_
      refine mm_putf d_Rows_goOn_30 cl_Rows ty_Rows fl_Rows_20_Rows (by decide) rfl rfl rfl ha_v2 (Nat.le_of_ble_eq_true rfl) ?_
      refine mm_hp (fun h3 e3 => ?_)
      have ha_v3 : h3 a = some (.inr (6, [.ref b, .ref c, .int rw_, .int 0, .int wr, .int (sl - 1), .int dn, .ref s])) := by rw [e3]; exact va_up_self _ _ _
      have hb_v3 : h3 b = some (.inl (0, 64, .inl (if wk = 1 then Rw else va_cpy Wn Rw 0 (rw_q wr * 8) 8))) := by rw [e3, va_up_ne _ _ (mm_neq hb_v2 ha_v2 (by simp))]; exact hb_v2
      have hc_v3 : h3 c = some (.inl (0, 8, .inl (if wk = 1 then va_cpy Rw Wn (rw_q wr * 8) 0 8 else Wn))) := by rw [e3, va_up_ne _ _ (mm_neq hc_v2 ha_v2 (by simp))]; exact hc_v2
      refine mm_aload_n d_Rows_goOn_33 rfl ?_
      refine mm_iconst (v := 1) d_Rows_goOn_34 (by decide) ?_
      refine mm_putf d_Rows_goOn_35 cl_Rows ty_Rows fl_Rows_29_Rows (by decide) rfl rfl rfl ha_v3 (Nat.le_of_ble_eq_true rfl) ?_
      refine mm_hp (fun h4 e4 => ?_)
      have ha_v4 : h4 a = some (.inr (6, [.ref b, .ref c, .int rw_, .int 0, .int wr, .int (sl - 1), .int 1, .ref s])) := by rw [e4]; exact va_up_self _ _ _
      have hb_v4 : h4 b = some (.inl (0, 64, .inl (if wk = 1 then Rw else va_cpy Wn Rw 0 (rw_q wr * 8) 8))) := by rw [e4, va_up_ne _ _ (mm_neq hb_v3 ha_v3 (by simp))]; exact hb_v3
      have hc_v4 : h4 c = some (.inl (0, 8, .inl (if wk = 1 then va_cpy Rw Wn (rw_q wr * 8) 0 8 else Wn))) := by rw [e4, va_up_ne _ _ (mm_neq hc_v3 ha_v3 (by simp))]; exact hc_v3
      refine mm_iconst (v := 0) d_Rows_goOn_38 (by decide) ?_
      exact mm_zreturn d_Rows_goOn_39 rfl rfl ⟨by simp [rw_end, c_4, c_21, e4, e3, e2, e1], rfl, by
        funext j
        by_cases j0 : j = a
        · rw [j0]; simp [va_up, rw_end, c_4, c_21, e4, e3, e2, e1, ha, hb, hc, (mm_neq ha hb (by simp)), (mm_neq ha hc (by simp)), hbc, Ne.symm (mm_neq ha hb (by simp)), Ne.symm (mm_neq ha hc (by simp)), Ne.symm hbc]
        by_cases j1 : j = b
        · rw [j1]; simp [va_up, rw_end, c_4, c_21, e4, e3, e2, e1, ha, hb, hc, (mm_neq ha hb (by simp)), (mm_neq ha hc (by simp)), hbc, Ne.symm (mm_neq ha hb (by simp)), Ne.symm (mm_neq ha hc (by simp)), Ne.symm hbc]
        by_cases j2 : j = c
        · rw [j2]; simp [va_up, rw_end, c_4, c_21, e4, e3, e2, e1, ha, hb, hc, (mm_neq ha hb (by simp)), (mm_neq ha hc (by simp)), hbc, Ne.symm (mm_neq ha hb (by simp)), Ne.symm (mm_neq ha hc (by simp)), Ne.symm hbc]
        simp [va_up, j0, j1, j2, rw_end, c_4, c_21, e4, e3, e2, e1]⟩
end
