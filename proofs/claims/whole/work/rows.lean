section
-- ===== PART A: goes FIRST, ahead of the names: the tables' words, and 'selects' of the private methods out of them =====
/-- a private method of a class that the tables say can be made, by its rows of tables_1 -/
def lw_okq (q : MethodName × Nat) : Prop := (q.1.cls ≠ "java/lang/invoke/MethodHandle" ∧ q.1.cls ≠ "java/lang/invoke/VarHandle") ∧ Cond.instantiable q.1.cls q.2 ∈ tables_1 ∧ Cond.privateMethod q.1 ∈ tables_1 ∧ Cond.instanceMethod q.1 ∈ tables_1
theorem lw_p0 : lw_okq (⟨"FindTables", "saveState", "()V"⟩, 9) := ⟨⟨by decide +kernel, by decide +kernel⟩, List.mem_of_getElem? (i := 23) (by decide +kernel), List.mem_of_getElem? (i := 304) (by decide +kernel), List.mem_of_getElem? (i := 305) (by decide +kernel)⟩
theorem lw_p1 : lw_okq (⟨"FindTables$Saved", "slotBehind", "(I)LFindTables$State;"⟩, 3) := ⟨⟨by decide +kernel, by decide +kernel⟩, List.mem_of_getElem? (i := 158) (by decide +kernel), List.mem_of_getElem? (i := 312) (by decide +kernel), List.mem_of_getElem? (i := 313) (by decide +kernel)⟩
theorem lw_p2 : lw_okq (⟨"FindTables$Text", "readPart", "(LFindTables$Tables;)V"⟩, 4) := ⟨⟨by decide +kernel, by decide +kernel⟩, List.mem_of_getElem? (i := 178) (by decide +kernel), List.mem_of_getElem? (i := 419) (by decide +kernel), List.mem_of_getElem? (i := 420) (by decide +kernel)⟩
theorem lw_p3 : lw_okq (⟨"FindTables$Text", "peek", "()I"⟩, 4) := ⟨⟨by decide +kernel, by decide +kernel⟩, List.mem_of_getElem? (i := 178) (by decide +kernel), List.mem_of_getElem? (i := 423) (by decide +kernel), List.mem_of_getElem? (i := 424) (by decide +kernel)⟩
theorem lw_p4 : lw_okq (⟨"FindTables$Text", "readDraws", "(LFindTables$Tables;)V"⟩, 4) := ⟨⟨by decide +kernel, by decide +kernel⟩, List.mem_of_getElem? (i := 178) (by decide +kernel), List.mem_of_getElem? (i := 427) (by decide +kernel), List.mem_of_getElem? (i := 428) (by decide +kernel)⟩
theorem lw_p5 : lw_okq (⟨"FindTables$Text", "readDigit", "(II)I"⟩, 4) := ⟨⟨by decide +kernel, by decide +kernel⟩, List.mem_of_getElem? (i := 178) (by decide +kernel), List.mem_of_getElem? (i := 431) (by decide +kernel), List.mem_of_getElem? (i := 432) (by decide +kernel)⟩
theorem lw_p6 : lw_okq (⟨"FindTables$Text", "readSign", "(C)V"⟩, 4) := ⟨⟨by decide +kernel, by decide +kernel⟩, List.mem_of_getElem? (i := 178) (by decide +kernel), List.mem_of_getElem? (i := 435) (by decide +kernel), List.mem_of_getElem? (i := 436) (by decide +kernel)⟩
theorem lw_p7 : lw_okq (⟨"FindTables$Text", "readEntry", "(LFindTables$Tables;)V"⟩, 4) := ⟨⟨by decide +kernel, by decide +kernel⟩, List.mem_of_getElem? (i := 178) (by decide +kernel), List.mem_of_getElem? (i := 442) (by decide +kernel), List.mem_of_getElem? (i := 443) (by decide +kernel)⟩
theorem lw_p8 : lw_okq (⟨"FindTables$Text", "readTableWithRoom", "(LFindTables$Tables;)I"⟩, 4) := ⟨⟨by decide +kernel, by decide +kernel⟩, List.mem_of_getElem? (i := 178) (by decide +kernel), List.mem_of_getElem? (i := 446) (by decide +kernel), List.mem_of_getElem? (i := 447) (by decide +kernel)⟩
theorem lw_p9 : lw_okq (⟨"FindTables$Text", "readWhat", "(I)I"⟩, 4) := ⟨⟨by decide +kernel, by decide +kernel⟩, List.mem_of_getElem? (i := 178) (by decide +kernel), List.mem_of_getElem? (i := 451) (by decide +kernel), List.mem_of_getElem? (i := 452) (by decide +kernel)⟩
theorem lw_p10 : lw_okq (⟨"FindTables$Text", "readNumber", "(III)I"⟩, 4) := ⟨⟨by decide +kernel, by decide +kernel⟩, List.mem_of_getElem? (i := 178) (by decide +kernel), List.mem_of_getElem? (i := 455) (by decide +kernel), List.mem_of_getElem? (i := 456) (by decide +kernel)⟩
theorem lw_p11 : lw_okq (⟨"FindTables$Text", "readOnce", "()Z"⟩, 4) := ⟨⟨by decide +kernel, by decide +kernel⟩, List.mem_of_getElem? (i := 178) (by decide +kernel), List.mem_of_getElem? (i := 474) (by decide +kernel), List.mem_of_getElem? (i := 475) (by decide +kernel)⟩
theorem lw_p12 : lw_okq (⟨"FindTables", "tellValue", "(I)I"⟩, 9) := ⟨⟨by decide +kernel, by decide +kernel⟩, List.mem_of_getElem? (i := 23) (by decide +kernel), List.mem_of_getElem? (i := 497) (by decide +kernel), List.mem_of_getElem? (i := 498) (by decide +kernel)⟩
theorem lw_p13 : lw_okq (⟨"FindTables", "mixTable", "(JI)J"⟩, 9) := ⟨⟨by decide +kernel, by decide +kernel⟩, List.mem_of_getElem? (i := 23) (by decide +kernel), List.mem_of_getElem? (i := 508) (by decide +kernel), List.mem_of_getElem? (i := 509) (by decide +kernel)⟩
theorem lw_p14 : lw_okq (⟨"FindTables", "tellTable", "(II)I"⟩, 9) := ⟨⟨by decide +kernel, by decide +kernel⟩, List.mem_of_getElem? (i := 23) (by decide +kernel), List.mem_of_getElem? (i := 512) (by decide +kernel), List.mem_of_getElem? (i := 513) (by decide +kernel)⟩
theorem lw_p15 : lw_okq (⟨"FindTables", "prepareFirstDraw", "(I)V"⟩, 9) := ⟨⟨by decide +kernel, by decide +kernel⟩, List.mem_of_getElem? (i := 23) (by decide +kernel), List.mem_of_getElem? (i := 517) (by decide +kernel), List.mem_of_getElem? (i := 518) (by decide +kernel)⟩
def lw_privs_1 : List (MethodName × Nat) := [(⟨"FindTables", "saveState", "()V"⟩, 9), (⟨"FindTables$Saved", "slotBehind", "(I)LFindTables$State;"⟩, 3), (⟨"FindTables$Text", "readPart", "(LFindTables$Tables;)V"⟩, 4), (⟨"FindTables$Text", "peek", "()I"⟩, 4), (⟨"FindTables$Text", "readDraws", "(LFindTables$Tables;)V"⟩, 4), (⟨"FindTables$Text", "readDigit", "(II)I"⟩, 4), (⟨"FindTables$Text", "readSign", "(C)V"⟩, 4), (⟨"FindTables$Text", "readEntry", "(LFindTables$Tables;)V"⟩, 4), (⟨"FindTables$Text", "readTableWithRoom", "(LFindTables$Tables;)I"⟩, 4), (⟨"FindTables$Text", "readWhat", "(I)I"⟩, 4), (⟨"FindTables$Text", "readNumber", "(III)I"⟩, 4), (⟨"FindTables$Text", "readOnce", "()Z"⟩, 4), (⟨"FindTables", "tellValue", "(I)I"⟩, 9), (⟨"FindTables", "mixTable", "(JI)J"⟩, 9), (⟨"FindTables", "tellTable", "(II)I"⟩, 9), (⟨"FindTables", "prepareFirstDraw", "(I)V"⟩, 9)]
theorem lw_r1 : ∀ q ∈ lw_privs_1, lw_okq q := List.forall_mem_cons.mpr ⟨lw_p0, List.forall_mem_cons.mpr ⟨lw_p1, List.forall_mem_cons.mpr ⟨lw_p2, List.forall_mem_cons.mpr ⟨lw_p3, List.forall_mem_cons.mpr ⟨lw_p4, List.forall_mem_cons.mpr ⟨lw_p5, List.forall_mem_cons.mpr ⟨lw_p6, List.forall_mem_cons.mpr ⟨lw_p7, List.forall_mem_cons.mpr ⟨lw_p8, List.forall_mem_cons.mpr ⟨lw_p9, List.forall_mem_cons.mpr ⟨lw_p10, List.forall_mem_cons.mpr ⟨lw_p11, List.forall_mem_cons.mpr ⟨lw_p12, List.forall_mem_cons.mpr ⟨lw_p13, List.forall_mem_cons.mpr ⟨lw_p14, List.forall_mem_cons.mpr ⟨lw_p15, fun _ h => absurd h List.not_mem_nil⟩⟩⟩⟩⟩⟩⟩⟩⟩⟩⟩⟩⟩⟩⟩⟩
theorem lw_p16 : lw_okq (⟨"FindTables$Draw", "weigh", "(LFindTables$State;III)V"⟩, 3) := ⟨⟨by decide +kernel, by decide +kernel⟩, List.mem_of_getElem? (i := 207) (by decide +kernel), List.mem_of_getElem? (i := 530) (by decide +kernel), List.mem_of_getElem? (i := 531) (by decide +kernel)⟩
theorem lw_p17 : lw_okq (⟨"FindTables$Draw", "reaches", "(LFindTables$Tables;II)Z"⟩, 3) := ⟨⟨by decide +kernel, by decide +kernel⟩, List.mem_of_getElem? (i := 207) (by decide +kernel), List.mem_of_getElem? (i := 544) (by decide +kernel), List.mem_of_getElem? (i := 545) (by decide +kernel)⟩
theorem lw_p18 : lw_okq (⟨"FindTables", "tellEntry", "(III)I"⟩, 9) := ⟨⟨by decide +kernel, by decide +kernel⟩, List.mem_of_getElem? (i := 23) (by decide +kernel), List.mem_of_getElem? (i := 563) (by decide +kernel), List.mem_of_getElem? (i := 564) (by decide +kernel)⟩
theorem lw_p19 : lw_okq (⟨"FindTables$Chances", "goOn", "(LFindTables$State;IIIJ)V"⟩, 7) := ⟨⟨by decide +kernel, by decide +kernel⟩, List.mem_of_getElem? (i := 240) (by decide +kernel), List.mem_of_getElem? (i := 583) (by decide +kernel), List.mem_of_getElem? (i := 584) (by decide +kernel)⟩
theorem lw_p20 : lw_okq (⟨"FindTables$Chances", "endOpening", "(IIJ)V"⟩, 7) := ⟨⟨by decide +kernel, by decide +kernel⟩, List.mem_of_getElem? (i := 240) (by decide +kernel), List.mem_of_getElem? (i := 588) (by decide +kernel), List.mem_of_getElem? (i := 589) (by decide +kernel)⟩
theorem lw_p21 : lw_okq (⟨"FindTables$Chances", "handOn", "(LFindTables$State;IIIIJ)V"⟩, 7) := ⟨⟨by decide +kernel, by decide +kernel⟩, List.mem_of_getElem? (i := 240) (by decide +kernel), List.mem_of_getElem? (i := 594) (by decide +kernel), List.mem_of_getElem? (i := 595) (by decide +kernel)⟩
theorem lw_p22 : lw_okq (⟨"java/lang/Throwable", "fillInStackTrace", "(I)Ljava/lang/Throwable;"⟩, 6) := ⟨⟨by decide +kernel, by decide +kernel⟩, List.mem_of_getElem? (i := 669) (by decide +kernel), List.mem_of_getElem? (i := 667) (by decide +kernel), List.mem_of_getElem? (i := 668) (by decide +kernel)⟩
theorem lw_p23 : lw_okq (⟨"FindTables", "needEntry", "(II)V"⟩, 9) := ⟨⟨by decide +kernel, by decide +kernel⟩, List.mem_of_getElem? (i := 23) (by decide +kernel), List.mem_of_getElem? (i := 756) (by decide +kernel), List.mem_of_getElem? (i := 757) (by decide +kernel)⟩
theorem lw_p24 : lw_okq (⟨"FindTables$Tables", "moveEntry", "(II)V"⟩, 8) := ⟨⟨by decide +kernel, by decide +kernel⟩, List.mem_of_getElem? (i := 37) (by decide +kernel), List.mem_of_getElem? (i := 765) (by decide +kernel), List.mem_of_getElem? (i := 766) (by decide +kernel)⟩
theorem lw_p25 : lw_okq (⟨"FindTables$Opening", "drawItem", "(LFindTables$State;I)V"⟩, 4) := ⟨⟨by decide +kernel, by decide +kernel⟩, List.mem_of_getElem? (i := 201) (by decide +kernel), List.mem_of_getElem? (i := 843) (by decide +kernel), List.mem_of_getElem? (i := 844) (by decide +kernel)⟩
theorem lw_p26 : lw_okq (⟨"FindTables$Opening", "takeItem", "(LFindTables$State;II)V"⟩, 4) := ⟨⟨by decide +kernel, by decide +kernel⟩, List.mem_of_getElem? (i := 201) (by decide +kernel), List.mem_of_getElem? (i := 870) (by decide +kernel), List.mem_of_getElem? (i := 871) (by decide +kernel)⟩
theorem lw_p27 : lw_okq (⟨"FindTablesModel", "refused", "(I)Z"⟩, 26) := ⟨⟨by decide +kernel, by decide +kernel⟩, List.mem_of_getElem? (i := 989) (by decide +kernel), List.mem_of_getElem? (i := 1082) (by decide +kernel), List.mem_of_getElem? (i := 1083) (by decide +kernel)⟩
theorem lw_p28 : lw_okq (⟨"FindTablesModel", "saves", "()V"⟩, 26) := ⟨⟨by decide +kernel, by decide +kernel⟩, List.mem_of_getElem? (i := 989) (by decide +kernel), List.mem_of_getElem? (i := 1096) (by decide +kernel), List.mem_of_getElem? (i := 1097) (by decide +kernel)⟩
theorem lw_p29 : lw_okq (⟨"FindTablesModel", "comes", "(IIIIIZ)I"⟩, 26) := ⟨⟨by decide +kernel, by decide +kernel⟩, List.mem_of_getElem? (i := 989) (by decide +kernel), List.mem_of_getElem? (i := 1113) (by decide +kernel), List.mem_of_getElem? (i := 1114) (by decide +kernel)⟩
theorem lw_p30 : lw_okq (⟨"FindTablesModel", "isEntry", "(II)Z"⟩, 26) := ⟨⟨by decide +kernel, by decide +kernel⟩, List.mem_of_getElem? (i := 989) (by decide +kernel), List.mem_of_getElem? (i := 1124) (by decide +kernel), List.mem_of_getElem? (i := 1125) (by decide +kernel)⟩
theorem lw_p31 : lw_okq (⟨"FindTablesModel", "of", "(III)I"⟩, 26) := ⟨⟨by decide +kernel, by decide +kernel⟩, List.mem_of_getElem? (i := 989) (by decide +kernel), List.mem_of_getElem? (i := 1132) (by decide +kernel), List.mem_of_getElem? (i := 1133) (by decide +kernel)⟩
def lw_privs_2 : List (MethodName × Nat) := [(⟨"FindTables$Draw", "weigh", "(LFindTables$State;III)V"⟩, 3), (⟨"FindTables$Draw", "reaches", "(LFindTables$Tables;II)Z"⟩, 3), (⟨"FindTables", "tellEntry", "(III)I"⟩, 9), (⟨"FindTables$Chances", "goOn", "(LFindTables$State;IIIJ)V"⟩, 7), (⟨"FindTables$Chances", "endOpening", "(IIJ)V"⟩, 7), (⟨"FindTables$Chances", "handOn", "(LFindTables$State;IIIIJ)V"⟩, 7), (⟨"java/lang/Throwable", "fillInStackTrace", "(I)Ljava/lang/Throwable;"⟩, 6), (⟨"FindTables", "needEntry", "(II)V"⟩, 9), (⟨"FindTables$Tables", "moveEntry", "(II)V"⟩, 8), (⟨"FindTables$Opening", "drawItem", "(LFindTables$State;I)V"⟩, 4), (⟨"FindTables$Opening", "takeItem", "(LFindTables$State;II)V"⟩, 4), (⟨"FindTablesModel", "refused", "(I)Z"⟩, 26), (⟨"FindTablesModel", "saves", "()V"⟩, 26), (⟨"FindTablesModel", "comes", "(IIIIIZ)I"⟩, 26), (⟨"FindTablesModel", "isEntry", "(II)Z"⟩, 26), (⟨"FindTablesModel", "of", "(III)I"⟩, 26)]
theorem lw_r2 : ∀ q ∈ lw_privs_2, lw_okq q := List.forall_mem_cons.mpr ⟨lw_p16, List.forall_mem_cons.mpr ⟨lw_p17, List.forall_mem_cons.mpr ⟨lw_p18, List.forall_mem_cons.mpr ⟨lw_p19, List.forall_mem_cons.mpr ⟨lw_p20, List.forall_mem_cons.mpr ⟨lw_p21, List.forall_mem_cons.mpr ⟨lw_p22, List.forall_mem_cons.mpr ⟨lw_p23, List.forall_mem_cons.mpr ⟨lw_p24, List.forall_mem_cons.mpr ⟨lw_p25, List.forall_mem_cons.mpr ⟨lw_p26, List.forall_mem_cons.mpr ⟨lw_p27, List.forall_mem_cons.mpr ⟨lw_p28, List.forall_mem_cons.mpr ⟨lw_p29, List.forall_mem_cons.mpr ⟨lw_p30, List.forall_mem_cons.mpr ⟨lw_p31, fun _ h => absurd h List.not_mem_nil⟩⟩⟩⟩⟩⟩⟩⟩⟩⟩⟩⟩⟩⟩⟩⟩
theorem lw_p32 : lw_okq (⟨"FindTablesModel", "spentOnes", "()I"⟩, 26) := ⟨⟨by decide +kernel, by decide +kernel⟩, List.mem_of_getElem? (i := 989) (by decide +kernel), List.mem_of_getElem? (i := 1140) (by decide +kernel), List.mem_of_getElem? (i := 1141) (by decide +kernel)⟩
theorem lw_p33 : lw_okq (⟨"FindTablesModel", "tellEntry", "(III)I"⟩, 26) := ⟨⟨by decide +kernel, by decide +kernel⟩, List.mem_of_getElem? (i := 989) (by decide +kernel), List.mem_of_getElem? (i := 1148) (by decide +kernel), List.mem_of_getElem? (i := 1149) (by decide +kernel)⟩
theorem lw_p34 : lw_okq (⟨"FindTablesModel", "present", "(II)I"⟩, 26) := ⟨⟨by decide +kernel, by decide +kernel⟩, List.mem_of_getElem? (i := 989) (by decide +kernel), List.mem_of_getElem? (i := 1152) (by decide +kernel), List.mem_of_getElem? (i := 1153) (by decide +kernel)⟩
theorem lw_p35 : lw_okq (⟨"FindTablesModel", "firstAble", "(I)I"⟩, 26) := ⟨⟨by decide +kernel, by decide +kernel⟩, List.mem_of_getElem? (i := 989) (by decide +kernel), List.mem_of_getElem? (i := 1156) (by decide +kernel), List.mem_of_getElem? (i := 1157) (by decide +kernel)⟩
theorem lw_p36 : lw_okq (⟨"FindTablesModel", "spentSet", "()I"⟩, 26) := ⟨⟨by decide +kernel, by decide +kernel⟩, List.mem_of_getElem? (i := 989) (by decide +kernel), List.mem_of_getElem? (i := 1160) (by decide +kernel), List.mem_of_getElem? (i := 1161) (by decide +kernel)⟩
theorem lw_p37 : lw_okq (⟨"FindTablesModel", "wanted", "(IIII)I"⟩, 26) := ⟨⟨by decide +kernel, by decide +kernel⟩, List.mem_of_getElem? (i := 989) (by decide +kernel), List.mem_of_getElem? (i := 1164) (by decide +kernel), List.mem_of_getElem? (i := 1165) (by decide +kernel)⟩
theorem lw_p38 : lw_okq (⟨"FindTablesModel", "able", "(III)I"⟩, 26) := ⟨⟨by decide +kernel, by decide +kernel⟩, List.mem_of_getElem? (i := 989) (by decide +kernel), List.mem_of_getElem? (i := 1168) (by decide +kernel), List.mem_of_getElem? (i := 1169) (by decide +kernel)⟩
theorem lw_p39 : lw_okq (⟨"FindTablesModel", "tellTable", "(II)I"⟩, 26) := ⟨⟨by decide +kernel, by decide +kernel⟩, List.mem_of_getElem? (i := 989) (by decide +kernel), List.mem_of_getElem? (i := 1179) (by decide +kernel), List.mem_of_getElem? (i := 1180) (by decide +kernel)⟩
theorem lw_p40 : lw_okq (⟨"FindTablesModel", "sum", "(II)I"⟩, 26) := ⟨⟨by decide +kernel, by decide +kernel⟩, List.mem_of_getElem? (i := 989) (by decide +kernel), List.mem_of_getElem? (i := 1183) (by decide +kernel), List.mem_of_getElem? (i := 1184) (by decide +kernel)⟩
theorem lw_p41 : lw_okq (⟨"FindTablesModel", "puts", "(II)I"⟩, 26) := ⟨⟨by decide +kernel, by decide +kernel⟩, List.mem_of_getElem? (i := 989) (by decide +kernel), List.mem_of_getElem? (i := 1194) (by decide +kernel), List.mem_of_getElem? (i := 1195) (by decide +kernel)⟩
theorem lw_p42 : lw_okq (⟨"FindTablesModel", "tellValue", "(I)I"⟩, 26) := ⟨⟨by decide +kernel, by decide +kernel⟩, List.mem_of_getElem? (i := 989) (by decide +kernel), List.mem_of_getElem? (i := 1215) (by decide +kernel), List.mem_of_getElem? (i := 1216) (by decide +kernel)⟩
theorem lw_p43 : lw_okq (⟨"FindTablesModel", "different", "()I"⟩, 26) := ⟨⟨by decide +kernel, by decide +kernel⟩, List.mem_of_getElem? (i := 989) (by decide +kernel), List.mem_of_getElem? (i := 1219) (by decide +kernel), List.mem_of_getElem? (i := 1220) (by decide +kernel)⟩
theorem lw_p44 : lw_okq (⟨"FindTablesModel", "opens", "(I)I"⟩, 26) := ⟨⟨by decide +kernel, by decide +kernel⟩, List.mem_of_getElem? (i := 989) (by decide +kernel), List.mem_of_getElem? (i := 1227) (by decide +kernel), List.mem_of_getElem? (i := 1228) (by decide +kernel)⟩
theorem lw_p45 : lw_okq (⟨"FindTablesModel", "drawn", "(II)I"⟩, 26) := ⟨⟨by decide +kernel, by decide +kernel⟩, List.mem_of_getElem? (i := 989) (by decide +kernel), List.mem_of_getElem? (i := 1231) (by decide +kernel), List.mem_of_getElem? (i := 1232) (by decide +kernel)⟩
theorem lw_p46 : lw_okq (⟨"FindTablesModel", "draw", "(I)I"⟩, 26) := ⟨⟨by decide +kernel, by decide +kernel⟩, List.mem_of_getElem? (i := 989) (by decide +kernel), List.mem_of_getElem? (i := 1235) (by decide +kernel), List.mem_of_getElem? (i := 1236) (by decide +kernel)⟩
theorem lw_p47 : lw_okq (⟨"FindTablesModel", "groupsWith", "(III)I"⟩, 26) := ⟨⟨by decide +kernel, by decide +kernel⟩, List.mem_of_getElem? (i := 989) (by decide +kernel), List.mem_of_getElem? (i := 1243) (by decide +kernel), List.mem_of_getElem? (i := 1244) (by decide +kernel)⟩
def lw_privs_3 : List (MethodName × Nat) := [(⟨"FindTablesModel", "spentOnes", "()I"⟩, 26), (⟨"FindTablesModel", "tellEntry", "(III)I"⟩, 26), (⟨"FindTablesModel", "present", "(II)I"⟩, 26), (⟨"FindTablesModel", "firstAble", "(I)I"⟩, 26), (⟨"FindTablesModel", "spentSet", "()I"⟩, 26), (⟨"FindTablesModel", "wanted", "(IIII)I"⟩, 26), (⟨"FindTablesModel", "able", "(III)I"⟩, 26), (⟨"FindTablesModel", "tellTable", "(II)I"⟩, 26), (⟨"FindTablesModel", "sum", "(II)I"⟩, 26), (⟨"FindTablesModel", "puts", "(II)I"⟩, 26), (⟨"FindTablesModel", "tellValue", "(I)I"⟩, 26), (⟨"FindTablesModel", "different", "()I"⟩, 26), (⟨"FindTablesModel", "opens", "(I)I"⟩, 26), (⟨"FindTablesModel", "drawn", "(II)I"⟩, 26), (⟨"FindTablesModel", "draw", "(I)I"⟩, 26), (⟨"FindTablesModel", "groupsWith", "(III)I"⟩, 26)]
theorem lw_r3 : ∀ q ∈ lw_privs_3, lw_okq q := List.forall_mem_cons.mpr ⟨lw_p32, List.forall_mem_cons.mpr ⟨lw_p33, List.forall_mem_cons.mpr ⟨lw_p34, List.forall_mem_cons.mpr ⟨lw_p35, List.forall_mem_cons.mpr ⟨lw_p36, List.forall_mem_cons.mpr ⟨lw_p37, List.forall_mem_cons.mpr ⟨lw_p38, List.forall_mem_cons.mpr ⟨lw_p39, List.forall_mem_cons.mpr ⟨lw_p40, List.forall_mem_cons.mpr ⟨lw_p41, List.forall_mem_cons.mpr ⟨lw_p42, List.forall_mem_cons.mpr ⟨lw_p43, List.forall_mem_cons.mpr ⟨lw_p44, List.forall_mem_cons.mpr ⟨lw_p45, List.forall_mem_cons.mpr ⟨lw_p46, List.forall_mem_cons.mpr ⟨lw_p47, fun _ h => absurd h List.not_mem_nil⟩⟩⟩⟩⟩⟩⟩⟩⟩⟩⟩⟩⟩⟩⟩⟩
theorem lw_p48 : lw_okq (⟨"FindTablesModel", "finds", "(II)V"⟩, 26) := ⟨⟨by decide +kernel, by decide +kernel⟩, List.mem_of_getElem? (i := 989) (by decide +kernel), List.mem_of_getElem? (i := 1247) (by decide +kernel), List.mem_of_getElem? (i := 1248) (by decide +kernel)⟩
theorem lw_p49 : lw_okq (⟨"FindTablesModel", "goesThrough", "(I)V"⟩, 26) := ⟨⟨by decide +kernel, by decide +kernel⟩, List.mem_of_getElem? (i := 989) (by decide +kernel), List.mem_of_getElem? (i := 1271) (by decide +kernel), List.mem_of_getElem? (i := 1272) (by decide +kernel)⟩
theorem lw_p50 : lw_okq (⟨"FindTablesModel", "goesOn", "(IJIIIIII)V"⟩, 26) := ⟨⟨by decide +kernel, by decide +kernel⟩, List.mem_of_getElem? (i := 989) (by decide +kernel), List.mem_of_getElem? (i := 1276) (by decide +kernel), List.mem_of_getElem? (i := 1277) (by decide +kernel)⟩
theorem lw_p51 : lw_okq (⟨"FindTablesModel", "lays", "(IIJI)V"⟩, 26) := ⟨⟨by decide +kernel, by decide +kernel⟩, List.mem_of_getElem? (i := 989) (by decide +kernel), List.mem_of_getElem? (i := 1280) (by decide +kernel), List.mem_of_getElem? (i := 1281) (by decide +kernel)⟩
theorem lw_p52 : lw_okq (⟨"FindTablesModel", "nextOnTop", "()I"⟩, 26) := ⟨⟨by decide +kernel, by decide +kernel⟩, List.mem_of_getElem? (i := 989) (by decide +kernel), List.mem_of_getElem? (i := 1284) (by decide +kernel), List.mem_of_getElem? (i := 1285) (by decide +kernel)⟩
theorem lw_p53 : lw_okq (⟨"FindTablesModel", "handsOn", "(II)V"⟩, 26) := ⟨⟨by decide +kernel, by decide +kernel⟩, List.mem_of_getElem? (i := 989) (by decide +kernel), List.mem_of_getElem? (i := 1288) (by decide +kernel), List.mem_of_getElem? (i := 1289) (by decide +kernel)⟩
theorem lw_p54 : lw_okq (⟨"FindTablesModel", "spentWith", "(III)I"⟩, 26) := ⟨⟨by decide +kernel, by decide +kernel⟩, List.mem_of_getElem? (i := 989) (by decide +kernel), List.mem_of_getElem? (i := 1292) (by decide +kernel), List.mem_of_getElem? (i := 1293) (by decide +kernel)⟩
theorem lw_p55 : lw_okq (⟨"FindTablesModel", "keeps", "()V"⟩, 26) := ⟨⟨by decide +kernel, by decide +kernel⟩, List.mem_of_getElem? (i := 989) (by decide +kernel), List.mem_of_getElem? (i := 1312) (by decide +kernel), List.mem_of_getElem? (i := 1313) (by decide +kernel)⟩
theorem lw_p56 : lw_okq (⟨"FindTablesModel", "takesBack", "()V"⟩, 26) := ⟨⟨by decide +kernel, by decide +kernel⟩, List.mem_of_getElem? (i := 989) (by decide +kernel), List.mem_of_getElem? (i := 1316) (by decide +kernel), List.mem_of_getElem? (i := 1317) (by decide +kernel)⟩
theorem lw_p57 : lw_okq (⟨"FindTablesModel", "takes", "(I)Z"⟩, 26) := ⟨⟨by decide +kernel, by decide +kernel⟩, List.mem_of_getElem? (i := 989) (by decide +kernel), List.mem_of_getElem? (i := 1337) (by decide +kernel), List.mem_of_getElem? (i := 1338) (by decide +kernel)⟩
theorem lw_p58 : lw_okq (⟨"FindTablesModel", "takesDraws", "()Z"⟩, 26) := ⟨⟨by decide +kernel, by decide +kernel⟩, List.mem_of_getElem? (i := 989) (by decide +kernel), List.mem_of_getElem? (i := 1341) (by decide +kernel), List.mem_of_getElem? (i := 1342) (by decide +kernel)⟩
theorem lw_p59 : lw_okq (⟨"FindTablesModel", "takesDigit", "(II)Z"⟩, 26) := ⟨⟨by decide +kernel, by decide +kernel⟩, List.mem_of_getElem? (i := 989) (by decide +kernel), List.mem_of_getElem? (i := 1345) (by decide +kernel), List.mem_of_getElem? (i := 1346) (by decide +kernel)⟩
theorem lw_p60 : lw_okq (⟨"FindTablesModel", "isDigit", "(II)Z"⟩, 26) := ⟨⟨by decide +kernel, by decide +kernel⟩, List.mem_of_getElem? (i := 989) (by decide +kernel), List.mem_of_getElem? (i := 1349) (by decide +kernel), List.mem_of_getElem? (i := 1350) (by decide +kernel)⟩
theorem lw_p61 : lw_okq (⟨"FindTablesModel", "takesEntry", "()Z"⟩, 26) := ⟨⟨by decide +kernel, by decide +kernel⟩, List.mem_of_getElem? (i := 989) (by decide +kernel), List.mem_of_getElem? (i := 1353) (by decide +kernel), List.mem_of_getElem? (i := 1354) (by decide +kernel)⟩
theorem lw_p62 : lw_okq (⟨"FindTablesModel", "takesNumber", "(III)Z"⟩, 26) := ⟨⟨by decide +kernel, by decide +kernel⟩, List.mem_of_getElem? (i := 989) (by decide +kernel), List.mem_of_getElem? (i := 1357) (by decide +kernel), List.mem_of_getElem? (i := 1358) (by decide +kernel)⟩
theorem lw_p63 : lw_okq (⟨"FindTablesModel", "mix", "(J)V"⟩, 26) := ⟨⟨by decide +kernel, by decide +kernel⟩, List.mem_of_getElem? (i := 989) (by decide +kernel), List.mem_of_getElem? (i := 1366) (by decide +kernel), List.mem_of_getElem? (i := 1367) (by decide +kernel)⟩
def lw_privs_4 : List (MethodName × Nat) := [(⟨"FindTablesModel", "finds", "(II)V"⟩, 26), (⟨"FindTablesModel", "goesThrough", "(I)V"⟩, 26), (⟨"FindTablesModel", "goesOn", "(IJIIIIII)V"⟩, 26), (⟨"FindTablesModel", "lays", "(IIJI)V"⟩, 26), (⟨"FindTablesModel", "nextOnTop", "()I"⟩, 26), (⟨"FindTablesModel", "handsOn", "(II)V"⟩, 26), (⟨"FindTablesModel", "spentWith", "(III)I"⟩, 26), (⟨"FindTablesModel", "keeps", "()V"⟩, 26), (⟨"FindTablesModel", "takesBack", "()V"⟩, 26), (⟨"FindTablesModel", "takes", "(I)Z"⟩, 26), (⟨"FindTablesModel", "takesDraws", "()Z"⟩, 26), (⟨"FindTablesModel", "takesDigit", "(II)Z"⟩, 26), (⟨"FindTablesModel", "isDigit", "(II)Z"⟩, 26), (⟨"FindTablesModel", "takesEntry", "()Z"⟩, 26), (⟨"FindTablesModel", "takesNumber", "(III)Z"⟩, 26), (⟨"FindTablesModel", "mix", "(J)V"⟩, 26)]
theorem lw_r4 : ∀ q ∈ lw_privs_4, lw_okq q := List.forall_mem_cons.mpr ⟨lw_p48, List.forall_mem_cons.mpr ⟨lw_p49, List.forall_mem_cons.mpr ⟨lw_p50, List.forall_mem_cons.mpr ⟨lw_p51, List.forall_mem_cons.mpr ⟨lw_p52, List.forall_mem_cons.mpr ⟨lw_p53, List.forall_mem_cons.mpr ⟨lw_p54, List.forall_mem_cons.mpr ⟨lw_p55, List.forall_mem_cons.mpr ⟨lw_p56, List.forall_mem_cons.mpr ⟨lw_p57, List.forall_mem_cons.mpr ⟨lw_p58, List.forall_mem_cons.mpr ⟨lw_p59, List.forall_mem_cons.mpr ⟨lw_p60, List.forall_mem_cons.mpr ⟨lw_p61, List.forall_mem_cons.mpr ⟨lw_p62, List.forall_mem_cons.mpr ⟨lw_p63, fun _ h => absurd h List.not_mem_nil⟩⟩⟩⟩⟩⟩⟩⟩⟩⟩⟩⟩⟩⟩⟩⟩
theorem lw_p64 : lw_okq (⟨"FindTablesModel", "mixTable", "(I)V"⟩, 26) := ⟨⟨by decide +kernel, by decide +kernel⟩, List.mem_of_getElem? (i := 989) (by decide +kernel), List.mem_of_getElem? (i := 1371) (by decide +kernel), List.mem_of_getElem? (i := 1372) (by decide +kernel)⟩
def lw_privs_5 : List (MethodName × Nat) := [(⟨"FindTablesModel", "mixTable", "(I)V"⟩, 26)]
theorem lw_r5 : ∀ q ∈ lw_privs_5, lw_okq q := List.forall_mem_cons.mpr ⟨lw_p64, fun _ h => absurd h List.not_mem_nil⟩
def lw_privs : List (MethodName × Nat) := lw_privs_1 ++ (lw_privs_2 ++ (lw_privs_3 ++ (lw_privs_4 ++ (lw_privs_5))))
def lw_tbl : List Cond := k2_sels lw_privs ++ tables_1
theorem lw_privs_ok : ∀ q ∈ lw_privs, lw_okq q := by
  show ∀ q ∈ lw_privs_1 ++ (lw_privs_2 ++ (lw_privs_3 ++ (lw_privs_4 ++ (lw_privs_5)))), lw_okq q
  exact List.forall_mem_append.mpr ⟨lw_r1, List.forall_mem_append.mpr ⟨lw_r2, List.forall_mem_append.mpr ⟨lw_r3, List.forall_mem_append.mpr ⟨lw_r4, lw_r5⟩⟩⟩⟩
/-- the streams that the claim lets the run draw from -/
abbrev lw_cs : List Choice := [Jvm.Choice.named "NaN.bits"]
theorem lw_bits : nanBits ∈ lw_cs := by first | decide | exact List.mem_cons_self | simp [lw_cs, nanBits]
-- ===== end of PART A; then your names; then what follows =====
end
section
/-! ===== BEGIN words of one list among another's, by their places ===== -/
theorem goodIn_r {big : List Cond} (ws : List Cond) (ps : List Nat) (hp : ws = ps.filterMap (fun i => big[i]?)) (h : ws.all goodWord = true) : GoodIn big ws := by
  intro w hw
  have h1 := List.all_eq_true.mp h w hw
  rw [hp] at hw
  obtain ⟨i, -, hi⟩ := List.mem_filterMap.mp hw
  have hm : w ∈ big := by first | exact List.mem_of_getElem? hi | exact List.getElem?_mem hi
  exact ⟨hm, good_of_word h1⟩
theorem goodIn_app {big a b : List Cond} (ha : GoodIn big a) (hb : GoodIn big b) : GoodIn big (a ++ b) := fun w h => (List.mem_append.mp h).elim (ha w) (hb w)
theorem goodIn_ca {big a b : List Cond} {c : Cond} (ha : GoodIn big (c :: a)) (hb : GoodIn big b) : GoodIn big (c :: (a ++ b)) := fun w h => (List.mem_cons.mp h).elim (fun e => ha w (List.mem_cons.mpr (Or.inl e))) (fun h => (List.mem_append.mp h).elim (fun h => ha w (List.mem_cons.mpr (Or.inr h))) (hb w))
theorem goodIn_sub {big ws : List Cond} (hm : ∀ w ∈ ws, w ∈ big) (h : ws.all goodWord = true) : GoodIn big ws := fun w hw => ⟨hm w hw, good_of_word (List.all_eq_true.mp h w hw)⟩
/-! ===== END ===== -/
/-! ===== BEGIN exceptions that leave a method, and their catching by the caller (launches without stack traces) ===== -/
section VXA
/-! The laws vx_back, vx_callV, vx_callS, vx_callSW, vx_throw0, vx_throwS follow proofs of the library, with one case more: JvmDerived/Free/Laws.lean (Back.of_free), Shelf42/LK1.lean (callV, callS), Shelf/KitTraced.lean (throwNew0V, throwNewS). -/
/-- where a method has thrown q: the class by its name, the cell, what was written, the world -/
def vx_T (XC : String → State → State → Prop) (st : State) (q : Addr) (t : State) (mc ms : Nat) (free : Addr → Prop) : Prop :=
  ∃ (E : String) (ce : Cell) (L : List Loc), XC E st t ∧ t.heap[q]? = some ce ∧ ce.vm = .none ∧ st.vm.findClass E = some ce.cls ∧ st.WarmedH t.vm ∧ st.sameButNew ({ t with vm := st.vm } : State) L mc ms ∧ ∀ z ∈ L, free z.base
def vx_Q (Qc : Array Value → State → Outcome → State → Prop) (XC : String → State → State → Prop) (mc ms : Nat) (free : Addr → Prop) : Array Value → State → Outcome → State → Prop := fun a st o t =>
  (Qc a st o t ∧ ∃ L, FrameEnd st o t L mc ms ∧ ∀ q ∈ L, free q.base) ∨ ∃ q, o = .threw q ∧ vx_T XC st q t mc ms free
/-- a callee that returns or throws -/
def vx_Met (l : Launch) (y : MethodName) (ws : List Cond) (rm : Room) (Pc : Array Value → State → Prop) (Qc : Array Value → State → Outcome → State → Prop) (XC : String → State → State → Prop) (mc ms : Nat) (free : Addr → Prop) : Prop :=
  MetFree l y (headSpec ws rm) Pc (fun _ _ _ _ _ => True) (vx_Q Qc XC mc ms free)
def vx_Post (XC : String → State → State → Prop) (mc ms : Nat) (free : Addr → Prop) : Pt → Array Value → Addr → Pt → Prop := fun A a q B =>
  ∃ (g : JFrame) (mk : MethodId) (t : State) (L : List Loc) (E : String) (ce : Cell), B.U.heap = t.heap ∧ B.U.vm = t.vm ∧ XC E (A.U.calling g mk a) t ∧ t.heap[q]? = some ce ∧ ce.vm = .none ∧ A.U.vm.findClass E = some ce.cls ∧ B.locs = A.locs ++ L ∧ (∀ z ∈ L, free z.base) ∧ B.cells = A.cells + mc ∧ B.slots = A.slots + ms
def vx_Back (l : Launch) (R : Room) (p : Program) (e : Env) (below : List Frame) (s : State) (sargs : Array Value) (y : MethodName) (len W9 : Nat)
    (Pre : Pt → Array Value → Prop) (Post : Pt → Array Value → Option Value → Pt → Prop) (PostX : Pt → Array Value → Addr → Pt → Prop) : Prop :=
  ∀ (m : MethodId) (meth : Method) (c : Code) (A : Pt) (g : JFrame) (ig : Instr) (mk : MethodId) (a : Array Value),
    Stand p l e R s m sargs below meth c A.U A.locs A.cells A.slots → g.method = m → g.locals.size = c.maxLocals → decode c.code g.pc = .ok (ig, len) →
    2 * g.monitorRoom + (g.stack.map fun v => v.category).sum ≤ W9 → A.U.methodNamed? y = some mk → Pre A a →
    (∃ (v : Option Value) (B : Pt), Stand p l e R s m sargs below meth c B.U B.locs B.cells B.slots ∧ Post A a v B ∧
      Steps p.tables e below (doInvoke e (A.U.setTop g) [] mk a).1 (B.U.setTop { g with pc := g.pc + len, stack := v.toList ++ g.stack })) ∨
    (∃ (q : Addr) (B : Pt), Stand p l e R s m sargs below meth c B.U B.locs B.cells B.slots ∧ PostX A a q B ∧
      Steps p.tables e below (doInvoke e (A.U.setTop g) [] mk a).1 ((B.U.setTop g).pushFrame (.throwing q)))
section Payer
variable {l : Launch} {R : Room} {p : Program} {e : Env} {below : List Frame} {s : State} {sargs : Array Value} {y : MethodName} {len W9 : Nat}
theorem vx_back {ws : List Cond} {rm : Room} {Pc : Array Value → State → Prop} {Qc : Array Value → State → Outcome → State → Prop} {XC : String → State → State → Prop} {mc ms : Nat} {free : Addr → Prop} {bytes : ByteArray} {maxL : Nat} {ret : Option FieldType}
    (hM : vx_Met l y ws rm Pc Qc XC mc ms free) (hblind : FrameBlind Pc) (hrc : rm.cells = mc) (hrs : rm.slots = ms)
    (hframes : rm.frames + 1 ≤ R.frames) (hlocals : W9 + (maxL + 11) + rm.locals ≤ R.locals)
    (hws : ∀ w ∈ ws, ∀ a' U, s.WarmedH U.vm → w.before a' U = true) (hcode : Cond.code y bytes maxL ret ∈ ws) (hinit : ∀ a' U, s.WarmedH U.vm → (Cond.initialized y.cls).before a' U = true) :
    vx_Back l R p e below s sargs y len W9 (PreOf R mc ms Pc) (PostOf Qc mc ms free) (vx_Post XC mc ms free) := by
  intro m meth c A g ig mk a X hg hsize hdg hW hn hp
  have h1 : (headSpec ws rm).pre.before a A.U = true := atoms_intro fun w hw => hws w hw _ _ X.warmed
  have h2 : (Cond.code y bytes maxL ret).before a A.U = true := hws _ hcode _ _ X.warmed
  have h3 : (Cond.initialized y.cls).before a A.U = true := hinit _ _ X.warmed
  have h4 : A.cells + (headSpec ws rm).room.cells ≤ R.cells := by rw [show (headSpec ws rm).room.cells = mc from hrc]; exact hp.1
  have h5 : A.slots + (headSpec ws rm).room.slots ≤ R.slots := by rw [show (headSpec ws rm).room.slots = ms from hrs]; exact hp.2.1
  have hPc : Pc a (A.U.calling g mk a) := hblind _ _ _ _ hp.2.2
  obtain ⟨U, Ls, c0, s0⟩ := A
  dsimp only [Pt.U, Pt.locs, Pt.cells, Pt.slots] at h1 h2 h3 h4 h5 X hn hPc ⊢
  obtain ⟨methY, cY, hmY, hcY, -, hlY, -, -, -, -⟩ := Cond.code_spec hn h2
  obtain ⟨kY, hkY, -⟩ := className_of_methodNamed hn
  have hinitY : kY.init = .initialized := Cond.initialized_spec (findClass_of_methodNamed hn) hkY h3
  have h : At U g.method c below := by rw [hg]; exact X.here
  have hlocals9 : W9 + (maxL + 11) + (headSpec ws rm).room.locals ≤ R.locals := hlocals
  have happ : (headSpec ws rm).appliesLoose y e.platform (U.calling g mk a) = true :=
    Spec.appliesLoose_calling (g := g) h hdg hn hkY hinitY
      (X.room_calling (g := g) (R' := (headSpec ws rm).room) hsize hmY hcY hframes (by rw [hlY]; omega) h4 h5) h1
  obtain ⟨mid, hmid⟩ := h.above
  have hfr : (U.setTop g).frames = (.java g :: mid) ++ below := by rw [State.frames_setTop' g h.top, hmid]; rfl
  obtain ⟨o, s₂, hsteps, -, hend, hq⟩ := Steps.callFree hM p X.admits X.cas X.clock (acts := []) hfr happ hPc trivial
  have hq' : vx_Q Qc XC mc ms free a (U.calling g mk a) o s₂ := hq
  rw [State.frames_setTop' g h.top] at hend
  obtain ⟨g₀, hg0⟩ := Option.isSome_iff_exists.mp h.top
  obtain ⟨r, hr⟩ := State.topJava?_eq_some.mp hg0
  have hr' : (({ U with heap := s₂.heap, slotsUsed := s₂.slotsUsed } : State).setVm s₂.vm).frames = .java g₀ :: r := hr
  rcases hq' with ⟨hqc, L, hfe, hL⟩ | ⟨q, rfl, E, ce, L, hx, hce, hcv, hcl, hW₂, hsm, hL⟩
  · obtain ⟨⟨v, rfl⟩, hW₂, e2, q2, q3, q4, q5, q6⟩ := id hfe
    have e3 : s₂ = ({ (U.calling g mk a).setFrames s₂.frames with heap := s₂.heap, slotsUsed := s₂.slotsUsed } : State).setVm s₂.vm := by
      have : s₂ = ({ s₂ with vm := (U.calling g mk a).vm } : State).setVm s₂.vm := rfl
      rw [e2] at this
      exact this
    obtain ⟨c₂, i₂, len₂, hc₂, hd₂, hf₂⟩ := hend
    have hW' : U.WarmedH s₂.vm := hW₂
    have hcc : c₂ = c := by
      have h1 : s₂.code? g.method = U.code? g.method := by
        rw [State.code?_eq, State.code?_eq, hW'.alike.method?]
      exact Option.some.inj (hc₂.symm.trans (h1.trans h.code))
    subst hcc
    have hlen : len₂ = len := by rw [hdg] at hd₂; cases hd₂; rfl
    subst hlen
    have hs₂ : s₂ = (({ U with heap := s₂.heap, slotsUsed := s₂.slotsUsed } : State).setVm s₂.vm).setTop { g with pc := g.pc + len₂, stack := v.toList ++ g.stack } := by
      refine e3.trans ?_
      rw [hf₂, State.calling_eq h.top, State.setFrames_setFrames, State.setTop_of_frames _ hr', hr]
      rfl
    have hsame : U.sameButNew ({ U with heap := s₂.heap, slotsUsed := s₂.slotsUsed } : State) L mc ms := by
      refine ⟨?_, q2, q3, q4, q5, q6⟩
      obtain ⟨t, ht, -⟩ := State.frames_cons hr
      show ({ U with heap := s₂.heap, slotsUsed := s₂.slotsUsed } : State) = { U.setFrames U.frames with heap := s₂.heap, slotsUsed := s₂.slotsUsed }
      rw [State.setFrames_self ht]
    subst hg
    refine Or.inl ⟨v, ⟨(({ U with heap := s₂.heap, slotsUsed := s₂.slotsUsed } : State).setVm s₂.vm), Ls ++ L, c0 + mc, s0 + ms⟩,
      ⟨X.admits, X.cas, X.clock, X.frames, X.room, X.hears, X.method, X.code, (X.here.setHeapUsed s₂.heap s₂.slotsUsed).setVm hW'.alike, X.tail, State.WarmedH.trans X.warmed hW', X.limits, X.bytes, X.same.trans (hsame.setVm s.vm)⟩,
      ⟨g, mk, s₂, L, rfl, rfl, hqc, rfl, hL, rfl, rfl⟩, ?_⟩
    show Steps p.tables e below _ ((({ U with heap := s₂.heap, slotsUsed := s₂.slotsUsed } : State).setVm s₂.vm).setTop { g with pc := g.pc + len₂, stack := v.toList ++ g.stack })
    rw [← hs₂]
    exact hsteps
  · obtain ⟨e2, q2, q3, q4, q5, q6⟩ := id hsm
    have e3 : s₂ = ({ (U.calling g mk a).setFrames s₂.frames with heap := s₂.heap, slotsUsed := s₂.slotsUsed } : State).setVm s₂.vm := by
      have : s₂ = ({ s₂ with vm := (U.calling g mk a).vm } : State).setVm s₂.vm := rfl
      rw [e2] at this
      exact this
    have hf₂ : s₂.frames = .throwing q :: .java g :: U.frames.tail := hend
    have hW' : U.WarmedH s₂.vm := hW₂
    have hs₂ : s₂ = ((({ U with heap := s₂.heap, slotsUsed := s₂.slotsUsed } : State).setVm s₂.vm).setTop g).pushFrame (.throwing q) := by
      refine e3.trans ?_
      rw [hf₂, State.calling_eq h.top, State.setFrames_setFrames, State.pushFrame, State.frames_setTop _ hr', State.setTop_of_frames _ hr', State.setFrames_setFrames, hr]
      rfl
    have hsame : U.sameButNew ({ U with heap := s₂.heap, slotsUsed := s₂.slotsUsed } : State) L mc ms := by
      refine ⟨?_, q2, q3, q4, q5, q6⟩
      obtain ⟨t, ht, -⟩ := State.frames_cons hr
      show ({ U with heap := s₂.heap, slotsUsed := s₂.slotsUsed } : State) = { U.setFrames U.frames with heap := s₂.heap, slotsUsed := s₂.slotsUsed }
      rw [State.setFrames_self ht]
    subst hg
    refine Or.inr ⟨q, ⟨(({ U with heap := s₂.heap, slotsUsed := s₂.slotsUsed } : State).setVm s₂.vm), Ls ++ L, c0 + mc, s0 + ms⟩,
      ⟨X.admits, X.cas, X.clock, X.frames, X.room, X.hears, X.method, X.code, (X.here.setHeapUsed s₂.heap s₂.slotsUsed).setVm hW'.alike, X.tail, State.WarmedH.trans X.warmed hW', X.limits, X.bytes, X.same.trans (hsame.setVm s.vm)⟩,
      ⟨g, mk, s₂, L, E, ce, rfl, rfl, hx, hce, hcv, hcl, rfl, hL, rfl, rfl⟩, ?_⟩
    show Steps p.tables e below _ (((({ U with heap := s₂.heap, slotsUsed := s₂.slotsUsed } : State).setVm s₂.vm).setTop g).pushFrame (.throwing q))
    rw [← hs₂]
    exact hsteps
end Payer
section Calls
variable {p : Program} {l : Launch} {e : Env} {R : Room} {s : State} {m : MethodId} {args : Array Value} {below : List Frame} {meth : Method} {c : Code} {T : State} {locs : List Loc} {cells slots : Nat}
theorem vx_callV (X : Stand p l e R s m args below meth c T locs cells slots) (hexec : p.tables.exec = Jvm.exec) {own C : String} {index : Nat} {y : MethodName} {bytes : ByteArray} {maxL : Nat} {ret : Option FieldType}
    (hown : s.vm.findClass own = some m.cls) (hlink : (Cond.methodLink own index y).before args s = true) (hinst : (Cond.instanceMethod y).before args s = true) (hsel : (Cond.selects C y y).before args s = true)
    (hcode : (Cond.code y bytes maxL ret).before args s = true) (hy : y.cls ≠ "java/lang/invoke/MethodHandle" ∧ y.cls ≠ "java/lang/invoke/VarHandle")
    {W9 : Nat} {Pre : Pt → Array Value → Prop} {Post : Pt → Array Value → Option Value → Pt → Prop} {PostX : Pt → Array Value → Addr → Pt → Prop} (hK : vx_Back l R p e below s args y 3 W9 Pre Post PostX)
    {b : Addr} {cellB : Cell} (hcell : T.heap[b]? = some cellB) (hobj : cellB.vm.isStatics = false) (hcls : s.vm.findClass C = some cellB.cls)
    {g : JFrame} (hg : g.method = m) (hsize : g.locals.size = c.maxLocals) {argsL rest : List Value} (hlen : ∀ sig, parseMethodDescriptor y.desc = some sig → argsL.length = sig.parameters.length)
    (hstack : g.stack = argsL.reverse ++ .ref b :: rest) (hW : 2 * g.monitorRoom + (rest.map fun v => v.category).sum ≤ W9) (hdg : decode c.code g.pc = .ok (.invokevirtual index, 3))
    (hpre : ∀ vm₁, s.WarmedH vm₁ → Pre ⟨T.setVm vm₁, locs, cells, slots⟩ (Value.ref b :: argsL).toArray) :
    (∃ (v : Option Value) (vm₁ : Vm) (B : Pt), s.WarmedH vm₁ ∧ Stand p l e R s m args below meth c B.U B.locs B.cells B.slots ∧ Post ⟨T.setVm vm₁, locs, cells, slots⟩ (Value.ref b :: argsL).toArray v B ∧
      ∀ target, Steps p.tables e below (B.U.setTop { g with pc := g.pc + 3, stack := v.toList ++ rest }) target → Steps p.tables e below (T.setTop g) target) ∨
    (∃ (q : Addr) (vm₁ : Vm) (B : Pt), s.WarmedH vm₁ ∧ Stand p l e R s m args below meth c B.U B.locs B.cells B.slots ∧ PostX ⟨T.setVm vm₁, locs, cells, slots⟩ (Value.ref b :: argsL).toArray q B ∧
      Steps p.tables e below (T.setTop g) ((B.U.setTop { g with stack := rest }).pushFrame (.throwing q))) := by
  obtain ⟨mk, methM, hnamed, hmethM, hstM, habM⟩ := Cond.instanceMethod_spec hinst
  obtain ⟨methM', cM, hmethM', -, -, -, -, -, -, hsigM⟩ := Cond.code_spec hnamed hcode
  cases hmethM.symm.trans hmethM'
  obtain ⟨c2, r2, m2, q1, q2, q3, q4, kP, hkP, hkPi⟩ := Cond.selects_spec hsel
  cases hcls.symm.trans q1
  cases (State.methodFound?_of_named hnamed hy).symm.trans q2
  cases hnamed.symm.trans q3
  have hselP : selectMethod e.platform s.vm cellB.cls mk = .method mk := by rw [Launch.admits_selectMethod X.admits]; exact q4
  obtain ⟨vm₁, X₁, hstep₁⟩ := X.invokevirtual hexec hown hlink hnamed hmethM hstM hkP hkPi hy (a := b) (cell := cellB) hcell
    (fun z h => by rw [h] at hobj; cases hobj) hselP hmethM habM hkP hkPi (g := g) hg (argsL := argsL) (rest := rest) (hlen _ hsigM) hstack hdg
  rcases hK m meth c ⟨T.setVm vm₁, locs, cells, slots⟩ { g with stack := rest } (.invokevirtual index) mk (Value.ref b :: argsL).toArray X₁ hg hsize hdg hW (X₁.named hnamed) (hpre vm₁ X₁.warmed) with ⟨v, B, X', hpost, hsteps⟩ | ⟨q, B, X', hpost, hsteps⟩
  · exact Or.inl ⟨v, vm₁, B, X₁.warmed, X', hpost, fun target h => hstep₁ _ fun acts => by rw [doInvoke_state]; exact hsteps.trans h⟩
  · exact Or.inr ⟨q, vm₁, B, X₁.warmed, X', hpost, hstep₁ _ fun acts => by rw [doInvoke_state]; exact hsteps⟩
theorem vx_callS (X : Stand p l e R s m args below meth c T locs cells slots) (hexec : p.tables.exec = Jvm.exec) {own : String} {index : Nat} {y : MethodName} {bytes : ByteArray} {maxL : Nat} {ret : Option FieldType}
    (hown : s.vm.findClass own = some m.cls) (hlink : (Cond.methodLink own index y).before args s = true) (hstat : (Cond.static y).before args s = true) (hinit : (Cond.initialized y.cls).before args s = true)
    (hcode : (Cond.code y bytes maxL ret).before args s = true) (hy : y.cls ≠ "java/lang/invoke/MethodHandle" ∧ y.cls ≠ "java/lang/invoke/VarHandle")
    {W9 : Nat} {Pre : Pt → Array Value → Prop} {Post : Pt → Array Value → Option Value → Pt → Prop} {PostX : Pt → Array Value → Addr → Pt → Prop} (hK : vx_Back l R p e below s args y 3 W9 Pre Post PostX)
    {g : JFrame} (hg : g.method = m) (hsize : g.locals.size = c.maxLocals) {argsL rest : List Value} (hlen : ∀ sig, parseMethodDescriptor y.desc = some sig → argsL.length = sig.parameters.length)
    (hstack : g.stack = argsL.reverse ++ rest) (hW : 2 * g.monitorRoom + (rest.map fun v => v.category).sum ≤ W9) (hdg : decode c.code g.pc = .ok (.invokestatic index, 3))
    (hpre : ∀ vm₁, s.WarmedH vm₁ → Pre ⟨T.setVm vm₁, locs, cells, slots⟩ argsL.toArray) :
    (∃ (v : Option Value) (vm₁ : Vm) (B : Pt), s.WarmedH vm₁ ∧ Stand p l e R s m args below meth c B.U B.locs B.cells B.slots ∧ Post ⟨T.setVm vm₁, locs, cells, slots⟩ argsL.toArray v B ∧
      ∀ target, Steps p.tables e below (B.U.setTop { g with pc := g.pc + 3, stack := v.toList ++ rest }) target → Steps p.tables e below (T.setTop g) target) ∨
    (∃ (q : Addr) (vm₁ : Vm) (B : Pt), s.WarmedH vm₁ ∧ Stand p l e R s m args below meth c B.U B.locs B.cells B.slots ∧ PostX ⟨T.setVm vm₁, locs, cells, slots⟩ argsL.toArray q B ∧
      Steps p.tables e below (T.setTop g) ((B.U.setTop { g with stack := rest }).pushFrame (.throwing q))) := by
  obtain ⟨mk, hnamed⟩ := Cond.code_named hcode
  obtain ⟨methM, cM, hmethM, -, -, -, -, -, -, hsigM⟩ := Cond.code_spec hnamed hcode
  have hstatic : methM.isStatic = true := Cond.static_spec hnamed hmethM hstat
  obtain ⟨kP, hkP, -⟩ := className_of_methodNamed hnamed
  have hinitP : kP.init = .initialized := Cond.initialized_spec (findClass_of_methodNamed hnamed) hkP hinit
  obtain ⟨vm₁, X₁, hstep₁⟩ := X.invokestatic hexec hown hlink hnamed hmethM hstatic hkP hinitP hy (g := g) hg (argsL := argsL) (rest := rest) (hlen _ hsigM) hstack hdg
  rcases hK m meth c ⟨T.setVm vm₁, locs, cells, slots⟩ { g with stack := rest } (.invokestatic index) mk argsL.toArray X₁ hg hsize hdg hW (X₁.named hnamed) (hpre vm₁ X₁.warmed) with ⟨v, B, X', hpost, hsteps⟩ | ⟨q, B, X', hpost, hsteps⟩
  · exact Or.inl ⟨v, vm₁, B, X₁.warmed, X', hpost, fun target h => hstep₁ _ fun acts => by rw [doInvoke_state]; exact hsteps.trans h⟩
  · exact Or.inr ⟨q, vm₁, B, X₁.warmed, X', hpost, hstep₁ _ fun acts => by rw [doInvoke_state]; exact hsteps⟩
end Calls
theorem vx_cls {s : State} {T : State} {vm₁ : Vm} {E : String} {k : ClassId} (hW : s.WarmedH vm₁) (h : (T.setVm vm₁).vm.findClass E = some k) : s.vm.findClass E = some k := by
  have h1 : vm₁.findClass E = some k := h
  rw [hW.alike.findClass] at h1
  exact h1
/-- the method's frame g, with q thrown over it -/
def vx_W (p : Program) (l : Launch) (e : Env) (R : Room) (s : State) (m : MethodId) (args : Array Value) (below : List Frame) (meth : Method) (c : Code) (H : Heap) (locs : List Loc) (cells slots : Nat) (Q : State → Prop) (g : JFrame) (q : Addr) : Prop :=
  ∀ T : State, T.heap = H → Stand p l e R s m args below meth c T locs cells slots → ∃ t, Steps p.tables e below ((T.setTop g).pushFrame (.throwing q)) t ∧ Q t
def vx_Run (p : Program) (l : Launch) (e : Env) (R : Room) (s : State) (m : MethodId) (args : Array Value) (below : List Frame) (meth : Method) (c : Code) (H : Heap) (locs : List Loc) (cells slots mc ms : Nat) (g : JFrame) (rest : List Value) (Qa : State → Outcome → State → Prop) (XC : String → State → State → Prop) (free : Addr → Prop) : Prop :=
  ∀ T : State, T.heap = H → Stand p l e R s m args below meth c T locs cells slots →
    (∃ (v : Option Value) (st₀ t T' : State) (L : List Loc), st₀.heap = H ∧ Stand p l e R s m args below meth c T' (locs ++ L) (cells + mc) (slots + ms) ∧ (∀ q ∈ L, free q.base) ∧ T'.heap = t.heap ∧ T'.vm = t.vm ∧ Qa st₀ (.returned v) t ∧
      Goes p e below T g T' { g with pc := g.pc + 3, stack := v.toList ++ rest }) ∨
    (∃ (q : Addr) (st₀ t T' : State) (L : List Loc) (E : String) (ce : Cell), st₀.heap = H ∧ Stand p l e R s m args below meth c T' (locs ++ L) (cells + mc) (slots + ms) ∧ (∀ z ∈ L, free z.base) ∧ T'.heap = t.heap ∧ T'.vm = t.vm ∧ XC E st₀ t ∧ t.heap[q]? = some ce ∧ ce.vm = .none ∧ s.vm.findClass E = some ce.cls ∧
      Steps p.tables e below (T.setTop g) ((T'.setTop { g with stack := rest }).pushFrame (.throwing q)))
def vx_X {S : Type} (px : S → Prop) (B : String → S → State → Prop) (A : Nat → Prop) : String → State → State → Prop := fun E st t => ∃ u : S, px u ∧ B E u t ∧ va_F A st t
section Runs
variable {p : Program} {l : Launch} {e : Env} {R : Room} {s : State} {m : MethodId} {args : Array Value} {below : List Frame} {meth : Method} {c : Code} {H : Heap} {locs : List Loc} {cells slots : Nat}
variable {y : MethodName} {bytes cc : ByteArray} {maxL nL mc ms n index : Nat} {ret : Option FieldType} {ws : List Cond} {rm : Room} {Pc : Array Value → State → Prop} {Qc : Array Value → State → Outcome → State → Prop} {XC : String → State → State → Prop} {free : Addr → Prop} {Ts : List Cond} {own C : String} {b : Addr} {As rest : List Value} {g : JFrame}
theorem vx_callBack (cb : CallB R s args own index y bytes maxL ret ws rm mc ms n) (hM : vx_Met l y ws rm Pc Qc XC mc ms free) (hbl : FrameBlind Pc) : vx_Back l R p e below s args y 3 8 (PreOf R mc ms Pc) (PostOf Qc mc ms free) (vx_Post XC mc ms free) := by
  obtain ⟨hrc, hrs, hfr, hlo, hws, hcw, -, hini, -⟩ := cb
  exact vx_back (bytes := bytes) (maxL := maxL) (ret := ret) hM hbl hrc hrs hfr hlo hws hcw (fun a' U hW => word_at hW (Or.inl (by first | rfl | simp [Cond.onTables, Cond.keeps, Cond.steady])) hini)
theorem vx_runV (S : CallFix p m c cc nL s args Ts own) (hM : vx_Met l y ws rm Pc Qc XC mc ms free) (cw : CallW R s args own C index y bytes maxL ret ws rm mc ms n) (hp : PreV s H C b Pc As)
    (hg : g.method = m) (hn : As.length = n) (hsize : g.locals.size = nL) (hstack : g.stack = As.reverse ++ .ref b :: rest) (hW : 2 * g.monitorRoom + (rest.map fun v => v.category).sum ≤ 8) (hdg : decode cc g.pc = .ok (.invokevirtual index, 3)) (hf : cells + mc ≤ R.cells ∧ slots + ms ≤ R.slots) :
    vx_Run p l e R s m args below meth c H locs cells slots mc ms g rest (Qc (Value.ref b :: As).toArray) XC free := by
  have hK : vx_Back l R p e below s args y 3 8 (PreOf R mc ms Pc) (PostOf Qc mc ms free) (vx_Post XC mc ms free) := vx_callBack cw.1 hM hp.1
  obtain ⟨⟨-, -, -, -, -, -, hcode, -, hy, hlen, hl⟩, hin, hse⟩ := cw
  obtain ⟨hx, hb, hml, ho, -⟩ := S
  obtain ⟨-, ⟨cellB, hcB, hoB, hclB⟩, hPc⟩ := hp
  intro T hT X
  rcases vx_callV X hx (C := C) (bytes := bytes) (maxL := maxL) (ret := ret) ho hl hin hse hcode hy hK (by rw [hT]; exact hcB) hoB hclB hg (hsize.trans hml.symm) (argsL := As) (rest := rest) (fun sig h => hn.trans (hlen sig h)) hstack hW (by rw [hb]; exact hdg)
    (fun vm₁ hW₁ => ⟨hf.1, hf.2, hPc (T.setVm vm₁) hT hW₁⟩) with ⟨v, vm₁, ⟨U', l2, c2, s2⟩, hW₁, X', ⟨g', mk, t, L, e1, e2, hq, h1, hL, h2, h3⟩, st⟩ | ⟨q, vm₁, ⟨U', l2, c2, s2⟩, hW₁, X', ⟨g', mk, t, L, E, ce, e1, e2, hq, hce, hcv, hcl, h1, hL, h2, h3⟩, st⟩
  · dsimp only [Pt.U, Pt.locs, Pt.cells, Pt.slots] at X' e1 e2 h1 h2 h3 st
    subst h1; subst h2; subst h3
    exact Or.inl ⟨v, (T.setVm vm₁).calling g' mk (Value.ref b :: As).toArray, t, U', L, hT, X', hL, e1, e2, hq, st⟩
  · dsimp only [Pt.U, Pt.locs, Pt.cells, Pt.slots] at X' e1 e2 h1 h2 h3 st hcl
    subst h1; subst h2; subst h3
    exact Or.inr ⟨q, (T.setVm vm₁).calling g' mk (Value.ref b :: As).toArray, t, U', L, E, ce, hT, X', hL, e1, e2, hq, hce, hcv, vx_cls hW₁ hcl, st⟩
theorem vx_runS (S : CallFix p m c cc nL s args Ts own) (hM : vx_Met l y ws rm Pc Qc XC mc ms free) (cw : CallB R s args own index y bytes maxL ret ws rm mc ms n ∧ (Cond.static y).before args s = true) (hp : PreS s H Pc As)
    (hg : g.method = m) (hn : As.length = n) (hsize : g.locals.size = nL) (hstack : g.stack = As.reverse ++ rest) (hW : 2 * g.monitorRoom + (rest.map fun v => v.category).sum ≤ 8) (hdg : decode cc g.pc = .ok (.invokestatic index, 3)) (hf : cells + mc ≤ R.cells ∧ slots + ms ≤ R.slots) :
    vx_Run p l e R s m args below meth c H locs cells slots mc ms g rest (Qc As.toArray) XC free := by
  have hK : vx_Back l R p e below s args y 3 8 (PreOf R mc ms Pc) (PostOf Qc mc ms free) (vx_Post XC mc ms free) := vx_callBack cw.1 hM hp.1
  obtain ⟨⟨-, -, -, -, -, -, hcode, hini, hy, hlen, hl⟩, hstt⟩ := cw
  obtain ⟨hx, hb, hml, ho, -⟩ := S
  intro T hT X
  rcases vx_callS X hx (bytes := bytes) (maxL := maxL) (ret := ret) ho hl hstt hini hcode hy hK hg (hsize.trans hml.symm) (argsL := As) (rest := rest) (fun sig h => hn.trans (hlen sig h)) hstack hW (by rw [hb]; exact hdg)
    (fun vm₁ hW₁ => ⟨hf.1, hf.2, hp.2 (T.setVm vm₁) hT hW₁⟩) with ⟨v, vm₁, ⟨U', l2, c2, s2⟩, hW₁, X', ⟨g', mk, t, L, e1, e2, hq, h1, hL, h2, h3⟩, st⟩ | ⟨q, vm₁, ⟨U', l2, c2, s2⟩, hW₁, X', ⟨g', mk, t, L, E, ce, e1, e2, hq, hce, hcv, hcl, h1, hL, h2, h3⟩, st⟩
  · dsimp only [Pt.U, Pt.locs, Pt.cells, Pt.slots] at X' e1 e2 h1 h2 h3 st
    subst h1; subst h2; subst h3
    exact Or.inl ⟨v, (T.setVm vm₁).calling g' mk As.toArray, t, U', L, hT, X', hL, e1, e2, hq, st⟩
  · dsimp only [Pt.U, Pt.locs, Pt.cells, Pt.slots] at X' e1 e2 h1 h2 h3 st hcl
    subst h1; subst h2; subst h3
    exact Or.inr ⟨q, (T.setVm vm₁).calling g' mk As.toArray, t, U', L, E, ce, hT, X', hL, e1, e2, hq, hce, hcv, vx_cls hW₁ hcl, st⟩
end Runs
section Rows
variable {p : Program} {l : Launch} {e : Env} {R : Room} {s : State} {m : MethodId} {args : Array Value} {below : List Frame} {meth : Method} {c : Code} {H : Heap} {locs : List Loc} {cells slots : Nat} {Q : State → Prop}
variable {mc ms : Nat} {free : Addr → Prop} {A0 A1 : Nat → Prop} {H0 : Heap} {a : Array Value} {pc : Nat} {ls : Array Slot} {st0 rest : List Value}
theorem vx_keep {st₀ t T' : State} {L : List Loc} (h0 : st₀.heap = H) (e1 : T'.heap = t.heap) (hS : va_S A0 H0 H locs) (hA : ∀ q, q < H.size → A1 q → A0 q) (hf : ∀ q, free q → A0 q) (hL : ∀ q ∈ L, free q.base) (hF : va_F A1 st₀ t) :
    H.size ≤ T'.heap.size ∧ (∀ q : Nat, q < H.size → ¬ A1 q → T'.heap[q]? = H[q]?) ∧ va_S A0 H0 T'.heap (locs ++ L) := by
  obtain ⟨hz, hk⟩ := hF
  rw [h0] at hz hk
  exact ⟨by rw [e1]; exact hz, fun q h1 h2 => by rw [e1]; exact hk q h1 h2,
    ⟨Nat.le_trans hS.1 (by rw [e1]; exact hz), fun q h1 h2 => by rw [e1, hk q (Nat.lt_of_lt_of_le h1 hS.1) (fun z => h2 (hA q (Nat.lt_of_lt_of_le h1 hS.1) z))]; exact hS.2.1 q h1 h2, fun q hq => by
      rcases List.mem_append.mp hq with h | h
      · exact hS.2.2 q h
      · exact hf _ (hL q h)⟩⟩
theorem vx_calli {S SX : Type} {post : Int32 → S → Prop} {px : SX → Prop} {B : S → State → Prop} {BX : String → SX → State → Prop} {AX : Nat → Prop} (hr : vx_Run p l e R s m args below meth c H locs cells slots mc ms (F0 m pc ls st0) rest (va_Qi post B A1 a) (vx_X px BX AX) free) (hS : va_S A0 H0 H locs) (hA : ∀ q, q < H.size → A1 q → A0 q) (hf : ∀ q, free q → A0 q) (hAX : ∀ q, q < H.size → AX q → A0 q)
    (kx : ∀ (E : String) (ce : Cell) (q9 : Addr) (u : SX) (t : State) (H1 : Heap) (locs1 : List Loc), t.heap = H1 → s.vm.Alike t.vm → px u → BX E u t → H.size ≤ H1.size → (∀ q : Nat, q < H.size → ¬ AX q → H1[q]? = H[q]?) → va_S A0 H0 H1 locs1 → H1[q9]? = some ce → ce.vm = .none → s.vm.findClass E = some ce.cls → vx_W p l e R s m args below meth c H1 locs1 (cells + mc) (slots + ms) Q (F0 m pc ls rest) q9)
    (kk : ∀ (r : Int32) (u : S) (t : State) (H1 : Heap) (locs1 : List Loc), t.heap = H1 → s.vm.Alike t.vm → post r u → B u t → H.size ≤ H1.size → (∀ q : Nat, q < H.size → ¬ A1 q → H1[q]? = H[q]?) → va_S A0 H0 H1 locs1 → W p l e R s m args below meth c H1 locs1 (cells + mc) (slots + ms) Q (F0 m (pc + 3) ls (.int r :: rest))) : W p l e R s m args below meth c H locs cells slots Q (F0 m pc ls st0) := by
  intro T hT X
  rcases hr T hT X with ⟨v, st₀, t, T', L, h0, X', hL, e1, e2, ⟨⟨r, u, hv, hp, hb⟩, hF⟩, st⟩ | ⟨q, st₀, t, T', L, E, ce, h0, X', hL, e1, e2, ⟨u, hp, hb, hF⟩, hce, hcv, hcl, st⟩
  · cases hv
    obtain ⟨k1, k2, k3⟩ := vx_keep h0 e1 hS hA hf hL hF
    obtain ⟨t2, a1, b1⟩ := kk r u t T'.heap (locs ++ L) e1.symm (by rw [← e2]; exact X'.warmed.alike) hp hb k1 k2 k3 T' rfl X'
    exact ⟨t2, st t2 a1, b1⟩
  · obtain ⟨k1, k2, k3⟩ := vx_keep h0 e1 hS hAX hf hL hF
    obtain ⟨t2, a1, b1⟩ := kx E ce q u t T'.heap (locs ++ L) e1.symm (by rw [← e2]; exact X'.warmed.alike) hp hb k1 k2 k3 (by rw [e1]; exact hce) hcv hcl T' rfl X'
    exact ⟨t2, st.trans a1, b1⟩
theorem vx_calll {S SX : Type} {post : Int64 → S → Prop} {px : SX → Prop} {B : S → State → Prop} {BX : String → SX → State → Prop} {AX : Nat → Prop} (hr : vx_Run p l e R s m args below meth c H locs cells slots mc ms (F0 m pc ls st0) rest (va_Ql post B A1 a) (vx_X px BX AX) free) (hS : va_S A0 H0 H locs) (hA : ∀ q, q < H.size → A1 q → A0 q) (hf : ∀ q, free q → A0 q) (hAX : ∀ q, q < H.size → AX q → A0 q)
    (kx : ∀ (E : String) (ce : Cell) (q9 : Addr) (u : SX) (t : State) (H1 : Heap) (locs1 : List Loc), t.heap = H1 → s.vm.Alike t.vm → px u → BX E u t → H.size ≤ H1.size → (∀ q : Nat, q < H.size → ¬ AX q → H1[q]? = H[q]?) → va_S A0 H0 H1 locs1 → H1[q9]? = some ce → ce.vm = .none → s.vm.findClass E = some ce.cls → vx_W p l e R s m args below meth c H1 locs1 (cells + mc) (slots + ms) Q (F0 m pc ls rest) q9)
    (kk : ∀ (r : Int64) (u : S) (t : State) (H1 : Heap) (locs1 : List Loc), t.heap = H1 → s.vm.Alike t.vm → post r u → B u t → H.size ≤ H1.size → (∀ q : Nat, q < H.size → ¬ A1 q → H1[q]? = H[q]?) → va_S A0 H0 H1 locs1 → W p l e R s m args below meth c H1 locs1 (cells + mc) (slots + ms) Q (F0 m (pc + 3) ls (.long r :: rest))) : W p l e R s m args below meth c H locs cells slots Q (F0 m pc ls st0) := by
  intro T hT X
  rcases hr T hT X with ⟨v, st₀, t, T', L, h0, X', hL, e1, e2, ⟨⟨r, u, hv, hp, hb⟩, hF⟩, st⟩ | ⟨q, st₀, t, T', L, E, ce, h0, X', hL, e1, e2, ⟨u, hp, hb, hF⟩, hce, hcv, hcl, st⟩
  · cases hv
    obtain ⟨k1, k2, k3⟩ := vx_keep h0 e1 hS hA hf hL hF
    obtain ⟨t2, a1, b1⟩ := kk r u t T'.heap (locs ++ L) e1.symm (by rw [← e2]; exact X'.warmed.alike) hp hb k1 k2 k3 T' rfl X'
    exact ⟨t2, st t2 a1, b1⟩
  · obtain ⟨k1, k2, k3⟩ := vx_keep h0 e1 hS hAX hf hL hF
    obtain ⟨t2, a1, b1⟩ := kx E ce q u t T'.heap (locs ++ L) e1.symm (by rw [← e2]; exact X'.warmed.alike) hp hb k1 k2 k3 (by rw [e1]; exact hce) hcv hcl T' rfl X'
    exact ⟨t2, st.trans a1, b1⟩
theorem vx_callf {S SX : Type} {post : UInt32 → S → Prop} {px : SX → Prop} {B : S → State → Prop} {BX : String → SX → State → Prop} {AX : Nat → Prop} (hr : vx_Run p l e R s m args below meth c H locs cells slots mc ms (F0 m pc ls st0) rest (va_Qf post B A1 a) (vx_X px BX AX) free) (hS : va_S A0 H0 H locs) (hA : ∀ q, q < H.size → A1 q → A0 q) (hf : ∀ q, free q → A0 q) (hAX : ∀ q, q < H.size → AX q → A0 q)
    (kx : ∀ (E : String) (ce : Cell) (q9 : Addr) (u : SX) (t : State) (H1 : Heap) (locs1 : List Loc), t.heap = H1 → s.vm.Alike t.vm → px u → BX E u t → H.size ≤ H1.size → (∀ q : Nat, q < H.size → ¬ AX q → H1[q]? = H[q]?) → va_S A0 H0 H1 locs1 → H1[q9]? = some ce → ce.vm = .none → s.vm.findClass E = some ce.cls → vx_W p l e R s m args below meth c H1 locs1 (cells + mc) (slots + ms) Q (F0 m pc ls rest) q9)
    (kk : ∀ (r : UInt32) (u : S) (t : State) (H1 : Heap) (locs1 : List Loc), t.heap = H1 → s.vm.Alike t.vm → post r u → B u t → H.size ≤ H1.size → (∀ q : Nat, q < H.size → ¬ A1 q → H1[q]? = H[q]?) → va_S A0 H0 H1 locs1 → W p l e R s m args below meth c H1 locs1 (cells + mc) (slots + ms) Q (F0 m (pc + 3) ls (.float r :: rest))) : W p l e R s m args below meth c H locs cells slots Q (F0 m pc ls st0) := by
  intro T hT X
  rcases hr T hT X with ⟨v, st₀, t, T', L, h0, X', hL, e1, e2, ⟨⟨r, u, hv, hp, hb⟩, hF⟩, st⟩ | ⟨q, st₀, t, T', L, E, ce, h0, X', hL, e1, e2, ⟨u, hp, hb, hF⟩, hce, hcv, hcl, st⟩
  · cases hv
    obtain ⟨k1, k2, k3⟩ := vx_keep h0 e1 hS hA hf hL hF
    obtain ⟨t2, a1, b1⟩ := kk r u t T'.heap (locs ++ L) e1.symm (by rw [← e2]; exact X'.warmed.alike) hp hb k1 k2 k3 T' rfl X'
    exact ⟨t2, st t2 a1, b1⟩
  · obtain ⟨k1, k2, k3⟩ := vx_keep h0 e1 hS hAX hf hL hF
    obtain ⟨t2, a1, b1⟩ := kx E ce q u t T'.heap (locs ++ L) e1.symm (by rw [← e2]; exact X'.warmed.alike) hp hb k1 k2 k3 (by rw [e1]; exact hce) hcv hcl T' rfl X'
    exact ⟨t2, st.trans a1, b1⟩
theorem vx_calld {S SX : Type} {post : UInt64 → S → Prop} {px : SX → Prop} {B : S → State → Prop} {BX : String → SX → State → Prop} {AX : Nat → Prop} (hr : vx_Run p l e R s m args below meth c H locs cells slots mc ms (F0 m pc ls st0) rest (va_Qd post B A1 a) (vx_X px BX AX) free) (hS : va_S A0 H0 H locs) (hA : ∀ q, q < H.size → A1 q → A0 q) (hf : ∀ q, free q → A0 q) (hAX : ∀ q, q < H.size → AX q → A0 q)
    (kx : ∀ (E : String) (ce : Cell) (q9 : Addr) (u : SX) (t : State) (H1 : Heap) (locs1 : List Loc), t.heap = H1 → s.vm.Alike t.vm → px u → BX E u t → H.size ≤ H1.size → (∀ q : Nat, q < H.size → ¬ AX q → H1[q]? = H[q]?) → va_S A0 H0 H1 locs1 → H1[q9]? = some ce → ce.vm = .none → s.vm.findClass E = some ce.cls → vx_W p l e R s m args below meth c H1 locs1 (cells + mc) (slots + ms) Q (F0 m pc ls rest) q9)
    (kk : ∀ (r : UInt64) (u : S) (t : State) (H1 : Heap) (locs1 : List Loc), t.heap = H1 → s.vm.Alike t.vm → post r u → B u t → H.size ≤ H1.size → (∀ q : Nat, q < H.size → ¬ A1 q → H1[q]? = H[q]?) → va_S A0 H0 H1 locs1 → W p l e R s m args below meth c H1 locs1 (cells + mc) (slots + ms) Q (F0 m (pc + 3) ls (.double r :: rest))) : W p l e R s m args below meth c H locs cells slots Q (F0 m pc ls st0) := by
  intro T hT X
  rcases hr T hT X with ⟨v, st₀, t, T', L, h0, X', hL, e1, e2, ⟨⟨r, u, hv, hp, hb⟩, hF⟩, st⟩ | ⟨q, st₀, t, T', L, E, ce, h0, X', hL, e1, e2, ⟨u, hp, hb, hF⟩, hce, hcv, hcl, st⟩
  · cases hv
    obtain ⟨k1, k2, k3⟩ := vx_keep h0 e1 hS hA hf hL hF
    obtain ⟨t2, a1, b1⟩ := kk r u t T'.heap (locs ++ L) e1.symm (by rw [← e2]; exact X'.warmed.alike) hp hb k1 k2 k3 T' rfl X'
    exact ⟨t2, st t2 a1, b1⟩
  · obtain ⟨k1, k2, k3⟩ := vx_keep h0 e1 hS hAX hf hL hF
    obtain ⟨t2, a1, b1⟩ := kx E ce q u t T'.heap (locs ++ L) e1.symm (by rw [← e2]; exact X'.warmed.alike) hp hb k1 k2 k3 (by rw [e1]; exact hce) hcv hcl T' rfl X'
    exact ⟨t2, st.trans a1, b1⟩
theorem vx_callv {S SX : Type} {post : S → Prop} {px : SX → Prop} {B : S → State → Prop} {BX : String → SX → State → Prop} {AX : Nat → Prop} (hr : vx_Run p l e R s m args below meth c H locs cells slots mc ms (F0 m pc ls st0) rest (va_Qv post B A1 a) (vx_X px BX AX) free) (hS : va_S A0 H0 H locs) (hA : ∀ q, q < H.size → A1 q → A0 q) (hf : ∀ q, free q → A0 q) (hAX : ∀ q, q < H.size → AX q → A0 q)
    (kx : ∀ (E : String) (ce : Cell) (q9 : Addr) (u : SX) (t : State) (H1 : Heap) (locs1 : List Loc), t.heap = H1 → s.vm.Alike t.vm → px u → BX E u t → H.size ≤ H1.size → (∀ q : Nat, q < H.size → ¬ AX q → H1[q]? = H[q]?) → va_S A0 H0 H1 locs1 → H1[q9]? = some ce → ce.vm = .none → s.vm.findClass E = some ce.cls → vx_W p l e R s m args below meth c H1 locs1 (cells + mc) (slots + ms) Q (F0 m pc ls rest) q9)
    (kk : ∀ (u : S) (t : State) (H1 : Heap) (locs1 : List Loc), t.heap = H1 → s.vm.Alike t.vm → post u → B u t → H.size ≤ H1.size → (∀ q : Nat, q < H.size → ¬ A1 q → H1[q]? = H[q]?) → va_S A0 H0 H1 locs1 → W p l e R s m args below meth c H1 locs1 (cells + mc) (slots + ms) Q (F0 m (pc + 3) ls (rest))) : W p l e R s m args below meth c H locs cells slots Q (F0 m pc ls st0) := by
  intro T hT X
  rcases hr T hT X with ⟨v, st₀, t, T', L, h0, X', hL, e1, e2, ⟨⟨u, hv, hp, hb⟩, hF⟩, st⟩ | ⟨q, st₀, t, T', L, E, ce, h0, X', hL, e1, e2, ⟨u, hp, hb, hF⟩, hce, hcv, hcl, st⟩
  · cases hv
    obtain ⟨k1, k2, k3⟩ := vx_keep h0 e1 hS hA hf hL hF
    obtain ⟨t2, a1, b1⟩ := kk u t T'.heap (locs ++ L) e1.symm (by rw [← e2]; exact X'.warmed.alike) hp hb k1 k2 k3 T' rfl X'
    exact ⟨t2, st t2 a1, b1⟩
  · obtain ⟨k1, k2, k3⟩ := vx_keep h0 e1 hS hAX hf hL hF
    obtain ⟨t2, a1, b1⟩ := kx E ce q u t T'.heap (locs ++ L) e1.symm (by rw [← e2]; exact X'.warmed.alike) hp hb k1 k2 k3 (by rw [e1]; exact hce) hcv hcl T' rfl X'
    exact ⟨t2, st.trans a1, b1⟩
/-- caught by the row x of this method's table; the rows ahead don't take it -/
theorem vx_catch {own name : String} {E : String} {ce : Cell} {q : Addr} (hown : s.vm.findClass own = some m.cls) (pre : List ExceptionTableEntry) (x : ExceptionTableEntry) (suf : List ExceptionTableEntry) (hsplit : c.exceptionTable.toList = pre ++ x :: suf)
    (hpass : ∀ z ∈ pre, covers z pc = false ∨ (z.catchType ≠ 0 ∧ ∃ nm : String, (Cond.classLink own z.catchType nm).before args s = true ∧ va_Nc E nm s)) (hx : covers x pc = true) (h0 : x.catchType ≠ 0)
    (hlink : (Cond.classLink own x.catchType name).before args s = true) (hcast : (Cond.castable E name).before args s = true) (hcell : H[q]? = some ce) (hv : ce.vm = .none) (hcl : s.vm.findClass E = some ce.cls)
    (kk : W p l e R s m args below meth c H locs cells slots Q (F0 m x.handlerPc ls [.ref q])) : vx_W p l e R s m args below meth c H locs cells slots Q (F0 m pc ls rest) q := by
  intro T hT X
  have hpl : e.platform.magicAccessors = ({} : Platform).magicAccessors := by rw [X.admits.platform]
  obtain ⟨c3, c4, hc3, hc4, hasg⟩ := Cond.castable_spec hcast
  cases Option.some.inj (hc3.symm.trans hcl)
  obtain ⟨c5, hc5, hcl5⟩ := Cond.classLink_spec hown hlink e.platform hpl
  cases Option.some.inj (hc4.symm.trans hc5)
  obtain ⟨vm', X', st⟩ := X.thenCaughtThrough q (g := F0 m pc ls rest) rfl (Steps.refl _) (by rw [hT]; exact hcell) (by rw [hv]; rfl) (by obtain ⟨k9, h9, -⟩ := Vm.findClass_spec hcl; exact ⟨k9, h9⟩) pre x suf hsplit
    (fun z hz => by
      rcases hpass z hz with h | ⟨hz0, nm, hl1, hn1⟩
      · exact Or.inl h
      · obtain ⟨c6, hc6, hcl6⟩ := Cond.classLink_spec hown hl1 e.platform hpl
        obtain ⟨a8, b8, h1, h2, h3⟩ := hn1
        cases Option.some.inj (h1.symm.trans hcl)
        cases Option.some.inj (h2.symm.trans hc6)
        exact Or.inr ⟨hz0, _, hcl6, h3⟩) hx (Or.inr ⟨h0, c4, hcl5, hasg⟩)
  obtain ⟨t, a1, b1⟩ := kk (T.setVm vm') hT X'
  exact ⟨t, st.trans a1, b1⟩
end Rows
section Ends
variable {p : Program} {l : Launch} {e : Env} {R : Room} {s : State} {m : MethodId} {args : Array Value} {below : List Frame} {meth : Method} {c : Code} {H : Heap} {locs : List Loc} {cells slots : Nat} {Q : State → Prop}
variable {mc ms : Nat} {free : Addr → Prop} {A0 A1 : Nat → Prop} {H0 : Heap} {a : Array Value} {ls : Array Slot} {st0 rest : List Value}
variable {Qc : Array Value → State → Outcome → State → Prop} {XC : String → State → State → Prop}
/-- what a body that may throw owes at its end -/
def vx_MQ (below : List Frame) (Qc : Array Value → State → Outcome → State → Prop) (XC : String → State → State → Prop) (a : Array Value) (s : State) (mc ms : Nat) (free : Addr → Prop) : State → Prop := fun t =>
  ∃ o, t.status = .running ∧ Ended t below o ∧ vx_Q Qc XC mc ms free a s o t
theorem vx_ret {g : JFrame} {mc ms : Nat} (k : W p l e R s m args below meth c H locs cells slots (MQ below Qc args s mc ms free) g) : W p l e R s m args below meth c H locs cells slots (vx_MQ below Qc XC args s mc ms free) g := by
  intro T hT X
  obtain ⟨t, a1, o, b1, b2, b3, b4⟩ := k T hT X
  exact ⟨t, a1, o, b1, b2, Or.inl ⟨b3, b4⟩⟩
/-- not caught here: it goes on to the caller -/
theorem vx_widen {g : JFrame} {q : Addr} {k n : Nat} (h1 : cells ≤ k) (h2 : slots ≤ n) (kk : vx_W p l e R s m args below meth c H locs k n Q g q) : vx_W p l e R s m args below meth c H locs cells slots Q g q := fun T hT X => kk T hT (stand_widen X h1 h2)
theorem vx_out {pc : Nat} {E : String} {ce : Cell} {q : Addr} {mc ms : Nat} (hout : ∀ x ∈ c.exceptionTable.toList, covers x pc = false) (hlocks : meth.locks = false) (hcell : H[q]? = some ce) (hv : ce.vm = .none) (hcl : s.vm.findClass E = some ce.cls)
    (hx : ∀ t : State, t.heap = H → s.vm.Alike t.vm → XC E s t) (hf : ∀ z ∈ locs, free z.base) (hc : cells ≤ mc) (hs : slots ≤ ms) :
    vx_W p l e R s m args below meth c H locs cells slots (vx_MQ below Qc XC args s mc ms free) (F0 m pc ls rest) q := by
  intro T hT X
  obtain ⟨st1, hrun, hend, hW, hsm⟩ := X.leaveThrown q (g := F0 m pc ls rest) rfl rfl rfl hout hlocks
  have hcell9 : (T.setFrames (.throwing q :: below)).heap[q]? = some ce := by
    show T.heap[q]? = some ce
    rw [hT]; exact hcell
  exact ⟨_, st1, .threw q, hrun, hend, Or.inr ⟨q, rfl, E, ce, locs, hx _ hT hW.alike, hcell9, hv, hcl, hW, hsm.mono hc hs, hf⟩⟩
theorem vx_frame {U : State} {k n : Nat} (h : s.sameButNew ({ U with vm := s.vm } : State) locs k n) : s.heap.size ≤ U.heap.size ∧ ∀ q : Nat, q < s.heap.size → (∀ z ∈ locs, z.base ≠ q) → U.heap[q]? = s.heap[q]? := by
  obtain ⟨-, h2, -, -, -, h6⟩ := h
  refine ⟨h2, fun q hq hz => ?_⟩
  obtain ⟨c9, e1, e2, e3, e4⟩ := h6 q _ (Array.getElem?_eq_getElem hq)
  have hs : c9.slots = (s.heap[q]).slots := Array.ext_getElem? fun i => e4 i fun hm => hz _ hm rfl
  have h9 : c9 = s.heap[q] := by
    rw [hs] at e2
    exact e2
  have e5 : U.heap[q]? = some c9 := e1
  rw [e5, h9, Array.getElem?_eq_getElem hq]
/-- the words of a throw but the four that speak of the heap -/
def vx_no (w : Cond) : Bool := decide (w ≠ .isRef (.static Bundle.tN "UNASSIGNED_STACK" Bundle.steD)) && decide (w ≠ .isRef (.static Bundle.tN "SUPPRESSED_SENTINEL" Bundle.listD)) && decide (w ≠ .laysStatic Bundle.tN "UNASSIGNED_STACK" Bundle.steD) && decide (w ≠ .laysStatic Bundle.tN "SUPPRESSED_SENTINEL" Bundle.listD)
def vx_at0 (own : String) (ic : Nat) (X : String) (names : List String) : List Cond := (Bundle.ownAtoms0 own ic X names).filter vx_no
def vx_atS (own : String) (ic : Nat) (X : String) (names : List String) : List Cond := (Bundle.ownAtoms own ic X names).filter vx_no
/-- a word that the tables alone decide, or a good one -/
def vx_ot (w : Cond) : Bool := w.onTables || goodWord w
theorem vx_ot_at {args a' : Array Value} {s U : State} {w : Cond} (hW : s.WarmedH U.vm) (hvm : s.vm = U.vm) (hg : vx_ot w = true) (h : w.before args s = true) : w.before a' U = true := by
  simp only [vx_ot, Bool.or_eq_true] at hg
  rcases hg with hg | hg
  · exact va_tabs hg hvm h
  · exact word_at hW (good_of_word hg) h
/-- a list's words: the good ones out of the method's own list, the others by premises of their own -/
theorem vx_hat {args : Array Value} {s : State} {L B : List Cond} (h1 : ∀ w ∈ L.filter goodWord, w.before args s = true) (h2 : ∀ w ∈ L.filter (fun w => !goodWord w), w ∈ B) (h3 : ∀ w ∈ B, w.before args s = true) : ∀ w ∈ L, w.before args s = true := by
  intro w hw
  by_cases g : goodWord w = true
  · exact h1 w (List.mem_filter.mpr ⟨hw, g⟩)
  · refine h3 w (h2 w (List.mem_filter.mpr ⟨hw, ?_⟩))
    show (!goodWord w) = true
    cases hgw : goodWord w
    · rfl
    · exact absurd hgw g
theorem vx_c {args : Array Value} {s : State} {w : Cond} {B : List Cond} (h : w.before args s = true) (t : ∀ w ∈ B, w.before args s = true) : ∀ w' ∈ w :: B, w'.before args s = true := fun w' h' => (List.mem_cons.mp h').elim (fun e => by rw [e]; exact h) (t w')
theorem vx_n {args : Array Value} {s : State} : ∀ w ∈ ([] : List Cond), w.before args s = true := fun _ h => nomatch h
theorem vx_own {args : Array Value} {s : State} {L : List Cond} (h1 : ∀ w ∈ L.filter vx_no, w.before args s = true)
    (hU : (Cond.isRef (.static Bundle.tN "UNASSIGNED_STACK" Bundle.steD)).before args s = true) (hN : (Cond.isRef (.static Bundle.tN "SUPPRESSED_SENTINEL" Bundle.listD)).before args s = true)
    (lU : (Cond.laysStatic Bundle.tN "UNASSIGNED_STACK" Bundle.steD).before args s = true) (lN : (Cond.laysStatic Bundle.tN "SUPPRESSED_SENTINEL" Bundle.listD).before args s = true) : ∀ w ∈ L, w.before args s = true := by
  intro w hw
  by_cases e1 : w = .isRef (.static Bundle.tN "UNASSIGNED_STACK" Bundle.steD)
  · rw [e1]; exact hU
  · by_cases e2 : w = .isRef (.static Bundle.tN "SUPPRESSED_SENTINEL" Bundle.listD)
    · rw [e2]; exact hN
    · by_cases e3 : w = .laysStatic Bundle.tN "UNASSIGNED_STACK" Bundle.steD
      · rw [e3]; exact lU
      · by_cases e4 : w = .laysStatic Bundle.tN "SUPPRESSED_SENTINEL" Bundle.listD
        · rw [e4]; exact lN
        · exact h1 w (List.mem_filter.mpr ⟨hw, by unfold vx_no; rw [decide_eq_true e1, decide_eq_true e2, decide_eq_true e3, decide_eq_true e4]; rfl⟩)
/-- where a static field lies, its class's statics cell in H -/
def vx_L (C n d : String) (A : Nat → Prop) (U : State) (H : Heap) : Prop := ∃ (c : ClassId) (k : Class) (i : Nat) (f : Field) (a : Nat) (cell : Cell), U.vm.findClass C = some c ∧ U.fieldFound? C n d = some (c, k, i, f) ∧ f.isStatic = true ∧ k.statics = some a ∧ H[a]? = some cell ∧ cell.vm.isStatics = true ∧ cell.cls = c ∧ f.slot < cell.slots.size ∧ k.staticTypes[f.slot]? = some f.type ∧ ¬ A a
theorem vx_L.moved {C n d : String} {A : Nat → Prop} {u U : State} {H : Heap} (hvm : u.vm.Alike U.vm) (h : vx_L C n d A u H) : vx_L C n d A U H := by
  obtain ⟨c, k, i, f, a, cell, h1, h2, h3, h4, h5, h6, h7, h8, h9, h10⟩ := h
  obtain ⟨k', hi', he⟩ := State.fieldFound?_setVm hvm h2
  exact ⟨c, k', i, f, a, cell, by rw [hvm.findClass]; exact h1, hi', h3, by rw [he]; exact h4, h5, h6, h7, h8, by rw [he]; exact h9, h10⟩
theorem vx_L.kept {C n d : String} {A : Nat → Prop} {U : State} {H H1 : Heap} (h : vx_L C n d A U H) (hq : ∀ a : Nat, a < H.size → ¬ A a → H1[a]? = H[a]?) : vx_L C n d A U H1 := by
  obtain ⟨c, k, i, f, a, cell, h1, h2, h3, h4, h5, h6, h7, h8, h9, h10⟩ := h
  exact ⟨c, k, i, f, a, cell, h1, h2, h3, h4, by rw [hq a (Array.getElem?_eq_some_iff.mp h5).1 h10]; exact h5, h6, h7, h8, h9, h10⟩
theorem vx_L.narrow {C n d : String} {A B : Nat → Prop} {U : State} {H : Heap} (h : vx_L C n d A U H) (hAB : ∀ q, B q → A q) : vx_L C n d B U H := by
  obtain ⟨c, k, i, f, a, cell, h1, h2, h3, h4, h5, h6, h7, h8, h9, h10⟩ := h
  exact ⟨c, k, i, f, a, cell, h1, h2, h3, h4, h5, h6, h7, h8, h9, fun z => h10 (hAB _ z)⟩
theorem vx_L.word {C n d : String} {A : Nat → Prop} {s : State} {args : Array Value} (h : vx_L C n d A s s.heap) : (Cond.laysStatic C n d).before args s = true := by
  obtain ⟨c, k, i, f, a, cell, h1, h2, h3, h4, h5, h6, h7, h8, h9, -⟩ := h
  show (Cond.laysStatic C n d).holds args s none s [] = true
  exact Cond.laysStatic_of h1 h2 h3 h4 h5 h6 h7 h8 h9
/-- .. and what it holds: null or some reference -/
def vx_Zq (C n d : String) (A : Nat → Prop) (U : State) (H : Heap) : Prop := va_Zq C n d A U H ∧ vx_L C n d A U H
theorem vx_Zq.moved {C n d : String} {A : Nat → Prop} {u U : State} {H : Heap} (hvm : u.vm.Alike U.vm) (h : vx_Zq C n d A u H) : vx_Zq C n d A U H := ⟨va_Zq.moved hvm h.1, vx_L.moved hvm h.2⟩
theorem vx_Zq.kept {C n d : String} {A : Nat → Prop} {U : State} {H H1 : Heap} (h : vx_Zq C n d A U H) (hq : ∀ a : Nat, a < H.size → ¬ A a → H1[a]? = H[a]?) : vx_Zq C n d A U H1 := ⟨va_Zq.kept h.1 hq, vx_L.kept h.2 hq⟩
theorem vx_Zq.narrow {C n d : String} {A B : Nat → Prop} {U : State} {H : Heap} (h : vx_Zq C n d A U H) (hAB : ∀ q, B q → A q) : vx_Zq C n d B U H := ⟨va_Zq.narrow h.1 hAB, vx_L.narrow h.2 hAB⟩
theorem vx_Zqof {args : Array Value} {s : State} {C n d : String} {A : Nat → Prop} (hl : (Cond.laysStatic C n d).before args s = true) (hini : (Cond.initialized C).before args s = true) (h : (Cond.isRef (.static C n d)).before args s = true) (hA : ∀ a : Nat, a < s.heap.size → ¬ A a) : vx_Zq C n d A s s.heap := by
  refine ⟨va_Zqof hl hini h hA, ?_⟩
  obtain ⟨c, k, i, f, a, cell, h1, h2, h3, h4, h5, h6, h7, h8, h9⟩ := Cond.laysStatic_spec hl
  exact ⟨c, k, i, f, a, cell, h1, h2, h3, h4, h5, h6, h7, h8, h9, hA a (Array.getElem?_eq_some_iff.mp h5).1⟩
theorem vx_isRef {C n d : String} {v : Value} {A : Nat → Prop} {s : State} {args : Array Value} (h : va_Z C n d v A s s.heap) (hv : v.isRef = true) : (Cond.isRef (.static C n d)).before args s = true := by
  obtain ⟨cf, kf, fi, f, a, cell, h1, h2, h3, h4, h5, h6, h7, -⟩ := h
  have he : (Term.static C n d).eval args s none [] s = some v := by
    simp [Term.eval, State.fieldNamed?, h1, h2, h4, h5, h6, h7]
  simp only [Cond.before, Cond.holds, Cond.value, he]
  cases v <;> simp_all [Value.isRef]
theorem vx_isRefq {C n d : String} {A : Nat → Prop} {s : State} {args : Array Value} (h : va_Zq C n d A s s.heap) : (Cond.isRef (.static C n d)).before args s = true := by
  rcases h with h | ⟨t, h⟩
  · exact vx_isRef h rfl
  · exact vx_isRef h rfl
/-- the same frame, seen from here: as if the method were called anew in this heap -/
theorem vx_rebase {T : State} (X : Stand p l e R s m args below meth c T locs cells slots) {R' : Room} (hf : R'.frames ≤ R.frames) (hl : R'.locals ≤ R.locals) (hc : cells + R'.cells ≤ R.cells) (hs : slots + R'.slots ≤ R.slots) :
    Stand p l e R' ((T.setVm s.vm).setFrames (.invoking m args :: below)) m args below meth c T [] 0 0 := by
  have htop : (T.setVm s.vm).topJava?.isSome := X.here.top
  have hF : ((T.setVm s.vm).setFrames (.invoking m args :: below)).frames = .invoking m args :: below := State.frames_setFrames _ (State.cur_lt_of_top htop)
  obtain ⟨g₀, hg0⟩ := Option.isSome_iff_exists.mp htop
  obtain ⟨r, hr⟩ := State.topJava?_eq_some.mp hg0
  have hl9 : e.platform.stackLimits (T.setVm s.vm).me = e.platform.stackLimits s.me := X.limits
  have hb9 : (T.setVm s.vm).me.stackBytes = s.me.stackBytes := X.bytes
  refine ⟨X.admits, X.cas, X.clock, hF, ?_, X.hears, X.method, X.code, X.here, X.tail, X.warmed, ?_, ?_, ?_⟩
  · have h := X.room
    have hU : ((T.setVm s.vm).setFrames (.invoking m args :: below)).localsInUse = s.localsInUse := by
      rw [State.localsInUse_invoking hF (meth := meth) (c := c) X.method X.code, State.localsInUse_invoking X.frames X.method X.code]
    simp only [State.hasRoom, Bool.and_eq_true, decide_eq_true_eq] at h ⊢
    obtain ⟨⟨⟨⟨h1, h2, h3, h4, h5, h6⟩, h7⟩, h8⟩, h9⟩ := h
    rw [X.frames, List.length_cons] at h2 h3
    have q1 := X.heapSize
    have q2 := X.used
    simp only [hF, hU, List.length_cons, State.stackLimits_setFrames, State.stackBytes_setFrames, hl9, hb9]
    refine ⟨⟨⟨⟨by omega, by omega, by omega, by omega, by omega, h6⟩, ?_⟩, ?_⟩, X.book⟩
    · show T.heap.size + R'.cells ≤ e.platform.maxCells
      omega
    · show T.slotsUsed + R'.slots ≤ e.platform.maxSlots
      omega
  · rw [State.stackLimits_setFrames]; rfl
  · rw [State.stackBytes_setFrames]; rfl
  · refine ⟨?_, Nat.le_refl _, Nat.le_refl _, ?_, ?_, fun a c9 h9 => ⟨c9, h9, rfl, rfl, fun _ _ => rfl⟩⟩
    · obtain ⟨t, ht, -⟩ := State.frames_cons hr
      show T.setVm s.vm = { ((T.setVm s.vm).setFrames (.invoking m args :: below)).setFrames (T.setVm s.vm).frames with heap := T.heap, slotsUsed := T.slotsUsed }
      rw [State.setFrames_setFrames, State.setFrames_self ht]
      rfl
    · show T.slotsUsed = T.slotsUsed + ((T.heap.toList.drop T.heap.size).map (·.slots.size)).sum
      rw [List.drop_eq_nil_of_le (Nat.le_of_eq Array.length_toList)]
      rfl
    · show ((T.heap.toList.drop T.heap.size).map (·.slots.size)).sum ≤ 0
      rw [List.drop_eq_nil_of_le (Nat.le_of_eq Array.length_toList)]
      exact Nat.le_refl _
/-- 'throw new E()': new; dup; invokespecial; athrow -/
theorem vx_throw0 {cc : ByteArray} {pc : Nat} (hexec : p.tables.exec = Jvm.exec) (hb : c.code = cc) (hl : l.stackTraces = false) {own cls : String} {names : List String} {ik ic mc ms : Nat} {A : Nat → Prop}
    (hown : s.vm.findClass own = some m.cls) (hcls : Bundle.fit cls = true) (hnames : ∀ n ∈ names, Bundle.fit n = true)
    (hk : (Cond.classLink own ik cls).before args s = true) (hini : (Cond.initialized cls).before args s = true) (hat : ∀ w ∈ vx_at0 own ic cls names, w.before args s = true)
    (hgood : ∀ w ∈ Cond.classLink own ik cls :: Cond.initialized cls :: vx_at0 own ic cls names, vx_ot w = true)
    (hU : vx_Zq Bundle.tN "UNASSIGNED_STACK" Bundle.steD A s s.heap) (hN : vx_Zq Bundle.tN "SUPPRESSED_SENTINEL" Bundle.listD A s s.heap) (hS : va_S A s.heap H locs) (hsize : ls.size = c.maxLocals)
    (d0 : decode cc pc = .ok (.new ik, 3)) (d3 : decode cc (pc + 3) = .ok (.dup, 1)) (d4 : decode cc (pc + 4) = .ok (.invokespecial ic, 3)) (d7 : decode cc (pc + 7) = .ok (.athrow, 1))
    (hout : ∀ x ∈ c.exceptionTable.toList, covers x (pc + 7) = false)
    (hRframes : names.length + 3 < R.frames) (hRlocals : (rest.map fun v => v.category).sum + (13 * (names.length + 1) + 42) ≤ R.locals) (hRcells : cells + 1 ≤ R.cells) (hRslots : slots + 6 ≤ R.slots) (hlocks : meth.locks = false)
    (hx : ∀ t : State, s.vm.Alike t.vm → H.size ≤ t.heap.size → (∀ q : Nat, q < H.size → t.heap[q]? = H[q]?) → XC cls s t)
    (hf : ∀ z ∈ locs, free z.base) (hc : cells + 1 ≤ mc) (hs : slots + 6 ≤ ms) :
    W p l e R s m args below meth c H locs cells slots (vx_MQ below Qc XC args s mc ms free) (F0 m pc ls rest) := by
  intro T hT X
  have htr : e.platform.stackTraces = false := (show e.platform.stackTraces = l.stackTraces by rw [X.admits.platform]).trans hl
  have Y := vx_rebase X (R' := { frames := R.frames, locals := R.locals, cells := 1, slots := 6 }) (Nat.le_refl _) (Nat.le_refl _) hRcells hRslots
  obtain ⟨s', hA⟩ : ∃ z, z = (T.setVm s.vm).setFrames (.invoking m args :: below) := ⟨_, rfl⟩
  rw [← hA] at Y
  have hvm : s'.vm = s.vm := by rw [hA]; rfl
  have hhp : s'.heap = H := by rw [hA]; exact hT
  have hW0 : s.WarmedH s'.vm := by rw [hvm]; exact State.WarmedH.refl s
  have hat' : ∀ w ∈ vx_at0 own ic cls names, w.before args s' = true := fun w hw => vx_ot_at hW0 hvm.symm (hgood w (List.mem_cons_of_mem _ (List.mem_cons_of_mem _ hw))) (hat w hw)
  have hk' : (Cond.classLink own ik cls).before args s' = true := vx_ot_at hW0 hvm.symm (hgood _ List.mem_cons_self) hk
  have hini' : (Cond.initialized cls).before args s' = true := vx_ot_at hW0 hvm.symm (hgood _ (List.mem_cons_of_mem _ List.mem_cons_self)) hini
  have hU' : vx_Zq Bundle.tN "UNASSIGNED_STACK" Bundle.steD A s' s'.heap := by rw [hhp]; exact vx_Zq.moved hW0.alike (hU.kept hS.2.1)
  have hN' : vx_Zq Bundle.tN "SUPPRESSED_SENTINEL" Bundle.listD A s' s'.heap := by rw [hhp]; exact vx_Zq.moved hW0.alike (hN.kept hS.2.1)
  have h : ∀ w ∈ Bundle.ownAtoms0 own ic cls names, w.before args s' = true := vx_own hat' (vx_isRefq hU'.1) (vx_isRefq hN'.1) hU'.2.word hN'.2.word
  have hown' : s'.vm.findClass own = some m.cls := by rw [hvm]; exact hown
  have hins : (Cond.instantiable cls 6).before args s' = true := h _ (by simp [Bundle.ownAtoms0])
  obtain ⟨vm₁, cX, kX, hfX, hkX, -, -, X₁, st1⟩ := Y.newCold hexec (own := own) (C := cls) (index := ik) (n := 6) hown' hk' hins hini'
    (g := F0 m pc ls rest) rfl (by rw [hb]; exact d0) (Nat.le_refl _) (Nat.le_refl _)
  generalize hT1 : (T.setVm vm₁).pushCell { cls := cX, slots := kX.instanceTypes.map defaultValue, vm := .none } = T1 at X₁ st1
  have hcat : (Value.ref T.heap.size).category = 1 := rfl
  have hcellA : T1.heap[T.heap.size]? = some (freshCell cX kX) := by rw [← hT1]; exact State.heap_pushCell_size _ _
  have d3' : decode c.code (pc + 3) = .ok (.dup, 1) := by rw [hb]; exact d3
  obtain ⟨U, hsteps, hrun, hend, hW, hsame, ce, hce, hO⟩ := X₁.ctorThrow0 hexec htr (own := own) (cls := cls) (names := names) (ic := ic) hown' hcls hnames h (fun x hx => nomatch hx) hfX hkX hcellA (by rw [hhp, hT]; exact Nat.le_refl _)
    (g := { method := m, pc := pc + 4, locals := ls, stack := .ref T.heap.size :: .ref T.heap.size :: rest, locked := none }) rfl hsize rfl rfl (rest := rest) rfl
    (by rw [hb]; exact d4) (by rw [hb]; exact d7) hout hRframes (by simp only [List.map_cons, List.sum_cons, hcat]; omega) hlocks
  obtain ⟨f1, f2⟩ := vx_frame hsame
  rw [hhp] at f1 f2
  have hWs : s.WarmedH U.vm := State.WarmedH.trans hW0 hW
  have hcl : s.vm.findClass cls = some ce.cls := by
    have h9 := hO.cls
    rw [hvm] at h9
    exact h9
  have hall : s.sameButNew ({ U with vm := s.vm } : State) locs mc ms := by
    subst hA
    obtain ⟨e1, e2⟩ := hsame
    rw [State.setFrames_setFrames] at e1
    have h2 : (T.setVm s.vm).sameButNew ({ U with vm := s.vm } : State) [] (0 + 1) (0 + 6) := ⟨e1, e2⟩
    have h3 := X.same.trans h2
    rw [List.append_nil] at h3
    exact h3.mono hc hs
  refine ⟨U, ?_, .threw T.heap.size, hrun, hend, Or.inr ⟨T.heap.size, rfl, cls, ce, locs, hx U hWs.alike f1 (fun q hq => f2 q hq (fun z hz => nomatch hz)), hce, hO.vm, hcl, hWs, hall, hf⟩⟩
  refine st1 _ ?_
  show Steps p.tables e below (T1.setTop { method := m, pc := pc + 3, locals := ls, stack := .ref T.heap.size :: rest, locked := none }) _
  jvm_step X₁.here [X₁.here.top, hexec, d3', Value.category]
  exact hsteps
/-- 'throw new E("text")': new; dup; ldc; invokespecial; athrow -/
theorem vx_throwS {cc : ByteArray} {pc : Nat} (hexec : p.tables.exec = Jvm.exec) (hb : c.code = cc) (hl : l.stackTraces = false) {own cls text : String} {names : List String} {ik is ic mc ms sa : Nat} {A : Nat → Prop}
    (hown : s.vm.findClass own = some m.cls) (hcls : Bundle.fit cls = true) (hnames : ∀ n ∈ names, Bundle.fit n = true)
    (hk : (Cond.classLink own ik cls).before args s = true) (hini : (Cond.initialized cls).before args s = true) (hstr : vk_R own is text sa s) (hat : ∀ w ∈ vx_atS own ic cls names, w.before args s = true)
    (hgood : ∀ w ∈ Cond.classLink own ik cls :: Cond.initialized cls :: vx_atS own ic cls names, vx_ot w = true)
    (hU : vx_Zq Bundle.tN "UNASSIGNED_STACK" Bundle.steD A s s.heap) (hN : vx_Zq Bundle.tN "SUPPRESSED_SENTINEL" Bundle.listD A s s.heap) (hS : va_S A s.heap H locs) (hsize : ls.size = c.maxLocals)
    (d0 : decode cc pc = .ok (.new ik, 3)) (d3 : decode cc (pc + 3) = .ok (.dup, 1)) (d4 : decode cc (pc + 4) = .ok (.ldc is, 2)) (d6 : decode cc (pc + 6) = .ok (.invokespecial ic, 3)) (d9 : decode cc (pc + 9) = .ok (.athrow, 1))
    (hout : ∀ x ∈ c.exceptionTable.toList, covers x (pc + 9) = false)
    (hRframes : names.length + 3 < R.frames) (hRlocals : (rest.map fun v => v.category).sum + (13 * (names.length + 1) + 43) ≤ R.locals) (hRcells : cells + 1 ≤ R.cells) (hRslots : slots + 6 ≤ R.slots) (hlocks : meth.locks = false)
    (hx : ∀ t : State, s.vm.Alike t.vm → H.size ≤ t.heap.size → (∀ q : Nat, q < H.size → t.heap[q]? = H[q]?) → XC cls s t)
    (hf : ∀ z ∈ locs, free z.base) (hc : cells + 1 ≤ mc) (hs : slots + 6 ≤ ms) :
    W p l e R s m args below meth c H locs cells slots (vx_MQ below Qc XC args s mc ms free) (F0 m pc ls rest) := by
  intro T hT X
  have htr : e.platform.stackTraces = false := (show e.platform.stackTraces = l.stackTraces by rw [X.admits.platform]).trans hl
  have Y := vx_rebase X (R' := { frames := R.frames, locals := R.locals, cells := 1, slots := 6 }) (Nat.le_refl _) (Nat.le_refl _) hRcells hRslots
  obtain ⟨s', hA⟩ : ∃ z, z = (T.setVm s.vm).setFrames (.invoking m args :: below) := ⟨_, rfl⟩
  rw [← hA] at Y
  have hvm : s'.vm = s.vm := by rw [hA]; rfl
  have hhp : s'.heap = H := by rw [hA]; exact hT
  have hW0 : s.WarmedH s'.vm := by rw [hvm]; exact State.WarmedH.refl s
  have hat' : ∀ w ∈ vx_atS own ic cls names, w.before args s' = true := fun w hw => vx_ot_at hW0 hvm.symm (hgood w (List.mem_cons_of_mem _ (List.mem_cons_of_mem _ hw))) (hat w hw)
  have hk' : (Cond.classLink own ik cls).before args s' = true := vx_ot_at hW0 hvm.symm (hgood _ List.mem_cons_self) hk
  have hini' : (Cond.initialized cls).before args s' = true := vx_ot_at hW0 hvm.symm (hgood _ (List.mem_cons_of_mem _ List.mem_cons_self)) hini
  have hU' : vx_Zq Bundle.tN "UNASSIGNED_STACK" Bundle.steD A s' s'.heap := by rw [hhp]; exact vx_Zq.moved hW0.alike (hU.kept hS.2.1)
  have hN' : vx_Zq Bundle.tN "SUPPRESSED_SENTINEL" Bundle.listD A s' s'.heap := by rw [hhp]; exact vx_Zq.moved hW0.alike (hN.kept hS.2.1)
  have h : ∀ w ∈ Bundle.ownAtoms own ic cls names, w.before args s' = true := vx_own hat' (vx_isRefq hU'.1) (vx_isRefq hN'.1) hU'.2.word hN'.2.word
  have hown' : s'.vm.findClass own = some m.cls := by rw [hvm]; exact hown
  have hins : (Cond.instantiable cls 6).before args s' = true := h _ (by simp [Bundle.ownAtoms])
  obtain ⟨vm₁, cX, kX, hfX, hkX, -, -, X₁, st1⟩ := Y.newCold hexec (own := own) (C := cls) (index := ik) (n := 6) hown' hk' hins hini'
    (g := F0 m pc ls rest) rfl (by rw [hb]; exact d0) (Nat.le_refl _) (Nat.le_refl _)
  generalize hT1 : (T.setVm vm₁).pushCell { cls := cX, slots := kX.instanceTypes.map defaultValue, vm := .none } = T1 at X₁ st1
  have hcat : (Value.ref T.heap.size).category = 1 := rfl
  have hcellA : T1.heap[T.heap.size]? = some (freshCell cX kX) := by rw [← hT1]; exact State.heap_pushCell_size _ _
  have d3' : decode c.code (pc + 3) = .ok (.dup, 1) := by rw [hb]; exact d3
  have d4' : decode c.code (pc + 4) = .ok (.ldc is, 2) := by rw [hb]; exact d4
  have hstr' : vk_R own is text sa s' := vk_R.warm hW0 hstr
  obtain ⟨U, hsteps, hrun, hend, hW, hsame, ce, hce, hO⟩ := X₁.ctorThrowS hexec htr (own := own) (cls := cls) (names := names) (ic := ic) hown' hcls hnames h (fun x hx => nomatch hx) hfX hkX hcellA (by rw [hhp, hT]; exact Nat.le_refl _) (msg := .ref sa) rfl
    (g := { method := m, pc := pc + 6, locals := ls, stack := .ref sa :: .ref T.heap.size :: .ref T.heap.size :: rest, locked := none }) rfl hsize rfl rfl (rest := rest) rfl
    (by rw [hb]; exact d6) (by rw [hb]; exact d9) hout hRframes (by simp only [List.map_cons, List.sum_cons, hcat]; omega) hlocks
  obtain ⟨f1, f2⟩ := vx_frame hsame
  rw [hhp] at f1 f2
  have hWs : s.WarmedH U.vm := State.WarmedH.trans hW0 hW
  have hcl : s.vm.findClass cls = some ce.cls := by
    have h9 := hO.cls
    rw [hvm] at h9
    exact h9
  have hall : s.sameButNew ({ U with vm := s.vm } : State) locs mc ms := by
    subst hA
    obtain ⟨e1, e2⟩ := hsame
    rw [State.setFrames_setFrames] at e1
    have h2 : (T.setVm s.vm).sameButNew ({ U with vm := s.vm } : State) [] (0 + 1) (0 + 6) := ⟨e1, e2⟩
    have h3 := X.same.trans h2
    rw [List.append_nil] at h3
    exact h3.mono hc hs
  refine ⟨U, ?_, .threw T.heap.size, hrun, hend, Or.inr ⟨T.heap.size, rfl, cls, ce, locs, hx U hWs.alike f1 (fun q hq => f2 q hq (fun z hz => nomatch hz)), hce, hO.vm, hcl, hWs, hall, hf⟩⟩
  refine st1 _ ?_
  show Steps p.tables e below (T1.setTop { method := m, pc := pc + 3, locals := ls, stack := .ref T.heap.size :: rest, locked := none }) _
  jvm_step X₁.here [X₁.here.top, hexec, d3', Value.category]
  exact X₁.ldcString hexec (own := own) (text := text) (index := is) (a := sa) hown' hstr'.1 hstr'.2
    (g := { method := m, pc := pc + 4, locals := ls, stack := .ref T.heap.size :: .ref T.heap.size :: rest, locked := none }) rfl d4' _ hsteps
/-- 'throw new E("text")', the text by a wide index -/
theorem vx_throwSW {cc : ByteArray} {pc : Nat} (hexec : p.tables.exec = Jvm.exec) (hb : c.code = cc) (hl : l.stackTraces = false) {own cls text : String} {names : List String} {ik is ic mc ms sa : Nat} {A : Nat → Prop}
    (hown : s.vm.findClass own = some m.cls) (hcls : Bundle.fit cls = true) (hnames : ∀ n ∈ names, Bundle.fit n = true)
    (hk : (Cond.classLink own ik cls).before args s = true) (hini : (Cond.initialized cls).before args s = true) (hstr : vk_R own is text sa s) (hat : ∀ w ∈ vx_atS own ic cls names, w.before args s = true)
    (hgood : ∀ w ∈ Cond.classLink own ik cls :: Cond.initialized cls :: vx_atS own ic cls names, vx_ot w = true)
    (hU : vx_Zq Bundle.tN "UNASSIGNED_STACK" Bundle.steD A s s.heap) (hN : vx_Zq Bundle.tN "SUPPRESSED_SENTINEL" Bundle.listD A s s.heap) (hS : va_S A s.heap H locs) (hsize : ls.size = c.maxLocals)
    (d0 : decode cc pc = .ok (.new ik, 3)) (d3 : decode cc (pc + 3) = .ok (.dup, 1)) (d4 : decode cc (pc + 4) = .ok (.ldc_w is, 3)) (d7 : decode cc (pc + 7) = .ok (.invokespecial ic, 3)) (d10 : decode cc (pc + 10) = .ok (.athrow, 1))
    (hout : ∀ x ∈ c.exceptionTable.toList, covers x (pc + 10) = false)
    (hRframes : names.length + 3 < R.frames) (hRlocals : (rest.map fun v => v.category).sum + (13 * (names.length + 1) + 43) ≤ R.locals) (hRcells : cells + 1 ≤ R.cells) (hRslots : slots + 6 ≤ R.slots) (hlocks : meth.locks = false)
    (hx : ∀ t : State, s.vm.Alike t.vm → H.size ≤ t.heap.size → (∀ q : Nat, q < H.size → t.heap[q]? = H[q]?) → XC cls s t)
    (hf : ∀ z ∈ locs, free z.base) (hc : cells + 1 ≤ mc) (hs : slots + 6 ≤ ms) :
    W p l e R s m args below meth c H locs cells slots (vx_MQ below Qc XC args s mc ms free) (F0 m pc ls rest) := by
  intro T hT X
  have htr : e.platform.stackTraces = false := (show e.platform.stackTraces = l.stackTraces by rw [X.admits.platform]).trans hl
  have Y := vx_rebase X (R' := { frames := R.frames, locals := R.locals, cells := 1, slots := 6 }) (Nat.le_refl _) (Nat.le_refl _) hRcells hRslots
  obtain ⟨s', hA⟩ : ∃ z, z = (T.setVm s.vm).setFrames (.invoking m args :: below) := ⟨_, rfl⟩
  rw [← hA] at Y
  have hvm : s'.vm = s.vm := by rw [hA]; rfl
  have hhp : s'.heap = H := by rw [hA]; exact hT
  have hW0 : s.WarmedH s'.vm := by rw [hvm]; exact State.WarmedH.refl s
  have hat' : ∀ w ∈ vx_atS own ic cls names, w.before args s' = true := fun w hw => vx_ot_at hW0 hvm.symm (hgood w (List.mem_cons_of_mem _ (List.mem_cons_of_mem _ hw))) (hat w hw)
  have hk' : (Cond.classLink own ik cls).before args s' = true := vx_ot_at hW0 hvm.symm (hgood _ List.mem_cons_self) hk
  have hini' : (Cond.initialized cls).before args s' = true := vx_ot_at hW0 hvm.symm (hgood _ (List.mem_cons_of_mem _ List.mem_cons_self)) hini
  have hU' : vx_Zq Bundle.tN "UNASSIGNED_STACK" Bundle.steD A s' s'.heap := by rw [hhp]; exact vx_Zq.moved hW0.alike (hU.kept hS.2.1)
  have hN' : vx_Zq Bundle.tN "SUPPRESSED_SENTINEL" Bundle.listD A s' s'.heap := by rw [hhp]; exact vx_Zq.moved hW0.alike (hN.kept hS.2.1)
  have h : ∀ w ∈ Bundle.ownAtoms own ic cls names, w.before args s' = true := vx_own hat' (vx_isRefq hU'.1) (vx_isRefq hN'.1) hU'.2.word hN'.2.word
  have hown' : s'.vm.findClass own = some m.cls := by rw [hvm]; exact hown
  have hins : (Cond.instantiable cls 6).before args s' = true := h _ (by simp [Bundle.ownAtoms])
  obtain ⟨vm₁, cX, kX, hfX, hkX, -, -, X₁, st1⟩ := Y.newCold hexec (own := own) (C := cls) (index := ik) (n := 6) hown' hk' hins hini'
    (g := F0 m pc ls rest) rfl (by rw [hb]; exact d0) (Nat.le_refl _) (Nat.le_refl _)
  generalize hT1 : (T.setVm vm₁).pushCell { cls := cX, slots := kX.instanceTypes.map defaultValue, vm := .none } = T1 at X₁ st1
  have hcat : (Value.ref T.heap.size).category = 1 := rfl
  have hcellA : T1.heap[T.heap.size]? = some (freshCell cX kX) := by rw [← hT1]; exact State.heap_pushCell_size _ _
  have d3' : decode c.code (pc + 3) = .ok (.dup, 1) := by rw [hb]; exact d3
  have d4' : decode c.code (pc + 4) = .ok (.ldc_w is, 3) := by rw [hb]; exact d4
  have hstr' : vk_R own is text sa s' := vk_R.warm hW0 hstr
  obtain ⟨U, hsteps, hrun, hend, hW, hsame, ce, hce, hO⟩ := X₁.ctorThrowS hexec htr (own := own) (cls := cls) (names := names) (ic := ic) hown' hcls hnames h (fun x hx => nomatch hx) hfX hkX hcellA (by rw [hhp, hT]; exact Nat.le_refl _) (msg := .ref sa) rfl
    (g := { method := m, pc := pc + 7, locals := ls, stack := .ref sa :: .ref T.heap.size :: .ref T.heap.size :: rest, locked := none }) rfl hsize rfl rfl (rest := rest) rfl
    (by rw [hb]; exact d7) (by rw [hb]; exact d10) hout hRframes (by simp only [List.map_cons, List.sum_cons, hcat]; omega) hlocks
  obtain ⟨f1, f2⟩ := vx_frame hsame
  rw [hhp] at f1 f2
  have hWs : s.WarmedH U.vm := State.WarmedH.trans hW0 hW
  have hcl : s.vm.findClass cls = some ce.cls := by
    have h9 := hO.cls
    rw [hvm] at h9
    exact h9
  have hall : s.sameButNew ({ U with vm := s.vm } : State) locs mc ms := by
    subst hA
    obtain ⟨e1, e2⟩ := hsame
    rw [State.setFrames_setFrames] at e1
    have h2 : (T.setVm s.vm).sameButNew ({ U with vm := s.vm } : State) [] (0 + 1) (0 + 6) := ⟨e1, e2⟩
    have h3 := X.same.trans h2
    rw [List.append_nil] at h3
    exact h3.mono hc hs
  refine ⟨U, ?_, .threw T.heap.size, hrun, hend, Or.inr ⟨T.heap.size, rfl, cls, ce, locs, hx U hWs.alike f1 (fun q hq => f2 q hq (fun z hz => nomatch hz)), hce, hO.vm, hcl, hWs, hall, hf⟩⟩
  refine st1 _ ?_
  show Steps p.tables e below (T1.setTop { method := m, pc := pc + 3, locals := ls, stack := .ref T.heap.size :: rest, locked := none }) _
  jvm_step X₁.here [X₁.here.top, hexec, d3', Value.category]
  exact X₁.ldcStringW hexec (own := own) (text := text) (index := is) (a := sa) hown' hstr'.1 hstr'.2
    (g := { method := m, pc := pc + 4, locals := ls, stack := .ref T.heap.size :: .ref T.heap.size :: rest, locked := none }) rfl d4' _ hsteps
end Ends
section Bodies
variable {l : Launch}
theorem vx_ofW {y : MethodName} {ws ws' : List Cond} {rm : Room} {Pc : Array Value → State → Prop} {Qc : Array Value → State → Outcome → State → Prop} {XC : String → State → State → Prop} {mc ms : Nat} {free : Addr → Prop} {cc : ByteArray} {maxL : Nat} {ret : Option FieldType}
    (hy : plainName y.cls = true) (hw : ws = Cond.code y cc maxL ret :: ws')
    (body : ∀ p e s m args below meth c s₁, BodyLoose p l y (headSpec ws rm) cc maxL ret e s m args below meth c s₁ → c.maxLocals = maxL → (∀ x ∈ c.exceptionTable.toList, False) → Pc args s →
      W p l e (headSpec ws rm).room s m args below meth c s.heap [] 0 0 (vx_MQ below Qc XC args s mc ms free) (entryFrame m args maxL)) : vx_Met l y ws rm Pc Qc XC mc ms free := by
  refine MetFree.of_bodyS (code := cc) (maxLocals := maxL) (ret := ret) hy ?_ ?_
  · intro args s m h hn
    obtain ⟨meth, c, h1, h2, h3, h4, h5, h6, -, -⟩ := Cond.code_spec hn (atoms_spec (ws := ws) h _ (by rw [hw]; exact List.mem_cons_self))
    exact ⟨meth, c, h1, h2, h3, h4, h5, h6⟩
  · intro p e s m args below meth c s₁ B hml hP _
    have hh0 : s₁.heap = s.heap := by rw [B.state]; rfl
    have ht : ∀ x ∈ c.exceptionTable.toList, False := by
      obtain ⟨meth9, c9, h1, h2, -, -, -, -, h7, -⟩ := Cond.code_spec B.named (atoms_spec (ws := ws) B.pre _ (by rw [hw]; exact List.mem_cons_self))
      cases Option.some.inj (h1.symm.trans B.method)
      cases Option.some.inj (h2.symm.trans (Stand.of_body B).code)
      intro x hx
      rw [Array.isEmpty_iff.mp h7] at hx
      cases hx
    obtain ⟨t, a1, o, b1, b2, b3⟩ := body p e s m args below meth c s₁ B hml ht hP s₁ hh0 (Stand.of_body B)
    exact ⟨t, o, a1, b1, b2, b3⟩
/-- the table of a body with handlers -/
theorem vx_table {p : Program} {x y : MethodName} {S : Spec} {cc bytes : ByteArray} {maxL maxL' : Nat} {ret ret' : Option FieldType} {e : Env} {s s₁ : State} {m : MethodId} {args : Array Value} {below : List Frame} {meth : Method} {c : Code} {hh : List (Nat × Nat × Nat × Nat)}
    (B : BodyLoose p l y S cc maxL ret e s m args below meth c s₁) (h : (Cond.codeWith y bytes maxL' ret' hh).before args s = true) : c.exceptionTable.toList = tableOf hh := by
  obtain ⟨m9, meth9, c9, hn9, h1, h2, -, -, h6, -⟩ := Cond.codeWith_spec h
  cases Option.some.inj (hn9.symm.trans B.named)
  cases Option.some.inj (h1.symm.trans B.method)
  cases Option.some.inj (h2.symm.trans (Stand.of_body B).code)
  rw [← h6, table_eq]
end Bodies
end VXA
/-! ===== END ===== -/
/-! ===== BEGIN a static call of a method with an exception table ===== -/
section VXS
variable {p : Program} {l : Launch} {e : Env} {R : Room} {s : State} {m : MethodId} {args : Array Value} {below : List Frame} {meth : Method} {c : Code} {T : State} {H : Heap} {locs : List Loc} {cells slots : Nat}
abbrev vx_CSW (R : Room) (s : State) (args : Array Value) (own : String) (index : Nat) (y : MethodName) (bytes : ByteArray) (maxL : Nat) (ret : Option FieldType) (hh : List (Nat × Nat × Nat × Nat)) (ws : List Cond) (rm : Room) (mc ms n : Nat) : Prop :=
  (rm.cells = mc ∧ rm.slots = ms ∧ rm.frames + 1 ≤ R.frames ∧ 8 + (maxL + 11) + rm.locals ≤ R.locals ∧ (∀ w ∈ ws, ∀ (a' : Array Value) (U : State), s.WarmedH U.vm → w.before a' U = true) ∧ Cond.codeWith y bytes maxL ret hh ∈ ws) ∧
  (Cond.codeWith y bytes maxL ret hh).before args s = true ∧ (Cond.initialized y.cls).before args s = true ∧ (y.cls ≠ "java/lang/invoke/MethodHandle" ∧ y.cls ≠ "java/lang/invoke/VarHandle") ∧
  (∀ sig, parseMethodDescriptor y.desc = some sig → n = sig.parameters.length) ∧ (Cond.methodLink own index y).before args s = true ∧ (Cond.static y).before args s = true
theorem vx_cwSW {own : String} {index maxL mc ms : Nat} {y : MethodName} {bytes : ByteArray} {ret : Option FieldType} {hh : List (Nat × Nat × Nat × Nat)} {Ts ws ws' : List Cond} {rm : Room} (n : Nat) (ht : ∀ w ∈ Ts, w.before args s = true) (hT : GoodIn Ts (va_wsS own index y ws)) (hw : ws = Cond.codeWith y bytes maxL ret hh :: ws') (hrc : rm.cells = mc) (hrs : rm.slots = ms)
    (hd : y.cls ≠ "java/lang/invoke/MethodHandle" ∧ y.cls ≠ "java/lang/invoke/VarHandle" ∧ (parseMethodDescriptor y.desc).map (fun d => d.parameters.length) = some n) (hR : rm.frames + 1 ≤ R.frames ∧ 8 + (maxL + 11) + rm.locals ≤ R.locals) :
    vx_CSW R s args own index y bytes maxL ret hh ws rm mc ms n := by
  have ok : ∀ w ∈ va_wsS own index y ws, w.before args s = true := fun w h => ht w (hT w h).1
  have hG : GoodIn Ts ws := fun w h => hT w (by unfold va_wsS; exact List.mem_append_right _ h)
  have hc : Cond.codeWith y bytes maxL ret hh ∈ ws := by rw [hw]; exact List.mem_cons_self
  refine ⟨⟨hrc, hrs, hR.1, hR.2, pay_in ht hG, hc⟩, ht _ (hG _ hc).1, ok _ (by simp [va_wsS]), ⟨hd.1, hd.2.1⟩, fun sig h => ?_, ok _ (by simp [va_wsS]), ok _ (by simp [va_wsS])⟩
  have h2 := hd.2.2
  rw [h] at h2
  exact (Option.some.inj h2).symm
theorem vx_callSW (X : Stand p l e R s m args below meth c T locs cells slots) (hexec : p.tables.exec = Jvm.exec) {own : String} {index : Nat} {y : MethodName} {bytes : ByteArray} {maxL : Nat} {ret : Option FieldType} {hh : List (Nat × Nat × Nat × Nat)}
    (hown : s.vm.findClass own = some m.cls) (hlink : (Cond.methodLink own index y).before args s = true) (hstat : (Cond.static y).before args s = true) (hinit : (Cond.initialized y.cls).before args s = true)
    (hcode : (Cond.codeWith y bytes maxL ret hh).before args s = true) (hy : y.cls ≠ "java/lang/invoke/MethodHandle" ∧ y.cls ≠ "java/lang/invoke/VarHandle")
    {W9 : Nat} {Pre : Pt → Array Value → Prop} {Post : Pt → Array Value → Option Value → Pt → Prop} (hK : Back l R p e below s args y 3 W9 Pre Post)
    {g : JFrame} (hg : g.method = m) (hsize : g.locals.size = c.maxLocals) {argsL rest : List Value} (hlen : ∀ sig, parseMethodDescriptor y.desc = some sig → argsL.length = sig.parameters.length)
    (hstack : g.stack = argsL.reverse ++ rest) (hW : 2 * g.monitorRoom + (rest.map fun v => v.category).sum ≤ W9) (hdg : decode c.code g.pc = .ok (.invokestatic index, 3))
    (hpre : ∀ vm₁, s.WarmedH vm₁ → Pre ⟨T.setVm vm₁, locs, cells, slots⟩ argsL.toArray) :
    ∃ (v : Option Value) (vm₁ : Vm) (B : Pt), s.WarmedH vm₁ ∧ Stand p l e R s m args below meth c B.U B.locs B.cells B.slots ∧ Post ⟨T.setVm vm₁, locs, cells, slots⟩ argsL.toArray v B ∧
      ∀ target, Steps p.tables e below (B.U.setTop { g with pc := g.pc + 3, stack := v.toList ++ rest }) target → Steps p.tables e below (T.setTop g) target := by
  obtain ⟨mk, methM, cM, hnamed, hmethM, -, -, -, -, -, -, hsigM⟩ := Cond.codeWith_spec hcode
  have hstatic : methM.isStatic = true := Cond.static_spec hnamed hmethM hstat
  obtain ⟨kP, hkP, -⟩ := className_of_methodNamed hnamed
  have hinitP : kP.init = .initialized := Cond.initialized_spec (findClass_of_methodNamed hnamed) hkP hinit
  obtain ⟨vm₁, X₁, hstep₁⟩ := X.invokestatic hexec hown hlink hnamed hmethM hstatic hkP hinitP hy (g := g) hg (argsL := argsL) (rest := rest) (hlen _ hsigM) hstack hdg
  obtain ⟨v, B, X', hpost, hsteps⟩ := hK m meth c ⟨T.setVm vm₁, locs, cells, slots⟩ { g with stack := rest } (.invokestatic index) mk argsL.toArray X₁ hg hsize hdg hW (X₁.named hnamed) (hpre vm₁ X₁.warmed)
  exact ⟨v, vm₁, B, X₁.warmed, X', hpost, fun target h => hstep₁ _ fun acts => by rw [doInvoke_state]; exact hsteps.trans h⟩
theorem vx_runSW {y : MethodName} {bytes cc : ByteArray} {maxL nL mc ms n index : Nat} {ret : Option FieldType} {hh : List (Nat × Nat × Nat × Nat)} {ws : List Cond} {rm : Room} {Pc : Array Value → State → Prop} {Qc : Array Value → State → Outcome → State → Prop} {free : Addr → Prop} {Ts : List Cond} {own : String} {As rest : List Value} {g : JFrame}
    (S : CallFix p m c cc nL s args Ts own) (hM : Met l y ws rm Pc Qc mc ms free) (cw : vx_CSW R s args own index y bytes maxL ret hh ws rm mc ms n) (hp : PreS s H Pc As)
    (hg : g.method = m) (hn : As.length = n) (hsize : g.locals.size = nL) (hstack : g.stack = As.reverse ++ rest) (hW : 2 * g.monitorRoom + (rest.map fun v => v.category).sum ≤ 8) (hdg : decode cc g.pc = .ok (.invokestatic index, 3)) (hf : cells + mc ≤ R.cells ∧ slots + ms ≤ R.slots) :
    va_Run p l e R s m args below meth c H locs cells slots mc ms g rest (Qc As.toArray) (free) := by
  obtain ⟨⟨hrc, hrs, hfr, hlo, hws, hcw⟩, hcode, hini, hy, hlen, hl, hstt⟩ := cw
  have hK : Back l R p e below s args y 3 8 (PreOf R mc ms Pc) (PostOf Qc mc ms free) := va_backW (hh := hh) (bytes := bytes) (maxL := maxL) (ret := ret) hM hp.1 hrc hrs hfr hlo hws hcw (fun a' U hW => word_at hW (Or.inl (by first | rfl | simp [Cond.onTables, Cond.keeps, Cond.steady])) hini)
  obtain ⟨hx, hb, hml, ho, -⟩ := S
  intro T hT X
  obtain ⟨v, vm₁, ⟨U', l2, c2, s2⟩, hW₁, X', ⟨g', mk, t, L, e1, e2, hq, h1, hL, h2, h3⟩, st⟩ := vx_callSW X hx (hh := hh) (bytes := bytes) (maxL := maxL) (ret := ret) ho hl hstt hini hcode hy hK hg (hsize.trans hml.symm) (argsL := As) (rest := rest) (fun sig h => hn.trans (hlen sig h)) hstack hW (by rw [hb]; exact hdg)
    (fun vm₁ hW₁ => ⟨hf.1, hf.2, hp.2 (T.setVm vm₁) hT hW₁⟩)
  dsimp only [Pt.U, Pt.locs, Pt.cells, Pt.slots] at X' e1 e2 h1 h2 h3 st
  subst h1; subst h2; subst h3
  exact ⟨v, (T.setVm vm₁).calling g' mk As.toArray, t, U', L, hT, X', hL, e1, e2, hq, st⟩
/-- not caught here, past rows that name other classes: it goes on to the caller -/
theorem vx_outP {p : Program} {l : Launch} {e : Env} {R : Room} {s : State} {m : MethodId} {args : Array Value} {below : List Frame} {meth : Method} {c : Code} {H : Heap} {locs : List Loc} {cells slots : Nat} {free : Addr → Prop} {ls : Array Slot} {rest : List Value} {Qc : Array Value → State → Outcome → State → Prop} {XC : String → State → State → Prop}
    {pc : Nat} {own E : String} {ce : Cell} {q : Addr} {mc ms : Nat} (hown : s.vm.findClass own = some m.cls) (hlocks : meth.locks = false)
    (hpass : ∀ z ∈ c.exceptionTable.toList, covers z pc = false ∨ (z.catchType ≠ 0 ∧ ∃ nm : String, (Cond.classLink own z.catchType nm).before args s = true ∧ va_Nc E nm s)) (hcell : H[q]? = some ce) (hv : ce.vm = .none) (hcl : s.vm.findClass E = some ce.cls)
    (hx : ∀ t : State, t.heap = H → s.vm.Alike t.vm → XC E s t) (hf : ∀ z ∈ locs, free z.base) (hc : cells ≤ mc) (hs : slots ≤ ms) :
    vx_W p l e R s m args below meth c H locs cells slots (vx_MQ below Qc XC args s mc ms free) (F0 m pc ls rest) q := by
  intro T hT X
  have hpl : e.platform.magicAccessors = ({} : Platform).magicAccessors := by rw [X.admits.platform]
  obtain ⟨vm', hW', X', st⟩ := X.outThrough hlocks q (g := F0 m pc ls rest) rfl rfl rfl (cell := ce) (by rw [hT]; exact hcell) (by rw [hv]; rfl)
    (by obtain ⟨k9, h9, -⟩ := Vm.findClass_spec hcl; exact ⟨k9, h9⟩) (fun z hz => by
      rcases hpass z hz with h | ⟨hz0, nm, hl1, hn1⟩
      · exact Or.inl h
      · obtain ⟨c6, hc6, hcl6⟩ := Cond.classLink_spec hown hl1 e.platform hpl
        obtain ⟨a8, b8, h1, h2, h3⟩ := hn1
        cases Option.some.inj (h1.symm.trans hcl)
        cases Option.some.inj (h2.symm.trans hc6)
        exact Or.inr ⟨hz0, _, hcl6, h3⟩)
  obtain ⟨g₀, hfr⟩ := X'.frames_eq
  have hcell9 : ((T.setVm vm').setFrames (.throwing q :: below)).heap[q]? = some ce := by
    show T.heap[q]? = some ce
    rw [hT]; exact hcell
  have hend : Ended ((T.setVm vm').setFrames (.throwing q :: below)) below (.threw q) := State.frames_setFrames _ (State.cur_lt_of_frames hfr)
  refine ⟨(T.setVm vm').setFrames (.throwing q :: below), ?_, .threw q, X'.here.running, hend, Or.inr ⟨q, rfl, E, ce, locs, hx _ hT (X'.ends _).1.alike, hcell9, hv, hcl, (X'.ends _).1, (X'.ends _).2.mono hc hs, hf⟩⟩
  rw [X.pushThrowing_eq]
  exact st
/-- a thing of a world lies in the heap -/
theorem vx_lt {D : va_G} {cl : List vw_C} {ws : va_W} {H1 : Heap} (h : va_P D cl ws H1) {k : Nat} {q : Nat × va_E} (hk : ws[k]? = some q) : q.1 < H1.size := (h k q hk).lt
end VXS
/-! ===== END ===== -/
/-! ===== BEGIN methods with a table of their own: called by a name, returning or throwing ===== -/
section VXH
/-! vx_backW, vx_callVX, vx_callSX, vx_callVW, vx_runVW, vx_runVX, vx_runSX, vx_ofWH follow the same proofs as their sisters above (Free/Laws.lean, Shelf42/LK1.lean); vx_outP calls Shelf42/NT130.lean (outThrough). -/
section
variable {l : Launch} {R : Room} {p : Program} {e : Env} {below : List Frame} {s : State} {sargs : Array Value} {y : MethodName} {len W9 : Nat}
theorem vx_backW {ws : List Cond} {rm : Room} {Pc : Array Value → State → Prop} {Qc : Array Value → State → Outcome → State → Prop} {XC : String → State → State → Prop} {mc ms : Nat} {free : Addr → Prop} {bytes : ByteArray} {maxL : Nat} {ret : Option FieldType} {hh : List (Nat × Nat × Nat × Nat)}
    (hM : vx_Met l y ws rm Pc Qc XC mc ms free) (hblind : FrameBlind Pc) (hrc : rm.cells = mc) (hrs : rm.slots = ms)
    (hframes : rm.frames + 1 ≤ R.frames) (hlocals : W9 + (maxL + 11) + rm.locals ≤ R.locals)
    (hws : ∀ w ∈ ws, ∀ a' U, s.WarmedH U.vm → w.before a' U = true) (hcode : Cond.codeWith y bytes maxL ret hh ∈ ws) (hinit : ∀ a' U, s.WarmedH U.vm → (Cond.initialized y.cls).before a' U = true) :
    vx_Back l R p e below s sargs y len W9 (PreOf R mc ms Pc) (PostOf Qc mc ms free) (vx_Post XC mc ms free) := by
  intro m meth c A g ig mk a X hg hsize hdg hW hn hp
  have h1 : (headSpec ws rm).pre.before a A.U = true := atoms_intro fun w hw => hws w hw _ _ X.warmed
  have h2 : (Cond.codeWith y bytes maxL ret hh).before a A.U = true := hws _ hcode _ _ X.warmed
  have h3 : (Cond.initialized y.cls).before a A.U = true := hinit _ _ X.warmed
  have h4 : A.cells + (headSpec ws rm).room.cells ≤ R.cells := by rw [show (headSpec ws rm).room.cells = mc from hrc]; exact hp.1
  have h5 : A.slots + (headSpec ws rm).room.slots ≤ R.slots := by rw [show (headSpec ws rm).room.slots = ms from hrs]; exact hp.2.1
  have hPc : Pc a (A.U.calling g mk a) := hblind _ _ _ _ hp.2.2
  obtain ⟨U, Ls, c0, s0⟩ := A
  dsimp only [Pt.U, Pt.locs, Pt.cells, Pt.slots] at h1 h2 h3 h4 h5 X hn hPc ⊢
  obtain ⟨m9, methY, cY, hn9, hmY, hcY, -, hlY, -⟩ := Cond.codeWith_spec h2
  cases Option.some.inj (hn9.symm.trans hn)
  obtain ⟨kY, hkY, -⟩ := className_of_methodNamed hn
  have hinitY : kY.init = .initialized := Cond.initialized_spec (findClass_of_methodNamed hn) hkY h3
  have h : At U g.method c below := by rw [hg]; exact X.here
  have hlocals9 : W9 + (maxL + 11) + (headSpec ws rm).room.locals ≤ R.locals := hlocals
  have happ : (headSpec ws rm).appliesLoose y e.platform (U.calling g mk a) = true :=
    Spec.appliesLoose_calling (g := g) h hdg hn hkY hinitY
      (X.room_calling (g := g) (R' := (headSpec ws rm).room) hsize hmY hcY hframes (by rw [hlY]; omega) h4 h5) h1
  obtain ⟨mid, hmid⟩ := h.above
  have hfr : (U.setTop g).frames = (.java g :: mid) ++ below := by rw [State.frames_setTop' g h.top, hmid]; rfl
  obtain ⟨o, s₂, hsteps, -, hend, hq⟩ := Steps.callFree hM p X.admits X.cas X.clock (acts := []) hfr happ hPc trivial
  have hq' : vx_Q Qc XC mc ms free a (U.calling g mk a) o s₂ := hq
  rw [State.frames_setTop' g h.top] at hend
  obtain ⟨g₀, hg0⟩ := Option.isSome_iff_exists.mp h.top
  obtain ⟨r, hr⟩ := State.topJava?_eq_some.mp hg0
  have hr' : (({ U with heap := s₂.heap, slotsUsed := s₂.slotsUsed } : State).setVm s₂.vm).frames = .java g₀ :: r := hr
  rcases hq' with ⟨hqc, L, hfe, hL⟩ | ⟨q, rfl, E, ce, L, hx, hce, hcv, hcl, hW₂, hsm, hL⟩
  · obtain ⟨⟨v, rfl⟩, hW₂, e2, q2, q3, q4, q5, q6⟩ := id hfe
    have e3 : s₂ = ({ (U.calling g mk a).setFrames s₂.frames with heap := s₂.heap, slotsUsed := s₂.slotsUsed } : State).setVm s₂.vm := by
      have : s₂ = ({ s₂ with vm := (U.calling g mk a).vm } : State).setVm s₂.vm := rfl
      rw [e2] at this
      exact this
    obtain ⟨c₂, i₂, len₂, hc₂, hd₂, hf₂⟩ := hend
    have hW' : U.WarmedH s₂.vm := hW₂
    have hcc : c₂ = c := by
      have h1 : s₂.code? g.method = U.code? g.method := by
        rw [State.code?_eq, State.code?_eq, hW'.alike.method?]
      exact Option.some.inj (hc₂.symm.trans (h1.trans h.code))
    subst hcc
    have hlen : len₂ = len := by rw [hdg] at hd₂; cases hd₂; rfl
    subst hlen
    have hs₂ : s₂ = (({ U with heap := s₂.heap, slotsUsed := s₂.slotsUsed } : State).setVm s₂.vm).setTop { g with pc := g.pc + len₂, stack := v.toList ++ g.stack } := by
      refine e3.trans ?_
      rw [hf₂, State.calling_eq h.top, State.setFrames_setFrames, State.setTop_of_frames _ hr', hr]
      rfl
    have hsame : U.sameButNew ({ U with heap := s₂.heap, slotsUsed := s₂.slotsUsed } : State) L mc ms := by
      refine ⟨?_, q2, q3, q4, q5, q6⟩
      obtain ⟨t, ht, -⟩ := State.frames_cons hr
      show ({ U with heap := s₂.heap, slotsUsed := s₂.slotsUsed } : State) = { U.setFrames U.frames with heap := s₂.heap, slotsUsed := s₂.slotsUsed }
      rw [State.setFrames_self ht]
    subst hg
    refine Or.inl ⟨v, ⟨(({ U with heap := s₂.heap, slotsUsed := s₂.slotsUsed } : State).setVm s₂.vm), Ls ++ L, c0 + mc, s0 + ms⟩,
      ⟨X.admits, X.cas, X.clock, X.frames, X.room, X.hears, X.method, X.code, (X.here.setHeapUsed s₂.heap s₂.slotsUsed).setVm hW'.alike, X.tail, State.WarmedH.trans X.warmed hW', X.limits, X.bytes, X.same.trans (hsame.setVm s.vm)⟩,
      ⟨g, mk, s₂, L, rfl, rfl, hqc, rfl, hL, rfl, rfl⟩, ?_⟩
    show Steps p.tables e below _ ((({ U with heap := s₂.heap, slotsUsed := s₂.slotsUsed } : State).setVm s₂.vm).setTop { g with pc := g.pc + len₂, stack := v.toList ++ g.stack })
    rw [← hs₂]
    exact hsteps
  · obtain ⟨e2, q2, q3, q4, q5, q6⟩ := id hsm
    have e3 : s₂ = ({ (U.calling g mk a).setFrames s₂.frames with heap := s₂.heap, slotsUsed := s₂.slotsUsed } : State).setVm s₂.vm := by
      have : s₂ = ({ s₂ with vm := (U.calling g mk a).vm } : State).setVm s₂.vm := rfl
      rw [e2] at this
      exact this
    have hf₂ : s₂.frames = .throwing q :: .java g :: U.frames.tail := hend
    have hW' : U.WarmedH s₂.vm := hW₂
    have hs₂ : s₂ = ((({ U with heap := s₂.heap, slotsUsed := s₂.slotsUsed } : State).setVm s₂.vm).setTop g).pushFrame (.throwing q) := by
      refine e3.trans ?_
      rw [hf₂, State.calling_eq h.top, State.setFrames_setFrames, State.pushFrame, State.frames_setTop _ hr', State.setTop_of_frames _ hr', State.setFrames_setFrames, hr]
      rfl
    have hsame : U.sameButNew ({ U with heap := s₂.heap, slotsUsed := s₂.slotsUsed } : State) L mc ms := by
      refine ⟨?_, q2, q3, q4, q5, q6⟩
      obtain ⟨t, ht, -⟩ := State.frames_cons hr
      show ({ U with heap := s₂.heap, slotsUsed := s₂.slotsUsed } : State) = { U.setFrames U.frames with heap := s₂.heap, slotsUsed := s₂.slotsUsed }
      rw [State.setFrames_self ht]
    subst hg
    refine Or.inr ⟨q, ⟨(({ U with heap := s₂.heap, slotsUsed := s₂.slotsUsed } : State).setVm s₂.vm), Ls ++ L, c0 + mc, s0 + ms⟩,
      ⟨X.admits, X.cas, X.clock, X.frames, X.room, X.hears, X.method, X.code, (X.here.setHeapUsed s₂.heap s₂.slotsUsed).setVm hW'.alike, X.tail, State.WarmedH.trans X.warmed hW', X.limits, X.bytes, X.same.trans (hsame.setVm s.vm)⟩,
      ⟨g, mk, s₂, L, E, ce, rfl, rfl, hx, hce, hcv, hcl, rfl, hL, rfl, rfl⟩, ?_⟩
    show Steps p.tables e below _ (((({ U with heap := s₂.heap, slotsUsed := s₂.slotsUsed } : State).setVm s₂.vm).setTop g).pushFrame (.throwing q))
    rw [← hs₂]
    exact hsteps
end
variable {p : Program} {l : Launch} {e : Env} {R : Room} {s : State} {m : MethodId} {args : Array Value} {below : List Frame} {meth : Method} {c : Code} {T : State} {H : Heap} {locs : List Loc} {cells slots : Nat}
theorem vx_callVX (X : Stand p l e R s m args below meth c T locs cells slots) (hexec : p.tables.exec = Jvm.exec) {own C : String} {index : Nat} {y : MethodName} {bytes : ByteArray} {maxL : Nat} {ret : Option FieldType} {hh : List (Nat × Nat × Nat × Nat)}
    (hown : s.vm.findClass own = some m.cls) (hlink : (Cond.methodLink own index y).before args s = true) (hinst : (Cond.instanceMethod y).before args s = true) (hsel : (Cond.selects C y y).before args s = true)
    (hcode : (Cond.codeWith y bytes maxL ret hh).before args s = true) (hy : y.cls ≠ "java/lang/invoke/MethodHandle" ∧ y.cls ≠ "java/lang/invoke/VarHandle")
    {W9 : Nat} {Pre : Pt → Array Value → Prop} {Post : Pt → Array Value → Option Value → Pt → Prop} {PostX : Pt → Array Value → Addr → Pt → Prop} (hK : vx_Back l R p e below s args y 3 W9 Pre Post PostX)
    {b : Addr} {cellB : Cell} (hcell : T.heap[b]? = some cellB) (hobj : cellB.vm.isStatics = false) (hcls : s.vm.findClass C = some cellB.cls)
    {g : JFrame} (hg : g.method = m) (hsize : g.locals.size = c.maxLocals) {argsL rest : List Value} (hlen : ∀ sig, parseMethodDescriptor y.desc = some sig → argsL.length = sig.parameters.length)
    (hstack : g.stack = argsL.reverse ++ .ref b :: rest) (hW : 2 * g.monitorRoom + (rest.map fun v => v.category).sum ≤ W9) (hdg : decode c.code g.pc = .ok (.invokevirtual index, 3))
    (hpre : ∀ vm₁, s.WarmedH vm₁ → Pre ⟨T.setVm vm₁, locs, cells, slots⟩ (Value.ref b :: argsL).toArray) :
    (∃ (v : Option Value) (vm₁ : Vm) (B : Pt), s.WarmedH vm₁ ∧ Stand p l e R s m args below meth c B.U B.locs B.cells B.slots ∧ Post ⟨T.setVm vm₁, locs, cells, slots⟩ (Value.ref b :: argsL).toArray v B ∧
      ∀ target, Steps p.tables e below (B.U.setTop { g with pc := g.pc + 3, stack := v.toList ++ rest }) target → Steps p.tables e below (T.setTop g) target) ∨
    (∃ (q : Addr) (vm₁ : Vm) (B : Pt), s.WarmedH vm₁ ∧ Stand p l e R s m args below meth c B.U B.locs B.cells B.slots ∧ PostX ⟨T.setVm vm₁, locs, cells, slots⟩ (Value.ref b :: argsL).toArray q B ∧
      Steps p.tables e below (T.setTop g) ((B.U.setTop { g with stack := rest }).pushFrame (.throwing q))) := by
  obtain ⟨mk, methM, hnamed, hmethM, hstM, habM⟩ := Cond.instanceMethod_spec hinst
  obtain ⟨m8, methM', cM, hn8, hmethM', -, -, -, -, -, -, hsigM⟩ := Cond.codeWith_spec hcode
  cases Option.some.inj (hn8.symm.trans hnamed)
  cases hmethM.symm.trans hmethM'
  obtain ⟨c2, r2, m2, q1, q2, q3, q4, kP, hkP, hkPi⟩ := Cond.selects_spec hsel
  cases hcls.symm.trans q1
  cases (State.methodFound?_of_named hnamed hy).symm.trans q2
  cases hnamed.symm.trans q3
  have hselP : selectMethod e.platform s.vm cellB.cls mk = .method mk := by rw [Launch.admits_selectMethod X.admits]; exact q4
  obtain ⟨vm₁, X₁, hstep₁⟩ := X.invokevirtual hexec hown hlink hnamed hmethM hstM hkP hkPi hy (a := b) (cell := cellB) hcell
    (fun z h => by rw [h] at hobj; cases hobj) hselP hmethM habM hkP hkPi (g := g) hg (argsL := argsL) (rest := rest) (hlen _ hsigM) hstack hdg
  rcases hK m meth c ⟨T.setVm vm₁, locs, cells, slots⟩ { g with stack := rest } (.invokevirtual index) mk (Value.ref b :: argsL).toArray X₁ hg hsize hdg hW (X₁.named hnamed) (hpre vm₁ X₁.warmed) with ⟨v, B, X', hpost, hsteps⟩ | ⟨q, B, X', hpost, hsteps⟩
  · exact Or.inl ⟨v, vm₁, B, X₁.warmed, X', hpost, fun target h => hstep₁ _ fun acts => by rw [doInvoke_state]; exact hsteps.trans h⟩
  · exact Or.inr ⟨q, vm₁, B, X₁.warmed, X', hpost, hstep₁ _ fun acts => by rw [doInvoke_state]; exact hsteps⟩
theorem vx_callSX (X : Stand p l e R s m args below meth c T locs cells slots) (hexec : p.tables.exec = Jvm.exec) {own : String} {index : Nat} {y : MethodName} {bytes : ByteArray} {maxL : Nat} {ret : Option FieldType} {hh : List (Nat × Nat × Nat × Nat)}
    (hown : s.vm.findClass own = some m.cls) (hlink : (Cond.methodLink own index y).before args s = true) (hstat : (Cond.static y).before args s = true) (hinit : (Cond.initialized y.cls).before args s = true)
    (hcode : (Cond.codeWith y bytes maxL ret hh).before args s = true) (hy : y.cls ≠ "java/lang/invoke/MethodHandle" ∧ y.cls ≠ "java/lang/invoke/VarHandle")
    {W9 : Nat} {Pre : Pt → Array Value → Prop} {Post : Pt → Array Value → Option Value → Pt → Prop} {PostX : Pt → Array Value → Addr → Pt → Prop} (hK : vx_Back l R p e below s args y 3 W9 Pre Post PostX)
    {g : JFrame} (hg : g.method = m) (hsize : g.locals.size = c.maxLocals) {argsL rest : List Value} (hlen : ∀ sig, parseMethodDescriptor y.desc = some sig → argsL.length = sig.parameters.length)
    (hstack : g.stack = argsL.reverse ++ rest) (hW : 2 * g.monitorRoom + (rest.map fun v => v.category).sum ≤ W9) (hdg : decode c.code g.pc = .ok (.invokestatic index, 3))
    (hpre : ∀ vm₁, s.WarmedH vm₁ → Pre ⟨T.setVm vm₁, locs, cells, slots⟩ argsL.toArray) :
    (∃ (v : Option Value) (vm₁ : Vm) (B : Pt), s.WarmedH vm₁ ∧ Stand p l e R s m args below meth c B.U B.locs B.cells B.slots ∧ Post ⟨T.setVm vm₁, locs, cells, slots⟩ argsL.toArray v B ∧
      ∀ target, Steps p.tables e below (B.U.setTop { g with pc := g.pc + 3, stack := v.toList ++ rest }) target → Steps p.tables e below (T.setTop g) target) ∨
    (∃ (q : Addr) (vm₁ : Vm) (B : Pt), s.WarmedH vm₁ ∧ Stand p l e R s m args below meth c B.U B.locs B.cells B.slots ∧ PostX ⟨T.setVm vm₁, locs, cells, slots⟩ argsL.toArray q B ∧
      Steps p.tables e below (T.setTop g) ((B.U.setTop { g with stack := rest }).pushFrame (.throwing q))) := by
  obtain ⟨mk, methM, cM, hnamed, hmethM, -, -, -, -, -, -, hsigM⟩ := Cond.codeWith_spec hcode
  have hstatic : methM.isStatic = true := Cond.static_spec hnamed hmethM hstat
  obtain ⟨kP, hkP, -⟩ := className_of_methodNamed hnamed
  have hinitP : kP.init = .initialized := Cond.initialized_spec (findClass_of_methodNamed hnamed) hkP hinit
  obtain ⟨vm₁, X₁, hstep₁⟩ := X.invokestatic hexec hown hlink hnamed hmethM hstatic hkP hinitP hy (g := g) hg (argsL := argsL) (rest := rest) (hlen _ hsigM) hstack hdg
  rcases hK m meth c ⟨T.setVm vm₁, locs, cells, slots⟩ { g with stack := rest } (.invokestatic index) mk argsL.toArray X₁ hg hsize hdg hW (X₁.named hnamed) (hpre vm₁ X₁.warmed) with ⟨v, B, X', hpost, hsteps⟩ | ⟨q, B, X', hpost, hsteps⟩
  · exact Or.inl ⟨v, vm₁, B, X₁.warmed, X', hpost, fun target h => hstep₁ _ fun acts => by rw [doInvoke_state]; exact hsteps.trans h⟩
  · exact Or.inr ⟨q, vm₁, B, X₁.warmed, X', hpost, hstep₁ _ fun acts => by rw [doInvoke_state]; exact hsteps⟩
theorem vx_callVW (X : Stand p l e R s m args below meth c T locs cells slots) (hexec : p.tables.exec = Jvm.exec) {own C : String} {index : Nat} {y : MethodName} {bytes : ByteArray} {maxL : Nat} {ret : Option FieldType} {hh : List (Nat × Nat × Nat × Nat)}
    (hown : s.vm.findClass own = some m.cls) (hlink : (Cond.methodLink own index y).before args s = true) (hinst : (Cond.instanceMethod y).before args s = true) (hsel : (Cond.selects C y y).before args s = true)
    (hcode : (Cond.codeWith y bytes maxL ret hh).before args s = true) (hy : y.cls ≠ "java/lang/invoke/MethodHandle" ∧ y.cls ≠ "java/lang/invoke/VarHandle")
    {W9 : Nat} {Pre : Pt → Array Value → Prop} {Post : Pt → Array Value → Option Value → Pt → Prop} (hK : Back l R p e below s args y 3 W9 Pre Post)
    {b : Addr} {cellB : Cell} (hcell : T.heap[b]? = some cellB) (hobj : cellB.vm.isStatics = false) (hcls : s.vm.findClass C = some cellB.cls)
    {g : JFrame} (hg : g.method = m) (hsize : g.locals.size = c.maxLocals) {argsL rest : List Value} (hlen : ∀ sig, parseMethodDescriptor y.desc = some sig → argsL.length = sig.parameters.length)
    (hstack : g.stack = argsL.reverse ++ .ref b :: rest) (hW : 2 * g.monitorRoom + (rest.map fun v => v.category).sum ≤ W9) (hdg : decode c.code g.pc = .ok (.invokevirtual index, 3))
    (hpre : ∀ vm₁, s.WarmedH vm₁ → Pre ⟨T.setVm vm₁, locs, cells, slots⟩ (Value.ref b :: argsL).toArray) :
    ∃ (v : Option Value) (vm₁ : Vm) (B : Pt), s.WarmedH vm₁ ∧ Stand p l e R s m args below meth c B.U B.locs B.cells B.slots ∧ Post ⟨T.setVm vm₁, locs, cells, slots⟩ (Value.ref b :: argsL).toArray v B ∧
      ∀ target, Steps p.tables e below (B.U.setTop { g with pc := g.pc + 3, stack := v.toList ++ rest }) target → Steps p.tables e below (T.setTop g) target := by
  obtain ⟨mk, methM, hnamed, hmethM, hstM, habM⟩ := Cond.instanceMethod_spec hinst
  obtain ⟨m8, methM', cM, hn8, hmethM', -, -, -, -, -, -, hsigM⟩ := Cond.codeWith_spec hcode
  cases Option.some.inj (hn8.symm.trans hnamed)
  cases hmethM.symm.trans hmethM'
  obtain ⟨c2, r2, m2, q1, q2, q3, q4, kP, hkP, hkPi⟩ := Cond.selects_spec hsel
  cases hcls.symm.trans q1
  cases (State.methodFound?_of_named hnamed hy).symm.trans q2
  cases hnamed.symm.trans q3
  have hselP : selectMethod e.platform s.vm cellB.cls mk = .method mk := by rw [Launch.admits_selectMethod X.admits]; exact q4
  obtain ⟨vm₁, X₁, hstep₁⟩ := X.invokevirtual hexec hown hlink hnamed hmethM hstM hkP hkPi hy (a := b) (cell := cellB) hcell
    (fun z h => by rw [h] at hobj; cases hobj) hselP hmethM habM hkP hkPi (g := g) hg (argsL := argsL) (rest := rest) (hlen _ hsigM) hstack hdg
  obtain ⟨v, B, X', hpost, hsteps⟩ := hK m meth c ⟨T.setVm vm₁, locs, cells, slots⟩ { g with stack := rest } (.invokevirtual index) mk (Value.ref b :: argsL).toArray X₁ hg hsize hdg hW (X₁.named hnamed) (hpre vm₁ X₁.warmed)
  exact ⟨v, vm₁, B, X₁.warmed, X', hpost, fun target h => hstep₁ _ fun acts => by rw [doInvoke_state]; exact hsteps.trans h⟩
abbrev vx_CVW (R : Room) (s : State) (args : Array Value) (own C : String) (index : Nat) (y : MethodName) (bytes : ByteArray) (maxL : Nat) (ret : Option FieldType) (hh : List (Nat × Nat × Nat × Nat)) (ws : List Cond) (rm : Room) (mc ms n : Nat) : Prop :=
  (rm.cells = mc ∧ rm.slots = ms ∧ rm.frames + 1 ≤ R.frames ∧ 8 + (maxL + 11) + rm.locals ≤ R.locals ∧ (∀ w ∈ ws, ∀ (a' : Array Value) (U : State), s.WarmedH U.vm → w.before a' U = true) ∧ Cond.codeWith y bytes maxL ret hh ∈ ws) ∧
  (Cond.codeWith y bytes maxL ret hh).before args s = true ∧ (Cond.initialized y.cls).before args s = true ∧ (y.cls ≠ "java/lang/invoke/MethodHandle" ∧ y.cls ≠ "java/lang/invoke/VarHandle") ∧
  (∀ sig, parseMethodDescriptor y.desc = some sig → n = sig.parameters.length) ∧ (Cond.methodLink own index y).before args s = true ∧ (Cond.instanceMethod y).before args s = true ∧ (Cond.selects C y y).before args s = true
theorem vx_cwVW {own C : String} {index maxL mc ms : Nat} {y : MethodName} {bytes : ByteArray} {ret : Option FieldType} {hh : List (Nat × Nat × Nat × Nat)} {Ts ws ws' : List Cond} {rm : Room} (n : Nat) (ht : ∀ w ∈ Ts, w.before args s = true) (hT : GoodIn Ts (wsV own index C y ws)) (hw : ws = Cond.codeWith y bytes maxL ret hh :: ws') (hrc : rm.cells = mc) (hrs : rm.slots = ms)
    (hd : y.cls = C ∧ y.cls ≠ "java/lang/invoke/MethodHandle" ∧ y.cls ≠ "java/lang/invoke/VarHandle" ∧ (parseMethodDescriptor y.desc).map (fun d => d.parameters.length) = some n) (hR : rm.frames + 1 ≤ R.frames ∧ 8 + (maxL + 11) + rm.locals ≤ R.locals) :
    vx_CVW R s args own C index y bytes maxL ret hh ws rm mc ms n := by
  obtain ⟨hC, hd⟩ := hd
  subst hC
  have ok : ∀ w ∈ wsV own index y.cls y ws, w.before args s = true := fun w h => ht w (hT w h).1
  have hG : GoodIn Ts ws := fun w h => hT w (by unfold wsV; exact List.mem_append_right _ h)
  have hc : Cond.codeWith y bytes maxL ret hh ∈ ws := by rw [hw]; exact List.mem_cons_self
  refine ⟨⟨hrc, hrs, hR.1, hR.2, pay_in ht hG, hc⟩, ht _ (hG _ hc).1, ok _ (by simp [wsV]), ⟨hd.1, hd.2.1⟩, fun sig h => ?_, ok _ (by simp [wsV]), ok _ (by simp [wsV]), ok _ (by simp [wsV])⟩
  have h2 := hd.2.2
  rw [h] at h2
  exact (Option.some.inj h2).symm
theorem vx_runVW {y : MethodName} {bytes cc : ByteArray} {maxL nL mc ms n index : Nat} {ret : Option FieldType} {hh : List (Nat × Nat × Nat × Nat)} {ws : List Cond} {rm : Room} {Pc : Array Value → State → Prop} {Qc : Array Value → State → Outcome → State → Prop} {free : Addr → Prop} {Ts : List Cond} {own C : String} {b : Addr} {As rest : List Value} {g : JFrame}
    (S : CallFix p m c cc nL s args Ts own) (hM : Met l y ws rm Pc Qc mc ms free) (cw : vx_CVW R s args own C index y bytes maxL ret hh ws rm mc ms n) (hp : PreV s H C b Pc As)
    (hg : g.method = m) (hn : As.length = n) (hsize : g.locals.size = nL) (hstack : g.stack = As.reverse ++ .ref b :: rest) (hW : 2 * g.monitorRoom + (rest.map fun v => v.category).sum ≤ 8) (hdg : decode cc g.pc = .ok (.invokevirtual index, 3)) (hf : cells + mc ≤ R.cells ∧ slots + ms ≤ R.slots) :
    va_Run p l e R s m args below meth c H locs cells slots mc ms g rest (Qc (Value.ref b :: As).toArray) free := by
  obtain ⟨⟨hrc, hrs, hfr, hlo, hws, hcw⟩, hcode, hini, hy, hlen, hl, hin, hse⟩ := cw
  have hK : Back l R p e below s args y 3 8 (PreOf R mc ms Pc) (PostOf Qc mc ms free) := va_backW (hh := hh) (bytes := bytes) (maxL := maxL) (ret := ret) hM hp.1 hrc hrs hfr hlo hws hcw (fun a' U hW => word_at hW (Or.inl (by first | rfl | simp [Cond.onTables, Cond.keeps, Cond.steady])) hini)
  obtain ⟨hx, hb, hml, ho, -⟩ := S
  obtain ⟨-, ⟨cellB, hcB, hoB, hclB⟩, hPc⟩ := hp
  intro T hT X
  obtain ⟨v, vm₁, ⟨U', l2, c2, s2⟩, hW₁, X', ⟨g', mk, t, L, e1, e2, hq, h1, hL, h2, h3⟩, st⟩ := vx_callVW X hx (C := C) (hh := hh) (bytes := bytes) (maxL := maxL) (ret := ret) ho hl hin hse hcode hy hK (by rw [hT]; exact hcB) hoB hclB hg (hsize.trans hml.symm) (argsL := As) (rest := rest) (fun sig h => hn.trans (hlen sig h)) hstack hW (by rw [hb]; exact hdg)
    (fun vm₁ hW₁ => ⟨hf.1, hf.2, hPc (T.setVm vm₁) hT hW₁⟩)
  dsimp only [Pt.U, Pt.locs, Pt.cells, Pt.slots] at X' e1 e2 h1 h2 h3 st
  subst h1; subst h2; subst h3
  exact ⟨v, (T.setVm vm₁).calling g' mk (Value.ref b :: As).toArray, t, U', L, hT, X', hL, e1, e2, hq, st⟩
section
variable {y : MethodName} {bytes cc : ByteArray} {maxL nL mc ms n index : Nat} {ret : Option FieldType} {ws : List Cond} {rm : Room} {Pc : Array Value → State → Prop} {Qc : Array Value → State → Outcome → State → Prop} {XC : String → State → State → Prop} {free : Addr → Prop} {Ts : List Cond} {own C : String} {b : Addr} {As rest : List Value} {g : JFrame}
theorem vx_runVX {hh : List (Nat × Nat × Nat × Nat)} (S : CallFix p m c cc nL s args Ts own) (hM : vx_Met l y ws rm Pc Qc XC mc ms free) (cw : vx_CVW R s args own C index y bytes maxL ret hh ws rm mc ms n) (hp : PreV s H C b Pc As)
    (hg : g.method = m) (hn : As.length = n) (hsize : g.locals.size = nL) (hstack : g.stack = As.reverse ++ .ref b :: rest) (hW : 2 * g.monitorRoom + (rest.map fun v => v.category).sum ≤ 8) (hdg : decode cc g.pc = .ok (.invokevirtual index, 3)) (hf : cells + mc ≤ R.cells ∧ slots + ms ≤ R.slots) :
    vx_Run p l e R s m args below meth c H locs cells slots mc ms g rest (Qc (Value.ref b :: As).toArray) XC free := by
  obtain ⟨⟨hrc, hrs, hfr, hlo, hws, hcw⟩, hcode, hini, hy, hlen, hl, hin, hse⟩ := cw
  have hK : vx_Back l R p e below s args y 3 8 (PreOf R mc ms Pc) (PostOf Qc mc ms free) (vx_Post XC mc ms free) := vx_backW (hh := hh) (bytes := bytes) (maxL := maxL) (ret := ret) hM hp.1 hrc hrs hfr hlo hws hcw (fun a' U hW => word_at hW (Or.inl (by first | rfl | simp [Cond.onTables, Cond.keeps, Cond.steady])) hini)
  obtain ⟨hx, hb, hml, ho, -⟩ := S
  obtain ⟨-, ⟨cellB, hcB, hoB, hclB⟩, hPc⟩ := hp
  intro T hT X
  rcases vx_callVX X hx (C := C) (hh := hh) (bytes := bytes) (maxL := maxL) (ret := ret) ho hl hin hse hcode hy hK (by rw [hT]; exact hcB) hoB hclB hg (hsize.trans hml.symm) (argsL := As) (rest := rest) (fun sig h => hn.trans (hlen sig h)) hstack hW (by rw [hb]; exact hdg)
    (fun vm₁ hW₁ => ⟨hf.1, hf.2, hPc (T.setVm vm₁) hT hW₁⟩) with ⟨v, vm₁, ⟨U', l2, c2, s2⟩, hW₁, X', ⟨g', mk, t, L, e1, e2, hq, h1, hL, h2, h3⟩, st⟩ | ⟨q, vm₁, ⟨U', l2, c2, s2⟩, hW₁, X', ⟨g', mk, t, L, E, ce, e1, e2, hq, hce, hcv, hcl, h1, hL, h2, h3⟩, st⟩
  · dsimp only [Pt.U, Pt.locs, Pt.cells, Pt.slots] at X' e1 e2 h1 h2 h3 st
    subst h1; subst h2; subst h3
    exact Or.inl ⟨v, (T.setVm vm₁).calling g' mk (Value.ref b :: As).toArray, t, U', L, hT, X', hL, e1, e2, hq, st⟩
  · dsimp only [Pt.U, Pt.locs, Pt.cells, Pt.slots] at X' e1 e2 h1 h2 h3 st hcl
    subst h1; subst h2; subst h3
    exact Or.inr ⟨q, (T.setVm vm₁).calling g' mk (Value.ref b :: As).toArray, t, U', L, E, ce, hT, X', hL, e1, e2, hq, hce, hcv, vx_cls hW₁ hcl, st⟩
theorem vx_runSX {hh : List (Nat × Nat × Nat × Nat)} (S : CallFix p m c cc nL s args Ts own) (hM : vx_Met l y ws rm Pc Qc XC mc ms free) (cw : vx_CSW R s args own index y bytes maxL ret hh ws rm mc ms n) (hp : PreS s H Pc As)
    (hg : g.method = m) (hn : As.length = n) (hsize : g.locals.size = nL) (hstack : g.stack = As.reverse ++ rest) (hW : 2 * g.monitorRoom + (rest.map fun v => v.category).sum ≤ 8) (hdg : decode cc g.pc = .ok (.invokestatic index, 3)) (hf : cells + mc ≤ R.cells ∧ slots + ms ≤ R.slots) :
    vx_Run p l e R s m args below meth c H locs cells slots mc ms g rest (Qc As.toArray) XC free := by
  obtain ⟨⟨hrc, hrs, hfr, hlo, hws, hcw⟩, hcode, hini, hy, hlen, hl, hstt⟩ := cw
  have hK : vx_Back l R p e below s args y 3 8 (PreOf R mc ms Pc) (PostOf Qc mc ms free) (vx_Post XC mc ms free) := vx_backW (hh := hh) (bytes := bytes) (maxL := maxL) (ret := ret) hM hp.1 hrc hrs hfr hlo hws hcw (fun a' U hW => word_at hW (Or.inl (by first | rfl | simp [Cond.onTables, Cond.keeps, Cond.steady])) hini)
  obtain ⟨hx, hb, hml, ho, -⟩ := S
  intro T hT X
  rcases vx_callSX X hx (hh := hh) (bytes := bytes) (maxL := maxL) (ret := ret) ho hl hstt hini hcode hy hK hg (hsize.trans hml.symm) (argsL := As) (rest := rest) (fun sig h => hn.trans (hlen sig h)) hstack hW (by rw [hb]; exact hdg)
    (fun vm₁ hW₁ => ⟨hf.1, hf.2, hp.2 (T.setVm vm₁) hT hW₁⟩) with ⟨v, vm₁, ⟨U', l2, c2, s2⟩, hW₁, X', ⟨g', mk, t, L, e1, e2, hq, h1, hL, h2, h3⟩, st⟩ | ⟨q, vm₁, ⟨U', l2, c2, s2⟩, hW₁, X', ⟨g', mk, t, L, E, ce, e1, e2, hq, hce, hcv, hcl, h1, hL, h2, h3⟩, st⟩
  · dsimp only [Pt.U, Pt.locs, Pt.cells, Pt.slots] at X' e1 e2 h1 h2 h3 st
    subst h1; subst h2; subst h3
    exact Or.inl ⟨v, (T.setVm vm₁).calling g' mk As.toArray, t, U', L, hT, X', hL, e1, e2, hq, st⟩
  · dsimp only [Pt.U, Pt.locs, Pt.cells, Pt.slots] at X' e1 e2 h1 h2 h3 st hcl
    subst h1; subst h2; subst h3
    exact Or.inr ⟨q, (T.setVm vm₁).calling g' mk As.toArray, t, U', L, E, ce, hT, X', hL, e1, e2, hq, hce, hcv, vx_cls hW₁ hcl, st⟩
end
end VXH
theorem vx_ofWH {l : Launch} {y : MethodName} {ws ws' : List Cond} {rm : Room} {Pc : Array Value → State → Prop} {Qc : Array Value → State → Outcome → State → Prop} {XC : String → State → State → Prop} {mc ms : Nat} {free : Addr → Prop} {cc : ByteArray} {maxL : Nat} {ret : Option FieldType} {hh : List (Nat × Nat × Nat × Nat)}
    (hy : plainName y.cls = true) (hw : ws = Cond.codeWith y cc maxL ret hh :: ws')
    (body : ∀ p e s m args below meth c s₁, BodyLoose p l y (headSpec ws rm) cc maxL ret e s m args below meth c s₁ → c.maxLocals = maxL → Pc args s →
      W p l e (headSpec ws rm).room s m args below meth c s.heap [] 0 0 (vx_MQ below Qc XC args s mc ms free) (entryFrame m args maxL)) : vx_Met l y ws rm Pc Qc XC mc ms free := by
  refine MetFree.of_bodyS (code := cc) (maxLocals := maxL) (ret := ret) hy ?_ ?_
  · intro args s m h hn
    obtain ⟨m9, meth, c, hn9, h1, h2, h3, h4, -, h5, h6, -⟩ := Cond.codeWith_spec (atoms_spec (ws := ws) h _ (by rw [hw]; exact List.mem_cons_self))
    cases hn.symm.trans hn9
    exact ⟨meth, c, h1, h2, h3, h4, h5, h6⟩
  · intro p e s m args below meth c s₁ B hml hP _
    have hh0 : s₁.heap = s.heap := by rw [B.state]; rfl
    obtain ⟨t, a1, o, b1, b2, b3⟩ := body p e s m args below meth c s₁ B hml hP s₁ hh0 (Stand.of_body B)
    exact ⟨t, o, a1, b1, b2, b3⟩
/-! ===== END ===== -/
/-! ===== BEGIN what the machine throws by itself, no traces kept ===== -/
section VXM
set_option maxHeartbeats 1000000 in
/-- the machine throws cls with the message text, no traces kept: from its note over the frame g to 'throwing' over the same frame (follows the proofs of Stand.vmThrowsMessage, Shelf/KitTracedVmS.lean, and Stand.throwsMessageColdBareV, StandMessageColdV.lean, without the step out of the frame) -/
theorem vx_vmAt {p : Program} {l : Launch} {e : Env} {R : Room} {s : State} {m₀ : MethodId} {args : Array Value} {below : List Frame} {meth : Method} {c : Code} {W : State} {locs : List Loc} {cells slots : Nat}
    (X : Stand p l e R s m₀ args below meth c W locs cells slots) (hexec : p.tables.exec = Jvm.exec) (htr : e.platform.stackTraces = false) {cls : String} {names : List String} {text : String}
    (hcls : Bundle.fit cls = true) (hnames : ∀ n ∈ names, Bundle.fit n = true) (hsoe : (cls == "java/lang/StackOverflowError") = false) (hoom : (cls == "java/lang/OutOfMemoryError") = false)
    (h : ∀ a ∈ Bundle.messageArmAtoms cls names, a.before args s = true)
    (hlocs : ∀ x ∈ locs, ∀ cell, s.heap[x.base]? = some cell → cell.vm.isStatics = false)
    (htext : (text == notModelled) = false) (hlimit : ¬ (stringBytes (stringToUtf16 text)).size > e.platform.arrayLengthLimit) (hheap : ¬ (stringBytes (stringToUtf16 text)).size * componentBytes .byte > e.platform.maxHeapBytes)
    {g : JFrame} (hg : g.method = m₀) (hsize : g.locals.size = c.maxLocals)
    (hRframes : names.length + 4 < R.frames) (hRlocals : 2 * g.monitorRoom + (g.stack.map fun v => v.category).sum + 10240 ≤ R.locals) (hshort : 13 * names.length + 55 ≤ 10240)
    (hRcells : cells + 3 ≤ R.cells) (hRslots : slots + ((stringBytes (stringToUtf16 text)).size + 4 + 6) ≤ R.slots) (hlocks : meth.locks = false) :
    ∃ (S : State) (q : Addr) (ce : Cell), (∀ target, Steps p.tables e below ((S.setTop g).pushFrame (.throwing q)) target → Steps p.tables e below ((W.setTop g).pushFrame (.throwNew cls (some text) none)) target) ∧
      Stand p l e R s m₀ args below meth c S locs (cells + 3) (slots + ((stringBytes (stringToUtf16 text)).size + 4 + 6)) ∧ S.heap[q]? = some ce ∧ s.vm.findClass cls = some ce.cls ∧ ce.vm = .none := by
  have howns : e.platform.frameOwnsMonitors = true := by rw [X.admits.platform]
  have hfin : e.platform.finalization = false := by rw [X.admits.platform]
  have hpl : e.platform.magicAccessors = ({} : Platform).magicAccessors := by rw [X.admits.platform]
  have a : ∀ x, x ∈ Bundle.messageArmAtoms cls names → x.holds args s none s [] = true := fun x hx => h x hx
  obtain ⟨T, Z0, L, -, Y⟩ := ThrowableC.of_atoms (args := args) howns hfin hpl (fun x hx => h x (by simp [Bundle.messageArmAtoms, hx]))
  obtain ⟨Z, M, LZ, LM, hnZ⟩ := Init0T.ofS_atoms (args := args) hpl L Y (fun x hx => h x (by simp [Bundle.messageArmAtoms, hx]))
  obtain ⟨P1, Ps, hlen, L1, hL, hP1m, hlink1, hlink⟩ := Bundle.chainS (args := args) hpl hnZ names cls hcls hnames (fun x hx => h x (by simp [Bundle.messageArmAtoms, hx]))
  obtain ⟨Zs, LZs, hn4, hfitv, hfitc⟩ := StringT.of_atoms (args := args) (fun x hx => h x (by simp [Bundle.messageArmAtoms, hx]))
  have hfound : s.vm.findClass cls = some P1.m.cls := findClass_of_methodNamed hP1m
  obtain ⟨c1, kX, hc1, hk, hord, -, -, hn6⟩ := Cond.instantiable_spec (a (.instantiable cls 6) (by simp [Bundle.messageArmAtoms]))
  cases Option.some.inj (hc1.symm.trans hfound)
  have hinit := Cond.initialized_spec hfound hk (a (.initialized cls) (by simp [Bundle.messageArmAtoms]))
  have hctor : kX.findMethod "<init>" "(Ljava/lang/String;)V" = some P1.m.idx := findMethod_of_methodNamed hP1m hk
  have hsel0 : selectMethod e.platform s.vm P1.m.cls T.fill0 = .method T.fill0 := by
    obtain ⟨c2, r2, m2, q1, q2, q3, q4, -⟩ := Cond.selects_spec (a (.selects cls Bundle.tFill0 Bundle.tFill0) (by simp [Bundle.messageArmAtoms]))
    cases Option.some.inj (q1.symm.trans hfound)
    cases Option.some.inj (q2.symm.trans (State.methodFound?_of_named Y.fill0 (by decide)))
    cases Option.some.inj (q3.symm.trans Y.fill0)
    rw [Launch.admits_selectMethod X.admits]; exact q4
  have hselF : selectMethod e.platform s.vm P1.m.cls T.fill = .method T.fill := by
    obtain ⟨c2, r2, m2, q1, q2, q3, q4, -⟩ := Cond.selects_spec (a (.selects cls Bundle.tFill Bundle.tFill) (by simp [Bundle.messageArmAtoms]))
    cases Option.some.inj (q1.symm.trans hfound)
    cases Option.some.inj (q2.symm.trans (State.methodFound?_of_named Y.fill (by decide)))
    cases Option.some.inj (q3.symm.trans Y.fill)
    rw [Launch.admits_selectMethod X.admits]; exact q4
  obtain ⟨cellS0, hcS0, hiss⟩ := Y.statics
  obtain ⟨u0, hu0⟩ := Cond.staticRefV Y.unassigned L.unassignedStatic L.statics hcS0 hiss (a (.isRef (.static Bundle.tN "UNASSIGNED_STACK" Bundle.steD)) (by simp [Bundle.messageArmAtoms]))
  obtain ⟨sen, hsen⟩ := Cond.staticRefV Y.sentinel L.sentinelStatic L.statics hcS0 hiss (a (.isRef (.static Bundle.tN "SUPPRESSED_SENTINEL" Bundle.listD)) (by simp [Bundle.messageArmAtoms]))
  obtain ⟨ci198, i198, fB, hk198, hg198, ha198, hsB, -, hnB, htB, hffB⟩ := Cond.ownField (t := .object "java/lang/Object") Y.found L.cls (by decide +kernel) (a (.fieldLink Bundle.tN 198 Bundle.tN "backtrace" "Ljava/lang/Object;") (by simp [Bundle.messageArmAtoms])) (a (.lays Bundle.tN Bundle.tN "backtrace" "Ljava/lang/Object;") (by simp [Bundle.messageArmAtoms])) e.platform hpl
  obtain ⟨cellS, hcS', heS, -, hkeep⟩ := X.same.2.2.2.2.2 T.aS cellS0 hcS0
  have hcellS : W.heap[T.aS]? = some cellS := hcS'
  have hout' : ∀ i, (⟨T.aS, i⟩ : Loc) ∉ locs := fun i hmem => by
    have := hlocs _ hmem cellS0 hcS0
    rw [hiss] at this; cases this
  have hknownS : cellS.vm ≠ .unknown := by
    rw [heS]; intro hu
    rw [show cellS0.vm = .unknown from hu] at hiss
    cases hiss
  have hvU : cellS.slots[T.fUnassigned.slot]? = some u0.v := by rw [hkeep _ (hout' _)]; exact hu0
  have hvSen : cellS.slots[T.fSentinel.slot]? = some sen.v := by rw [hkeep _ (hout' _)]; exact hsen
  obtain ⟨iM, hffM⟩ := Y.msg
  obtain ⟨tyC, dC, hdC, hdnC⟩ := Cond.laysAt hfound hk Y.cause (a (.lays cls Bundle.tN "cause" "Ljava/lang/Throwable;") (by simp [Bundle.messageArmAtoms]))
  obtain ⟨tyS, dS, hdS, hdnS⟩ := Cond.laysAt hfound hk Y.stack (a (.lays cls Bundle.tN "stackTrace" Bundle.steD) (by simp [Bundle.messageArmAtoms]))
  obtain ⟨tyP, dP, hdP, hdnP⟩ := Cond.laysAt hfound hk Y.supp (a (.lays cls Bundle.tN "suppressedExceptions" Bundle.listD) (by simp [Bundle.messageArmAtoms]))
  obtain ⟨tyM, dM, hdM, hdnM⟩ := Cond.laysAt hfound hk hffM (a (.lays cls Bundle.tN "detailMessage" "Ljava/lang/String;") (by simp [Bundle.messageArmAtoms]))
  obtain ⟨tyB, dB, hdB, hdnB⟩ := Cond.laysAt hfound hk hffB (a (.lays cls Bundle.tN "backtrace" "Ljava/lang/Object;") (by simp [Bundle.messageArmAtoms]))
  have bC := Cond.laysApart hdB hdC hdnB hdnC (by rw [hnB, Y.causeName]; decide)
  have bS := Cond.laysApart hdB hdS hdnB hdnS (by rw [hnB, Y.stackName]; decide)
  have bP := Cond.laysApart hdB hdP hdnB hdnP (by rw [hnB, Y.suppName]; decide)
  have hbk : ((preparedCellV T.toThrowableT (freshCell P1.m.cls kX) (W.heap.size + 2) u0 sen).withEntry W.cur).slots[fB.slot]? = some .null := by
    have := fresh_default (c := P1.m.cls) tyB
    rw [htB] at this
    simpa [preparedCellV, Cell.setSlot, Cell.withEntry, Array.getElem?_setIfInBounds, bC, bS, bP, bC.symm, bS.symm, bP.symm, defaultValue] using this
  have tkC := Takes.of_laid (v := .ref (W.heap.size + 2)) hk hord tyC (by rw [Y.causeType]; rfl)
  have tkS := Takes.of_laid (v := u0.v) hk hord tyS (by rw [Y.stackType]; exact fits_refV_array _ u0)
  have tkP := Takes.of_laid (v := sen.v) hk hord tyP (by rw [Y.suppType]; exact fits_refV_object _ sen)
  have tkM := Takes.of_laid (v := .ref (W.heap.size + 1)) hk hord tyM (by rw [Y.msgType]; rfl)
  have hskip : SkipFacts T e.platform s (fun u => u) u0 ((preparedCellV T.toThrowableT (freshCell P1.m.cls kX) (W.heap.size + 2) u0 sen).withEntry W.cur) := ⟨{ ci198 := ci198, i198 := i198, fBack := fB }, ⟨hk198, hg198, ha198, hsB⟩, hbk, fun _ _ => rfl⟩
  have h0 : At W g.method c below := by rw [hg]; exact X.here
  obtain ⟨hbeyond, hfreeW⟩ := X.vmMayThrow hsize (.throwNew cls (some text) none) (fun f hf => by cases hf) rfl hRlocals
  have hfr' : W.frames.length + Ps.length + 4 < (e.platform.stackLimits W.me).1 := by have := X.framesAbove hRframes; omega
  have hwd' : (stackUse (.java g :: W.frames.tail)).2 + 13 * Ps.length + 55 ≤ (e.platform.stackLimits W.me).2 := by have := X.stackAbove hsize (K := 13 * Ps.length + 55) (by omega); omega
  have hslots : W.slotsUsed + (stringBytes (stringToUtf16 text)).size + Zs.kS.instanceTypes.size + kX.instanceTypes.size ≤ e.platform.maxSlots := by
    have := X.slotsAbove hRslots
    rw [hn4, hn6]
    omega
  obtain ⟨vm', hW', st⟩ := Steps.vmThrowsMessageColdByV p (s₀ := s) (S := W) (g := g) h0 hexec T L Z LZ M LM X.warmed (t := W.cur) rfl Zs LZs P1 L1 Ps hL hlink1 hlink hsoe hoom hfound hk hinit hord hctor
    (Launch.admits_hotImplicitExceptions X.admits) hbeyond hfreeW htext hlimit hheap (X.cellsAbove hRcells) hslots (hfitv _) (hfitc _)
    (Nn := fun u => u) heapOnly_id (fun _ _ => rfl) (fun _ => rfl) (fun u x y => setCell_twice _ _ _ _) (fun _ => Nat.le_refl _) (cN := ((preparedCellV T.toThrowableT (freshCell P1.m.cls kX) (W.heap.size + 2) u0 sen).withEntry W.cur))
    hsel0 hcellS hknownS hvU tkS (fun _ hu => hu) (fun _ hu => hu) rfl rfl rfl (by simp [preparedCellV, Cell.setSlot, Cell.withEntry]) hskip (fun _ _ hA hW _ hroom _ hrest => L.nativeOff p htr hA hW hroom hrest) hselF hvSen tkC tkP tkM Y.objLocals rfl hfr' hwd'
  rw [plainBareV_eq T.toThrowableT (W.heap.size + 2) u0 sen (.ref (W.heap.size + 1)) W.cur rfl rfl] at st
  obtain ⟨-, -, w3, w4, -, -, -⟩ := withThrown_facts e.platform W Zs text P1.m.cls kX
  have X3 := ((X.pushed (bytesOf Zs.cB (stringToUtf16 text))).pushed (stringAt Zs.cS Zs.kS Zs.fv Zs.fc (stringToUtf16 text) W.heap.size)).pushed (freshCell P1.m.cls kX)
  rw [← withString_eq] at X3
  have X4 := X3.noted hW'
  have ha : (W.heap.size + 2) < ((withThrown W Zs text P1.m.cls kX).setVm vm').heap.size := by show _ < (withThrown W Zs text P1.m.cls kX).heap.size; rw [w3]; omega
  have hcell : ((withThrown W Zs text P1.m.cls kX).setVm vm').heap[(W.heap.size + 2)]? = some (freshCell P1.m.cls kX) := w4
  have X5 := ((((X4.stored hcell T.fCause.slot (.ref (W.heap.size + 2))).storedAgain ha T.fStack.slot u0.v).storedAgain ha T.fSupp.slot sen.v).storedAgain ha T.fStack.slot u0.v).storedAgain ha T.fMsg.slot (.ref (W.heap.size + 1))
  obtain ⟨g₁, hfrM⟩ := X5.frames_eq
  have hU : ((((withThrown W Zs text P1.m.cls kX).setVm vm').setCell (W.heap.size + 2) (plainBareV T.toThrowableT (freshCell P1.m.cls kX) (W.heap.size + 2) u0 sen (.ref (W.heap.size + 1)))).setTop g).pushFrame (.throwing (W.heap.size + 2)) = (((withThrown W Zs text P1.m.cls kX).setVm vm').setCell (W.heap.size + 2) (plainBareV T.toThrowableT (freshCell P1.m.cls kX) (W.heap.size + 2) u0 sen (.ref (W.heap.size + 1)))).setFrames (.throwing (W.heap.size + 2) :: .java g :: below) := by
    rw [State.pushFrame, State.frames_setTop _ hfrM, State.setTop_of_frames _ hfrM, State.setFrames_setFrames]
  have b1 : (bytesOf Zs.cB (stringToUtf16 text)).slots.size = (stringBytes (stringToUtf16 text)).size := by
    rw [(Cell.writeAll_facts _ _).2.2]; simp [bytes0]
  have b2 : (stringAt Zs.cS Zs.kS Zs.fv Zs.fc (stringToUtf16 text) W.heap.size).slots.size = 4 := by simp [string0, Cell.setSlot, hn4]
  have b3 : (freshCell P1.m.cls kX).slots.size = 6 := by simp [hn6]
  rw [b1, b2, b3] at X5
  have e9 : slots + (stringBytes (stringToUtf16 text)).size + 4 + 6 = slots + ((stringBytes (stringToUtf16 text)).size + 4 + 6) := by omega
  rw [e9] at X5
  simp only [List.append_assoc, List.cons_append, List.nil_append] at X5
  refine ⟨((withThrown W Zs text P1.m.cls kX).setVm vm').setCell (W.heap.size + 2) (plainBareV T.toThrowableT (freshCell P1.m.cls kX) (W.heap.size + 2) u0 sen (.ref (W.heap.size + 1))), W.heap.size + 2, _, fun target ht => st _ (by rw [X.tail, ← hU]; exact ht),
    X5.forget (fun y hy => ?_), heapAt_setCell_self _ ha, hfound, rfl⟩
  simp only [List.mem_cons, List.not_mem_nil, or_false] at hy
  have hge : s.heap.size ≤ W.heap.size := X.same.2.1
  rcases hy with rfl | rfl | rfl | rfl | rfl <;> exact Nat.le_trans hge (Nat.le_add_right _ 2)
set_option maxHeartbeats 1000000 in
/-- the machine throws NullPointerException, no traces kept: from its note over the frame g to 'throwing' over the same frame (follows the proof of Stand.vmThrowsNpe, Shelf42/KT2.lean; throwsNpeColdBareVAt, Shelf42/NT91.lean, called) -/
theorem vx_npeAt {p : Program} {l : Launch} {e : Env} {R : Room} {s : State} {m₀ : MethodId} {args : Array Value} {below : List Frame} {meth : Method} {c : Code} {W : State} {locs : List Loc} {cells slots : Nat}
    (X : Stand p l e R s m₀ args below meth c W locs cells slots) (hexec : p.tables.exec = Jvm.exec) (htr : e.platform.stackTraces = false) {n : Nat}
    (h : ∀ a ∈ Bundle.npeArmAtoms n, a.before args s = true)
    (hlocs : ∀ x ∈ locs, ∀ cell, s.heap[x.base]? = some cell → cell.vm.isStatics = false)
    {g : JFrame} (hg : g.method = m₀) (hsize : g.locals.size = c.maxLocals)
    (hRframes : 7 < R.frames) (hRlocals : 2 * g.monitorRoom + (g.stack.map fun v => v.category).sum + 10240 ≤ R.locals)
    (hRcells : cells + 1 ≤ R.cells) (hRslots : slots + n ≤ R.slots) (hlocks : meth.locks = false) :
    ∃ (S : State) (q : Addr) (ce : Cell), (∀ target, Steps p.tables e below ((S.setTop g).pushFrame (.throwing q)) target → Steps p.tables e below ((W.setTop g).pushFrame (.throwNew "java/lang/NullPointerException" none none)) target) ∧
      Stand p l e R s m₀ args below meth c S locs (cells + 1) (slots + n) ∧ S.heap[q]? = some ce ∧ s.vm.findClass "java/lang/NullPointerException" = some ce.cls ∧ ce.vm = .none := by
  have howns : e.platform.frameOwnsMonitors = true := by rw [X.admits.platform]
  have hfin : e.platform.finalization = false := by rw [X.admits.platform]
  have hpl : e.platform.magicAccessors = ({} : Platform).magicAccessors := by rw [X.admits.platform]
  have hpl2 : e.platform.arrayCloneIsPublic = true := by rw [X.admits.platform]
  have a' : ∀ x, x ∈ Bundle.npeArmAtoms n → x.holds args s none s [] = true := fun x hx => h x hx
  obtain ⟨T, Z, L, LZ, Y⟩ := ThrowableC.of_atoms (args := args) howns hfin hpl (fun x hx => h x (by simp [Bundle.npeArmAtoms, hx]))
  obtain ⟨N, LN, hcN, hnNF, hordN, hffS⟩ := NpeC.of_atoms (args := args) hpl hpl2 L Y (fun x hx => h x (by simp [Bundle.npeArmAtoms, hx]))
  obtain ⟨P1, L1, hP1m, hP1s⟩ := PassC.of_atoms (args := args) (s := s) hpl (X := Bundle.nN) (Y := Bundle.rN) (by decide) (by decide) LibCode.NullPointerException.Init0.at_0 LibCode.NullPointerException.Init0.at_1 LibCode.NullPointerException.Init0.at_4 (fun x hx => h x (by simp [Bundle.npeArmAtoms, hx]))
  obtain ⟨PR, LR, hPRm, hPRs⟩ := PassC.of_atoms (args := args) (s := s) hpl (X := Bundle.rN) (Y := Bundle.eN) (by decide) (by decide) LibCode.RuntimeException.Init0.at_0 LibCode.RuntimeException.Init0.at_1 LibCode.RuntimeException.Init0.at_4 (fun x hx => h x (by simp [Bundle.npeArmAtoms, hx]))
  obtain ⟨PE, LEx, hPEm, hPEs⟩ := PassC.of_atoms (args := args) (s := s) hpl (X := Bundle.eN) (Y := Bundle.tN) (by decide) (by decide) LibCode.Exception.Init0.at_0 LibCode.Exception.Init0.at_1 LibCode.Exception.Init0.at_4 (fun x hx => h x (by simp [Bundle.npeArmAtoms, hx]))
  have hfound : s.vm.findClass Bundle.nN = some P1.m.cls := findClass_of_methodNamed hP1m
  have ecls : N.cN = P1.m.cls := Option.some.inj (hcN.symm.trans hfound)
  have hk : s.vm.classes[P1.m.cls]? = some N.kN := by rw [← ecls]; exact LN.cls
  have hinit := Cond.initialized_spec hfound hk (a' (.initialized Bundle.nN) (by simp [Bundle.npeArmAtoms]))
  have hctor : N.kN.findMethod "<init>" "()V" = some P1.m.idx := findMethod_of_methodNamed hP1m hk
  obtain ⟨c1, k1, hc1, hk1, -, -, -, hn⟩ := Cond.instantiable_spec (a' (.instantiable Bundle.nN n) (by simp [Bundle.npeArmAtoms]))
  cases Option.some.inj (hc1.symm.trans hfound)
  cases Option.some.inj (hk1.symm.trans hk)
  have hfsz : (freshCell P1.m.cls N.kN).slots.size = n := by simp [hn]
  have hlink1 : P1.sup = PR.m := Option.some.inj (hP1s.symm.trans hPRm)
  have hlinkR : PR.sup = PE.m := Option.some.inj (hPRs.symm.trans hPEm)
  have hlinkE : PE.sup = Z.m T.toThrowableT := Option.some.inj (hPEs.symm.trans Y.init0)
  have hLs : ∀ P, P ∈ [PR, PE] → P.Links0 e.platform s := fun P hP => by
    simp only [List.mem_cons, List.not_mem_nil, or_false] at hP
    rcases hP with rfl | rfl
    · exact LR
    · exact LEx
  have hsel0 : selectMethod e.platform s.vm P1.m.cls T.fill0 = .method T.fill0 := by
    obtain ⟨c2, r2, m2, q1, q2, q3, q4, -⟩ := Cond.selects_spec (a' (.selects Bundle.nN Bundle.tFill0 Bundle.tFill0) (by simp [Bundle.npeArmAtoms]))
    cases Option.some.inj (q1.symm.trans hfound)
    cases Option.some.inj (q2.symm.trans (State.methodFound?_of_named Y.fill0 (by decide)))
    cases Option.some.inj (q3.symm.trans Y.fill0)
    rw [Launch.admits_selectMethod X.admits]; exact q4
  have hselF : selectMethod e.platform s.vm P1.m.cls T.fill = .method N.fill := by
    obtain ⟨c2, r2, m2, q1, q2, q3, q4, -⟩ := Cond.selects_spec (a' (.selects Bundle.nN Bundle.tFill Bundle.nFill) (by simp [Bundle.npeArmAtoms]))
    cases Option.some.inj (q1.symm.trans hfound)
    cases Option.some.inj (q2.symm.trans (State.methodFound?_of_named Y.fill (by decide)))
    cases Option.some.inj (q3.symm.trans hnNF)
    rw [Launch.admits_selectMethod X.admits]; exact q4
  obtain ⟨cellS0, hcS0, hiss⟩ := Y.statics
  obtain ⟨u0, hu0⟩ := Cond.staticRefV Y.unassigned L.unassignedStatic L.statics hcS0 hiss (a' (.isRef (.static Bundle.tN "UNASSIGNED_STACK" Bundle.steD)) (by simp [Bundle.npeArmAtoms]))
  obtain ⟨sen, hsen⟩ := Cond.staticRefV Y.sentinel L.sentinelStatic L.statics hcS0 hiss (a' (.isRef (.static Bundle.tN "SUPPRESSED_SENTINEL" Bundle.listD)) (by simp [Bundle.npeArmAtoms]))
  obtain ⟨ci198, i198, fB, hk198, hg198, ha198, hsB, -, hnB, htB, hffB⟩ := Cond.ownField (t := .object "java/lang/Object") Y.found L.cls (by decide +kernel) (a' (.fieldLink Bundle.tN 198 Bundle.tN "backtrace" Bundle.objD) (by simp [Bundle.npeArmAtoms])) (a' (.lays Bundle.tN Bundle.tN "backtrace" Bundle.objD) (by simp [Bundle.npeArmAtoms])) e.platform hpl
  obtain ⟨cellS, hcS', heS, -, hkeep⟩ := X.same.2.2.2.2.2 T.aS cellS0 hcS0
  have hcellS : W.heap[T.aS]? = some cellS := hcS'
  have hout' : ∀ i, (⟨T.aS, i⟩ : Loc) ∉ locs := fun i hmem => by
    have := hlocs _ hmem cellS0 hcS0
    rw [hiss] at this; cases this
  have hknownS : cellS.vm ≠ .unknown := by
    rw [heS]; intro hu
    rw [show cellS0.vm = .unknown from hu] at hiss
    cases hiss
  have hvU : cellS.slots[T.fUnassigned.slot]? = some u0.v := by rw [hkeep _ (hout' _)]; exact hu0
  have hvSen : cellS.slots[T.fSentinel.slot]? = some sen.v := by rw [hkeep _ (hout' _)]; exact hsen
  obtain ⟨tyC, dC, hdC, hdnC⟩ := Cond.laysAt hfound hk Y.cause (a' (.lays Bundle.nN Bundle.tN "cause" "Ljava/lang/Throwable;") (by simp [Bundle.npeArmAtoms]))
  obtain ⟨tyS, dS, hdS, hdnS⟩ := Cond.laysAt hfound hk Y.stack (a' (.lays Bundle.nN Bundle.tN "stackTrace" Bundle.steD) (by simp [Bundle.npeArmAtoms]))
  obtain ⟨tyP, dP, hdP, hdnP⟩ := Cond.laysAt hfound hk Y.supp (a' (.lays Bundle.nN Bundle.tN "suppressedExceptions" Bundle.listD) (by simp [Bundle.npeArmAtoms]))
  obtain ⟨tyX, dX, hdX, hdnX⟩ := Cond.laysAt hfound hk hffS (a' (.lays Bundle.nN Bundle.nN "extendedMessageState" "I") (by simp [Bundle.npeArmAtoms, Bundle.npeAtoms]))
  obtain ⟨hnX, htX⟩ := State.fieldFound?_type hffS (t := .int) (by decide +kernel)
  have xC := Cond.laysApart hdC hdX hdnC hdnX (by rw [hnX, Y.causeName]; decide)
  have xS := Cond.laysApart hdS hdX hdnS hdnX (by rw [hnX, Y.stackName]; decide)
  have xP := Cond.laysApart hdP hdX hdnP hdnX (by rw [hnX, Y.suppName]; decide)
  have hv0 : (freshCell P1.m.cls N.kN).slots[N.fState.slot]? = some (.int 0) := by
    have := fresh_default (c := P1.m.cls) tyX
    rw [htX] at this; exact this
  obtain ⟨tyB, dB, hdB, hdnB⟩ := Cond.laysAt hfound hk hffB (a' (.lays Bundle.nN Bundle.tN "backtrace" Bundle.objD) (by simp [Bundle.npeArmAtoms]))
  have bC := Cond.laysApart hdB hdC hdnB hdnC (by rw [hnB, Y.causeName]; decide)
  have bS := Cond.laysApart hdB hdS hdnB hdnS (by rw [hnB, Y.stackName]; decide)
  have bP := Cond.laysApart hdB hdP hdnB hdnP (by rw [hnB, Y.suppName]; decide)
  have bX := Cond.laysApart hdB hdX hdnB hdnX (by rw [hnB, hnX]; decide)
  have hbk : ((npeCell N.toNpeT (preparedCellV T.toThrowableT (freshCell P1.m.cls N.kN) W.heap.size u0 sen) W.cur).withEntry W.cur).slots[fB.slot]? = some .null := by
    have := fresh_default (c := P1.m.cls) tyB
    rw [htB] at this
    simpa [npeCell, preparedCellV, Cell.setSlot, Cell.withEntry, Array.getElem?_setIfInBounds, bC, bS, bP, bX, bC.symm, bS.symm, bP.symm, bX.symm, defaultValue] using this
  have tkC := Takes.of_laid (v := .ref W.heap.size) hk hordN tyC (by rw [Y.causeType]; rfl)
  have tkS := Takes.of_laid (v := u0.v) hk hordN tyS (by rw [Y.stackType]; exact fits_refV_array _ u0)
  have tkP := Takes.of_laid (v := sen.v) hk hordN tyP (by rw [Y.suppType]; exact fits_refV_object _ sen)
  have tkX := Takes.of_laid (v := .int 1) hk hordN tyX (by rw [htX]; rfl)
  have hskip : SkipFacts T e.platform s (fun u => u) u0 ((npeCell N.toNpeT (preparedCellV T.toThrowableT (freshCell P1.m.cls N.kN) W.heap.size u0 sen) W.cur).withEntry W.cur) := ⟨{ ci198 := ci198, i198 := i198, fBack := fB }, ⟨hk198, hg198, ha198, hsB⟩, hbk, fun _ _ => rfl⟩
  obtain ⟨vm', X3, st, -⟩ := X.throwsNpeColdBareVAt hexec hg hsize T L Z LZ N LN P1 L1 [PR, PE] hLs hlink1 ⟨hlinkR, hlinkE, trivial⟩ hfound hk hinit hordN hctor hsel0 hselF hcellS hknownS hvU hvSen
    hv0 xC xS xP tkC tkS tkP tkX Y.objLocals hskip (fun _ _ hA hW _ hroom _ hrest => L.nativeOff p htr hA hW hroom hrest) (by simpa using hRframes) hRlocals (by simp) hRcells (by rw [hn]; exact hRslots)
  have hlt : W.heap.size < ((W.pushCell (freshCell P1.m.cls N.kN)).setVm vm').heap.size := by
    show W.heap.size < (W.pushCell (freshCell P1.m.cls N.kN)).heap.size
    rw [State.heap_size_pushCell]; omega
  rw [hfsz] at X3
  obtain ⟨g₁, hfrM⟩ := X3.frames_eq
  have hU : ((((W.pushCell (freshCell P1.m.cls N.kN)).setVm vm').setCell W.heap.size (npeBareV T.toThrowableT N.toNpeT (freshCell P1.m.cls N.kN) W.heap.size u0 sen)).setTop g).pushFrame (.throwing W.heap.size) = (((W.pushCell (freshCell P1.m.cls N.kN)).setVm vm').setCell W.heap.size (npeBareV T.toThrowableT N.toNpeT (freshCell P1.m.cls N.kN) W.heap.size u0 sen)).setFrames (.throwing W.heap.size :: .java g :: below) := by
    rw [State.pushFrame, State.frames_setTop _ hfrM, State.setTop_of_frames _ hfrM, State.setFrames_setFrames]
  refine ⟨_, W.heap.size, _, fun target ht => st.trans (by rw [← hU]; exact ht), X3.forget (fun y hy => ?_), heapAt_setCell_self _ hlt, hfound, rfl⟩
  simp only [List.mem_cons, List.not_mem_nil, or_false] at hy
  have hge : s.heap.size ≤ W.heap.size := X.same.2.1
  rcases hy with rfl | rfl | rfl | rfl | rfl <;> exact hge
/-- the words of a machine's NullPointerException, but the four that speak of the heap -/
def vx_atN (n : Nat) : List Cond := (Bundle.npeArmAtoms n).filter vx_no
/-- the words of a machine's throw with a message, but the four that speak of the heap -/
def vx_atM (X : String) (names : List String) : List Cond := (Bundle.messageArmAtoms X names).filter vx_no
section
variable {p : Program} {l : Launch} {e : Env} {R : Room} {s : State} {m : MethodId} {args : Array Value} {below : List Frame} {meth : Method} {c : Code} {H : Heap} {locs : List Loc} {cells slots : Nat}
/-- a frame seen from a rebased start, seen from the first start again -/
theorem vx_back9 {T S : State} {R' : Room} {k n : Nat} (X : Stand p l e R s m args below meth c T locs cells slots) (Y : Stand p l e R' ((T.setVm s.vm).setFrames (.invoking m args :: below)) m args below meth c T [] 0 0) (Z : Stand p l e R' ((T.setVm s.vm).setFrames (.invoking m args :: below)) m args below meth c S [] k n) :
    Stand p l e R s m args below meth c S locs (cells + k) (slots + n) := by
  have hW0 : s.WarmedH ((T.setVm s.vm).setFrames (.invoking m args :: below)).vm := State.WarmedH.refl s
  refine { admits := X.admits, cas := X.cas, clock := X.clock, frames := X.frames, room := X.room, hears := X.hears, method := X.method, code := X.code, here := Z.here, tail := Z.tail, warmed := State.WarmedH.trans hW0 Z.warmed, limits := Z.limits.trans (Y.limits.symm.trans X.limits), bytes := Z.bytes.trans (Y.bytes.symm.trans X.bytes), same := ?_ }
  obtain ⟨e1, e2⟩ := Z.same
  rw [State.setFrames_setFrames] at e1
  have h2 : (T.setVm s.vm).sameButNew (S.setVm s.vm) [] k n := ⟨e1, e2⟩
  have h3 := X.same.trans h2
  rw [List.append_nil] at h3
  exact h3
/-- from the machine's note that E is thrown here with this text -/
def vx_Note (p : Program) (l : Launch) (e : Env) (R : Room) (s : State) (m : MethodId) (args : Array Value) (below : List Frame) (meth : Method) (c : Code) (H : Heap) (locs : List Loc) (cells slots : Nat) (Q : State → Prop) (g : JFrame) (E text : String) : Prop :=
  ∀ T : State, T.heap = H → Stand p l e R s m args below meth c T locs cells slots → ∃ t, Steps p.tables e below ((T.setTop g).pushFrame (.throwNew E (some text) none)) t ∧ Q t
theorem vx_vm {pc : Nat} {ls : Array Slot} {rest : List Value} {Q : State → Prop} (hexec : p.tables.exec = Jvm.exec) (hl : l.stackTraces = false) {cls text : String} {names : List String} {nb : Nat} {A : Nat → Prop}
    (hcls : Bundle.fit cls = true) (hnames : ∀ n ∈ names, Bundle.fit n = true) (hsoe : (cls == "java/lang/StackOverflowError") = false) (hoom : (cls == "java/lang/OutOfMemoryError") = false)
    (hat : ∀ w ∈ vx_atM cls names, w.before args s = true) (hgood : ∀ w ∈ vx_atM cls names, vx_ot w = true)
    (hU : vx_Zq Bundle.tN "UNASSIGNED_STACK" Bundle.steD A s s.heap) (hN : vx_Zq Bundle.tN "SUPPRESSED_SENTINEL" Bundle.listD A s s.heap) (hS : va_S A s.heap H locs) (hsize : ls.size = c.maxLocals)
    (htext : (text == notModelled) = false) (hnb : (stringBytes (stringToUtf16 text)).size ≤ nb) (hnb1 : nb ≤ 1000)
    (hRframes : names.length + 4 < R.frames) (hRlocals : (rest.map fun v => v.category).sum + 10240 ≤ R.locals) (hshort : 13 * names.length + 55 ≤ 10240) (hRcells : cells + 3 ≤ R.cells) (hRslots : slots + (nb + 10) ≤ R.slots) (hlocks : meth.locks = false)
    (k : ∀ (H1 : Heap) (q9 : Addr) (ce : Cell), H.size ≤ H1.size → (∀ q : Nat, q < H.size → H1[q]? = H[q]?) → va_S A s.heap H1 locs → H1[q9]? = some ce → ce.vm = .none → s.vm.findClass cls = some ce.cls → vx_W p l e R s m args below meth c H1 locs (cells + 3) (slots + (nb + 10)) Q (F0 m pc ls rest) q9) :
    vx_Note p l e R s m args below meth c H locs cells slots Q (F0 m pc ls rest) cls text := by
  intro T hT X
  have htr : e.platform.stackTraces = false := (show e.platform.stackTraces = l.stackTraces by rw [X.admits.platform]).trans hl
  have Y := vx_rebase X (R' := { frames := R.frames, locals := R.locals, cells := 3, slots := nb + 10 }) (Nat.le_refl _) (Nat.le_refl _) hRcells hRslots
  have hhp : ((T.setVm s.vm).setFrames (.invoking m args :: below)).heap = H := hT
  have hW0 : s.WarmedH ((T.setVm s.vm).setFrames (.invoking m args :: below)).vm := State.WarmedH.refl s
  have hat' : ∀ w ∈ vx_atM cls names, w.before args ((T.setVm s.vm).setFrames (.invoking m args :: below)) = true := fun w hw => vx_ot_at hW0 rfl (hgood w hw) (hat w hw)
  have hU' : vx_Zq Bundle.tN "UNASSIGNED_STACK" Bundle.steD A ((T.setVm s.vm).setFrames (.invoking m args :: below)) ((T.setVm s.vm).setFrames (.invoking m args :: below)).heap := by rw [hhp]; exact vx_Zq.moved hW0.alike (hU.kept hS.2.1)
  have hN' : vx_Zq Bundle.tN "SUPPRESSED_SENTINEL" Bundle.listD A ((T.setVm s.vm).setFrames (.invoking m args :: below)) ((T.setVm s.vm).setFrames (.invoking m args :: below)).heap := by rw [hhp]; exact vx_Zq.moved hW0.alike (hN.kept hS.2.1)
  obtain ⟨S, q, ce, st, Z, hce, hcl', hv⟩ := vx_vmAt Y hexec htr (cls := cls) (names := names) (text := text) hcls hnames hsoe hoom (vx_own hat' (vx_isRefq hU'.1) (vx_isRefq hN'.1) hU'.2.word hN'.2.word) (fun x hx => nomatch hx) htext
    (by rw [Launch.admits_arrayLengthLimit X.admits]; omega) (by rw [Launch.admits_maxHeapBytes X.admits]; simp only [componentBytes]; omega)
    (g := F0 m pc ls rest) rfl hsize hRframes (by show 2 * 0 + (rest.map fun v => v.category).sum + 10240 ≤ R.locals; omega) hshort (by show 0 + 3 ≤ 3; omega) (by show 0 + (_ + 4 + 6) ≤ nb + 10; omega) hlocks
  obtain ⟨f1, f2⟩ := vx_frame Z.same
  have f1' : H.size ≤ S.heap.size := by rw [← hT]; exact f1
  have f2' : ∀ q : Nat, q < H.size → S.heap[q]? = H[q]? := fun q hq => by
    rw [← hT]
    exact f2 q (by rw [← hT] at hq; exact hq) (fun z hz => nomatch hz)
  have X5 := vx_back9 X Y Z
  have X6 : Stand p l e R s m args below meth c S locs (cells + 3) (slots + (nb + 10)) := { X5 with same := X5.same.mono (by omega) (by omega) }
  obtain ⟨t, a1, b1⟩ := k S.heap q ce f1' f2' ⟨Nat.le_trans hS.1 f1', fun q h1 h2 => (f2' q (Nat.lt_of_lt_of_le h1 hS.1)).trans (hS.2.1 q h1 h2), hS.2.2⟩ hce hv hcl' S rfl X6
  exact ⟨t, st t a1, b1⟩
/-- from the machine's note that NullPointerException is thrown here -/
def vx_NoteN (p : Program) (l : Launch) (e : Env) (R : Room) (s : State) (m : MethodId) (args : Array Value) (below : List Frame) (meth : Method) (c : Code) (H : Heap) (locs : List Loc) (cells slots : Nat) (Q : State → Prop) (g : JFrame) : Prop :=
  ∀ T : State, T.heap = H → Stand p l e R s m args below meth c T locs cells slots → ∃ t, Steps p.tables e below ((T.setTop g).pushFrame (.throwNew "java/lang/NullPointerException" none none)) t ∧ Q t
theorem vx_npe {pc : Nat} {ls : Array Slot} {rest : List Value} {Q : State → Prop} (hexec : p.tables.exec = Jvm.exec) (hl : l.stackTraces = false) {nb : Nat} {A : Nat → Prop}
    (hat : ∀ w ∈ vx_atN nb, w.before args s = true) (hgood : ∀ w ∈ vx_atN nb, vx_ot w = true)
    (hU : vx_Zq Bundle.tN "UNASSIGNED_STACK" Bundle.steD A s s.heap) (hN : vx_Zq Bundle.tN "SUPPRESSED_SENTINEL" Bundle.listD A s s.heap) (hS : va_S A s.heap H locs) (hsize : ls.size = c.maxLocals)
    (hRframes : 7 < R.frames) (hRlocals : (rest.map fun v => v.category).sum + 10240 ≤ R.locals) (hRcells : cells + 1 ≤ R.cells) (hRslots : slots + nb ≤ R.slots) (hlocks : meth.locks = false)
    (k : ∀ (H1 : Heap) (q9 : Addr) (ce : Cell), H.size ≤ H1.size → (∀ q : Nat, q < H.size → H1[q]? = H[q]?) → va_S A s.heap H1 locs → H1[q9]? = some ce → ce.vm = .none → s.vm.findClass "java/lang/NullPointerException" = some ce.cls → vx_W p l e R s m args below meth c H1 locs (cells + 1) (slots + nb) Q (F0 m pc ls rest) q9) :
    vx_NoteN p l e R s m args below meth c H locs cells slots Q (F0 m pc ls rest) := by
  intro T hT X
  have htr : e.platform.stackTraces = false := (show e.platform.stackTraces = l.stackTraces by rw [X.admits.platform]).trans hl
  have Y := vx_rebase X (R' := { frames := R.frames, locals := R.locals, cells := 1, slots := nb }) (Nat.le_refl _) (Nat.le_refl _) hRcells hRslots
  have hhp : ((T.setVm s.vm).setFrames (.invoking m args :: below)).heap = H := hT
  have hW0 : s.WarmedH ((T.setVm s.vm).setFrames (.invoking m args :: below)).vm := State.WarmedH.refl s
  have hat' : ∀ w ∈ vx_atN nb, w.before args ((T.setVm s.vm).setFrames (.invoking m args :: below)) = true := fun w hw => vx_ot_at hW0 rfl (hgood w hw) (hat w hw)
  have hU' : vx_Zq Bundle.tN "UNASSIGNED_STACK" Bundle.steD A ((T.setVm s.vm).setFrames (.invoking m args :: below)) ((T.setVm s.vm).setFrames (.invoking m args :: below)).heap := by rw [hhp]; exact vx_Zq.moved hW0.alike (hU.kept hS.2.1)
  have hN' : vx_Zq Bundle.tN "SUPPRESSED_SENTINEL" Bundle.listD A ((T.setVm s.vm).setFrames (.invoking m args :: below)) ((T.setVm s.vm).setFrames (.invoking m args :: below)).heap := by rw [hhp]; exact vx_Zq.moved hW0.alike (hN.kept hS.2.1)
  obtain ⟨S, q, ce, st, Z, hce, hcl', hv⟩ := vx_npeAt Y hexec htr (n := nb) (vx_own hat' (vx_isRefq hU'.1) (vx_isRefq hN'.1) hU'.2.word hN'.2.word) (fun x hx => nomatch hx)
    (g := F0 m pc ls rest) rfl hsize hRframes (by show 2 * 0 + (rest.map fun v => v.category).sum + 10240 ≤ R.locals; omega) (by show 0 + 1 ≤ 1; omega) (by show 0 + nb ≤ nb; omega) hlocks
  obtain ⟨f1, f2⟩ := vx_frame Z.same
  have f1' : H.size ≤ S.heap.size := by rw [← hT]; exact f1
  have f2' : ∀ q : Nat, q < H.size → S.heap[q]? = H[q]? := fun q hq => by
    rw [← hT]
    exact f2 q (by rw [← hT] at hq; exact hq) (fun z hz => nomatch hz)
  have X5 := vx_back9 X Y Z
  have X6 : Stand p l e R s m args below meth c S locs (cells + 1) (slots + nb) := { X5 with same := X5.same.mono (by omega) (by omega) }
  obtain ⟨t, a1, b1⟩ := k S.heap q ce f1' f2' ⟨Nat.le_trans hS.1 f1', fun q h1 h2 => (f2' q (Nat.lt_of_lt_of_le h1 hS.1)).trans (hS.2.1 q h1 h2), hS.2.2⟩ hce hv hcl' S rfl X6
  exact ⟨t, st t a1, b1⟩
variable {Q : State → Prop} {cc : ByteArray} {pc : Nat} {ls : Array Slot} {rest : List Value}
theorem vx_idivZ (hexec : p.tables.exec = Jvm.exec) (hb : c.code = cc) {a b : Int32} (h0 : b = 0) (d : decode cc pc = .ok (.idiv, 1)) (k : vx_Note p l e R s m args below meth c H locs cells slots Q (F0 m pc ls rest) "java/lang/ArithmeticException" "/ by zero") :
    W p l e R s m args below meth c H locs cells slots Q (F0 m pc ls (.int b :: .int a :: rest)) := by
  intro T hT X
  obtain ⟨t, st, q⟩ := k T hT X
  exact ⟨t, X.idivZero hexec (g := F0 m pc ls (.int b :: .int a :: rest)) rfl (a := a) (rest := rest) (by rw [h0]) (by rw [hb]; exact d) t st, q⟩
theorem vx_iremZ (hexec : p.tables.exec = Jvm.exec) (hb : c.code = cc) {a b : Int32} (h0 : b = 0) (d : decode cc pc = .ok (.irem, 1)) (k : vx_Note p l e R s m args below meth c H locs cells slots Q (F0 m pc ls rest) "java/lang/ArithmeticException" "/ by zero") :
    W p l e R s m args below meth c H locs cells slots Q (F0 m pc ls (.int b :: .int a :: rest)) := by
  intro T hT X
  obtain ⟨t, st, q⟩ := k T hT X
  exact ⟨t, X.iremZero hexec (g := F0 m pc ls (.int b :: .int a :: rest)) rfl (a := a) (rest := rest) (by rw [h0]) (by rw [hb]; exact d) t st, q⟩
theorem vx_ldivZ (hexec : p.tables.exec = Jvm.exec) (hb : c.code = cc) {a b : Int64} (h0 : b = 0) (d : decode cc pc = .ok (.ldiv, 1)) (k : vx_Note p l e R s m args below meth c H locs cells slots Q (F0 m pc ls rest) "java/lang/ArithmeticException" "/ by zero") :
    W p l e R s m args below meth c H locs cells slots Q (F0 m pc ls (.long b :: .long a :: rest)) := by
  intro T hT X
  obtain ⟨t, st, q⟩ := k T hT X
  exact ⟨t, X.ldivZero hexec (g := F0 m pc ls (.long b :: .long a :: rest)) rfl (a := a) (rest := rest) (by rw [h0]) (by rw [hb]; exact d) t st, q⟩
theorem vx_lremZ (hexec : p.tables.exec = Jvm.exec) (hb : c.code = cc) {a b : Int64} (h0 : b = 0) (d : decode cc pc = .ok (.lrem, 1)) (k : vx_Note p l e R s m args below meth c H locs cells slots Q (F0 m pc ls rest) "java/lang/ArithmeticException" "/ by zero") :
    W p l e R s m args below meth c H locs cells slots Q (F0 m pc ls (.long b :: .long a :: rest)) := by
  intro T hT X
  obtain ⟨t, st, q⟩ := k T hT X
  exact ⟨t, X.lremZero hexec (g := F0 m pc ls (.long b :: .long a :: rest)) rfl (a := a) (rest := rest) (by rw [h0]) (by rw [hb]; exact d) t st, q⟩
theorem vx_ialdZ {D : va_G} {cl : List vw_C} {ws : va_W} {tys : List (ClassId × FieldType)} {a : Nat} (hexec : p.tables.exec = Jvm.exec) (hb : c.code = cc) (hK : va_K D cl tys s) (hP : va_P D cl ws H) (q0 t0 : Nat) {cA : ClassId} {n : Nat} {f : Nat → Int32} (ha : ws[q0]? = some (a, .inl (cA, n, .inl f))) (ht : tys[t0]? = some (cA, .int)) {i : Int32} (hout : ¬ vp_in i n) (hdg : decode cc pc = .ok (.iaload, 1))
    (k : ∀ tx : String, tx = (toString "Index " ++ toString i ++ toString " out of bounds for length " ++ toString n : String) → vx_Note p l e R s m args below meth c H locs cells slots Q (F0 m pc ls rest) "java/lang/ArrayIndexOutOfBoundsException" tx) : W p l e R s m args below meth c H locs cells slots Q (F0 m pc ls (.int i :: .ref a :: rest)) := by
  intro T hT X
  obtain ⟨t, st, q⟩ := k _ rfl T hT X
  refine ⟨t, ?_, q⟩
  have h1 := X.ialoadOut hexec (by rw [hT]; exact hP q0 _ ha) ((hK.2 t0 _ ht).1 n (fun j => .int (f j))) (j := i) (by show (i < 0 ∨ (arrV _ _ _).slots.size ≤ _); rw [arrV_size]; exact Classical.byContradiction hout) (g := F0 m pc ls (.int i :: .ref a :: rest)) rfl (rest := rest) rfl (by rw [hb]; exact hdg) t
  simp only [arrV_size] at h1
  exact h1 st
theorem vx_iastZ {D : va_G} {cl : List vw_C} {ws : va_W} {tys : List (ClassId × FieldType)} {a : Nat} (hexec : p.tables.exec = Jvm.exec) (hb : c.code = cc) (hK : va_K D cl tys s) (hP : va_P D cl ws H) (q0 t0 : Nat) {cA : ClassId} {n : Nat} {f : Nat → Int32} (ha : ws[q0]? = some (a, .inl (cA, n, .inl f))) (ht : tys[t0]? = some (cA, .int)) {i : Int32} {x : Int32} (hout : ¬ vp_in i n) (hdg : decode cc pc = .ok (.iastore, 1))
    (k : ∀ tx : String, tx = (toString "Index " ++ toString i ++ toString " out of bounds for length " ++ toString n : String) → vx_Note p l e R s m args below meth c H locs cells slots Q (F0 m pc ls rest) "java/lang/ArrayIndexOutOfBoundsException" tx) : W p l e R s m args below meth c H locs cells slots Q (F0 m pc ls (.int x :: .int i :: .ref a :: rest)) := by
  intro T hT X
  obtain ⟨t, st, q⟩ := k _ rfl T hT X
  refine ⟨t, ?_, q⟩
  have h1 := X.iastoreOut hexec (by rw [hT]; exact hP q0 _ ha) ((hK.2 t0 _ ht).1 n (fun j => .int (f j))) (j := i) (by show (i < 0 ∨ (arrV _ _ _).slots.size ≤ _); rw [arrV_size]; exact Classical.byContradiction hout) (g := F0 m pc ls (.int x :: .int i :: .ref a :: rest)) rfl (rest := rest) rfl (by rw [hb]; exact hdg) t
  simp only [arrV_size] at h1
  exact h1 st
theorem vx_baldZ {D : va_G} {cl : List vw_C} {ws : va_W} {tys : List (ClassId × FieldType)} {a : Nat} (hexec : p.tables.exec = Jvm.exec) (hb : c.code = cc) (hK : va_K D cl tys s) (hP : va_P D cl ws H) (q0 t0 : Nat) {cA : ClassId} {n : Nat} {f : Nat → Int32} (ha : ws[q0]? = some (a, .inl (cA, n, .inl f))) (ht : tys[t0]? = some (cA, .byte)) {i : Int32} (hout : ¬ vp_in i n) (hdg : decode cc pc = .ok (.baload, 1))
    (k : ∀ tx : String, tx = (toString "Index " ++ toString i ++ toString " out of bounds for length " ++ toString n : String) → vx_Note p l e R s m args below meth c H locs cells slots Q (F0 m pc ls rest) "java/lang/ArrayIndexOutOfBoundsException" tx) : W p l e R s m args below meth c H locs cells slots Q (F0 m pc ls (.int i :: .ref a :: rest)) := by
  intro T hT X
  obtain ⟨t, st, q⟩ := k _ rfl T hT X
  refine ⟨t, ?_, q⟩
  have h1 := X.baloadOut hexec (by rw [hT]; exact hP q0 _ ha) ((hK.2 t0 _ ht).1 n (fun j => .int (f j))) (j := i) (by show (i < 0 ∨ (arrV _ _ _).slots.size ≤ _); rw [arrV_size]; exact Classical.byContradiction hout) (g := F0 m pc ls (.int i :: .ref a :: rest)) rfl (rest := rest) rfl (by rw [hb]; exact hdg) t
  simp only [arrV_size] at h1
  exact h1 st
theorem vx_bastZ {D : va_G} {cl : List vw_C} {ws : va_W} {tys : List (ClassId × FieldType)} {a : Nat} (hexec : p.tables.exec = Jvm.exec) (hb : c.code = cc) (hK : va_K D cl tys s) (hP : va_P D cl ws H) (q0 t0 : Nat) {cA : ClassId} {n : Nat} {f : Nat → Int32} (ha : ws[q0]? = some (a, .inl (cA, n, .inl f))) (ht : tys[t0]? = some (cA, .byte)) {i : Int32} {x : Int32} (hout : ¬ vp_in i n) (hdg : decode cc pc = .ok (.bastore, 1))
    (k : ∀ tx : String, tx = (toString "Index " ++ toString i ++ toString " out of bounds for length " ++ toString n : String) → vx_Note p l e R s m args below meth c H locs cells slots Q (F0 m pc ls rest) "java/lang/ArrayIndexOutOfBoundsException" tx) : W p l e R s m args below meth c H locs cells slots Q (F0 m pc ls (.int x :: .int i :: .ref a :: rest)) := by
  intro T hT X
  obtain ⟨t, st, q⟩ := k _ rfl T hT X
  refine ⟨t, ?_, q⟩
  have h1 := X.bastoreOut hexec (by rw [hT]; exact hP q0 _ ha) ((hK.2 t0 _ ht).1 n (fun j => .int (f j))) (j := i) (by show (i < 0 ∨ (arrV _ _ _).slots.size ≤ _); rw [arrV_size]; exact Classical.byContradiction hout) (g := F0 m pc ls (.int x :: .int i :: .ref a :: rest)) rfl (rest := rest) rfl (by rw [hb]; exact hdg) t
  simp only [arrV_size] at h1
  exact h1 st
theorem vx_zaldZ {D : va_G} {cl : List vw_C} {ws : va_W} {tys : List (ClassId × FieldType)} {a : Nat} (hexec : p.tables.exec = Jvm.exec) (hb : c.code = cc) (hK : va_K D cl tys s) (hP : va_P D cl ws H) (q0 t0 : Nat) {cA : ClassId} {n : Nat} {f : Nat → Int32} (ha : ws[q0]? = some (a, .inl (cA, n, .inl f))) (ht : tys[t0]? = some (cA, .boolean)) {i : Int32} (hout : ¬ vp_in i n) (hdg : decode cc pc = .ok (.baload, 1))
    (k : ∀ tx : String, tx = (toString "Index " ++ toString i ++ toString " out of bounds for length " ++ toString n : String) → vx_Note p l e R s m args below meth c H locs cells slots Q (F0 m pc ls rest) "java/lang/ArrayIndexOutOfBoundsException" tx) : W p l e R s m args below meth c H locs cells slots Q (F0 m pc ls (.int i :: .ref a :: rest)) := by
  intro T hT X
  obtain ⟨t, st, q⟩ := k _ rfl T hT X
  refine ⟨t, ?_, q⟩
  have h1 := X.baloadOut hexec (by rw [hT]; exact hP q0 _ ha) ((hK.2 t0 _ ht).1 n (fun j => .int (f j))) (j := i) (by show (i < 0 ∨ (arrV _ _ _).slots.size ≤ _); rw [arrV_size]; exact Classical.byContradiction hout) (g := F0 m pc ls (.int i :: .ref a :: rest)) rfl (rest := rest) rfl (by rw [hb]; exact hdg) t
  simp only [arrV_size] at h1
  exact h1 st
theorem vx_zastZ {D : va_G} {cl : List vw_C} {ws : va_W} {tys : List (ClassId × FieldType)} {a : Nat} (hexec : p.tables.exec = Jvm.exec) (hb : c.code = cc) (hK : va_K D cl tys s) (hP : va_P D cl ws H) (q0 t0 : Nat) {cA : ClassId} {n : Nat} {f : Nat → Int32} (ha : ws[q0]? = some (a, .inl (cA, n, .inl f))) (ht : tys[t0]? = some (cA, .boolean)) {i : Int32} {x : Int32} (hout : ¬ vp_in i n) (hdg : decode cc pc = .ok (.bastore, 1))
    (k : ∀ tx : String, tx = (toString "Index " ++ toString i ++ toString " out of bounds for length " ++ toString n : String) → vx_Note p l e R s m args below meth c H locs cells slots Q (F0 m pc ls rest) "java/lang/ArrayIndexOutOfBoundsException" tx) : W p l e R s m args below meth c H locs cells slots Q (F0 m pc ls (.int x :: .int i :: .ref a :: rest)) := by
  intro T hT X
  obtain ⟨t, st, q⟩ := k _ rfl T hT X
  refine ⟨t, ?_, q⟩
  have h1 := X.bastoreOut hexec (by rw [hT]; exact hP q0 _ ha) ((hK.2 t0 _ ht).1 n (fun j => .int (f j))) (j := i) (by show (i < 0 ∨ (arrV _ _ _).slots.size ≤ _); rw [arrV_size]; exact Classical.byContradiction hout) (g := F0 m pc ls (.int x :: .int i :: .ref a :: rest)) rfl (rest := rest) rfl (by rw [hb]; exact hdg) t
  simp only [arrV_size] at h1
  exact h1 st
theorem vx_caldZ {D : va_G} {cl : List vw_C} {ws : va_W} {tys : List (ClassId × FieldType)} {a : Nat} (hexec : p.tables.exec = Jvm.exec) (hb : c.code = cc) (hK : va_K D cl tys s) (hP : va_P D cl ws H) (q0 t0 : Nat) {cA : ClassId} {n : Nat} {f : Nat → Int32} (ha : ws[q0]? = some (a, .inl (cA, n, .inl f))) (ht : tys[t0]? = some (cA, .char)) {i : Int32} (hout : ¬ vp_in i n) (hdg : decode cc pc = .ok (.caload, 1))
    (k : ∀ tx : String, tx = (toString "Index " ++ toString i ++ toString " out of bounds for length " ++ toString n : String) → vx_Note p l e R s m args below meth c H locs cells slots Q (F0 m pc ls rest) "java/lang/ArrayIndexOutOfBoundsException" tx) : W p l e R s m args below meth c H locs cells slots Q (F0 m pc ls (.int i :: .ref a :: rest)) := by
  intro T hT X
  obtain ⟨t, st, q⟩ := k _ rfl T hT X
  refine ⟨t, ?_, q⟩
  have h1 := X.caloadOut hexec (by rw [hT]; exact hP q0 _ ha) ((hK.2 t0 _ ht).1 n (fun j => .int (f j))) (j := i) (by show (i < 0 ∨ (arrV _ _ _).slots.size ≤ _); rw [arrV_size]; exact Classical.byContradiction hout) (g := F0 m pc ls (.int i :: .ref a :: rest)) rfl (rest := rest) rfl (by rw [hb]; exact hdg) t
  simp only [arrV_size] at h1
  exact h1 st
theorem vx_castZ {D : va_G} {cl : List vw_C} {ws : va_W} {tys : List (ClassId × FieldType)} {a : Nat} (hexec : p.tables.exec = Jvm.exec) (hb : c.code = cc) (hK : va_K D cl tys s) (hP : va_P D cl ws H) (q0 t0 : Nat) {cA : ClassId} {n : Nat} {f : Nat → Int32} (ha : ws[q0]? = some (a, .inl (cA, n, .inl f))) (ht : tys[t0]? = some (cA, .char)) {i : Int32} {x : Int32} (hout : ¬ vp_in i n) (hdg : decode cc pc = .ok (.castore, 1))
    (k : ∀ tx : String, tx = (toString "Index " ++ toString i ++ toString " out of bounds for length " ++ toString n : String) → vx_Note p l e R s m args below meth c H locs cells slots Q (F0 m pc ls rest) "java/lang/ArrayIndexOutOfBoundsException" tx) : W p l e R s m args below meth c H locs cells slots Q (F0 m pc ls (.int x :: .int i :: .ref a :: rest)) := by
  intro T hT X
  obtain ⟨t, st, q⟩ := k _ rfl T hT X
  refine ⟨t, ?_, q⟩
  have h1 := X.castoreOut hexec (by rw [hT]; exact hP q0 _ ha) ((hK.2 t0 _ ht).1 n (fun j => .int (f j))) (j := i) (by show (i < 0 ∨ (arrV _ _ _).slots.size ≤ _); rw [arrV_size]; exact Classical.byContradiction hout) (g := F0 m pc ls (.int x :: .int i :: .ref a :: rest)) rfl (rest := rest) rfl (by rw [hb]; exact hdg) t
  simp only [arrV_size] at h1
  exact h1 st
theorem vx_saldZ {D : va_G} {cl : List vw_C} {ws : va_W} {tys : List (ClassId × FieldType)} {a : Nat} (hexec : p.tables.exec = Jvm.exec) (hb : c.code = cc) (hK : va_K D cl tys s) (hP : va_P D cl ws H) (q0 t0 : Nat) {cA : ClassId} {n : Nat} {f : Nat → Int32} (ha : ws[q0]? = some (a, .inl (cA, n, .inl f))) (ht : tys[t0]? = some (cA, .short)) {i : Int32} (hout : ¬ vp_in i n) (hdg : decode cc pc = .ok (.saload, 1))
    (k : ∀ tx : String, tx = (toString "Index " ++ toString i ++ toString " out of bounds for length " ++ toString n : String) → vx_Note p l e R s m args below meth c H locs cells slots Q (F0 m pc ls rest) "java/lang/ArrayIndexOutOfBoundsException" tx) : W p l e R s m args below meth c H locs cells slots Q (F0 m pc ls (.int i :: .ref a :: rest)) := by
  intro T hT X
  obtain ⟨t, st, q⟩ := k _ rfl T hT X
  refine ⟨t, ?_, q⟩
  have h1 := X.saloadOut hexec (by rw [hT]; exact hP q0 _ ha) ((hK.2 t0 _ ht).1 n (fun j => .int (f j))) (j := i) (by show (i < 0 ∨ (arrV _ _ _).slots.size ≤ _); rw [arrV_size]; exact Classical.byContradiction hout) (g := F0 m pc ls (.int i :: .ref a :: rest)) rfl (rest := rest) rfl (by rw [hb]; exact hdg) t
  simp only [arrV_size] at h1
  exact h1 st
theorem vx_sastZ {D : va_G} {cl : List vw_C} {ws : va_W} {tys : List (ClassId × FieldType)} {a : Nat} (hexec : p.tables.exec = Jvm.exec) (hb : c.code = cc) (hK : va_K D cl tys s) (hP : va_P D cl ws H) (q0 t0 : Nat) {cA : ClassId} {n : Nat} {f : Nat → Int32} (ha : ws[q0]? = some (a, .inl (cA, n, .inl f))) (ht : tys[t0]? = some (cA, .short)) {i : Int32} {x : Int32} (hout : ¬ vp_in i n) (hdg : decode cc pc = .ok (.sastore, 1))
    (k : ∀ tx : String, tx = (toString "Index " ++ toString i ++ toString " out of bounds for length " ++ toString n : String) → vx_Note p l e R s m args below meth c H locs cells slots Q (F0 m pc ls rest) "java/lang/ArrayIndexOutOfBoundsException" tx) : W p l e R s m args below meth c H locs cells slots Q (F0 m pc ls (.int x :: .int i :: .ref a :: rest)) := by
  intro T hT X
  obtain ⟨t, st, q⟩ := k _ rfl T hT X
  refine ⟨t, ?_, q⟩
  have h1 := X.sastoreOut hexec (by rw [hT]; exact hP q0 _ ha) ((hK.2 t0 _ ht).1 n (fun j => .int (f j))) (j := i) (by show (i < 0 ∨ (arrV _ _ _).slots.size ≤ _); rw [arrV_size]; exact Classical.byContradiction hout) (g := F0 m pc ls (.int x :: .int i :: .ref a :: rest)) rfl (rest := rest) rfl (by rw [hb]; exact hdg) t
  simp only [arrV_size] at h1
  exact h1 st
theorem vx_laldZ {D : va_G} {cl : List vw_C} {ws : va_W} {tys : List (ClassId × FieldType)} {a : Nat} (hexec : p.tables.exec = Jvm.exec) (hb : c.code = cc) (hK : va_K D cl tys s) (hP : va_P D cl ws H) (q0 t0 : Nat) {cA : ClassId} {n : Nat} {f : Nat → Int64} (ha : ws[q0]? = some (a, .inl (cA, n, .inr (.inl f)))) (ht : tys[t0]? = some (cA, .long)) {i : Int32} (hout : ¬ vp_in i n) (hdg : decode cc pc = .ok (.laload, 1))
    (k : ∀ tx : String, tx = (toString "Index " ++ toString i ++ toString " out of bounds for length " ++ toString n : String) → vx_Note p l e R s m args below meth c H locs cells slots Q (F0 m pc ls rest) "java/lang/ArrayIndexOutOfBoundsException" tx) : W p l e R s m args below meth c H locs cells slots Q (F0 m pc ls (.int i :: .ref a :: rest)) := by
  intro T hT X
  obtain ⟨t, st, q⟩ := k _ rfl T hT X
  refine ⟨t, ?_, q⟩
  have h1 := X.laloadOut hexec (by rw [hT]; exact hP q0 _ ha) ((hK.2 t0 _ ht).1 n (fun j => .long (f j))) (j := i) (by show (i < 0 ∨ (arrV _ _ _).slots.size ≤ _); rw [arrV_size]; exact Classical.byContradiction hout) (g := F0 m pc ls (.int i :: .ref a :: rest)) rfl (rest := rest) rfl (by rw [hb]; exact hdg) t
  simp only [arrV_size] at h1
  exact h1 st
theorem vx_lastZ {D : va_G} {cl : List vw_C} {ws : va_W} {tys : List (ClassId × FieldType)} {a : Nat} (hexec : p.tables.exec = Jvm.exec) (hb : c.code = cc) (hK : va_K D cl tys s) (hP : va_P D cl ws H) (q0 t0 : Nat) {cA : ClassId} {n : Nat} {f : Nat → Int64} (ha : ws[q0]? = some (a, .inl (cA, n, .inr (.inl f)))) (ht : tys[t0]? = some (cA, .long)) {i : Int32} {x : Int64} (hout : ¬ vp_in i n) (hdg : decode cc pc = .ok (.lastore, 1))
    (k : ∀ tx : String, tx = (toString "Index " ++ toString i ++ toString " out of bounds for length " ++ toString n : String) → vx_Note p l e R s m args below meth c H locs cells slots Q (F0 m pc ls rest) "java/lang/ArrayIndexOutOfBoundsException" tx) : W p l e R s m args below meth c H locs cells slots Q (F0 m pc ls (.long x :: .int i :: .ref a :: rest)) := by
  intro T hT X
  obtain ⟨t, st, q⟩ := k _ rfl T hT X
  refine ⟨t, ?_, q⟩
  have h1 := X.lastoreOut hexec (by rw [hT]; exact hP q0 _ ha) ((hK.2 t0 _ ht).1 n (fun j => .long (f j))) (j := i) (by show (i < 0 ∨ (arrV _ _ _).slots.size ≤ _); rw [arrV_size]; exact Classical.byContradiction hout) (g := F0 m pc ls (.long x :: .int i :: .ref a :: rest)) rfl (rest := rest) rfl (by rw [hb]; exact hdg) t
  simp only [arrV_size] at h1
  exact h1 st
theorem vx_faldZ {D : va_G} {cl : List vw_C} {ws : va_W} {tys : List (ClassId × FieldType)} {a : Nat} (hexec : p.tables.exec = Jvm.exec) (hb : c.code = cc) (hK : va_K D cl tys s) (hP : va_P D cl ws H) (q0 t0 : Nat) {cA : ClassId} {n : Nat} {f : Nat → UInt32} (ha : ws[q0]? = some (a, .inl (cA, n, .inr (.inr (.inl f))))) (ht : tys[t0]? = some (cA, .float)) {i : Int32} (hout : ¬ vp_in i n) (hdg : decode cc pc = .ok (.faload, 1))
    (k : ∀ tx : String, tx = (toString "Index " ++ toString i ++ toString " out of bounds for length " ++ toString n : String) → vx_Note p l e R s m args below meth c H locs cells slots Q (F0 m pc ls rest) "java/lang/ArrayIndexOutOfBoundsException" tx) : W p l e R s m args below meth c H locs cells slots Q (F0 m pc ls (.int i :: .ref a :: rest)) := by
  intro T hT X
  obtain ⟨t, st, q⟩ := k _ rfl T hT X
  refine ⟨t, ?_, q⟩
  have h1 := X.faloadOut hexec (by rw [hT]; exact hP q0 _ ha) ((hK.2 t0 _ ht).1 n (fun j => .float (f j))) (j := i) (by show (i < 0 ∨ (arrV _ _ _).slots.size ≤ _); rw [arrV_size]; exact Classical.byContradiction hout) (g := F0 m pc ls (.int i :: .ref a :: rest)) rfl (rest := rest) rfl (by rw [hb]; exact hdg) t
  simp only [arrV_size] at h1
  exact h1 st
theorem vx_fastZ {D : va_G} {cl : List vw_C} {ws : va_W} {tys : List (ClassId × FieldType)} {a : Nat} (hexec : p.tables.exec = Jvm.exec) (hb : c.code = cc) (hK : va_K D cl tys s) (hP : va_P D cl ws H) (q0 t0 : Nat) {cA : ClassId} {n : Nat} {f : Nat → UInt32} (ha : ws[q0]? = some (a, .inl (cA, n, .inr (.inr (.inl f))))) (ht : tys[t0]? = some (cA, .float)) {i : Int32} {x : UInt32} (hout : ¬ vp_in i n) (hdg : decode cc pc = .ok (.fastore, 1))
    (k : ∀ tx : String, tx = (toString "Index " ++ toString i ++ toString " out of bounds for length " ++ toString n : String) → vx_Note p l e R s m args below meth c H locs cells slots Q (F0 m pc ls rest) "java/lang/ArrayIndexOutOfBoundsException" tx) : W p l e R s m args below meth c H locs cells slots Q (F0 m pc ls (.float x :: .int i :: .ref a :: rest)) := by
  intro T hT X
  obtain ⟨t, st, q⟩ := k _ rfl T hT X
  refine ⟨t, ?_, q⟩
  have h1 := X.fastoreOut hexec (by rw [hT]; exact hP q0 _ ha) ((hK.2 t0 _ ht).1 n (fun j => .float (f j))) (j := i) (by show (i < 0 ∨ (arrV _ _ _).slots.size ≤ _); rw [arrV_size]; exact Classical.byContradiction hout) (g := F0 m pc ls (.float x :: .int i :: .ref a :: rest)) rfl (rest := rest) rfl (by rw [hb]; exact hdg) t
  simp only [arrV_size] at h1
  exact h1 st
theorem vx_daldZ {D : va_G} {cl : List vw_C} {ws : va_W} {tys : List (ClassId × FieldType)} {a : Nat} (hexec : p.tables.exec = Jvm.exec) (hb : c.code = cc) (hK : va_K D cl tys s) (hP : va_P D cl ws H) (q0 t0 : Nat) {cA : ClassId} {n : Nat} {f : Nat → UInt64} (ha : ws[q0]? = some (a, .inl (cA, n, .inr (.inr (.inr (.inl f)))))) (ht : tys[t0]? = some (cA, .double)) {i : Int32} (hout : ¬ vp_in i n) (hdg : decode cc pc = .ok (.daload, 1))
    (k : ∀ tx : String, tx = (toString "Index " ++ toString i ++ toString " out of bounds for length " ++ toString n : String) → vx_Note p l e R s m args below meth c H locs cells slots Q (F0 m pc ls rest) "java/lang/ArrayIndexOutOfBoundsException" tx) : W p l e R s m args below meth c H locs cells slots Q (F0 m pc ls (.int i :: .ref a :: rest)) := by
  intro T hT X
  obtain ⟨t, st, q⟩ := k _ rfl T hT X
  refine ⟨t, ?_, q⟩
  have h1 := X.daloadOut hexec (by rw [hT]; exact hP q0 _ ha) ((hK.2 t0 _ ht).1 n (fun j => .double (f j))) (j := i) (by show (i < 0 ∨ (arrV _ _ _).slots.size ≤ _); rw [arrV_size]; exact Classical.byContradiction hout) (g := F0 m pc ls (.int i :: .ref a :: rest)) rfl (rest := rest) rfl (by rw [hb]; exact hdg) t
  simp only [arrV_size] at h1
  exact h1 st
theorem vx_dastZ {D : va_G} {cl : List vw_C} {ws : va_W} {tys : List (ClassId × FieldType)} {a : Nat} (hexec : p.tables.exec = Jvm.exec) (hb : c.code = cc) (hK : va_K D cl tys s) (hP : va_P D cl ws H) (q0 t0 : Nat) {cA : ClassId} {n : Nat} {f : Nat → UInt64} (ha : ws[q0]? = some (a, .inl (cA, n, .inr (.inr (.inr (.inl f)))))) (ht : tys[t0]? = some (cA, .double)) {i : Int32} {x : UInt64} (hout : ¬ vp_in i n) (hdg : decode cc pc = .ok (.dastore, 1))
    (k : ∀ tx : String, tx = (toString "Index " ++ toString i ++ toString " out of bounds for length " ++ toString n : String) → vx_Note p l e R s m args below meth c H locs cells slots Q (F0 m pc ls rest) "java/lang/ArrayIndexOutOfBoundsException" tx) : W p l e R s m args below meth c H locs cells slots Q (F0 m pc ls (.double x :: .int i :: .ref a :: rest)) := by
  intro T hT X
  obtain ⟨t, st, q⟩ := k _ rfl T hT X
  refine ⟨t, ?_, q⟩
  have h1 := X.dastoreOut hexec (by rw [hT]; exact hP q0 _ ha) ((hK.2 t0 _ ht).1 n (fun j => .double (f j))) (j := i) (by show (i < 0 ∨ (arrV _ _ _).slots.size ≤ _); rw [arrV_size]; exact Classical.byContradiction hout) (g := F0 m pc ls (.double x :: .int i :: .ref a :: rest)) rfl (rest := rest) rfl (by rw [hb]; exact hdg) t
  simp only [arrV_size] at h1
  exact h1 st
theorem vx_arraylengthN (hexec : p.tables.exec = Jvm.exec) (hb : c.code = cc) (hdg : decode cc pc = .ok (.arraylength, 1)) (k : vx_NoteN p l e R s m args below meth c H locs cells slots Q (F0 m pc ls rest)) : W p l e R s m args below meth c H locs cells slots Q (F0 m pc ls (.null :: rest)) := by
  intro T hT X
  obtain ⟨t, st, q⟩ := k T hT X
  exact ⟨t, X.arraylengthNull hexec (g := F0 m pc ls (.null :: rest)) rfl (rest := rest) rfl (by rw [hb]; exact hdg) t st, q⟩
theorem vx_ialoadN (hexec : p.tables.exec = Jvm.exec) (hb : c.code = cc) {i : Int32} (hdg : decode cc pc = .ok (.iaload, 1)) (k : vx_NoteN p l e R s m args below meth c H locs cells slots Q (F0 m pc ls rest)) : W p l e R s m args below meth c H locs cells slots Q (F0 m pc ls (.int i :: .null :: rest)) := by
  intro T hT X
  obtain ⟨t, st, q⟩ := k T hT X
  exact ⟨t, X.ialoadNull hexec (g := F0 m pc ls (.int i :: .null :: rest)) rfl (rest := rest) rfl (by rw [hb]; exact hdg) t st, q⟩
theorem vx_laloadN (hexec : p.tables.exec = Jvm.exec) (hb : c.code = cc) {i : Int32} (hdg : decode cc pc = .ok (.laload, 1)) (k : vx_NoteN p l e R s m args below meth c H locs cells slots Q (F0 m pc ls rest)) : W p l e R s m args below meth c H locs cells slots Q (F0 m pc ls (.int i :: .null :: rest)) := by
  intro T hT X
  obtain ⟨t, st, q⟩ := k T hT X
  exact ⟨t, X.laloadNull hexec (g := F0 m pc ls (.int i :: .null :: rest)) rfl (rest := rest) rfl (by rw [hb]; exact hdg) t st, q⟩
theorem vx_faloadN (hexec : p.tables.exec = Jvm.exec) (hb : c.code = cc) {i : Int32} (hdg : decode cc pc = .ok (.faload, 1)) (k : vx_NoteN p l e R s m args below meth c H locs cells slots Q (F0 m pc ls rest)) : W p l e R s m args below meth c H locs cells slots Q (F0 m pc ls (.int i :: .null :: rest)) := by
  intro T hT X
  obtain ⟨t, st, q⟩ := k T hT X
  exact ⟨t, X.faloadNull hexec (g := F0 m pc ls (.int i :: .null :: rest)) rfl (rest := rest) rfl (by rw [hb]; exact hdg) t st, q⟩
theorem vx_daloadN (hexec : p.tables.exec = Jvm.exec) (hb : c.code = cc) {i : Int32} (hdg : decode cc pc = .ok (.daload, 1)) (k : vx_NoteN p l e R s m args below meth c H locs cells slots Q (F0 m pc ls rest)) : W p l e R s m args below meth c H locs cells slots Q (F0 m pc ls (.int i :: .null :: rest)) := by
  intro T hT X
  obtain ⟨t, st, q⟩ := k T hT X
  exact ⟨t, X.daloadNull hexec (g := F0 m pc ls (.int i :: .null :: rest)) rfl (rest := rest) rfl (by rw [hb]; exact hdg) t st, q⟩
theorem vx_aaloadN (hexec : p.tables.exec = Jvm.exec) (hb : c.code = cc) {i : Int32} (hdg : decode cc pc = .ok (.aaload, 1)) (k : vx_NoteN p l e R s m args below meth c H locs cells slots Q (F0 m pc ls rest)) : W p l e R s m args below meth c H locs cells slots Q (F0 m pc ls (.int i :: .null :: rest)) := by
  intro T hT X
  obtain ⟨t, st, q⟩ := k T hT X
  exact ⟨t, X.aaloadNull hexec (g := F0 m pc ls (.int i :: .null :: rest)) rfl (rest := rest) rfl (by rw [hb]; exact hdg) t st, q⟩
theorem vx_baloadN (hexec : p.tables.exec = Jvm.exec) (hb : c.code = cc) {i : Int32} (hdg : decode cc pc = .ok (.baload, 1)) (k : vx_NoteN p l e R s m args below meth c H locs cells slots Q (F0 m pc ls rest)) : W p l e R s m args below meth c H locs cells slots Q (F0 m pc ls (.int i :: .null :: rest)) := by
  intro T hT X
  obtain ⟨t, st, q⟩ := k T hT X
  exact ⟨t, X.baloadNull hexec (g := F0 m pc ls (.int i :: .null :: rest)) rfl (rest := rest) rfl (by rw [hb]; exact hdg) t st, q⟩
theorem vx_caloadN (hexec : p.tables.exec = Jvm.exec) (hb : c.code = cc) {i : Int32} (hdg : decode cc pc = .ok (.caload, 1)) (k : vx_NoteN p l e R s m args below meth c H locs cells slots Q (F0 m pc ls rest)) : W p l e R s m args below meth c H locs cells slots Q (F0 m pc ls (.int i :: .null :: rest)) := by
  intro T hT X
  obtain ⟨t, st, q⟩ := k T hT X
  exact ⟨t, X.caloadNull hexec (g := F0 m pc ls (.int i :: .null :: rest)) rfl (rest := rest) rfl (by rw [hb]; exact hdg) t st, q⟩
theorem vx_saloadN (hexec : p.tables.exec = Jvm.exec) (hb : c.code = cc) {i : Int32} (hdg : decode cc pc = .ok (.saload, 1)) (k : vx_NoteN p l e R s m args below meth c H locs cells slots Q (F0 m pc ls rest)) : W p l e R s m args below meth c H locs cells slots Q (F0 m pc ls (.int i :: .null :: rest)) := by
  intro T hT X
  obtain ⟨t, st, q⟩ := k T hT X
  exact ⟨t, X.saloadNull hexec (g := F0 m pc ls (.int i :: .null :: rest)) rfl (rest := rest) rfl (by rw [hb]; exact hdg) t st, q⟩
theorem vx_iastoreN (hexec : p.tables.exec = Jvm.exec) (hb : c.code = cc) {x : Int32} {i : Int32} (hdg : decode cc pc = .ok (.iastore, 1)) (k : vx_NoteN p l e R s m args below meth c H locs cells slots Q (F0 m pc ls rest)) : W p l e R s m args below meth c H locs cells slots Q (F0 m pc ls (.int x :: .int i :: .null :: rest)) := by
  intro T hT X
  obtain ⟨t, st, q⟩ := k T hT X
  exact ⟨t, X.iastoreNull hexec (g := F0 m pc ls (.int x :: .int i :: .null :: rest)) rfl (rest := rest) rfl (by rw [hb]; exact hdg) t st, q⟩
theorem vx_lastoreN (hexec : p.tables.exec = Jvm.exec) (hb : c.code = cc) {x : Int64} {i : Int32} (hdg : decode cc pc = .ok (.lastore, 1)) (k : vx_NoteN p l e R s m args below meth c H locs cells slots Q (F0 m pc ls rest)) : W p l e R s m args below meth c H locs cells slots Q (F0 m pc ls (.long x :: .int i :: .null :: rest)) := by
  intro T hT X
  obtain ⟨t, st, q⟩ := k T hT X
  exact ⟨t, X.lastoreNull hexec (g := F0 m pc ls (.long x :: .int i :: .null :: rest)) rfl (rest := rest) rfl (by rw [hb]; exact hdg) t st, q⟩
theorem vx_fastoreN (hexec : p.tables.exec = Jvm.exec) (hb : c.code = cc) {x : UInt32} {i : Int32} (hdg : decode cc pc = .ok (.fastore, 1)) (k : vx_NoteN p l e R s m args below meth c H locs cells slots Q (F0 m pc ls rest)) : W p l e R s m args below meth c H locs cells slots Q (F0 m pc ls (.float x :: .int i :: .null :: rest)) := by
  intro T hT X
  obtain ⟨t, st, q⟩ := k T hT X
  exact ⟨t, X.fastoreNull hexec (g := F0 m pc ls (.float x :: .int i :: .null :: rest)) rfl (rest := rest) rfl (by rw [hb]; exact hdg) t st, q⟩
theorem vx_dastoreN (hexec : p.tables.exec = Jvm.exec) (hb : c.code = cc) {x : UInt64} {i : Int32} (hdg : decode cc pc = .ok (.dastore, 1)) (k : vx_NoteN p l e R s m args below meth c H locs cells slots Q (F0 m pc ls rest)) : W p l e R s m args below meth c H locs cells slots Q (F0 m pc ls (.double x :: .int i :: .null :: rest)) := by
  intro T hT X
  obtain ⟨t, st, q⟩ := k T hT X
  exact ⟨t, X.dastoreNull hexec (g := F0 m pc ls (.double x :: .int i :: .null :: rest)) rfl (rest := rest) rfl (by rw [hb]; exact hdg) t st, q⟩
theorem vx_bastoreN (hexec : p.tables.exec = Jvm.exec) (hb : c.code = cc) {x : Int32} {i : Int32} (hdg : decode cc pc = .ok (.bastore, 1)) (k : vx_NoteN p l e R s m args below meth c H locs cells slots Q (F0 m pc ls rest)) : W p l e R s m args below meth c H locs cells slots Q (F0 m pc ls (.int x :: .int i :: .null :: rest)) := by
  intro T hT X
  obtain ⟨t, st, q⟩ := k T hT X
  exact ⟨t, X.bastoreNull hexec (g := F0 m pc ls (.int x :: .int i :: .null :: rest)) rfl (rest := rest) rfl (by rw [hb]; exact hdg) t st, q⟩
theorem vx_castoreN (hexec : p.tables.exec = Jvm.exec) (hb : c.code = cc) {x : Int32} {i : Int32} (hdg : decode cc pc = .ok (.castore, 1)) (k : vx_NoteN p l e R s m args below meth c H locs cells slots Q (F0 m pc ls rest)) : W p l e R s m args below meth c H locs cells slots Q (F0 m pc ls (.int x :: .int i :: .null :: rest)) := by
  intro T hT X
  obtain ⟨t, st, q⟩ := k T hT X
  exact ⟨t, X.castoreNull hexec (g := F0 m pc ls (.int x :: .int i :: .null :: rest)) rfl (rest := rest) rfl (by rw [hb]; exact hdg) t st, q⟩
theorem vx_sastoreN (hexec : p.tables.exec = Jvm.exec) (hb : c.code = cc) {x : Int32} {i : Int32} (hdg : decode cc pc = .ok (.sastore, 1)) (k : vx_NoteN p l e R s m args below meth c H locs cells slots Q (F0 m pc ls rest)) : W p l e R s m args below meth c H locs cells slots Q (F0 m pc ls (.int x :: .int i :: .null :: rest)) := by
  intro T hT X
  obtain ⟨t, st, q⟩ := k T hT X
  exact ⟨t, X.sastoreNull hexec (g := F0 m pc ls (.int x :: .int i :: .null :: rest)) rfl (rest := rest) rfl (by rw [hb]; exact hdg) t st, q⟩
theorem vx_invokeN {own C : String} {index maxL : Nat} {y : MethodName} {bytes : ByteArray} {ret : Option FieldType} (hexec : p.tables.exec = Jvm.exec) (hb : c.code = cc) (hown : s.vm.findClass own = some m.cls) (hlink : (Cond.methodLink own index y).before args s = true) (hinst : (Cond.instanceMethod y).before args s = true) (hcode : (Cond.code y bytes maxL ret).before args s = true) (hsel : (Cond.selects C y y).before args s = true)
    (hx : y.cls ≠ "java/lang/invoke/MethodHandle" ∧ y.cls ≠ "java/lang/invoke/VarHandle") {As : List Value} (hlen : (parseMethodDescriptor y.desc).map (fun d => d.parameters.length) = some As.length) (hdg : decode cc pc = .ok (.invokevirtual index, 3))
    (k : vx_NoteN p l e R s m args below meth c H locs cells slots Q (F0 m pc ls rest)) {st0 : List Value} (hst : st0 = As.reverse ++ .null :: rest) : W p l e R s m args below meth c H locs cells slots Q (F0 m pc ls st0) := by
  intro T hT X
  obtain ⟨r0, r, hn, hrm, hstR, hsigR⟩ := va_Decl.of hinst hcode
  obtain ⟨c2, r2, m2, q1, q2, q3, q4, kP, hkP, hkPi⟩ := Cond.selects_spec hsel
  cases hn.symm.trans q3
  have hl9 : As.length = r.sig.parameters.length := by
    rw [hsigR] at hlen
    exact (Option.some.inj hlen).symm
  obtain ⟨vm', X1, st1⟩ := X.invokevirtualNull hexec hown hlink hn hrm hstR hkP hkPi hx (g := F0 m pc ls st0) rfl (argsL := As) (rest := rest) hl9 hst (by rw [hb]; exact hdg)
  obtain ⟨t, st, q⟩ := k (T.setVm vm') hT X1
  exact ⟨t, st1 t st, q⟩
theorem vx_newarrayZ {atype : ArrayType} (hexec : p.tables.exec = Jvm.exec) (hb : c.code = cc) {n : Int32} (h0 : n < 0) (hdg : decode cc pc = .ok (.newarray atype, 2)) (k : ∀ tx : String, tx = toString n → vx_Note p l e R s m args below meth c H locs cells slots Q (F0 m pc ls rest) "java/lang/NegativeArraySizeException" tx) : W p l e R s m args below meth c H locs cells slots Q (F0 m pc ls (.int n :: rest)) := by
  intro T hT X
  obtain ⟨t, st, q⟩ := k _ rfl T hT X
  exact ⟨t, X.newarrayNegative hexec (g := F0 m pc ls (.int n :: rest)) rfl h0 (rest := rest) rfl (by rw [hb]; exact hdg) t st, q⟩
end
end VXM
/-! ===== END ===== -/
/-! ===== BEGIN an exception as an object: made, kept, thrown later (no traces kept) ===== -/
section VXK
variable {p : Program} {l : Launch} {e : Env} {R : Room} {s : State} {m₀ : MethodId} {args : Array Value} {below : List Frame} {meth : Method} {c : Code} {W : State} {locs : List Loc} {cells slots : Nat}
set_option maxHeartbeats 1000000 in
theorem vx_ctorMadeS (X : Stand p l e R s m₀ args below meth c W locs cells slots) (hexec : p.tables.exec = Jvm.exec) (htr : e.platform.stackTraces = false) {own cls : String} {names : List String} {ic : Nat}
    (hown : s.vm.findClass own = some m₀.cls) (hcls : Bundle.fit cls = true) (hnames : ∀ n ∈ names, Bundle.fit n = true)
    (h : ∀ a ∈ Bundle.ownAtoms own ic cls names, a.before args s = true)
    (hlocs : ∀ x ∈ locs, ∀ cell, s.heap[x.base]? = some cell → cell.vm.isStatics = false)
    {a : Addr} {cX : ClassId} {kX : Class} (hfoundX : s.vm.findClass cls = some cX) (hkX : s.vm.classes[cX]? = some kX) (hcell : W.heap[a]? = some (freshCell cX kX)) (hnew : s.heap.size ≤ a)
    {msg : Value} (hmsg : msg.isRef = true)
    {g : JFrame} (hg : g.method = m₀) (hsize : g.locals.size = c.maxLocals) {rest : List Value} (hstack : g.stack = msg :: .ref a :: .ref a :: rest)
    (hd6 : decode c.code g.pc = .ok (.invokespecial ic, 3))
    (hRframes : names.length + 3 < R.frames) (hRlocals : 2 * g.monitorRoom + ((Value.ref a :: rest).map fun v => v.category).sum + (13 * (names.length + 1) + 42) ≤ R.locals) :
    ∃ (V : State) (ce : Cell) (L : List Loc), Stand p l e R s m₀ args below meth c (V.setCell a ce) (locs ++ L) cells slots ∧ (∀ y ∈ L, y.base = a) ∧ a < V.heap.size ∧ ce.cls = cX ∧ ce.vm = .none ∧
      ∀ target, Steps p.tables e below ((V.setCell a ce).setTop { g with stack := .ref a :: rest, pc := g.pc + 3 }) target → Steps p.tables e below (W.setTop g) target := by
  have howns : e.platform.frameOwnsMonitors = true := by rw [X.admits.platform]
  have hfin : e.platform.finalization = false := by rw [X.admits.platform]
  have hpl : e.platform.magicAccessors = ({} : Platform).magicAccessors := by rw [X.admits.platform]
  have a' : ∀ x, x ∈ Bundle.ownAtoms own ic cls names → x.holds args s none s [] = true := fun x hx => h x hx
  obtain ⟨T, Z0, L, -, Y⟩ := ThrowableC.of_atoms (args := args) howns hfin hpl (fun x hx => h x (by simp [Bundle.ownAtoms, hx]))
  obtain ⟨Z, M, LZ, LM, hnZ⟩ := Init0T.ofS_atoms (args := args) hpl L Y (fun x hx => h x (by simp [Bundle.ownAtoms, hx]))
  obtain ⟨P1, Ps, hlen, L1, hL, hP1m, hlink1, hlink⟩ := Bundle.chainS (args := args) hpl hnZ names cls hcls hnames (fun x hx => h x (by simp [Bundle.ownAtoms, hx]))
  have hfound : s.vm.findClass cls = some P1.m.cls := findClass_of_methodNamed hP1m
  cases Option.some.inj (hfoundX.symm.trans hfound)
  obtain ⟨c1, kX', hc1, hk, hord, -, -, hn6⟩ := Cond.instantiable_spec (a' (.instantiable cls 6) (by simp [Bundle.ownAtoms]))
  cases Option.some.inj (hc1.symm.trans hfound)
  cases Option.some.inj (hkX.symm.trans hk)
  have hsel0 : selectMethod e.platform s.vm P1.m.cls T.fill0 = .method T.fill0 := by
    obtain ⟨c2, r2, m2, q1, q2, q3, q4, -⟩ := Cond.selects_spec (a' (.selects cls Bundle.tFill0 Bundle.tFill0) (by simp [Bundle.ownAtoms]))
    cases Option.some.inj (q1.symm.trans hfound)
    cases Option.some.inj (q2.symm.trans (State.methodFound?_of_named Y.fill0 (by decide)))
    cases Option.some.inj (q3.symm.trans Y.fill0)
    rw [Launch.admits_selectMethod X.admits]; exact q4
  have hselF : selectMethod e.platform s.vm P1.m.cls T.fill = .method T.fill := by
    obtain ⟨c2, r2, m2, q1, q2, q3, q4, -⟩ := Cond.selects_spec (a' (.selects cls Bundle.tFill Bundle.tFill) (by simp [Bundle.ownAtoms]))
    cases Option.some.inj (q1.symm.trans hfound)
    cases Option.some.inj (q2.symm.trans (State.methodFound?_of_named Y.fill (by decide)))
    cases Option.some.inj (q3.symm.trans Y.fill)
    rw [Launch.admits_selectMethod X.admits]; exact q4
  obtain ⟨cellS0, hcS0, hiss⟩ := Y.statics
  obtain ⟨u0, hu0⟩ := Cond.staticRefV Y.unassigned L.unassignedStatic L.statics hcS0 hiss (a' (.isRef (.static Bundle.tN "UNASSIGNED_STACK" Bundle.steD)) (by simp [Bundle.ownAtoms]))
  obtain ⟨sen, hsen⟩ := Cond.staticRefV Y.sentinel L.sentinelStatic L.statics hcS0 hiss (a' (.isRef (.static Bundle.tN "SUPPRESSED_SENTINEL" Bundle.listD)) (by simp [Bundle.ownAtoms]))
  obtain ⟨ci198, i198, fB, hk198, hg198, ha198, hsB, -, hnB, htB, hffB⟩ := Cond.ownField (t := .object "java/lang/Object") Y.found L.cls (by decide +kernel) (a' (.fieldLink Bundle.tN 198 Bundle.tN "backtrace" "Ljava/lang/Object;") (by simp [Bundle.ownAtoms])) (a' (.lays Bundle.tN Bundle.tN "backtrace" "Ljava/lang/Object;") (by simp [Bundle.ownAtoms])) e.platform hpl
  obtain ⟨cellS, hcS', heS, -, hkeep⟩ := X.same.2.2.2.2.2 T.aS cellS0 hcS0
  have hcellS : W.heap[T.aS]? = some cellS := hcS'
  have hout' : ∀ i, (⟨T.aS, i⟩ : Loc) ∉ locs := fun i hmem => by
    have := hlocs _ hmem cellS0 hcS0
    rw [hiss] at this; cases this
  have hknownS : cellS.vm ≠ .unknown := by
    rw [heS]; intro hu
    rw [show cellS0.vm = .unknown from hu] at hiss
    cases hiss
  have hneS : T.aS ≠ a := Nat.ne_of_lt (Nat.lt_of_lt_of_le (Array.getElem?_eq_some_iff.mp hcS0).1 hnew)
  obtain ⟨iM, hffM⟩ := Y.msg
  obtain ⟨tyC, dC, hdC, hdnC⟩ := Cond.laysAt hfound hk Y.cause (a' (.lays cls Bundle.tN "cause" "Ljava/lang/Throwable;") (by simp [Bundle.ownAtoms]))
  obtain ⟨tyS, dS, hdS, hdnS⟩ := Cond.laysAt hfound hk Y.stack (a' (.lays cls Bundle.tN "stackTrace" Bundle.steD) (by simp [Bundle.ownAtoms]))
  obtain ⟨tyP, dP, hdP, hdnP⟩ := Cond.laysAt hfound hk Y.supp (a' (.lays cls Bundle.tN "suppressedExceptions" Bundle.listD) (by simp [Bundle.ownAtoms]))
  obtain ⟨tyM, dM, hdM, hdnM⟩ := Cond.laysAt hfound hk hffM (a' (.lays cls Bundle.tN "detailMessage" "Ljava/lang/String;") (by simp [Bundle.ownAtoms]))
  obtain ⟨tyB, dB, hdB, hdnB⟩ := Cond.laysAt hfound hk hffB (a' (.lays cls Bundle.tN "backtrace" "Ljava/lang/Object;") (by simp [Bundle.ownAtoms]))
  have bC := Cond.laysApart hdB hdC hdnB hdnC (by rw [hnB, Y.causeName]; decide)
  have bS := Cond.laysApart hdB hdS hdnB hdnS (by rw [hnB, Y.stackName]; decide)
  have bP := Cond.laysApart hdB hdP hdnB hdnP (by rw [hnB, Y.suppName]; decide)
  have hskip : SkipFacts T e.platform s (fun u => u) u0 ((preparedCellV T.toThrowableT (freshCell P1.m.cls kX) a u0 sen).withEntry W.cur) :=
    ⟨{ ci198 := ci198, i198 := i198, fBack := fB }, ⟨hk198, hg198, ha198, hsB⟩, by
      have := fresh_default (c := P1.m.cls) tyB
      rw [htB] at this
      simpa [preparedCellV, Cell.setSlot, Cell.withEntry, Array.getElem?_setIfInBounds, bC, bS, bP, bC.symm, bS.symm, bP.symm, defaultValue] using this, fun _ _ => rfl⟩
  obtain ⟨tm, methC, cdC, kC, vm₁, hnC, -, -, -, -, -, -, -, hW₁, st1⟩ := Steps.initColdS (tb := p.tables) (e := e) (below := below) (s := s) (U := W) X.here hexec X.warmed hpl hown (t := Bundle.initS cls) rfl rfl (Bundle.fit_spec hcls).2
    (a' (.methodLink own ic (Bundle.initS cls)) (by simp [Bundle.ownAtoms])) (h (.instanceMethod (Bundle.initS cls)) (by cases names <;> simp [Bundle.ownAtoms, Bundle.chainSAtoms, Bundle.passSAtoms])) (bytes := Bundle.six) (maxL := 2) (h (.code (Bundle.initS cls) Bundle.six 2 none) (by cases names <;> simp [Bundle.ownAtoms, Bundle.chainSAtoms, Bundle.passSAtoms]))
    (f := g) hg (a := a) (msg := msg) (rest := .ref a :: rest) hstack hd6
  cases Option.some.inj (hnC.symm.trans hP1m)
  have X₁ := X.noted hW₁
  obtain ⟨vm₂, X₂, st2⟩ := X₁.ctorMessageOffV hexec (g := { g with stack := .ref a :: rest }) hg hsize T L Z LZ M LM (P1 :: Ps)
    (fun P hP => by rcases List.mem_cons.mp hP with rfl | hP; exact L1; exact hL P hP) ⟨hlink1, hlink⟩ (u0 := u0) (sen := sen) (self := a) hmsg (cell := freshCell P1.m.cls kX) (cellS := cellS)
    hcell (fun _ => by simp) (by simp) rfl rfl hsel0 hselF hcellS hneS hknownS (by rw [hkeep _ (hout' _)]; exact hu0) (by rw [hkeep _ (hout' _)]; exact hsen)
    (Takes.of_laid hk hord tyC (by rw [Y.causeType]; rfl)) (Takes.of_laid hk hord tyS (by rw [Y.stackType]; exact fits_refV_array _ u0)) (Takes.of_laid hk hord tyP (by rw [Y.suppType]; exact fits_refV_object _ sen))
    (Takes.of_laid hk hord tyM (by rw [Y.msgType]; exact fits_refV_object _ ⟨msg, hmsg⟩)) Y.objLocals hskip htr [] hd6
    (by simp only [List.length_cons, hlen]; omega) (by simp only [List.length_cons, hlen]; exact hRlocals)
  have hlt : a < ((W.setVm vm₁).setVm vm₂).heap.size := (Array.getElem?_eq_some_iff.mp hcell).1
  refine ⟨(W.setVm vm₁).setVm vm₂, _, _, X₂, fun y hy => ?_, hlt, rfl, rfl, fun target hwalk => st1 _ (fun acts => ?_)⟩
  · simp only [List.mem_cons, List.not_mem_nil, or_false] at hy
    rcases hy with rfl | rfl | rfl | rfl | rfl <;> rfl
  · rw [doInvoke_state]
    exact st2 _ hwalk
set_option maxHeartbeats 1000000 in
theorem vx_ctorMade0 (X : Stand p l e R s m₀ args below meth c W locs cells slots) (hexec : p.tables.exec = Jvm.exec) (htr : e.platform.stackTraces = false) {own cls : String} {names : List String} {ic : Nat}
    (hown : s.vm.findClass own = some m₀.cls) (hcls : Bundle.fit cls = true) (hnames : ∀ n ∈ names, Bundle.fit n = true)
    (h : ∀ a ∈ Bundle.ownAtoms0 own ic cls names, a.before args s = true)
    (hlocs : ∀ x ∈ locs, ∀ cell, s.heap[x.base]? = some cell → cell.vm.isStatics = false)
    {a : Addr} {cX : ClassId} {kX : Class} (hfoundX : s.vm.findClass cls = some cX) (hkX : s.vm.classes[cX]? = some kX) (hcell : W.heap[a]? = some (freshCell cX kX)) (hnew : s.heap.size ≤ a)
    {g : JFrame} (hg : g.method = m₀) (hsize : g.locals.size = c.maxLocals) {rest : List Value} (hstack : g.stack = .ref a :: .ref a :: rest)
    (hd6 : decode c.code g.pc = .ok (.invokespecial ic, 3))
    (hRframes : names.length + 3 < R.frames) (hRlocals : 2 * g.monitorRoom + ((Value.ref a :: rest).map fun v => v.category).sum + (13 * (names.length + 1) + 41) ≤ R.locals) :
    ∃ (V : State) (ce : Cell) (L : List Loc), Stand p l e R s m₀ args below meth c (V.setCell a ce) (locs ++ L) cells slots ∧ (∀ y ∈ L, y.base = a) ∧ a < V.heap.size ∧ ce.cls = cX ∧ ce.vm = .none ∧
      ∀ target, Steps p.tables e below ((V.setCell a ce).setTop { g with stack := .ref a :: rest, pc := g.pc + 3 }) target → Steps p.tables e below (W.setTop g) target := by
  have howns : e.platform.frameOwnsMonitors = true := by rw [X.admits.platform]
  have hfin : e.platform.finalization = false := by rw [X.admits.platform]
  have hpl : e.platform.magicAccessors = ({} : Platform).magicAccessors := by rw [X.admits.platform]
  have a' : ∀ x, x ∈ Bundle.ownAtoms0 own ic cls names → x.holds args s none s [] = true := fun x hx => h x hx
  obtain ⟨T, Z, L, LZ, Y⟩ := ThrowableC.of_atoms (args := args) howns hfin hpl (fun x hx => h x (by simp [Bundle.ownAtoms0, hx]))
  obtain ⟨P1, Ps, hlen, L1, hL, hP1m, hlink1, hlink⟩ := Bundle.chain0 (args := args) hpl Y.init0 names cls hcls hnames (fun x hx => h x (by simp [Bundle.ownAtoms0, hx]))
  have hfound : s.vm.findClass cls = some P1.m.cls := findClass_of_methodNamed hP1m
  cases Option.some.inj (hfoundX.symm.trans hfound)
  obtain ⟨c1, kX', hc1, hk, hord, -, -, hn6⟩ := Cond.instantiable_spec (a' (.instantiable cls 6) (by simp [Bundle.ownAtoms0]))
  cases Option.some.inj (hc1.symm.trans hfound)
  cases Option.some.inj (hkX.symm.trans hk)
  have hsel0 : selectMethod e.platform s.vm P1.m.cls T.fill0 = .method T.fill0 := by
    obtain ⟨c2, r2, m2, q1, q2, q3, q4, -⟩ := Cond.selects_spec (a' (.selects cls Bundle.tFill0 Bundle.tFill0) (by simp [Bundle.ownAtoms0]))
    cases Option.some.inj (q1.symm.trans hfound)
    cases Option.some.inj (q2.symm.trans (State.methodFound?_of_named Y.fill0 (by decide)))
    cases Option.some.inj (q3.symm.trans Y.fill0)
    rw [Launch.admits_selectMethod X.admits]; exact q4
  have hselF : selectMethod e.platform s.vm P1.m.cls T.fill = .method T.fill := by
    obtain ⟨c2, r2, m2, q1, q2, q3, q4, -⟩ := Cond.selects_spec (a' (.selects cls Bundle.tFill Bundle.tFill) (by simp [Bundle.ownAtoms0]))
    cases Option.some.inj (q1.symm.trans hfound)
    cases Option.some.inj (q2.symm.trans (State.methodFound?_of_named Y.fill (by decide)))
    cases Option.some.inj (q3.symm.trans Y.fill)
    rw [Launch.admits_selectMethod X.admits]; exact q4
  obtain ⟨cellS0, hcS0, hiss⟩ := Y.statics
  obtain ⟨u0, hu0⟩ := Cond.staticRefV Y.unassigned L.unassignedStatic L.statics hcS0 hiss (a' (.isRef (.static Bundle.tN "UNASSIGNED_STACK" Bundle.steD)) (by simp [Bundle.ownAtoms0]))
  obtain ⟨sen, hsen⟩ := Cond.staticRefV Y.sentinel L.sentinelStatic L.statics hcS0 hiss (a' (.isRef (.static Bundle.tN "SUPPRESSED_SENTINEL" Bundle.listD)) (by simp [Bundle.ownAtoms0]))
  obtain ⟨ci198, i198, fB, hk198, hg198, ha198, hsB, -, hnB, htB, hffB⟩ := Cond.ownField (t := .object "java/lang/Object") Y.found L.cls (by decide +kernel) (a' (.fieldLink Bundle.tN 198 Bundle.tN "backtrace" "Ljava/lang/Object;") (by simp [Bundle.ownAtoms0])) (a' (.lays Bundle.tN Bundle.tN "backtrace" "Ljava/lang/Object;") (by simp [Bundle.ownAtoms0])) e.platform hpl
  obtain ⟨cellS, hcS', heS, -, hkeep⟩ := X.same.2.2.2.2.2 T.aS cellS0 hcS0
  have hcellS : W.heap[T.aS]? = some cellS := hcS'
  have hout' : ∀ i, (⟨T.aS, i⟩ : Loc) ∉ locs := fun i hmem => by
    have := hlocs _ hmem cellS0 hcS0
    rw [hiss] at this; cases this
  have hknownS : cellS.vm ≠ .unknown := by
    rw [heS]; intro hu
    rw [show cellS0.vm = .unknown from hu] at hiss
    cases hiss
  have hneS : T.aS ≠ a := Nat.ne_of_lt (Nat.lt_of_lt_of_le (Array.getElem?_eq_some_iff.mp hcS0).1 hnew)
  obtain ⟨iM, hffM⟩ := Y.msg
  obtain ⟨tyC, dC, hdC, hdnC⟩ := Cond.laysAt hfound hk Y.cause (a' (.lays cls Bundle.tN "cause" "Ljava/lang/Throwable;") (by simp [Bundle.ownAtoms0]))
  obtain ⟨tyS, dS, hdS, hdnS⟩ := Cond.laysAt hfound hk Y.stack (a' (.lays cls Bundle.tN "stackTrace" Bundle.steD) (by simp [Bundle.ownAtoms0]))
  obtain ⟨tyP, dP, hdP, hdnP⟩ := Cond.laysAt hfound hk Y.supp (a' (.lays cls Bundle.tN "suppressedExceptions" Bundle.listD) (by simp [Bundle.ownAtoms0]))
  obtain ⟨tyM, dM, hdM, hdnM⟩ := Cond.laysAt hfound hk hffM (a' (.lays cls Bundle.tN "detailMessage" "Ljava/lang/String;") (by simp [Bundle.ownAtoms0]))
  obtain ⟨tyB, dB, hdB, hdnB⟩ := Cond.laysAt hfound hk hffB (a' (.lays cls Bundle.tN "backtrace" "Ljava/lang/Object;") (by simp [Bundle.ownAtoms0]))
  have bC := Cond.laysApart hdB hdC hdnB hdnC (by rw [hnB, Y.causeName]; decide)
  have bS := Cond.laysApart hdB hdS hdnB hdnS (by rw [hnB, Y.stackName]; decide)
  have bP := Cond.laysApart hdB hdP hdnB hdnP (by rw [hnB, Y.suppName]; decide)
  have hskip : SkipFacts T e.platform s (fun u => u) u0 ((preparedCellV T.toThrowableT (freshCell P1.m.cls kX) a u0 sen).withEntry W.cur) :=
    ⟨{ ci198 := ci198, i198 := i198, fBack := fB }, ⟨hk198, hg198, ha198, hsB⟩, by
      have := fresh_default (c := P1.m.cls) tyB
      rw [htB] at this
      simpa [preparedCellV, Cell.setSlot, Cell.withEntry, Array.getElem?_setIfInBounds, bC, bS, bP, bC.symm, bS.symm, bP.symm, defaultValue] using this, fun _ _ => rfl⟩
  obtain ⟨tm, methC, cdC, kC, vm₁, hnC, -, -, -, -, -, -, -, hW₁, st1⟩ := Steps.initCold (tb := p.tables) (e := e) (below := below) (s := s) (U := W) X.here hexec X.warmed hpl hown (t := Bundle.init0 cls) rfl rfl (Bundle.fit_spec hcls).2
    (a' (.methodLink own ic (Bundle.init0 cls)) (by simp [Bundle.ownAtoms0])) (h (.instanceMethod (Bundle.init0 cls)) (by cases names <;> simp [Bundle.ownAtoms0, Bundle.chain0Atoms, Bundle.passAtoms])) (bytes := Bundle.five) (maxL := 1) (h (.code (Bundle.init0 cls) Bundle.five 1 none) (by cases names <;> simp [Bundle.ownAtoms0, Bundle.chain0Atoms, Bundle.passAtoms]))
    (f := g) hg (a := a) (rest := .ref a :: rest) hstack hd6
  cases Option.some.inj (hnC.symm.trans hP1m)
  have X₁ := X.noted hW₁
  obtain ⟨vm₂, X₂, st2⟩ := X₁.ctorPlainOffV hexec (g := { g with stack := .ref a :: rest }) hg hsize T L Z LZ (P1 :: Ps)
    (fun P hP => by rcases List.mem_cons.mp hP with rfl | hP; exact L1; exact hL P hP) ⟨hlink1, hlink⟩ (u0 := u0) (sen := sen) (self := a) (cell := freshCell P1.m.cls kX) (cellS := cellS)
    hcell (fun _ => by simp) (by simp) rfl rfl hsel0 hselF hcellS hneS hknownS (by rw [hkeep _ (hout' _)]; exact hu0) (by rw [hkeep _ (hout' _)]; exact hsen)
    (Takes.of_laid hk hord tyC (by rw [Y.causeType]; rfl)) (Takes.of_laid hk hord tyS (by rw [Y.stackType]; exact fits_refV_array _ u0)) (Takes.of_laid hk hord tyP (by rw [Y.suppType]; exact fits_refV_object _ sen)) Y.objLocals hskip htr [] hd6
    (by simp only [List.length_cons, hlen]; omega) (by simp only [List.length_cons, hlen]; exact hRlocals)
  have hlt : a < ((W.setVm vm₁).setVm vm₂).heap.size := (Array.getElem?_eq_some_iff.mp hcell).1
  refine ⟨(W.setVm vm₁).setVm vm₂, _, _, X₂, fun y hy => ?_, hlt, rfl, rfl, fun target hwalk => st1 _ (fun acts => ?_)⟩
  · simp only [List.mem_cons, List.not_mem_nil, or_false] at hy
    rcases hy with rfl | rfl | rfl | rfl <;> rfl
  · rw [doInvoke_state]
    exact st2 _ hwalk
end VXK
section VXK2
variable {p : Program} {l : Launch} {e : Env} {R : Room} {s : State} {m : MethodId} {args : Array Value} {below : List Frame} {meth : Method} {c : Code} {H : Heap} {locs : List Loc} {cells slots : Nat} {Q : State → Prop}
variable {ls : Array Slot} {rest : List Value} {D : va_G} {cl : List vw_C} {tys : List (ClassId × FieldType)} {ws : va_W}
/-- 'new E("text")' that isn't thrown at once: the object goes on the stack -/
theorem vx_makeS {cc : ByteArray} {pc : Nat} (hexec : p.tables.exec = Jvm.exec) (hb : c.code = cc) (hl : l.stackTraces = false) {own cls text : String} {names : List String} {ik is ic sa ci : Nat} {A : Nat → Prop} {T0 : u_T}
    (hown : s.vm.findClass own = some m.cls) (hcls : Bundle.fit cls = true) (hnames : ∀ n ∈ names, Bundle.fit n = true)
    (hk : (Cond.classLink own ik cls).before args s = true) (hini : (Cond.initialized cls).before args s = true) (hstr : vk_R own is text sa s) (hat : ∀ w ∈ vx_atS own ic cls names, w.before args s = true)
    (hgood : ∀ w ∈ Cond.classLink own ik cls :: Cond.initialized cls :: vx_atS own ic cls names, vx_ot w = true)
    (hU : vx_Zq Bundle.tN "UNASSIGNED_STACK" Bundle.steD A s s.heap) (hN : vx_Zq Bundle.tN "SUPPRESSED_SENTINEL" Bundle.listD A s s.heap) (hS : va_S A s.heap H locs) (hsize : ls.size = c.maxLocals)
    (d0 : decode cc pc = .ok (.new ik, 3)) (d3 : decode cc (pc + 3) = .ok (.dup, 1)) (d4 : decode cc (pc + 4) = .ok (.ldc is, 2)) (d6 : decode cc (pc + 6) = .ok (.invokespecial ic, 3))
    (hK : va_K D cl tys s) (hP : va_P D cl ws H) (hD : va_D A ws) (hA : ∀ q, s.heap.size ≤ q → A q) (hc : cl[ci]? = some (cls, T0, 0))
    (hRframes : names.length + 3 < R.frames) (hRlocals : (rest.map fun v => v.category).sum + (13 * (names.length + 1) + 43) ≤ R.locals) (hRcells : cells + 1 ≤ R.cells) (hRslots : slots + 6 ≤ R.slots)
    (kk : ∀ (q : Nat) (H1 : Heap), va_P D cl (ws ++ [(q, .inr (ci, []))]) H1 → va_D A (ws ++ [(q, .inr (ci, []))]) → va_S A s.heap H1 locs → W p l e R s m args below meth c H1 locs (cells + 1) (slots + 6) Q (F0 m (pc + 9) ls (.ref q :: rest))) :
    W p l e R s m args below meth c H locs cells slots Q (F0 m pc ls rest) := by
  intro T hT X
  subst hT
  have htr : e.platform.stackTraces = false := (show e.platform.stackTraces = l.stackTraces by rw [X.admits.platform]).trans hl
  have Y := vx_rebase X (R' := { frames := R.frames, locals := R.locals, cells := 1, slots := 6 }) (Nat.le_refl _) (Nat.le_refl _) hRcells hRslots
  obtain ⟨s', hA'⟩ : ∃ z, z = (T.setVm s.vm).setFrames (.invoking m args :: below) := ⟨_, rfl⟩
  rw [← hA'] at Y
  have hvm : s'.vm = s.vm := by rw [hA']; rfl
  have hhp : s'.heap = T.heap := by rw [hA']; rfl
  have hW0 : s.WarmedH s'.vm := by rw [hvm]; exact State.WarmedH.refl s
  have hat' : ∀ w ∈ vx_atS own ic cls names, w.before args s' = true := fun w hw => vx_ot_at hW0 hvm.symm (hgood w (List.mem_cons_of_mem _ (List.mem_cons_of_mem _ hw))) (hat w hw)
  have hk' : (Cond.classLink own ik cls).before args s' = true := vx_ot_at hW0 hvm.symm (hgood _ List.mem_cons_self) hk
  have hini' : (Cond.initialized cls).before args s' = true := vx_ot_at hW0 hvm.symm (hgood _ (List.mem_cons_of_mem _ List.mem_cons_self)) hini
  have hU' : vx_Zq Bundle.tN "UNASSIGNED_STACK" Bundle.steD A s' s'.heap := by rw [hhp]; exact vx_Zq.moved hW0.alike (hU.kept hS.2.1)
  have hN' : vx_Zq Bundle.tN "SUPPRESSED_SENTINEL" Bundle.listD A s' s'.heap := by rw [hhp]; exact vx_Zq.moved hW0.alike (hN.kept hS.2.1)
  have h : ∀ w ∈ Bundle.ownAtoms own ic cls names, w.before args s' = true := vx_own hat' (vx_isRefq hU'.1) (vx_isRefq hN'.1) hU'.2.word hN'.2.word
  have hown' : s'.vm.findClass own = some m.cls := by rw [hvm]; exact hown
  have hins : (Cond.instantiable cls 6).before args s' = true := h _ (by simp [Bundle.ownAtoms])
  obtain ⟨vm₁, cX, kX, hfX, hkX, -, -, X₁, st1⟩ := Y.newCold hexec (own := own) (C := cls) (index := ik) (n := 6) hown' hk' hins hini'
    (g := F0 m pc ls rest) rfl (by rw [hb]; exact d0) (Nat.le_refl _) (Nat.le_refl _)
  generalize hT1 : (T.setVm vm₁).pushCell { cls := cX, slots := kX.instanceTypes.map defaultValue, vm := .none } = T1 at X₁ st1
  have hcat : (Value.ref T.heap.size).category = 1 := rfl
  have hcellA : T1.heap[T.heap.size]? = some (freshCell cX kX) := by rw [← hT1]; exact State.heap_pushCell_size _ _
  have d3' : decode c.code (pc + 3) = .ok (.dup, 1) := by rw [hb]; exact d3
  have d4' : decode c.code (pc + 4) = .ok (.ldc is, 2) := by rw [hb]; exact d4
  have hstr' : vk_R own is text sa s' := vk_R.warm hW0 hstr
  obtain ⟨V, ce, L, Z, hL, hlt, hcl9, hvm9, st⟩ := vx_ctorMadeS X₁ hexec htr (own := own) (cls := cls) (names := names) (ic := ic) hown' hcls hnames h (fun x hx => nomatch hx) hfX hkX hcellA (by rw [hhp]; exact Nat.le_refl _) (msg := .ref sa) rfl
    (g := { method := m, pc := pc + 6, locals := ls, stack := .ref sa :: .ref T.heap.size :: .ref T.heap.size :: rest, locked := none }) rfl hsize (rest := rest) rfl
    (by rw [hb]; exact d6) hRframes (by simp only [List.map_cons, List.sum_cons, hcat]; omega)
  have Z0 := Stand.forget (locs := []) Z (fun y hy => by rw [hL y hy, hhp]; exact Nat.le_refl _)
  obtain ⟨f1, f2⟩ := vx_frame Z0.same
  rw [hhp] at f1 f2
  have hcid : ce.cls = D.1 ci := by
    rw [hcl9]
    have h1 := (hK.1 ci _ hc).2.1
    rw [hvm] at hfX
    exact Option.some.inj (hfX.symm.trans h1)
  have hh : (V.setCell T.heap.size ce).heap[T.heap.size]? = some ce := heapAt_setCell_self (s := V) ce hlt
  subst hA'
  have X5 := vx_back9 X Y Z0
  have X6 : Stand p l e R s m args below meth c (V.setCell T.heap.size ce) locs (cells + 1) (slots + 6) := { X5 with same := X5.same.mono (by omega) (by omega) }
  have hk9 : ∀ (k : Nat) (x : Nat × va_E), ws[k]? = some x → (V.setCell T.heap.size ce).heap[x.1]? = T.heap[x.1]? := fun k x hx => f2 x.1 ((hP k x hx).lt) (fun z hz => nomatch hz)
  obtain ⟨t, a1, b1⟩ := kk T.heap.size (V.setCell T.heap.size ce).heap ((hP.kept hk9).app (fun k x hx => by
      have hz : k < 1 := (List.getElem?_eq_some_iff.mp hx).1
      rw [show k = 0 by omega] at hx
      cases hx
      exact ⟨_, hc, ce, hh, hcid, hvm9, fun k hk => absurd hk (Nat.not_lt_zero k)⟩)) (hD.push hP rfl (hA _ hS.1)) ⟨Nat.le_trans hS.1 f1, fun q h1 h2 => (f2 q (Nat.lt_of_lt_of_le h1 hS.1) (fun z hz => nomatch hz)).trans (hS.2.1 q h1 h2), hS.2.2⟩ _ rfl X6
  refine ⟨t, st1 _ ?_, b1⟩
  show Steps p.tables e below (T1.setTop { method := m, pc := pc + 3, locals := ls, stack := .ref T.heap.size :: rest, locked := none }) _
  jvm_step X₁.here [X₁.here.top, hexec, d3', Value.category]
  exact X₁.ldcString hexec (own := own) (text := text) (index := is) (a := sa) hown' hstr'.1 hstr'.2
    (g := { method := m, pc := pc + 4, locals := ls, stack := .ref T.heap.size :: .ref T.heap.size :: rest, locked := none }) rfl d4' _ (st _ a1)
/-- 'new E()' that isn't thrown at once: the object goes on the stack -/
theorem vx_make0 {cc : ByteArray} {pc : Nat} (hexec : p.tables.exec = Jvm.exec) (hb : c.code = cc) (hl : l.stackTraces = false) {own cls : String} {names : List String} {ik ic ci : Nat} {A : Nat → Prop} {T0 : u_T}
    (hown : s.vm.findClass own = some m.cls) (hcls : Bundle.fit cls = true) (hnames : ∀ n ∈ names, Bundle.fit n = true)
    (hk : (Cond.classLink own ik cls).before args s = true) (hini : (Cond.initialized cls).before args s = true) (hat : ∀ w ∈ vx_at0 own ic cls names, w.before args s = true)
    (hgood : ∀ w ∈ Cond.classLink own ik cls :: Cond.initialized cls :: vx_at0 own ic cls names, vx_ot w = true)
    (hU : vx_Zq Bundle.tN "UNASSIGNED_STACK" Bundle.steD A s s.heap) (hN : vx_Zq Bundle.tN "SUPPRESSED_SENTINEL" Bundle.listD A s s.heap) (hS : va_S A s.heap H locs) (hsize : ls.size = c.maxLocals)
    (d0 : decode cc pc = .ok (.new ik, 3)) (d3 : decode cc (pc + 3) = .ok (.dup, 1)) (d4 : decode cc (pc + 4) = .ok (.invokespecial ic, 3))
    (hK : va_K D cl tys s) (hP : va_P D cl ws H) (hD : va_D A ws) (hA : ∀ q, s.heap.size ≤ q → A q) (hc : cl[ci]? = some (cls, T0, 0))
    (hRframes : names.length + 3 < R.frames) (hRlocals : (rest.map fun v => v.category).sum + (13 * (names.length + 1) + 42) ≤ R.locals) (hRcells : cells + 1 ≤ R.cells) (hRslots : slots + 6 ≤ R.slots)
    (kk : ∀ (q : Nat) (H1 : Heap), va_P D cl (ws ++ [(q, .inr (ci, []))]) H1 → va_D A (ws ++ [(q, .inr (ci, []))]) → va_S A s.heap H1 locs → W p l e R s m args below meth c H1 locs (cells + 1) (slots + 6) Q (F0 m (pc + 7) ls (.ref q :: rest))) :
    W p l e R s m args below meth c H locs cells slots Q (F0 m pc ls rest) := by
  intro T hT X
  subst hT
  have htr : e.platform.stackTraces = false := (show e.platform.stackTraces = l.stackTraces by rw [X.admits.platform]).trans hl
  have Y := vx_rebase X (R' := { frames := R.frames, locals := R.locals, cells := 1, slots := 6 }) (Nat.le_refl _) (Nat.le_refl _) hRcells hRslots
  obtain ⟨s', hA'⟩ : ∃ z, z = (T.setVm s.vm).setFrames (.invoking m args :: below) := ⟨_, rfl⟩
  rw [← hA'] at Y
  have hvm : s'.vm = s.vm := by rw [hA']; rfl
  have hhp : s'.heap = T.heap := by rw [hA']; rfl
  have hW0 : s.WarmedH s'.vm := by rw [hvm]; exact State.WarmedH.refl s
  have hat' : ∀ w ∈ vx_at0 own ic cls names, w.before args s' = true := fun w hw => vx_ot_at hW0 hvm.symm (hgood w (List.mem_cons_of_mem _ (List.mem_cons_of_mem _ hw))) (hat w hw)
  have hk' : (Cond.classLink own ik cls).before args s' = true := vx_ot_at hW0 hvm.symm (hgood _ List.mem_cons_self) hk
  have hini' : (Cond.initialized cls).before args s' = true := vx_ot_at hW0 hvm.symm (hgood _ (List.mem_cons_of_mem _ List.mem_cons_self)) hini
  have hU' : vx_Zq Bundle.tN "UNASSIGNED_STACK" Bundle.steD A s' s'.heap := by rw [hhp]; exact vx_Zq.moved hW0.alike (hU.kept hS.2.1)
  have hN' : vx_Zq Bundle.tN "SUPPRESSED_SENTINEL" Bundle.listD A s' s'.heap := by rw [hhp]; exact vx_Zq.moved hW0.alike (hN.kept hS.2.1)
  have h : ∀ w ∈ Bundle.ownAtoms0 own ic cls names, w.before args s' = true := vx_own hat' (vx_isRefq hU'.1) (vx_isRefq hN'.1) hU'.2.word hN'.2.word
  have hown' : s'.vm.findClass own = some m.cls := by rw [hvm]; exact hown
  have hins : (Cond.instantiable cls 6).before args s' = true := h _ (by simp [Bundle.ownAtoms0])
  obtain ⟨vm₁, cX, kX, hfX, hkX, -, -, X₁, st1⟩ := Y.newCold hexec (own := own) (C := cls) (index := ik) (n := 6) hown' hk' hins hini'
    (g := F0 m pc ls rest) rfl (by rw [hb]; exact d0) (Nat.le_refl _) (Nat.le_refl _)
  generalize hT1 : (T.setVm vm₁).pushCell { cls := cX, slots := kX.instanceTypes.map defaultValue, vm := .none } = T1 at X₁ st1
  have hcat : (Value.ref T.heap.size).category = 1 := rfl
  have hcellA : T1.heap[T.heap.size]? = some (freshCell cX kX) := by rw [← hT1]; exact State.heap_pushCell_size _ _
  have d3' : decode c.code (pc + 3) = .ok (.dup, 1) := by rw [hb]; exact d3
  obtain ⟨V, ce, L, Z, hL, hlt, hcl9, hvm9, st⟩ := vx_ctorMade0 X₁ hexec htr (own := own) (cls := cls) (names := names) (ic := ic) hown' hcls hnames h (fun x hx => nomatch hx) hfX hkX hcellA (by rw [hhp]; exact Nat.le_refl _)
    (g := { method := m, pc := pc + 4, locals := ls, stack := .ref T.heap.size :: .ref T.heap.size :: rest, locked := none }) rfl hsize (rest := rest) rfl
    (by rw [hb]; exact d4) hRframes (by simp only [List.map_cons, List.sum_cons, hcat]; omega)
  have Z0 := Stand.forget (locs := []) Z (fun y hy => by rw [hL y hy, hhp]; exact Nat.le_refl _)
  obtain ⟨f1, f2⟩ := vx_frame Z0.same
  rw [hhp] at f1 f2
  have hcid : ce.cls = D.1 ci := by
    rw [hcl9]
    have h1 := (hK.1 ci _ hc).2.1
    rw [hvm] at hfX
    exact Option.some.inj (hfX.symm.trans h1)
  have hh : (V.setCell T.heap.size ce).heap[T.heap.size]? = some ce := heapAt_setCell_self (s := V) ce hlt
  subst hA'
  have X5 := vx_back9 X Y Z0
  have X6 : Stand p l e R s m args below meth c (V.setCell T.heap.size ce) locs (cells + 1) (slots + 6) := { X5 with same := X5.same.mono (by omega) (by omega) }
  have hk9 : ∀ (k : Nat) (x : Nat × va_E), ws[k]? = some x → (V.setCell T.heap.size ce).heap[x.1]? = T.heap[x.1]? := fun k x hx => f2 x.1 ((hP k x hx).lt) (fun z hz => nomatch hz)
  obtain ⟨t, a1, b1⟩ := kk T.heap.size (V.setCell T.heap.size ce).heap ((hP.kept hk9).app (fun k x hx => by
      have hz : k < 1 := (List.getElem?_eq_some_iff.mp hx).1
      rw [show k = 0 by omega] at hx
      cases hx
      exact ⟨_, hc, ce, hh, hcid, hvm9, fun k hk => absurd hk (Nat.not_lt_zero k)⟩)) (hD.push hP rfl (hA _ hS.1)) ⟨Nat.le_trans hS.1 f1, fun q h1 h2 => (f2 q (Nat.lt_of_lt_of_le h1 hS.1) (fun z hz => nomatch hz)).trans (hS.2.1 q h1 h2), hS.2.2⟩ _ rfl X6
  refine ⟨t, st1 _ ?_, b1⟩
  show Steps p.tables e below (T1.setTop { method := m, pc := pc + 3, locals := ls, stack := .ref T.heap.size :: rest, locked := none }) _
  jvm_step X₁.here [X₁.here.top, hexec, d3', Value.category]
  exact st _ a1
/-- 'throw x' of an object that was made before -/
theorem vx_athrow {cc : ByteArray} {pc : Nat} (hexec : p.tables.exec = Jvm.exec) (hb : c.code = cc) {q : Addr} (hdg : decode cc pc = .ok (.athrow, 1)) (k : vx_W p l e R s m args below meth c H locs cells slots Q (F0 m pc ls rest) q) : W p l e R s m args below meth c H locs cells slots Q (F0 m pc ls (.ref q :: rest)) := by
  intro T hT X
  obtain ⟨t, st, hq⟩ := k T hT X
  refine ⟨t, ?_, hq⟩
  have hdg' : decode c.code pc = .ok (.athrow, 1) := by rw [hb]; exact hdg
  jvm_step X.here [X.here.top, hexec, hdg', athrow.wp_sem]
  exact st
end VXK2
/-! ===== END ===== -/
/-! ===== BEGIN a constructor that throws (launches without stack traces) ===== -/
section VXIA
variable {p : Program} {l : Launch} {e : Env} {R : Room} {s : State} {m : MethodId} {args : Array Value} {below : List Frame} {meth : Method} {c : Code} {T : State} {locs : List Loc} {cells slots : Nat}
theorem vx_callI (X : Stand p l e R s m args below meth c T locs cells slots) (hexec : p.tables.exec = Jvm.exec) {own : String} {index : Nat} {y : MethodName} {bytes : ByteArray} {maxL : Nat}
    (hown : s.vm.findClass own = some m.cls) (hy1 : y.name = "<init>") (hlink : (Cond.methodLink own index y).before args s = true) (hinst : (Cond.instanceMethod y).before args s = true)
    (hcode : (Cond.code y bytes maxL none).before args s = true) (hy : y.cls ≠ "java/lang/invoke/MethodHandle" ∧ y.cls ≠ "java/lang/invoke/VarHandle")
    {W9 : Nat} {Pre : Pt → Array Value → Prop} {Post : Pt → Array Value → Option Value → Pt → Prop} {PostX : Pt → Array Value → Addr → Pt → Prop} (hK : vx_Back l R p e below s args y 3 W9 Pre Post PostX)
    {g : JFrame} (hg : g.method = m) (hsize : g.locals.size = c.maxLocals) {a : Addr} {argsL rest : List Value} (hlen : ∀ sig, parseMethodDescriptor y.desc = some sig → argsL.length = sig.parameters.length)
    (hstack : g.stack = argsL.reverse ++ .ref a :: rest) (hW : 2 * g.monitorRoom + (rest.map fun v => v.category).sum ≤ W9) (hdg : decode c.code g.pc = .ok (.invokespecial index, 3))
    (hpre : ∀ vm₁, s.WarmedH vm₁ → Pre ⟨T.setVm vm₁, locs, cells, slots⟩ (Value.ref a :: argsL).toArray) :
    (∃ (v : Option Value) (vm₁ : Vm) (B : Pt), s.WarmedH vm₁ ∧ Stand p l e R s m args below meth c B.U B.locs B.cells B.slots ∧ Post ⟨T.setVm vm₁, locs, cells, slots⟩ (Value.ref a :: argsL).toArray v B ∧
      ∀ target, Steps p.tables e below (B.U.setTop { g with pc := g.pc + 3, stack := v.toList ++ rest }) target → Steps p.tables e below (T.setTop g) target) ∨
    (∃ (q : Addr) (vm₁ : Vm) (B : Pt), s.WarmedH vm₁ ∧ Stand p l e R s m args below meth c B.U B.locs B.cells B.slots ∧ PostX ⟨T.setVm vm₁, locs, cells, slots⟩ (Value.ref a :: argsL).toArray q B ∧
      Steps p.tables e below (T.setTop g) ((B.U.setTop { g with stack := rest }).pushFrame (.throwing q))) := by
  subst hg
  have hpl : e.platform.magicAccessors = ({} : Platform).magicAccessors := by rw [X.admits.platform]
  obtain ⟨mk, methM, cM, kP, vm₁, hnamed, hmethM, hcodeM, -, hlocalsM, -, hkP, -, hW₁, hstep₁⟩ := Steps.initColdArgs (e := e) X.here hexec X.warmed hpl hown hy1 hy hlink hinst hcode (f := g) rfl hlen hstack hdg
  have X₁ := X.noted hW₁
  rcases hK g.method meth c ⟨T.setVm vm₁, locs, cells, slots⟩ { g with stack := rest } (.invokespecial index) mk (Value.ref a :: argsL).toArray X₁ rfl hsize hdg hW (X₁.named hnamed) (hpre vm₁ X₁.warmed) with ⟨v, B, X', hpost, hsteps⟩ | ⟨q, B, X', hpost, hsteps⟩
  · exact Or.inl ⟨v, vm₁, B, X₁.warmed, X', hpost, fun target h => hstep₁ _ fun acts => by rw [doInvoke_state]; exact hsteps.trans h⟩
  · exact Or.inr ⟨q, vm₁, B, X₁.warmed, X', hpost, hstep₁ _ fun acts => by rw [doInvoke_state]; exact hsteps⟩
end VXIA
section VXIB
variable {p : Program} {l : Launch} {e : Env} {R : Room} {s : State} {m : MethodId} {args : Array Value} {below : List Frame} {meth : Method} {c : Code} {H : Heap} {locs : List Loc} {cells slots : Nat}
variable {y : MethodName} {bytes cc : ByteArray} {maxL nL mc ms n index : Nat} {ret : Option FieldType} {ws : List Cond} {rm : Room} {Pc : Array Value → State → Prop} {Qc : Array Value → State → Outcome → State → Prop} {XC : String → State → State → Prop} {free : Addr → Prop} {Ts : List Cond} {own C : String} {b : Addr} {As rest : List Value} {g : JFrame}
theorem vx_runI (S : CallFix p m c cc nL s args Ts own) (hM : vx_Met l y ws rm Pc Qc XC mc ms free) (cw : CallB R s args own index y bytes maxL none ws rm mc ms n ∧ y.name = "<init>" ∧ (Cond.instanceMethod y).before args s = true) (hp : PreS s H Pc (.ref b :: As))
    (hg : g.method = m) (hn : As.length = n) (hsize : g.locals.size = nL) (hstack : g.stack = As.reverse ++ .ref b :: rest) (hW : 2 * g.monitorRoom + (rest.map fun v => v.category).sum ≤ 8) (hdg : decode cc g.pc = .ok (.invokespecial index, 3)) (hf : cells + mc ≤ R.cells ∧ slots + ms ≤ R.slots) :
    vx_Run p l e R s m args below meth c H locs cells slots mc ms g rest (Qc (Value.ref b :: As).toArray) XC free := by
  have hK : vx_Back l R p e below s args y 3 8 (PreOf R mc ms Pc) (PostOf Qc mc ms free) (vx_Post XC mc ms free) := vx_callBack cw.1 hM hp.1
  obtain ⟨⟨-, -, -, -, -, -, hcode, -, hy, hlen, hl⟩, hy1, hin⟩ := cw
  obtain ⟨hx, hb, hml, ho, -⟩ := S
  have hPc := hp.2
  intro T hT X
  rcases vx_callI X hx (bytes := bytes) (maxL := maxL) ho hy1 hl hin hcode hy hK hg (hsize.trans hml.symm) (a := b) (argsL := As) (rest := rest) (fun sig h => hn.trans (hlen sig h)) hstack hW (by rw [hb]; exact hdg)
    (fun vm₁ hW₁ => ⟨hf.1, hf.2, hPc (T.setVm vm₁) hT hW₁⟩) with ⟨v, vm₁, ⟨U', l2, c2, s2⟩, hW₁, X', ⟨g', mk, t, L, e1, e2, hq, h1, hL, h2, h3⟩, st⟩ | ⟨q, vm₁, ⟨U', l2, c2, s2⟩, hW₁, X', ⟨g', mk, t, L, E, ce, e1, e2, hq, hce, hcv, hcl, h1, hL, h2, h3⟩, st⟩
  · dsimp only [Pt.U, Pt.locs, Pt.cells, Pt.slots] at X' e1 e2 h1 h2 h3 st
    subst h1; subst h2; subst h3
    exact Or.inl ⟨v, (T.setVm vm₁).calling g' mk (Value.ref b :: As).toArray, t, U', L, hT, X', hL, e1, e2, hq, st⟩
  · dsimp only [Pt.U, Pt.locs, Pt.cells, Pt.slots] at X' e1 e2 h1 h2 h3 st hcl
    subst h1; subst h2; subst h3
    exact Or.inr ⟨q, (T.setVm vm₁).calling g' mk (Value.ref b :: As).toArray, t, U', L, E, ce, hT, X', hL, e1, e2, hq, hce, hcv, vx_cls hW₁ hcl, st⟩
end VXIB
/-! ===== END ===== -/
/-! ===== BEGIN a private constructor of a nest mate that throws ===== -/
section VXIC
variable {p : Program} {l : Launch} {e : Env} {R : Room} {s : State} {m : MethodId} {args : Array Value} {below : List Frame} {meth : Method} {c : Code} {T : State} {locs : List Loc} {cells slots : Nat}
theorem vx_callIN (X : Stand p l e R s m args below meth c T locs cells slots) (hexec : p.tables.exec = Jvm.exec) {own : String} {index : Nat} {host : String} {y : MethodName} {bytes : ByteArray} {maxL : Nat}
    (hown : s.vm.findClass own = some m.cls) (hy1 : y.name = "<init>") (hlink : (Cond.methodLinkNest own index y host).before args s = true) (hinst : (Cond.instanceMethod y).before args s = true)
    (hcode : (Cond.code y bytes maxL none).before args s = true) (hy : y.cls ≠ "java/lang/invoke/MethodHandle" ∧ y.cls ≠ "java/lang/invoke/VarHandle")
    {W9 : Nat} {Pre : Pt → Array Value → Prop} {Post : Pt → Array Value → Option Value → Pt → Prop} {PostX : Pt → Array Value → Addr → Pt → Prop} (hK : vx_Back l R p e below s args y 3 W9 Pre Post PostX)
    {g : JFrame} (hg : g.method = m) (hsize : g.locals.size = c.maxLocals) {a : Addr} {argsL rest : List Value} (hlen : ∀ sig, parseMethodDescriptor y.desc = some sig → argsL.length = sig.parameters.length)
    (hstack : g.stack = argsL.reverse ++ .ref a :: rest) (hW : 2 * g.monitorRoom + (rest.map fun v => v.category).sum ≤ W9) (hdg : decode c.code g.pc = .ok (.invokespecial index, 3))
    (hpre : ∀ vm₁, s.WarmedH vm₁ → Pre ⟨T.setVm vm₁, locs, cells, slots⟩ (Value.ref a :: argsL).toArray) :
    (∃ (v : Option Value) (vm₁ : Vm) (B : Pt), s.WarmedH vm₁ ∧ Stand p l e R s m args below meth c B.U B.locs B.cells B.slots ∧ Post ⟨T.setVm vm₁, locs, cells, slots⟩ (Value.ref a :: argsL).toArray v B ∧
      ∀ target, Steps p.tables e below (B.U.setTop { g with pc := g.pc + 3, stack := v.toList ++ rest }) target → Steps p.tables e below (T.setTop g) target) ∨
    (∃ (q : Addr) (vm₁ : Vm) (B : Pt), s.WarmedH vm₁ ∧ Stand p l e R s m args below meth c B.U B.locs B.cells B.slots ∧ PostX ⟨T.setVm vm₁, locs, cells, slots⟩ (Value.ref a :: argsL).toArray q B ∧
      Steps p.tables e below (T.setTop g) ((B.U.setTop { g with stack := rest }).pushFrame (.throwing q))) := by
  subst hg
  have hpl : e.platform.magicAccessors = ({} : Platform).magicAccessors := by rw [X.admits.platform]
  obtain ⟨mk, methM, cM, kP, vm₁, hnamed, hmethM, hcodeM, -, hlocalsM, -, hkP, -, hW₁, hstep₁⟩ := Steps.initColdArgsNest (e := e) X.here hexec X.warmed hpl hown hy1 hy hlink hinst hcode (f := g) rfl hlen hstack hdg
  have X₁ := X.noted hW₁
  rcases hK g.method meth c ⟨T.setVm vm₁, locs, cells, slots⟩ { g with stack := rest } (.invokespecial index) mk (Value.ref a :: argsL).toArray X₁ rfl hsize hdg hW (X₁.named hnamed) (hpre vm₁ X₁.warmed) with ⟨v, B, X', hpost, hsteps⟩ | ⟨q, B, X', hpost, hsteps⟩
  · exact Or.inl ⟨v, vm₁, B, X₁.warmed, X', hpost, fun target h => hstep₁ _ fun acts => by rw [doInvoke_state]; exact hsteps.trans h⟩
  · exact Or.inr ⟨q, vm₁, B, X₁.warmed, X', hpost, hstep₁ _ fun acts => by rw [doInvoke_state]; exact hsteps⟩
end VXIC
section VXID
variable {p : Program} {l : Launch} {e : Env} {R : Room} {s : State} {m : MethodId} {args : Array Value} {below : List Frame} {meth : Method} {c : Code} {H : Heap} {locs : List Loc} {cells slots : Nat}
theorem vx_runIN {y : MethodName} {bytes cc : ByteArray} {maxL nL mc ms n index : Nat} {ws : List Cond} {rm : Room} {Pc : Array Value → State → Prop} {Qc : Array Value → State → Outcome → State → Prop} {XC : String → State → State → Prop} {free : Addr → Prop} {Ts : List Cond} {own host : String} {b : Addr} {As rest : List Value} {g : JFrame}
    (S : CallFix p m c cc nL s args Ts own) (hM : vx_Met l y ws rm Pc Qc XC mc ms free) (cw : va_CN R s args own index y host bytes maxL none ws rm mc ms n ∧ y.name = "<init>" ∧ (Cond.instanceMethod y).before args s = true) (hp : PreS s H Pc (.ref b :: As))
    (hg : g.method = m) (hn : As.length = n) (hsize : g.locals.size = nL) (hstack : g.stack = As.reverse ++ .ref b :: rest) (hW : 2 * g.monitorRoom + (rest.map fun v => v.category).sum ≤ 8) (hdg : decode cc g.pc = .ok (.invokespecial index, 3)) (hf : cells + mc ≤ R.cells ∧ slots + ms ≤ R.slots) :
    vx_Run p l e R s m args below meth c H locs cells slots mc ms g rest (Qc (Value.ref b :: As).toArray) XC free := by
  obtain ⟨⟨⟨hrc, hrs, hfr, hlo, hws, hcw⟩, hcode, hini, hy, hlen, hl⟩, hx1, hx2⟩ := cw
  have hK : vx_Back l R p e below s args y 3 8 (PreOf R mc ms Pc) (PostOf Qc mc ms free) (vx_Post XC mc ms free) := vx_back (bytes := bytes) (maxL := maxL) (ret := none) hM hp.1 hrc hrs hfr hlo hws hcw (fun a' U hW => word_at hW (Or.inl (by first | rfl | simp [Cond.onTables, Cond.keeps, Cond.steady])) hini)
  obtain ⟨hx, hb, hml, ho, -⟩ := S
  have hPc := hp.2
  intro T hT X
  rcases vx_callIN X hx (bytes := bytes) (maxL := maxL) ho hx1 hl hx2 hcode hy hK hg (hsize.trans hml.symm) (a := b) (argsL := As) (rest := rest) (fun sig h => hn.trans (hlen sig h)) hstack hW (by rw [hb]; exact hdg)
    (fun vm₁ hW₁ => ⟨hf.1, hf.2, hPc (T.setVm vm₁) hT hW₁⟩) with ⟨v, vm₁, ⟨U', l2, c2, s2⟩, hW₁, X', ⟨g', mk, t, L, e1, e2, hq, h1, hL, h2, h3⟩, st⟩ | ⟨q, vm₁, ⟨U', l2, c2, s2⟩, hW₁, X', ⟨g', mk, t, L, E, ce, e1, e2, hq, hce, hcv, hcl, h1, hL, h2, h3⟩, st⟩
  · dsimp only [Pt.U, Pt.locs, Pt.cells, Pt.slots] at X' e1 e2 h1 h2 h3 st
    subst h1; subst h2; subst h3
    exact Or.inl ⟨v, (T.setVm vm₁).calling g' mk (Value.ref b :: As).toArray, t, U', L, hT, X', hL, e1, e2, hq, st⟩
  · dsimp only [Pt.U, Pt.locs, Pt.cells, Pt.slots] at X' e1 e2 h1 h2 h3 st hcl
    subst h1; subst h2; subst h3
    exact Or.inr ⟨q, (T.setVm vm₁).calling g' mk (Value.ref b :: As).toArray, t, U', L, E, ce, hT, X', hL, e1, e2, hq, hce, hcv, vx_cls hW₁ hcl, st⟩
end VXID
/-! ===== END ===== -/
/-! ===== BEGIN a method of a class above, found by the receiver, that may throw (follows va_callVU, va_runU of this kit) ===== -/
section
variable {p : Program} {l : Launch} {e : Env} {R : Room} {s : State} {m : MethodId} {args : Array Value} {below : List Frame} {meth : Method} {c : Code} {H : Heap} {locs : List Loc} {cells slots : Nat}
theorem vx_callVU {T : State} {locs : List Loc} {cells slots : Nat} (X : Stand p l e R s m args below meth c T locs cells slots) (hexec : p.tables.exec = Jvm.exec) {own C owner : String} {index : Nat} {x y : MethodName} {bytes : ByteArray} {maxL : Nat} {ret : Option FieldType}
    (hown : s.vm.findClass own = some m.cls) (hlink : (Cond.methodLink own index x).before args s = true) (hsame : (Cond.sameMethod x.cls owner x.name x.desc).before args s = true)
    (hd0 : va_Decl s ⟨owner, x.name, x.desc⟩) (howner : owner ≠ "java/lang/invoke/MethodHandle" ∧ owner ≠ "java/lang/invoke/VarHandle")
    (hsel : (Cond.selects C x y).before args s = true) (hinst : (Cond.instanceMethod y).before args s = true) (hcode : (Cond.code y bytes maxL ret).before args s = true)
    {W : Nat} {Pre : Pt → Array Value → Prop} {Post : Pt → Array Value → Option Value → Pt → Prop} {PostX : Pt → Array Value → Addr → Pt → Prop} (hK : vx_Back l R p e below s args y 3 W Pre Post PostX)
    {b : Addr} {cellB : Cell} (hcell : T.heap[b]? = some cellB) (hobj : cellB.vm.isStatics = false) (hcls : s.vm.findClass C = some cellB.cls)
    {g : JFrame} (hg : g.method = m) (hsize : g.locals.size = c.maxLocals) {argsL rest : List Value} (hlen : ∀ sig, parseMethodDescriptor x.desc = some sig → argsL.length = sig.parameters.length)
    (hstack : g.stack = argsL.reverse ++ .ref b :: rest) (hW : 2 * g.monitorRoom + (rest.map fun v => v.category).sum ≤ W) (hdg : decode c.code g.pc = .ok (.invokevirtual index, 3))
    (hpre : ∀ vm₁, s.WarmedH vm₁ → Pre ⟨T.setVm vm₁, locs, cells, slots⟩ (Value.ref b :: argsL).toArray) :
    (∃ (v : Option Value) (vm₁ : Vm) (B : Pt), s.WarmedH vm₁ ∧ Stand p l e R s m args below meth c B.U B.locs B.cells B.slots ∧ Post ⟨T.setVm vm₁, locs, cells, slots⟩ (Value.ref b :: argsL).toArray v B ∧
      ∀ target, Steps p.tables e below (B.U.setTop { g with pc := g.pc + 3, stack := v.toList ++ rest }) target → Steps p.tables e below (T.setTop g) target) ∨
    (∃ (q : Addr) (vm₁ : Vm) (B : Pt), s.WarmedH vm₁ ∧ Stand p l e R s m args below meth c B.U B.locs B.cells B.slots ∧ PostX ⟨T.setVm vm₁, locs, cells, slots⟩ (Value.ref b :: argsL).toArray q B ∧
      Steps p.tables e below (T.setTop g) ((B.U.setTop { g with stack := rest }).pushFrame (.throwing q))) := by
  obtain ⟨r0, r, hn, hrm, hstR, hsigR⟩ := hd0
  obtain ⟨cn, ck, r1, hcn, hck, hni, hf, hn1⟩ := Cond.sameMethod_found hsame
  cases hn.symm.trans hn1
  obtain ⟨mk, methM, hnamed, hmethM, -, habM⟩ := Cond.instanceMethod_spec hinst
  obtain ⟨c2, r2, m2, q1, q2, q3, q4, kP, hkP, hkPi⟩ := Cond.selects_spec hsel
  cases hcls.symm.trans q1
  cases hf.symm.trans q2
  cases hnamed.symm.trans q3
  have hselP : selectMethod e.platform s.vm cellB.cls r0 = .method mk := by rw [Launch.admits_selectMethod X.admits]; exact q4
  obtain ⟨vm₁, X₁, hstep₁⟩ := X.invokevirtualUp hexec hown hlink hsame howner hn hrm hstR (a := b) (cell := cellB) hcell
    (fun z h => by rw [h] at hobj; cases hobj) hselP hmethM habM hkP hkPi (g := g) hg (argsL := argsL) (rest := rest) (hlen _ hsigR) hstack hdg
  rcases hK m meth c ⟨T.setVm vm₁, locs, cells, slots⟩ { g with stack := rest } (.invokevirtual index) mk (Value.ref b :: argsL).toArray X₁ hg hsize hdg hW (X₁.named hnamed) (hpre vm₁ X₁.warmed) with ⟨v, B, X', hpost, hsteps⟩ | ⟨q, B, X', hpost, hsteps⟩
  · exact Or.inl ⟨v, vm₁, B, X₁.warmed, X', hpost, fun target h => hstep₁ _ fun acts => by rw [doInvoke_state]; exact hsteps.trans h⟩
  · exact Or.inr ⟨q, vm₁, B, X₁.warmed, X', hpost, hstep₁ _ fun acts => by rw [doInvoke_state]; exact hsteps⟩
theorem vx_runU {x y : MethodName} {bytes cc : ByteArray} {maxL nL mc ms n index : Nat} {ret : Option FieldType} {ws : List Cond} {rm : Room} {Pc : Array Value → State → Prop} {Qc : Array Value → State → Outcome → State → Prop} {XC : String → State → State → Prop} {free : Addr → Prop} {Ts : List Cond} {own C owner : String} {b : Addr} {As rest : List Value} {g : JFrame}
    (S : CallFix p m c cc nL s args Ts own) (hM : vx_Met l y ws rm Pc Qc XC mc ms free) (cw : va_CU R s args own C owner index x y bytes maxL ret ws rm mc ms n) (hp : PreV s H C b Pc As)
    (hg : g.method = m) (hn : As.length = n) (hsize : g.locals.size = nL) (hstack : g.stack = As.reverse ++ .ref b :: rest) (hW : 2 * g.monitorRoom + (rest.map fun v => v.category).sum ≤ 8) (hdg : decode cc g.pc = .ok (.invokevirtual index, 3)) (hf : cells + mc ≤ R.cells ∧ slots + ms ≤ R.slots) :
    vx_Run p l e R s m args below meth c H locs cells slots mc ms g rest (Qc (Value.ref b :: As).toArray) XC free := by
  obtain ⟨hrc, hrs, hfr, hlo, hws, hcw⟩ := cw.back
  have hini := cw.init
  have hK : vx_Back l R p e below s args y 3 8 (PreOf R mc ms Pc) (PostOf Qc mc ms free) (vx_Post XC mc ms free) := vx_back (bytes := bytes) (maxL := maxL) (ret := ret) hM hp.1 hrc hrs hfr hlo hws hcw (fun a' U hW => word_at hW (Or.inl (by first | rfl | simp [Cond.onTables, Cond.keeps, Cond.steady])) hini)
  obtain ⟨hx, hb, hml, ho, -⟩ := S
  obtain ⟨-, ⟨cellB, hcB, hoB, hclB⟩, hPc⟩ := hp
  intro T hT X
  rcases vx_callVU X hx (C := C) (owner := owner) (bytes := bytes) (maxL := maxL) (ret := ret) ho cw.link cw.same cw.decl cw.notMH cw.sel cw.inst cw.code hK (by rw [hT]; exact hcB) hoB hclB hg (hsize.trans hml.symm) (argsL := As) (rest := rest) (fun sig h => hn.trans (cw.len sig h)) hstack hW (by rw [hb]; exact hdg)
    (fun vm₁ hW₁ => ⟨hf.1, hf.2, hPc (T.setVm vm₁) hT hW₁⟩) with ⟨v, vm₁, ⟨U', l2, c2, s2⟩, hW₁, X', ⟨g', mk, t, L, e1, e2, hq, h1, hL, h2, h3⟩, st⟩ | ⟨q, vm₁, ⟨U', l2, c2, s2⟩, hW₁, X', ⟨g', mk, t, L, E, ce, e1, e2, hq, hce, hcv, hcl, h1, hL, h2, h3⟩, st⟩
  · dsimp only [Pt.U, Pt.locs, Pt.cells, Pt.slots] at X' e1 e2 h1 h2 h3 st
    subst h1; subst h2; subst h3
    exact Or.inl ⟨v, (T.setVm vm₁).calling g' mk (Value.ref b :: As).toArray, t, U', L, hT, X', hL, e1, e2, hq, st⟩
  · dsimp only [Pt.U, Pt.locs, Pt.cells, Pt.slots] at X' e1 e2 h1 h2 h3 st hcl
    subst h1; subst h2; subst h3
    exact Or.inr ⟨q, (T.setVm vm₁).calling g' mk (Value.ref b :: As).toArray, t, U', L, E, ce, hT, X', hL, e1, e2, hq, hce, hcv, vx_cls hW₁ hcl, st⟩
end
/-! ===== END ===== -/
/-! ===== BEGIN super.m(..) that may throw (follows va_callSU, va_runSU) ===== -/
section
variable {p : Program} {l : Launch} {e : Env} {R : Room} {s : State} {m : MethodId} {args : Array Value} {below : List Frame} {meth : Method} {c : Code} {H : Heap} {locs : List Loc} {cells slots : Nat}
theorem vx_callSU {T : State} {locs : List Loc} {cells slots : Nat} (X : Stand p l e R s m args below meth c T locs cells slots) (hexec : p.tables.exec = Jvm.exec) {own : String} {index : Nat} {y : MethodName} {bytes : ByteArray} {maxL : Nat} {ret : Option FieldType}
    (hown : s.vm.findClass own = some m.cls) (hlink : (Cond.methodLink own index y).before args s = true) (hsame : (Cond.sameMethod y.cls y.cls y.name y.desc).before args s = true) (hsup : (Cond.superclass own y.cls).before args s = true)
    (hinst : (Cond.instanceMethod y).before args s = true) (hcode : (Cond.code y bytes maxL ret).before args s = true) (hno : y.name ≠ "<init>")
    {W : Nat} {Pre : Pt → Array Value → Prop} {Post : Pt → Array Value → Option Value → Pt → Prop} {PostX : Pt → Array Value → Addr → Pt → Prop} (hK : vx_Back l R p e below s args y 3 W Pre Post PostX)
    {b : Addr} {cellB : Cell} {kB : Class} (hcell : T.heap[b]? = some cellB) (hobj : cellB.vm.isStatics = false) (hkB : s.vm.classes[cellB.cls]? = some kB)
    {g : JFrame} (hg : g.method = m) (hsize : g.locals.size = c.maxLocals) {argsL rest : List Value} (hlen : ∀ sig, parseMethodDescriptor y.desc = some sig → argsL.length = sig.parameters.length)
    (hstack : g.stack = argsL.reverse ++ .ref b :: rest) (hW : 2 * g.monitorRoom + (rest.map fun v => v.category).sum ≤ W) (hdg : decode c.code g.pc = .ok (.invokespecial index, 3))
    (hpre : ∀ vm₁, s.WarmedH vm₁ → Pre ⟨T.setVm vm₁, locs, cells, slots⟩ (Value.ref b :: argsL).toArray) :
    (∃ (v : Option Value) (vm₁ : Vm) (B : Pt), s.WarmedH vm₁ ∧ Stand p l e R s m args below meth c B.U B.locs B.cells B.slots ∧ Post ⟨T.setVm vm₁, locs, cells, slots⟩ (Value.ref b :: argsL).toArray v B ∧
      ∀ target, Steps p.tables e below (B.U.setTop { g with pc := g.pc + 3, stack := v.toList ++ rest }) target → Steps p.tables e below (T.setTop g) target) ∨
    (∃ (q : Addr) (vm₁ : Vm) (B : Pt), s.WarmedH vm₁ ∧ Stand p l e R s m args below meth c B.U B.locs B.cells B.slots ∧ PostX ⟨T.setVm vm₁, locs, cells, slots⟩ (Value.ref b :: argsL).toArray q B ∧
      Steps p.tables e below (T.setTop g) ((B.U.setTop { g with stack := rest }).pushFrame (.throwing q))) := by
  obtain ⟨mk, methM, hnamed, hmethM, hstM, habM⟩ := Cond.instanceMethod_spec hinst
  obtain ⟨methM', cM, hmethM', -, -, -, -, -, -, hsigM⟩ := Cond.code_spec hnamed hcode
  cases hmethM.symm.trans hmethM'
  obtain ⟨ps, dk, kp, hps, hdk, hkp, hsuper, -, -, hnid⟩ := Cond.superclass_spec hown hsup
  have hn : s.methodNamed? ⟨y.cls, y.name, y.desc⟩ = some mk := hnamed
  have hpm : ps = mk.cls := Option.some.inj (hps.symm.trans (findClass_of_methodNamed hnamed))
  have hsub : s.vm.isSubclass ps mk.cls = true := by rw [hpm]; simp [Vm.isSubclass, Vm.isSubclassAux]
  obtain ⟨vm₁, X₁, hstep₁⟩ := X.invokespecialUp hexec hown hlink hsame hn hmethM hstM habM hno hdk hnid hps hsuper hsub (a := b) (cell := cellB) hcell
    (fun z h => by rw [h] at hobj; cases hobj) hkB (g := g) hg (argsL := argsL) (rest := rest) (hlen _ hsigM) hstack hdg
  rcases hK m meth c ⟨T.setVm vm₁, locs, cells, slots⟩ { g with stack := rest } (.invokespecial index) mk (Value.ref b :: argsL).toArray X₁ hg hsize hdg hW (X₁.named hnamed) (hpre vm₁ X₁.warmed) with ⟨v, B, X', hpost, hsteps⟩ | ⟨q, B, X', hpost, hsteps⟩
  · exact Or.inl ⟨v, vm₁, B, X₁.warmed, X', hpost, fun target h => hstep₁ _ (by rw [doInvoke_state]; exact hsteps.trans h)⟩
  · exact Or.inr ⟨q, vm₁, B, X₁.warmed, X', hpost, hstep₁ _ (by rw [doInvoke_state]; exact hsteps)⟩
theorem vx_runSU {y : MethodName} {bytes cc : ByteArray} {maxL nL mc ms n index : Nat} {ret : Option FieldType} {ws : List Cond} {rm : Room} {Pc : Array Value → State → Prop} {Qc : Array Value → State → Outcome → State → Prop} {XC : String → State → State → Prop} {free : Addr → Prop} {Ts : List Cond} {own C : String} {cC : ClassId} {b : Addr} {As rest : List Value} {g : JFrame}
    (hat : ClassAt s C cC) (S : CallFix p m c cc nL s args Ts own) (hM : vx_Met l y ws rm Pc Qc XC mc ms free) (cw : va_CS R s args own index y bytes maxL ret ws rm mc ms n) (hp : PreV s H C b Pc As)
    (hg : g.method = m) (hn : As.length = n) (hsize : g.locals.size = nL) (hstack : g.stack = As.reverse ++ .ref b :: rest) (hW : 2 * g.monitorRoom + (rest.map fun v => v.category).sum ≤ 8) (hdg : decode cc g.pc = .ok (.invokespecial index, 3)) (hf : cells + mc ≤ R.cells ∧ slots + ms ≤ R.slots) :
    vx_Run p l e R s m args below meth c H locs cells slots mc ms g rest (Qc (Value.ref b :: As).toArray) XC free := by
  obtain ⟨⟨hrc, hrs, hfr, hlo, hws, hcw⟩, hl1, hl2, hl3, hl4, hini, hcode, hno, hlen⟩ := cw
  have hK : vx_Back l R p e below s args y 3 8 (PreOf R mc ms Pc) (PostOf Qc mc ms free) (vx_Post XC mc ms free) := vx_back (bytes := bytes) (maxL := maxL) (ret := ret) hM hp.1 hrc hrs hfr hlo hws hcw (fun a' U hW => word_at hW (Or.inl (by first | rfl | simp [Cond.onTables, Cond.keeps, Cond.steady])) hini)
  obtain ⟨hx, hb, hml, ho, -⟩ := S
  obtain ⟨-, ⟨cellB, hcB, hoB, hclB⟩, hPc⟩ := hp
  obtain ⟨hfc, kB, hkB, -⟩ := hat
  cases hfc.symm.trans hclB
  intro T hT X
  rcases vx_callSU X hx (bytes := bytes) (maxL := maxL) (ret := ret) ho hl1 hl2 hl3 hl4 hcode hno hK (by rw [hT]; exact hcB) hoB hkB hg (hsize.trans hml.symm) (argsL := As) (rest := rest) (fun sig h => hn.trans (hlen sig h)) hstack hW (by rw [hb]; exact hdg)
    (fun vm₁ hW₁ => ⟨hf.1, hf.2, hPc (T.setVm vm₁) hT hW₁⟩) with ⟨v, vm₁, ⟨U', l2, c2, s2⟩, hW₁, X', ⟨g', mk, t, L, e1, e2, hq, h1, hL, h2, h3⟩, st⟩ | ⟨q, vm₁, ⟨U', l2, c2, s2⟩, hW₁, X', ⟨g', mk, t, L, E, ce, e1, e2, hq, hce, hcv, hcl, h1, hL, h2, h3⟩, st⟩
  · dsimp only [Pt.U, Pt.locs, Pt.cells, Pt.slots] at X' e1 e2 h1 h2 h3 st
    subst h1; subst h2; subst h3
    exact Or.inl ⟨v, (T.setVm vm₁).calling g' mk (Value.ref b :: As).toArray, t, U', L, hT, X', hL, e1, e2, hq, st⟩
  · dsimp only [Pt.U, Pt.locs, Pt.cells, Pt.slots] at X' e1 e2 h1 h2 h3 st hcl
    subst h1; subst h2; subst h3
    exact Or.inr ⟨q, (T.setVm vm₁).calling g' mk (Value.ref b :: As).toArray, t, U', L, E, ce, hT, X', hL, e1, e2, hq, hce, hcv, vx_cls hW₁ hcl, st⟩
end
/-! ===== END ===== -/
/-! ===== BEGIN a private method of a nest mate that may throw (follows va_callVN, va_callSN, va_runVN, va_runSN) ===== -/
section
variable {p : Program} {l : Launch} {e : Env} {R : Room} {s : State} {m : MethodId} {args : Array Value} {below : List Frame} {meth : Method} {c : Code} {H : Heap} {locs : List Loc} {cells slots : Nat}
variable {T : State}
theorem vx_callVN (X : Stand p l e R s m args below meth c T locs cells slots) (hexec : p.tables.exec = Jvm.exec) {own C : String} {index : Nat} {host : String} {y : MethodName} {bytes : ByteArray} {maxL : Nat} {ret : Option FieldType}
    (hown : s.vm.findClass own = some m.cls) (hlink : (Cond.methodLinkNest own index y host).before args s = true) (hinst : (Cond.instanceMethod y).before args s = true) (hsel : (Cond.selects C y y).before args s = true)
    (hcode : (Cond.code y bytes maxL ret).before args s = true) (hy : y.cls ≠ "java/lang/invoke/MethodHandle" ∧ y.cls ≠ "java/lang/invoke/VarHandle")
    {W : Nat} {Pre : Pt → Array Value → Prop} {Post : Pt → Array Value → Option Value → Pt → Prop} {PostX : Pt → Array Value → Addr → Pt → Prop} (hK : vx_Back l R p e below s args y 3 W Pre Post PostX)
    {b : Addr} {cellB : Cell} (hcell : T.heap[b]? = some cellB) (hobj : cellB.vm.isStatics = false) (hcls : s.vm.findClass C = some cellB.cls)
    {g : JFrame} (hg : g.method = m) (hsize : g.locals.size = c.maxLocals) {argsL rest : List Value} (hlen : ∀ sig, parseMethodDescriptor y.desc = some sig → argsL.length = sig.parameters.length)
    (hstack : g.stack = argsL.reverse ++ .ref b :: rest) (hW : 2 * g.monitorRoom + (rest.map fun v => v.category).sum ≤ W) (hdg : decode c.code g.pc = .ok (.invokevirtual index, 3))
    (hpre : ∀ vm₁, s.WarmedH vm₁ → Pre ⟨T.setVm vm₁, locs, cells, slots⟩ (Value.ref b :: argsL).toArray) :
    (∃ (v : Option Value) (vm₁ : Vm) (B : Pt), s.WarmedH vm₁ ∧ Stand p l e R s m args below meth c B.U B.locs B.cells B.slots ∧ Post ⟨T.setVm vm₁, locs, cells, slots⟩ (Value.ref b :: argsL).toArray v B ∧
      ∀ target, Steps p.tables e below (B.U.setTop { g with pc := g.pc + 3, stack := v.toList ++ rest }) target → Steps p.tables e below (T.setTop g) target) ∨
    (∃ (q : Addr) (vm₁ : Vm) (B : Pt), s.WarmedH vm₁ ∧ Stand p l e R s m args below meth c B.U B.locs B.cells B.slots ∧ PostX ⟨T.setVm vm₁, locs, cells, slots⟩ (Value.ref b :: argsL).toArray q B ∧
      Steps p.tables e below (T.setTop g) ((B.U.setTop { g with stack := rest }).pushFrame (.throwing q))) := by
  obtain ⟨mk, methM, hnamed, hmethM, hstM, habM⟩ := Cond.instanceMethod_spec hinst
  obtain ⟨methM', cM, hmethM', -, -, -, -, -, -, hsigM⟩ := Cond.code_spec hnamed hcode
  cases hmethM.symm.trans hmethM'
  obtain ⟨c2, r2, m2, q1, q2, q3, q4, kP, hkP, hkPi⟩ := Cond.selects_spec hsel
  cases hcls.symm.trans q1
  cases (State.methodFound?_of_named hnamed hy).symm.trans q2
  cases hnamed.symm.trans q3
  have hselP : selectMethod e.platform s.vm cellB.cls mk = .method mk := by rw [Launch.admits_selectMethod X.admits]; exact q4
  obtain ⟨vm₁, X₁, hstep₁⟩ := X.invokevirtualNest hexec hown hlink hnamed hmethM hstM hkP hkPi hy (a := b) (cell := cellB) hcell
    (fun z h => by rw [h] at hobj; cases hobj) hselP hmethM habM hkP hkPi (g := g) hg (argsL := argsL) (rest := rest) (hlen _ hsigM) hstack hdg
  rcases hK m meth c ⟨T.setVm vm₁, locs, cells, slots⟩ { g with stack := rest } (.invokevirtual index) mk (Value.ref b :: argsL).toArray X₁ hg hsize hdg hW (X₁.named hnamed) (hpre vm₁ X₁.warmed) with ⟨v, B, X', hpost, hsteps⟩ | ⟨q, B, X', hpost, hsteps⟩
  · exact Or.inl ⟨v, vm₁, B, X₁.warmed, X', hpost, fun target h => hstep₁ _ fun acts => by rw [doInvoke_state]; exact hsteps.trans h⟩
  · exact Or.inr ⟨q, vm₁, B, X₁.warmed, X', hpost, hstep₁ _ fun acts => by rw [doInvoke_state]; exact hsteps⟩
theorem vx_callSN (X : Stand p l e R s m args below meth c T locs cells slots) (hexec : p.tables.exec = Jvm.exec) {own : String} {index : Nat} {host : String} {y : MethodName} {bytes : ByteArray} {maxL : Nat} {ret : Option FieldType}
    (hown : s.vm.findClass own = some m.cls) (hlink : (Cond.methodLinkNest own index y host).before args s = true) (hstat : (Cond.static y).before args s = true) (hinit : (Cond.initialized y.cls).before args s = true)
    (hcode : (Cond.code y bytes maxL ret).before args s = true) (hy : y.cls ≠ "java/lang/invoke/MethodHandle" ∧ y.cls ≠ "java/lang/invoke/VarHandle")
    {W : Nat} {Pre : Pt → Array Value → Prop} {Post : Pt → Array Value → Option Value → Pt → Prop} {PostX : Pt → Array Value → Addr → Pt → Prop} (hK : vx_Back l R p e below s args y 3 W Pre Post PostX)
    {g : JFrame} (hg : g.method = m) (hsize : g.locals.size = c.maxLocals) {argsL rest : List Value} (hlen : ∀ sig, parseMethodDescriptor y.desc = some sig → argsL.length = sig.parameters.length)
    (hstack : g.stack = argsL.reverse ++ rest) (hW : 2 * g.monitorRoom + (rest.map fun v => v.category).sum ≤ W) (hdg : decode c.code g.pc = .ok (.invokestatic index, 3))
    (hpre : ∀ vm₁, s.WarmedH vm₁ → Pre ⟨T.setVm vm₁, locs, cells, slots⟩ argsL.toArray) :
    (∃ (v : Option Value) (vm₁ : Vm) (B : Pt), s.WarmedH vm₁ ∧ Stand p l e R s m args below meth c B.U B.locs B.cells B.slots ∧ Post ⟨T.setVm vm₁, locs, cells, slots⟩ argsL.toArray v B ∧
      ∀ target, Steps p.tables e below (B.U.setTop { g with pc := g.pc + 3, stack := v.toList ++ rest }) target → Steps p.tables e below (T.setTop g) target) ∨
    (∃ (q : Addr) (vm₁ : Vm) (B : Pt), s.WarmedH vm₁ ∧ Stand p l e R s m args below meth c B.U B.locs B.cells B.slots ∧ PostX ⟨T.setVm vm₁, locs, cells, slots⟩ argsL.toArray q B ∧
      Steps p.tables e below (T.setTop g) ((B.U.setTop { g with stack := rest }).pushFrame (.throwing q))) := by
  obtain ⟨mk, hnamed⟩ := Cond.code_named hcode
  obtain ⟨methM, cM, hmethM, -, -, -, -, -, -, hsigM⟩ := Cond.code_spec hnamed hcode
  have hstatic : methM.isStatic = true := Cond.static_spec hnamed hmethM hstat
  obtain ⟨kP, hkP, -⟩ := className_of_methodNamed hnamed
  have hinitP : kP.init = .initialized := Cond.initialized_spec (findClass_of_methodNamed hnamed) hkP hinit
  obtain ⟨vm₁, X₁, hstep₁⟩ := X.invokestaticNest hexec hown hlink hnamed hmethM hstatic hkP hinitP hy (g := g) hg (argsL := argsL) (rest := rest) (hlen _ hsigM) hstack hdg
  rcases hK m meth c ⟨T.setVm vm₁, locs, cells, slots⟩ { g with stack := rest } (.invokestatic index) mk argsL.toArray X₁ hg hsize hdg hW (X₁.named hnamed) (hpre vm₁ X₁.warmed) with ⟨v, B, X', hpost, hsteps⟩ | ⟨q, B, X', hpost, hsteps⟩
  · exact Or.inl ⟨v, vm₁, B, X₁.warmed, X', hpost, fun target h => hstep₁ _ fun acts => by rw [doInvoke_state]; exact hsteps.trans h⟩
  · exact Or.inr ⟨q, vm₁, B, X₁.warmed, X', hpost, hstep₁ _ fun acts => by rw [doInvoke_state]; exact hsteps⟩
theorem vx_runVN {y : MethodName} {bytes cc : ByteArray} {maxL nL mc ms n index : Nat} {ret : Option FieldType} {ws : List Cond} {rm : Room} {Pc : Array Value → State → Prop} {Qc : Array Value → State → Outcome → State → Prop} {XC : String → State → State → Prop} {free : Addr → Prop} {Ts : List Cond} {own C host : String} {b : Addr} {As rest : List Value} {g : JFrame}
    (S : CallFix p m c cc nL s args Ts own) (hM : vx_Met l y ws rm Pc Qc XC mc ms free) (cw : va_CN R s args own index y host bytes maxL ret ws rm mc ms n ∧ (Cond.instanceMethod y).before args s = true ∧ (Cond.selects C y y).before args s = true) (hp : PreV s H C b Pc As)
    (hg : g.method = m) (hn : As.length = n) (hsize : g.locals.size = nL) (hstack : g.stack = As.reverse ++ .ref b :: rest) (hW : 2 * g.monitorRoom + (rest.map fun v => v.category).sum ≤ 8) (hdg : decode cc g.pc = .ok (.invokevirtual index, 3)) (hf : cells + mc ≤ R.cells ∧ slots + ms ≤ R.slots) :
    vx_Run p l e R s m args below meth c H locs cells slots mc ms g rest (Qc (Value.ref b :: As).toArray) XC free := by
  obtain ⟨⟨⟨hrc, hrs, hfr, hlo, hws, hcw⟩, hcode, hini, hy, hlen, hl⟩, hx1, hx2⟩ := cw
  have hK : vx_Back l R p e below s args y 3 8 (PreOf R mc ms Pc) (PostOf Qc mc ms free) (vx_Post XC mc ms free) := vx_back (bytes := bytes) (maxL := maxL) (ret := ret) hM hp.1 hrc hrs hfr hlo hws hcw (fun a' U hW => word_at hW (Or.inl (by first | rfl | simp [Cond.onTables, Cond.keeps, Cond.steady])) hini)
  obtain ⟨hx, hb, hml, ho, -⟩ := S
  obtain ⟨-, ⟨cellB, hcB, hoB, hclB⟩, hPc⟩ := hp
  intro T hT X
  rcases vx_callVN X hx (C := C) (bytes := bytes) (maxL := maxL) (ret := ret) ho hl hx1 hx2 hcode hy hK (by rw [hT]; exact hcB) hoB hclB hg (hsize.trans hml.symm) (argsL := As) (rest := rest) (fun sig h => hn.trans (hlen sig h)) hstack hW (by rw [hb]; exact hdg)
    (fun vm₁ hW₁ => ⟨hf.1, hf.2, hPc (T.setVm vm₁) hT hW₁⟩) with ⟨v, vm₁, ⟨U', l2, c2, s2⟩, hW₁, X', ⟨g', mk, t, L, e1, e2, hq, h1, hL, h2, h3⟩, st⟩ | ⟨q, vm₁, ⟨U', l2, c2, s2⟩, hW₁, X', ⟨g', mk, t, L, E, ce, e1, e2, hq, hce, hcv, hcl, h1, hL, h2, h3⟩, st⟩
  · dsimp only [Pt.U, Pt.locs, Pt.cells, Pt.slots] at X' e1 e2 h1 h2 h3 st
    subst h1; subst h2; subst h3
    exact Or.inl ⟨v, (T.setVm vm₁).calling g' mk (Value.ref b :: As).toArray, t, U', L, hT, X', hL, e1, e2, hq, st⟩
  · dsimp only [Pt.U, Pt.locs, Pt.cells, Pt.slots] at X' e1 e2 h1 h2 h3 st hcl
    subst h1; subst h2; subst h3
    exact Or.inr ⟨q, (T.setVm vm₁).calling g' mk (Value.ref b :: As).toArray, t, U', L, E, ce, hT, X', hL, e1, e2, hq, hce, hcv, vx_cls hW₁ hcl, st⟩
theorem vx_runSN {y : MethodName} {bytes cc : ByteArray} {maxL nL mc ms n index : Nat} {ret : Option FieldType} {ws : List Cond} {rm : Room} {Pc : Array Value → State → Prop} {Qc : Array Value → State → Outcome → State → Prop} {XC : String → State → State → Prop} {free : Addr → Prop} {Ts : List Cond} {own host : String} {As rest : List Value} {g : JFrame}
    (S : CallFix p m c cc nL s args Ts own) (hM : vx_Met l y ws rm Pc Qc XC mc ms free) (cw : va_CN R s args own index y host bytes maxL ret ws rm mc ms n ∧ (Cond.static y).before args s = true ∧ True) (hp : PreS s H Pc As)
    (hg : g.method = m) (hn : As.length = n) (hsize : g.locals.size = nL) (hstack : g.stack = As.reverse ++ rest) (hW : 2 * g.monitorRoom + (rest.map fun v => v.category).sum ≤ 8) (hdg : decode cc g.pc = .ok (.invokestatic index, 3)) (hf : cells + mc ≤ R.cells ∧ slots + ms ≤ R.slots) :
    vx_Run p l e R s m args below meth c H locs cells slots mc ms g rest (Qc As.toArray) XC free := by
  obtain ⟨⟨⟨hrc, hrs, hfr, hlo, hws, hcw⟩, hcode, hini, hy, hlen, hl⟩, hx1, hx2⟩ := cw
  have hK : vx_Back l R p e below s args y 3 8 (PreOf R mc ms Pc) (PostOf Qc mc ms free) (vx_Post XC mc ms free) := vx_back (bytes := bytes) (maxL := maxL) (ret := ret) hM hp.1 hrc hrs hfr hlo hws hcw (fun a' U hW => word_at hW (Or.inl (by first | rfl | simp [Cond.onTables, Cond.keeps, Cond.steady])) hini)
  obtain ⟨hx, hb, hml, ho, -⟩ := S
  have hPc := hp.2
  intro T hT X
  rcases vx_callSN X hx (bytes := bytes) (maxL := maxL) (ret := ret) ho hl hx1 hini hcode hy hK hg (hsize.trans hml.symm) (argsL := As) (rest := rest) (fun sig h => hn.trans (hlen sig h)) hstack hW (by rw [hb]; exact hdg)
    (fun vm₁ hW₁ => ⟨hf.1, hf.2, hPc (T.setVm vm₁) hT hW₁⟩) with ⟨v, vm₁, ⟨U', l2, c2, s2⟩, hW₁, X', ⟨g', mk, t, L, e1, e2, hq, h1, hL, h2, h3⟩, st⟩ | ⟨q, vm₁, ⟨U', l2, c2, s2⟩, hW₁, X', ⟨g', mk, t, L, E, ce, e1, e2, hq, hce, hcv, hcl, h1, hL, h2, h3⟩, st⟩
  · dsimp only [Pt.U, Pt.locs, Pt.cells, Pt.slots] at X' e1 e2 h1 h2 h3 st
    subst h1; subst h2; subst h3
    exact Or.inl ⟨v, (T.setVm vm₁).calling g' mk As.toArray, t, U', L, hT, X', hL, e1, e2, hq, st⟩
  · dsimp only [Pt.U, Pt.locs, Pt.cells, Pt.slots] at X' e1 e2 h1 h2 h3 st hcl
    subst h1; subst h2; subst h3
    exact Or.inr ⟨q, (T.setVm vm₁).calling g' mk As.toArray, t, U', L, E, ce, hT, X', hL, e1, e2, hq, hce, hcv, vx_cls hW₁ hcl, st⟩
end
/-! ===== END ===== -/
/-! ===== BEGIN calls by an interface of methods that may throw (vx_callIF, vx_runF follow va_callIF, va_runF of this kit) ===== -/
section
variable {p : Program} {l : Launch} {e : Env} {R : Room} {s : State} {m : MethodId} {args : Array Value} {below : List Frame} {meth : Method} {c : Code} {H : Heap} {locs : List Loc} {cells slots : Nat} {Q : State → Prop}
variable {mc ms : Nat} {free : Addr → Prop} {A0 A1 : Nat → Prop} {H0 : Heap} {a : Array Value} {pc : Nat} {ls : Array Slot} {st0 rest : List Value}
def vx_Run5 (p : Program) (l : Launch) (e : Env) (R : Room) (s : State) (m : MethodId) (args : Array Value) (below : List Frame) (meth : Method) (c : Code) (H : Heap) (locs : List Loc) (cells slots mc ms : Nat) (g : JFrame) (rest : List Value) (Qa : State → Outcome → State → Prop) (XC : String → State → State → Prop) (free : Addr → Prop) : Prop :=
  ∀ T : State, T.heap = H → Stand p l e R s m args below meth c T locs cells slots →
    (∃ (v : Option Value) (st₀ t T' : State) (L : List Loc), st₀.heap = H ∧ Stand p l e R s m args below meth c T' (locs ++ L) (cells + mc) (slots + ms) ∧ (∀ q ∈ L, free q.base) ∧ T'.heap = t.heap ∧ T'.vm = t.vm ∧ Qa st₀ (.returned v) t ∧
      Goes p e below T g T' { g with pc := g.pc + 5, stack := v.toList ++ rest }) ∨
    (∃ (q : Addr) (st₀ t T' : State) (L : List Loc) (E : String) (ce : Cell), st₀.heap = H ∧ Stand p l e R s m args below meth c T' (locs ++ L) (cells + mc) (slots + ms) ∧ (∀ z ∈ L, free z.base) ∧ T'.heap = t.heap ∧ T'.vm = t.vm ∧ XC E st₀ t ∧ t.heap[q]? = some ce ∧ ce.vm = .none ∧ s.vm.findClass E = some ce.cls ∧
      Steps p.tables e below (T.setTop g) ((T'.setTop { g with stack := rest }).pushFrame (.throwing q)))
theorem vx_callIF {T : State} (X : Stand p l e R s m args below meth c T locs cells slots) (hexec : p.tables.exec = Jvm.exec) {own C : String} {index count : Nat} {x y : MethodName} {bytes : ByteArray} {maxL : Nat} {ret : Option FieldType}
    (hown : s.vm.findClass own = some m.cls) (hlink : (Cond.methodLink own index x).before args s = true) (hdecl : (Cond.declares x).before args s = true) (hface : (Cond.interfaceMethod x.cls x.cls x.name x.desc).before args s = true)
    (hsel : (Cond.selects C x y).before args s = true) (hinst : (Cond.instanceMethod y).before args s = true) (hpub : (Cond.publicMethod y).before args s = true) (hunh : (Cond.unhidden C x.name x.desc).before args s = true)
    (hcast : (Cond.castable C x.cls).before args s = true) (hcode : (Cond.code y bytes maxL ret).before args s = true) (hx : x.cls ≠ "java/lang/invoke/MethodHandle" ∧ x.cls ≠ "java/lang/invoke/VarHandle")
    {W9 : Nat} {Pre : Pt → Array Value → Prop} {Post : Pt → Array Value → Option Value → Pt → Prop} {PostX : Pt → Array Value → Addr → Pt → Prop} (hK : vx_Back l R p e below s args y 5 W9 Pre Post PostX)
    {b : Addr} {cellB : Cell} {kB : Class} (hcell : T.heap[b]? = some cellB) (hobj : cellB.vm.isStatics = false) (hcls : s.vm.findClass C = some cellB.cls) (hkB : s.vm.classes[cellB.cls]? = some kB)
    {g : JFrame} (hg : g.method = m) (hsize : g.locals.size = c.maxLocals) {argsL rest : List Value} (hlen : ∀ sig, parseMethodDescriptor x.desc = some sig → argsL.length = sig.parameters.length)
    (hstack : g.stack = argsL.reverse ++ .ref b :: rest) (hW : 2 * g.monitorRoom + (rest.map fun v => v.category).sum ≤ W9) (hdg : decode c.code g.pc = .ok (.invokeinterface index count, 5))
    (hpre : ∀ vm₁, s.WarmedH vm₁ → Pre ⟨T.setVm vm₁, locs, cells, slots⟩ (Value.ref b :: argsL).toArray) :
    (∃ (v : Option Value) (vm₁ : Vm) (B : Pt), s.WarmedH vm₁ ∧ Stand p l e R s m args below meth c B.U B.locs B.cells B.slots ∧ Post ⟨T.setVm vm₁, locs, cells, slots⟩ (Value.ref b :: argsL).toArray v B ∧
      ∀ target, Steps p.tables e below (B.U.setTop { g with pc := g.pc + 5, stack := v.toList ++ rest }) target → Steps p.tables e below (T.setTop g) target) ∨
    (∃ (q : Addr) (vm₁ : Vm) (B : Pt), s.WarmedH vm₁ ∧ Stand p l e R s m args below meth c B.U B.locs B.cells B.slots ∧ PostX ⟨T.setVm vm₁, locs, cells, slots⟩ (Value.ref b :: argsL).toArray q B ∧
      Steps p.tables e below (T.setTop g) ((B.U.setTop { g with stack := rest }).pushFrame (.throwing q))) := by
  obtain ⟨r0, r, hn, hrm, hstR, hsigR⟩ := Cond.declares_spec hdecl
  obtain ⟨cL, kL, r1, hcL, hkL, hiL, hfoundL, hn1⟩ := Cond.interfaceMethod_spec hface
  cases hn.symm.trans hn1
  have hr0cls : r0.cls = cL := Option.some.inj ((findClass_of_methodNamed hn).symm.trans hcL)
  obtain ⟨hnameR, hdescR⟩ := name_of_methodNamed hn hrm
  obtain ⟨mk, methM, hnamed, hmethM, -, habM⟩ := Cond.instanceMethod_spec hinst
  obtain ⟨c2, r2, m2, q1, q2, q3, q4, -⟩ := Cond.selects_spec hsel
  cases hcls.symm.trans q1
  cases hfoundL.symm.trans q2
  cases hnamed.symm.trans q3
  have hselP : selectMethod e.platform s.vm cellB.cls r0 = .method mk := by rw [Launch.admits_selectMethod X.admits]; exact q4
  have hpubM : hasFlag methM.accessFlags Acc.public_ = true := Cond.publicMethod_spec hnamed hmethM hpub
  have hway : ((cellB.cls :: s.vm.superclasses cellB.cls).any fun k => (declaredIn s.vm r.name r.desc k).any fun (_, z) => z.isPrivate || z.isStatic) = false := by
    rw [hnameR, hdescR]; exact Cond.unhidden_spec hcls hunh
  obtain ⟨c3, t3, w1, w2, w3⟩ := Cond.castable_spec hcast
  cases hcls.symm.trans w1
  cases hcL.symm.trans w2
  obtain ⟨vm₁, X₁, hstep₁⟩ := X.invokeinterface hexec hown hlink hn hrm hstR (by rw [hr0cls]; exact hkL) hiL hx (a := b) (cell := cellB) (kcell := kB) hcell
    (fun z h => by rw [h] at hobj; cases hobj) hkB (by rw [hr0cls]; exact w3) hselP hmethM hway hpubM habM (g := g) hg (argsL := argsL) (rest := rest) (hlen _ hsigR) hstack hdg
  rcases hK m meth c ⟨T.setVm vm₁, locs, cells, slots⟩ { g with stack := rest } (.invokeinterface index count) mk (Value.ref b :: argsL).toArray X₁ hg hsize hdg hW (X₁.named hnamed) (hpre vm₁ X₁.warmed) with ⟨v, B, X', hpost, hsteps⟩ | ⟨q, B, X', hpost, hsteps⟩
  · exact Or.inl ⟨v, vm₁, B, X₁.warmed, X', hpost, fun target h => hstep₁ _ fun acts => by rw [doInvoke_state]; exact hsteps.trans h⟩
  · exact Or.inr ⟨q, vm₁, B, X₁.warmed, X', hpost, hstep₁ _ fun acts => by rw [doInvoke_state]; exact hsteps⟩
theorem vx_runF {x y : MethodName} {bytes cc : ByteArray} {maxL nL mc ms n index count : Nat} {ret : Option FieldType} {ws : List Cond} {rm : Room} {Pc : Array Value → State → Prop} {Qc : Array Value → State → Outcome → State → Prop} {XC : String → State → State → Prop} {free : Addr → Prop} {Ts : List Cond} {own C : String} {cC : ClassId} {b : Addr} {As rest : List Value} {g : JFrame}
    (hat : ClassAt s C cC) (S : CallFix p m c cc nL s args Ts own) (hM : vx_Met l y ws rm Pc Qc XC mc ms free) (cw : va_CI R s args own C index x y bytes maxL ret ws rm mc ms n) (hp : PreV s H C b Pc As)
    (hg : g.method = m) (hn : As.length = n) (hsize : g.locals.size = nL) (hstack : g.stack = As.reverse ++ .ref b :: rest) (hW : 2 * g.monitorRoom + (rest.map fun v => v.category).sum ≤ 8) (hdg : decode cc g.pc = .ok (.invokeinterface index count, 5)) (hf : cells + mc ≤ R.cells ∧ slots + ms ≤ R.slots) :
    vx_Run5 p l e R s m args below meth c H locs cells slots mc ms g rest (Qc (Value.ref b :: As).toArray) XC free := by
  obtain ⟨hrc, hrs, hfr, hlo, hws, hcw⟩ := cw.back
  have hini := cw.init
  have hK : vx_Back l R p e below s args y 5 8 (PreOf R mc ms Pc) (PostOf Qc mc ms free) (vx_Post XC mc ms free) := vx_back (bytes := bytes) (maxL := maxL) (ret := ret) hM hp.1 hrc hrs hfr hlo hws hcw (fun a' U hW => word_at hW (Or.inl (by first | rfl | simp [Cond.onTables, Cond.keeps, Cond.steady])) hini)
  obtain ⟨hx, hb, hml, ho, -⟩ := S
  obtain ⟨-, ⟨cellB, hcB, hoB, hclB⟩, hPc⟩ := hp
  obtain ⟨hfc, kB, hkB, -⟩ := hat
  cases hfc.symm.trans hclB
  intro T hT X
  rcases vx_callIF X hx (C := C) (bytes := bytes) (maxL := maxL) (ret := ret) ho cw.link cw.decl cw.face cw.sel cw.inst cw.pub cw.unh cw.cast cw.code cw.notMH hK (by rw [hT]; exact hcB) hoB hclB hkB hg (hsize.trans hml.symm) (argsL := As) (rest := rest) (fun sig h => hn.trans (cw.len sig h)) hstack hW (by rw [hb]; exact hdg)
    (fun vm₁ hW₁ => ⟨hf.1, hf.2, hPc (T.setVm vm₁) hT hW₁⟩) with ⟨v, vm₁, ⟨U', l2, c2, s2⟩, hW₁, X', ⟨g', mk, t, L, e1, e2, hq, h1, hL, h2, h3⟩, st⟩ | ⟨q, vm₁, ⟨U', l2, c2, s2⟩, hW₁, X', ⟨g', mk, t, L, E, ce, e1, e2, hq, hce, hcv, hcl, h1, hL, h2, h3⟩, st⟩
  · dsimp only [Pt.U, Pt.locs, Pt.cells, Pt.slots] at X' e1 e2 h1 h2 h3 st
    subst h1; subst h2; subst h3
    exact Or.inl ⟨v, (T.setVm vm₁).calling g' mk (Value.ref b :: As).toArray, t, U', L, hT, X', hL, e1, e2, hq, st⟩
  · dsimp only [Pt.U, Pt.locs, Pt.cells, Pt.slots] at X' e1 e2 h1 h2 h3 st hcl
    subst h1; subst h2; subst h3
    exact Or.inr ⟨q, (T.setVm vm₁).calling g' mk (Value.ref b :: As).toArray, t, U', L, E, ce, hT, X', hL, e1, e2, hq, hce, hcv, vx_cls hW₁ hcl, st⟩
theorem vx_callFv {S SX : Type} {post : S → Prop} {px : SX → Prop} {B : S → State → Prop} {BX : String → SX → State → Prop} {AX : Nat → Prop} (hr : vx_Run5 p l e R s m args below meth c H locs cells slots mc ms (F0 m pc ls st0) rest (va_Qv post B A1 a) (vx_X px BX AX) free) (hS : va_S A0 H0 H locs) (hA : ∀ q, q < H.size → A1 q → A0 q) (hf : ∀ q, free q → A0 q) (hAX : ∀ q, q < H.size → AX q → A0 q)
    (kx : ∀ (E : String) (ce : Cell) (q9 : Addr) (u : SX) (t : State) (H1 : Heap) (locs1 : List Loc), t.heap = H1 → s.vm.Alike t.vm → px u → BX E u t → H.size ≤ H1.size → (∀ q : Nat, q < H.size → ¬ AX q → H1[q]? = H[q]?) → va_S A0 H0 H1 locs1 → H1[q9]? = some ce → ce.vm = .none → s.vm.findClass E = some ce.cls → vx_W p l e R s m args below meth c H1 locs1 (cells + mc) (slots + ms) Q (F0 m pc ls rest) q9)
    (kk : ∀ (u : S) (t : State) (H1 : Heap) (locs1 : List Loc), t.heap = H1 → s.vm.Alike t.vm → post u → B u t → H.size ≤ H1.size → (∀ q : Nat, q < H.size → ¬ A1 q → H1[q]? = H[q]?) → va_S A0 H0 H1 locs1 → W p l e R s m args below meth c H1 locs1 (cells + mc) (slots + ms) Q (F0 m (pc + 5) ls (rest))) : W p l e R s m args below meth c H locs cells slots Q (F0 m pc ls st0) := by
  intro T hT X
  rcases hr T hT X with ⟨v, st₀, t, T', L, h0, X', hL, e1, e2, ⟨⟨u, hv, hp, hb⟩, hF⟩, st⟩ | ⟨q, st₀, t, T', L, E, ce, h0, X', hL, e1, e2, ⟨u, hp, hb, hF⟩, hce, hcv, hcl, st⟩
  · cases hv
    obtain ⟨k1, k2, k3⟩ := vx_keep h0 e1 hS hA hf hL hF
    obtain ⟨t2, a1, b1⟩ := kk u t T'.heap (locs ++ L) e1.symm (by rw [← e2]; exact X'.warmed.alike) hp hb k1 k2 k3 T' rfl X'
    exact ⟨t2, st t2 a1, b1⟩
  · obtain ⟨k1, k2, k3⟩ := vx_keep h0 e1 hS hAX hf hL hF
    obtain ⟨t2, a1, b1⟩ := kx E ce q u t T'.heap (locs ++ L) e1.symm (by rw [← e2]; exact X'.warmed.alike) hp hb k1 k2 k3 (by rw [e1]; exact hce) hcv hcl T' rfl X'
    exact ⟨t2, st.trans a1, b1⟩
theorem vx_callFi {S SX : Type} {post : Int32 → S → Prop} {px : SX → Prop} {B : S → State → Prop} {BX : String → SX → State → Prop} {AX : Nat → Prop} (hr : vx_Run5 p l e R s m args below meth c H locs cells slots mc ms (F0 m pc ls st0) rest (va_Qi post B A1 a) (vx_X px BX AX) free) (hS : va_S A0 H0 H locs) (hA : ∀ q, q < H.size → A1 q → A0 q) (hf : ∀ q, free q → A0 q) (hAX : ∀ q, q < H.size → AX q → A0 q)
    (kx : ∀ (E : String) (ce : Cell) (q9 : Addr) (u : SX) (t : State) (H1 : Heap) (locs1 : List Loc), t.heap = H1 → s.vm.Alike t.vm → px u → BX E u t → H.size ≤ H1.size → (∀ q : Nat, q < H.size → ¬ AX q → H1[q]? = H[q]?) → va_S A0 H0 H1 locs1 → H1[q9]? = some ce → ce.vm = .none → s.vm.findClass E = some ce.cls → vx_W p l e R s m args below meth c H1 locs1 (cells + mc) (slots + ms) Q (F0 m pc ls rest) q9)
    (kk : ∀ (r : Int32) (u : S) (t : State) (H1 : Heap) (locs1 : List Loc), t.heap = H1 → s.vm.Alike t.vm → post r u → B u t → H.size ≤ H1.size → (∀ q : Nat, q < H.size → ¬ A1 q → H1[q]? = H[q]?) → va_S A0 H0 H1 locs1 → W p l e R s m args below meth c H1 locs1 (cells + mc) (slots + ms) Q (F0 m (pc + 5) ls (.int r :: rest))) : W p l e R s m args below meth c H locs cells slots Q (F0 m pc ls st0) := by
  intro T hT X
  rcases hr T hT X with ⟨v, st₀, t, T', L, h0, X', hL, e1, e2, ⟨⟨r, u, hv, hp, hb⟩, hF⟩, st⟩ | ⟨q, st₀, t, T', L, E, ce, h0, X', hL, e1, e2, ⟨u, hp, hb, hF⟩, hce, hcv, hcl, st⟩
  · cases hv
    obtain ⟨k1, k2, k3⟩ := vx_keep h0 e1 hS hA hf hL hF
    obtain ⟨t2, a1, b1⟩ := kk r u t T'.heap (locs ++ L) e1.symm (by rw [← e2]; exact X'.warmed.alike) hp hb k1 k2 k3 T' rfl X'
    exact ⟨t2, st t2 a1, b1⟩
  · obtain ⟨k1, k2, k3⟩ := vx_keep h0 e1 hS hAX hf hL hF
    obtain ⟨t2, a1, b1⟩ := kx E ce q u t T'.heap (locs ++ L) e1.symm (by rw [← e2]; exact X'.warmed.alike) hp hb k1 k2 k3 (by rw [e1]; exact hce) hcv hcl T' rfl X'
    exact ⟨t2, st.trans a1, b1⟩
theorem vx_callFl {S SX : Type} {post : Int64 → S → Prop} {px : SX → Prop} {B : S → State → Prop} {BX : String → SX → State → Prop} {AX : Nat → Prop} (hr : vx_Run5 p l e R s m args below meth c H locs cells slots mc ms (F0 m pc ls st0) rest (va_Ql post B A1 a) (vx_X px BX AX) free) (hS : va_S A0 H0 H locs) (hA : ∀ q, q < H.size → A1 q → A0 q) (hf : ∀ q, free q → A0 q) (hAX : ∀ q, q < H.size → AX q → A0 q)
    (kx : ∀ (E : String) (ce : Cell) (q9 : Addr) (u : SX) (t : State) (H1 : Heap) (locs1 : List Loc), t.heap = H1 → s.vm.Alike t.vm → px u → BX E u t → H.size ≤ H1.size → (∀ q : Nat, q < H.size → ¬ AX q → H1[q]? = H[q]?) → va_S A0 H0 H1 locs1 → H1[q9]? = some ce → ce.vm = .none → s.vm.findClass E = some ce.cls → vx_W p l e R s m args below meth c H1 locs1 (cells + mc) (slots + ms) Q (F0 m pc ls rest) q9)
    (kk : ∀ (r : Int64) (u : S) (t : State) (H1 : Heap) (locs1 : List Loc), t.heap = H1 → s.vm.Alike t.vm → post r u → B u t → H.size ≤ H1.size → (∀ q : Nat, q < H.size → ¬ A1 q → H1[q]? = H[q]?) → va_S A0 H0 H1 locs1 → W p l e R s m args below meth c H1 locs1 (cells + mc) (slots + ms) Q (F0 m (pc + 5) ls (.long r :: rest))) : W p l e R s m args below meth c H locs cells slots Q (F0 m pc ls st0) := by
  intro T hT X
  rcases hr T hT X with ⟨v, st₀, t, T', L, h0, X', hL, e1, e2, ⟨⟨r, u, hv, hp, hb⟩, hF⟩, st⟩ | ⟨q, st₀, t, T', L, E, ce, h0, X', hL, e1, e2, ⟨u, hp, hb, hF⟩, hce, hcv, hcl, st⟩
  · cases hv
    obtain ⟨k1, k2, k3⟩ := vx_keep h0 e1 hS hA hf hL hF
    obtain ⟨t2, a1, b1⟩ := kk r u t T'.heap (locs ++ L) e1.symm (by rw [← e2]; exact X'.warmed.alike) hp hb k1 k2 k3 T' rfl X'
    exact ⟨t2, st t2 a1, b1⟩
  · obtain ⟨k1, k2, k3⟩ := vx_keep h0 e1 hS hAX hf hL hF
    obtain ⟨t2, a1, b1⟩ := kx E ce q u t T'.heap (locs ++ L) e1.symm (by rw [← e2]; exact X'.warmed.alike) hp hb k1 k2 k3 (by rw [e1]; exact hce) hcv hcl T' rfl X'
    exact ⟨t2, st.trans a1, b1⟩
theorem vx_callFf {S SX : Type} {post : UInt32 → S → Prop} {px : SX → Prop} {B : S → State → Prop} {BX : String → SX → State → Prop} {AX : Nat → Prop} (hr : vx_Run5 p l e R s m args below meth c H locs cells slots mc ms (F0 m pc ls st0) rest (va_Qf post B A1 a) (vx_X px BX AX) free) (hS : va_S A0 H0 H locs) (hA : ∀ q, q < H.size → A1 q → A0 q) (hf : ∀ q, free q → A0 q) (hAX : ∀ q, q < H.size → AX q → A0 q)
    (kx : ∀ (E : String) (ce : Cell) (q9 : Addr) (u : SX) (t : State) (H1 : Heap) (locs1 : List Loc), t.heap = H1 → s.vm.Alike t.vm → px u → BX E u t → H.size ≤ H1.size → (∀ q : Nat, q < H.size → ¬ AX q → H1[q]? = H[q]?) → va_S A0 H0 H1 locs1 → H1[q9]? = some ce → ce.vm = .none → s.vm.findClass E = some ce.cls → vx_W p l e R s m args below meth c H1 locs1 (cells + mc) (slots + ms) Q (F0 m pc ls rest) q9)
    (kk : ∀ (r : UInt32) (u : S) (t : State) (H1 : Heap) (locs1 : List Loc), t.heap = H1 → s.vm.Alike t.vm → post r u → B u t → H.size ≤ H1.size → (∀ q : Nat, q < H.size → ¬ A1 q → H1[q]? = H[q]?) → va_S A0 H0 H1 locs1 → W p l e R s m args below meth c H1 locs1 (cells + mc) (slots + ms) Q (F0 m (pc + 5) ls (.float r :: rest))) : W p l e R s m args below meth c H locs cells slots Q (F0 m pc ls st0) := by
  intro T hT X
  rcases hr T hT X with ⟨v, st₀, t, T', L, h0, X', hL, e1, e2, ⟨⟨r, u, hv, hp, hb⟩, hF⟩, st⟩ | ⟨q, st₀, t, T', L, E, ce, h0, X', hL, e1, e2, ⟨u, hp, hb, hF⟩, hce, hcv, hcl, st⟩
  · cases hv
    obtain ⟨k1, k2, k3⟩ := vx_keep h0 e1 hS hA hf hL hF
    obtain ⟨t2, a1, b1⟩ := kk r u t T'.heap (locs ++ L) e1.symm (by rw [← e2]; exact X'.warmed.alike) hp hb k1 k2 k3 T' rfl X'
    exact ⟨t2, st t2 a1, b1⟩
  · obtain ⟨k1, k2, k3⟩ := vx_keep h0 e1 hS hAX hf hL hF
    obtain ⟨t2, a1, b1⟩ := kx E ce q u t T'.heap (locs ++ L) e1.symm (by rw [← e2]; exact X'.warmed.alike) hp hb k1 k2 k3 (by rw [e1]; exact hce) hcv hcl T' rfl X'
    exact ⟨t2, st.trans a1, b1⟩
theorem vx_callFd {S SX : Type} {post : UInt64 → S → Prop} {px : SX → Prop} {B : S → State → Prop} {BX : String → SX → State → Prop} {AX : Nat → Prop} (hr : vx_Run5 p l e R s m args below meth c H locs cells slots mc ms (F0 m pc ls st0) rest (va_Qd post B A1 a) (vx_X px BX AX) free) (hS : va_S A0 H0 H locs) (hA : ∀ q, q < H.size → A1 q → A0 q) (hf : ∀ q, free q → A0 q) (hAX : ∀ q, q < H.size → AX q → A0 q)
    (kx : ∀ (E : String) (ce : Cell) (q9 : Addr) (u : SX) (t : State) (H1 : Heap) (locs1 : List Loc), t.heap = H1 → s.vm.Alike t.vm → px u → BX E u t → H.size ≤ H1.size → (∀ q : Nat, q < H.size → ¬ AX q → H1[q]? = H[q]?) → va_S A0 H0 H1 locs1 → H1[q9]? = some ce → ce.vm = .none → s.vm.findClass E = some ce.cls → vx_W p l e R s m args below meth c H1 locs1 (cells + mc) (slots + ms) Q (F0 m pc ls rest) q9)
    (kk : ∀ (r : UInt64) (u : S) (t : State) (H1 : Heap) (locs1 : List Loc), t.heap = H1 → s.vm.Alike t.vm → post r u → B u t → H.size ≤ H1.size → (∀ q : Nat, q < H.size → ¬ A1 q → H1[q]? = H[q]?) → va_S A0 H0 H1 locs1 → W p l e R s m args below meth c H1 locs1 (cells + mc) (slots + ms) Q (F0 m (pc + 5) ls (.double r :: rest))) : W p l e R s m args below meth c H locs cells slots Q (F0 m pc ls st0) := by
  intro T hT X
  rcases hr T hT X with ⟨v, st₀, t, T', L, h0, X', hL, e1, e2, ⟨⟨r, u, hv, hp, hb⟩, hF⟩, st⟩ | ⟨q, st₀, t, T', L, E, ce, h0, X', hL, e1, e2, ⟨u, hp, hb, hF⟩, hce, hcv, hcl, st⟩
  · cases hv
    obtain ⟨k1, k2, k3⟩ := vx_keep h0 e1 hS hA hf hL hF
    obtain ⟨t2, a1, b1⟩ := kk r u t T'.heap (locs ++ L) e1.symm (by rw [← e2]; exact X'.warmed.alike) hp hb k1 k2 k3 T' rfl X'
    exact ⟨t2, st t2 a1, b1⟩
  · obtain ⟨k1, k2, k3⟩ := vx_keep h0 e1 hS hAX hf hL hF
    obtain ⟨t2, a1, b1⟩ := kx E ce q u t T'.heap (locs ++ L) e1.symm (by rw [← e2]; exact X'.warmed.alike) hp hb k1 k2 k3 (by rw [e1]; exact hce) hcv hcl T' rfl X'
    exact ⟨t2, st.trans a1, b1⟩
end
/-! ===== END ===== -/
/-! ===== BEGIN by an interface, a method with a table of its own that may throw (follows va_callIFW, va_runFW) ===== -/
section
variable {p : Program} {l : Launch} {e : Env} {R : Room} {s : State} {m : MethodId} {args : Array Value} {below : List Frame} {meth : Method} {c : Code} {H : Heap} {locs : List Loc} {cells slots : Nat}
theorem vx_callIFW {T : State} (X : Stand p l e R s m args below meth c T locs cells slots) (hexec : p.tables.exec = Jvm.exec) {own C : String} {index count : Nat} {x y : MethodName} {bytes : ByteArray} {maxL : Nat} {ret : Option FieldType} {hh : List (Nat × Nat × Nat × Nat)}
    (hown : s.vm.findClass own = some m.cls) (hlink : (Cond.methodLink own index x).before args s = true) (hdecl : (Cond.declares x).before args s = true) (hface : (Cond.interfaceMethod x.cls x.cls x.name x.desc).before args s = true)
    (hsel : (Cond.selects C x y).before args s = true) (hinst : (Cond.instanceMethod y).before args s = true) (hpub : (Cond.publicMethod y).before args s = true) (hunh : (Cond.unhidden C x.name x.desc).before args s = true)
    (hcast : (Cond.castable C x.cls).before args s = true) (hcode : (Cond.codeWith y bytes maxL ret hh).before args s = true) (hx : x.cls ≠ "java/lang/invoke/MethodHandle" ∧ x.cls ≠ "java/lang/invoke/VarHandle")
    {W : Nat} {Pre : Pt → Array Value → Prop} {Post : Pt → Array Value → Option Value → Pt → Prop} {PostX : Pt → Array Value → Addr → Pt → Prop} (hK : vx_Back l R p e below s args y 5 W Pre Post PostX)
    {b : Addr} {cellB : Cell} {kB : Class} (hcell : T.heap[b]? = some cellB) (hobj : cellB.vm.isStatics = false) (hcls : s.vm.findClass C = some cellB.cls) (hkB : s.vm.classes[cellB.cls]? = some kB)
    {g : JFrame} (hg : g.method = m) (hsize : g.locals.size = c.maxLocals) {argsL rest : List Value} (hlen : ∀ sig, parseMethodDescriptor x.desc = some sig → argsL.length = sig.parameters.length)
    (hstack : g.stack = argsL.reverse ++ .ref b :: rest) (hW : 2 * g.monitorRoom + (rest.map fun v => v.category).sum ≤ W) (hdg : decode c.code g.pc = .ok (.invokeinterface index count, 5))
    (hpre : ∀ vm₁, s.WarmedH vm₁ → Pre ⟨T.setVm vm₁, locs, cells, slots⟩ (Value.ref b :: argsL).toArray) :
    (∃ (v : Option Value) (vm₁ : Vm) (B : Pt), s.WarmedH vm₁ ∧ Stand p l e R s m args below meth c B.U B.locs B.cells B.slots ∧ Post ⟨T.setVm vm₁, locs, cells, slots⟩ (Value.ref b :: argsL).toArray v B ∧
      ∀ target, Steps p.tables e below (B.U.setTop { g with pc := g.pc + 5, stack := v.toList ++ rest }) target → Steps p.tables e below (T.setTop g) target) ∨
    (∃ (q : Addr) (vm₁ : Vm) (B : Pt), s.WarmedH vm₁ ∧ Stand p l e R s m args below meth c B.U B.locs B.cells B.slots ∧ PostX ⟨T.setVm vm₁, locs, cells, slots⟩ (Value.ref b :: argsL).toArray q B ∧
      Steps p.tables e below (T.setTop g) ((B.U.setTop { g with stack := rest }).pushFrame (.throwing q))) := by
  obtain ⟨r0, r, hn, hrm, hstR, hsigR⟩ := Cond.declares_spec hdecl
  obtain ⟨cL, kL, r1, hcL, hkL, hiL, hfoundL, hn1⟩ := Cond.interfaceMethod_spec hface
  cases hn.symm.trans hn1
  have hr0cls : r0.cls = cL := Option.some.inj ((findClass_of_methodNamed hn).symm.trans hcL)
  obtain ⟨hnameR, hdescR⟩ := name_of_methodNamed hn hrm
  obtain ⟨mk, methM, hnamed, hmethM, -, habM⟩ := Cond.instanceMethod_spec hinst
  obtain ⟨c2, r2, m2, q1, q2, q3, q4, -⟩ := Cond.selects_spec hsel
  cases hcls.symm.trans q1
  cases hfoundL.symm.trans q2
  cases hnamed.symm.trans q3
  have hselP : selectMethod e.platform s.vm cellB.cls r0 = .method mk := by rw [Launch.admits_selectMethod X.admits]; exact q4
  have hpubM : hasFlag methM.accessFlags Acc.public_ = true := Cond.publicMethod_spec hnamed hmethM hpub
  have hway : ((cellB.cls :: s.vm.superclasses cellB.cls).any fun k => (declaredIn s.vm r.name r.desc k).any fun (_, z) => z.isPrivate || z.isStatic) = false := by
    rw [hnameR, hdescR]; exact Cond.unhidden_spec hcls hunh
  obtain ⟨c3, t3, w1, w2, w3⟩ := Cond.castable_spec hcast
  cases hcls.symm.trans w1
  cases hcL.symm.trans w2
  obtain ⟨vm₁, X₁, hstep₁⟩ := X.invokeinterface hexec hown hlink hn hrm hstR (by rw [hr0cls]; exact hkL) hiL hx (a := b) (cell := cellB) (kcell := kB) hcell
    (fun z h => by rw [h] at hobj; cases hobj) hkB (by rw [hr0cls]; exact w3) hselP hmethM hway hpubM habM (g := g) hg (argsL := argsL) (rest := rest) (hlen _ hsigR) hstack hdg
  rcases hK m meth c ⟨T.setVm vm₁, locs, cells, slots⟩ { g with stack := rest } (.invokeinterface index count) mk (Value.ref b :: argsL).toArray X₁ hg hsize hdg hW (X₁.named hnamed) (hpre vm₁ X₁.warmed) with ⟨v, B, X', hpost, hsteps⟩ | ⟨q, B, X', hpost, hsteps⟩
  · exact Or.inl ⟨v, vm₁, B, X₁.warmed, X', hpost, fun target h => hstep₁ _ fun acts => by rw [doInvoke_state]; exact hsteps.trans h⟩
  · exact Or.inr ⟨q, vm₁, B, X₁.warmed, X', hpost, hstep₁ _ fun acts => by rw [doInvoke_state]; exact hsteps⟩
theorem vx_runFW {x y : MethodName} {bytes cc : ByteArray} {maxL nL mc ms n index count : Nat} {ret : Option FieldType} {hh : List (Nat × Nat × Nat × Nat)} {ws : List Cond} {rm : Room} {Pc : Array Value → State → Prop} {Qc : Array Value → State → Outcome → State → Prop} {XC : String → State → State → Prop} {free : Addr → Prop} {Ts : List Cond} {own C : String} {cC : ClassId} {b : Addr} {As rest : List Value} {g : JFrame}
    (hat : ClassAt s C cC) (S : CallFix p m c cc nL s args Ts own) (hM : vx_Met l y ws rm Pc Qc XC mc ms free) (cw : va_CIW R s args own C index x y bytes maxL ret hh ws rm mc ms n) (hp : PreV s H C b Pc As)
    (hg : g.method = m) (hn : As.length = n) (hsize : g.locals.size = nL) (hstack : g.stack = As.reverse ++ .ref b :: rest) (hW : 2 * g.monitorRoom + (rest.map fun v => v.category).sum ≤ 8) (hdg : decode cc g.pc = .ok (.invokeinterface index count, 5)) (hf : cells + mc ≤ R.cells ∧ slots + ms ≤ R.slots) :
    vx_Run5 p l e R s m args below meth c H locs cells slots mc ms g rest (Qc (Value.ref b :: As).toArray) XC free := by
  obtain ⟨hrc, hrs, hfr, hlo, hws, hcw⟩ := cw.back
  have hini := cw.init
  have hK : vx_Back l R p e below s args y 5 8 (PreOf R mc ms Pc) (PostOf Qc mc ms free) (vx_Post XC mc ms free) := vx_backW (hh := hh) (bytes := bytes) (maxL := maxL) (ret := ret) hM hp.1 hrc hrs hfr hlo hws hcw (fun a' U hW => word_at hW (Or.inl (by first | rfl | simp [Cond.onTables, Cond.keeps, Cond.steady])) hini)
  obtain ⟨hx, hb, hml, ho, -⟩ := S
  obtain ⟨-, ⟨cellB, hcB, hoB, hclB⟩, hPc⟩ := hp
  obtain ⟨hfc, kB, hkB, -⟩ := hat
  cases hfc.symm.trans hclB
  intro T hT X
  rcases vx_callIFW X hx (C := C) (hh := hh) (bytes := bytes) (maxL := maxL) (ret := ret) ho cw.link cw.decl cw.face cw.sel cw.inst cw.pub cw.unh cw.cast cw.code cw.notMH hK (by rw [hT]; exact hcB) hoB hclB hkB hg (hsize.trans hml.symm) (argsL := As) (rest := rest) (fun sig h => hn.trans (cw.len sig h)) hstack hW (by rw [hb]; exact hdg)
    (fun vm₁ hW₁ => ⟨hf.1, hf.2, hPc (T.setVm vm₁) hT hW₁⟩) with ⟨v, vm₁, ⟨U', l2, c2, s2⟩, hW₁, X', ⟨g', mk, t, L, e1, e2, hq, h1, hL, h2, h3⟩, st⟩ | ⟨q, vm₁, ⟨U', l2, c2, s2⟩, hW₁, X', ⟨g', mk, t, L, E, ce, e1, e2, hq, hce, hcv, hcl, h1, hL, h2, h3⟩, st⟩
  · dsimp only [Pt.U, Pt.locs, Pt.cells, Pt.slots] at X' e1 e2 h1 h2 h3 st
    subst h1; subst h2; subst h3
    exact Or.inl ⟨v, (T.setVm vm₁).calling g' mk (Value.ref b :: As).toArray, t, U', L, hT, X', hL, e1, e2, hq, st⟩
  · dsimp only [Pt.U, Pt.locs, Pt.cells, Pt.slots] at X' e1 e2 h1 h2 h3 st hcl
    subst h1; subst h2; subst h3
    exact Or.inr ⟨q, (T.setVm vm₁).calling g' mk (Value.ref b :: As).toArray, t, U', L, E, ce, hT, X', hL, e1, e2, hq, hce, hcv, vx_cls hW₁ hcl, st⟩
end
/-! ===== END ===== -/
/-! ===== BEGIN .. of methods that hand back an object of the pool ===== -/
section
variable {p : Program} {l : Launch} {e : Env} {R : Room} {s : State} {m : MethodId} {args : Array Value} {below : List Frame} {meth : Method} {c : Code} {H : Heap} {locs : List Loc} {cells slots : Nat} {Q : State → Prop}
variable {mc ms : Nat} {free : Addr → Prop} {A0 A1 : Nat → Prop} {H0 : Heap} {a : Array Value} {pc : Nat} {ls : Array Slot} {st0 rest : List Value}
theorem vx_callq {S SX : Type} {post : Option Nat → S → Prop} {px : SX → Prop} {B : S → State → Prop} {BX : String → SX → State → Prop} {AX : Nat → Prop} (hr : vx_Run p l e R s m args below meth c H locs cells slots mc ms (F0 m pc ls st0) rest (va_Qq post B A1 a) (vx_X px BX AX) free) (hS : va_S A0 H0 H locs) (hA : ∀ q, q < H.size → A1 q → A0 q) (hf : ∀ q, free q → A0 q) (hAX : ∀ q, q < H.size → AX q → A0 q)
    (kx : ∀ (E : String) (ce : Cell) (q9 : Addr) (u : SX) (t : State) (H1 : Heap) (locs1 : List Loc), t.heap = H1 → s.vm.Alike t.vm → px u → BX E u t → H.size ≤ H1.size → (∀ q : Nat, q < H.size → ¬ AX q → H1[q]? = H[q]?) → va_S A0 H0 H1 locs1 → H1[q9]? = some ce → ce.vm = .none → s.vm.findClass E = some ce.cls → vx_W p l e R s m args below meth c H1 locs1 (cells + mc) (slots + ms) Q (F0 m pc ls rest) q9)
    (kk : ∀ (r : Option Nat) (u : S) (t : State) (H1 : Heap) (locs1 : List Loc), t.heap = H1 → s.vm.Alike t.vm → post r u → B u t → H.size ≤ H1.size → (∀ q : Nat, q < H.size → ¬ A1 q → H1[q]? = H[q]?) → va_S A0 H0 H1 locs1 → W p l e R s m args below meth c H1 locs1 (cells + mc) (slots + ms) Q (F0 m (pc + 3) ls (va_rf r :: rest))) : W p l e R s m args below meth c H locs cells slots Q (F0 m pc ls st0) := by
  intro T hT X
  rcases hr T hT X with ⟨v, st₀, t, T', L, h0, X', hL, e1, e2, ⟨⟨r, u, hv, hp, hb⟩, hF⟩, st⟩ | ⟨q, st₀, t, T', L, E, ce, h0, X', hL, e1, e2, ⟨u, hp, hb, hF⟩, hce, hcv, hcl, st⟩
  · cases hv
    obtain ⟨k1, k2, k3⟩ := vx_keep h0 e1 hS hA hf hL hF
    obtain ⟨t2, a1, b1⟩ := kk r u t T'.heap (locs ++ L) e1.symm (by rw [← e2]; exact X'.warmed.alike) hp hb k1 k2 k3 T' rfl X'
    exact ⟨t2, st t2 a1, b1⟩
  · obtain ⟨k1, k2, k3⟩ := vx_keep h0 e1 hS hAX hf hL hF
    obtain ⟨t2, a1, b1⟩ := kx E ce q u t T'.heap (locs ++ L) e1.symm (by rw [← e2]; exact X'.warmed.alike) hp hb k1 k2 k3 (by rw [e1]; exact hce) hcv hcl T' rfl X'
    exact ⟨t2, st.trans a1, b1⟩
end
/-! ===== END ===== -/
/-! ===== BEGIN .. a constant ===== -/
section
variable {p : Program} {l : Launch} {e : Env} {R : Room} {s : State} {m : MethodId} {args : Array Value} {below : List Frame} {meth : Method} {c : Code} {H : Heap} {locs : List Loc} {cells slots : Nat} {Q : State → Prop}
variable {mc ms : Nat} {free : Addr → Prop} {A0 A1 : Nat → Prop} {H0 : Heap} {a : Array Value} {pc : Nat} {ls : Array Slot} {st0 rest : List Value}
theorem vx_calle {ad : Nat → Nat} {S SX : Type} {post : Option Nat → S → Prop} {px : SX → Prop} {B : S → State → Prop} {BX : String → SX → State → Prop} {AX : Nat → Prop} (hr : vx_Run p l e R s m args below meth c H locs cells slots mc ms (F0 m pc ls st0) rest (va_Qe ad post B A1 a) (vx_X px BX AX) free) (hS : va_S A0 H0 H locs) (hA : ∀ q, q < H.size → A1 q → A0 q) (hf : ∀ q, free q → A0 q) (hAX : ∀ q, q < H.size → AX q → A0 q)
    (kx : ∀ (E : String) (ce : Cell) (q9 : Addr) (u : SX) (t : State) (H1 : Heap) (locs1 : List Loc), t.heap = H1 → s.vm.Alike t.vm → px u → BX E u t → H.size ≤ H1.size → (∀ q : Nat, q < H.size → ¬ AX q → H1[q]? = H[q]?) → va_S A0 H0 H1 locs1 → H1[q9]? = some ce → ce.vm = .none → s.vm.findClass E = some ce.cls → vx_W p l e R s m args below meth c H1 locs1 (cells + mc) (slots + ms) Q (F0 m pc ls rest) q9)
    (kk : ∀ (r : Option Nat) (u : S) (t : State) (H1 : Heap) (locs1 : List Loc), t.heap = H1 → s.vm.Alike t.vm → post r u → B u t → H.size ≤ H1.size → (∀ q : Nat, q < H.size → ¬ A1 q → H1[q]? = H[q]?) → va_S A0 H0 H1 locs1 → W p l e R s m args below meth c H1 locs1 (cells + mc) (slots + ms) Q (F0 m (pc + 3) ls (va_re ad r :: rest))) : W p l e R s m args below meth c H locs cells slots Q (F0 m pc ls st0) := by
  intro T hT X
  rcases hr T hT X with ⟨v, st₀, t, T', L, h0, X', hL, e1, e2, ⟨⟨r, u, hv, hp, hb⟩, hF⟩, st⟩ | ⟨q, st₀, t, T', L, E, ce, h0, X', hL, e1, e2, ⟨u, hp, hb, hF⟩, hce, hcv, hcl, st⟩
  · cases hv
    obtain ⟨k1, k2, k3⟩ := vx_keep h0 e1 hS hA hf hL hF
    obtain ⟨t2, a1, b1⟩ := kk r u t T'.heap (locs ++ L) e1.symm (by rw [← e2]; exact X'.warmed.alike) hp hb k1 k2 k3 T' rfl X'
    exact ⟨t2, st t2 a1, b1⟩
  · obtain ⟨k1, k2, k3⟩ := vx_keep h0 e1 hS hAX hf hL hF
    obtain ⟨t2, a1, b1⟩ := kx E ce q u t T'.heap (locs ++ L) e1.symm (by rw [← e2]; exact X'.warmed.alike) hp hb k1 k2 k3 (by rw [e1]; exact hce) hcv hcl T' rfl X'
    exact ⟨t2, st.trans a1, b1⟩
end
/-! ===== END ===== -/
/-! ===== BEGIN .. by an interface, an object ===== -/
section
variable {p : Program} {l : Launch} {e : Env} {R : Room} {s : State} {m : MethodId} {args : Array Value} {below : List Frame} {meth : Method} {c : Code} {H : Heap} {locs : List Loc} {cells slots : Nat} {Q : State → Prop}
variable {mc ms : Nat} {free : Addr → Prop} {A0 A1 : Nat → Prop} {H0 : Heap} {a : Array Value} {pc : Nat} {ls : Array Slot} {st0 rest : List Value}
theorem vx_callFq {S SX : Type} {post : Option Nat → S → Prop} {px : SX → Prop} {B : S → State → Prop} {BX : String → SX → State → Prop} {AX : Nat → Prop} (hr : vx_Run5 p l e R s m args below meth c H locs cells slots mc ms (F0 m pc ls st0) rest (va_Qq post B A1 a) (vx_X px BX AX) free) (hS : va_S A0 H0 H locs) (hA : ∀ q, q < H.size → A1 q → A0 q) (hf : ∀ q, free q → A0 q) (hAX : ∀ q, q < H.size → AX q → A0 q)
    (kx : ∀ (E : String) (ce : Cell) (q9 : Addr) (u : SX) (t : State) (H1 : Heap) (locs1 : List Loc), t.heap = H1 → s.vm.Alike t.vm → px u → BX E u t → H.size ≤ H1.size → (∀ q : Nat, q < H.size → ¬ AX q → H1[q]? = H[q]?) → va_S A0 H0 H1 locs1 → H1[q9]? = some ce → ce.vm = .none → s.vm.findClass E = some ce.cls → vx_W p l e R s m args below meth c H1 locs1 (cells + mc) (slots + ms) Q (F0 m pc ls rest) q9)
    (kk : ∀ (r : Option Nat) (u : S) (t : State) (H1 : Heap) (locs1 : List Loc), t.heap = H1 → s.vm.Alike t.vm → post r u → B u t → H.size ≤ H1.size → (∀ q : Nat, q < H.size → ¬ A1 q → H1[q]? = H[q]?) → va_S A0 H0 H1 locs1 → W p l e R s m args below meth c H1 locs1 (cells + mc) (slots + ms) Q (F0 m (pc + 5) ls (va_rf r :: rest))) : W p l e R s m args below meth c H locs cells slots Q (F0 m pc ls st0) := by
  intro T hT X
  rcases hr T hT X with ⟨v, st₀, t, T', L, h0, X', hL, e1, e2, ⟨⟨r, u, hv, hp, hb⟩, hF⟩, st⟩ | ⟨q, st₀, t, T', L, E, ce, h0, X', hL, e1, e2, ⟨u, hp, hb, hF⟩, hce, hcv, hcl, st⟩
  · cases hv
    obtain ⟨k1, k2, k3⟩ := vx_keep h0 e1 hS hA hf hL hF
    obtain ⟨t2, a1, b1⟩ := kk r u t T'.heap (locs ++ L) e1.symm (by rw [← e2]; exact X'.warmed.alike) hp hb k1 k2 k3 T' rfl X'
    exact ⟨t2, st t2 a1, b1⟩
  · obtain ⟨k1, k2, k3⟩ := vx_keep h0 e1 hS hAX hf hL hF
    obtain ⟨t2, a1, b1⟩ := kx E ce q u t T'.heap (locs ++ L) e1.symm (by rw [← e2]; exact X'.warmed.alike) hp hb k1 k2 k3 (by rw [e1]; exact hce) hcv hcl T' rfl X'
    exact ⟨t2, st.trans a1, b1⟩
end
/-! ===== END ===== -/
/-! ===== BEGIN .. by an interface, a constant ===== -/
section
variable {p : Program} {l : Launch} {e : Env} {R : Room} {s : State} {m : MethodId} {args : Array Value} {below : List Frame} {meth : Method} {c : Code} {H : Heap} {locs : List Loc} {cells slots : Nat} {Q : State → Prop}
variable {mc ms : Nat} {free : Addr → Prop} {A0 A1 : Nat → Prop} {H0 : Heap} {a : Array Value} {pc : Nat} {ls : Array Slot} {st0 rest : List Value}
theorem vx_callFe {ad : Nat → Nat} {S SX : Type} {post : Option Nat → S → Prop} {px : SX → Prop} {B : S → State → Prop} {BX : String → SX → State → Prop} {AX : Nat → Prop} (hr : vx_Run5 p l e R s m args below meth c H locs cells slots mc ms (F0 m pc ls st0) rest (va_Qe ad post B A1 a) (vx_X px BX AX) free) (hS : va_S A0 H0 H locs) (hA : ∀ q, q < H.size → A1 q → A0 q) (hf : ∀ q, free q → A0 q) (hAX : ∀ q, q < H.size → AX q → A0 q)
    (kx : ∀ (E : String) (ce : Cell) (q9 : Addr) (u : SX) (t : State) (H1 : Heap) (locs1 : List Loc), t.heap = H1 → s.vm.Alike t.vm → px u → BX E u t → H.size ≤ H1.size → (∀ q : Nat, q < H.size → ¬ AX q → H1[q]? = H[q]?) → va_S A0 H0 H1 locs1 → H1[q9]? = some ce → ce.vm = .none → s.vm.findClass E = some ce.cls → vx_W p l e R s m args below meth c H1 locs1 (cells + mc) (slots + ms) Q (F0 m pc ls rest) q9)
    (kk : ∀ (r : Option Nat) (u : S) (t : State) (H1 : Heap) (locs1 : List Loc), t.heap = H1 → s.vm.Alike t.vm → post r u → B u t → H.size ≤ H1.size → (∀ q : Nat, q < H.size → ¬ A1 q → H1[q]? = H[q]?) → va_S A0 H0 H1 locs1 → W p l e R s m args below meth c H1 locs1 (cells + mc) (slots + ms) Q (F0 m (pc + 5) ls (va_re ad r :: rest))) : W p l e R s m args below meth c H locs cells slots Q (F0 m pc ls st0) := by
  intro T hT X
  rcases hr T hT X with ⟨v, st₀, t, T', L, h0, X', hL, e1, e2, ⟨⟨r, u, hv, hp, hb⟩, hF⟩, st⟩ | ⟨q, st₀, t, T', L, E, ce, h0, X', hL, e1, e2, ⟨u, hp, hb, hF⟩, hce, hcv, hcl, st⟩
  · cases hv
    obtain ⟨k1, k2, k3⟩ := vx_keep h0 e1 hS hA hf hL hF
    obtain ⟨t2, a1, b1⟩ := kk r u t T'.heap (locs ++ L) e1.symm (by rw [← e2]; exact X'.warmed.alike) hp hb k1 k2 k3 T' rfl X'
    exact ⟨t2, st t2 a1, b1⟩
  · obtain ⟨k1, k2, k3⟩ := vx_keep h0 e1 hS hAX hf hL hF
    obtain ⟨t2, a1, b1⟩ := kx E ce q u t T'.heap (locs ++ L) e1.symm (by rw [← e2]; exact X'.warmed.alike) hp hb k1 k2 k3 (by rw [e1]; exact hce) hcv hcl T' rfl X'
    exact ⟨t2, st.trans a1, b1⟩
end
/-! ===== END ===== -/
/-! ===== BEGIN what the machine throws by itself: null at a field, at athrow ===== -/
section VXM2
variable {p : Program} {l : Launch} {e : Env} {R : Room} {s : State} {m : MethodId} {args : Array Value} {below : List Frame} {meth : Method} {c : Code} {H : Heap} {locs : List Loc} {cells slots : Nat}
variable {Q : State → Prop} {cc : ByteArray} {pc : Nat} {ls : Array Slot} {rest : List Value}
theorem vx_getfN {D cl tys} {own ref C : String} {T : u_T} {N ci index : Nat} {Ts : List Cond} (hexec : p.tables.exec = Jvm.exec) (hb : c.code = cc) (hts : ∀ w ∈ Ts, w.before args s = true) (hin : ∀ w ∈ u_ws C T N, w ∈ Ts) (hown : s.vm.findClass own = some m.cls) (hK : va_K D cl tys s) (hc : cl[ci]? = some (C, T, N)) (k : Nat) (hk : k < N) (hlink : (Cond.fieldLink own index ref (T k).2.1 (T k).2.2.1).before args s = true) (hsame : ∀ x, s.fieldFound? (T k).1 (T k).2.1 (T k).2.2.1 = some x → s.fieldFound? ref (T k).2.1 (T k).2.2.1 = some x) (hdg : decode cc pc = .ok (.getfield index, 3)) (kk : vx_NoteN p l e R s m args below meth c H locs cells slots Q (F0 m pc ls rest)) : W p l e R s m args below meth c H locs cells slots Q (F0 m pc ls (.null :: rest)) := by
  obtain ⟨hS, hfc, kC, hkC, -⟩ := hK.1 ci _ hc
  obtain ⟨cf, kf, fi, f, hi, -⟩ := hS k hk
  intro U hU X
  obtain ⟨vm', X1, st1⟩ := X.getfieldNull hexec hown hlink (hsame _ hi) (u_facts hfc hkC (u_lays hts hin hk) hi).1 (g := F0 m pc ls (.null :: rest)) rfl (rest := rest) rfl (by rw [hb]; exact hdg)
  obtain ⟨t, st, q⟩ := kk (U.setVm vm') hU X1
  exact ⟨t, st1 t st, q⟩
theorem vx_getfNN {D cl tys} {own ref C host : String} {T : u_T} {N ci index : Nat} {Ts : List Cond} (hexec : p.tables.exec = Jvm.exec) (hb : c.code = cc) (hts : ∀ w ∈ Ts, w.before args s = true) (hin : ∀ w ∈ u_ws C T N, w ∈ Ts) (hown : s.vm.findClass own = some m.cls) (hK : va_K D cl tys s) (hc : cl[ci]? = some (C, T, N)) (k : Nat) (hk : k < N) (hlink : (Cond.fieldLinkNest own index ref (T k).2.1 (T k).2.2.1 host).before args s = true) (hsame : ∀ x, s.fieldFound? (T k).1 (T k).2.1 (T k).2.2.1 = some x → s.fieldFound? ref (T k).2.1 (T k).2.2.1 = some x) (hdg : decode cc pc = .ok (.getfield index, 3)) (kk : vx_NoteN p l e R s m args below meth c H locs cells slots Q (F0 m pc ls rest)) : W p l e R s m args below meth c H locs cells slots Q (F0 m pc ls (.null :: rest)) := by
  obtain ⟨hS, hfc, kC, hkC, -⟩ := hK.1 ci _ hc
  obtain ⟨cf, kf, fi, f, hi, -⟩ := hS k hk
  intro U hU X
  obtain ⟨vm', X1, st1⟩ := X.getfieldNullNest hexec hown hlink (hsame _ hi) (u_facts hfc hkC (u_lays hts hin hk) hi).1 (g := F0 m pc ls (.null :: rest)) rfl (rest := rest) rfl (by rw [hb]; exact hdg)
  obtain ⟨t, st, q⟩ := kk (U.setVm vm') hU X1
  exact ⟨t, st1 t st, q⟩
theorem vx_putfN {D cl tys} {own ref C : String} {T : u_T} {N ci index : Nat} {Ts : List Cond} (hexec : p.tables.exec = Jvm.exec) (hb : c.code = cc) (hts : ∀ w ∈ Ts, w.before args s = true) (hin : ∀ w ∈ u_ws C T N, w ∈ Ts) (hown : s.vm.findClass own = some m.cls) (hK : va_K D cl tys s) (hc : cl[ci]? = some (C, T, N)) (k : Nat) (hk : k < N) (hlink : (Cond.fieldLink own index ref (T k).2.1 (T k).2.2.1).before args s = true) (hsame : ∀ x, s.fieldFound? (T k).1 (T k).2.1 (T k).2.2.1 = some x → s.fieldFound? ref (T k).2.1 (T k).2.2.1 = some x) (hfin : (T k).2.2.2 = false) {v : Value} (hdg : decode cc pc = .ok (.putfield index, 3)) (kk : vx_NoteN p l e R s m args below meth c H locs cells slots Q (F0 m pc ls rest)) : W p l e R s m args below meth c H locs cells slots Q (F0 m pc ls (v :: .null :: rest)) := by
  obtain ⟨hS, hfc, kC, hkC, -⟩ := hK.1 ci _ hc
  obtain ⟨cf, kf, fi, f, hi, -⟩ := hS k hk
  have hlay := hts _ (hin _ (u_in_lay hk))
  unfold u_lay at hlay
  rw [if_neg (by rw [hfin]; decide)] at hlay
  obtain ⟨c9, k9, cf9, kf9, fi9, f9, -, -, hi9, hst9, hnf9, -⟩ := Cond.lays_spec hlay
  cases hi.symm.trans hi9
  intro U hU X
  obtain ⟨vm', X1, st1⟩ := X.putfieldNull hexec hown hlink (hsame _ hi) hst9 hnf9 (g := F0 m pc ls (v :: .null :: rest)) rfl (v := v) (rest := rest) rfl (by rw [hb]; exact hdg)
  obtain ⟨t, st, q⟩ := kk (U.setVm vm') hU X1
  exact ⟨t, st1 t st, q⟩
theorem vx_putfNN {D cl tys} {own ref C host : String} {T : u_T} {N ci index : Nat} {Ts : List Cond} (hexec : p.tables.exec = Jvm.exec) (hb : c.code = cc) (hts : ∀ w ∈ Ts, w.before args s = true) (hin : ∀ w ∈ u_ws C T N, w ∈ Ts) (hown : s.vm.findClass own = some m.cls) (hK : va_K D cl tys s) (hc : cl[ci]? = some (C, T, N)) (k : Nat) (hk : k < N) (hlink : (Cond.fieldLinkNest own index ref (T k).2.1 (T k).2.2.1 host).before args s = true) (hsame : ∀ x, s.fieldFound? (T k).1 (T k).2.1 (T k).2.2.1 = some x → s.fieldFound? ref (T k).2.1 (T k).2.2.1 = some x) (hfin : (T k).2.2.2 = false) {v : Value} (hdg : decode cc pc = .ok (.putfield index, 3)) (kk : vx_NoteN p l e R s m args below meth c H locs cells slots Q (F0 m pc ls rest)) : W p l e R s m args below meth c H locs cells slots Q (F0 m pc ls (v :: .null :: rest)) := by
  obtain ⟨hS, hfc, kC, hkC, -⟩ := hK.1 ci _ hc
  obtain ⟨cf, kf, fi, f, hi, -⟩ := hS k hk
  have hlay := hts _ (hin _ (u_in_lay hk))
  unfold u_lay at hlay
  rw [if_neg (by rw [hfin]; decide)] at hlay
  obtain ⟨c9, k9, cf9, kf9, fi9, f9, -, -, hi9, hst9, hnf9, -⟩ := Cond.lays_spec hlay
  cases hi.symm.trans hi9
  intro U hU X
  obtain ⟨vm', X1, st1⟩ := X.putfieldNullNest hexec hown hlink (hsame _ hi) hst9 hnf9 (g := F0 m pc ls (v :: .null :: rest)) rfl (v := v) (rest := rest) rfl (by rw [hb]; exact hdg)
  obtain ⟨t, st, q⟩ := kk (U.setVm vm') hU X1
  exact ⟨t, st1 t st, q⟩
theorem vx_athrowN (hexec : p.tables.exec = Jvm.exec) (hb : c.code = cc) (hdg : decode cc pc = .ok (.athrow, 1)) (k : vx_NoteN p l e R s m args below meth c H locs cells slots Q (F0 m pc ls rest)) : W p l e R s m args below meth c H locs cells slots Q (F0 m pc ls (.null :: rest)) := by
  intro T hT X
  obtain ⟨t, st, q⟩ := k T hT X
  exact ⟨t, X.athrowNull hexec (g := F0 m pc ls (.null :: rest)) rfl (rest := rest) rfl (by rw [hb]; exact hdg) t st, q⟩
end VXM2
/-! ===== END ===== -/
end
section
/-! NAMES: classes, fields in the order of their slots, methods: begun with the printed names -/
def RX0 : String := "FindTables$Chances"
def TX0 : u_T := fun k => match k with
  | 0 => ("FindTables$Chances", "first", "LFindTables$Draw;", true)
  | 1 => ("FindTables$Chances", "second", "LFindTables$Draw;", true)
  | 2 => ("FindTables$Chances", "way", "[I", true)
  | 3 => ("FindTables$Chances", "itemShares", "[J", true)
  | 4 => ("FindTables$Chances", "bestShares", "[J", true)
  | 5 => ("FindTables$Chances", "mean", "J", false)
  | _ => ("FindTables$Chances", "top", "I", false)
def tyX0 : Nat → FieldType := fun k => match k with
  | 0 => .object "FindTables$Draw"
  | 1 => .object "FindTables$Draw"
  | 2 => .array .int
  | 3 => .array .long
  | 4 => .array .long
  | 5 => .long
  | _ => .int
theorem nmX0 : ∀ a, a < 7 → ∀ b, b < 7 → a ≠ b → (TX0 a).2.1 ≠ (TX0 b).2.1 := by decide +kernel
theorem tyX0_ok : ∀ k, k < 7 → parseFieldDescriptor (TX0 k).2.2.1 = some (tyX0 k) := by decide +kernel
abbrev cX0_init : ByteArray := prog_2_method_1_code
def yX0_init : MethodName := ⟨RX0, "<init>", "()V"⟩
abbrev cX0_forget : ByteArray := prog_2_method_2_code
def yX0_forget : MethodName := ⟨RX0, "forget", "()V"⟩
abbrev cX0_reckonFor : ByteArray := prog_2_method_3_code
def yX0_reckonFor : MethodName := ⟨RX0, "reckonFor", "(LFindTables$State;I)V"⟩
abbrev cX0_ofItem : ByteArray := prog_2_method_4_code
def yX0_ofItem : MethodName := ⟨RX0, "ofItem", "(I)J"⟩
abbrev cX0_ofRarity : ByteArray := prog_2_method_5_code
def yX0_ofRarity : MethodName := ⟨RX0, "ofRarity", "(I)J"⟩
abbrev cX0_goOn : ByteArray := prog_2_method_6_code
def yX0_goOn : MethodName := ⟨RX0, "goOn", "(LFindTables$State;IIIJ)V"⟩
abbrev cX0_handOn : ByteArray := prog_2_method_7_code
def yX0_handOn : MethodName := ⟨RX0, "handOn", "(LFindTables$State;IIIIJ)V"⟩
abbrev cX0_endOpening : ByteArray := prog_2_method_8_code
def yX0_endOpening : MethodName := ⟨RX0, "endOpening", "(IIJ)V"⟩
def RX1 : String := "FindTables$Draw"
def TX1 : u_T := fun k => match k with
  | 0 => ("FindTables$Draw", "weights", "[I", true)
  | 1 => ("FindTables$Draw", "sums", "[I", true)
  | _ => ("FindTables$Draw", "wanted", "I", false)
def tyX1 : Nat → FieldType := fun k => match k with
  | 0 => .array .int
  | 1 => .array .int
  | _ => .int
theorem nmX1 : ∀ a, a < 3 → ∀ b, b < 3 → a ≠ b → (TX1 a).2.1 ≠ (TX1 b).2.1 := by decide +kernel
theorem tyX1_ok : ∀ k, k < 3 → parseFieldDescriptor (TX1 k).2.2.1 = some (tyX1 k) := by decide +kernel
abbrev cX1_init : ByteArray := prog_3_method_1_code
def yX1_init : MethodName := ⟨RX1, "<init>", "()V"⟩
abbrev cX1_prepare : ByteArray := prog_3_method_2_code
def yX1_prepare : MethodName := ⟨RX1, "prepare", "(LFindTables$State;III)V"⟩
abbrev cX1_weigh : ByteArray := prog_3_method_3_code
def yX1_weigh : MethodName := ⟨RX1, "weigh", "(LFindTables$State;III)V"⟩
abbrev cX1_reaches : ByteArray := prog_3_method_4_code
def yX1_reaches : MethodName := ⟨RX1, "reaches", "(LFindTables$Tables;II)Z"⟩
abbrev cX1_weightAt : ByteArray := prog_3_method_5_code
def yX1_weightAt : MethodName := ⟨RX1, "weightAt", "(I)I"⟩
abbrev cX1_sumOf : ByteArray := prog_3_method_6_code
def yX1_sumOf : MethodName := ⟨RX1, "sumOf", "(I)I"⟩
abbrev cX1_entryFor : ByteArray := prog_3_method_7_code
def yX1_entryFor : MethodName := ⟨RX1, "entryFor", "(III)I"⟩
def RX2 : String := "FindTables$Finds"
def TX2 : u_T := fun k => match k with
  | 0 => ("FindTables$Finds", "times", "[I", true)
  | 1 => ("FindTables$Finds", "items", "[I", true)
  | 2 => ("FindTables$Finds", "rarities", "[I", true)
  | 3 => ("FindTables$Finds", "numbers", "[I", true)
  | 4 => ("FindTables$Finds", "openings", "I", false)
  | _ => ("FindTables$Finds", "total", "I", false)
def tyX2 : Nat → FieldType := fun k => match k with
  | 0 => .array .int
  | 1 => .array .int
  | 2 => .array .int
  | 3 => .array .int
  | 4 => .int
  | _ => .int
theorem nmX2 : ∀ a, a < 6 → ∀ b, b < 6 → a ≠ b → (TX2 a).2.1 ≠ (TX2 b).2.1 := by decide +kernel
theorem tyX2_ok : ∀ k, k < 6 → parseFieldDescriptor (TX2 k).2.2.1 = some (tyX2 k) := by decide +kernel
abbrev cX2_init : ByteArray := prog_4_method_1_code
def yX2_init : MethodName := ⟨RX2, "<init>", "()V"⟩
abbrev cX2_copyFrom : ByteArray := prog_4_method_2_code
def yX2_copyFrom : MethodName := ⟨RX2, "copyFrom", "(LFindTables$Finds;)V"⟩
abbrev cX2_record : ByteArray := prog_4_method_3_code
def yX2_record : MethodName := ⟨RX2, "record", "(II)V"⟩
abbrev cX2_kept : ByteArray := prog_4_method_4_code
def yX2_kept : MethodName := ⟨RX2, "kept", "()I"⟩
abbrev cX2_tell : ByteArray := prog_4_method_5_code
def yX2_tell : MethodName := ⟨RX2, "tell", "(II)I"⟩
abbrev cX2_differentItems : ByteArray := prog_4_method_6_code
def yX2_differentItems : MethodName := ⟨RX2, "differentItems", "()I"⟩
abbrev cX2_differentOpenings : ByteArray := prog_4_method_7_code
def yX2_differentOpenings : MethodName := ⟨RX2, "differentOpenings", "()I"⟩
def RX3 : String := "FindTables$Luck"
def TX3 : u_T := fun k => match k with
  | 0 => ("FindTables$Luck", "counters", "[I", true)
  | 1 => ("FindTables$Luck", "limits", "[I", true)
  | 2 => ("FindTables$Luck", "rise", "I", false)
  | _ => ("FindTables$Luck", "s", "I", false)
def tyX3 : Nat → FieldType := fun k => match k with
  | 0 => .array .int
  | 1 => .array .int
  | 2 => .int
  | _ => .int
theorem nmX3 : ∀ a, a < 4 → ∀ b, b < 4 → a ≠ b → (TX3 a).2.1 ≠ (TX3 b).2.1 := by decide +kernel
theorem tyX3_ok : ∀ k, k < 4 → parseFieldDescriptor (TX3 k).2.2.1 = some (tyX3 k) := by decide +kernel
abbrev cX3_init : ByteArray := prog_5_method_1_code
def yX3_init : MethodName := ⟨RX3, "<init>", "()V"⟩
abbrev cX3_copyFrom : ByteArray := prog_5_method_2_code
def yX3_copyFrom : MethodName := ⟨RX3, "copyFrom", "(LFindTables$Luck;)V"⟩
abbrev cX3_numberBelow : ByteArray := prog_5_method_3_code
def yX3_numberBelow : MethodName := ⟨RX3, "numberBelow", "(I)I"⟩
abbrev cX3_risen : ByteArray := prog_5_method_4_code
def yX3_risen : MethodName := ⟨RX3, "risen", "(II)I"⟩
abbrev cX3_isDue : ByteArray := prog_5_method_5_code
def yX3_isDue : MethodName := ⟨RX3, "isDue", "(I)Z"⟩
abbrev cX3_countOpening : ByteArray := prog_5_method_6_code
def yX3_countOpening : MethodName := ⟨RX3, "countOpening", "(I)V"⟩
def RX4 : String := "FindTables$Opening"
def TX4 : u_T := fun k => match k with
  | 0 => ("FindTables$Opening", "draw", "LFindTables$Draw;", true)
  | 1 => ("FindTables$Opening", "gone", "I", false)
  | 2 => ("FindTables$Opening", "bestRarity", "I", false)
  | _ => ("FindTables$Opening", "found", "I", false)
def tyX4 : Nat → FieldType := fun k => match k with
  | 0 => .object "FindTables$Draw"
  | 1 => .int
  | 2 => .int
  | _ => .int
theorem nmX4 : ∀ a, a < 4 → ∀ b, b < 4 → a ≠ b → (TX4 a).2.1 ≠ (TX4 b).2.1 := by decide +kernel
theorem tyX4_ok : ∀ k, k < 4 → parseFieldDescriptor (TX4 k).2.2.1 = some (tyX4 k) := by decide +kernel
abbrev cX4_init : ByteArray := prog_6_method_1_code
def yX4_init : MethodName := ⟨RX4, "<init>", "()V"⟩
abbrev cX4_run : ByteArray := prog_6_method_2_code
def yX4_run : MethodName := ⟨RX4, "run", "(LFindTables$State;I)I"⟩
abbrev cX4_drawItem : ByteArray := prog_6_method_3_code
def yX4_drawItem : MethodName := ⟨RX4, "drawItem", "(LFindTables$State;I)V"⟩
abbrev cX4_takeItem : ByteArray := prog_6_method_4_code
def yX4_takeItem : MethodName := ⟨RX4, "takeItem", "(LFindTables$State;II)V"⟩
def RX5 : String := "FindTables$Saved"
def TX5 : u_T := fun k => match k with
  | 0 => ("FindTables$Saved", "states", "[LFindTables$State;", true)
  | 1 => ("FindTables$Saved", "oldest", "I", false)
  | _ => ("FindTables$Saved", "count", "I", false)
def tyX5 : Nat → FieldType := fun k => match k with
  | 0 => .array (.object "FindTables$State")
  | 1 => .int
  | _ => .int
theorem nmX5 : ∀ a, a < 3 → ∀ b, b < 3 → a ≠ b → (TX5 a).2.1 ≠ (TX5 b).2.1 := by decide +kernel
theorem tyX5_ok : ∀ k, k < 3 → parseFieldDescriptor (TX5 k).2.2.1 = some (tyX5 k) := by decide +kernel
abbrev cX5_init : ByteArray := prog_7_method_1_code
def yX5_init : MethodName := ⟨RX5, "<init>", "()V"⟩
abbrev cX5_keep : ByteArray := prog_7_method_2_code
def yX5_keep : MethodName := ⟨RX5, "keep", "(LFindTables$State;)V"⟩
abbrev cX5_takeInto : ByteArray := prog_7_method_3_code
def yX5_takeInto : MethodName := ⟨RX5, "takeInto", "(LFindTables$State;)V"⟩
abbrev cX5_slotBehind : ByteArray := prog_7_method_4_code
def yX5_slotBehind : MethodName := ⟨RX5, "slotBehind", "(I)LFindTables$State;"⟩
def RX6 : String := "FindTables$State"
def TX6 : u_T := fun k => match k with
  | 0 => ("FindTables$State", "tables", "LFindTables$Tables;", true)
  | 1 => ("FindTables$State", "luck", "LFindTables$Luck;", true)
  | _ => ("FindTables$State", "finds", "LFindTables$Finds;", true)
def tyX6 : Nat → FieldType := fun k => match k with
  | 0 => .object "FindTables$Tables"
  | 1 => .object "FindTables$Luck"
  | _ => .object "FindTables$Finds"
theorem nmX6 : ∀ a, a < 3 → ∀ b, b < 3 → a ≠ b → (TX6 a).2.1 ≠ (TX6 b).2.1 := by decide +kernel
theorem tyX6_ok : ∀ k, k < 3 → parseFieldDescriptor (TX6 k).2.2.1 = some (tyX6 k) := by decide +kernel
abbrev cX6_init : ByteArray := prog_8_method_1_code
def yX6_init : MethodName := ⟨RX6, "<init>", "()V"⟩
abbrev cX6_copyFrom : ByteArray := prog_8_method_2_code
def yX6_copyFrom : MethodName := ⟨RX6, "copyFrom", "(LFindTables$State;)V"⟩
abbrev cX6_presentWeight : ByteArray := prog_8_method_3_code
def yX6_presentWeight : MethodName := ⟨RX6, "presentWeight", "(I)I"⟩
def RX7 : String := "FindTables$Tables"
def TX7 : u_T := fun k => match k with
  | 0 => ("FindTables$Tables", "draws", "[I", true)
  | 1 => ("FindTables$Tables", "counts", "[I", true)
  | 2 => ("FindTables$Tables", "whats", "[I", true)
  | 3 => ("FindTables$Tables", "weights", "[I", true)
  | 4 => ("FindTables$Tables", "rarities", "[I", true)
  | 5 => ("FindTables$Tables", "groups", "[I", true)
  | 6 => ("FindTables$Tables", "onces", "[I", true)
  | _ => ("FindTables$Tables", "spents", "[I", true)
def tyX7 : Nat → FieldType := fun k => match k with
  | 0 => .array .int
  | 1 => .array .int
  | 2 => .array .int
  | 3 => .array .int
  | 4 => .array .int
  | 5 => .array .int
  | 6 => .array .int
  | _ => .array .int
theorem nmX7 : ∀ a, a < 8 → ∀ b, b < 8 → a ≠ b → (TX7 a).2.1 ≠ (TX7 b).2.1 := by decide +kernel
theorem tyX7_ok : ∀ k, k < 8 → parseFieldDescriptor (TX7 k).2.2.1 = some (tyX7 k) := by decide +kernel
abbrev cX7_init : ByteArray := prog_9_method_1_code
def yX7_init : MethodName := ⟨RX7, "<init>", "()V"⟩
abbrev cX7_makeEmpty : ByteArray := prog_9_method_2_code
def yX7_makeEmpty : MethodName := ⟨RX7, "makeEmpty", "()V"⟩
abbrev cX7_copyFrom : ByteArray := prog_9_method_3_code
def yX7_copyFrom : MethodName := ⟨RX7, "copyFrom", "(LFindTables$Tables;)V"⟩
abbrev cX7_countOf : ByteArray := prog_9_method_4_code
def yX7_countOf : MethodName := ⟨RX7, "countOf", "(I)I"⟩
abbrev cX7_countAll : ByteArray := prog_9_method_5_code
def yX7_countAll : MethodName := ⟨RX7, "countAll", "()I"⟩
abbrev cX7_addTo : ByteArray := prog_9_method_6_code
def yX7_addTo : MethodName := ⟨RX7, "addTo", "(IIIIIZ)I"⟩
abbrev cX7_removeFrom : ByteArray := prog_9_method_7_code
def yX7_removeFrom : MethodName := ⟨RX7, "removeFrom", "(II)I"⟩
abbrev cX7_moveEntry : ByteArray := prog_9_method_8_code
def yX7_moveEntry : MethodName := ⟨RX7, "moveEntry", "(II)V"⟩
abbrev cX7_countSpent : ByteArray := prog_9_method_9_code
def yX7_countSpent : MethodName := ⟨RX7, "countSpent", "()I"⟩
abbrev cX7_spentBits : ByteArray := prog_9_method_10_code
def yX7_spentBits : MethodName := ⟨RX7, "spentBits", "()I"⟩
abbrev cX7_unspend : ByteArray := prog_9_method_11_code
def yX7_unspend : MethodName := ⟨RX7, "unspend", "()I"⟩
abbrev cX7_stopBits : ByteArray := prog_9_method_12_code
def yX7_stopBits : MethodName := ⟨RX7, "stopBits", "(II)I"⟩
abbrev cX7_drawnBits : ByteArray := prog_9_method_13_code
def yX7_drawnBits : MethodName := ⟨RX7, "drawnBits", "(II)I"⟩
abbrev cX7_spendIfOnce : ByteArray := prog_9_method_14_code
def yX7_spendIfOnce : MethodName := ⟨RX7, "spendIfOnce", "(I)V"⟩
def RX8 : String := "FindTables$Text"
def TX8 : u_T := fun k => match k with
  | 0 => ("FindTables$Text", "bytes", "[B", true)
  | 1 => ("FindTables$Text", "length", "I", false)
  | 2 => ("FindTables$Text", "position", "I", false)
  | _ => ("FindTables$Text", "fault", "I", false)
def tyX8 : Nat → FieldType := fun k => match k with
  | 0 => .array .byte
  | 1 => .int
  | 2 => .int
  | _ => .int
theorem nmX8 : ∀ a, a < 4 → ∀ b, b < 4 → a ≠ b → (TX8 a).2.1 ≠ (TX8 b).2.1 := by decide +kernel
theorem tyX8_ok : ∀ k, k < 4 → parseFieldDescriptor (TX8 k).2.2.1 = some (tyX8 k) := by decide +kernel
abbrev cX8_init : ByteArray := prog_10_method_1_code
def yX8_init : MethodName := ⟨RX8, "<init>", "()V"⟩
abbrev cX8_add : ByteArray := prog_10_method_2_code
def yX8_add : MethodName := ⟨RX8, "add", "(I)I"⟩
abbrev cX8_readInto : ByteArray := prog_10_method_3_code
def yX8_readInto : MethodName := ⟨RX8, "readInto", "(LFindTables$Tables;)I"⟩
abbrev cX8_readPart : ByteArray := prog_10_method_4_code
def yX8_readPart : MethodName := ⟨RX8, "readPart", "(LFindTables$Tables;)V"⟩
abbrev cX8_readDraws : ByteArray := prog_10_method_5_code
def yX8_readDraws : MethodName := ⟨RX8, "readDraws", "(LFindTables$Tables;)V"⟩
abbrev cX8_readEntry : ByteArray := prog_10_method_6_code
def yX8_readEntry : MethodName := ⟨RX8, "readEntry", "(LFindTables$Tables;)V"⟩
abbrev cX8_readTableWithRoom : ByteArray := prog_10_method_7_code
def yX8_readTableWithRoom : MethodName := ⟨RX8, "readTableWithRoom", "(LFindTables$Tables;)I"⟩
abbrev cX8_readWhat : ByteArray := prog_10_method_8_code
def yX8_readWhat : MethodName := ⟨RX8, "readWhat", "(I)I"⟩
abbrev cX8_readOnce : ByteArray := prog_10_method_9_code
def yX8_readOnce : MethodName := ⟨RX8, "readOnce", "()Z"⟩
abbrev cX8_readSign : ByteArray := prog_10_method_10_code
def yX8_readSign : MethodName := ⟨RX8, "readSign", "(C)V"⟩
abbrev cX8_readDigit : ByteArray := prog_10_method_11_code
def yX8_readDigit : MethodName := ⟨RX8, "readDigit", "(II)I"⟩
abbrev cX8_readNumber : ByteArray := prog_10_method_12_code
def yX8_readNumber : MethodName := ⟨RX8, "readNumber", "(III)I"⟩
abbrev cX8_isDigit : ByteArray := prog_10_method_13_code
def yX8_isDigit : MethodName := ⟨RX8, "isDigit", "(I)Z"⟩
abbrev cX8_peek : ByteArray := prog_10_method_14_code
def yX8_peek : MethodName := ⟨RX8, "peek", "()I"⟩
def RX9 : String := "FindTables"
def TX9 : u_T := fun k => match k with
  | 0 => ("FindTables", "now", "LFindTables$State;", true)
  | 1 => ("FindTables", "trial", "LFindTables$State;", true)
  | 2 => ("FindTables", "saved", "LFindTables$Saved;", true)
  | 3 => ("FindTables", "text", "LFindTables$Text;", true)
  | 4 => ("FindTables", "readTables", "LFindTables$Tables;", true)
  | 5 => ("FindTables", "opening", "LFindTables$Opening;", true)
  | 6 => ("FindTables", "firstDraw", "LFindTables$Draw;", true)
  | 7 => ("FindTables", "chances", "LFindTables$Chances;", true)
  | _ => ("FindTables", "trialChances", "LFindTables$Chances;", true)
def tyX9 : Nat → FieldType := fun k => match k with
  | 0 => .object "FindTables$State"
  | 1 => .object "FindTables$State"
  | 2 => .object "FindTables$Saved"
  | 3 => .object "FindTables$Text"
  | 4 => .object "FindTables$Tables"
  | 5 => .object "FindTables$Opening"
  | 6 => .object "FindTables$Draw"
  | 7 => .object "FindTables$Chances"
  | _ => .object "FindTables$Chances"
theorem nmX9 : ∀ a, a < 9 → ∀ b, b < 9 → a ≠ b → (TX9 a).2.1 ≠ (TX9 b).2.1 := by decide +kernel
theorem tyX9_ok : ∀ k, k < 9 → parseFieldDescriptor (TX9 k).2.2.1 = some (tyX9 k) := by decide +kernel
abbrev cX9_init : ByteArray := prog_1_method_1_code
def yX9_init : MethodName := ⟨RX9, "<init>", "()V"⟩
abbrev cX9_setDraws : ByteArray := prog_1_method_2_code
def yX9_setDraws : MethodName := ⟨RX9, "setDraws", "(II)I"⟩
abbrev cX9_addEntry : ByteArray := prog_1_method_3_code
def yX9_addEntry : MethodName := ⟨RX9, "addEntry", "(IIIIIZ)I"⟩
abbrev cX9_removeEntry : ByteArray := prog_1_method_4_code
def yX9_removeEntry : MethodName := ⟨RX9, "removeEntry", "(II)I"⟩
abbrev cX9_setWeight : ByteArray := prog_1_method_5_code
def yX9_setWeight : MethodName := ⟨RX9, "setWeight", "(III)I"⟩
abbrev cX9_restore : ByteArray := prog_1_method_6_code
def yX9_restore : MethodName := ⟨RX9, "restore", "()I"⟩
abbrev cX9_entry : ByteArray := prog_1_method_7_code
def yX9_entry : MethodName := ⟨RX9, "entry", "(III)I"⟩
abbrev cX9_table : ByteArray := prog_1_method_8_code
def yX9_table : MethodName := ⟨RX9, "table", "(II)I"⟩
abbrev cX9_setCounter : ByteArray := prog_1_method_9_code
def yX9_setCounter : MethodName := ⟨RX9, "setCounter", "(II)I"⟩
abbrev cX9_setLimit : ByteArray := prog_1_method_10_code
def yX9_setLimit : MethodName := ⟨RX9, "setLimit", "(II)I"⟩
abbrev cX9_setRise : ByteArray := prog_1_method_11_code
def yX9_setRise : MethodName := ⟨RX9, "setRise", "(II)I"⟩
abbrev cX9_luck : ByteArray := prog_1_method_12_code
def yX9_luck : MethodName := ⟨RX9, "luck", "(IZ)I"⟩
abbrev cX9_value : ByteArray := prog_1_method_13_code
def yX9_value : MethodName := ⟨RX9, "value", "(I)I"⟩
abbrev cX9_open : ByteArray := prog_1_method_14_code
def yX9_open : MethodName := ⟨RX9, "open", "(I)I"⟩
abbrev cX9_openOften : ByteArray := prog_1_method_15_code
def yX9_openOften : MethodName := ⟨RX9, "openOften", "(II)I"⟩
abbrev cX9_find : ByteArray := prog_1_method_16_code
def yX9_find : MethodName := ⟨RX9, "find", "(II)I"⟩
abbrev cX9_often : ByteArray := prog_1_method_17_code
def yX9_often : MethodName := ⟨RX9, "often", "(I)I"⟩
abbrev cX9_chance : ByteArray := prog_1_method_18_code
def yX9_chance : MethodName := ⟨RX9, "chance", "(IIZ)I"⟩
abbrev cX9_chanceOf : ByteArray := prog_1_method_19_code
def yX9_chanceOf : MethodName := ⟨RX9, "chanceOf", "(II)I"⟩
abbrev cX9_chanceRare : ByteArray := prog_1_method_20_code
def yX9_chanceRare : MethodName := ⟨RX9, "chanceRare", "(II)I"⟩
abbrev cX9_meanFinds : ByteArray := prog_1_method_21_code
def yX9_meanFinds : MethodName := ⟨RX9, "meanFinds", "(I)J"⟩
abbrev cX9_luckyShare : ByteArray := prog_1_method_22_code
def yX9_luckyShare : MethodName := ⟨RX9, "luckyShare", "()D"⟩
abbrev cX9_soonest : ByteArray := prog_1_method_23_code
def yX9_soonest : MethodName := ⟨RX9, "soonest", "(II)I"⟩
abbrev cX9_bestDouble : ByteArray := prog_1_method_24_code
def yX9_bestDouble : MethodName := ⟨RX9, "bestDouble", "(II)I"⟩
abbrev cX9_append : ByteArray := prog_1_method_25_code
def yX9_append : MethodName := ⟨RX9, "append", "(I)I"⟩
abbrev cX9_clearText : ByteArray := prog_1_method_26_code
def yX9_clearText : MethodName := ⟨RX9, "clearText", "()I"⟩
abbrev cX9_parse : ByteArray := prog_1_method_27_code
def yX9_parse : MethodName := ⟨RX9, "parse", "()I"⟩
abbrev cX9_undo : ByteArray := prog_1_method_28_code
def yX9_undo : MethodName := ⟨RX9, "undo", "()I"⟩
abbrev cX9_digest : ByteArray := prog_1_method_29_code
def yX9_digest : MethodName := ⟨RX9, "digest", "()J"⟩
abbrev cX9_needTable : ByteArray := prog_1_method_30_code
def yX9_needTable : MethodName := ⟨RX9, "needTable", "(I)V"⟩
abbrev cX9_needEntry : ByteArray := prog_1_method_31_code
def yX9_needEntry : MethodName := ⟨RX9, "needEntry", "(II)V"⟩
abbrev cX9_needItem : ByteArray := prog_1_method_32_code
def yX9_needItem : MethodName := ⟨RX9, "needItem", "(I)V"⟩
abbrev cX9_needCountedRarity : ByteArray := prog_1_method_33_code
def yX9_needCountedRarity : MethodName := ⟨RX9, "needCountedRarity", "(I)V"⟩
abbrev cX9_needRange : ByteArray := prog_1_method_34_code
def yX9_needRange : MethodName := ⟨RX9, "needRange", "(III)V"⟩
abbrev cX9_saveState : ByteArray := prog_1_method_35_code
def yX9_saveState : MethodName := ⟨RX9, "saveState", "()V"⟩
abbrev cX9_prepareFirstDraw : ByteArray := prog_1_method_36_code
def yX9_prepareFirstDraw : MethodName := ⟨RX9, "prepareFirstDraw", "(I)V"⟩
abbrev cX9_tellEntry : ByteArray := prog_1_method_37_code
def yX9_tellEntry : MethodName := ⟨RX9, "tellEntry", "(III)I"⟩
abbrev cX9_tellTable : ByteArray := prog_1_method_38_code
def yX9_tellTable : MethodName := ⟨RX9, "tellTable", "(II)I"⟩
abbrev cX9_tellValue : ByteArray := prog_1_method_39_code
def yX9_tellValue : MethodName := ⟨RX9, "tellValue", "(I)I"⟩
abbrev cX9_mixTable : ByteArray := prog_1_method_40_code
def yX9_mixTable : MethodName := ⟨RX9, "mixTable", "(JI)J"⟩
abbrev cX9_mix : ByteArray := prog_1_method_41_code
def yX9_mix : MethodName := ⟨RX9, "mix", "(JJ)J"⟩
abbrev cX9_greatestDivisor : ByteArray := prog_1_method_42_code
def yX9_greatestDivisor : MethodName := ⟨RX9, "greatestDivisor", "(II)I"⟩
abbrev cX9_isLink : ByteArray := prog_1_method_43_code
def yX9_isLink : MethodName := ⟨RX9, "isLink", "(I)Z"⟩
abbrev cX9_linkedTable : ByteArray := prog_1_method_44_code
def yX9_linkedTable : MethodName := ⟨RX9, "linkedTable", "(I)I"⟩
abbrev cX9_isLowLink : ByteArray := prog_1_method_45_code
def yX9_isLowLink : MethodName := ⟨RX9, "isLowLink", "(II)Z"⟩
abbrev cX9_greatestRarity : ByteArray := prog_1_method_46_code
def yX9_greatestRarity : MethodName := ⟨RX9, "greatestRarity", "(I)I"⟩
abbrev cX9_placeOf : ByteArray := prog_1_method_47_code
def yX9_placeOf : MethodName := ⟨RX9, "placeOf", "(II)I"⟩
abbrev cX9_spentBit : ByteArray := prog_1_method_48_code
def yX9_spentBit : MethodName := ⟨RX9, "spentBit", "(I)I"⟩
abbrev cX9_groupBit : ByteArray := prog_1_method_49_code
def yX9_groupBit : MethodName := ⟨RX9, "groupBit", "(II)I"⟩
abbrev cX9_at : ByteArray := prog_1_method_50_code
def yX9_at : MethodName := ⟨RX9, "at", "([II)I"⟩
abbrev cX9_put : ByteArray := prog_1_method_51_code
def yX9_put : MethodName := ⟨RX9, "put", "([III)V"⟩
abbrev cX9_at_ : ByteArray := prog_1_method_52_code
def yX9_at_ : MethodName := ⟨RX9, "at", "([JI)J"⟩
abbrev cX9_exchange : ByteArray := prog_1_method_53_code
def yX9_exchange : MethodName := ⟨RX9, "exchange", "([III)I"⟩
abbrev cX9_copyRow : ByteArray := prog_1_method_54_code
def yX9_copyRow : MethodName := ⟨RX9, "copyRow", "([I[I)V"⟩
def RX10 : String := "FindTablesModel"
def TX10 : u_T := fun k => match k with
  | 0 => ("FindTablesModel", "now", "[I", true)
  | 1 => ("FindTablesModel", "past", "[I", true)
  | 2 => ("FindTablesModel", "aside", "[I", true)
  | 3 => ("FindTablesModel", "saved", "I", false)
  | 4 => ("FindTablesModel", "refusal", "I", false)
  | 5 => ("FindTablesModel", "text", "[I", true)
  | 6 => ("FindTablesModel", "length", "I", false)
  | 7 => ("FindTablesModel", "pTable", "[I", true)
  | 8 => ("FindTablesModel", "pNext", "[I", true)
  | 9 => ("FindTablesModel", "pAble", "[I", true)
  | 10 => ("FindTablesModel", "pSum", "[I", true)
  | 11 => ("FindTablesModel", "pShare", "[J", true)
  | 12 => ("FindTablesModel", "pDraw", "[I", true)
  | 13 => ("FindTablesModel", "pSpent", "[I", true)
  | 14 => ("FindTablesModel", "pGroups", "[I", true)
  | 15 => ("FindTablesModel", "pItems", "[I", true)
  | 16 => ("FindTablesModel", "pFound", "[I", true)
  | 17 => ("FindTablesModel", "pMany", "[I", true)
  | 18 => ("FindTablesModel", "pile", "I", false)
  | 19 => ("FindTablesModel", "byItem", "[J", true)
  | 20 => ("FindTablesModel", "byRare", "[J", true)
  | 21 => ("FindTablesModel", "mean", "J", false)
  | 22 => ("FindTablesModel", "spot", "I", false)
  | 23 => ("FindTablesModel", "number", "I", false)
  | 24 => ("FindTablesModel", "made", "[I", true)
  | _ => ("FindTablesModel", "hash", "J", false)
def tyX10 : Nat → FieldType := fun k => match k with
  | 0 => .array .int
  | 1 => .array .int
  | 2 => .array .int
  | 3 => .int
  | 4 => .int
  | 5 => .array .int
  | 6 => .int
  | 7 => .array .int
  | 8 => .array .int
  | 9 => .array .int
  | 10 => .array .int
  | 11 => .array .long
  | 12 => .array .int
  | 13 => .array .int
  | 14 => .array .int
  | 15 => .array .int
  | 16 => .array .int
  | 17 => .array .int
  | 18 => .int
  | 19 => .array .long
  | 20 => .array .long
  | 21 => .long
  | 22 => .int
  | 23 => .int
  | 24 => .array .int
  | _ => .long
theorem nmX10 : ∀ a, a < 26 → ∀ b, b < 26 → a ≠ b → (TX10 a).2.1 ≠ (TX10 b).2.1 := by decide +kernel
theorem tyX10_ok : ∀ k, k < 26 → parseFieldDescriptor (TX10 k).2.2.1 = some (tyX10 k) := by decide +kernel
abbrev cX10_init : ByteArray := prog_12_method_1_code
def yX10_init : MethodName := ⟨RX10, "<init>", "()V"⟩
abbrev cX10_thrown : ByteArray := prog_12_method_2_code
def yX10_thrown : MethodName := ⟨RX10, "thrown", "()I"⟩
abbrev cX10_refused : ByteArray := prog_12_method_3_code
def yX10_refused : MethodName := ⟨RX10, "refused", "(I)Z"⟩
abbrev cX10_in : ByteArray := prog_12_method_4_code
def yX10_in : MethodName := ⟨RX10, "in", "(III)Z"⟩
abbrev cX10_saves : ByteArray := prog_12_method_5_code
def yX10_saves : MethodName := ⟨RX10, "saves", "()V"⟩
abbrev cX10_undo : ByteArray := prog_12_method_6_code
def yX10_undo : MethodName := ⟨RX10, "undo", "()I"⟩
abbrev cX10_keeps : ByteArray := prog_12_method_7_code
def yX10_keeps : MethodName := ⟨RX10, "keeps", "()V"⟩
abbrev cX10_takesBack : ByteArray := prog_12_method_8_code
def yX10_takesBack : MethodName := ⟨RX10, "takesBack", "()V"⟩
abbrev cX10_isTable : ByteArray := prog_12_method_9_code
def yX10_isTable : MethodName := ⟨RX10, "isTable", "(I)Z"⟩
abbrev cX10_at : ByteArray := prog_12_method_10_code
def yX10_at : MethodName := ⟨RX10, "at", "(II)I"⟩
abbrev cX10_of : ByteArray := prog_12_method_11_code
def yX10_of : MethodName := ⟨RX10, "of", "(III)I"⟩
abbrev cX10_isEntry : ByteArray := prog_12_method_12_code
def yX10_isEntry : MethodName := ⟨RX10, "isEntry", "(II)Z"⟩
abbrev cX10_isWeight : ByteArray := prog_12_method_13_code
def yX10_isWeight : MethodName := ⟨RX10, "isWeight", "(I)Z"⟩
abbrev cX10_isItem : ByteArray := prog_12_method_14_code
def yX10_isItem : MethodName := ⟨RX10, "isItem", "(I)Z"⟩
abbrev cX10_setDraws : ByteArray := prog_12_method_15_code
def yX10_setDraws : MethodName := ⟨RX10, "setDraws", "(II)I"⟩
abbrev cX10_canBe : ByteArray := prog_12_method_16_code
def yX10_canBe : MethodName := ⟨RX10, "canBe", "(III)Z"⟩
abbrev cX10_comes : ByteArray := prog_12_method_17_code
def yX10_comes : MethodName := ⟨RX10, "comes", "(IIIIIZ)I"⟩
abbrev cX10_addEntry : ByteArray := prog_12_method_18_code
def yX10_addEntry : MethodName := ⟨RX10, "addEntry", "(IIIIIZ)I"⟩
abbrev cX10_removeEntry : ByteArray := prog_12_method_19_code
def yX10_removeEntry : MethodName := ⟨RX10, "removeEntry", "(II)I"⟩
abbrev cX10_setWeight : ByteArray := prog_12_method_20_code
def yX10_setWeight : MethodName := ⟨RX10, "setWeight", "(III)I"⟩
abbrev cX10_spentOnes : ByteArray := prog_12_method_21_code
def yX10_spentOnes : MethodName := ⟨RX10, "spentOnes", "()I"⟩
abbrev cX10_restore : ByteArray := prog_12_method_22_code
def yX10_restore : MethodName := ⟨RX10, "restore", "()I"⟩
abbrev cX10_present : ByteArray := prog_12_method_23_code
def yX10_present : MethodName := ⟨RX10, "present", "(II)I"⟩
abbrev cX10_spentSet : ByteArray := prog_12_method_24_code
def yX10_spentSet : MethodName := ⟨RX10, "spentSet", "()I"⟩
abbrev cX10_able : ByteArray := prog_12_method_25_code
def yX10_able : MethodName := ⟨RX10, "able", "(III)I"⟩
abbrev cX10_has : ByteArray := prog_12_method_26_code
def yX10_has : MethodName := ⟨RX10, "has", "(II)Z"⟩
abbrev cX10_wanted : ByteArray := prog_12_method_27_code
def yX10_wanted : MethodName := ⟨RX10, "wanted", "(IIII)I"⟩
abbrev cX10_sum : ByteArray := prog_12_method_28_code
def yX10_sum : MethodName := ⟨RX10, "sum", "(II)I"⟩
abbrev cX10_groupsWith : ByteArray := prog_12_method_29_code
def yX10_groupsWith : MethodName := ⟨RX10, "groupsWith", "(III)I"⟩
abbrev cX10_spentWith : ByteArray := prog_12_method_30_code
def yX10_spentWith : MethodName := ⟨RX10, "spentWith", "(III)I"⟩
abbrev cX10_firstAble : ByteArray := prog_12_method_31_code
def yX10_firstAble : MethodName := ⟨RX10, "firstAble", "(I)I"⟩
abbrev cX10_tellEntry : ByteArray := prog_12_method_32_code
def yX10_tellEntry : MethodName := ⟨RX10, "tellEntry", "(III)I"⟩
abbrev cX10_entry : ByteArray := prog_12_method_33_code
def yX10_entry : MethodName := ⟨RX10, "entry", "(III)I"⟩
abbrev cX10_tellTable : ByteArray := prog_12_method_34_code
def yX10_tellTable : MethodName := ⟨RX10, "tellTable", "(II)I"⟩
abbrev cX10_table : ByteArray := prog_12_method_35_code
def yX10_table : MethodName := ⟨RX10, "table", "(II)I"⟩
abbrev cX10_isRare : ByteArray := prog_12_method_36_code
def yX10_isRare : MethodName := ⟨RX10, "isRare", "(I)Z"⟩
abbrev cX10_puts : ByteArray := prog_12_method_37_code
def yX10_puts : MethodName := ⟨RX10, "puts", "(II)I"⟩
abbrev cX10_setCounter : ByteArray := prog_12_method_38_code
def yX10_setCounter : MethodName := ⟨RX10, "setCounter", "(II)I"⟩
abbrev cX10_setLimit : ByteArray := prog_12_method_39_code
def yX10_setLimit : MethodName := ⟨RX10, "setLimit", "(II)I"⟩
abbrev cX10_setRise : ByteArray := prog_12_method_40_code
def yX10_setRise : MethodName := ⟨RX10, "setRise", "(II)I"⟩
abbrev cX10_luck : ByteArray := prog_12_method_41_code
def yX10_luck : MethodName := ⟨RX10, "luck", "(IZ)I"⟩
abbrev cX10_different : ByteArray := prog_12_method_42_code
def yX10_different : MethodName := ⟨RX10, "different", "()I"⟩
abbrev cX10_tellValue : ByteArray := prog_12_method_43_code
def yX10_tellValue : MethodName := ⟨RX10, "tellValue", "(I)I"⟩
abbrev cX10_value : ByteArray := prog_12_method_44_code
def yX10_value : MethodName := ⟨RX10, "value", "(I)I"⟩
abbrev cX10_draw : ByteArray := prog_12_method_45_code
def yX10_draw : MethodName := ⟨RX10, "draw", "(I)I"⟩
abbrev cX10_drawn : ByteArray := prog_12_method_46_code
def yX10_drawn : MethodName := ⟨RX10, "drawn", "(II)I"⟩
abbrev cX10_finds : ByteArray := prog_12_method_47_code
def yX10_finds : MethodName := ⟨RX10, "finds", "(II)V"⟩
abbrev cX10_opens : ByteArray := prog_12_method_48_code
def yX10_opens : MethodName := ⟨RX10, "opens", "(I)I"⟩
abbrev cX10_open : ByteArray := prog_12_method_49_code
def yX10_open : MethodName := ⟨RX10, "open", "(I)I"⟩
abbrev cX10_openOften : ByteArray := prog_12_method_50_code
def yX10_openOften : MethodName := ⟨RX10, "openOften", "(II)I"⟩
abbrev cX10_find : ByteArray := prog_12_method_51_code
def yX10_find : MethodName := ⟨RX10, "find", "(II)I"⟩
abbrev cX10_often : ByteArray := prog_12_method_52_code
def yX10_often : MethodName := ⟨RX10, "often", "(I)I"⟩
abbrev cX10_chance : ByteArray := prog_12_method_53_code
def yX10_chance : MethodName := ⟨RX10, "chance", "(IIZ)I"⟩
abbrev cX10_lays : ByteArray := prog_12_method_54_code
def yX10_lays : MethodName := ⟨RX10, "lays", "(IIJI)V"⟩
abbrev cX10_goesOn : ByteArray := prog_12_method_55_code
def yX10_goesOn : MethodName := ⟨RX10, "goesOn", "(IJIIIIII)V"⟩
abbrev cX10_nextOnTop : ByteArray := prog_12_method_56_code
def yX10_nextOnTop : MethodName := ⟨RX10, "nextOnTop", "()I"⟩
abbrev cX10_handsOn : ByteArray := prog_12_method_57_code
def yX10_handsOn : MethodName := ⟨RX10, "handsOn", "(II)V"⟩
abbrev cX10_goesThrough : ByteArray := prog_12_method_58_code
def yX10_goesThrough : MethodName := ⟨RX10, "goesThrough", "(I)V"⟩
abbrev cX10_chanceOf : ByteArray := prog_12_method_59_code
def yX10_chanceOf : MethodName := ⟨RX10, "chanceOf", "(II)I"⟩
abbrev cX10_chanceRare : ByteArray := prog_12_method_60_code
def yX10_chanceRare : MethodName := ⟨RX10, "chanceRare", "(II)I"⟩
abbrev cX10_meanFinds : ByteArray := prog_12_method_61_code
def yX10_meanFinds : MethodName := ⟨RX10, "meanFinds", "(I)J"⟩
abbrev cX10_luckyShare : ByteArray := prog_12_method_62_code
def yX10_luckyShare : MethodName := ⟨RX10, "luckyShare", "()D"⟩
abbrev cX10_soonest : ByteArray := prog_12_method_63_code
def yX10_soonest : MethodName := ⟨RX10, "soonest", "(II)I"⟩
abbrev cX10_bestDouble : ByteArray := prog_12_method_64_code
def yX10_bestDouble : MethodName := ⟨RX10, "bestDouble", "(II)I"⟩
abbrev cX10_append : ByteArray := prog_12_method_65_code
def yX10_append : MethodName := ⟨RX10, "append", "(I)I"⟩
abbrev cX10_clearText : ByteArray := prog_12_method_66_code
def yX10_clearText : MethodName := ⟨RX10, "clearText", "()I"⟩
abbrev cX10_isDigit : ByteArray := prog_12_method_67_code
def yX10_isDigit : MethodName := ⟨RX10, "isDigit", "(II)Z"⟩
abbrev cX10_takes : ByteArray := prog_12_method_68_code
def yX10_takes : MethodName := ⟨RX10, "takes", "(I)Z"⟩
abbrev cX10_takesDigit : ByteArray := prog_12_method_69_code
def yX10_takesDigit : MethodName := ⟨RX10, "takesDigit", "(II)Z"⟩
abbrev cX10_takesNumber : ByteArray := prog_12_method_70_code
def yX10_takesNumber : MethodName := ⟨RX10, "takesNumber", "(III)Z"⟩
abbrev cX10_takesDraws : ByteArray := prog_12_method_71_code
def yX10_takesDraws : MethodName := ⟨RX10, "takesDraws", "()Z"⟩
abbrev cX10_takesEntry : ByteArray := prog_12_method_72_code
def yX10_takesEntry : MethodName := ⟨RX10, "takesEntry", "()Z"⟩
abbrev cX10_parse : ByteArray := prog_12_method_73_code
def yX10_parse : MethodName := ⟨RX10, "parse", "()I"⟩
abbrev cX10_mix : ByteArray := prog_12_method_74_code
def yX10_mix : MethodName := ⟨RX10, "mix", "(J)V"⟩
abbrev cX10_mixTable : ByteArray := prog_12_method_75_code
def yX10_mixTable : MethodName := ⟨RX10, "mixTable", "(I)V"⟩
abbrev cX10_digest : ByteArray := prog_12_method_76_code
def yX10_digest : MethodName := ⟨RX10, "digest", "()J"⟩
def RJ6 : String := "java/lang/Integer"
abbrev cJ6_bitCount_0f7a4 : ByteArray := prog_17_method_49_code
def yJ6_bitCount_0f7a4 : MethodName := ⟨RJ6, "bitCount", "(I)I"⟩
def RJ9 : String := "java/lang/Math"
abbrev cJ9_floorMod_7cf53 : ByteArray := prog_18_method_50_code
def yJ9_floorMod_7cf53 : MethodName := ⟨RJ9, "floorMod", "(II)I"⟩
abbrev cJ9_max_7cf53 : ByteArray := prog_18_method_65_code
def yJ9_max_7cf53 : MethodName := ⟨RJ9, "max", "(II)I"⟩
abbrev cJ9_min_7cf53 : ByteArray := prog_18_method_69_code
def yJ9_min_7cf53 : MethodName := ⟨RJ9, "min", "(II)I"⟩
def RJ7 : String := "java/util/Arrays"
abbrev cJ7_fill_d0a16 : ByteArray := prog_23_method_101_code
def yJ7_fill_d0a16 : MethodName := ⟨RJ7, "fill", "([JJ)V"⟩
abbrev cJ7_fill_53178 : ByteArray := prog_23_method_103_code
def yJ7_fill_53178 : MethodName := ⟨RJ7, "fill", "([II)V"⟩
def RL : String := "FindTablesLaw"
abbrev cL_setDraws : ByteArray := method_3_code
def yL_setDraws : MethodName := ⟨RL, "setDraws", "(LFindTables;II[J)I"⟩
abbrev cL_addEntry : ByteArray := method_4_code
def yL_addEntry : MethodName := ⟨RL, "addEntry", "(LFindTables;IIIIIZ[J)I"⟩
abbrev cL_removeEntry : ByteArray := method_5_code
def yL_removeEntry : MethodName := ⟨RL, "removeEntry", "(LFindTables;II[J)I"⟩
abbrev cL_setWeight : ByteArray := method_6_code
def yL_setWeight : MethodName := ⟨RL, "setWeight", "(LFindTables;III[J)I"⟩
abbrev cL_entry : ByteArray := method_7_code
def yL_entry : MethodName := ⟨RL, "entry", "(LFindTables;III[J)I"⟩
abbrev cL_table : ByteArray := method_8_code
def yL_table : MethodName := ⟨RL, "table", "(LFindTables;II[J)I"⟩
abbrev cL_setCounter : ByteArray := method_9_code
def yL_setCounter : MethodName := ⟨RL, "setCounter", "(LFindTables;II[J)I"⟩
abbrev cL_setLimit : ByteArray := method_10_code
def yL_setLimit : MethodName := ⟨RL, "setLimit", "(LFindTables;II[J)I"⟩
abbrev cL_setRise : ByteArray := method_11_code
def yL_setRise : MethodName := ⟨RL, "setRise", "(LFindTables;II[J)I"⟩
abbrev cL_luck : ByteArray := method_12_code
def yL_luck : MethodName := ⟨RL, "luck", "(LFindTables;IZ[J)I"⟩
abbrev cL_value : ByteArray := method_13_code
def yL_value : MethodName := ⟨RL, "value", "(LFindTables;I[J)I"⟩
abbrev cL_open : ByteArray := method_14_code
def yL_open : MethodName := ⟨RL, "open", "(LFindTables;I[J)I"⟩
abbrev cL_openOften : ByteArray := method_15_code
def yL_openOften : MethodName := ⟨RL, "openOften", "(LFindTables;II[J)I"⟩
abbrev cL_find : ByteArray := method_16_code
def yL_find : MethodName := ⟨RL, "find", "(LFindTables;II[J)I"⟩
abbrev cL_often : ByteArray := method_17_code
def yL_often : MethodName := ⟨RL, "often", "(LFindTables;I[J)I"⟩
abbrev cL_chance : ByteArray := method_18_code
def yL_chance : MethodName := ⟨RL, "chance", "(LFindTables;IIZ[J)I"⟩
abbrev cL_chanceOf : ByteArray := method_19_code
def yL_chanceOf : MethodName := ⟨RL, "chanceOf", "(LFindTables;II[J)I"⟩
abbrev cL_chanceRare : ByteArray := method_20_code
def yL_chanceRare : MethodName := ⟨RL, "chanceRare", "(LFindTables;II[J)I"⟩
abbrev cL_meanFinds : ByteArray := method_21_code
def yL_meanFinds : MethodName := ⟨RL, "meanFinds", "(LFindTables;I[J)I"⟩
abbrev cL_soonest : ByteArray := method_22_code
def yL_soonest : MethodName := ⟨RL, "soonest", "(LFindTables;II[J)I"⟩
abbrev cL_bestDouble : ByteArray := method_23_code
def yL_bestDouble : MethodName := ⟨RL, "bestDouble", "(LFindTables;II[J)I"⟩
abbrev cL_append : ByteArray := method_24_code
def yL_append : MethodName := ⟨RL, "append", "(LFindTables;I[J)I"⟩
abbrev cL_undo : ByteArray := method_25_code
def yL_undo : MethodName := ⟨RL, "undo", "(LFindTables;[J)I"⟩
abbrev cL_law : ByteArray := code
def yL_law : MethodName := ⟨RL, "law", "([I)Z"⟩
abbrev vwCl : List vw_C := [(RX0, TX0, 7), (RX1, TX1, 3), (RX2, TX2, 6), (RX3, TX3, 4), (RX4, TX4, 4), (RX5, TX5, 3), (RX6, TX6, 3), (RX7, TX7, 8), (RX8, TX8, 4), (RX9, TX9, 9), (RX10, TX10, 26)]
end
section
/-! TABLES: link tables, methods; the entries are numbers, held against the printed words by program -/
def cn : Nat → String := fun k => match k with
  | 0 => RX0
  | 1 => RX1
  | 2 => RX2
  | 3 => RX3
  | 4 => RX4
  | 5 => RX5
  | 6 => RX6
  | 7 => RX7
  | 8 => RX8
  | 9 => RX9
  | 10 => RX10
  | 11 => RJ6
  | 12 => RJ9
  | 13 => RJ7
  | _ => RL
def fT : Nat → u_T := fun k => match k with
  | 0 => TX0
  | 1 => TX1
  | 2 => TX2
  | 3 => TX3
  | 4 => TX4
  | 5 => TX5
  | 6 => TX6
  | 7 => TX7
  | 8 => TX8
  | 9 => TX9
  | _ => TX10
def fN : Nat → Nat := fun k => match k with
  | 0 => 7
  | 1 => 3
  | 2 => 6
  | 3 => 4
  | 4 => 4
  | 5 => 3
  | 6 => 3
  | 7 => 8
  | 8 => 4
  | 9 => 9
  | _ => 26
def fY : Nat → Nat → FieldType := fun k => match k with
  | 0 => tyX0
  | 1 => tyX1
  | 2 => tyX2
  | 3 => tyX3
  | 4 => tyX4
  | 5 => tyX5
  | 6 => tyX6
  | 7 => tyX7
  | 8 => tyX8
  | 9 => tyX9
  | _ => tyX10
/-- the methods: name, code, locals, answer, handlers -/
abbrev MR : Type := MethodName × ByteArray × Nat × Option FieldType × List (Nat × Nat × Nat × Nat)
def mtb_0 : List MR := [(yX9_init, cX9_init, 1, none, []), (yX6_init, cX6_init, 1, none, []), (yX7_init, cX7_init, 1, none, []), (yX3_init, cX3_init, 1, none, []), (yX2_init, cX2_init, 1, none, []), (yX5_init, cX5_init, 2, none, []), (yX8_init, cX8_init, 1, none, []), (yX4_init, cX4_init, 1, none, []), (yX1_init, cX1_init, 1, none, []), (yX0_init, cX0_init, 1, none, []), (yX9_restore, cX9_restore, 1, (some .int), []), (yX9_saveState, cX9_saveState, 1, none, []), (yX5_keep, cX5_keep, 3, none, []), (yX5_slotBehind, cX5_slotBehind, 3, (some (.object "FindTables$State")), []), (yJ9_floorMod_7cf53, cJ9_floorMod_7cf53, 3, (some .int), []), (yX6_copyFrom, cX6_copyFrom, 2, none, []), (yX7_copyFrom, cX7_copyFrom, 2, none, []), (yX9_copyRow, cX9_copyRow, 2, none, []), (yJ9_min_7cf53, cJ9_min_7cf53, 2, (some .int), []), (yX3_copyFrom, cX3_copyFrom, 2, none, []), (yX2_copyFrom, cX2_copyFrom, 2, none, []), (yX0_forget, cX0_forget, 1, none, []), (yX7_unspend, cX7_unspend, 2, (some .int), []), (yX7_countSpent, cX7_countSpent, 1, (some .int), []), (yX7_spentBits, cX7_spentBits, 5, (some .int), []), (yX7_countOf, cX7_countOf, 2, (some .int), []), (yX9_at, cX9_at, 2, (some .int), []), (yX9_placeOf, cX9_placeOf, 2, (some .int), []), (yX9_spentBit, cX9_spentBit, 1, (some .int), []), (yJ6_bitCount_0f7a4, cJ6_bitCount_0f7a4, 1, (some .int), []), (yJ7_fill_53178, cJ7_fill_53178, 4, none, []), (yX9_luckyShare, cX9_luckyShare, 2, (some .double), [])]
def mtb_1 : List MR := [(yX2_differentOpenings, cX2_differentOpenings, 5, (some .int), []), (yX2_kept, cX2_kept, 1, (some .int), []), (yX2_tell, cX2_tell, 4, (some .int), []), (yX9_clearText, cX9_clearText, 2, (some .int), []), (yX9_parse, cX9_parse, 2, (some .int), []), (yX8_readInto, cX8_readInto, 3, (some .int), []), (yX7_makeEmpty, cX7_makeEmpty, 1, none, []), (yX8_readPart, cX8_readPart, 3, none, []), (yX8_peek, cX8_peek, 1, (some .int), []), (yX8_readDraws, cX8_readDraws, 4, none, []), (yX8_readDigit, cX8_readDigit, 4, (some .int), []), (yX8_readSign, cX8_readSign, 2, none, []), (yX9_put, cX9_put, 3, none, []), (yX8_readEntry, cX8_readEntry, 8, none, []), (yX8_readTableWithRoom, cX8_readTableWithRoom, 4, (some .int), []), (yX8_readWhat, cX8_readWhat, 4, (some .int), []), (yX8_readNumber, cX8_readNumber, 7, (some .int), []), (yX8_isDigit, cX8_isDigit, 1, (some .boolean), []), (yX9_isLowLink, cX9_isLowLink, 2, (some .boolean), []), (yX9_isLink, cX9_isLink, 1, (some .boolean), []), (yX9_linkedTable, cX9_linkedTable, 1, (some .int), []), (yX9_greatestRarity, cX9_greatestRarity, 1, (some .int), []), (yX8_readOnce, cX8_readOnce, 1, (some .boolean), []), (yX7_addTo, cX7_addTo, 9, (some .int), []), (yX7_countAll, cX7_countAll, 3, (some .int), []), (yX9_digest, cX9_digest, 5, (some .long), []), (yX9_mix, cX9_mix, 4, (some .long), []), (yX9_tellValue, cX9_tellValue, 2, (some .int), []), (yX2_differentItems, cX2_differentItems, 3, (some .int), []), (yX9_mixTable, cX9_mixTable, 8, (some .long), []), (yX9_tellTable, cX9_tellTable, 3, (some .int), []), (yX9_prepareFirstDraw, cX9_prepareFirstDraw, 2, none, [])]
def mtb_2 : List MR := [(yX1_prepare, cX1_prepare, 6, none, []), (yX3_isDue, cX3_isDue, 2, (some .boolean), []), (yX1_weigh, cX1_weigh, 12, none, []), (yX7_stopBits, cX7_stopBits, 3, (some .int), []), (yX9_groupBit, cX9_groupBit, 2, (some .int), []), (yX1_reaches, cX1_reaches, 5, (some .boolean), []), (yX1_sumOf, cX1_sumOf, 2, (some .int), []), (yX6_presentWeight, cX6_presentWeight, 2, (some .int), []), (yX3_risen, cX3_risen, 3, (some .int), []), (yX9_tellEntry, cX9_tellEntry, 5, (some .int), []), (yX1_weightAt, cX1_weightAt, 2, (some .int), []), (yX0_reckonFor, cX0_reckonFor, 3, none, []), (yJ7_fill_d0a16, cJ7_fill_d0a16, 5, none, []), (yX0_goOn, cX0_goOn, 8, none, []), (yX0_endOpening, cX0_endOpening, 7, none, []), (yX0_handOn, cX0_handOn, 20, none, []), (yX7_drawnBits, cX7_drawnBits, 4, (some .int), []), (yJ9_max_7cf53, cJ9_max_7cf53, 2, (some .int), []), (yX0_ofRarity, cX0_ofRarity, 5, (some .long), []), (yX9_at_, cX9_at_, 2, (some .long), []), (yL_setDraws, cL_setDraws, 5, (some .int), [(0, 10, 13, 13), (0, 10, 17, 15)]), (yX9_setDraws, cX9_setDraws, 3, (some .int), []), (yX9_needTable, cX9_needTable, 1, none, []), (yX9_needRange, cX9_needRange, 3, none, []), (yX9_exchange, cX9_exchange, 4, (some .int), []), (yL_addEntry, cL_addEntry, 9, (some .int), [(0, 18, 21, 13), (0, 18, 25, 15), (0, 18, 29, 21)]), (yX9_addEntry, cX9_addEntry, 7, (some .int), []), (yL_removeEntry, cL_removeEntry, 5, (some .int), [(0, 10, 13, 13)]), (yX9_removeEntry, cX9_removeEntry, 3, (some .int), []), (yX9_needEntry, cX9_needEntry, 3, none, []), (yX7_removeFrom, cX7_removeFrom, 5, (some .int), []), (yX7_moveEntry, cX7_moveEntry, 3, none, [])]
def mtb_3 : List MR := [(yL_setWeight, cL_setWeight, 6, (some .int), [(0, 12, 15, 13), (0, 12, 19, 15)]), (yX9_setWeight, cX9_setWeight, 4, (some .int), []), (yL_entry, cL_entry, 6, (some .int), [(0, 12, 15, 13), (0, 12, 19, 15)]), (yX9_entry, cX9_entry, 4, (some .int), []), (yL_table, cL_table, 5, (some .int), [(0, 10, 13, 13), (0, 10, 17, 15)]), (yX9_table, cX9_table, 3, (some .int), []), (yL_setCounter, cL_setCounter, 5, (some .int), [(0, 10, 13, 13), (0, 10, 17, 15)]), (yX9_setCounter, cX9_setCounter, 3, (some .int), []), (yX9_needCountedRarity, cX9_needCountedRarity, 1, none, []), (yL_setLimit, cL_setLimit, 5, (some .int), [(0, 10, 13, 13), (0, 10, 17, 15)]), (yX9_setLimit, cX9_setLimit, 3, (some .int), []), (yL_setRise, cL_setRise, 5, (some .int), [(0, 10, 13, 15)]), (yX9_setRise, cX9_setRise, 4, (some .int), []), (yL_luck, cL_luck, 5, (some .int), [(0, 10, 13, 13)]), (yX9_luck, cX9_luck, 3, (some .int), []), (yL_value, cL_value, 4, (some .int), [(0, 9, 12, 15)]), (yX9_value, cX9_value, 2, (some .int), []), (yL_open, cL_open, 4, (some .int), [(0, 9, 12, 13)]), (yX9_open, cX9_open, 2, (some .int), []), (yX4_run, cX4_run, 4, (some .int), []), (yX4_drawItem, cX4_drawItem, 9, none, []), (yX3_numberBelow, cX3_numberBelow, 2, (some .int), []), (yX1_entryFor, cX1_entryFor, 6, (some .int), []), (yX7_spendIfOnce, cX7_spendIfOnce, 2, none, []), (yX4_takeItem, cX4_takeItem, 4, none, []), (yX2_record, cX2_record, 4, none, []), (yX3_countOpening, cX3_countOpening, 4, none, []), (yL_openOften, cL_openOften, 5, (some .int), [(0, 10, 13, 13), (0, 10, 17, 15)]), (yX9_openOften, cX9_openOften, 5, (some .int), []), (yL_find, cL_find, 5, (some .int), [(0, 10, 13, 15)]), (yX9_find, cX9_find, 3, (some .int), []), (yL_often, cL_often, 4, (some .int), [(0, 9, 12, 13)])]
def mtb_4 : List MR := [(yX9_often, cX9_often, 2, (some .int), []), (yX9_needItem, cX9_needItem, 1, none, []), (yL_chance, cL_chance, 6, (some .int), [(0, 12, 15, 13)]), (yX9_chance, cX9_chance, 7, (some .int), []), (yX9_greatestDivisor, cX9_greatestDivisor, 6, (some .int), []), (yL_chanceOf, cL_chanceOf, 5, (some .int), [(0, 10, 13, 13)]), (yX9_chanceOf, cX9_chanceOf, 3, (some .int), []), (yX0_ofItem, cX0_ofItem, 2, (some .long), []), (yL_chanceRare, cL_chanceRare, 5, (some .int), [(0, 10, 13, 13), (0, 10, 17, 15)]), (yX9_chanceRare, cX9_chanceRare, 3, (some .int), []), (yL_meanFinds, cL_meanFinds, 4, (some .int), [(0, 8, 11, 13)]), (yX9_meanFinds, cX9_meanFinds, 2, (some .long), []), (yL_soonest, cL_soonest, 5, (some .int), [(0, 10, 13, 13)]), (yX9_soonest, cX9_soonest, 5, (some .int), []), (yL_bestDouble, cL_bestDouble, 5, (some .int), [(0, 10, 13, 13)]), (yX9_bestDouble, cX9_bestDouble, 9, (some .int), []), (yL_append, cL_append, 4, (some .int), [(0, 9, 12, 15), (0, 9, 15, 21)]), (yX9_append, cX9_append, 2, (some .int), []), (yX8_add, cX8_add, 2, (some .int), []), (yL_undo, cL_undo, 3, (some .int), [(0, 8, 11, 21)]), (yX9_undo, cX9_undo, 1, (some .int), []), (yX5_takeInto, cX5_takeInto, 3, none, []), (yX10_init, cX10_init, 2, none, []), (yX10_thrown, cX10_thrown, 1, (some .int), []), (yX10_undo, cX10_undo, 2, (some .int), []), (yX10_refused, cX10_refused, 2, (some .boolean), []), (yX10_setDraws, cX10_setDraws, 4, (some .int), []), (yX10_isTable, cX10_isTable, 1, (some .boolean), []), (yX10_in, cX10_in, 3, (some .boolean), []), (yX10_saves, cX10_saves, 2, none, []), (yX10_addEntry, cX10_addEntry, 7, (some .int), []), (yX10_canBe, cX10_canBe, 3, (some .boolean), [])]
def mtb_5 : List MR := [(yX10_isItem, cX10_isItem, 1, (some .boolean), []), (yX10_isWeight, cX10_isWeight, 1, (some .boolean), []), (yX10_comes, cX10_comes, 8, (some .int), []), (yX10_at, cX10_at, 2, (some .int), []), (yX10_removeEntry, cX10_removeEntry, 4, (some .int), []), (yX10_isEntry, cX10_isEntry, 3, (some .boolean), []), (yX10_setWeight, cX10_setWeight, 5, (some .int), []), (yX10_of, cX10_of, 4, (some .int), []), (yX10_restore, cX10_restore, 4, (some .int), []), (yX10_spentOnes, cX10_spentOnes, 4, (some .int), []), (yX10_entry, cX10_entry, 4, (some .int), []), (yX10_tellEntry, cX10_tellEntry, 4, (some .int), []), (yX10_present, cX10_present, 4, (some .int), []), (yX10_firstAble, cX10_firstAble, 3, (some .int), []), (yX10_spentSet, cX10_spentSet, 4, (some .int), []), (yX10_wanted, cX10_wanted, 7, (some .int), []), (yX10_able, cX10_able, 11, (some .int), []), (yX10_has, cX10_has, 2, (some .boolean), []), (yX10_table, cX10_table, 3, (some .int), []), (yX10_tellTable, cX10_tellTable, 3, (some .int), []), (yX10_sum, cX10_sum, 5, (some .int), []), (yX10_setCounter, cX10_setCounter, 3, (some .int), []), (yX10_isRare, cX10_isRare, 1, (some .boolean), []), (yX10_puts, cX10_puts, 4, (some .int), []), (yX10_setLimit, cX10_setLimit, 3, (some .int), []), (yX10_setRise, cX10_setRise, 4, (some .int), []), (yX10_luck, cX10_luck, 3, (some .int), []), (yX10_value, cX10_value, 2, (some .int), []), (yX10_tellValue, cX10_tellValue, 2, (some .int), []), (yX10_different, cX10_different, 3, (some .int), []), (yX10_open, cX10_open, 2, (some .int), []), (yX10_opens, cX10_opens, 11, (some .int), [])]
def mtb_6 : List MR := [(yX10_drawn, cX10_drawn, 5, (some .int), []), (yX10_draw, cX10_draw, 2, (some .int), []), (yX10_groupsWith, cX10_groupsWith, 5, (some .int), []), (yX10_finds, cX10_finds, 4, none, []), (yX10_openOften, cX10_openOften, 5, (some .int), []), (yX10_find, cX10_find, 3, (some .int), []), (yX10_often, cX10_often, 2, (some .int), []), (yX10_chance, cX10_chance, 10, (some .int), []), (yX10_chanceOf, cX10_chanceOf, 3, (some .int), []), (yX10_goesThrough, cX10_goesThrough, 3, none, []), (yX10_goesOn, cX10_goesOn, 12, none, []), (yX10_lays, cX10_lays, 6, none, []), (yX10_nextOnTop, cX10_nextOnTop, 4, (some .int), []), (yX10_handsOn, cX10_handsOn, 12, none, []), (yX10_spentWith, cX10_spentWith, 4, (some .int), []), (yX10_chanceRare, cX10_chanceRare, 3, (some .int), []), (yX10_meanFinds, cX10_meanFinds, 2, (some .long), []), (yX10_luckyShare, cX10_luckyShare, 3, (some .double), []), (yX10_soonest, cX10_soonest, 6, (some .int), []), (yX10_keeps, cX10_keeps, 2, none, []), (yX10_takesBack, cX10_takesBack, 2, none, []), (yX10_bestDouble, cX10_bestDouble, 8, (some .int), []), (yX10_append, cX10_append, 2, (some .int), []), (yX10_clearText, cX10_clearText, 2, (some .int), []), (yX10_parse, cX10_parse, 2, (some .int), []), (yX10_takes, cX10_takes, 3, (some .boolean), []), (yX10_takesDraws, cX10_takesDraws, 2, (some .boolean), []), (yX10_takesDigit, cX10_takesDigit, 4, (some .boolean), []), (yX10_isDigit, cX10_isDigit, 3, (some .boolean), []), (yX10_takesEntry, cX10_takesEntry, 9, (some .boolean), []), (yX10_takesNumber, cX10_takesNumber, 7, (some .boolean), []), (yX10_digest, cX10_digest, 2, (some .long), [])]
def mtb_7 : List MR := [(yX10_mix, cX10_mix, 3, none, []), (yX10_mixTable, cX10_mixTable, 3, none, []), (x, code, 9, (some .boolean), [])]
def mtb : List MR := mtb_0 ++ (mtb_1 ++ (mtb_2 ++ (mtb_3 ++ (mtb_4 ++ (mtb_5 ++ (mtb_6 ++ (mtb_7)))))))
def mG (mi : Nat) : MR := mtb.getD mi (x, code, 9, some .boolean, [])
/-- places of a method's words: its code, static or instanceMethod, selects (0: none), initialized of its class -/
def mpl_0 : List (Nat × Nat × Nat × Nat) := [(26, 25, 0, 1), (34, 33, 0, 2), (40, 39, 0, 3), (90, 89, 0, 4), (113, 112, 0, 5), (161, 160, 0, 6), (181, 180, 0, 7), (204, 203, 0, 8), (210, 209, 0, 9), (243, 242, 0, 10), (302, 300, 366, 1), (306, 305, 0, 1), (310, 308, 374, 6), (314, 313, 1, 6), (317, 316, 0, 17), (321, 319, 385, 2), (325, 323, 389, 3), (328, 327, 0, 1), (331, 330, 0, 17), (338, 336, 402, 4), (343, 341, 407, 5), (348, 346, 412, 10), (352, 350, 416, 3), (356, 354, 420, 3), (360, 358, 424, 3), (364, 362, 428, 3), (367, 366, 0, 1), (370, 369, 0, 1), (373, 372, 0, 1), (376, 375, 0, 20), (382, 381, 0, 21), (386, 384, 450, 1)]
def mpl_1 : List (Nat × Nat × Nat × Nat) := [(390, 388, 454, 5), (394, 392, 458, 5), (399, 397, 463, 5), (405, 403, 469, 1), (409, 407, 473, 1), (413, 411, 477, 7), (417, 415, 481, 3), (421, 420, 2, 7), (425, 424, 3, 7), (429, 428, 4, 7), (433, 432, 5, 7), (437, 436, 6, 7), (440, 439, 0, 1), (444, 443, 7, 7), (448, 447, 8, 7), (453, 452, 9, 7), (457, 456, 10, 7), (460, 459, 0, 7), (463, 462, 0, 1), (466, 465, 0, 1), (469, 468, 0, 1), (472, 471, 0, 1), (476, 475, 11, 7), (480, 478, 544, 3), (486, 484, 550, 3), (490, 488, 554, 1), (494, 493, 0, 1), (499, 498, 12, 1), (505, 503, 569, 5), (510, 509, 13, 1), (514, 513, 14, 1), (519, 518, 15, 1)]
def mpl_2 : List (Nat × Nat × Nat × Nat) := [(524, 522, 588, 9), (528, 526, 592, 4), (532, 531, 16, 9), (539, 537, 603, 3), (542, 541, 0, 1), (546, 545, 17, 9), (552, 550, 616, 9), (556, 554, 620, 2), (560, 558, 624, 4), (565, 564, 18, 1), (571, 569, 635, 9), (576, 574, 640, 10), (579, 578, 0, 21), (585, 584, 19, 10), (590, 589, 20, 10), (596, 595, 21, 10), (603, 601, 667, 3), (608, 607, 0, 17), (613, 611, 677, 10), (616, 615, 0, 1), (620, 619, 0, 0), (626, 624, 690, 1), (629, 628, 0, 1), (699, 698, 0, 1), (718, 717, 0, 1), (722, 721, 0, 0), (727, 725, 791, 1), (750, 749, 0, 0), (754, 752, 818, 1), (758, 757, 23, 1), (763, 761, 827, 3), (767, 766, 24, 3)]
def mpl_3 : List (Nat × Nat × Nat × Nat) := [(770, 769, 0, 0), (774, 772, 838, 1), (777, 776, 0, 0), (781, 779, 845, 1), (784, 783, 0, 0), (788, 786, 852, 1), (791, 790, 0, 0), (795, 793, 859, 1), (798, 797, 0, 1), (802, 801, 0, 0), (806, 804, 870, 1), (809, 808, 0, 0), (813, 811, 877, 1), (817, 816, 0, 0), (821, 819, 885, 1), (824, 823, 0, 0), (828, 826, 892, 1), (831, 830, 0, 0), (835, 833, 899, 1), (839, 837, 903, 8), (845, 844, 25, 8), (851, 849, 915, 4), (860, 858, 924, 9), (867, 865, 931, 3), (872, 871, 26, 8), (876, 874, 940, 5), (883, 881, 947, 4), (889, 888, 0, 0), (893, 891, 957, 1), (896, 895, 0, 0), (900, 898, 964, 1), (904, 903, 0, 0)]
def mpl_4 : List (Nat × Nat × Nat × Nat) := [(908, 906, 972, 1), (911, 910, 0, 1), (915, 914, 0, 0), (919, 917, 983, 1), (922, 921, 0, 1), (925, 924, 0, 0), (929, 927, 993, 1), (933, 931, 997, 10), (936, 935, 0, 0), (940, 938, 1004, 1), (943, 942, 0, 0), (947, 945, 1011, 1), (950, 949, 0, 0), (954, 952, 1018, 1), (958, 957, 0, 0), (962, 960, 1026, 1), (966, 965, 0, 0), (970, 968, 1034, 1), (975, 973, 1039, 7), (978, 977, 0, 0), (982, 980, 1046, 1), (987, 985, 1051, 6), (992, 991, 0, 11), (1076, 1074, 1140, 11), (1080, 1078, 1144, 11), (1084, 1083, 27, 11), (1088, 1086, 1152, 11), (1091, 1090, 0, 11), (1094, 1093, 0, 11), (1098, 1097, 28, 11), (1102, 1100, 1166, 11), (1105, 1104, 0, 11)]
def mpl_5 : List (Nat × Nat × Nat × Nat) := [(1108, 1107, 0, 11), (1111, 1110, 0, 11), (1115, 1114, 29, 11), (1118, 1117, 0, 11), (1122, 1120, 1186, 11), (1126, 1125, 30, 11), (1130, 1128, 1194, 11), (1134, 1133, 31, 11), (1138, 1136, 1202, 11), (1142, 1141, 32, 11), (1146, 1144, 1210, 11), (1150, 1149, 33, 11), (1154, 1153, 34, 11), (1158, 1157, 35, 11), (1162, 1161, 36, 11), (1166, 1165, 37, 11), (1170, 1169, 38, 11), (1173, 1172, 0, 11), (1177, 1175, 1241, 11), (1181, 1180, 39, 11), (1185, 1184, 40, 11), (1189, 1187, 1253, 11), (1192, 1191, 0, 11), (1196, 1195, 41, 11), (1200, 1198, 1264, 11), (1204, 1202, 1268, 11), (1209, 1207, 1273, 11), (1213, 1211, 1277, 11), (1217, 1216, 42, 11), (1221, 1220, 43, 11), (1225, 1223, 1289, 11), (1229, 1228, 44, 11)]
def mpl_6 : List (Nat × Nat × Nat × Nat) := [(1233, 1232, 45, 11), (1237, 1236, 46, 11), (1245, 1244, 47, 11), (1249, 1248, 48, 11), (1253, 1251, 1317, 11), (1257, 1255, 1321, 11), (1261, 1259, 1325, 11), (1265, 1263, 1329, 11), (1269, 1267, 1333, 11), (1273, 1272, 49, 11), (1278, 1277, 50, 11), (1282, 1281, 51, 11), (1286, 1285, 52, 11), (1290, 1289, 53, 11), (1294, 1293, 54, 11), (1298, 1296, 1362, 11), (1302, 1300, 1366, 11), (1306, 1304, 1370, 11), (1310, 1308, 1374, 11), (1314, 1313, 55, 11), (1318, 1317, 56, 11), (1322, 1320, 1386, 11), (1327, 1325, 1391, 11), (1331, 1329, 1395, 11), (1335, 1333, 1399, 11), (1339, 1338, 57, 11), (1343, 1342, 58, 11), (1347, 1346, 59, 11), (1351, 1350, 60, 11), (1355, 1354, 61, 11), (1359, 1358, 62, 11), (1363, 1361, 1427, 11)]
def mpl_7 : List (Nat × Nat × Nat × Nat) := [(1368, 1367, 63, 11), (1373, 1372, 64, 11)]
def mpl : List (Nat × Nat × Nat × Nat) := mpl_0 ++ (mpl_1 ++ (mpl_2 ++ (mpl_3 ++ (mpl_4 ++ (mpl_5 ++ (mpl_6 ++ (mpl_7)))))))
def mLs : List Nat := [1, 1, 1, 1, 1, 2, 1, 1, 1, 1, 1, 1, 3, 3, 3, 2, 2, 2, 2, 2, 2, 1, 2, 1, 5, 2, 2, 2, 1, 1, 4, 2, 5, 1, 4, 2, 2, 3, 1, 3, 1, 4, 4, 2, 3, 8, 4, 4, 7, 1, 2, 1, 1, 1, 1, 9, 3, 5, 4, 2, 3, 8, 3, 2, 6, 2, 12, 3, 2, 5, 2, 2, 3, 5, 2, 3, 5, 8, 7, 20, 4, 2, 5, 2, 5, 3, 1, 3, 4, 9, 7, 5, 3, 3, 5, 3, 6, 4, 6, 4, 5, 3, 5, 3, 1, 5, 3, 5, 4, 5, 3, 4, 2, 4, 2, 4, 9, 2, 6, 2, 4, 4, 4, 5, 5, 5, 3, 4, 2, 1, 6, 7, 6, 5, 3, 2, 5, 3, 4, 2, 5, 5, 5, 9, 4, 2, 2, 3, 1, 3, 2, 1, 2, 2, 4, 1, 3, 2, 7, 3, 1, 1, 8, 2, 4, 3, 5, 4, 4, 4, 4, 4, 4, 3, 4, 7, 11, 2, 3, 3, 5, 3, 1, 4, 3, 4, 3, 2, 2, 3, 2, 11, 5, 2, 5, 4, 5, 3, 2, 10, 3, 3, 12, 6, 4, 12, 4, 3, 2, 3, 6, 2, 2, 8, 2, 2, 2, 3, 2, 4, 3, 9, 7, 2, 3, 3, 9]
def mL (mi : Nat) : Nat := mLs.getD mi 0
/-- answers: 0 none, 1 int, 2 boolean, 3 long, 4 double, 5 reference -/
def mRs : List Nat := [0, 0, 0, 0, 0, 0, 0, 0, 0, 0, 1, 0, 0, 5, 1, 0, 0, 0, 1, 0, 0, 0, 1, 1, 1, 1, 1, 1, 1, 1, 0, 4, 1, 1, 1, 1, 1, 1, 0, 0, 1, 0, 1, 0, 0, 0, 1, 1, 1, 2, 2, 2, 1, 1, 2, 1, 1, 3, 3, 1, 1, 3, 1, 0, 0, 2, 0, 1, 1, 2, 1, 1, 1, 1, 1, 0, 0, 0, 0, 0, 1, 1, 3, 3, 1, 1, 0, 0, 1, 1, 1, 1, 1, 0, 1, 0, 1, 1, 1, 1, 1, 1, 1, 1, 0, 1, 1, 1, 1, 1, 1, 1, 1, 1, 1, 1, 0, 1, 1, 0, 0, 0, 0, 1, 1, 1, 1, 1, 1, 0, 1, 1, 1, 1, 1, 3, 1, 1, 1, 3, 1, 1, 1, 1, 1, 1, 1, 1, 1, 0, 0, 1, 1, 2, 1, 2, 2, 0, 1, 2, 2, 2, 1, 1, 1, 2, 1, 1, 1, 1, 1, 1, 1, 1, 1, 1, 1, 2, 1, 1, 1, 1, 2, 1, 1, 1, 1, 1, 1, 1, 1, 1, 1, 1, 1, 0, 1, 1, 1, 1, 1, 0, 0, 0, 1, 0, 1, 1, 3, 4, 1, 0, 0, 1, 1, 1, 1, 2, 2, 2, 2, 2, 2, 3, 0, 0, 2]
def mR (mi : Nat) : Nat := mRs.getD mi 0
def mOs : List Nat := [9, 6, 7, 3, 2, 5, 8, 4, 1, 0, 9, 9, 5, 5, 12, 6, 7, 9, 12, 3, 2, 0, 7, 7, 7, 7, 9, 9, 9, 11, 13, 9, 2, 2, 2, 9, 9, 8, 7, 8, 8, 8, 8, 8, 9, 8, 8, 8, 8, 8, 9, 9, 9, 9, 8, 7, 7, 9, 9, 9, 2, 9, 9, 9, 1, 3, 1, 7, 9, 1, 1, 6, 3, 9, 1, 0, 13, 0, 0, 0, 7, 12, 0, 9, 14, 9, 9, 9, 9, 14, 9, 14, 9, 9, 7, 7, 14, 9, 14, 9, 14, 9, 14, 9, 9, 14, 9, 14, 9, 14, 9, 14, 9, 14, 9, 4, 4, 3, 1, 7, 4, 2, 3, 14, 9, 14, 9, 14, 9, 9, 14, 9, 9, 14, 9, 0, 14, 9, 14, 9, 14, 9, 14, 9, 14, 9, 8, 14, 9, 5, 10, 10, 10, 10, 10, 10, 10, 10, 10, 10, 10, 10, 10, 10, 10, 10, 10, 10, 10, 10, 10, 10, 10, 10, 10, 10, 10, 10, 10, 10, 10, 10, 10, 10, 10, 10, 10, 10, 10, 10, 10, 10, 10, 10, 10, 10, 10, 10, 10, 10, 10, 10, 10, 10, 10, 10, 10, 10, 10, 10, 10, 10, 10, 10, 10, 10, 10, 10, 10, 10, 10, 10, 10, 10, 10, 10, 14]
def mO (mi : Nat) : Nat := mOs.getD mi 0
def lkT_0 : List (Nat × List Nat) := [(3, [4, 244]), (9, [5, 1, 245, 207, 9]), (11, [2, 8, 1, 1, 1, 246]), (12, [1, 0, 0, 2, 0, 247]), (18, [1, 0, 1, 2, 0, 248]), (21, [1, 0, 2, 2, 0, 249]), (25, [1, 0, 3, 2, 0, 250]), (29, [1, 0, 4, 2, 0, 251]), (32, [1, 0, 6, 0, 0, 254]), (36, [1, 0, 5, 1, 0, 252]), (40, [2, 76, 0, 13, 0, 577, 1, 2]), (46, [1, 6, 0, 2, 1, 142]), (52, [2, 24, 2, 7, 0, 580]), (58, [9, 1000000000, 581]), (60, [2, 77, 2, 0, 0, 582, 1, 0, 0, 0, 2]), (64, [2, 83, 0, 9, 1, 614, 0, 2]), (68, [1, 7, 0, 2, 1, 46]), (71, [2, 26, 0, 9, 1, 586, 0, 2]), (74, [2, 78, 2, 0, 0, 587, 1, 0, 0]), (78, [2, 64, 2, 1, 0, 591, 0, 0, 0, 2]), (82, [2, 70, 2, 1, 0, 592, 0]), (86, [2, 79, 2, 0, 0, 593, 1, 0, 0, 0, 0, 2]), (90, [2, 44, 0, 9, 1, 605, 0, 0, 2]), (94, [2, 27, 0, 9, 1, 597, 0, 0]), (98, [2, 25, 2, 7, 0, 598, 0]), (101, [10, 599]), (106, [1, 1, 0, 2, 1, 213]), (109, [2, 80, 2, 7, 0, 600, 0, 0]), (112, [1, 7, 2, 2, 1, 51]), (115, [2, 51, 0, 9, 1, 604, 0]), (119, [1, 7, 4, 2, 1, 60]), (122, [11, 606]), (125, [2, 52, 0, 9, 1, 609, 0]), (1003, [4, 211]), (1009, [1, 1, 0, 2, 0, 212]), (1015, [1, 1, 1, 2, 0, 214]), (1018, [1, 6, 1, 2, 1, 144]), (1024, [2, 65, 2, 3, 0, 525, 0]), (1030, [2, 66, 2, 1, 0, 529, 0, 0, 0, 2]), (1034, [2, 70, 2, 1, 0, 549, 0])]
def lkT_1 : List (Nat × List Nat) := [(1038, [1, 1, 2, 0, 0, 215]), (1042, [2, 27, 0, 9, 1, 533, 0, 0]), (1046, [1, 6, 0, 2, 1, 141]), (1050, [2, 25, 2, 7, 0, 534, 0]), (1055, [10, 535]), (1060, [2, 67, 2, 7, 0, 536, 0, 0]), (1063, [2, 69, 2, 1, 0, 543, 0, 0, 2]), (1067, [2, 71, 2, 6, 0, 553, 0]), (1070, [1, 7, 2, 2, 1, 50]), (1073, [2, 51, 0, 9, 1, 547, 0]), (1076, [2, 52, 0, 9, 1, 548, 0]), (1079, [1, 7, 4, 2, 1, 59]), (1082, [2, 26, 0, 9, 1, 572, 0, 2]), (1086, [2, 74, 2, 1, 0, 861, 0]), (2003, [4, 114]), (2009, [1, 2, 0, 2, 0, 115]), (2015, [1, 2, 1, 2, 0, 117]), (2018, [1, 2, 2, 2, 0, 118]), (2021, [1, 2, 3, 2, 0, 119]), (2024, [2, 17, 0, 9, 1, 344, 2, 2]), (2028, [1, 2, 4, 0, 0, 121]), (2032, [1, 2, 5, 0, 0, 123]), (2035, [2, 14, 0, 12, 0, 400, 0, 0]), (2041, [2, 44, 0, 9, 1, 877, 0, 0, 2]), (2045, [2, 26, 0, 9, 1, 401, 0, 2]), (2049, [10, 395]), (2052, [2, 33, 2, 2, 0, 391]), (2056, [2, 34, 2, 2, 0, 396, 0, 0]), (3003, [4, 91]), (3009, [1, 3, 0, 2, 0, 92]), (3015, [1, 3, 1, 2, 0, 94]), (3018, [1, 3, 3, 0, 0, 98]), (3022, [2, 17, 0, 9, 1, 339, 2, 2]), (3026, [1, 3, 2, 0, 0, 96]), (3029, [9, 1103515245, 852]), (3031, [9, 12345, 853]), (3033, [9, 2147483648, 854]), (3035, [8, 65536, 855]), (3036, [2, 26, 0, 9, 1, 884, 0, 2]), (3040, [10, 885])]
def lkT_2 : List (Nat × List Nat) := [(3046, [2, 44, 0, 9, 1, 886, 0, 0, 2]), (4003, [4, 205]), (4009, [5, 1, 206, 207, 9]), (4011, [2, 8, 1, 1, 1, 208]), (4012, [1, 4, 0, 2, 0, 224]), (4018, [1, 6, 0, 2, 1, 139]), (4024, [2, 24, 2, 7, 0, 840]), (4030, [1, 4, 1, 0, 0, 225]), (4034, [1, 4, 2, 0, 0, 226]), (4037, [1, 4, 3, 0, 0, 227]), (4040, [1, 6, 2, 2, 1, 148]), (4044, [1, 2, 4, 0, 1, 120]), (4049, [1, 7, 0, 2, 1, 44]), (4053, [2, 26, 0, 9, 1, 841, 0, 2]), (4057, [2, 116, 2, 4, 0, 842, 0, 2]), (4061, [1, 6, 1, 2, 1, 145]), (4065, [2, 122, 2, 3, 0, 880, 0]), (4071, [2, 64, 2, 1, 0, 846, 0, 0, 0, 2]), (4075, [2, 70, 2, 1, 0, 847, 0]), (4079, [2, 117, 2, 3, 0, 848, 0]), (4082, [2, 25, 2, 7, 0, 856, 0]), (4085, [2, 118, 2, 1, 0, 857, 0, 0, 0]), (4089, [2, 27, 0, 9, 1, 862, 0, 0]), (4093, [1, 7, 2, 2, 1, 49]), (4096, [2, 80, 2, 7, 0, 863, 0, 0]), (4099, [2, 119, 2, 7, 0, 864, 0]), (4102, [2, 51, 0, 9, 1, 868, 0]), (4106, [1, 7, 4, 2, 1, 58]), (4109, [2, 120, 2, 4, 0, 869, 0, 0, 2]), (4113, [2, 52, 0, 9, 1, 879, 0]), (4116, [2, 121, 2, 2, 0, 873, 0, 0]), (4120, [11, 878]), (5003, [4, 162]), (5009, [7, 163, 31]), (5011, [1, 5, 0, 2, 0, 166]), (5017, [2, 1, 1, 6, 1, 165]), (5018, [1, 5, 2, 0, 0, 168]), (5022, [2, 13, 2, 5, 0, 311, 0]), (5026, [2, 15, 2, 6, 0, 318, 2]), (5030, [1, 5, 1, 0, 0, 167])]
def lkT_3 : List (Nat × List Nat) := [(5033, [2, 14, 0, 12, 0, 315, 0, 0]), (6003, [4, 35]), (6009, [5, 7, 36, 37, 3]), (6011, [2, 2, 1, 7, 1, 38]), (6012, [1, 6, 0, 2, 0, 138]), (6018, [5, 3, 86, 87, 4]), (6020, [2, 3, 1, 3, 1, 88]), (6021, [1, 6, 1, 2, 0, 143]), (6025, [5, 2, 109, 110, 5]), (6027, [2, 4, 1, 2, 1, 111]), (6028, [1, 6, 2, 2, 0, 147]), (6032, [2, 16, 2, 7, 0, 322, 2]), (6036, [2, 19, 2, 3, 0, 335, 2]), (6039, [2, 20, 2, 2, 0, 340, 2]), (6042, [1, 7, 3, 2, 1, 54]), (6046, [1, 7, 4, 2, 1, 57]), (6049, [2, 72, 2, 3, 0, 557, 0, 0]), (7003, [4, 41]), (7009, [1, 7, 0, 2, 0, 42]), (7015, [1, 7, 1, 2, 0, 47]), (7018, [1, 7, 2, 2, 0, 48]), (7021, [1, 7, 3, 2, 0, 53]), (7024, [1, 7, 4, 2, 0, 56]), (7027, [1, 7, 5, 2, 0, 62]), (7030, [1, 7, 6, 2, 0, 64]), (7033, [1, 7, 7, 2, 0, 66]), (7036, [2, 30, 0, 13, 0, 380, 0, 2]), (7042, [2, 17, 0, 9, 1, 326, 2, 2]), (7046, [2, 26, 0, 9, 1, 365, 0, 2]), (7050, [2, 25, 2, 7, 0, 361, 0]), (7054, [2, 27, 0, 9, 1, 368, 0, 0]), (7058, [2, 44, 0, 9, 1, 481, 0, 0, 2]), (7062, [2, 95, 2, 7, 0, 764, 0, 0]), (7066, [2, 24, 2, 7, 0, 357]), (7070, [2, 29, 0, 11, 0, 374, 0]), (7075, [2, 28, 0, 9, 1, 371, 0]), (7078, [2, 23, 2, 7, 0, 353]), (7081, [2, 68, 0, 9, 1, 540, 0, 0]), (8003, [4, 182]), (8009, [1, 8, 0, 2, 0, 183])]
def lkT_4 : List (Nat × List Nat) := [(8015, [1, 8, 1, 0, 0, 184]), (8019, [2, 38, 2, 7, 0, 414]), (8024, [1, 8, 2, 0, 0, 186]), (8027, [1, 8, 3, 0, 0, 187]), (8030, [2, 39, 2, 8, 0, 418, 2]), (8034, [2, 40, 2, 8, 0, 422]), (8038, [2, 41, 2, 8, 0, 426, 2]), (8041, [2, 45, 2, 8, 0, 441, 2]), (8044, [2, 42, 2, 8, 0, 430, 0, 0]), (8048, [2, 43, 2, 8, 0, 434, 0]), (8052, [1, 7, 0, 2, 1, 45]), (8056, [2, 44, 0, 9, 1, 438, 0, 0, 2]), (8060, [2, 46, 2, 8, 0, 445, 2]), (8064, [2, 47, 2, 8, 0, 450, 0]), (8068, [2, 48, 2, 8, 0, 454, 0, 0, 0]), (8072, [2, 53, 0, 9, 1, 470, 0]), (8075, [2, 54, 2, 8, 0, 473]), (8079, [2, 55, 2, 7, 0, 477, 0, 0, 0, 0, 0, 0]), (8083, [2, 25, 2, 7, 0, 449, 0]), (8086, [2, 50, 0, 9, 1, 461, 0, 0]), (8090, [2, 49, 0, 8, 0, 458, 0]), (9003, [4, 27]), (9009, [5, 6, 30, 31, 2]), (9011, [2, 1, 1, 6, 1, 32]), (9012, [1, 9, 0, 2, 0, 271]), (9016, [1, 9, 1, 2, 0, 272]), (9019, [5, 5, 157, 158, 6]), (9021, [2, 5, 1, 5, 0, 159]), (9022, [1, 9, 2, 2, 0, 273]), (9026, [5, 8, 177, 178, 7]), (9028, [2, 6, 1, 8, 1, 179]), (9029, [1, 9, 3, 2, 0, 274]), (9033, [5, 7, 198, 37, 3]), (9035, [2, 2, 1, 7, 1, 199]), (9036, [1, 9, 4, 2, 0, 275]), (9040, [5, 4, 200, 201, 8]), (9042, [2, 7, 1, 4, 1, 202]), (9043, [1, 9, 5, 2, 0, 276]), (9047, [5, 1, 237, 207, 9]), (9049, [2, 8, 1, 1, 1, 238])]
def lkT_5 : List (Nat × List Nat) := [(9050, [1, 9, 6, 2, 0, 277]), (9054, [5, 0, 239, 240, 10]), (9056, [2, 9, 1, 0, 1, 241]), (9057, [1, 9, 7, 2, 0, 278]), (9061, [1, 9, 8, 2, 0, 279]), (9064, [2, 86, 0, 9, 0, 627, 0]), (9068, [2, 87, 0, 9, 0, 697, 0, 0, 0]), (9072, [2, 11, 2, 9, 0, 303]), (9075, [1, 6, 0, 2, 1, 140]), (9078, [1, 7, 0, 2, 1, 43]), (9082, [2, 88, 0, 9, 0, 716, 0, 0, 2]), (9086, [2, 50, 0, 9, 0, 728, 0, 0]), (9090, [6, 1, 700]), (9097, [2, 53, 0, 9, 0, 730, 0]), (9101, [2, 25, 2, 7, 0, 515, 0]), (9104, [6, 2, 731]), (9109, [2, 55, 2, 7, 0, 747, 0, 0, 0, 0, 0, 0]), (9113, [2, 93, 2, 9, 0, 755, 0, 0]), (9117, [2, 94, 2, 7, 0, 760, 0, 0]), (9121, [1, 7, 3, 2, 1, 55]), (9124, [2, 27, 0, 9, 0, 566, 0, 0]), (9127, [2, 22, 2, 7, 0, 349]), (9131, [2, 73, 2, 9, 0, 562, 0, 0, 0]), (9135, [2, 62, 2, 9, 0, 511, 0, 0]), (9138, [2, 104, 0, 9, 0, 796, 0]), (9141, [1, 6, 1, 2, 1, 146]), (9145, [1, 3, 0, 2, 1, 93]), (9150, [1, 3, 1, 2, 1, 95]), (9153, [8, 999999, 814]), (9154, [1, 3, 2, 0, 1, 97]), (9158, [1, 3, 3, 0, 1, 99]), (9161, [2, 26, 0, 9, 0, 506, 0, 2]), (9165, [2, 59, 2, 9, 0, 496, 0]), (9168, [2, 115, 2, 4, 0, 836, 0, 2]), (9174, [1, 6, 2, 2, 1, 149]), (9178, [2, 34, 2, 2, 0, 617, 0, 0]), (9183, [2, 129, 0, 9, 0, 909, 0]), (9186, [1, 2, 0, 2, 1, 116]), (9189, [2, 63, 2, 9, 0, 516, 0]), (9192, [2, 74, 2, 1, 0, 568, 0])]
def lkT_6 : List (Nat × List Nat) := [(9195, [2, 70, 2, 1, 0, 561, 0]), (9198, [2, 132, 0, 9, 0, 920, 0, 0]), (9201, [2, 75, 2, 0, 0, 573, 0, 2]), (9205, [2, 135, 2, 0, 0, 930, 0]), (9209, [2, 82, 2, 0, 0, 610, 0]), (9212, [1, 0, 5, 1, 1, 253]), (9216, [1, 2, 4, 0, 1, 122]), (9219, [2, 32, 2, 2, 0, 387]), (9222, [2, 15, 2, 6, 0, 955, 2]), (9226, [9, 18446744073709551615, 963]), (9228, [10, 329]), (9233, [2, 44, 0, 9, 0, 719, 0, 0, 2]), (9237, [2, 21, 2, 0, 0, 345]), (9240, [1, 8, 1, 0, 1, 185]), (9245, [2, 146, 2, 8, 0, 972, 0]), (9248, [2, 37, 2, 8, 0, 410, 2]), (9252, [2, 16, 2, 7, 0, 482, 2]), (9255, [2, 56, 2, 7, 0, 483]), (9258, [1, 5, 2, 0, 1, 169]), (9263, [2, 149, 2, 5, 0, 984, 2]), (9266, [9, 3361, 491]), (9268, [2, 58, 0, 9, 0, 492, 1, 1]), (9272, [2, 61, 2, 9, 0, 507, 0, 1]), (9276, [2, 33, 2, 2, 0, 500]), (9279, [6, 0, 630]), (9292, [2, 12, 2, 5, 0, 307, 2]), (9295, [2, 24, 2, 7, 0, 520]), (9298, [2, 64, 2, 1, 0, 521, 0, 0, 0, 2]), (9302, [1, 7, 2, 2, 1, 52]), (9305, [1, 7, 4, 2, 1, 61]), (9308, [1, 7, 5, 2, 1, 63]), (9311, [1, 7, 6, 2, 1, 65]), (9314, [1, 7, 7, 2, 1, 67]), (9317, [2, 71, 2, 6, 0, 567, 0]), (9320, [1, 1, 2, 0, 1, 216]), (9323, [1, 2, 5, 0, 1, 124]), (9326, [2, 23, 2, 7, 0, 501]), (9329, [2, 60, 2, 2, 0, 502]), (9332, [9, 31, 495]), (9334, [2, 51, 0, 9, 0, 464, 0])]
def lkT_7 : List (Nat × List Nat) := [(9338, [2, 52, 0, 9, 0, 467, 0]), (9341, [3, 332]), (10001, [4, 993]), (10007, [1, 10, 0, 2, 0, 994]), (10013, [1, 10, 1, 2, 0, 995]), (10016, [1, 10, 2, 2, 0, 996]), (10019, [1, 10, 5, 2, 0, 999]), (10022, [1, 10, 7, 2, 0, 1001]), (10025, [1, 10, 8, 2, 0, 1002]), (10028, [1, 10, 9, 2, 0, 1003]), (10031, [1, 10, 10, 2, 0, 1004]), (10034, [1, 10, 11, 2, 0, 1005]), (10038, [1, 10, 12, 2, 0, 1006]), (10041, [1, 10, 13, 2, 0, 1007]), (10044, [1, 10, 14, 2, 0, 1008]), (10047, [1, 10, 15, 2, 0, 1009]), (10050, [1, 10, 16, 2, 0, 1010]), (10053, [1, 10, 17, 2, 0, 1011]), (10056, [1, 10, 19, 2, 0, 1013]), (10059, [1, 10, 20, 2, 0, 1014]), (10062, [1, 10, 24, 2, 0, 1018]), (10065, [1, 10, 4, 0, 0, 998]), (10069, [1, 10, 3, 0, 0, 997]), (10072, [2, 153, 2, 10, 0, 1081, 0]), (10076, [2, 156, 0, 10, 0, 1092, 0, 0, 0]), (10080, [2, 163, 0, 10, 0, 1116, 0, 0]), (10084, [2, 155, 0, 10, 0, 1089, 0]), (10087, [2, 157, 2, 10, 0, 1095]), (10090, [2, 160, 0, 10, 0, 1106, 0]), (10093, [2, 159, 0, 10, 0, 1103, 0, 0, 0]), (10096, [2, 161, 0, 10, 0, 1109, 0]), (10099, [2, 162, 2, 10, 0, 1112, 0, 0, 0, 0, 0, 0]), (10103, [2, 165, 2, 10, 0, 1123, 0, 0]), (10107, [2, 167, 2, 10, 0, 1131, 0, 0, 0]), (10111, [2, 169, 2, 10, 0, 1139]), (10115, [2, 176, 2, 10, 0, 1167, 0, 0, 0]), (10118, [2, 177, 0, 10, 0, 1171, 0, 0]), (10121, [2, 172, 2, 10, 0, 1151, 0, 0]), (10124, [2, 174, 2, 10, 0, 1159]), (10127, [2, 175, 2, 10, 0, 1163, 0, 0, 0, 0])]
def lkT_8 : List (Nat × List Nat) := [(10131, [2, 173, 2, 10, 0, 1155, 0]), (10135, [2, 171, 2, 10, 0, 1147, 0, 0, 0]), (10138, [2, 180, 2, 10, 0, 1182, 0, 0]), (10141, [2, 179, 2, 10, 0, 1178, 0, 0]), (10144, [2, 182, 0, 10, 0, 1190, 0]), (10147, [2, 183, 2, 10, 0, 1193, 0, 0]), (10150, [8, 999999, 1205]), (10151, [2, 189, 2, 10, 0, 1218]), (10154, [2, 188, 2, 10, 0, 1214, 0]), (10157, [9, 1103515245, 1238]), (10159, [9, 12345, 1239]), (10161, [9, 2147483648, 1240]), (10163, [8, 65536, 1241]), (10164, [2, 193, 2, 10, 0, 1234, 0]), (10167, [2, 192, 2, 10, 0, 1230, 0, 0]), (10170, [2, 194, 2, 10, 0, 1242, 0, 0, 0]), (10173, [2, 195, 2, 10, 0, 1246, 0, 0]), (10177, [2, 191, 2, 10, 0, 1226, 0]), (10180, [1, 10, 18, 0, 0, 1012]), (10183, [2, 203, 2, 10, 0, 1279, 0, 1, 0, 0]), (10187, [1, 10, 21, 1, 0, 1015]), (10191, [2, 206, 2, 10, 0, 1291, 0, 0, 0]), (10194, [2, 202, 2, 10, 0, 1275, 0, 0, 0, 0, 0, 0, 1, 0]), (10198, [9, 1000000000, 1274]), (10200, [2, 204, 2, 10, 0, 1283]), (10203, [2, 205, 2, 10, 0, 1287, 0, 0]), (10206, [2, 201, 2, 10, 0, 1270, 0]), (10210, [2, 211, 2, 10, 0, 1311]), (10213, [2, 212, 2, 10, 0, 1315]), (10216, [9, 18446744073709551615, 1323]), (10218, [1, 10, 6, 0, 0, 1000]), (10221, [1, 10, 22, 0, 0, 1016]), (10224, [2, 220, 2, 10, 0, 1348, 0, 0]), (10227, [1, 10, 23, 0, 0, 1017]), (10230, [2, 219, 2, 10, 0, 1344, 0, 0]), (10233, [2, 217, 2, 10, 0, 1336, 0]), (10236, [2, 222, 2, 10, 0, 1356, 0, 0, 0]), (10239, [2, 218, 2, 10, 0, 1340]), (10243, [2, 221, 2, 10, 0, 1352]), (10246, [9, 31, 1369])]
def lkT_9 : List (Nat × List Nat) := [(10248, [1, 10, 25, 1, 0, 1019]), (10251, [2, 224, 2, 10, 0, 1365, 1]), (10255, [9, 3361, 1364]), (10257, [2, 225, 2, 10, 0, 1370, 0]), (11265, [8, 1431655765, 377]), (11266, [8, 858993459, 378]), (11267, [8, 252645135, 379]), (14007, [2, 85, 2, 9, 0, 623, 0, 0]), (14008, [5, 9, 22, 23, 1]), (14013, [6, 0, 621]), (14015, [6, 1, 622]), (14017, [2, 90, 2, 9, 0, 724, 0, 0, 0, 0, 0, 0]), (14021, [6, 2, 723]), (14023, [2, 92, 2, 9, 0, 751, 0, 0]), (14026, [2, 97, 2, 9, 0, 771, 0, 0, 0]), (14030, [2, 99, 2, 9, 0, 778, 0, 0, 0]), (14033, [2, 101, 2, 9, 0, 785, 0, 0]), (14036, [2, 103, 2, 9, 0, 792, 0, 0]), (14039, [2, 106, 2, 9, 0, 803, 0, 0]), (14042, [2, 108, 2, 9, 0, 810, 0, 0]), (14045, [2, 110, 2, 9, 0, 818, 0, 0]), (14049, [2, 112, 2, 9, 0, 825, 0]), (14053, [2, 114, 2, 9, 0, 832, 0]), (14056, [2, 124, 2, 9, 0, 890, 0, 0]), (14059, [2, 126, 2, 9, 0, 897, 0, 0]), (14062, [2, 128, 2, 9, 0, 905, 0]), (14065, [2, 131, 2, 9, 0, 916, 0, 0, 0]), (14069, [2, 134, 2, 9, 0, 926, 0, 0]), (14072, [2, 137, 2, 9, 0, 937, 0, 0]), (14075, [2, 139, 2, 9, 0, 944, 0]), (14079, [2, 141, 2, 9, 0, 951, 0, 0]), (14082, [2, 143, 2, 9, 0, 959, 0, 0]), (14085, [2, 145, 2, 9, 0, 967, 0]), (14088, [2, 148, 2, 9, 0, 979]), (14092, [2, 0, 1, 9, 0, 24]), (14093, [5, 10, 988, 989, 11]), (14095, [2, 150, 1, 10, 0, 990]), (14096, [2, 84, 0, 14, 0, 618, 2, 0, 0, 2]), (14101, [2, 154, 2, 10, 0, 1085, 0, 0]), (14102, [2, 151, 2, 10, 0, 1073])]
def lkT_10 : List (Nat × List Nat) := [(14105, [2, 89, 0, 14, 0, 720, 2, 0, 0, 0, 0, 0, 0, 2]), (14108, [2, 158, 2, 10, 0, 1099, 0, 0, 0, 0, 0, 0]), (14109, [2, 91, 0, 14, 0, 748, 2, 0, 0, 2]), (14111, [2, 164, 2, 10, 0, 1119, 0, 0]), (14112, [2, 96, 0, 14, 0, 768, 2, 0, 0, 0, 2]), (14115, [2, 166, 2, 10, 0, 1127, 0, 0, 0]), (14116, [2, 10, 2, 9, 0, 299]), (14119, [2, 168, 2, 10, 0, 1135]), (14120, [2, 98, 0, 14, 0, 775, 2, 0, 0, 0, 2]), (14122, [2, 170, 2, 10, 0, 1143, 0, 0, 0]), (14123, [2, 100, 0, 14, 0, 782, 2, 0, 0, 2]), (14125, [2, 178, 2, 10, 0, 1174, 0, 0]), (14126, [2, 102, 0, 14, 0, 789, 2, 0, 0, 2]), (14128, [2, 181, 2, 10, 0, 1186, 0, 0]), (14129, [2, 105, 0, 14, 0, 800, 2, 0, 0, 2]), (14131, [2, 184, 2, 10, 0, 1197, 0, 0]), (14132, [2, 107, 0, 14, 0, 807, 2, 0, 0, 2]), (14134, [2, 185, 2, 10, 0, 1201, 0, 0]), (14135, [2, 109, 0, 14, 0, 815, 2, 0, 0, 2]), (14138, [2, 186, 2, 10, 0, 1206, 0, 0]), (14139, [2, 111, 0, 14, 0, 822, 2, 0, 2]), (14142, [2, 187, 2, 10, 0, 1210, 0]), (14143, [2, 113, 0, 14, 0, 829, 2, 0, 2]), (14145, [2, 190, 2, 10, 0, 1222, 0]), (14146, [2, 123, 0, 14, 0, 887, 2, 0, 0, 2]), (14148, [2, 196, 2, 10, 0, 1250, 0, 0]), (14149, [2, 125, 0, 14, 0, 894, 2, 0, 0, 2]), (14151, [2, 197, 2, 10, 0, 1254, 0, 0]), (14152, [2, 127, 0, 14, 0, 902, 2, 0, 2]), (14154, [2, 198, 2, 10, 0, 1258, 0]), (14155, [2, 130, 0, 14, 0, 913, 2, 0, 0, 0, 2]), (14158, [2, 199, 2, 10, 0, 1262, 0, 0, 0]), (14159, [2, 133, 0, 14, 0, 923, 2, 0, 0, 2]), (14161, [2, 200, 2, 10, 0, 1266, 0, 0]), (14162, [2, 136, 0, 14, 0, 934, 2, 0, 0, 2]), (14164, [2, 207, 2, 10, 0, 1295, 0, 0]), (14165, [2, 138, 0, 14, 0, 941, 2, 0, 2]), (14167, [2, 208, 2, 10, 0, 1299, 0]), (14168, [2, 31, 2, 9, 0, 383]), (14172, [2, 209, 2, 10, 0, 1303])]
def lkT_11 : List (Nat × List Nat) := [(14173, [2, 140, 0, 14, 0, 948, 2, 0, 0, 2]), (14175, [2, 210, 2, 10, 0, 1307, 0, 0]), (14176, [2, 142, 0, 14, 0, 956, 2, 0, 0, 2]), (14178, [2, 213, 2, 10, 0, 1319, 0, 0]), (14179, [2, 144, 0, 14, 0, 964, 2, 0, 2]), (14181, [2, 214, 2, 10, 0, 1324, 0]), (14182, [2, 35, 2, 9, 0, 402]), (14185, [2, 215, 2, 10, 0, 1328]), (14186, [2, 36, 2, 9, 0, 406]), (14189, [2, 216, 2, 10, 0, 1332]), (14190, [2, 147, 0, 14, 0, 976, 2, 2]), (14193, [2, 152, 2, 10, 0, 1077]), (14194, [2, 57, 2, 9, 0, 487]), (14198, [2, 223, 2, 10, 0, 1360])]
def lkT : List (Nat × List Nat) := lkT_0 ++ (lkT_1 ++ (lkT_2 ++ (lkT_3 ++ (lkT_4 ++ (lkT_5 ++ (lkT_6 ++ (lkT_7 ++ (lkT_8 ++ (lkT_9 ++ (lkT_10 ++ (lkT_11)))))))))))
end
section
def dec0 (pc : Nat) : Option (ClassFile.Instr × Nat × List Nat) := match pc with
  | 0 => some (.aload_n 0, 1, [])
  | 1 => some (.invokespecial 3, 3, [4, 27])
  | 4 => some (.aload_n 0, 1, [])
  | 5 => some (.new 9, 3, [5, 6, 30, 31, 2])
  | 8 => some (.dup, 1, [])
  | 9 => some (.invokespecial 11, 3, [2, 1, 1, 6, 1, 32])
  | 12 => some (.putfield 12, 3, [1, 9, 0, 2, 0, 271])
  | 15 => some (.aload_n 0, 1, [])
  | 16 => some (.new 9, 3, [5, 6, 30, 31, 2])
  | 19 => some (.dup, 1, [])
  | 20 => some (.invokespecial 11, 3, [2, 1, 1, 6, 1, 32])
  | 23 => some (.putfield 16, 3, [1, 9, 1, 2, 0, 272])
  | 26 => some (.aload_n 0, 1, [])
  | 27 => some (.new 19, 3, [5, 5, 157, 158, 6])
  | 30 => some (.dup, 1, [])
  | 31 => some (.invokespecial 21, 3, [2, 5, 1, 5, 0, 159])
  | 34 => some (.putfield 22, 3, [1, 9, 2, 2, 0, 273])
  | 37 => some (.aload_n 0, 1, [])
  | 38 => some (.new 26, 3, [5, 8, 177, 178, 7])
  | 41 => some (.dup, 1, [])
  | 42 => some (.invokespecial 28, 3, [2, 6, 1, 8, 1, 179])
  | 45 => some (.putfield 29, 3, [1, 9, 3, 2, 0, 274])
  | 48 => some (.aload_n 0, 1, [])
  | 49 => some (.new 33, 3, [5, 7, 198, 37, 3])
  | 52 => some (.dup, 1, [])
  | 53 => some (.invokespecial 35, 3, [2, 2, 1, 7, 1, 199])
  | 56 => some (.putfield 36, 3, [1, 9, 4, 2, 0, 275])
  | 59 => some (.aload_n 0, 1, [])
  | 60 => some (.new 40, 3, [5, 4, 200, 201, 8])
  | 63 => some (.dup, 1, [])
  | 64 => some (.invokespecial 42, 3, [2, 7, 1, 4, 1, 202])
  | 67 => some (.putfield 43, 3, [1, 9, 5, 2, 0, 276])
  | 70 => some (.aload_n 0, 1, [])
  | 71 => some (.new 47, 3, [5, 1, 237, 207, 9])
  | 74 => some (.dup, 1, [])
  | 75 => some (.invokespecial 49, 3, [2, 8, 1, 1, 1, 238])
  | 78 => some (.putfield 50, 3, [1, 9, 6, 2, 0, 277])
  | 81 => some (.aload_n 0, 1, [])
  | 82 => some (.new 54, 3, [5, 0, 239, 240, 10])
  | 85 => some (.dup, 1, [])
  | 86 => some (.invokespecial 56, 3, [2, 9, 1, 0, 1, 241])
  | 89 => some (.putfield 57, 3, [1, 9, 7, 2, 0, 278])
  | 92 => some (.aload_n 0, 1, [])
  | 93 => some (.new 54, 3, [5, 0, 239, 240, 10])
  | 96 => some (.dup, 1, [])
  | 97 => some (.invokespecial 56, 3, [2, 9, 1, 0, 1, 241])
  | 100 => some (.putfield 61, 3, [1, 9, 8, 2, 0, 279])
  | 103 => some (.return_, 1, [])
  | _ => none
def dec1 (pc : Nat) : Option (ClassFile.Instr × Nat × List Nat) := match pc with
  | 0 => some (.aload_n 0, 1, [])
  | 1 => some (.invokespecial 3, 3, [4, 35])
  | 4 => some (.aload_n 0, 1, [])
  | 5 => some (.new 9, 3, [5, 7, 36, 37, 3])
  | 8 => some (.dup, 1, [])
  | 9 => some (.invokespecial 11, 3, [2, 2, 1, 7, 1, 38])
  | 12 => some (.putfield 12, 3, [1, 6, 0, 2, 0, 138])
  | 15 => some (.aload_n 0, 1, [])
  | 16 => some (.new 18, 3, [5, 3, 86, 87, 4])
  | 19 => some (.dup, 1, [])
  | 20 => some (.invokespecial 20, 3, [2, 3, 1, 3, 1, 88])
  | 23 => some (.putfield 21, 3, [1, 6, 1, 2, 0, 143])
  | 26 => some (.aload_n 0, 1, [])
  | 27 => some (.new 25, 3, [5, 2, 109, 110, 5])
  | 30 => some (.dup, 1, [])
  | 31 => some (.invokespecial 27, 3, [2, 4, 1, 2, 1, 111])
  | 34 => some (.putfield 28, 3, [1, 6, 2, 2, 0, 147])
  | 37 => some (.return_, 1, [])
  | _ => none
def dec2 (pc : Nat) : Option (ClassFile.Instr × Nat × List Nat) := match pc with
  | 0 => some (.aload_n 0, 1, [])
  | 1 => some (.invokespecial 3, 3, [4, 41])
  | 4 => some (.aload_n 0, 1, [])
  | 5 => some (.iconst 3, 1, [3])
  | 6 => some (.newarray .int, 2, [])
  | 8 => some (.dup, 1, [])
  | 9 => some (.iconst 0, 1, [0])
  | 10 => some (.iconst 1, 1, [1])
  | 11 => some (.iastore, 1, [])
  | 12 => some (.dup, 1, [])
  | 13 => some (.iconst 1, 1, [1])
  | 14 => some (.iconst 1, 1, [1])
  | 15 => some (.iastore, 1, [])
  | 16 => some (.dup, 1, [])
  | 17 => some (.iconst 2, 1, [2])
  | 18 => some (.iconst 1, 1, [1])
  | 19 => some (.iastore, 1, [])
  | 20 => some (.putfield 9, 3, [1, 7, 0, 2, 0, 42])
  | 23 => some (.aload_n 0, 1, [])
  | 24 => some (.iconst 3, 1, [3])
  | 25 => some (.newarray .int, 2, [])
  | 27 => some (.putfield 15, 3, [1, 7, 1, 2, 0, 47])
  | 30 => some (.aload_n 0, 1, [])
  | 31 => some (.bipush 18, 2, [18])
  | 33 => some (.newarray .int, 2, [])
  | 35 => some (.putfield 18, 3, [1, 7, 2, 2, 0, 48])
  | 38 => some (.aload_n 0, 1, [])
  | 39 => some (.bipush 18, 2, [18])
  | 41 => some (.newarray .int, 2, [])
  | 43 => some (.putfield 21, 3, [1, 7, 3, 2, 0, 53])
  | 46 => some (.aload_n 0, 1, [])
  | 47 => some (.bipush 18, 2, [18])
  | 49 => some (.newarray .int, 2, [])
  | 51 => some (.putfield 24, 3, [1, 7, 4, 2, 0, 56])
  | 54 => some (.aload_n 0, 1, [])
  | 55 => some (.bipush 18, 2, [18])
  | 57 => some (.newarray .int, 2, [])
  | 59 => some (.putfield 27, 3, [1, 7, 5, 2, 0, 62])
  | 62 => some (.aload_n 0, 1, [])
  | 63 => some (.bipush 18, 2, [18])
  | 65 => some (.newarray .int, 2, [])
  | 67 => some (.putfield 30, 3, [1, 7, 6, 2, 0, 64])
  | 70 => some (.aload_n 0, 1, [])
  | 71 => some (.bipush 18, 2, [18])
  | 73 => some (.newarray .int, 2, [])
  | 75 => some (.putfield 33, 3, [1, 7, 7, 2, 0, 66])
  | 78 => some (.return_, 1, [])
  | _ => none
def dec3 (pc : Nat) : Option (ClassFile.Instr × Nat × List Nat) := match pc with
  | 0 => some (.aload_n 0, 1, [])
  | 1 => some (.invokespecial 3, 3, [4, 91])
  | 4 => some (.aload_n 0, 1, [])
  | 5 => some (.iconst 4, 1, [4])
  | 6 => some (.newarray .int, 2, [])
  | 8 => some (.putfield 9, 3, [1, 3, 0, 2, 0, 92])
  | 11 => some (.aload_n 0, 1, [])
  | 12 => some (.iconst 4, 1, [4])
  | 13 => some (.newarray .int, 2, [])
  | 15 => some (.putfield 15, 3, [1, 3, 1, 2, 0, 94])
  | 18 => some (.aload_n 0, 1, [])
  | 19 => some (.iconst 1, 1, [1])
  | 20 => some (.putfield 18, 3, [1, 3, 3, 0, 0, 98])
  | 23 => some (.return_, 1, [])
  | _ => none
def dec4 (pc : Nat) : Option (ClassFile.Instr × Nat × List Nat) := match pc with
  | 0 => some (.aload_n 0, 1, [])
  | 1 => some (.invokespecial 3, 3, [4, 114])
  | 4 => some (.aload_n 0, 1, [])
  | 5 => some (.bipush 16, 2, [16])
  | 7 => some (.newarray .int, 2, [])
  | 9 => some (.putfield 9, 3, [1, 2, 0, 2, 0, 115])
  | 12 => some (.aload_n 0, 1, [])
  | 13 => some (.bipush 20, 2, [20])
  | 15 => some (.newarray .int, 2, [])
  | 17 => some (.putfield 15, 3, [1, 2, 1, 2, 0, 117])
  | 20 => some (.aload_n 0, 1, [])
  | 21 => some (.bipush 20, 2, [20])
  | 23 => some (.newarray .int, 2, [])
  | 25 => some (.putfield 18, 3, [1, 2, 2, 2, 0, 118])
  | 28 => some (.aload_n 0, 1, [])
  | 29 => some (.bipush 20, 2, [20])
  | 31 => some (.newarray .int, 2, [])
  | 33 => some (.putfield 21, 3, [1, 2, 3, 2, 0, 119])
  | 36 => some (.return_, 1, [])
  | _ => none
def dec5 (pc : Nat) : Option (ClassFile.Instr × Nat × List Nat) := match pc with
  | 0 => some (.aload_n 0, 1, [])
  | 1 => some (.invokespecial 3, 3, [4, 162])
  | 4 => some (.aload_n 0, 1, [])
  | 5 => some (.iconst 4, 1, [4])
  | 6 => some (.anewarray 9, 3, [7, 163, 31])
  | 9 => some (.putfield 11, 3, [1, 5, 0, 2, 0, 166])
  | 12 => some (.iconst 0, 1, [0])
  | 13 => some (.istore_n 1, 1, [])
  | 14 => some (.iload_n 1, 1, [])
  | 15 => some (.aload_n 0, 1, [])
  | 16 => some (.getfield 11, 3, [1, 5, 0, 2, 0, 166])
  | 19 => some (.arraylength, 1, [])
  | 20 => some (.if_icmp .ge 22, 3, [42])
  | 23 => some (.aload_n 0, 1, [])
  | 24 => some (.getfield 11, 3, [1, 5, 0, 2, 0, 166])
  | 27 => some (.iload_n 1, 1, [])
  | 28 => some (.new 9, 3, [])
  | 31 => some (.dup, 1, [])
  | 32 => some (.invokespecial 17, 3, [2, 1, 1, 6, 1, 165])
  | 35 => some (.aastore, 1, [])
  | 36 => some (.iinc 1 1, 3, [1])
  | 39 => some (.goto (-25), 3, [14])
  | 42 => some (.return_, 1, [])
  | _ => none
def dec6 (pc : Nat) : Option (ClassFile.Instr × Nat × List Nat) := match pc with
  | 0 => some (.aload_n 0, 1, [])
  | 1 => some (.invokespecial 3, 3, [4, 182])
  | 4 => some (.aload_n 0, 1, [])
  | 5 => some (.sipush 160, 3, [160])
  | 8 => some (.newarray .byte, 2, [])
  | 10 => some (.putfield 9, 3, [1, 8, 0, 2, 0, 183])
  | 13 => some (.return_, 1, [])
  | _ => none
def dec7 (pc : Nat) : Option (ClassFile.Instr × Nat × List Nat) := match pc with
  | 0 => some (.aload_n 0, 1, [])
  | 1 => some (.invokespecial 3, 3, [4, 205])
  | 4 => some (.aload_n 0, 1, [])
  | 5 => some (.new 9, 3, [5, 1, 206, 207, 9])
  | 8 => some (.dup, 1, [])
  | 9 => some (.invokespecial 11, 3, [2, 8, 1, 1, 1, 208])
  | 12 => some (.putfield 12, 3, [1, 4, 0, 2, 0, 224])
  | 15 => some (.return_, 1, [])
  | _ => none
def dec8 (pc : Nat) : Option (ClassFile.Instr × Nat × List Nat) := match pc with
  | 0 => some (.aload_n 0, 1, [])
  | 1 => some (.invokespecial 3, 3, [4, 211])
  | 4 => some (.aload_n 0, 1, [])
  | 5 => some (.bipush 18, 2, [18])
  | 7 => some (.newarray .int, 2, [])
  | 9 => some (.putfield 9, 3, [1, 1, 0, 2, 0, 212])
  | 12 => some (.aload_n 0, 1, [])
  | 13 => some (.iconst 3, 1, [3])
  | 14 => some (.newarray .int, 2, [])
  | 16 => some (.putfield 15, 3, [1, 1, 1, 2, 0, 214])
  | 19 => some (.return_, 1, [])
  | _ => none
def dec9 (pc : Nat) : Option (ClassFile.Instr × Nat × List Nat) := match pc with
  | 0 => some (.aload_n 0, 1, [])
  | 1 => some (.invokespecial 3, 3, [4, 244])
  | 4 => some (.aload_n 0, 1, [])
  | 5 => some (.new 9, 3, [5, 1, 245, 207, 9])
  | 8 => some (.dup, 1, [])
  | 9 => some (.invokespecial 11, 3, [2, 8, 1, 1, 1, 246])
  | 12 => some (.putfield 12, 3, [1, 0, 0, 2, 0, 247])
  | 15 => some (.aload_n 0, 1, [])
  | 16 => some (.new 9, 3, [5, 1, 245, 207, 9])
  | 19 => some (.dup, 1, [])
  | 20 => some (.invokespecial 11, 3, [2, 8, 1, 1, 1, 246])
  | 23 => some (.putfield 18, 3, [1, 0, 1, 2, 0, 248])
  | 26 => some (.aload_n 0, 1, [])
  | 27 => some (.iconst 2, 1, [2])
  | 28 => some (.newarray .int, 2, [])
  | 30 => some (.putfield 21, 3, [1, 0, 2, 2, 0, 249])
  | 33 => some (.aload_n 0, 1, [])
  | 34 => some (.bipush 16, 2, [16])
  | 36 => some (.newarray .long, 2, [])
  | 38 => some (.putfield 25, 3, [1, 0, 3, 2, 0, 250])
  | 41 => some (.aload_n 0, 1, [])
  | 42 => some (.iconst 4, 1, [4])
  | 43 => some (.newarray .long, 2, [])
  | 45 => some (.putfield 29, 3, [1, 0, 4, 2, 0, 251])
  | 48 => some (.aload_n 0, 1, [])
  | 49 => some (.iconst (-1), 1, [4294967295])
  | 50 => some (.putfield 32, 3, [1, 0, 6, 0, 0, 254])
  | 53 => some (.return_, 1, [])
  | _ => none
def dec10 (pc : Nat) : Option (ClassFile.Instr × Nat × List Nat) := match pc with
  | 0 => some (.aload_n 0, 1, [])
  | 1 => some (.invokevirtual 72, 3, [2, 11, 2, 9, 0, 303])
  | 4 => some (.aload_n 0, 1, [])
  | 5 => some (.getfield 12, 3, [1, 9, 0, 2, 0, 271])
  | 8 => some (.getfield 75, 3, [1, 6, 0, 2, 1, 140])
  | 11 => some (.invokevirtual 127, 3, [2, 22, 2, 7, 0, 349])
  | 14 => some (.ireturn, 1, [0])
  | _ => none
def dec11 (pc : Nat) : Option (ClassFile.Instr × Nat × List Nat) := match pc with
  | 0 => some (.aload_n 0, 1, [])
  | 1 => some (.getfield 22, 3, [1, 9, 2, 2, 0, 273])
  | 4 => some (.aload_n 0, 1, [])
  | 5 => some (.getfield 12, 3, [1, 9, 0, 2, 0, 271])
  | 8 => some (.invokevirtual 292, 3, [2, 12, 2, 5, 0, 307, 2])
  | 11 => some (.aload_n 0, 1, [])
  | 12 => some (.getfield 57, 3, [1, 9, 7, 2, 0, 278])
  | 15 => some (.invokevirtual 237, 3, [2, 21, 2, 0, 0, 345])
  | 18 => some (.return_, 1, [])
  | _ => none
def dec12 (pc : Nat) : Option (ClassFile.Instr × Nat × List Nat) := match pc with
  | 0 => some (.aload_n 0, 1, [])
  | 1 => some (.aload_n 0, 1, [])
  | 2 => some (.getfield 18, 3, [1, 5, 2, 0, 0, 168])
  | 5 => some (.invokevirtual 22, 3, [2, 13, 2, 5, 0, 311, 0])
  | 8 => some (.astore_n 2, 1, [])
  | 9 => some (.aload_n 2, 1, [])
  | 10 => some (.ifnull 8, 3, [18])
  | 13 => some (.aload_n 2, 1, [])
  | 14 => some (.aload_n 1, 1, [])
  | 15 => some (.invokevirtual 26, 3, [2, 15, 2, 6, 0, 318, 2])
  | 18 => some (.aload_n 0, 1, [])
  | 19 => some (.getfield 18, 3, [1, 5, 2, 0, 0, 168])
  | 22 => some (.iconst 4, 1, [4])
  | 23 => some (.if_icmp .ge 16, 3, [39])
  | 26 => some (.aload_n 0, 1, [])
  | 27 => some (.dup, 1, [])
  | 28 => some (.getfield 18, 3, [1, 5, 2, 0, 0, 168])
  | 31 => some (.iconst 1, 1, [1])
  | 32 => some (.iadd, 1, [])
  | 33 => some (.putfield 18, 3, [1, 5, 2, 0, 0, 168])
  | 36 => some (.goto 15, 3, [51])
  | 39 => some (.aload_n 0, 1, [])
  | 40 => some (.aload_n 0, 1, [])
  | 41 => some (.getfield 30, 3, [1, 5, 1, 0, 0, 167])
  | 44 => some (.iconst 1, 1, [1])
  | 45 => some (.iadd, 1, [])
  | 46 => some (.iconst 4, 1, [4])
  | 47 => some (.irem, 1, [])
  | 48 => some (.putfield 30, 3, [1, 5, 1, 0, 0, 167])
  | 51 => some (.return_, 1, [])
  | _ => none
def dec13 (pc : Nat) : Option (ClassFile.Instr × Nat × List Nat) := match pc with
  | 0 => some (.aload_n 0, 1, [])
  | 1 => some (.getfield 30, 3, [1, 5, 1, 0, 0, 167])
  | 4 => some (.iload_n 1, 1, [])
  | 5 => some (.iadd, 1, [])
  | 6 => some (.iconst 4, 1, [4])
  | 7 => some (.invokestatic 33, 3, [2, 14, 0, 12, 0, 315, 0, 0])
  | 10 => some (.istore_n 2, 1, [])
  | 11 => some (.iload_n 2, 1, [])
  | 12 => some (.ifCond .lt 21, 3, [33])
  | 15 => some (.iload_n 2, 1, [])
  | 16 => some (.aload_n 0, 1, [])
  | 17 => some (.getfield 11, 3, [1, 5, 0, 2, 0, 166])
  | 20 => some (.arraylength, 1, [])
  | 21 => some (.if_icmp .ge 12, 3, [33])
  | 24 => some (.aload_n 0, 1, [])
  | 25 => some (.getfield 11, 3, [1, 5, 0, 2, 0, 166])
  | 28 => some (.iload_n 2, 1, [])
  | 29 => some (.aaload, 1, [])
  | 30 => some (.goto 4, 3, [34])
  | 33 => some (.aconst_null, 1, [])
  | 34 => some (.areturn, 1, [])
  | _ => none
def dec14 (pc : Nat) : Option (ClassFile.Instr × Nat × List Nat) := match pc with
  | 0 => some (.iload_n 0, 1, [])
  | 1 => some (.iload_n 1, 1, [])
  | 2 => some (.irem, 1, [])
  | 3 => some (.istore_n 2, 1, [])
  | 4 => some (.iload_n 0, 1, [])
  | 5 => some (.iload_n 1, 1, [])
  | 6 => some (.ixor, 1, [])
  | 7 => some (.ifCond .ge 11, 3, [18])
  | 10 => some (.iload_n 2, 1, [])
  | 11 => some (.ifCond .eq 7, 3, [18])
  | 14 => some (.iload_n 2, 1, [])
  | 15 => some (.iload_n 1, 1, [])
  | 16 => some (.iadd, 1, [])
  | 17 => some (.ireturn, 1, [0])
  | 18 => some (.iload_n 2, 1, [])
  | 19 => some (.ireturn, 1, [0])
  | _ => none
def dec15 (pc : Nat) : Option (ClassFile.Instr × Nat × List Nat) := match pc with
  | 0 => some (.aload_n 0, 1, [])
  | 1 => some (.getfield 12, 3, [1, 6, 0, 2, 0, 138])
  | 4 => some (.aload_n 1, 1, [])
  | 5 => some (.getfield 12, 3, [1, 6, 0, 2, 0, 138])
  | 8 => some (.invokevirtual 32, 3, [2, 16, 2, 7, 0, 322, 2])
  | 11 => some (.aload_n 0, 1, [])
  | 12 => some (.getfield 21, 3, [1, 6, 1, 2, 0, 143])
  | 15 => some (.aload_n 1, 1, [])
  | 16 => some (.getfield 21, 3, [1, 6, 1, 2, 0, 143])
  | 19 => some (.invokevirtual 36, 3, [2, 19, 2, 3, 0, 335, 2])
  | 22 => some (.aload_n 0, 1, [])
  | 23 => some (.getfield 28, 3, [1, 6, 2, 2, 0, 147])
  | 26 => some (.aload_n 1, 1, [])
  | 27 => some (.getfield 28, 3, [1, 6, 2, 2, 0, 147])
  | 30 => some (.invokevirtual 39, 3, [2, 20, 2, 2, 0, 340, 2])
  | 33 => some (.return_, 1, [])
  | _ => none
def dec16 (pc : Nat) : Option (ClassFile.Instr × Nat × List Nat) := match pc with
  | 0 => some (.aload_n 1, 1, [])
  | 1 => some (.getfield 9, 3, [1, 7, 0, 2, 0, 42])
  | 4 => some (.aload_n 0, 1, [])
  | 5 => some (.getfield 9, 3, [1, 7, 0, 2, 0, 42])
  | 8 => some (.invokestatic 42, 3, [2, 17, 0, 9, 1, 326, 2, 2])
  | 11 => some (.aload_n 1, 1, [])
  | 12 => some (.getfield 15, 3, [1, 7, 1, 2, 0, 47])
  | 15 => some (.aload_n 0, 1, [])
  | 16 => some (.getfield 15, 3, [1, 7, 1, 2, 0, 47])
  | 19 => some (.invokestatic 42, 3, [2, 17, 0, 9, 1, 326, 2, 2])
  | 22 => some (.aload_n 1, 1, [])
  | 23 => some (.getfield 18, 3, [1, 7, 2, 2, 0, 48])
  | 26 => some (.aload_n 0, 1, [])
  | 27 => some (.getfield 18, 3, [1, 7, 2, 2, 0, 48])
  | 30 => some (.invokestatic 42, 3, [2, 17, 0, 9, 1, 326, 2, 2])
  | 33 => some (.aload_n 1, 1, [])
  | 34 => some (.getfield 21, 3, [1, 7, 3, 2, 0, 53])
  | 37 => some (.aload_n 0, 1, [])
  | 38 => some (.getfield 21, 3, [1, 7, 3, 2, 0, 53])
  | 41 => some (.invokestatic 42, 3, [2, 17, 0, 9, 1, 326, 2, 2])
  | 44 => some (.aload_n 1, 1, [])
  | 45 => some (.getfield 24, 3, [1, 7, 4, 2, 0, 56])
  | 48 => some (.aload_n 0, 1, [])
  | 49 => some (.getfield 24, 3, [1, 7, 4, 2, 0, 56])
  | 52 => some (.invokestatic 42, 3, [2, 17, 0, 9, 1, 326, 2, 2])
  | 55 => some (.aload_n 1, 1, [])
  | 56 => some (.getfield 27, 3, [1, 7, 5, 2, 0, 62])
  | 59 => some (.aload_n 0, 1, [])
  | 60 => some (.getfield 27, 3, [1, 7, 5, 2, 0, 62])
  | 63 => some (.invokestatic 42, 3, [2, 17, 0, 9, 1, 326, 2, 2])
  | 66 => some (.aload_n 1, 1, [])
  | 67 => some (.getfield 30, 3, [1, 7, 6, 2, 0, 64])
  | 70 => some (.aload_n 0, 1, [])
  | 71 => some (.getfield 30, 3, [1, 7, 6, 2, 0, 64])
  | 74 => some (.invokestatic 42, 3, [2, 17, 0, 9, 1, 326, 2, 2])
  | 77 => some (.aload_n 1, 1, [])
  | 78 => some (.getfield 33, 3, [1, 7, 7, 2, 0, 66])
  | 81 => some (.aload_n 0, 1, [])
  | 82 => some (.getfield 33, 3, [1, 7, 7, 2, 0, 66])
  | 85 => some (.invokestatic 42, 3, [2, 17, 0, 9, 1, 326, 2, 2])
  | 88 => some (.return_, 1, [])
  | _ => none
def dec17 (pc : Nat) : Option (ClassFile.Instr × Nat × List Nat) := match pc with
  | 0 => some (.aload_n 0, 1, [])
  | 1 => some (.iconst 0, 1, [0])
  | 2 => some (.aload_n 1, 1, [])
  | 3 => some (.iconst 0, 1, [0])
  | 4 => some (.aload_n 0, 1, [])
  | 5 => some (.arraylength, 1, [])
  | 6 => some (.aload_n 1, 1, [])
  | 7 => some (.arraylength, 1, [])
  | 8 => some (.invokestatic 228, 3, [10, 329])
  | 11 => some (.invokestatic 341, 3, [3, 332])
  | 14 => some (.return_, 1, [])
  | _ => none
def dec18 (pc : Nat) : Option (ClassFile.Instr × Nat × List Nat) := match pc with
  | 0 => some (.iload_n 0, 1, [])
  | 1 => some (.iload_n 1, 1, [])
  | 2 => some (.if_icmp .gt 7, 3, [9])
  | 5 => some (.iload_n 0, 1, [])
  | 6 => some (.goto 4, 3, [10])
  | 9 => some (.iload_n 1, 1, [])
  | 10 => some (.ireturn, 1, [0])
  | _ => none
def dec19 (pc : Nat) : Option (ClassFile.Instr × Nat × List Nat) := match pc with
  | 0 => some (.aload_n 1, 1, [])
  | 1 => some (.getfield 9, 3, [1, 3, 0, 2, 0, 92])
  | 4 => some (.aload_n 0, 1, [])
  | 5 => some (.getfield 9, 3, [1, 3, 0, 2, 0, 92])
  | 8 => some (.invokestatic 22, 3, [2, 17, 0, 9, 1, 339, 2, 2])
  | 11 => some (.aload_n 1, 1, [])
  | 12 => some (.getfield 15, 3, [1, 3, 1, 2, 0, 94])
  | 15 => some (.aload_n 0, 1, [])
  | 16 => some (.getfield 15, 3, [1, 3, 1, 2, 0, 94])
  | 19 => some (.invokestatic 22, 3, [2, 17, 0, 9, 1, 339, 2, 2])
  | 22 => some (.aload_n 0, 1, [])
  | 23 => some (.aload_n 1, 1, [])
  | 24 => some (.getfield 26, 3, [1, 3, 2, 0, 0, 96])
  | 27 => some (.putfield 26, 3, [1, 3, 2, 0, 0, 96])
  | 30 => some (.aload_n 0, 1, [])
  | 31 => some (.aload_n 1, 1, [])
  | 32 => some (.getfield 18, 3, [1, 3, 3, 0, 0, 98])
  | 35 => some (.putfield 18, 3, [1, 3, 3, 0, 0, 98])
  | 38 => some (.return_, 1, [])
  | _ => none
def dec20 (pc : Nat) : Option (ClassFile.Instr × Nat × List Nat) := match pc with
  | 0 => some (.aload_n 1, 1, [])
  | 1 => some (.getfield 9, 3, [1, 2, 0, 2, 0, 115])
  | 4 => some (.aload_n 0, 1, [])
  | 5 => some (.getfield 9, 3, [1, 2, 0, 2, 0, 115])
  | 8 => some (.invokestatic 24, 3, [2, 17, 0, 9, 1, 344, 2, 2])
  | 11 => some (.aload_n 1, 1, [])
  | 12 => some (.getfield 15, 3, [1, 2, 1, 2, 0, 117])
  | 15 => some (.aload_n 0, 1, [])
  | 16 => some (.getfield 15, 3, [1, 2, 1, 2, 0, 117])
  | 19 => some (.invokestatic 24, 3, [2, 17, 0, 9, 1, 344, 2, 2])
  | 22 => some (.aload_n 1, 1, [])
  | 23 => some (.getfield 18, 3, [1, 2, 2, 2, 0, 118])
  | 26 => some (.aload_n 0, 1, [])
  | 27 => some (.getfield 18, 3, [1, 2, 2, 2, 0, 118])
  | 30 => some (.invokestatic 24, 3, [2, 17, 0, 9, 1, 344, 2, 2])
  | 33 => some (.aload_n 1, 1, [])
  | 34 => some (.getfield 21, 3, [1, 2, 3, 2, 0, 119])
  | 37 => some (.aload_n 0, 1, [])
  | 38 => some (.getfield 21, 3, [1, 2, 3, 2, 0, 119])
  | 41 => some (.invokestatic 24, 3, [2, 17, 0, 9, 1, 344, 2, 2])
  | 44 => some (.aload_n 0, 1, [])
  | 45 => some (.aload_n 1, 1, [])
  | 46 => some (.getfield 28, 3, [1, 2, 4, 0, 0, 121])
  | 49 => some (.putfield 28, 3, [1, 2, 4, 0, 0, 121])
  | 52 => some (.aload_n 0, 1, [])
  | 53 => some (.aload_n 1, 1, [])
  | 54 => some (.getfield 32, 3, [1, 2, 5, 0, 0, 123])
  | 57 => some (.putfield 32, 3, [1, 2, 5, 0, 0, 123])
  | 60 => some (.return_, 1, [])
  | _ => none
def dec21 (pc : Nat) : Option (ClassFile.Instr × Nat × List Nat) := match pc with
  | 0 => some (.aload_n 0, 1, [])
  | 1 => some (.iconst (-1), 1, [4294967295])
  | 2 => some (.putfield 32, 3, [1, 0, 6, 0, 0, 254])
  | 5 => some (.return_, 1, [])
  | _ => none
def dec22 (pc : Nat) : Option (ClassFile.Instr × Nat × List Nat) := match pc with
  | 0 => some (.aload_n 0, 1, [])
  | 1 => some (.invokevirtual 78, 3, [2, 23, 2, 7, 0, 353])
  | 4 => some (.istore_n 1, 1, [])
  | 5 => some (.aload_n 0, 1, [])
  | 6 => some (.getfield 33, 3, [1, 7, 7, 2, 0, 66])
  | 9 => some (.iconst 0, 1, [0])
  | 10 => some (.invokestatic 36, 3, [2, 30, 0, 13, 0, 380, 0, 2])
  | 13 => some (.iload_n 1, 1, [])
  | 14 => some (.ireturn, 1, [0])
  | _ => none
def dec23 (pc : Nat) : Option (ClassFile.Instr × Nat × List Nat) := match pc with
  | 0 => some (.aload_n 0, 1, [])
  | 1 => some (.invokevirtual 66, 3, [2, 24, 2, 7, 0, 357])
  | 4 => some (.invokestatic 70, 3, [2, 29, 0, 11, 0, 374, 0])
  | 7 => some (.ireturn, 1, [0])
  | _ => none
def dec24 (pc : Nat) : Option (ClassFile.Instr × Nat × List Nat) := match pc with
  | 0 => some (.iconst 0, 1, [0])
  | 1 => some (.istore_n 1, 1, [])
  | 2 => some (.iconst 0, 1, [0])
  | 3 => some (.istore_n 2, 1, [])
  | 4 => some (.iload_n 2, 1, [])
  | 5 => some (.iconst 3, 1, [3])
  | 6 => some (.if_icmp .ge 53, 3, [59])
  | 9 => some (.iconst 0, 1, [0])
  | 10 => some (.istore_n 3, 1, [])
  | 11 => some (.iload_n 3, 1, [])
  | 12 => some (.aload_n 0, 1, [])
  | 13 => some (.iload_n 2, 1, [])
  | 14 => some (.invokevirtual 50, 3, [2, 25, 2, 7, 0, 361, 0])
  | 17 => some (.if_icmp .ge 36, 3, [53])
  | 20 => some (.iload_n 2, 1, [])
  | 21 => some (.iload_n 3, 1, [])
  | 22 => some (.invokestatic 54, 3, [2, 27, 0, 9, 1, 368, 0, 0])
  | 25 => some (.istore 4, 2, [])
  | 27 => some (.aload_n 0, 1, [])
  | 28 => some (.getfield 33, 3, [1, 7, 7, 2, 0, 66])
  | 31 => some (.iload 4, 2, [])
  | 33 => some (.invokestatic 46, 3, [2, 26, 0, 9, 1, 365, 0, 2])
  | 36 => some (.ifCond .eq 11, 3, [47])
  | 39 => some (.iload_n 1, 1, [])
  | 40 => some (.iload 4, 2, [])
  | 42 => some (.invokestatic 75, 3, [2, 28, 0, 9, 1, 371, 0])
  | 45 => some (.ior, 1, [])
  | 46 => some (.istore_n 1, 1, [])
  | 47 => some (.iinc 3 1, 3, [1])
  | 50 => some (.goto (-39), 3, [11])
  | 53 => some (.iinc 2 1, 3, [1])
  | 56 => some (.goto (-52), 3, [4])
  | 59 => some (.iload_n 1, 1, [])
  | 60 => some (.ireturn, 1, [0])
  | _ => none
def dec25 (pc : Nat) : Option (ClassFile.Instr × Nat × List Nat) := match pc with
  | 0 => some (.aload_n 0, 1, [])
  | 1 => some (.getfield 15, 3, [1, 7, 1, 2, 0, 47])
  | 4 => some (.iload_n 1, 1, [])
  | 5 => some (.invokestatic 46, 3, [2, 26, 0, 9, 1, 365, 0, 2])
  | 8 => some (.ireturn, 1, [0])
  | _ => none
def dec26 (pc : Nat) : Option (ClassFile.Instr × Nat × List Nat) := match pc with
  | 0 => some (.iload_n 1, 1, [])
  | 1 => some (.ifCond .lt 15, 3, [16])
  | 4 => some (.iload_n 1, 1, [])
  | 5 => some (.aload_n 0, 1, [])
  | 6 => some (.arraylength, 1, [])
  | 7 => some (.if_icmp .ge 9, 3, [16])
  | 10 => some (.aload_n 0, 1, [])
  | 11 => some (.iload_n 1, 1, [])
  | 12 => some (.iaload, 1, [])
  | 13 => some (.goto 4, 3, [17])
  | 16 => some (.iconst 0, 1, [0])
  | 17 => some (.ireturn, 1, [0])
  | _ => none
def dec27 (pc : Nat) : Option (ClassFile.Instr × Nat × List Nat) := match pc with
  | 0 => some (.iload_n 0, 1, [])
  | 1 => some (.bipush 6, 2, [6])
  | 3 => some (.imul, 1, [])
  | 4 => some (.iload_n 1, 1, [])
  | 5 => some (.iadd, 1, [])
  | 6 => some (.ireturn, 1, [0])
  | _ => none
def dec28 (pc : Nat) : Option (ClassFile.Instr × Nat × List Nat) := match pc with
  | 0 => some (.iconst 1, 1, [1])
  | 1 => some (.iload_n 0, 1, [])
  | 2 => some (.ishl, 1, [])
  | 3 => some (.ireturn, 1, [0])
  | _ => none
def dec29 (pc : Nat) : Option (ClassFile.Instr × Nat × List Nat) := match pc with
  | 0 => some (.iload_n 0, 1, [])
  | 1 => some (.iload_n 0, 1, [])
  | 2 => some (.iconst 1, 1, [1])
  | 3 => some (.iushr, 1, [])
  | 4 => some (.ldc_w 265, 3, [8, 1431655765, 377])
  | 7 => some (.iand, 1, [])
  | 8 => some (.isub, 1, [])
  | 9 => some (.istore_n 0, 1, [])
  | 10 => some (.iload_n 0, 1, [])
  | 11 => some (.ldc_w 266, 3, [8, 858993459, 378])
  | 14 => some (.iand, 1, [])
  | 15 => some (.iload_n 0, 1, [])
  | 16 => some (.iconst 2, 1, [2])
  | 17 => some (.iushr, 1, [])
  | 18 => some (.ldc_w 266, 3, [8, 858993459, 378])
  | 21 => some (.iand, 1, [])
  | 22 => some (.iadd, 1, [])
  | 23 => some (.istore_n 0, 1, [])
  | 24 => some (.iload_n 0, 1, [])
  | 25 => some (.iload_n 0, 1, [])
  | 26 => some (.iconst 4, 1, [4])
  | 27 => some (.iushr, 1, [])
  | 28 => some (.iadd, 1, [])
  | 29 => some (.ldc_w 267, 3, [8, 252645135, 379])
  | 32 => some (.iand, 1, [])
  | 33 => some (.istore_n 0, 1, [])
  | 34 => some (.iload_n 0, 1, [])
  | 35 => some (.iload_n 0, 1, [])
  | 36 => some (.bipush 8, 2, [8])
  | 38 => some (.iushr, 1, [])
  | 39 => some (.iadd, 1, [])
  | 40 => some (.istore_n 0, 1, [])
  | 41 => some (.iload_n 0, 1, [])
  | 42 => some (.iload_n 0, 1, [])
  | 43 => some (.bipush 16, 2, [16])
  | 45 => some (.iushr, 1, [])
  | 46 => some (.iadd, 1, [])
  | 47 => some (.istore_n 0, 1, [])
  | 48 => some (.iload_n 0, 1, [])
  | 49 => some (.bipush 63, 2, [63])
  | 51 => some (.iand, 1, [])
  | 52 => some (.ireturn, 1, [0])
  | _ => none
def dec30 (pc : Nat) : Option (ClassFile.Instr × Nat × List Nat) := match pc with
  | 0 => some (.iconst 0, 1, [0])
  | 1 => some (.istore_n 2, 1, [])
  | 2 => some (.aload_n 0, 1, [])
  | 3 => some (.arraylength, 1, [])
  | 4 => some (.istore_n 3, 1, [])
  | 5 => some (.iload_n 2, 1, [])
  | 6 => some (.iload_n 3, 1, [])
  | 7 => some (.if_icmp .ge 13, 3, [20])
  | 10 => some (.aload_n 0, 1, [])
  | 11 => some (.iload_n 2, 1, [])
  | 12 => some (.iload_n 1, 1, [])
  | 13 => some (.iastore, 1, [])
  | 14 => some (.iinc 2 1, 3, [1])
  | 17 => some (.goto (-12), 3, [5])
  | 20 => some (.return_, 1, [])
  | _ => none
def dec31 (pc : Nat) : Option (ClassFile.Instr × Nat × List Nat) := match pc with
  | 0 => some (.aload_n 0, 1, [])
  | 1 => some (.getfield 12, 3, [1, 9, 0, 2, 0, 271])
  | 4 => some (.getfield 174, 3, [1, 6, 2, 2, 1, 149])
  | 7 => some (.getfield 216, 3, [1, 2, 4, 0, 1, 122])
  | 10 => some (.istore_n 1, 1, [])
  | 11 => some (.iload_n 1, 1, [])
  | 12 => some (.ifCond .gt 5, 3, [17])
  | 15 => some (.dconst 0, 1, [])
  | 16 => some (.dreturn, 1, [])
  | 17 => some (.aload_n 0, 1, [])
  | 18 => some (.getfield 12, 3, [1, 9, 0, 2, 0, 271])
  | 21 => some (.getfield 174, 3, [1, 6, 2, 2, 1, 149])
  | 24 => some (.invokevirtual 219, 3, [2, 32, 2, 2, 0, 387])
  | 27 => some (.i2d, 1, [])
  | 28 => some (.iload_n 1, 1, [])
  | 29 => some (.i2d, 1, [])
  | 30 => some (.ddiv, 1, [])
  | 31 => some (.dreturn, 1, [])
  | _ => none
def dec32 (pc : Nat) : Option (ClassFile.Instr × Nat × List Nat) := match pc with
  | 0 => some (.iconst 0, 1, [0])
  | 1 => some (.istore_n 1, 1, [])
  | 2 => some (.iconst (-1), 1, [4294967295])
  | 3 => some (.istore_n 2, 1, [])
  | 4 => some (.iconst 0, 1, [0])
  | 5 => some (.istore_n 3, 1, [])
  | 6 => some (.iload_n 3, 1, [])
  | 7 => some (.aload_n 0, 1, [])
  | 8 => some (.invokevirtual 52, 3, [2, 33, 2, 2, 0, 391])
  | 11 => some (.if_icmp .ge 29, 3, [40])
  | 14 => some (.aload_n 0, 1, [])
  | 15 => some (.iload_n 3, 1, [])
  | 16 => some (.iconst 2, 1, [2])
  | 17 => some (.invokevirtual 56, 3, [2, 34, 2, 2, 0, 396, 0, 0])
  | 20 => some (.istore 4, 2, [])
  | 22 => some (.iload 4, 2, [])
  | 24 => some (.iload_n 2, 1, [])
  | 25 => some (.if_icmp .eq 6, 3, [31])
  | 28 => some (.iinc 1 1, 3, [1])
  | 31 => some (.iload 4, 2, [])
  | 33 => some (.istore_n 2, 1, [])
  | 34 => some (.iinc 3 1, 3, [1])
  | 37 => some (.goto (-31), 3, [6])
  | 40 => some (.iload_n 1, 1, [])
  | 41 => some (.ireturn, 1, [0])
  | _ => none
def dec33 (pc : Nat) : Option (ClassFile.Instr × Nat × List Nat) := match pc with
  | 0 => some (.bipush 20, 2, [20])
  | 2 => some (.aload_n 0, 1, [])
  | 3 => some (.getfield 32, 3, [1, 2, 5, 0, 0, 123])
  | 6 => some (.invokestatic 49, 3, [10, 395])
  | 9 => some (.ireturn, 1, [0])
  | _ => none
def dec34 (pc : Nat) : Option (ClassFile.Instr × Nat × List Nat) := match pc with
  | 0 => some (.iload_n 1, 1, [])
  | 1 => some (.aload_n 0, 1, [])
  | 2 => some (.invokevirtual 52, 3, [2, 33, 2, 2, 0, 391])
  | 5 => some (.if_icmp .lt 5, 3, [10])
  | 8 => some (.iconst (-1), 1, [4294967295])
  | 9 => some (.ireturn, 1, [0])
  | 10 => some (.aload_n 0, 1, [])
  | 11 => some (.getfield 32, 3, [1, 2, 5, 0, 0, 123])
  | 14 => some (.iconst 1, 1, [1])
  | 15 => some (.isub, 1, [])
  | 16 => some (.iload_n 1, 1, [])
  | 17 => some (.isub, 1, [])
  | 18 => some (.bipush 20, 2, [20])
  | 20 => some (.invokestatic 35, 3, [2, 14, 0, 12, 0, 400, 0, 0])
  | 23 => some (.istore_n 3, 1, [])
  | 24 => some (.iload_n 2, 1, [])
  | 25 => some (.lookupswitch 45 #[(0, 27), (1, 36)], 27, [])
  | 52 => some (.aload_n 0, 1, [])
  | 53 => some (.getfield 15, 3, [1, 2, 1, 2, 0, 117])
  | 56 => some (.iload_n 3, 1, [])
  | 57 => some (.invokestatic 45, 3, [2, 26, 0, 9, 1, 401, 0, 2])
  | 60 => some (.ireturn, 1, [0])
  | 61 => some (.aload_n 0, 1, [])
  | 62 => some (.getfield 18, 3, [1, 2, 2, 2, 0, 118])
  | 65 => some (.iload_n 3, 1, [])
  | 66 => some (.invokestatic 45, 3, [2, 26, 0, 9, 1, 401, 0, 2])
  | 69 => some (.ireturn, 1, [0])
  | 70 => some (.aload_n 0, 1, [])
  | 71 => some (.getfield 21, 3, [1, 2, 3, 2, 0, 119])
  | 74 => some (.iload_n 3, 1, [])
  | 75 => some (.invokestatic 45, 3, [2, 26, 0, 9, 1, 401, 0, 2])
  | 78 => some (.ireturn, 1, [0])
  | _ => none
def dec35 (pc : Nat) : Option (ClassFile.Instr × Nat × List Nat) := match pc with
  | 0 => some (.aload_n 0, 1, [])
  | 1 => some (.getfield 29, 3, [1, 9, 3, 2, 0, 274])
  | 4 => some (.getfield 240, 3, [1, 8, 1, 0, 1, 185])
  | 7 => some (.istore_n 1, 1, [])
  | 8 => some (.aload_n 0, 1, [])
  | 9 => some (.getfield 29, 3, [1, 9, 3, 2, 0, 274])
  | 12 => some (.iconst 0, 1, [0])
  | 13 => some (.putfield 240, 3, [1, 8, 1, 0, 1, 185])
  | 16 => some (.iload_n 1, 1, [])
  | 17 => some (.ireturn, 1, [0])
  | _ => none
def dec36 (pc : Nat) : Option (ClassFile.Instr × Nat × List Nat) := match pc with
  | 0 => some (.aload_n 0, 1, [])
  | 1 => some (.getfield 29, 3, [1, 9, 3, 2, 0, 274])
  | 4 => some (.aload_n 0, 1, [])
  | 5 => some (.getfield 36, 3, [1, 9, 4, 2, 0, 275])
  | 8 => some (.invokevirtual 248, 3, [2, 37, 2, 8, 0, 410, 2])
  | 11 => some (.istore_n 1, 1, [])
  | 12 => some (.iload_n 1, 1, [])
  | 13 => some (.iconst (-1), 1, [4294967295])
  | 14 => some (.if_icmp .eq 8, 3, [22])
  | 17 => some (.bipush (-10), 2, [4294967286])
  | 19 => some (.iload_n 1, 1, [])
  | 20 => some (.isub, 1, [])
  | 21 => some (.ireturn, 1, [0])
  | 22 => some (.aload_n 0, 1, [])
  | 23 => some (.invokevirtual 72, 3, [2, 11, 2, 9, 0, 303])
  | 26 => some (.aload_n 0, 1, [])
  | 27 => some (.getfield 12, 3, [1, 9, 0, 2, 0, 271])
  | 30 => some (.getfield 75, 3, [1, 6, 0, 2, 1, 140])
  | 33 => some (.aload_n 0, 1, [])
  | 34 => some (.getfield 36, 3, [1, 9, 4, 2, 0, 275])
  | 37 => some (.invokevirtual 252, 3, [2, 16, 2, 7, 0, 482, 2])
  | 40 => some (.aload_n 0, 1, [])
  | 41 => some (.getfield 12, 3, [1, 9, 0, 2, 0, 271])
  | 44 => some (.getfield 75, 3, [1, 6, 0, 2, 1, 140])
  | 47 => some (.invokevirtual 255, 3, [2, 56, 2, 7, 0, 483])
  | 50 => some (.ireturn, 1, [0])
  | _ => none
def dec37 (pc : Nat) : Option (ClassFile.Instr × Nat × List Nat) := match pc with
  | 0 => some (.aload_n 1, 1, [])
  | 1 => some (.invokevirtual 19, 3, [2, 38, 2, 7, 0, 414])
  | 4 => some (.aload_n 0, 1, [])
  | 5 => some (.iconst 0, 1, [0])
  | 6 => some (.putfield 24, 3, [1, 8, 2, 0, 0, 186])
  | 9 => some (.aload_n 0, 1, [])
  | 10 => some (.iconst (-1), 1, [4294967295])
  | 11 => some (.putfield 27, 3, [1, 8, 3, 0, 0, 187])
  | 14 => some (.iconst 0, 1, [0])
  | 15 => some (.istore_n 2, 1, [])
  | 16 => some (.iload_n 2, 1, [])
  | 17 => some (.sipush 160, 3, [160])
  | 20 => some (.if_icmp .ge 33, 3, [53])
  | 23 => some (.aload_n 0, 1, [])
  | 24 => some (.getfield 24, 3, [1, 8, 2, 0, 0, 186])
  | 27 => some (.aload_n 0, 1, [])
  | 28 => some (.getfield 15, 3, [1, 8, 1, 0, 0, 184])
  | 31 => some (.if_icmp .ge 22, 3, [53])
  | 34 => some (.aload_n 0, 1, [])
  | 35 => some (.getfield 27, 3, [1, 8, 3, 0, 0, 187])
  | 38 => some (.iconst (-1), 1, [4294967295])
  | 39 => some (.if_icmp .ne 14, 3, [53])
  | 42 => some (.aload_n 0, 1, [])
  | 43 => some (.aload_n 1, 1, [])
  | 44 => some (.invokevirtual 30, 3, [2, 39, 2, 8, 0, 418, 2])
  | 47 => some (.iinc 2 1, 3, [1])
  | 50 => some (.goto (-34), 3, [16])
  | 53 => some (.aload_n 0, 1, [])
  | 54 => some (.getfield 27, 3, [1, 8, 3, 0, 0, 187])
  | 57 => some (.ireturn, 1, [0])
  | _ => none
def dec38 (pc : Nat) : Option (ClassFile.Instr × Nat × List Nat) := match pc with
  | 0 => some (.aload_n 0, 1, [])
  | 1 => some (.getfield 9, 3, [1, 7, 0, 2, 0, 42])
  | 4 => some (.iconst 1, 1, [1])
  | 5 => some (.invokestatic 36, 3, [2, 30, 0, 13, 0, 380, 0, 2])
  | 8 => some (.aload_n 0, 1, [])
  | 9 => some (.getfield 15, 3, [1, 7, 1, 2, 0, 47])
  | 12 => some (.iconst 0, 1, [0])
  | 13 => some (.invokestatic 36, 3, [2, 30, 0, 13, 0, 380, 0, 2])
  | 16 => some (.return_, 1, [])
  | _ => none
def dec39 (pc : Nat) : Option (ClassFile.Instr × Nat × List Nat) := match pc with
  | 0 => some (.aload_n 0, 1, [])
  | 1 => some (.invokevirtual 34, 3, [2, 40, 2, 8, 0, 422])
  | 4 => some (.istore_n 2, 1, [])
  | 5 => some (.iload_n 2, 1, [])
  | 6 => some (.bipush 100, 2, [100])
  | 8 => some (.if_icmp .ne 21, 3, [29])
  | 11 => some (.aload_n 0, 1, [])
  | 12 => some (.dup, 1, [])
  | 13 => some (.getfield 24, 3, [1, 8, 2, 0, 0, 186])
  | 16 => some (.iconst 1, 1, [1])
  | 17 => some (.iadd, 1, [])
  | 18 => some (.putfield 24, 3, [1, 8, 2, 0, 0, 186])
  | 21 => some (.aload_n 0, 1, [])
  | 22 => some (.aload_n 1, 1, [])
  | 23 => some (.invokevirtual 38, 3, [2, 41, 2, 8, 0, 426, 2])
  | 26 => some (.goto 35, 3, [61])
  | 29 => some (.iload_n 2, 1, [])
  | 30 => some (.bipush 101, 2, [101])
  | 32 => some (.if_icmp .ne 21, 3, [53])
  | 35 => some (.aload_n 0, 1, [])
  | 36 => some (.dup, 1, [])
  | 37 => some (.getfield 24, 3, [1, 8, 2, 0, 0, 186])
  | 40 => some (.iconst 1, 1, [1])
  | 41 => some (.iadd, 1, [])
  | 42 => some (.putfield 24, 3, [1, 8, 2, 0, 0, 186])
  | 45 => some (.aload_n 0, 1, [])
  | 46 => some (.aload_n 1, 1, [])
  | 47 => some (.invokevirtual 41, 3, [2, 45, 2, 8, 0, 441, 2])
  | 50 => some (.goto 11, 3, [61])
  | 53 => some (.aload_n 0, 1, [])
  | 54 => some (.aload_n 0, 1, [])
  | 55 => some (.getfield 24, 3, [1, 8, 2, 0, 0, 186])
  | 58 => some (.putfield 27, 3, [1, 8, 3, 0, 0, 187])
  | 61 => some (.return_, 1, [])
  | _ => none
def dec40 (pc : Nat) : Option (ClassFile.Instr × Nat × List Nat) := match pc with
  | 0 => some (.aload_n 0, 1, [])
  | 1 => some (.getfield 24, 3, [1, 8, 2, 0, 0, 186])
  | 4 => some (.ifCond .lt 38, 3, [42])
  | 7 => some (.aload_n 0, 1, [])
  | 8 => some (.getfield 24, 3, [1, 8, 2, 0, 0, 186])
  | 11 => some (.aload_n 0, 1, [])
  | 12 => some (.getfield 15, 3, [1, 8, 1, 0, 0, 184])
  | 15 => some (.if_icmp .ge 27, 3, [42])
  | 18 => some (.aload_n 0, 1, [])
  | 19 => some (.getfield 24, 3, [1, 8, 2, 0, 0, 186])
  | 22 => some (.aload_n 0, 1, [])
  | 23 => some (.getfield 9, 3, [1, 8, 0, 2, 0, 183])
  | 26 => some (.arraylength, 1, [])
  | 27 => some (.if_icmp .ge 15, 3, [42])
  | 30 => some (.aload_n 0, 1, [])
  | 31 => some (.getfield 9, 3, [1, 8, 0, 2, 0, 183])
  | 34 => some (.aload_n 0, 1, [])
  | 35 => some (.getfield 24, 3, [1, 8, 2, 0, 0, 186])
  | 38 => some (.baload, 1, [])
  | 39 => some (.goto 4, 3, [43])
  | 42 => some (.iconst (-1), 1, [4294967295])
  | 43 => some (.ireturn, 1, [0])
  | _ => none
def dec41 (pc : Nat) : Option (ClassFile.Instr × Nat × List Nat) := match pc with
  | 0 => some (.aload_n 0, 1, [])
  | 1 => some (.iconst 0, 1, [0])
  | 2 => some (.iconst 2, 1, [2])
  | 3 => some (.invokevirtual 44, 3, [2, 42, 2, 8, 0, 430, 0, 0])
  | 6 => some (.istore_n 2, 1, [])
  | 7 => some (.aload_n 0, 1, [])
  | 8 => some (.iconst 1, 1, [1])
  | 9 => some (.iconst 2, 1, [2])
  | 10 => some (.invokevirtual 44, 3, [2, 42, 2, 8, 0, 430, 0, 0])
  | 13 => some (.istore_n 3, 1, [])
  | 14 => some (.aload_n 0, 1, [])
  | 15 => some (.bipush 59, 2, [59])
  | 17 => some (.invokevirtual 48, 3, [2, 43, 2, 8, 0, 434, 0])
  | 20 => some (.aload_n 0, 1, [])
  | 21 => some (.getfield 27, 3, [1, 8, 3, 0, 0, 187])
  | 24 => some (.iconst (-1), 1, [4294967295])
  | 25 => some (.if_icmp .ne 12, 3, [37])
  | 28 => some (.aload_n 1, 1, [])
  | 29 => some (.getfield 52, 3, [1, 7, 0, 2, 1, 45])
  | 32 => some (.iload_n 2, 1, [])
  | 33 => some (.iload_n 3, 1, [])
  | 34 => some (.invokestatic 56, 3, [2, 44, 0, 9, 1, 438, 0, 0, 2])
  | 37 => some (.return_, 1, [])
  | _ => none
def dec42 (pc : Nat) : Option (ClassFile.Instr × Nat × List Nat) := match pc with
  | 0 => some (.aload_n 0, 1, [])
  | 1 => some (.getfield 27, 3, [1, 8, 3, 0, 0, 187])
  | 4 => some (.iconst (-1), 1, [4294967295])
  | 5 => some (.if_icmp .eq 5, 3, [10])
  | 8 => some (.iload_n 1, 1, [])
  | 9 => some (.ireturn, 1, [0])
  | 10 => some (.aload_n 0, 1, [])
  | 11 => some (.invokevirtual 34, 3, [2, 40, 2, 8, 0, 422])
  | 14 => some (.bipush 48, 2, [48])
  | 16 => some (.isub, 1, [])
  | 17 => some (.istore_n 3, 1, [])
  | 18 => some (.iload_n 3, 1, [])
  | 19 => some (.iload_n 1, 1, [])
  | 20 => some (.if_icmp .lt 8, 3, [28])
  | 23 => some (.iload_n 3, 1, [])
  | 24 => some (.iload_n 2, 1, [])
  | 25 => some (.if_icmp .le 13, 3, [38])
  | 28 => some (.aload_n 0, 1, [])
  | 29 => some (.aload_n 0, 1, [])
  | 30 => some (.getfield 24, 3, [1, 8, 2, 0, 0, 186])
  | 33 => some (.putfield 27, 3, [1, 8, 3, 0, 0, 187])
  | 36 => some (.iload_n 1, 1, [])
  | 37 => some (.ireturn, 1, [0])
  | 38 => some (.aload_n 0, 1, [])
  | 39 => some (.dup, 1, [])
  | 40 => some (.getfield 24, 3, [1, 8, 2, 0, 0, 186])
  | 43 => some (.iconst 1, 1, [1])
  | 44 => some (.iadd, 1, [])
  | 45 => some (.putfield 24, 3, [1, 8, 2, 0, 0, 186])
  | 48 => some (.iload_n 3, 1, [])
  | 49 => some (.ireturn, 1, [0])
  | _ => none
def dec43 (pc : Nat) : Option (ClassFile.Instr × Nat × List Nat) := match pc with
  | 0 => some (.aload_n 0, 1, [])
  | 1 => some (.getfield 27, 3, [1, 8, 3, 0, 0, 187])
  | 4 => some (.iconst (-1), 1, [4294967295])
  | 5 => some (.if_icmp .eq 4, 3, [9])
  | 8 => some (.return_, 1, [])
  | 9 => some (.aload_n 0, 1, [])
  | 10 => some (.invokevirtual 34, 3, [2, 40, 2, 8, 0, 422])
  | 13 => some (.iload_n 1, 1, [])
  | 14 => some (.if_icmp .ne 16, 3, [30])
  | 17 => some (.aload_n 0, 1, [])
  | 18 => some (.dup, 1, [])
  | 19 => some (.getfield 24, 3, [1, 8, 2, 0, 0, 186])
  | 22 => some (.iconst 1, 1, [1])
  | 23 => some (.iadd, 1, [])
  | 24 => some (.putfield 24, 3, [1, 8, 2, 0, 0, 186])
  | 27 => some (.goto 11, 3, [38])
  | 30 => some (.aload_n 0, 1, [])
  | 31 => some (.aload_n 0, 1, [])
  | 32 => some (.getfield 24, 3, [1, 8, 2, 0, 0, 186])
  | 35 => some (.putfield 27, 3, [1, 8, 3, 0, 0, 187])
  | 38 => some (.return_, 1, [])
  | _ => none
def dec44 (pc : Nat) : Option (ClassFile.Instr × Nat × List Nat) := match pc with
  | 0 => some (.iload_n 1, 1, [])
  | 1 => some (.ifCond .lt 13, 3, [14])
  | 4 => some (.iload_n 1, 1, [])
  | 5 => some (.aload_n 0, 1, [])
  | 6 => some (.arraylength, 1, [])
  | 7 => some (.if_icmp .ge 7, 3, [14])
  | 10 => some (.aload_n 0, 1, [])
  | 11 => some (.iload_n 1, 1, [])
  | 12 => some (.iload_n 2, 1, [])
  | 13 => some (.iastore, 1, [])
  | 14 => some (.return_, 1, [])
  | _ => none
def dec45_0 (pc : Nat) : Option (ClassFile.Instr × Nat × List Nat) := match pc with
  | 0 => some (.aload_n 0, 1, [])
  | 1 => some (.aload_n 1, 1, [])
  | 2 => some (.invokevirtual 60, 3, [2, 46, 2, 8, 0, 445, 2])
  | 5 => some (.istore_n 2, 1, [])
  | 6 => some (.aload_n 0, 1, [])
  | 7 => some (.bipush 44, 2, [44])
  | 9 => some (.invokevirtual 48, 3, [2, 43, 2, 8, 0, 434, 0])
  | 12 => some (.aload_n 0, 1, [])
  | 13 => some (.iload_n 2, 1, [])
  | 14 => some (.invokevirtual 64, 3, [2, 47, 2, 8, 0, 450, 0])
  | 17 => some (.istore_n 3, 1, [])
  | 18 => some (.aload_n 0, 1, [])
  | 19 => some (.bipush 44, 2, [44])
  | 21 => some (.invokevirtual 48, 3, [2, 43, 2, 8, 0, 434, 0])
  | 24 => some (.aload_n 0, 1, [])
  | 25 => some (.iconst 4, 1, [4])
  | 26 => some (.iconst 1, 1, [1])
  | 27 => some (.sipush 1000, 3, [1000])
  | 30 => some (.invokevirtual 68, 3, [2, 48, 2, 8, 0, 454, 0, 0, 0])
  | 33 => some (.istore 4, 2, [])
  | 35 => some (.aload_n 0, 1, [])
  | 36 => some (.bipush 44, 2, [44])
  | 38 => some (.invokevirtual 48, 3, [2, 43, 2, 8, 0, 434, 0])
  | 41 => some (.aload_n 0, 1, [])
  | 42 => some (.iconst 0, 1, [0])
  | 43 => some (.iload_n 3, 1, [])
  | 44 => some (.invokestatic 72, 3, [2, 53, 0, 9, 1, 470, 0])
  | 47 => some (.invokevirtual 44, 3, [2, 42, 2, 8, 0, 430, 0, 0])
  | 50 => some (.istore 5, 2, [])
  | 52 => some (.aload_n 0, 1, [])
  | 53 => some (.iconst 0, 1, [0])
  | 54 => some (.iconst 3, 1, [3])
  | 55 => some (.invokevirtual 44, 3, [2, 42, 2, 8, 0, 430, 0, 0])
  | 58 => some (.istore 6, 2, [])
  | 60 => some (.aload_n 0, 1, [])
  | 61 => some (.invokevirtual 75, 3, [2, 54, 2, 8, 0, 473])
  | 64 => some (.istore 7, 2, [])
  | 66 => some (.aload_n 0, 1, [])
  | 67 => some (.bipush 59, 2, [59])
  | 69 => some (.invokevirtual 48, 3, [2, 43, 2, 8, 0, 434, 0])
  | 72 => some (.aload_n 0, 1, [])
  | 73 => some (.getfield 27, 3, [1, 8, 3, 0, 0, 187])
  | 76 => some (.iconst (-1), 1, [4294967295])
  | 77 => some (.if_icmp .ne 18, 3, [95])
  | 80 => some (.aload_n 1, 1, [])
  | 81 => some (.iload_n 2, 1, [])
  | 82 => some (.iload_n 3, 1, [])
  | 83 => some (.iload 4, 2, [])
  | _ => none
def dec45_1 (pc : Nat) : Option (ClassFile.Instr × Nat × List Nat) := match pc with
  | 85 => some (.iload 5, 2, [])
  | 87 => some (.iload 6, 2, [])
  | 89 => some (.iload 7, 2, [])
  | 91 => some (.invokevirtual 79, 3, [2, 55, 2, 7, 0, 477, 0, 0, 0, 0, 0, 0])
  | 94 => some (.pop, 1, [])
  | 95 => some (.return_, 1, [])
  | _ => none
def dec45 (pc : Nat) : Option (ClassFile.Instr × Nat × List Nat) := if pc < 84 then dec45_0 pc else if pc < 96 then dec45_1 pc else none
def dec46 (pc : Nat) : Option (ClassFile.Instr × Nat × List Nat) := match pc with
  | 0 => some (.aload_n 0, 1, [])
  | 1 => some (.getfield 24, 3, [1, 8, 2, 0, 0, 186])
  | 4 => some (.istore_n 2, 1, [])
  | 5 => some (.aload_n 0, 1, [])
  | 6 => some (.iconst 0, 1, [0])
  | 7 => some (.iconst 2, 1, [2])
  | 8 => some (.invokevirtual 44, 3, [2, 42, 2, 8, 0, 430, 0, 0])
  | 11 => some (.istore_n 3, 1, [])
  | 12 => some (.aload_n 0, 1, [])
  | 13 => some (.getfield 27, 3, [1, 8, 3, 0, 0, 187])
  | 16 => some (.iconst (-1), 1, [4294967295])
  | 17 => some (.if_icmp .ne 18, 3, [35])
  | 20 => some (.aload_n 1, 1, [])
  | 21 => some (.iload_n 3, 1, [])
  | 22 => some (.invokevirtual 83, 3, [2, 25, 2, 7, 0, 449, 0])
  | 25 => some (.bipush 6, 2, [6])
  | 27 => some (.if_icmp .lt 8, 3, [35])
  | 30 => some (.aload_n 0, 1, [])
  | 31 => some (.iload_n 2, 1, [])
  | 32 => some (.putfield 27, 3, [1, 8, 3, 0, 0, 187])
  | 35 => some (.iload_n 3, 1, [])
  | 36 => some (.ireturn, 1, [0])
  | _ => none
def dec47 (pc : Nat) : Option (ClassFile.Instr × Nat × List Nat) := match pc with
  | 0 => some (.aload_n 0, 1, [])
  | 1 => some (.getfield 24, 3, [1, 8, 2, 0, 0, 186])
  | 4 => some (.istore_n 2, 1, [])
  | 5 => some (.aload_n 0, 1, [])
  | 6 => some (.iconst 2, 1, [2])
  | 7 => some (.iconst 0, 1, [0])
  | 8 => some (.bipush 18, 2, [18])
  | 10 => some (.invokevirtual 68, 3, [2, 48, 2, 8, 0, 454, 0, 0, 0])
  | 13 => some (.istore_n 3, 1, [])
  | 14 => some (.aload_n 0, 1, [])
  | 15 => some (.getfield 27, 3, [1, 8, 3, 0, 0, 187])
  | 18 => some (.iconst (-1), 1, [4294967295])
  | 19 => some (.if_icmp .ne 16, 3, [35])
  | 22 => some (.iload_n 1, 1, [])
  | 23 => some (.iload_n 3, 1, [])
  | 24 => some (.invokestatic 86, 3, [2, 50, 0, 9, 1, 461, 0, 0])
  | 27 => some (.ifCond .eq 8, 3, [35])
  | 30 => some (.aload_n 0, 1, [])
  | 31 => some (.iload_n 2, 1, [])
  | 32 => some (.putfield 27, 3, [1, 8, 3, 0, 0, 187])
  | 35 => some (.iload_n 3, 1, [])
  | 36 => some (.ireturn, 1, [0])
  | _ => none
def dec48_0 (pc : Nat) : Option (ClassFile.Instr × Nat × List Nat) := match pc with
  | 0 => some (.aload_n 0, 1, [])
  | 1 => some (.getfield 27, 3, [1, 8, 3, 0, 0, 187])
  | 4 => some (.iconst (-1), 1, [4294967295])
  | 5 => some (.if_icmp .eq 5, 3, [10])
  | 8 => some (.iload_n 2, 1, [])
  | 9 => some (.ireturn, 1, [0])
  | 10 => some (.aload_n 0, 1, [])
  | 11 => some (.getfield 24, 3, [1, 8, 2, 0, 0, 186])
  | 14 => some (.istore 4, 2, [])
  | 16 => some (.iconst 0, 1, [0])
  | 17 => some (.istore 5, 2, [])
  | 19 => some (.iconst 0, 1, [0])
  | 20 => some (.istore 6, 2, [])
  | 22 => some (.iload 6, 2, [])
  | 24 => some (.iload_n 1, 1, [])
  | 25 => some (.if_icmp .ge 44, 3, [69])
  | 28 => some (.aload_n 0, 1, [])
  | 29 => some (.invokevirtual 34, 3, [2, 40, 2, 8, 0, 422])
  | 32 => some (.invokestatic 90, 3, [2, 49, 0, 8, 0, 458, 0])
  | 35 => some (.ifCond .eq 34, 3, [69])
  | 38 => some (.iload 5, 2, [])
  | 40 => some (.bipush 10, 2, [10])
  | 42 => some (.imul, 1, [])
  | 43 => some (.aload_n 0, 1, [])
  | 44 => some (.invokevirtual 34, 3, [2, 40, 2, 8, 0, 422])
  | 47 => some (.iadd, 1, [])
  | 48 => some (.bipush 48, 2, [48])
  | 50 => some (.isub, 1, [])
  | 51 => some (.istore 5, 2, [])
  | 53 => some (.aload_n 0, 1, [])
  | 54 => some (.dup, 1, [])
  | 55 => some (.getfield 24, 3, [1, 8, 2, 0, 0, 186])
  | 58 => some (.iconst 1, 1, [1])
  | 59 => some (.iadd, 1, [])
  | 60 => some (.putfield 24, 3, [1, 8, 2, 0, 0, 186])
  | 63 => some (.iinc 6 1, 3, [1])
  | 66 => some (.goto (-44), 3, [22])
  | 69 => some (.aload_n 0, 1, [])
  | 70 => some (.getfield 24, 3, [1, 8, 2, 0, 0, 186])
  | 73 => some (.iload 4, 2, [])
  | 75 => some (.if_icmp .eq 13, 3, [88])
  | 78 => some (.aload_n 0, 1, [])
  | 79 => some (.invokevirtual 34, 3, [2, 40, 2, 8, 0, 422])
  | 82 => some (.invokestatic 90, 3, [2, 49, 0, 8, 0, 458, 0])
  | 85 => some (.ifCond .eq 14, 3, [99])
  | 88 => some (.aload_n 0, 1, [])
  | 89 => some (.aload_n 0, 1, [])
  | 90 => some (.getfield 24, 3, [1, 8, 2, 0, 0, 186])
  | _ => none
def dec48_1 (pc : Nat) : Option (ClassFile.Instr × Nat × List Nat) := match pc with
  | 93 => some (.putfield 27, 3, [1, 8, 3, 0, 0, 187])
  | 96 => some (.goto 21, 3, [117])
  | 99 => some (.iload 5, 2, [])
  | 101 => some (.iload_n 2, 1, [])
  | 102 => some (.if_icmp .lt 9, 3, [111])
  | 105 => some (.iload 5, 2, [])
  | 107 => some (.iload_n 3, 1, [])
  | 108 => some (.if_icmp .le 9, 3, [117])
  | 111 => some (.aload_n 0, 1, [])
  | 112 => some (.iload 4, 2, [])
  | 114 => some (.putfield 27, 3, [1, 8, 3, 0, 0, 187])
  | 117 => some (.iload 5, 2, [])
  | 119 => some (.ireturn, 1, [0])
  | _ => none
def dec48 (pc : Nat) : Option (ClassFile.Instr × Nat × List Nat) := if pc < 91 then dec48_0 pc else if pc < 120 then dec48_1 pc else none
def dec49 (pc : Nat) : Option (ClassFile.Instr × Nat × List Nat) := match pc with
  | 0 => some (.iload_n 0, 1, [])
  | 1 => some (.bipush 48, 2, [48])
  | 3 => some (.if_icmp .lt 13, 3, [16])
  | 6 => some (.iload_n 0, 1, [])
  | 7 => some (.bipush 57, 2, [57])
  | 9 => some (.if_icmp .gt 7, 3, [16])
  | 12 => some (.iconst 1, 1, [1])
  | 13 => some (.goto 4, 3, [17])
  | 16 => some (.iconst 0, 1, [0])
  | 17 => some (.ireturn, 1, [1])
  | _ => none
def dec50 (pc : Nat) : Option (ClassFile.Instr × Nat × List Nat) := match pc with
  | 0 => some (.iload_n 1, 1, [])
  | 1 => some (.invokestatic 334, 3, [2, 51, 0, 9, 0, 464, 0])
  | 4 => some (.ifCond .eq 15, 3, [19])
  | 7 => some (.iload_n 1, 1, [])
  | 8 => some (.invokestatic 338, 3, [2, 52, 0, 9, 0, 467, 0])
  | 11 => some (.iload_n 0, 1, [])
  | 12 => some (.if_icmp .gt 7, 3, [19])
  | 15 => some (.iconst 1, 1, [1])
  | 16 => some (.goto 4, 3, [20])
  | 19 => some (.iconst 0, 1, [0])
  | 20 => some (.ireturn, 1, [1])
  | _ => none
def dec51 (pc : Nat) : Option (ClassFile.Instr × Nat × List Nat) := match pc with
  | 0 => some (.iload_n 0, 1, [])
  | 1 => some (.bipush 16, 2, [16])
  | 3 => some (.if_icmp .lt 7, 3, [10])
  | 6 => some (.iconst 1, 1, [1])
  | 7 => some (.goto 4, 3, [11])
  | 10 => some (.iconst 0, 1, [0])
  | 11 => some (.ireturn, 1, [1])
  | _ => none
def dec52 (pc : Nat) : Option (ClassFile.Instr × Nat × List Nat) := match pc with
  | 0 => some (.iload_n 0, 1, [])
  | 1 => some (.bipush 16, 2, [16])
  | 3 => some (.isub, 1, [])
  | 4 => some (.ireturn, 1, [0])
  | _ => none
def dec53 (pc : Nat) : Option (ClassFile.Instr × Nat × List Nat) := match pc with
  | 0 => some (.iload_n 0, 1, [])
  | 1 => some (.invokestatic 334, 3, [2, 51, 0, 9, 0, 464, 0])
  | 4 => some (.ifCond .eq 7, 3, [11])
  | 7 => some (.iconst 0, 1, [0])
  | 8 => some (.goto 4, 3, [12])
  | 11 => some (.iconst 3, 1, [3])
  | 12 => some (.ireturn, 1, [0])
  | _ => none
def dec54 (pc : Nat) : Option (ClassFile.Instr × Nat × List Nat) := match pc with
  | 0 => some (.aload_n 0, 1, [])
  | 1 => some (.getfield 27, 3, [1, 8, 3, 0, 0, 187])
  | 4 => some (.iconst (-1), 1, [4294967295])
  | 5 => some (.if_icmp .ne 12, 3, [17])
  | 8 => some (.aload_n 0, 1, [])
  | 9 => some (.invokevirtual 34, 3, [2, 40, 2, 8, 0, 422])
  | 12 => some (.bipush 111, 2, [111])
  | 14 => some (.if_icmp .eq 5, 3, [19])
  | 17 => some (.iconst 0, 1, [0])
  | 18 => some (.ireturn, 1, [1])
  | 19 => some (.aload_n 0, 1, [])
  | 20 => some (.dup, 1, [])
  | 21 => some (.getfield 24, 3, [1, 8, 2, 0, 0, 186])
  | 24 => some (.iconst 1, 1, [1])
  | 25 => some (.iadd, 1, [])
  | 26 => some (.putfield 24, 3, [1, 8, 2, 0, 0, 186])
  | 29 => some (.iconst 1, 1, [1])
  | 30 => some (.ireturn, 1, [1])
  | _ => none
def dec55_0 (pc : Nat) : Option (ClassFile.Instr × Nat × List Nat) := match pc with
  | 0 => some (.aload_n 0, 1, [])
  | 1 => some (.iload_n 1, 1, [])
  | 2 => some (.invokevirtual 50, 3, [2, 25, 2, 7, 0, 361, 0])
  | 5 => some (.istore 7, 2, [])
  | 7 => some (.iload_n 1, 1, [])
  | 8 => some (.iload 7, 2, [])
  | 10 => some (.invokestatic 54, 3, [2, 27, 0, 9, 1, 368, 0, 0])
  | 13 => some (.istore 8, 2, [])
  | 15 => some (.aload_n 0, 1, [])
  | 16 => some (.getfield 18, 3, [1, 7, 2, 2, 0, 48])
  | 19 => some (.iload 8, 2, [])
  | 21 => some (.iload_n 2, 1, [])
  | 22 => some (.invokestatic 58, 3, [2, 44, 0, 9, 1, 481, 0, 0, 2])
  | 25 => some (.aload_n 0, 1, [])
  | 26 => some (.getfield 21, 3, [1, 7, 3, 2, 0, 53])
  | 29 => some (.iload 8, 2, [])
  | 31 => some (.iload_n 3, 1, [])
  | 32 => some (.invokestatic 58, 3, [2, 44, 0, 9, 1, 481, 0, 0, 2])
  | 35 => some (.aload_n 0, 1, [])
  | 36 => some (.getfield 24, 3, [1, 7, 4, 2, 0, 56])
  | 39 => some (.iload 8, 2, [])
  | 41 => some (.iload 4, 2, [])
  | 43 => some (.invokestatic 58, 3, [2, 44, 0, 9, 1, 481, 0, 0, 2])
  | 46 => some (.aload_n 0, 1, [])
  | 47 => some (.getfield 27, 3, [1, 7, 5, 2, 0, 62])
  | 50 => some (.iload 8, 2, [])
  | 52 => some (.iload 5, 2, [])
  | 54 => some (.invokestatic 58, 3, [2, 44, 0, 9, 1, 481, 0, 0, 2])
  | 57 => some (.aload_n 0, 1, [])
  | 58 => some (.getfield 30, 3, [1, 7, 6, 2, 0, 64])
  | 61 => some (.iload 8, 2, [])
  | 63 => some (.iload 6, 2, [])
  | 65 => some (.ifCond .eq 7, 3, [72])
  | 68 => some (.iconst 1, 1, [1])
  | 69 => some (.goto 4, 3, [73])
  | 72 => some (.iconst 0, 1, [0])
  | 73 => some (.invokestatic 58, 3, [2, 44, 0, 9, 1, 481, 0, 0, 2])
  | 76 => some (.aload_n 0, 1, [])
  | 77 => some (.getfield 33, 3, [1, 7, 7, 2, 0, 66])
  | 80 => some (.iload 8, 2, [])
  | 82 => some (.iconst 0, 1, [0])
  | 83 => some (.invokestatic 58, 3, [2, 44, 0, 9, 1, 481, 0, 0, 2])
  | 86 => some (.aload_n 0, 1, [])
  | 87 => some (.getfield 15, 3, [1, 7, 1, 2, 0, 47])
  | 90 => some (.iload_n 1, 1, [])
  | 91 => some (.iload 7, 2, [])
  | 93 => some (.iconst 1, 1, [1])
  | 94 => some (.iadd, 1, [])
  | _ => none
def dec55_1 (pc : Nat) : Option (ClassFile.Instr × Nat × List Nat) := match pc with
  | 95 => some (.invokestatic 58, 3, [2, 44, 0, 9, 1, 481, 0, 0, 2])
  | 98 => some (.iload 7, 2, [])
  | 100 => some (.ireturn, 1, [0])
  | _ => none
def dec55 (pc : Nat) : Option (ClassFile.Instr × Nat × List Nat) := if pc < 95 then dec55_0 pc else if pc < 101 then dec55_1 pc else none
def dec56 (pc : Nat) : Option (ClassFile.Instr × Nat × List Nat) := match pc with
  | 0 => some (.iconst 0, 1, [0])
  | 1 => some (.istore_n 1, 1, [])
  | 2 => some (.iconst 0, 1, [0])
  | 3 => some (.istore_n 2, 1, [])
  | 4 => some (.iload_n 2, 1, [])
  | 5 => some (.iconst 3, 1, [3])
  | 6 => some (.if_icmp .ge 17, 3, [23])
  | 9 => some (.iload_n 1, 1, [])
  | 10 => some (.aload_n 0, 1, [])
  | 11 => some (.iload_n 2, 1, [])
  | 12 => some (.invokevirtual 50, 3, [2, 25, 2, 7, 0, 361, 0])
  | 15 => some (.iadd, 1, [])
  | 16 => some (.istore_n 1, 1, [])
  | 17 => some (.iinc 2 1, 3, [1])
  | 20 => some (.goto (-16), 3, [4])
  | 23 => some (.iload_n 1, 1, [])
  | 24 => some (.ireturn, 1, [0])
  | _ => none
def dec57_0 (pc : Nat) : Option (ClassFile.Instr × Nat × List Nat) := match pc with
  | 0 => some (.ldc2_w 266, 3, [9, 3361, 491])
  | 3 => some (.aload_n 0, 1, [])
  | 4 => some (.getfield 29, 3, [1, 9, 3, 2, 0, 274])
  | 7 => some (.getfield 240, 3, [1, 8, 1, 0, 1, 185])
  | 10 => some (.i2l, 1, [])
  | 11 => some (.invokestatic 268, 3, [2, 58, 0, 9, 0, 492, 1, 1])
  | 14 => some (.lstore_n 1, 1, [])
  | 15 => some (.iconst 0, 1, [0])
  | 16 => some (.istore_n 3, 1, [])
  | 17 => some (.iload_n 3, 1, [])
  | 18 => some (.bipush 8, 2, [8])
  | 20 => some (.if_icmp .ge 20, 3, [40])
  | 23 => some (.lload_n 1, 1, [])
  | 24 => some (.aload_n 0, 1, [])
  | 25 => some (.iload_n 3, 1, [])
  | 26 => some (.invokevirtual 165, 3, [2, 59, 2, 9, 0, 496, 0])
  | 29 => some (.i2l, 1, [])
  | 30 => some (.invokestatic 268, 3, [2, 58, 0, 9, 0, 492, 1, 1])
  | 33 => some (.lstore_n 1, 1, [])
  | 34 => some (.iinc 3 1, 3, [1])
  | 37 => some (.goto (-20), 3, [17])
  | 40 => some (.iconst 1, 1, [1])
  | 41 => some (.istore_n 3, 1, [])
  | 42 => some (.iload_n 3, 1, [])
  | 43 => some (.iconst 3, 1, [3])
  | 44 => some (.if_icmp .gt 49, 3, [93])
  | 47 => some (.lload_n 1, 1, [])
  | 48 => some (.aload_n 0, 1, [])
  | 49 => some (.getfield 12, 3, [1, 9, 0, 2, 0, 271])
  | 52 => some (.getfield 141, 3, [1, 6, 1, 2, 1, 146])
  | 55 => some (.getfield 145, 3, [1, 3, 0, 2, 1, 93])
  | 58 => some (.iload_n 3, 1, [])
  | 59 => some (.invokestatic 161, 3, [2, 26, 0, 9, 0, 506, 0, 2])
  | 62 => some (.i2l, 1, [])
  | 63 => some (.invokestatic 268, 3, [2, 58, 0, 9, 0, 492, 1, 1])
  | 66 => some (.lstore_n 1, 1, [])
  | 67 => some (.lload_n 1, 1, [])
  | 68 => some (.aload_n 0, 1, [])
  | 69 => some (.getfield 12, 3, [1, 9, 0, 2, 0, 271])
  | 72 => some (.getfield 141, 3, [1, 6, 1, 2, 1, 146])
  | 75 => some (.getfield 150, 3, [1, 3, 1, 2, 1, 95])
  | 78 => some (.iload_n 3, 1, [])
  | 79 => some (.invokestatic 161, 3, [2, 26, 0, 9, 0, 506, 0, 2])
  | 82 => some (.i2l, 1, [])
  | 83 => some (.invokestatic 268, 3, [2, 58, 0, 9, 0, 492, 1, 1])
  | 86 => some (.lstore_n 1, 1, [])
  | 87 => some (.iinc 3 1, 3, [1])
  | 90 => some (.goto (-48), 3, [42])
  | _ => none
def dec57_1 (pc : Nat) : Option (ClassFile.Instr × Nat × List Nat) := match pc with
  | 93 => some (.iconst 0, 1, [0])
  | 94 => some (.istore_n 3, 1, [])
  | 95 => some (.iload_n 3, 1, [])
  | 96 => some (.iconst 3, 1, [3])
  | 97 => some (.if_icmp .ge 57, 3, [154])
  | 100 => some (.aload_n 0, 1, [])
  | 101 => some (.lload_n 1, 1, [])
  | 102 => some (.iload_n 3, 1, [])
  | 103 => some (.invokevirtual 272, 3, [2, 61, 2, 9, 0, 507, 0, 1])
  | 106 => some (.lstore_n 1, 1, [])
  | 107 => some (.aload_n 0, 1, [])
  | 108 => some (.getfield 57, 3, [1, 9, 7, 2, 0, 278])
  | 111 => some (.aload_n 0, 1, [])
  | 112 => some (.getfield 12, 3, [1, 9, 0, 2, 0, 271])
  | 115 => some (.iload_n 3, 1, [])
  | 116 => some (.invokevirtual 201, 3, [2, 75, 2, 0, 0, 573, 0, 2])
  | 119 => some (.iconst 0, 1, [0])
  | 120 => some (.istore 4, 2, [])
  | 122 => some (.iload 4, 2, [])
  | 124 => some (.iconst 3, 1, [3])
  | 125 => some (.if_icmp .gt 23, 3, [148])
  | 128 => some (.lload_n 1, 1, [])
  | 129 => some (.aload_n 0, 1, [])
  | 130 => some (.getfield 57, 3, [1, 9, 7, 2, 0, 278])
  | 133 => some (.iload 4, 2, [])
  | 135 => some (.invokevirtual 209, 3, [2, 82, 2, 0, 0, 610, 0])
  | 138 => some (.invokestatic 268, 3, [2, 58, 0, 9, 0, 492, 1, 1])
  | 141 => some (.lstore_n 1, 1, [])
  | 142 => some (.iinc 4 1, 3, [1])
  | 145 => some (.goto (-23), 3, [122])
  | 148 => some (.iinc 3 1, 3, [1])
  | 151 => some (.goto (-56), 3, [95])
  | 154 => some (.iconst 0, 1, [0])
  | 155 => some (.istore_n 3, 1, [])
  | 156 => some (.iload_n 3, 1, [])
  | 157 => some (.bipush 16, 2, [16])
  | 159 => some (.if_icmp .ge 29, 3, [188])
  | 162 => some (.lload_n 1, 1, [])
  | 163 => some (.aload_n 0, 1, [])
  | 164 => some (.getfield 12, 3, [1, 9, 0, 2, 0, 271])
  | 167 => some (.getfield 174, 3, [1, 6, 2, 2, 1, 149])
  | 170 => some (.getfield 186, 3, [1, 2, 0, 2, 1, 116])
  | 173 => some (.iload_n 3, 1, [])
  | 174 => some (.invokestatic 161, 3, [2, 26, 0, 9, 0, 506, 0, 2])
  | 177 => some (.i2l, 1, [])
  | 178 => some (.invokestatic 268, 3, [2, 58, 0, 9, 0, 492, 1, 1])
  | 181 => some (.lstore_n 1, 1, [])
  | 182 => some (.iinc 3 1, 3, [1])
  | _ => none
def dec57_2 (pc : Nat) : Option (ClassFile.Instr × Nat × List Nat) := match pc with
  | 185 => some (.goto (-29), 3, [156])
  | 188 => some (.iconst 0, 1, [0])
  | 189 => some (.istore_n 3, 1, [])
  | 190 => some (.iload_n 3, 1, [])
  | 191 => some (.aload_n 0, 1, [])
  | 192 => some (.getfield 12, 3, [1, 9, 0, 2, 0, 271])
  | 195 => some (.getfield 174, 3, [1, 6, 2, 2, 1, 149])
  | 198 => some (.invokevirtual 276, 3, [2, 33, 2, 2, 0, 500])
  | 201 => some (.if_icmp .ge 43, 3, [244])
  | 204 => some (.iconst 0, 1, [0])
  | 205 => some (.istore 4, 2, [])
  | 207 => some (.iload 4, 2, [])
  | 209 => some (.iconst 3, 1, [3])
  | 210 => some (.if_icmp .ge 28, 3, [238])
  | 213 => some (.lload_n 1, 1, [])
  | 214 => some (.aload_n 0, 1, [])
  | 215 => some (.getfield 12, 3, [1, 9, 0, 2, 0, 271])
  | 218 => some (.getfield 174, 3, [1, 6, 2, 2, 1, 149])
  | 221 => some (.iload_n 3, 1, [])
  | 222 => some (.iload 4, 2, [])
  | 224 => some (.invokevirtual 178, 3, [2, 34, 2, 2, 0, 617, 0, 0])
  | 227 => some (.i2l, 1, [])
  | 228 => some (.invokestatic 268, 3, [2, 58, 0, 9, 0, 492, 1, 1])
  | 231 => some (.lstore_n 1, 1, [])
  | 232 => some (.iinc 4 1, 3, [1])
  | 235 => some (.goto (-28), 3, [207])
  | 238 => some (.iinc 3 1, 3, [1])
  | 241 => some (.goto (-51), 3, [190])
  | 244 => some (.lload_n 1, 1, [])
  | 245 => some (.aload_n 0, 1, [])
  | 246 => some (.getfield 22, 3, [1, 9, 2, 2, 0, 273])
  | 249 => some (.getfield 258, 3, [1, 5, 2, 0, 1, 169])
  | 252 => some (.i2l, 1, [])
  | 253 => some (.invokestatic 268, 3, [2, 58, 0, 9, 0, 492, 1, 1])
  | 256 => some (.lreturn, 1, [])
  | _ => none
def dec57 (pc : Nat) : Option (ClassFile.Instr × Nat × List Nat) := if pc < 91 then dec57_0 pc else if pc < 183 then dec57_1 pc else if pc < 257 then dec57_2 pc else none
def dec58 (pc : Nat) : Option (ClassFile.Instr × Nat × List Nat) := match pc with
  | 0 => some (.ldc2_w 332, 3, [9, 31, 495])
  | 3 => some (.lload_n 0, 1, [])
  | 4 => some (.lmul, 1, [])
  | 5 => some (.lload_n 2, 1, [])
  | 6 => some (.ladd, 1, [])
  | 7 => some (.lreturn, 1, [])
  | _ => none
def dec59 (pc : Nat) : Option (ClassFile.Instr × Nat × List Nat) := match pc with
  | 0 => some (.iload_n 1, 1, [])
  | 1 => some (.tableswitch 120 0 6 #[43, 54, 65, 76, 87, 98, 109], 43, [])
  | 44 => some (.aload_n 0, 1, [])
  | 45 => some (.getfield 12, 3, [1, 9, 0, 2, 0, 271])
  | 48 => some (.getfield 141, 3, [1, 6, 1, 2, 1, 146])
  | 51 => some (.getfield 154, 3, [1, 3, 2, 0, 1, 97])
  | 54 => some (.ireturn, 1, [0])
  | 55 => some (.aload_n 0, 1, [])
  | 56 => some (.getfield 12, 3, [1, 9, 0, 2, 0, 271])
  | 59 => some (.getfield 141, 3, [1, 6, 1, 2, 1, 146])
  | 62 => some (.getfield 158, 3, [1, 3, 3, 0, 1, 99])
  | 65 => some (.ireturn, 1, [0])
  | 66 => some (.aload_n 0, 1, [])
  | 67 => some (.getfield 12, 3, [1, 9, 0, 2, 0, 271])
  | 70 => some (.getfield 174, 3, [1, 6, 2, 2, 1, 149])
  | 73 => some (.getfield 216, 3, [1, 2, 4, 0, 1, 122])
  | 76 => some (.ireturn, 1, [0])
  | 77 => some (.aload_n 0, 1, [])
  | 78 => some (.getfield 12, 3, [1, 9, 0, 2, 0, 271])
  | 81 => some (.getfield 174, 3, [1, 6, 2, 2, 1, 149])
  | 84 => some (.getfield 323, 3, [1, 2, 5, 0, 1, 124])
  | 87 => some (.ireturn, 1, [0])
  | 88 => some (.aload_n 0, 1, [])
  | 89 => some (.getfield 12, 3, [1, 9, 0, 2, 0, 271])
  | 92 => some (.getfield 174, 3, [1, 6, 2, 2, 1, 149])
  | 95 => some (.invokevirtual 276, 3, [2, 33, 2, 2, 0, 500])
  | 98 => some (.ireturn, 1, [0])
  | 99 => some (.aload_n 0, 1, [])
  | 100 => some (.getfield 12, 3, [1, 9, 0, 2, 0, 271])
  | 103 => some (.getfield 75, 3, [1, 6, 0, 2, 1, 140])
  | 106 => some (.invokevirtual 255, 3, [2, 56, 2, 7, 0, 483])
  | 109 => some (.ireturn, 1, [0])
  | 110 => some (.aload_n 0, 1, [])
  | 111 => some (.getfield 12, 3, [1, 9, 0, 2, 0, 271])
  | 114 => some (.getfield 75, 3, [1, 6, 0, 2, 1, 140])
  | 117 => some (.invokevirtual 326, 3, [2, 23, 2, 7, 0, 501])
  | 120 => some (.ireturn, 1, [0])
  | 121 => some (.aload_n 0, 1, [])
  | 122 => some (.getfield 12, 3, [1, 9, 0, 2, 0, 271])
  | 125 => some (.getfield 174, 3, [1, 6, 2, 2, 1, 149])
  | 128 => some (.invokevirtual 329, 3, [2, 60, 2, 2, 0, 502])
  | 131 => some (.ireturn, 1, [0])
  | _ => none
def dec60 (pc : Nat) : Option (ClassFile.Instr × Nat × List Nat) := match pc with
  | 0 => some (.iconst 0, 1, [0])
  | 1 => some (.istore_n 1, 1, [])
  | 2 => some (.iconst 0, 1, [0])
  | 3 => some (.istore_n 2, 1, [])
  | 4 => some (.iload_n 2, 1, [])
  | 5 => some (.bipush 16, 2, [16])
  | 7 => some (.if_icmp .ge 23, 3, [30])
  | 10 => some (.aload_n 0, 1, [])
  | 11 => some (.getfield 9, 3, [1, 2, 0, 2, 0, 115])
  | 14 => some (.iload_n 2, 1, [])
  | 15 => some (.invokestatic 45, 3, [2, 26, 0, 9, 1, 401, 0, 2])
  | 18 => some (.ifCond .le 6, 3, [24])
  | 21 => some (.iinc 1 1, 3, [1])
  | 24 => some (.iinc 2 1, 3, [1])
  | 27 => some (.goto (-23), 3, [4])
  | 30 => some (.iload_n 1, 1, [])
  | 31 => some (.ireturn, 1, [0])
  | _ => none
def dec61 (pc : Nat) : Option (ClassFile.Instr × Nat × List Nat) := match pc with
  | 0 => some (.lload_n 1, 1, [])
  | 1 => some (.lstore 4, 2, [])
  | 3 => some (.iconst 0, 1, [0])
  | 4 => some (.istore 6, 2, [])
  | 6 => some (.iload 6, 2, [])
  | 8 => some (.iconst 4, 1, [4])
  | 9 => some (.if_icmp .ge 24, 3, [33])
  | 12 => some (.lload 4, 2, [])
  | 14 => some (.aload_n 0, 1, [])
  | 15 => some (.iload_n 3, 1, [])
  | 16 => some (.iload 6, 2, [])
  | 18 => some (.invokevirtual 135, 3, [2, 62, 2, 9, 0, 511, 0, 0])
  | 21 => some (.i2l, 1, [])
  | 22 => some (.invokestatic 268, 3, [2, 58, 0, 9, 0, 492, 1, 1])
  | 25 => some (.lstore 4, 2, [])
  | 27 => some (.iinc 6 1, 3, [1])
  | 30 => some (.goto (-24), 3, [6])
  | 33 => some (.iconst 0, 1, [0])
  | 34 => some (.istore 6, 2, [])
  | 36 => some (.iload 6, 2, [])
  | 38 => some (.aload_n 0, 1, [])
  | 39 => some (.getfield 12, 3, [1, 9, 0, 2, 0, 271])
  | 42 => some (.getfield 75, 3, [1, 6, 0, 2, 1, 140])
  | 45 => some (.iload_n 3, 1, [])
  | 46 => some (.invokevirtual 101, 3, [2, 25, 2, 7, 0, 515, 0])
  | 49 => some (.if_icmp .ge 42, 3, [91])
  | 52 => some (.iconst 0, 1, [0])
  | 53 => some (.istore 7, 2, [])
  | 55 => some (.iload 7, 2, [])
  | 57 => some (.bipush 8, 2, [8])
  | 59 => some (.if_icmp .ge 26, 3, [85])
  | 62 => some (.lload 4, 2, [])
  | 64 => some (.aload_n 0, 1, [])
  | 65 => some (.iload_n 3, 1, [])
  | 66 => some (.iload 6, 2, [])
  | 68 => some (.iload 7, 2, [])
  | 70 => some (.invokevirtual 131, 3, [2, 73, 2, 9, 0, 562, 0, 0, 0])
  | 73 => some (.i2l, 1, [])
  | 74 => some (.invokestatic 268, 3, [2, 58, 0, 9, 0, 492, 1, 1])
  | 77 => some (.lstore 4, 2, [])
  | 79 => some (.iinc 7 1, 3, [1])
  | 82 => some (.goto (-27), 3, [55])
  | 85 => some (.iinc 6 1, 3, [1])
  | 88 => some (.goto (-52), 3, [36])
  | 91 => some (.lload 4, 2, [])
  | 93 => some (.lreturn, 1, [])
  | _ => none
def dec62 (pc : Nat) : Option (ClassFile.Instr × Nat × List Nat) := match pc with
  | 0 => some (.iload_n 2, 1, [])
  | 1 => some (.tableswitch 67 0 2 #[27, 42, 54], 27, [])
  | 28 => some (.aload_n 0, 1, [])
  | 29 => some (.getfield 12, 3, [1, 9, 0, 2, 0, 271])
  | 32 => some (.getfield 75, 3, [1, 6, 0, 2, 1, 140])
  | 35 => some (.getfield 78, 3, [1, 7, 0, 2, 1, 43])
  | 38 => some (.iload_n 1, 1, [])
  | 39 => some (.invokestatic 161, 3, [2, 26, 0, 9, 0, 506, 0, 2])
  | 42 => some (.ireturn, 1, [0])
  | 43 => some (.aload_n 0, 1, [])
  | 44 => some (.getfield 12, 3, [1, 9, 0, 2, 0, 271])
  | 47 => some (.getfield 75, 3, [1, 6, 0, 2, 1, 140])
  | 50 => some (.iload_n 1, 1, [])
  | 51 => some (.invokevirtual 101, 3, [2, 25, 2, 7, 0, 515, 0])
  | 54 => some (.ireturn, 1, [0])
  | 55 => some (.aload_n 0, 1, [])
  | 56 => some (.iload_n 1, 1, [])
  | 57 => some (.invokevirtual 189, 3, [2, 63, 2, 9, 0, 516, 0])
  | 60 => some (.aload_n 0, 1, [])
  | 61 => some (.getfield 50, 3, [1, 9, 6, 2, 0, 277])
  | 64 => some (.getfield 320, 3, [1, 1, 2, 0, 1, 216])
  | 67 => some (.ireturn, 1, [0])
  | 68 => some (.aload_n 0, 1, [])
  | 69 => some (.iload_n 1, 1, [])
  | 70 => some (.invokevirtual 189, 3, [2, 63, 2, 9, 0, 516, 0])
  | 73 => some (.aload_n 0, 1, [])
  | 74 => some (.getfield 50, 3, [1, 9, 6, 2, 0, 277])
  | 77 => some (.iload_n 1, 1, [])
  | 78 => some (.invokevirtual 195, 3, [2, 70, 2, 1, 0, 561, 0])
  | 81 => some (.ireturn, 1, [0])
  | _ => none
def dec63 (pc : Nat) : Option (ClassFile.Instr × Nat × List Nat) := match pc with
  | 0 => some (.aload_n 0, 1, [])
  | 1 => some (.getfield 50, 3, [1, 9, 6, 2, 0, 277])
  | 4 => some (.aload_n 0, 1, [])
  | 5 => some (.getfield 12, 3, [1, 9, 0, 2, 0, 271])
  | 8 => some (.iload_n 1, 1, [])
  | 9 => some (.aload_n 0, 1, [])
  | 10 => some (.getfield 12, 3, [1, 9, 0, 2, 0, 271])
  | 13 => some (.getfield 75, 3, [1, 6, 0, 2, 1, 140])
  | 16 => some (.invokevirtual 295, 3, [2, 24, 2, 7, 0, 520])
  | 19 => some (.iconst (-1), 1, [4294967295])
  | 20 => some (.invokevirtual 298, 3, [2, 64, 2, 1, 0, 521, 0, 0, 0, 2])
  | 23 => some (.return_, 1, [])
  | _ => none
def dec64 (pc : Nat) : Option (ClassFile.Instr × Nat × List Nat) := match pc with
  | 0 => some (.iconst 3, 1, [3])
  | 1 => some (.istore 5, 2, [])
  | 3 => some (.iload 5, 2, [])
  | 5 => some (.iconst 1, 1, [1])
  | 6 => some (.if_icmp .lt 52, 3, [58])
  | 9 => some (.iload 5, 2, [])
  | 11 => some (.iload 4, 2, [])
  | 13 => some (.if_icmp .le 45, 3, [58])
  | 16 => some (.aload_n 1, 1, [])
  | 17 => some (.getfield 18, 3, [1, 6, 1, 2, 1, 144])
  | 20 => some (.iload 5, 2, [])
  | 22 => some (.invokevirtual 24, 3, [2, 65, 2, 3, 0, 525, 0])
  | 25 => some (.ifCond .eq 27, 3, [52])
  | 28 => some (.aload_n 0, 1, [])
  | 29 => some (.aload_n 1, 1, [])
  | 30 => some (.iload_n 2, 1, [])
  | 31 => some (.iload_n 3, 1, [])
  | 32 => some (.iload 5, 2, [])
  | 34 => some (.invokevirtual 30, 3, [2, 66, 2, 1, 0, 529, 0, 0, 0, 2])
  | 37 => some (.aload_n 0, 1, [])
  | 38 => some (.iload_n 2, 1, [])
  | 39 => some (.invokevirtual 34, 3, [2, 70, 2, 1, 0, 549, 0])
  | 42 => some (.ifCond .le 10, 3, [52])
  | 45 => some (.aload_n 0, 1, [])
  | 46 => some (.iload 5, 2, [])
  | 48 => some (.putfield 38, 3, [1, 1, 2, 0, 0, 215])
  | 51 => some (.return_, 1, [])
  | 52 => some (.iinc 5 (-1), 3, [4294967295])
  | 55 => some (.goto (-52), 3, [3])
  | 58 => some (.aload_n 0, 1, [])
  | 59 => some (.aload_n 1, 1, [])
  | 60 => some (.iload_n 2, 1, [])
  | 61 => some (.iload_n 3, 1, [])
  | 62 => some (.iconst 0, 1, [0])
  | 63 => some (.invokevirtual 30, 3, [2, 66, 2, 1, 0, 529, 0, 0, 0, 2])
  | 66 => some (.aload_n 0, 1, [])
  | 67 => some (.iconst 0, 1, [0])
  | 68 => some (.putfield 38, 3, [1, 1, 2, 0, 0, 215])
  | 71 => some (.return_, 1, [])
  | _ => none
def dec65 (pc : Nat) : Option (ClassFile.Instr × Nat × List Nat) := match pc with
  | 0 => some (.iload_n 1, 1, [])
  | 1 => some (.iconst 1, 1, [1])
  | 2 => some (.if_icmp .lt 8, 3, [10])
  | 5 => some (.iload_n 1, 1, [])
  | 6 => some (.iconst 3, 1, [3])
  | 7 => some (.if_icmp .le 5, 3, [12])
  | 10 => some (.iconst 0, 1, [0])
  | 11 => some (.ireturn, 1, [1])
  | 12 => some (.aload_n 0, 1, [])
  | 13 => some (.getfield 15, 3, [1, 3, 1, 2, 0, 94])
  | 16 => some (.iload_n 1, 1, [])
  | 17 => some (.iaload, 1, [])
  | 18 => some (.ifCond .le 24, 3, [42])
  | 21 => some (.aload_n 0, 1, [])
  | 22 => some (.getfield 9, 3, [1, 3, 0, 2, 0, 92])
  | 25 => some (.iload_n 1, 1, [])
  | 26 => some (.iaload, 1, [])
  | 27 => some (.iconst 1, 1, [1])
  | 28 => some (.iadd, 1, [])
  | 29 => some (.aload_n 0, 1, [])
  | 30 => some (.getfield 15, 3, [1, 3, 1, 2, 0, 94])
  | 33 => some (.iload_n 1, 1, [])
  | 34 => some (.iaload, 1, [])
  | 35 => some (.if_icmp .lt 7, 3, [42])
  | 38 => some (.iconst 1, 1, [1])
  | 39 => some (.goto 4, 3, [43])
  | 42 => some (.iconst 0, 1, [0])
  | 43 => some (.ireturn, 1, [1])
  | _ => none
def dec66_0 (pc : Nat) : Option (ClassFile.Instr × Nat × List Nat) := match pc with
  | 0 => some (.iconst 2, 1, [2])
  | 1 => some (.istore 5, 2, [])
  | 3 => some (.iload 5, 2, [])
  | 5 => some (.iload_n 2, 1, [])
  | 6 => some (.if_icmp .lt 154, 3, [160])
  | 9 => some (.iload 5, 2, [])
  | 11 => some (.ifCond .lt 149, 3, [160])
  | 14 => some (.iload 5, 2, [])
  | 16 => some (.iconst 0, 1, [0])
  | 17 => some (.invokestatic 42, 3, [2, 27, 0, 9, 1, 533, 0, 0])
  | 20 => some (.istore 6, 2, [])
  | 22 => some (.bipush 18, 2, [18])
  | 24 => some (.iload 6, 2, [])
  | 26 => some (.aload_n 1, 1, [])
  | 27 => some (.getfield 46, 3, [1, 6, 0, 2, 1, 141])
  | 30 => some (.iload 5, 2, [])
  | 32 => some (.invokevirtual 50, 3, [2, 25, 2, 7, 0, 534, 0])
  | 35 => some (.iadd, 1, [])
  | 36 => some (.invokestatic 55, 3, [10, 535])
  | 39 => some (.istore 7, 2, [])
  | 41 => some (.iconst 0, 1, [0])
  | 42 => some (.istore 8, 2, [])
  | 44 => some (.iload 6, 2, [])
  | 46 => some (.istore 9, 2, [])
  | 48 => some (.iload 9, 2, [])
  | 50 => some (.iload 7, 2, [])
  | 52 => some (.if_icmp .ge 93, 3, [145])
  | 55 => some (.iload_n 3, 1, [])
  | 56 => some (.aload_n 1, 1, [])
  | 57 => some (.getfield 46, 3, [1, 6, 0, 2, 1, 141])
  | 60 => some (.iload 5, 2, [])
  | 62 => some (.iload 9, 2, [])
  | 64 => some (.invokevirtual 60, 3, [2, 67, 2, 7, 0, 536, 0, 0])
  | 67 => some (.iand, 1, [])
  | 68 => some (.ifCond .ne 7, 3, [75])
  | 71 => some (.iconst 1, 1, [1])
  | 72 => some (.goto 4, 3, [76])
  | 75 => some (.iconst 0, 1, [0])
  | 76 => some (.istore 10, 2, [])
  | 78 => some (.iload 10, 2, [])
  | 80 => some (.ifCond .eq 22, 3, [102])
  | 83 => some (.aload_n 0, 1, [])
  | 84 => some (.aload_n 1, 1, [])
  | 85 => some (.getfield 46, 3, [1, 6, 0, 2, 1, 141])
  | 88 => some (.iload 9, 2, [])
  | 90 => some (.iload 4, 2, [])
  | 92 => some (.invokevirtual 63, 3, [2, 69, 2, 1, 0, 543, 0, 0, 2])
  | 95 => some (.ifCond .eq 7, 3, [102])
  | _ => none
def dec66_1 (pc : Nat) : Option (ClassFile.Instr × Nat × List Nat) := match pc with
  | 98 => some (.iconst 1, 1, [1])
  | 99 => some (.goto 4, 3, [103])
  | 102 => some (.iconst 0, 1, [0])
  | 103 => some (.istore 11, 2, [])
  | 105 => some (.aload_n 0, 1, [])
  | 106 => some (.getfield 9, 3, [1, 1, 0, 2, 0, 212])
  | 109 => some (.iload 9, 2, [])
  | 111 => some (.iload 11, 2, [])
  | 113 => some (.ifCond .eq 12, 3, [125])
  | 116 => some (.aload_n 1, 1, [])
  | 117 => some (.iload 9, 2, [])
  | 119 => some (.invokevirtual 67, 3, [2, 71, 2, 6, 0, 553, 0])
  | 122 => some (.goto 4, 3, [126])
  | 125 => some (.iconst 0, 1, [0])
  | 126 => some (.iastore, 1, [])
  | 127 => some (.iload 8, 2, [])
  | 129 => some (.aload_n 0, 1, [])
  | 130 => some (.getfield 9, 3, [1, 1, 0, 2, 0, 212])
  | 133 => some (.iload 9, 2, [])
  | 135 => some (.iaload, 1, [])
  | 136 => some (.iadd, 1, [])
  | 137 => some (.istore 8, 2, [])
  | 139 => some (.iinc 9 1, 3, [1])
  | 142 => some (.goto (-94), 3, [48])
  | 145 => some (.aload_n 0, 1, [])
  | 146 => some (.getfield 15, 3, [1, 1, 1, 2, 0, 214])
  | 149 => some (.iload 5, 2, [])
  | 151 => some (.iload 8, 2, [])
  | 153 => some (.iastore, 1, [])
  | 154 => some (.iinc 5 (-1), 3, [4294967295])
  | 157 => some (.goto (-154), 3, [3])
  | 160 => some (.return_, 1, [])
  | _ => none
def dec66 (pc : Nat) : Option (ClassFile.Instr × Nat × List Nat) := if pc < 96 then dec66_0 pc else if pc < 161 then dec66_1 pc else none
def dec67 (pc : Nat) : Option (ClassFile.Instr × Nat × List Nat) := match pc with
  | 0 => some (.iload_n 2, 1, [])
  | 1 => some (.ifCond .lt 9, 3, [10])
  | 4 => some (.iload_n 2, 1, [])
  | 5 => some (.bipush 18, 2, [18])
  | 7 => some (.if_icmp .lt 5, 3, [12])
  | 10 => some (.iconst 0, 1, [0])
  | 11 => some (.ireturn, 1, [0])
  | 12 => some (.iload_n 2, 1, [])
  | 13 => some (.invokestatic 75, 3, [2, 28, 0, 9, 1, 371, 0])
  | 16 => some (.iload_n 1, 1, [])
  | 17 => some (.aload_n 0, 1, [])
  | 18 => some (.getfield 27, 3, [1, 7, 5, 2, 0, 62])
  | 21 => some (.iload_n 2, 1, [])
  | 22 => some (.iaload, 1, [])
  | 23 => some (.invokestatic 81, 3, [2, 68, 0, 9, 1, 540, 0, 0])
  | 26 => some (.ior, 1, [])
  | 27 => some (.ireturn, 1, [0])
  | _ => none
def dec68 (pc : Nat) : Option (ClassFile.Instr × Nat × List Nat) := match pc with
  | 0 => some (.iload_n 1, 1, [])
  | 1 => some (.ifCond .le 16, 3, [17])
  | 4 => some (.iconst 1, 1, [1])
  | 5 => some (.bipush 18, 2, [18])
  | 7 => some (.iload_n 0, 1, [])
  | 8 => some (.iconst 4, 1, [4])
  | 9 => some (.imul, 1, [])
  | 10 => some (.iadd, 1, [])
  | 11 => some (.iload_n 1, 1, [])
  | 12 => some (.iadd, 1, [])
  | 13 => some (.ishl, 1, [])
  | 14 => some (.goto 4, 3, [18])
  | 17 => some (.iconst 0, 1, [0])
  | 18 => some (.ireturn, 1, [0])
  | _ => none
def dec69 (pc : Nat) : Option (ClassFile.Instr × Nat × List Nat) := match pc with
  | 0 => some (.iload_n 2, 1, [])
  | 1 => some (.ifCond .lt 9, 3, [10])
  | 4 => some (.iload_n 2, 1, [])
  | 5 => some (.bipush 18, 2, [18])
  | 7 => some (.if_icmp .lt 5, 3, [12])
  | 10 => some (.iconst 0, 1, [0])
  | 11 => some (.ireturn, 1, [1])
  | 12 => some (.aload_n 1, 1, [])
  | 13 => some (.getfield 70, 3, [1, 7, 2, 2, 1, 50])
  | 16 => some (.iload_n 2, 1, [])
  | 17 => some (.iaload, 1, [])
  | 18 => some (.istore 4, 2, [])
  | 20 => some (.iload 4, 2, [])
  | 22 => some (.invokestatic 73, 3, [2, 51, 0, 9, 1, 547, 0])
  | 25 => some (.ifCond .eq 23, 3, [48])
  | 28 => some (.aload_n 0, 1, [])
  | 29 => some (.iload 4, 2, [])
  | 31 => some (.invokestatic 76, 3, [2, 52, 0, 9, 1, 548, 0])
  | 34 => some (.invokevirtual 34, 3, [2, 70, 2, 1, 0, 549, 0])
  | 37 => some (.ifCond .le 7, 3, [44])
  | 40 => some (.iconst 1, 1, [1])
  | 41 => some (.goto 22, 3, [63])
  | 44 => some (.iconst 0, 1, [0])
  | 45 => some (.goto 18, 3, [63])
  | 48 => some (.aload_n 1, 1, [])
  | 49 => some (.getfield 79, 3, [1, 7, 4, 2, 1, 59])
  | 52 => some (.iload_n 2, 1, [])
  | 53 => some (.iaload, 1, [])
  | 54 => some (.iload_n 3, 1, [])
  | 55 => some (.if_icmp .lt 7, 3, [62])
  | 58 => some (.iconst 1, 1, [1])
  | 59 => some (.goto 4, 3, [63])
  | 62 => some (.iconst 0, 1, [0])
  | 63 => some (.ireturn, 1, [1])
  | _ => none
def dec70 (pc : Nat) : Option (ClassFile.Instr × Nat × List Nat) := match pc with
  | 0 => some (.iload_n 1, 1, [])
  | 1 => some (.ifCond .lt 17, 3, [18])
  | 4 => some (.iload_n 1, 1, [])
  | 5 => some (.iconst 3, 1, [3])
  | 6 => some (.if_icmp .ge 12, 3, [18])
  | 9 => some (.aload_n 0, 1, [])
  | 10 => some (.getfield 15, 3, [1, 1, 1, 2, 0, 214])
  | 13 => some (.iload_n 1, 1, [])
  | 14 => some (.iaload, 1, [])
  | 15 => some (.goto 4, 3, [19])
  | 18 => some (.iconst 0, 1, [0])
  | 19 => some (.ireturn, 1, [0])
  | _ => none
def dec71 (pc : Nat) : Option (ClassFile.Instr × Nat × List Nat) := match pc with
  | 0 => some (.iload_n 1, 1, [])
  | 1 => some (.ifCond .lt 9, 3, [10])
  | 4 => some (.iload_n 1, 1, [])
  | 5 => some (.bipush 18, 2, [18])
  | 7 => some (.if_icmp .lt 5, 3, [12])
  | 10 => some (.iconst 0, 1, [0])
  | 11 => some (.ireturn, 1, [0])
  | 12 => some (.aload_n 0, 1, [])
  | 13 => some (.getfield 21, 3, [1, 6, 1, 2, 0, 143])
  | 16 => some (.aload_n 0, 1, [])
  | 17 => some (.getfield 12, 3, [1, 6, 0, 2, 0, 138])
  | 20 => some (.getfield 42, 3, [1, 7, 3, 2, 1, 54])
  | 23 => some (.iload_n 1, 1, [])
  | 24 => some (.iaload, 1, [])
  | 25 => some (.aload_n 0, 1, [])
  | 26 => some (.getfield 12, 3, [1, 6, 0, 2, 0, 138])
  | 29 => some (.getfield 46, 3, [1, 7, 4, 2, 1, 57])
  | 32 => some (.iload_n 1, 1, [])
  | 33 => some (.iaload, 1, [])
  | 34 => some (.invokevirtual 49, 3, [2, 72, 2, 3, 0, 557, 0, 0])
  | 37 => some (.ireturn, 1, [0])
  | _ => none
def dec72 (pc : Nat) : Option (ClassFile.Instr × Nat × List Nat) := match pc with
  | 0 => some (.iload_n 2, 1, [])
  | 1 => some (.iconst 1, 1, [1])
  | 2 => some (.if_icmp .lt 8, 3, [10])
  | 5 => some (.iload_n 2, 1, [])
  | 6 => some (.iconst 3, 1, [3])
  | 7 => some (.if_icmp .le 5, 3, [12])
  | 10 => some (.iload_n 1, 1, [])
  | 11 => some (.ireturn, 1, [0])
  | 12 => some (.iload_n 1, 1, [])
  | 13 => some (.bipush 100, 2, [100])
  | 15 => some (.aload_n 0, 1, [])
  | 16 => some (.getfield 26, 3, [1, 3, 2, 0, 0, 96])
  | 19 => some (.aload_n 0, 1, [])
  | 20 => some (.getfield 9, 3, [1, 3, 0, 2, 0, 92])
  | 23 => some (.iload_n 2, 1, [])
  | 24 => some (.iaload, 1, [])
  | 25 => some (.imul, 1, [])
  | 26 => some (.iadd, 1, [])
  | 27 => some (.imul, 1, [])
  | 28 => some (.bipush 100, 2, [100])
  | 30 => some (.idiv, 1, [])
  | 31 => some (.ireturn, 1, [0])
  | _ => none
def dec73_0 (pc : Nat) : Option (ClassFile.Instr × Nat × List Nat) := match pc with
  | 0 => some (.iload_n 1, 1, [])
  | 1 => some (.iload_n 2, 1, [])
  | 2 => some (.invokestatic 124, 3, [2, 27, 0, 9, 0, 566, 0, 0])
  | 5 => some (.istore 4, 2, [])
  | 7 => some (.iload_n 3, 1, [])
  | 8 => some (.tableswitch 150 0 6 #[44, 60, 76, 92, 108, 124, 140], 44, [])
  | 52 => some (.aload_n 0, 1, [])
  | 53 => some (.getfield 12, 3, [1, 9, 0, 2, 0, 271])
  | 56 => some (.getfield 75, 3, [1, 6, 0, 2, 1, 140])
  | 59 => some (.getfield 302, 3, [1, 7, 2, 2, 1, 52])
  | 62 => some (.iload 4, 2, [])
  | 64 => some (.invokestatic 161, 3, [2, 26, 0, 9, 0, 506, 0, 2])
  | 67 => some (.ireturn, 1, [0])
  | 68 => some (.aload_n 0, 1, [])
  | 69 => some (.getfield 12, 3, [1, 9, 0, 2, 0, 271])
  | 72 => some (.getfield 75, 3, [1, 6, 0, 2, 1, 140])
  | 75 => some (.getfield 121, 3, [1, 7, 3, 2, 1, 55])
  | 78 => some (.iload 4, 2, [])
  | 80 => some (.invokestatic 161, 3, [2, 26, 0, 9, 0, 506, 0, 2])
  | 83 => some (.ireturn, 1, [0])
  | 84 => some (.aload_n 0, 1, [])
  | 85 => some (.getfield 12, 3, [1, 9, 0, 2, 0, 271])
  | 88 => some (.getfield 75, 3, [1, 6, 0, 2, 1, 140])
  | 91 => some (.getfield 305, 3, [1, 7, 4, 2, 1, 61])
  | 94 => some (.iload 4, 2, [])
  | 96 => some (.invokestatic 161, 3, [2, 26, 0, 9, 0, 506, 0, 2])
  | 99 => some (.ireturn, 1, [0])
  | 100 => some (.aload_n 0, 1, [])
  | 101 => some (.getfield 12, 3, [1, 9, 0, 2, 0, 271])
  | 104 => some (.getfield 75, 3, [1, 6, 0, 2, 1, 140])
  | 107 => some (.getfield 308, 3, [1, 7, 5, 2, 1, 63])
  | 110 => some (.iload 4, 2, [])
  | 112 => some (.invokestatic 161, 3, [2, 26, 0, 9, 0, 506, 0, 2])
  | 115 => some (.ireturn, 1, [0])
  | 116 => some (.aload_n 0, 1, [])
  | 117 => some (.getfield 12, 3, [1, 9, 0, 2, 0, 271])
  | 120 => some (.getfield 75, 3, [1, 6, 0, 2, 1, 140])
  | 123 => some (.getfield 311, 3, [1, 7, 6, 2, 1, 65])
  | 126 => some (.iload 4, 2, [])
  | 128 => some (.invokestatic 161, 3, [2, 26, 0, 9, 0, 506, 0, 2])
  | 131 => some (.ireturn, 1, [0])
  | 132 => some (.aload_n 0, 1, [])
  | 133 => some (.getfield 12, 3, [1, 9, 0, 2, 0, 271])
  | 136 => some (.getfield 75, 3, [1, 6, 0, 2, 1, 140])
  | 139 => some (.getfield 314, 3, [1, 7, 7, 2, 1, 67])
  | 142 => some (.iload 4, 2, [])
  | 144 => some (.invokestatic 161, 3, [2, 26, 0, 9, 0, 506, 0, 2])
  | 147 => some (.ireturn, 1, [0])
  | _ => none
def dec73_1 (pc : Nat) : Option (ClassFile.Instr × Nat × List Nat) := match pc with
  | 148 => some (.aload_n 0, 1, [])
  | 149 => some (.getfield 12, 3, [1, 9, 0, 2, 0, 271])
  | 152 => some (.iload 4, 2, [])
  | 154 => some (.invokevirtual 317, 3, [2, 71, 2, 6, 0, 567, 0])
  | 157 => some (.ireturn, 1, [0])
  | 158 => some (.aload_n 0, 1, [])
  | 159 => some (.iload_n 1, 1, [])
  | 160 => some (.invokevirtual 189, 3, [2, 63, 2, 9, 0, 516, 0])
  | 163 => some (.aload_n 0, 1, [])
  | 164 => some (.getfield 50, 3, [1, 9, 6, 2, 0, 277])
  | 167 => some (.iload 4, 2, [])
  | 169 => some (.invokevirtual 192, 3, [2, 74, 2, 1, 0, 568, 0])
  | 172 => some (.ifCond .le 7, 3, [179])
  | 175 => some (.iconst 1, 1, [1])
  | 176 => some (.goto 4, 3, [180])
  | 179 => some (.iconst 0, 1, [0])
  | 180 => some (.ireturn, 1, [0])
  | _ => none
def dec73 (pc : Nat) : Option (ClassFile.Instr × Nat × List Nat) := if pc < 148 then dec73_0 pc else if pc < 181 then dec73_1 pc else none
def dec74 (pc : Nat) : Option (ClassFile.Instr × Nat × List Nat) := match pc with
  | 0 => some (.aload_n 0, 1, [])
  | 1 => some (.getfield 9, 3, [1, 1, 0, 2, 0, 212])
  | 4 => some (.iload_n 1, 1, [])
  | 5 => some (.invokestatic 82, 3, [2, 26, 0, 9, 1, 572, 0, 2])
  | 8 => some (.ireturn, 1, [0])
  | _ => none
def dec75 (pc : Nat) : Option (ClassFile.Instr × Nat × List Nat) := match pc with
  | 0 => some (.aload_n 0, 1, [])
  | 1 => some (.getfield 32, 3, [1, 0, 6, 0, 0, 254])
  | 4 => some (.iload_n 2, 1, [])
  | 5 => some (.if_icmp .ne 4, 3, [9])
  | 8 => some (.return_, 1, [])
  | 9 => some (.aload_n 0, 1, [])
  | 10 => some (.iload_n 2, 1, [])
  | 11 => some (.putfield 32, 3, [1, 0, 6, 0, 0, 254])
  | 14 => some (.aload_n 0, 1, [])
  | 15 => some (.lconst 0, 1, [0])
  | 16 => some (.putfield 36, 3, [1, 0, 5, 1, 0, 252])
  | 19 => some (.aload_n 0, 1, [])
  | 20 => some (.getfield 25, 3, [1, 0, 3, 2, 0, 250])
  | 23 => some (.lconst 0, 1, [0])
  | 24 => some (.invokestatic 40, 3, [2, 76, 0, 13, 0, 577, 1, 2])
  | 27 => some (.aload_n 0, 1, [])
  | 28 => some (.getfield 29, 3, [1, 0, 4, 2, 0, 251])
  | 31 => some (.lconst 0, 1, [0])
  | 32 => some (.invokestatic 40, 3, [2, 76, 0, 13, 0, 577, 1, 2])
  | 35 => some (.aload_n 0, 1, [])
  | 36 => some (.aload_n 1, 1, [])
  | 37 => some (.iconst 0, 1, [0])
  | 38 => some (.aload_n 1, 1, [])
  | 39 => some (.getfield 46, 3, [1, 6, 0, 2, 1, 142])
  | 42 => some (.invokevirtual 52, 3, [2, 24, 2, 7, 0, 580])
  | 45 => some (.iconst (-1), 1, [4294967295])
  | 46 => some (.ldc2_w 58, 3, [9, 1000000000, 581])
  | 49 => some (.invokevirtual 60, 3, [2, 77, 2, 0, 0, 582, 1, 0, 0, 0, 2])
  | 52 => some (.return_, 1, [])
  | _ => none
def dec76 (pc : Nat) : Option (ClassFile.Instr × Nat × List Nat) := match pc with
  | 0 => some (.iconst 0, 1, [0])
  | 1 => some (.istore_n 3, 1, [])
  | 2 => some (.aload_n 0, 1, [])
  | 3 => some (.arraylength, 1, [])
  | 4 => some (.istore 4, 2, [])
  | 6 => some (.iload_n 3, 1, [])
  | 7 => some (.iload 4, 2, [])
  | 9 => some (.if_icmp .ge 13, 3, [22])
  | 12 => some (.aload_n 0, 1, [])
  | 13 => some (.iload_n 3, 1, [])
  | 14 => some (.lload_n 1, 1, [])
  | 15 => some (.lastore, 1, [])
  | 16 => some (.iinc 3 1, 3, [1])
  | 19 => some (.goto (-13), 3, [6])
  | 22 => some (.return_, 1, [])
  | _ => none
def dec77_0 (pc : Nat) : Option (ClassFile.Instr × Nat × List Nat) := match pc with
  | 0 => some (.iload_n 2, 1, [])
  | 1 => some (.aload_n 1, 1, [])
  | 2 => some (.getfield 46, 3, [1, 6, 0, 2, 1, 142])
  | 5 => some (.getfield 68, 3, [1, 7, 0, 2, 1, 46])
  | 8 => some (.aload_n 0, 1, [])
  | 9 => some (.getfield 32, 3, [1, 0, 6, 0, 0, 254])
  | 12 => some (.invokestatic 71, 3, [2, 26, 0, 9, 1, 586, 0, 2])
  | 15 => some (.if_icmp .ge 8, 3, [23])
  | 18 => some (.iload_n 2, 1, [])
  | 19 => some (.iconst 2, 1, [2])
  | 20 => some (.if_icmp .lt 13, 3, [33])
  | 23 => some (.aload_n 0, 1, [])
  | 24 => some (.iload_n 2, 1, [])
  | 25 => some (.iload 4, 2, [])
  | 27 => some (.lload 5, 2, [])
  | 29 => some (.invokevirtual 74, 3, [2, 78, 2, 0, 0, 587, 1, 0, 0])
  | 32 => some (.return_, 1, [])
  | 33 => some (.iload_n 2, 1, [])
  | 34 => some (.ifCond .ne 10, 3, [44])
  | 37 => some (.aload_n 0, 1, [])
  | 38 => some (.getfield 12, 3, [1, 0, 0, 2, 0, 247])
  | 41 => some (.goto 7, 3, [48])
  | 44 => some (.aload_n 0, 1, [])
  | 45 => some (.getfield 18, 3, [1, 0, 1, 2, 0, 248])
  | 48 => some (.astore 7, 2, [])
  | 50 => some (.aload 7, 2, [])
  | 52 => some (.aload_n 1, 1, [])
  | 53 => some (.aload_n 0, 1, [])
  | 54 => some (.getfield 32, 3, [1, 0, 6, 0, 0, 254])
  | 57 => some (.iload_n 3, 1, [])
  | 58 => some (.iload 4, 2, [])
  | 60 => some (.invokevirtual 78, 3, [2, 64, 2, 1, 0, 591, 0, 0, 0, 2])
  | 63 => some (.aload 7, 2, [])
  | 65 => some (.aload_n 0, 1, [])
  | 66 => some (.getfield 32, 3, [1, 0, 6, 0, 0, 254])
  | 69 => some (.invokevirtual 82, 3, [2, 70, 2, 1, 0, 592, 0])
  | 72 => some (.ifCond .le 21, 3, [93])
  | 75 => some (.aload_n 0, 1, [])
  | 76 => some (.aload_n 1, 1, [])
  | 77 => some (.aload_n 0, 1, [])
  | 78 => some (.getfield 32, 3, [1, 0, 6, 0, 0, 254])
  | 81 => some (.iload_n 2, 1, [])
  | 82 => some (.iload_n 3, 1, [])
  | 83 => some (.iload 4, 2, [])
  | 85 => some (.lload 5, 2, [])
  | 87 => some (.invokevirtual 86, 3, [2, 79, 2, 0, 0, 593, 1, 0, 0, 0, 0, 2])
  | 90 => some (.goto 25, 3, [115])
  | 93 => some (.aload_n 0, 1, [])
  | _ => none
def dec77_1 (pc : Nat) : Option (ClassFile.Instr × Nat × List Nat) := match pc with
  | 94 => some (.getfield 21, 3, [1, 0, 2, 2, 0, 249])
  | 97 => some (.iload_n 2, 1, [])
  | 98 => some (.iconst (-1), 1, [4294967295])
  | 99 => some (.invokestatic 90, 3, [2, 44, 0, 9, 1, 605, 0, 0, 2])
  | 102 => some (.aload_n 0, 1, [])
  | 103 => some (.aload_n 1, 1, [])
  | 104 => some (.iload_n 2, 1, [])
  | 105 => some (.iconst 1, 1, [1])
  | 106 => some (.iadd, 1, [])
  | 107 => some (.iload_n 3, 1, [])
  | 108 => some (.iload 4, 2, [])
  | 110 => some (.lload 5, 2, [])
  | 112 => some (.invokevirtual 60, 3, [2, 77, 2, 0, 0, 582, 1, 0, 0, 0, 2])
  | 115 => some (.return_, 1, [])
  | _ => none
def dec77 (pc : Nat) : Option (ClassFile.Instr × Nat × List Nat) := if pc < 94 then dec77_0 pc else if pc < 116 then dec77_1 pc else none
def dec78_0 (pc : Nat) : Option (ClassFile.Instr × Nat × List Nat) := match pc with
  | 0 => some (.iconst 0, 1, [0])
  | 1 => some (.istore 5, 2, [])
  | 3 => some (.iload 5, 2, [])
  | 5 => some (.iload_n 1, 1, [])
  | 6 => some (.if_icmp .ge 79, 3, [85])
  | 9 => some (.iload 5, 2, [])
  | 11 => some (.iconst 2, 1, [2])
  | 12 => some (.if_icmp .ge 73, 3, [85])
  | 15 => some (.aload_n 0, 1, [])
  | 16 => some (.getfield 21, 3, [1, 0, 2, 2, 0, 249])
  | 19 => some (.iload 5, 2, [])
  | 21 => some (.iaload, 1, [])
  | 22 => some (.istore 6, 2, [])
  | 24 => some (.iload 6, 2, [])
  | 26 => some (.ifCond .lt 53, 3, [79])
  | 29 => some (.iload 6, 2, [])
  | 31 => some (.bipush 16, 2, [16])
  | 33 => some (.if_icmp .lt 6, 3, [39])
  | 36 => some (.goto 43, 3, [79])
  | 39 => some (.aload_n 0, 1, [])
  | 40 => some (.dup, 1, [])
  | 41 => some (.getfield 36, 3, [1, 0, 5, 1, 0, 252])
  | 44 => some (.lload_n 3, 1, [])
  | 45 => some (.ladd, 1, [])
  | 46 => some (.putfield 36, 3, [1, 0, 5, 1, 0, 252])
  | 49 => some (.iload 5, 2, [])
  | 51 => some (.ifCond .eq 17, 3, [68])
  | 54 => some (.aload_n 0, 1, [])
  | 55 => some (.getfield 21, 3, [1, 0, 2, 2, 0, 249])
  | 58 => some (.iload 5, 2, [])
  | 60 => some (.iconst 1, 1, [1])
  | 61 => some (.isub, 1, [])
  | 62 => some (.iaload, 1, [])
  | 63 => some (.iload 6, 2, [])
  | 65 => some (.if_icmp .eq 14, 3, [79])
  | 68 => some (.aload_n 0, 1, [])
  | 69 => some (.getfield 25, 3, [1, 0, 3, 2, 0, 250])
  | 72 => some (.iload 6, 2, [])
  | 74 => some (.dup2, 1, [])
  | 75 => some (.laload, 1, [])
  | 76 => some (.lload_n 3, 1, [])
  | 77 => some (.ladd, 1, [])
  | 78 => some (.lastore, 1, [])
  | 79 => some (.iinc 5 1, 3, [1])
  | 82 => some (.goto (-79), 3, [3])
  | 85 => some (.iload_n 2, 1, [])
  | 86 => some (.ifCond .lt 18, 3, [104])
  | 89 => some (.iload_n 2, 1, [])
  | _ => none
def dec78_1 (pc : Nat) : Option (ClassFile.Instr × Nat × List Nat) := match pc with
  | 90 => some (.iconst 3, 1, [3])
  | 91 => some (.if_icmp .gt 13, 3, [104])
  | 94 => some (.aload_n 0, 1, [])
  | 95 => some (.getfield 29, 3, [1, 0, 4, 2, 0, 251])
  | 98 => some (.iload_n 2, 1, [])
  | 99 => some (.dup2, 1, [])
  | 100 => some (.laload, 1, [])
  | 101 => some (.lload_n 3, 1, [])
  | 102 => some (.ladd, 1, [])
  | 103 => some (.lastore, 1, [])
  | 104 => some (.return_, 1, [])
  | _ => none
def dec78 (pc : Nat) : Option (ClassFile.Instr × Nat × List Nat) := if pc < 90 then dec78_0 pc else if pc < 105 then dec78_1 pc else none
end
section
def dec79_0 (pc : Nat) : Option (ClassFile.Instr × Nat × List Nat) := match pc with
  | 0 => some (.aload_n 1, 1, [])
  | 1 => some (.getfield 46, 3, [1, 6, 0, 2, 1, 142])
  | 4 => some (.astore 8, 2, [])
  | 6 => some (.iload_n 3, 1, [])
  | 7 => some (.ifCond .ne 10, 3, [17])
  | 10 => some (.aload_n 0, 1, [])
  | 11 => some (.getfield 12, 3, [1, 0, 0, 2, 0, 247])
  | 14 => some (.goto 7, 3, [21])
  | 17 => some (.aload_n 0, 1, [])
  | 18 => some (.getfield 18, 3, [1, 0, 1, 2, 0, 248])
  | 21 => some (.astore 9, 2, [])
  | 23 => some (.aload 9, 2, [])
  | 25 => some (.iload_n 2, 1, [])
  | 26 => some (.invokevirtual 82, 3, [2, 70, 2, 1, 0, 592, 0])
  | 29 => some (.i2l, 1, [])
  | 30 => some (.lstore 10, 2, [])
  | 32 => some (.iload_n 2, 1, [])
  | 33 => some (.ifCond .lt 10, 3, [43])
  | 36 => some (.lload 10, 2, [])
  | 38 => some (.lconst 0, 1, [0])
  | 39 => some (.lcmp, 1, [])
  | 40 => some (.ifCond .gt 4, 3, [44])
  | 43 => some (.return_, 1, [])
  | 44 => some (.iload_n 2, 1, [])
  | 45 => some (.iconst 0, 1, [0])
  | 46 => some (.invokestatic 94, 3, [2, 27, 0, 9, 1, 597, 0, 0])
  | 49 => some (.istore 12, 2, [])
  | 51 => some (.bipush 18, 2, [18])
  | 53 => some (.iload 12, 2, [])
  | 55 => some (.aload 8, 2, [])
  | 57 => some (.iload_n 2, 1, [])
  | 58 => some (.invokevirtual 98, 3, [2, 25, 2, 7, 0, 598, 0])
  | 61 => some (.iadd, 1, [])
  | 62 => some (.invokestatic 101, 3, [10, 599])
  | 65 => some (.istore 13, 2, [])
  | 67 => some (.iload 12, 2, [])
  | 69 => some (.istore 14, 2, [])
  | 71 => some (.iload 14, 2, [])
  | 73 => some (.iload 13, 2, [])
  | 75 => some (.if_icmp .ge 133, 3, [208])
  | 78 => some (.aload 9, 2, [])
  | 80 => some (.getfield 106, 3, [1, 1, 0, 2, 1, 213])
  | 83 => some (.iload 14, 2, [])
  | 85 => some (.iaload, 1, [])
  | 86 => some (.istore 15, 2, [])
  | 88 => some (.iload 15, 2, [])
  | 90 => some (.ifCond .gt 6, 3, [96])
  | 93 => some (.goto 109, 3, [202])
  | _ => none
def dec79_1 (pc : Nat) : Option (ClassFile.Instr × Nat × List Nat) := match pc with
  | 96 => some (.lload 6, 2, [])
  | 98 => some (.iload 15, 2, [])
  | 100 => some (.i2l, 1, [])
  | 101 => some (.lmul, 1, [])
  | 102 => some (.lload 10, 2, [])
  | 104 => some (.ldiv, 1, [])
  | 105 => some (.lstore 16, 2, [])
  | 107 => some (.iload 4, 2, [])
  | 109 => some (.aload 8, 2, [])
  | 111 => some (.iload_n 2, 1, [])
  | 112 => some (.iload 14, 2, [])
  | 114 => some (.invokevirtual 109, 3, [2, 80, 2, 7, 0, 600, 0, 0])
  | 117 => some (.ior, 1, [])
  | 118 => some (.istore 18, 2, [])
  | 120 => some (.aload 8, 2, [])
  | 122 => some (.getfield 112, 3, [1, 7, 2, 2, 1, 51])
  | 125 => some (.iload 14, 2, [])
  | 127 => some (.iaload, 1, [])
  | 128 => some (.istore 19, 2, [])
  | 130 => some (.iload 19, 2, [])
  | 132 => some (.invokestatic 115, 3, [2, 51, 0, 9, 1, 604, 0])
  | 135 => some (.ifCond .ne 41, 3, [176])
  | 138 => some (.aload_n 0, 1, [])
  | 139 => some (.getfield 21, 3, [1, 0, 2, 2, 0, 249])
  | 142 => some (.iload_n 3, 1, [])
  | 143 => some (.iload 19, 2, [])
  | 145 => some (.invokestatic 90, 3, [2, 44, 0, 9, 1, 605, 0, 0, 2])
  | 148 => some (.aload_n 0, 1, [])
  | 149 => some (.aload_n 1, 1, [])
  | 150 => some (.iload_n 3, 1, [])
  | 151 => some (.iconst 1, 1, [1])
  | 152 => some (.iadd, 1, [])
  | 153 => some (.iload 18, 2, [])
  | 155 => some (.iload 5, 2, [])
  | 157 => some (.aload 8, 2, [])
  | 159 => some (.getfield 119, 3, [1, 7, 4, 2, 1, 60])
  | 162 => some (.iload 14, 2, [])
  | 164 => some (.iaload, 1, [])
  | 165 => some (.invokestatic 122, 3, [11, 606])
  | 168 => some (.lload 16, 2, [])
  | 170 => some (.invokevirtual 60, 3, [2, 77, 2, 0, 0, 582, 1, 0, 0, 0, 2])
  | 173 => some (.goto 29, 3, [202])
  | 176 => some (.iload 19, 2, [])
  | 178 => some (.invokestatic 125, 3, [2, 52, 0, 9, 1, 609, 0])
  | 181 => some (.iload_n 2, 1, [])
  | 182 => some (.if_icmp .le 20, 3, [202])
  | 185 => some (.aload_n 0, 1, [])
  | 186 => some (.aload_n 1, 1, [])
  | _ => none
def dec79_2 (pc : Nat) : Option (ClassFile.Instr × Nat × List Nat) := match pc with
  | 187 => some (.iload 19, 2, [])
  | 189 => some (.invokestatic 125, 3, [2, 52, 0, 9, 1, 609, 0])
  | 192 => some (.iload_n 3, 1, [])
  | 193 => some (.iload 18, 2, [])
  | 195 => some (.iload 5, 2, [])
  | 197 => some (.lload 16, 2, [])
  | 199 => some (.invokevirtual 86, 3, [2, 79, 2, 0, 0, 593, 1, 0, 0, 0, 0, 2])
  | 202 => some (.iinc 14 1, 3, [1])
  | 205 => some (.goto (-134), 3, [71])
  | 208 => some (.return_, 1, [])
  | _ => none
def dec79 (pc : Nat) : Option (ClassFile.Instr × Nat × List Nat) := if pc < 94 then dec79_0 pc else if pc < 187 then dec79_1 pc else if pc < 209 then dec79_2 pc else none
def dec80 (pc : Nat) : Option (ClassFile.Instr × Nat × List Nat) := match pc with
  | 0 => some (.iload_n 2, 1, [])
  | 1 => some (.ifCond .lt 9, 3, [10])
  | 4 => some (.iload_n 2, 1, [])
  | 5 => some (.bipush 18, 2, [18])
  | 7 => some (.if_icmp .lt 5, 3, [12])
  | 10 => some (.iconst 0, 1, [0])
  | 11 => some (.ireturn, 1, [0])
  | 12 => some (.aload_n 0, 1, [])
  | 13 => some (.getfield 30, 3, [1, 7, 6, 2, 0, 64])
  | 16 => some (.iload_n 2, 1, [])
  | 17 => some (.iaload, 1, [])
  | 18 => some (.ifCond .eq 10, 3, [28])
  | 21 => some (.iload_n 2, 1, [])
  | 22 => some (.invokestatic 75, 3, [2, 28, 0, 9, 1, 371, 0])
  | 25 => some (.goto 4, 3, [29])
  | 28 => some (.iconst 0, 1, [0])
  | 29 => some (.istore_n 3, 1, [])
  | 30 => some (.iload_n 3, 1, [])
  | 31 => some (.iload_n 1, 1, [])
  | 32 => some (.aload_n 0, 1, [])
  | 33 => some (.getfield 27, 3, [1, 7, 5, 2, 0, 62])
  | 36 => some (.iload_n 2, 1, [])
  | 37 => some (.iaload, 1, [])
  | 38 => some (.invokestatic 81, 3, [2, 68, 0, 9, 1, 540, 0, 0])
  | 41 => some (.ior, 1, [])
  | 42 => some (.ireturn, 1, [0])
  | _ => none
def dec81 (pc : Nat) : Option (ClassFile.Instr × Nat × List Nat) := match pc with
  | 0 => some (.iload_n 0, 1, [])
  | 1 => some (.iload_n 1, 1, [])
  | 2 => some (.if_icmp .lt 7, 3, [9])
  | 5 => some (.iload_n 0, 1, [])
  | 6 => some (.goto 4, 3, [10])
  | 9 => some (.iload_n 1, 1, [])
  | 10 => some (.ireturn, 1, [0])
  | _ => none
def dec82 (pc : Nat) : Option (ClassFile.Instr × Nat × List Nat) := match pc with
  | 0 => some (.lconst 0, 1, [0])
  | 1 => some (.lstore_n 2, 1, [])
  | 2 => some (.iload_n 1, 1, [])
  | 3 => some (.istore 4, 2, [])
  | 5 => some (.iload 4, 2, [])
  | 7 => some (.iconst 3, 1, [3])
  | 8 => some (.if_icmp .gt 21, 3, [29])
  | 11 => some (.lload_n 2, 1, [])
  | 12 => some (.aload_n 0, 1, [])
  | 13 => some (.getfield 29, 3, [1, 0, 4, 2, 0, 251])
  | 16 => some (.iload 4, 2, [])
  | 18 => some (.invokestatic 64, 3, [2, 83, 0, 9, 1, 614, 0, 2])
  | 21 => some (.ladd, 1, [])
  | 22 => some (.lstore_n 2, 1, [])
  | 23 => some (.iinc 4 1, 3, [1])
  | 26 => some (.goto (-21), 3, [5])
  | 29 => some (.lload_n 2, 1, [])
  | 30 => some (.lreturn, 1, [])
  | _ => none
def dec83 (pc : Nat) : Option (ClassFile.Instr × Nat × List Nat) := match pc with
  | 0 => some (.iload_n 1, 1, [])
  | 1 => some (.ifCond .lt 15, 3, [16])
  | 4 => some (.iload_n 1, 1, [])
  | 5 => some (.aload_n 0, 1, [])
  | 6 => some (.arraylength, 1, [])
  | 7 => some (.if_icmp .ge 9, 3, [16])
  | 10 => some (.aload_n 0, 1, [])
  | 11 => some (.iload_n 1, 1, [])
  | 12 => some (.laload, 1, [])
  | 13 => some (.goto 4, 3, [17])
  | 16 => some (.lconst 0, 1, [0])
  | 17 => some (.lreturn, 1, [])
  | _ => none
def dec84 (pc : Nat) : Option (ClassFile.Instr × Nat × List Nat) := match pc with
  | 0 => some (.aload_n 3, 1, [])
  | 1 => some (.iconst 0, 1, [0])
  | 2 => some (.aload_n 0, 1, [])
  | 3 => some (.iload_n 1, 1, [])
  | 4 => some (.iload_n 2, 1, [])
  | 5 => some (.invokevirtual 7, 3, [2, 85, 2, 9, 0, 623, 0, 0])
  | 8 => some (.i2l, 1, [])
  | 9 => some (.lastore, 1, [])
  | 10 => some (.goto 11, 3, [21])
  | 13 => some (.astore 4, 2, [])
  | 15 => some (.iconst 1, 1, [1])
  | 16 => some (.ireturn, 1, [0])
  | 17 => some (.astore 4, 2, [])
  | 19 => some (.iconst 2, 1, [2])
  | 20 => some (.ireturn, 1, [0])
  | 21 => some (.iconst 0, 1, [0])
  | 22 => some (.ireturn, 1, [0])
  | _ => none
def dec85 (pc : Nat) : Option (ClassFile.Instr × Nat × List Nat) := match pc with
  | 0 => some (.iload_n 1, 1, [])
  | 1 => some (.invokestatic 64, 3, [2, 86, 0, 9, 0, 627, 0])
  | 4 => some (.iload_n 2, 1, [])
  | 5 => some (.iconst 1, 1, [1])
  | 6 => some (.iconst 2, 1, [2])
  | 7 => some (.invokestatic 68, 3, [2, 87, 0, 9, 0, 697, 0, 0, 0])
  | 10 => some (.aload_n 0, 1, [])
  | 11 => some (.invokevirtual 72, 3, [2, 11, 2, 9, 0, 303])
  | 14 => some (.aload_n 0, 1, [])
  | 15 => some (.getfield 12, 3, [1, 9, 0, 2, 0, 271])
  | 18 => some (.getfield 75, 3, [1, 6, 0, 2, 1, 140])
  | 21 => some (.getfield 78, 3, [1, 7, 0, 2, 1, 43])
  | 24 => some (.iload_n 1, 1, [])
  | 25 => some (.iload_n 2, 1, [])
  | 26 => some (.invokestatic 82, 3, [2, 88, 0, 9, 0, 716, 0, 0, 2])
  | 29 => some (.ireturn, 1, [0])
  | _ => none
def dec86 (pc : Nat) : Option (ClassFile.Instr × Nat × List Nat) := match pc with
  | 0 => some (.iload_n 0, 1, [])
  | 1 => some (.ifCond .lt 8, 3, [9])
  | 4 => some (.iload_n 0, 1, [])
  | 5 => some (.iconst 3, 1, [3])
  | 6 => some (.if_icmp .lt 14, 3, [20])
  | 9 => some (.new 279, 3, [6, 0, 630])
  | 12 => some (.dup, 1, [])
  | 13 => some (.ldc_w 281, 3, [])
  | 16 => some (.invokespecial 283, 3, [])
  | 19 => some (.athrow, 1, [])
  | 20 => some (.return_, 1, [])
  | _ => none
def dec87 (pc : Nat) : Option (ClassFile.Instr × Nat × List Nat) := match pc with
  | 0 => some (.iload_n 0, 1, [])
  | 1 => some (.iload_n 1, 1, [])
  | 2 => some (.if_icmp .lt 8, 3, [10])
  | 5 => some (.iload_n 0, 1, [])
  | 6 => some (.iload_n 2, 1, [])
  | 7 => some (.if_icmp .le 14, 3, [21])
  | 10 => some (.new 90, 3, [6, 1, 700])
  | 13 => some (.dup, 1, [])
  | 14 => some (.ldc_w 290, 3, [])
  | 17 => some (.invokespecial 94, 3, [])
  | 20 => some (.athrow, 1, [])
  | 21 => some (.return_, 1, [])
  | _ => none
def dec88 (pc : Nat) : Option (ClassFile.Instr × Nat × List Nat) := match pc with
  | 0 => some (.aload_n 0, 1, [])
  | 1 => some (.iload_n 1, 1, [])
  | 2 => some (.invokestatic 161, 3, [2, 26, 0, 9, 0, 506, 0, 2])
  | 5 => some (.istore_n 3, 1, [])
  | 6 => some (.aload_n 0, 1, [])
  | 7 => some (.iload_n 1, 1, [])
  | 8 => some (.iload_n 2, 1, [])
  | 9 => some (.invokestatic 233, 3, [2, 44, 0, 9, 0, 719, 0, 0, 2])
  | 12 => some (.iload_n 3, 1, [])
  | 13 => some (.ireturn, 1, [0])
  | _ => none
def dec89 (pc : Nat) : Option (ClassFile.Instr × Nat × List Nat) := match pc with
  | 0 => some (.aload 7, 2, [])
  | 2 => some (.iconst 0, 1, [0])
  | 3 => some (.aload_n 0, 1, [])
  | 4 => some (.iload_n 1, 1, [])
  | 5 => some (.iload_n 2, 1, [])
  | 6 => some (.iload_n 3, 1, [])
  | 7 => some (.iload 4, 2, [])
  | 9 => some (.iload 5, 2, [])
  | 11 => some (.iload 6, 2, [])
  | 13 => some (.invokevirtual 17, 3, [2, 90, 2, 9, 0, 724, 0, 0, 0, 0, 0, 0])
  | 16 => some (.i2l, 1, [])
  | 17 => some (.lastore, 1, [])
  | 18 => some (.goto 15, 3, [33])
  | 21 => some (.astore 8, 2, [])
  | 23 => some (.iconst 1, 1, [1])
  | 24 => some (.ireturn, 1, [0])
  | 25 => some (.astore 8, 2, [])
  | 27 => some (.iconst 2, 1, [2])
  | 28 => some (.ireturn, 1, [0])
  | 29 => some (.astore 8, 2, [])
  | 31 => some (.iconst 3, 1, [3])
  | 32 => some (.ireturn, 1, [0])
  | 33 => some (.iconst 0, 1, [0])
  | 34 => some (.ireturn, 1, [0])
  | _ => none
def dec90_0 (pc : Nat) : Option (ClassFile.Instr × Nat × List Nat) := match pc with
  | 0 => some (.iload_n 1, 1, [])
  | 1 => some (.invokestatic 64, 3, [2, 86, 0, 9, 0, 627, 0])
  | 4 => some (.iload_n 2, 1, [])
  | 5 => some (.iconst 0, 1, [0])
  | 6 => some (.bipush 18, 2, [18])
  | 8 => some (.invokestatic 68, 3, [2, 87, 0, 9, 0, 697, 0, 0, 0])
  | 11 => some (.iload_n 1, 1, [])
  | 12 => some (.iload_n 2, 1, [])
  | 13 => some (.invokestatic 86, 3, [2, 50, 0, 9, 0, 728, 0, 0])
  | 16 => some (.ifCond .eq 13, 3, [29])
  | 19 => some (.new 90, 3, [6, 1, 700])
  | 22 => some (.dup, 1, [])
  | 23 => some (.ldc 92, 2, [])
  | 25 => some (.invokespecial 94, 3, [])
  | 28 => some (.athrow, 1, [])
  | 29 => some (.iload_n 3, 1, [])
  | 30 => some (.iconst 1, 1, [1])
  | 31 => some (.sipush 1000, 3, [1000])
  | 34 => some (.invokestatic 68, 3, [2, 87, 0, 9, 0, 697, 0, 0, 0])
  | 37 => some (.iload 4, 2, [])
  | 39 => some (.iconst 0, 1, [0])
  | 40 => some (.iload_n 2, 1, [])
  | 41 => some (.invokestatic 97, 3, [2, 53, 0, 9, 0, 730, 0])
  | 44 => some (.invokestatic 68, 3, [2, 87, 0, 9, 0, 697, 0, 0, 0])
  | 47 => some (.iload 5, 2, [])
  | 49 => some (.iconst 0, 1, [0])
  | 50 => some (.iconst 3, 1, [3])
  | 51 => some (.invokestatic 68, 3, [2, 87, 0, 9, 0, 697, 0, 0, 0])
  | 54 => some (.aload_n 0, 1, [])
  | 55 => some (.getfield 12, 3, [1, 9, 0, 2, 0, 271])
  | 58 => some (.getfield 75, 3, [1, 6, 0, 2, 1, 140])
  | 61 => some (.iload_n 1, 1, [])
  | 62 => some (.invokevirtual 101, 3, [2, 25, 2, 7, 0, 515, 0])
  | 65 => some (.bipush 6, 2, [6])
  | 67 => some (.if_icmp .lt 13, 3, [80])
  | 70 => some (.new 104, 3, [6, 2, 731])
  | 73 => some (.dup, 1, [])
  | 74 => some (.ldc 106, 2, [])
  | 76 => some (.invokespecial 108, 3, [])
  | 79 => some (.athrow, 1, [])
  | 80 => some (.aload_n 0, 1, [])
  | 81 => some (.invokevirtual 72, 3, [2, 11, 2, 9, 0, 303])
  | 84 => some (.aload_n 0, 1, [])
  | 85 => some (.getfield 12, 3, [1, 9, 0, 2, 0, 271])
  | 88 => some (.getfield 75, 3, [1, 6, 0, 2, 1, 140])
  | 91 => some (.iload_n 1, 1, [])
  | 92 => some (.iload_n 2, 1, [])
  | 93 => some (.iload_n 3, 1, [])
  | _ => none
def dec90_1 (pc : Nat) : Option (ClassFile.Instr × Nat × List Nat) := match pc with
  | 94 => some (.iload 4, 2, [])
  | 96 => some (.iload 5, 2, [])
  | 98 => some (.iload 6, 2, [])
  | 100 => some (.invokevirtual 109, 3, [2, 55, 2, 7, 0, 747, 0, 0, 0, 0, 0, 0])
  | 103 => some (.ireturn, 1, [0])
  | _ => none
def dec90 (pc : Nat) : Option (ClassFile.Instr × Nat × List Nat) := if pc < 94 then dec90_0 pc else if pc < 104 then dec90_1 pc else none
def dec91 (pc : Nat) : Option (ClassFile.Instr × Nat × List Nat) := match pc with
  | 0 => some (.aload_n 3, 1, [])
  | 1 => some (.iconst 0, 1, [0])
  | 2 => some (.aload_n 0, 1, [])
  | 3 => some (.iload_n 1, 1, [])
  | 4 => some (.iload_n 2, 1, [])
  | 5 => some (.invokevirtual 23, 3, [2, 92, 2, 9, 0, 751, 0, 0])
  | 8 => some (.i2l, 1, [])
  | 9 => some (.lastore, 1, [])
  | 10 => some (.goto 7, 3, [17])
  | 13 => some (.astore 4, 2, [])
  | 15 => some (.iconst 1, 1, [1])
  | 16 => some (.ireturn, 1, [0])
  | 17 => some (.iconst 0, 1, [0])
  | 18 => some (.ireturn, 1, [0])
  | _ => none
def dec92 (pc : Nat) : Option (ClassFile.Instr × Nat × List Nat) := match pc with
  | 0 => some (.aload_n 0, 1, [])
  | 1 => some (.iload_n 1, 1, [])
  | 2 => some (.iload_n 2, 1, [])
  | 3 => some (.invokevirtual 113, 3, [2, 93, 2, 9, 0, 755, 0, 0])
  | 6 => some (.aload_n 0, 1, [])
  | 7 => some (.invokevirtual 72, 3, [2, 11, 2, 9, 0, 303])
  | 10 => some (.aload_n 0, 1, [])
  | 11 => some (.getfield 12, 3, [1, 9, 0, 2, 0, 271])
  | 14 => some (.getfield 75, 3, [1, 6, 0, 2, 1, 140])
  | 17 => some (.iload_n 1, 1, [])
  | 18 => some (.iload_n 2, 1, [])
  | 19 => some (.invokevirtual 117, 3, [2, 94, 2, 7, 0, 760, 0, 0])
  | 22 => some (.ireturn, 1, [0])
  | _ => none
def dec93 (pc : Nat) : Option (ClassFile.Instr × Nat × List Nat) := match pc with
  | 0 => some (.iload_n 1, 1, [])
  | 1 => some (.invokestatic 64, 3, [2, 86, 0, 9, 0, 627, 0])
  | 4 => some (.iload_n 2, 1, [])
  | 5 => some (.ifCond .lt 18, 3, [23])
  | 8 => some (.iload_n 2, 1, [])
  | 9 => some (.aload_n 0, 1, [])
  | 10 => some (.getfield 12, 3, [1, 9, 0, 2, 0, 271])
  | 13 => some (.getfield 75, 3, [1, 6, 0, 2, 1, 140])
  | 16 => some (.iload_n 1, 1, [])
  | 17 => some (.invokevirtual 101, 3, [2, 25, 2, 7, 0, 515, 0])
  | 20 => some (.if_icmp .lt 14, 3, [34])
  | 23 => some (.new 279, 3, [6, 0, 630])
  | 26 => some (.dup, 1, [])
  | 27 => some (.ldc_w 284, 3, [])
  | 30 => some (.invokespecial 283, 3, [])
  | 33 => some (.athrow, 1, [])
  | 34 => some (.return_, 1, [])
  | _ => none
def dec94 (pc : Nat) : Option (ClassFile.Instr × Nat × List Nat) := match pc with
  | 0 => some (.aload_n 0, 1, [])
  | 1 => some (.iload_n 1, 1, [])
  | 2 => some (.invokevirtual 50, 3, [2, 25, 2, 7, 0, 361, 0])
  | 5 => some (.iconst 1, 1, [1])
  | 6 => some (.isub, 1, [])
  | 7 => some (.istore_n 3, 1, [])
  | 8 => some (.iload_n 2, 1, [])
  | 9 => some (.istore 4, 2, [])
  | 11 => some (.iload 4, 2, [])
  | 13 => some (.iload_n 3, 1, [])
  | 14 => some (.if_icmp .ge 27, 3, [41])
  | 17 => some (.aload_n 0, 1, [])
  | 18 => some (.iload_n 1, 1, [])
  | 19 => some (.iload 4, 2, [])
  | 21 => some (.iconst 1, 1, [1])
  | 22 => some (.iadd, 1, [])
  | 23 => some (.invokestatic 54, 3, [2, 27, 0, 9, 1, 368, 0, 0])
  | 26 => some (.iload_n 1, 1, [])
  | 27 => some (.iload 4, 2, [])
  | 29 => some (.invokestatic 54, 3, [2, 27, 0, 9, 1, 368, 0, 0])
  | 32 => some (.invokevirtual 62, 3, [2, 95, 2, 7, 0, 764, 0, 0])
  | 35 => some (.iinc 4 1, 3, [1])
  | 38 => some (.goto (-27), 3, [11])
  | 41 => some (.aload_n 0, 1, [])
  | 42 => some (.getfield 15, 3, [1, 7, 1, 2, 0, 47])
  | 45 => some (.iload_n 1, 1, [])
  | 46 => some (.iload_n 3, 1, [])
  | 47 => some (.invokestatic 58, 3, [2, 44, 0, 9, 1, 481, 0, 0, 2])
  | 50 => some (.iload_n 3, 1, [])
  | 51 => some (.ireturn, 1, [0])
  | _ => none
def dec95_0 (pc : Nat) : Option (ClassFile.Instr × Nat × List Nat) := match pc with
  | 0 => some (.aload_n 0, 1, [])
  | 1 => some (.getfield 18, 3, [1, 7, 2, 2, 0, 48])
  | 4 => some (.iload_n 2, 1, [])
  | 5 => some (.aload_n 0, 1, [])
  | 6 => some (.getfield 18, 3, [1, 7, 2, 2, 0, 48])
  | 9 => some (.iload_n 1, 1, [])
  | 10 => some (.invokestatic 46, 3, [2, 26, 0, 9, 1, 365, 0, 2])
  | 13 => some (.invokestatic 58, 3, [2, 44, 0, 9, 1, 481, 0, 0, 2])
  | 16 => some (.aload_n 0, 1, [])
  | 17 => some (.getfield 21, 3, [1, 7, 3, 2, 0, 53])
  | 20 => some (.iload_n 2, 1, [])
  | 21 => some (.aload_n 0, 1, [])
  | 22 => some (.getfield 21, 3, [1, 7, 3, 2, 0, 53])
  | 25 => some (.iload_n 1, 1, [])
  | 26 => some (.invokestatic 46, 3, [2, 26, 0, 9, 1, 365, 0, 2])
  | 29 => some (.invokestatic 58, 3, [2, 44, 0, 9, 1, 481, 0, 0, 2])
  | 32 => some (.aload_n 0, 1, [])
  | 33 => some (.getfield 24, 3, [1, 7, 4, 2, 0, 56])
  | 36 => some (.iload_n 2, 1, [])
  | 37 => some (.aload_n 0, 1, [])
  | 38 => some (.getfield 24, 3, [1, 7, 4, 2, 0, 56])
  | 41 => some (.iload_n 1, 1, [])
  | 42 => some (.invokestatic 46, 3, [2, 26, 0, 9, 1, 365, 0, 2])
  | 45 => some (.invokestatic 58, 3, [2, 44, 0, 9, 1, 481, 0, 0, 2])
  | 48 => some (.aload_n 0, 1, [])
  | 49 => some (.getfield 27, 3, [1, 7, 5, 2, 0, 62])
  | 52 => some (.iload_n 2, 1, [])
  | 53 => some (.aload_n 0, 1, [])
  | 54 => some (.getfield 27, 3, [1, 7, 5, 2, 0, 62])
  | 57 => some (.iload_n 1, 1, [])
  | 58 => some (.invokestatic 46, 3, [2, 26, 0, 9, 1, 365, 0, 2])
  | 61 => some (.invokestatic 58, 3, [2, 44, 0, 9, 1, 481, 0, 0, 2])
  | 64 => some (.aload_n 0, 1, [])
  | 65 => some (.getfield 30, 3, [1, 7, 6, 2, 0, 64])
  | 68 => some (.iload_n 2, 1, [])
  | 69 => some (.aload_n 0, 1, [])
  | 70 => some (.getfield 30, 3, [1, 7, 6, 2, 0, 64])
  | 73 => some (.iload_n 1, 1, [])
  | 74 => some (.invokestatic 46, 3, [2, 26, 0, 9, 1, 365, 0, 2])
  | 77 => some (.invokestatic 58, 3, [2, 44, 0, 9, 1, 481, 0, 0, 2])
  | 80 => some (.aload_n 0, 1, [])
  | 81 => some (.getfield 33, 3, [1, 7, 7, 2, 0, 66])
  | 84 => some (.iload_n 2, 1, [])
  | 85 => some (.aload_n 0, 1, [])
  | 86 => some (.getfield 33, 3, [1, 7, 7, 2, 0, 66])
  | 89 => some (.iload_n 1, 1, [])
  | 90 => some (.invokestatic 46, 3, [2, 26, 0, 9, 1, 365, 0, 2])
  | 93 => some (.invokestatic 58, 3, [2, 44, 0, 9, 1, 481, 0, 0, 2])
  | _ => none
def dec95_1 (pc : Nat) : Option (ClassFile.Instr × Nat × List Nat) := match pc with
  | 96 => some (.return_, 1, [])
  | _ => none
def dec95 (pc : Nat) : Option (ClassFile.Instr × Nat × List Nat) := if pc < 94 then dec95_0 pc else if pc < 97 then dec95_1 pc else none
def dec96 (pc : Nat) : Option (ClassFile.Instr × Nat × List Nat) := match pc with
  | 0 => some (.aload 4, 2, [])
  | 2 => some (.iconst 0, 1, [0])
  | 3 => some (.aload_n 0, 1, [])
  | 4 => some (.iload_n 1, 1, [])
  | 5 => some (.iload_n 2, 1, [])
  | 6 => some (.iload_n 3, 1, [])
  | 7 => some (.invokevirtual 26, 3, [2, 97, 2, 9, 0, 771, 0, 0, 0])
  | 10 => some (.i2l, 1, [])
  | 11 => some (.lastore, 1, [])
  | 12 => some (.goto 11, 3, [23])
  | 15 => some (.astore 5, 2, [])
  | 17 => some (.iconst 1, 1, [1])
  | 18 => some (.ireturn, 1, [0])
  | 19 => some (.astore 5, 2, [])
  | 21 => some (.iconst 2, 1, [2])
  | 22 => some (.ireturn, 1, [0])
  | 23 => some (.iconst 0, 1, [0])
  | 24 => some (.ireturn, 1, [0])
  | _ => none
def dec97 (pc : Nat) : Option (ClassFile.Instr × Nat × List Nat) := match pc with
  | 0 => some (.aload_n 0, 1, [])
  | 1 => some (.iload_n 1, 1, [])
  | 2 => some (.iload_n 2, 1, [])
  | 3 => some (.invokevirtual 113, 3, [2, 93, 2, 9, 0, 755, 0, 0])
  | 6 => some (.iload_n 3, 1, [])
  | 7 => some (.iconst 1, 1, [1])
  | 8 => some (.sipush 1000, 3, [1000])
  | 11 => some (.invokestatic 68, 3, [2, 87, 0, 9, 0, 697, 0, 0, 0])
  | 14 => some (.aload_n 0, 1, [])
  | 15 => some (.invokevirtual 72, 3, [2, 11, 2, 9, 0, 303])
  | 18 => some (.aload_n 0, 1, [])
  | 19 => some (.getfield 12, 3, [1, 9, 0, 2, 0, 271])
  | 22 => some (.getfield 75, 3, [1, 6, 0, 2, 1, 140])
  | 25 => some (.getfield 121, 3, [1, 7, 3, 2, 1, 55])
  | 28 => some (.iload_n 1, 1, [])
  | 29 => some (.iload_n 2, 1, [])
  | 30 => some (.invokestatic 124, 3, [2, 27, 0, 9, 0, 566, 0, 0])
  | 33 => some (.iload_n 3, 1, [])
  | 34 => some (.invokestatic 82, 3, [2, 88, 0, 9, 0, 716, 0, 0, 2])
  | 37 => some (.ireturn, 1, [0])
  | _ => none
def dec98 (pc : Nat) : Option (ClassFile.Instr × Nat × List Nat) := match pc with
  | 0 => some (.aload 4, 2, [])
  | 2 => some (.iconst 0, 1, [0])
  | 3 => some (.aload_n 0, 1, [])
  | 4 => some (.iload_n 1, 1, [])
  | 5 => some (.iload_n 2, 1, [])
  | 6 => some (.iload_n 3, 1, [])
  | 7 => some (.invokevirtual 30, 3, [2, 99, 2, 9, 0, 778, 0, 0, 0])
  | 10 => some (.i2l, 1, [])
  | 11 => some (.lastore, 1, [])
  | 12 => some (.goto 11, 3, [23])
  | 15 => some (.astore 5, 2, [])
  | 17 => some (.iconst 1, 1, [1])
  | 18 => some (.ireturn, 1, [0])
  | 19 => some (.astore 5, 2, [])
  | 21 => some (.iconst 2, 1, [2])
  | 22 => some (.ireturn, 1, [0])
  | 23 => some (.iconst 0, 1, [0])
  | 24 => some (.ireturn, 1, [0])
  | _ => none
def dec99 (pc : Nat) : Option (ClassFile.Instr × Nat × List Nat) := match pc with
  | 0 => some (.aload_n 0, 1, [])
  | 1 => some (.iload_n 1, 1, [])
  | 2 => some (.iload_n 2, 1, [])
  | 3 => some (.invokevirtual 113, 3, [2, 93, 2, 9, 0, 755, 0, 0])
  | 6 => some (.iload_n 3, 1, [])
  | 7 => some (.iconst 0, 1, [0])
  | 8 => some (.bipush 7, 2, [7])
  | 10 => some (.invokestatic 68, 3, [2, 87, 0, 9, 0, 697, 0, 0, 0])
  | 13 => some (.aload_n 0, 1, [])
  | 14 => some (.iload_n 1, 1, [])
  | 15 => some (.iload_n 2, 1, [])
  | 16 => some (.iload_n 3, 1, [])
  | 17 => some (.invokevirtual 131, 3, [2, 73, 2, 9, 0, 562, 0, 0, 0])
  | 20 => some (.ireturn, 1, [0])
  | _ => none
def dec100 (pc : Nat) : Option (ClassFile.Instr × Nat × List Nat) := match pc with
  | 0 => some (.aload_n 3, 1, [])
  | 1 => some (.iconst 0, 1, [0])
  | 2 => some (.aload_n 0, 1, [])
  | 3 => some (.iload_n 1, 1, [])
  | 4 => some (.iload_n 2, 1, [])
  | 5 => some (.invokevirtual 33, 3, [2, 101, 2, 9, 0, 785, 0, 0])
  | 8 => some (.i2l, 1, [])
  | 9 => some (.lastore, 1, [])
  | 10 => some (.goto 11, 3, [21])
  | 13 => some (.astore 4, 2, [])
  | 15 => some (.iconst 1, 1, [1])
  | 16 => some (.ireturn, 1, [0])
  | 17 => some (.astore 4, 2, [])
  | 19 => some (.iconst 2, 1, [2])
  | 20 => some (.ireturn, 1, [0])
  | 21 => some (.iconst 0, 1, [0])
  | 22 => some (.ireturn, 1, [0])
  | _ => none
def dec101 (pc : Nat) : Option (ClassFile.Instr × Nat × List Nat) := match pc with
  | 0 => some (.iload_n 1, 1, [])
  | 1 => some (.invokestatic 64, 3, [2, 86, 0, 9, 0, 627, 0])
  | 4 => some (.iload_n 2, 1, [])
  | 5 => some (.iconst 0, 1, [0])
  | 6 => some (.iconst 3, 1, [3])
  | 7 => some (.invokestatic 68, 3, [2, 87, 0, 9, 0, 697, 0, 0, 0])
  | 10 => some (.aload_n 0, 1, [])
  | 11 => some (.iload_n 1, 1, [])
  | 12 => some (.iload_n 2, 1, [])
  | 13 => some (.invokevirtual 135, 3, [2, 62, 2, 9, 0, 511, 0, 0])
  | 16 => some (.ireturn, 1, [0])
  | _ => none
def dec102 (pc : Nat) : Option (ClassFile.Instr × Nat × List Nat) := match pc with
  | 0 => some (.aload_n 3, 1, [])
  | 1 => some (.iconst 0, 1, [0])
  | 2 => some (.aload_n 0, 1, [])
  | 3 => some (.iload_n 1, 1, [])
  | 4 => some (.iload_n 2, 1, [])
  | 5 => some (.invokevirtual 36, 3, [2, 103, 2, 9, 0, 792, 0, 0])
  | 8 => some (.i2l, 1, [])
  | 9 => some (.lastore, 1, [])
  | 10 => some (.goto 11, 3, [21])
  | 13 => some (.astore 4, 2, [])
  | 15 => some (.iconst 1, 1, [1])
  | 16 => some (.ireturn, 1, [0])
  | 17 => some (.astore 4, 2, [])
  | 19 => some (.iconst 2, 1, [2])
  | 20 => some (.ireturn, 1, [0])
  | 21 => some (.iconst 0, 1, [0])
  | 22 => some (.ireturn, 1, [0])
  | _ => none
def dec103 (pc : Nat) : Option (ClassFile.Instr × Nat × List Nat) := match pc with
  | 0 => some (.iload_n 1, 1, [])
  | 1 => some (.invokestatic 138, 3, [2, 104, 0, 9, 0, 796, 0])
  | 4 => some (.iload_n 2, 1, [])
  | 5 => some (.iconst 0, 1, [0])
  | 6 => some (.sipush 200, 3, [200])
  | 9 => some (.invokestatic 68, 3, [2, 87, 0, 9, 0, 697, 0, 0, 0])
  | 12 => some (.aload_n 0, 1, [])
  | 13 => some (.invokevirtual 72, 3, [2, 11, 2, 9, 0, 303])
  | 16 => some (.aload_n 0, 1, [])
  | 17 => some (.getfield 12, 3, [1, 9, 0, 2, 0, 271])
  | 20 => some (.getfield 141, 3, [1, 6, 1, 2, 1, 146])
  | 23 => some (.getfield 145, 3, [1, 3, 0, 2, 1, 93])
  | 26 => some (.iload_n 1, 1, [])
  | 27 => some (.iload_n 2, 1, [])
  | 28 => some (.invokestatic 82, 3, [2, 88, 0, 9, 0, 716, 0, 0, 2])
  | 31 => some (.ireturn, 1, [0])
  | _ => none
def dec104 (pc : Nat) : Option (ClassFile.Instr × Nat × List Nat) := match pc with
  | 0 => some (.iload_n 0, 1, [])
  | 1 => some (.iconst 1, 1, [1])
  | 2 => some (.if_icmp .lt 8, 3, [10])
  | 5 => some (.iload_n 0, 1, [])
  | 6 => some (.iconst 3, 1, [3])
  | 7 => some (.if_icmp .le 14, 3, [21])
  | 10 => some (.new 279, 3, [6, 0, 630])
  | 13 => some (.dup, 1, [])
  | 14 => some (.ldc_w 288, 3, [])
  | 17 => some (.invokespecial 283, 3, [])
  | 20 => some (.athrow, 1, [])
  | 21 => some (.return_, 1, [])
  | _ => none
def dec105 (pc : Nat) : Option (ClassFile.Instr × Nat × List Nat) := match pc with
  | 0 => some (.aload_n 3, 1, [])
  | 1 => some (.iconst 0, 1, [0])
  | 2 => some (.aload_n 0, 1, [])
  | 3 => some (.iload_n 1, 1, [])
  | 4 => some (.iload_n 2, 1, [])
  | 5 => some (.invokevirtual 39, 3, [2, 106, 2, 9, 0, 803, 0, 0])
  | 8 => some (.i2l, 1, [])
  | 9 => some (.lastore, 1, [])
  | 10 => some (.goto 11, 3, [21])
  | 13 => some (.astore 4, 2, [])
  | 15 => some (.iconst 1, 1, [1])
  | 16 => some (.ireturn, 1, [0])
  | 17 => some (.astore 4, 2, [])
  | 19 => some (.iconst 2, 1, [2])
  | 20 => some (.ireturn, 1, [0])
  | 21 => some (.iconst 0, 1, [0])
  | 22 => some (.ireturn, 1, [0])
  | _ => none
def dec106 (pc : Nat) : Option (ClassFile.Instr × Nat × List Nat) := match pc with
  | 0 => some (.iload_n 1, 1, [])
  | 1 => some (.invokestatic 138, 3, [2, 104, 0, 9, 0, 796, 0])
  | 4 => some (.iload_n 2, 1, [])
  | 5 => some (.iconst 0, 1, [0])
  | 6 => some (.sipush 200, 3, [200])
  | 9 => some (.invokestatic 68, 3, [2, 87, 0, 9, 0, 697, 0, 0, 0])
  | 12 => some (.aload_n 0, 1, [])
  | 13 => some (.invokevirtual 72, 3, [2, 11, 2, 9, 0, 303])
  | 16 => some (.aload_n 0, 1, [])
  | 17 => some (.getfield 12, 3, [1, 9, 0, 2, 0, 271])
  | 20 => some (.getfield 141, 3, [1, 6, 1, 2, 1, 146])
  | 23 => some (.getfield 150, 3, [1, 3, 1, 2, 1, 95])
  | 26 => some (.iload_n 1, 1, [])
  | 27 => some (.iload_n 2, 1, [])
  | 28 => some (.invokestatic 82, 3, [2, 88, 0, 9, 0, 716, 0, 0, 2])
  | 31 => some (.ireturn, 1, [0])
  | _ => none
def dec107 (pc : Nat) : Option (ClassFile.Instr × Nat × List Nat) := match pc with
  | 0 => some (.aload_n 3, 1, [])
  | 1 => some (.iconst 0, 1, [0])
  | 2 => some (.aload_n 0, 1, [])
  | 3 => some (.iload_n 1, 1, [])
  | 4 => some (.iload_n 2, 1, [])
  | 5 => some (.invokevirtual 42, 3, [2, 108, 2, 9, 0, 810, 0, 0])
  | 8 => some (.i2l, 1, [])
  | 9 => some (.lastore, 1, [])
  | 10 => some (.goto 7, 3, [17])
  | 13 => some (.astore 4, 2, [])
  | 15 => some (.iconst 1, 1, [1])
  | 16 => some (.ireturn, 1, [0])
  | 17 => some (.iconst 0, 1, [0])
  | 18 => some (.ireturn, 1, [0])
  | _ => none
def dec108 (pc : Nat) : Option (ClassFile.Instr × Nat × List Nat) := match pc with
  | 0 => some (.iload_n 1, 1, [])
  | 1 => some (.iconst 0, 1, [0])
  | 2 => some (.bipush 50, 2, [50])
  | 4 => some (.invokestatic 68, 3, [2, 87, 0, 9, 0, 697, 0, 0, 0])
  | 7 => some (.iload_n 2, 1, [])
  | 8 => some (.iconst (-1), 1, [4294967295])
  | 9 => some (.if_icmp .eq 10, 3, [19])
  | 12 => some (.iload_n 2, 1, [])
  | 13 => some (.iconst 0, 1, [0])
  | 14 => some (.ldc 153, 2, [8, 999999, 814])
  | 16 => some (.invokestatic 68, 3, [2, 87, 0, 9, 0, 697, 0, 0, 0])
  | 19 => some (.aload_n 0, 1, [])
  | 20 => some (.invokevirtual 72, 3, [2, 11, 2, 9, 0, 303])
  | 23 => some (.aload_n 0, 1, [])
  | 24 => some (.getfield 12, 3, [1, 9, 0, 2, 0, 271])
  | 27 => some (.getfield 141, 3, [1, 6, 1, 2, 1, 146])
  | 30 => some (.getfield 154, 3, [1, 3, 2, 0, 1, 97])
  | 33 => some (.istore_n 3, 1, [])
  | 34 => some (.aload_n 0, 1, [])
  | 35 => some (.getfield 12, 3, [1, 9, 0, 2, 0, 271])
  | 38 => some (.getfield 141, 3, [1, 6, 1, 2, 1, 146])
  | 41 => some (.iload_n 1, 1, [])
  | 42 => some (.putfield 154, 3, [1, 3, 2, 0, 1, 97])
  | 45 => some (.iload_n 2, 1, [])
  | 46 => some (.iconst (-1), 1, [4294967295])
  | 47 => some (.if_icmp .eq 14, 3, [61])
  | 50 => some (.aload_n 0, 1, [])
  | 51 => some (.getfield 12, 3, [1, 9, 0, 2, 0, 271])
  | 54 => some (.getfield 141, 3, [1, 6, 1, 2, 1, 146])
  | 57 => some (.iload_n 2, 1, [])
  | 58 => some (.putfield 158, 3, [1, 3, 3, 0, 1, 99])
  | 61 => some (.iload_n 3, 1, [])
  | 62 => some (.ireturn, 1, [0])
  | _ => none
def dec109 (pc : Nat) : Option (ClassFile.Instr × Nat × List Nat) := match pc with
  | 0 => some (.aload_n 3, 1, [])
  | 1 => some (.iconst 0, 1, [0])
  | 2 => some (.aload_n 0, 1, [])
  | 3 => some (.iload_n 1, 1, [])
  | 4 => some (.iload_n 2, 1, [])
  | 5 => some (.invokevirtual 45, 3, [2, 110, 2, 9, 0, 818, 0, 0])
  | 8 => some (.i2l, 1, [])
  | 9 => some (.lastore, 1, [])
  | 10 => some (.goto 7, 3, [17])
  | 13 => some (.astore 4, 2, [])
  | 15 => some (.iconst 1, 1, [1])
  | 16 => some (.ireturn, 1, [0])
  | 17 => some (.iconst 0, 1, [0])
  | 18 => some (.ireturn, 1, [0])
  | _ => none
def dec110 (pc : Nat) : Option (ClassFile.Instr × Nat × List Nat) := match pc with
  | 0 => some (.iload_n 1, 1, [])
  | 1 => some (.invokestatic 138, 3, [2, 104, 0, 9, 0, 796, 0])
  | 4 => some (.iload_n 2, 1, [])
  | 5 => some (.ifCond .eq 16, 3, [21])
  | 8 => some (.aload_n 0, 1, [])
  | 9 => some (.getfield 12, 3, [1, 9, 0, 2, 0, 271])
  | 12 => some (.getfield 141, 3, [1, 6, 1, 2, 1, 146])
  | 15 => some (.getfield 150, 3, [1, 3, 1, 2, 1, 95])
  | 18 => some (.goto 13, 3, [31])
  | 21 => some (.aload_n 0, 1, [])
  | 22 => some (.getfield 12, 3, [1, 9, 0, 2, 0, 271])
  | 25 => some (.getfield 141, 3, [1, 6, 1, 2, 1, 146])
  | 28 => some (.getfield 145, 3, [1, 3, 0, 2, 1, 93])
  | 31 => some (.iload_n 1, 1, [])
  | 32 => some (.invokestatic 161, 3, [2, 26, 0, 9, 0, 506, 0, 2])
  | 35 => some (.ireturn, 1, [0])
  | _ => none
def dec111 (pc : Nat) : Option (ClassFile.Instr × Nat × List Nat) := match pc with
  | 0 => some (.aload_n 2, 1, [])
  | 1 => some (.iconst 0, 1, [0])
  | 2 => some (.aload_n 0, 1, [])
  | 3 => some (.iload_n 1, 1, [])
  | 4 => some (.invokevirtual 49, 3, [2, 112, 2, 9, 0, 825, 0])
  | 7 => some (.i2l, 1, [])
  | 8 => some (.lastore, 1, [])
  | 9 => some (.goto 6, 3, [15])
  | 12 => some (.astore_n 3, 1, [])
  | 13 => some (.iconst 1, 1, [1])
  | 14 => some (.ireturn, 1, [0])
  | 15 => some (.iconst 0, 1, [0])
  | 16 => some (.ireturn, 1, [0])
  | _ => none
def dec112 (pc : Nat) : Option (ClassFile.Instr × Nat × List Nat) := match pc with
  | 0 => some (.iload_n 1, 1, [])
  | 1 => some (.iconst 0, 1, [0])
  | 2 => some (.bipush 7, 2, [7])
  | 4 => some (.invokestatic 68, 3, [2, 87, 0, 9, 0, 697, 0, 0, 0])
  | 7 => some (.aload_n 0, 1, [])
  | 8 => some (.iload_n 1, 1, [])
  | 9 => some (.invokevirtual 165, 3, [2, 59, 2, 9, 0, 496, 0])
  | 12 => some (.ireturn, 1, [0])
  | _ => none
def dec113 (pc : Nat) : Option (ClassFile.Instr × Nat × List Nat) := match pc with
  | 0 => some (.aload_n 2, 1, [])
  | 1 => some (.iconst 0, 1, [0])
  | 2 => some (.aload_n 0, 1, [])
  | 3 => some (.iload_n 1, 1, [])
  | 4 => some (.invokevirtual 53, 3, [2, 114, 2, 9, 0, 832, 0])
  | 7 => some (.i2l, 1, [])
  | 8 => some (.lastore, 1, [])
  | 9 => some (.goto 6, 3, [15])
  | 12 => some (.astore_n 3, 1, [])
  | 13 => some (.iconst 1, 1, [1])
  | 14 => some (.ireturn, 1, [0])
  | 15 => some (.iconst 0, 1, [0])
  | 16 => some (.ireturn, 1, [0])
  | _ => none
def dec114 (pc : Nat) : Option (ClassFile.Instr × Nat × List Nat) := match pc with
  | 0 => some (.iload_n 1, 1, [])
  | 1 => some (.invokestatic 64, 3, [2, 86, 0, 9, 0, 627, 0])
  | 4 => some (.aload_n 0, 1, [])
  | 5 => some (.invokevirtual 72, 3, [2, 11, 2, 9, 0, 303])
  | 8 => some (.aload_n 0, 1, [])
  | 9 => some (.getfield 43, 3, [1, 9, 5, 2, 0, 276])
  | 12 => some (.aload_n 0, 1, [])
  | 13 => some (.getfield 12, 3, [1, 9, 0, 2, 0, 271])
  | 16 => some (.iload_n 1, 1, [])
  | 17 => some (.invokevirtual 168, 3, [2, 115, 2, 4, 0, 836, 0, 2])
  | 20 => some (.ireturn, 1, [0])
  | _ => none
def dec115 (pc : Nat) : Option (ClassFile.Instr × Nat × List Nat) := match pc with
  | 0 => some (.aload_n 0, 1, [])
  | 1 => some (.aload_n 1, 1, [])
  | 2 => some (.getfield 18, 3, [1, 6, 0, 2, 1, 139])
  | 5 => some (.invokevirtual 24, 3, [2, 24, 2, 7, 0, 840])
  | 8 => some (.putfield 30, 3, [1, 4, 1, 0, 0, 225])
  | 11 => some (.aload_n 0, 1, [])
  | 12 => some (.iconst (-1), 1, [4294967295])
  | 13 => some (.putfield 34, 3, [1, 4, 2, 0, 0, 226])
  | 16 => some (.aload_n 0, 1, [])
  | 17 => some (.iconst 0, 1, [0])
  | 18 => some (.putfield 37, 3, [1, 4, 3, 0, 0, 227])
  | 21 => some (.aload_n 1, 1, [])
  | 22 => some (.getfield 40, 3, [1, 6, 2, 2, 1, 148])
  | 25 => some (.dup, 1, [])
  | 26 => some (.getfield 44, 3, [1, 2, 4, 0, 1, 120])
  | 29 => some (.iconst 1, 1, [1])
  | 30 => some (.iadd, 1, [])
  | 31 => some (.putfield 44, 3, [1, 2, 4, 0, 1, 120])
  | 34 => some (.iconst 0, 1, [0])
  | 35 => some (.istore_n 3, 1, [])
  | 36 => some (.iload_n 3, 1, [])
  | 37 => some (.aload_n 1, 1, [])
  | 38 => some (.getfield 18, 3, [1, 6, 0, 2, 1, 139])
  | 41 => some (.getfield 49, 3, [1, 7, 0, 2, 1, 44])
  | 44 => some (.iload_n 2, 1, [])
  | 45 => some (.invokestatic 53, 3, [2, 26, 0, 9, 1, 841, 0, 2])
  | 48 => some (.if_icmp .ge 20, 3, [68])
  | 51 => some (.iload_n 3, 1, [])
  | 52 => some (.iconst 2, 1, [2])
  | 53 => some (.if_icmp .ge 15, 3, [68])
  | 56 => some (.aload_n 0, 1, [])
  | 57 => some (.aload_n 1, 1, [])
  | 58 => some (.iload_n 2, 1, [])
  | 59 => some (.invokevirtual 57, 3, [2, 116, 2, 4, 0, 842, 0, 2])
  | 62 => some (.iinc 3 1, 3, [1])
  | 65 => some (.goto (-29), 3, [36])
  | 68 => some (.aload_n 1, 1, [])
  | 69 => some (.getfield 61, 3, [1, 6, 1, 2, 1, 145])
  | 72 => some (.aload_n 0, 1, [])
  | 73 => some (.getfield 34, 3, [1, 4, 2, 0, 0, 226])
  | 76 => some (.invokevirtual 65, 3, [2, 122, 2, 3, 0, 880, 0])
  | 79 => some (.aload_n 0, 1, [])
  | 80 => some (.getfield 37, 3, [1, 4, 3, 0, 0, 227])
  | 83 => some (.ireturn, 1, [0])
  | _ => none
def dec116_0 (pc : Nat) : Option (ClassFile.Instr × Nat × List Nat) := match pc with
  | 0 => some (.aload_n 0, 1, [])
  | 1 => some (.getfield 12, 3, [1, 4, 0, 2, 0, 224])
  | 4 => some (.aload_n 1, 1, [])
  | 5 => some (.iload_n 2, 1, [])
  | 6 => some (.aload_n 0, 1, [])
  | 7 => some (.getfield 30, 3, [1, 4, 1, 0, 0, 225])
  | 10 => some (.aload_n 0, 1, [])
  | 11 => some (.getfield 34, 3, [1, 4, 2, 0, 0, 226])
  | 14 => some (.invokevirtual 71, 3, [2, 64, 2, 1, 0, 846, 0, 0, 0, 2])
  | 17 => some (.iload_n 2, 1, [])
  | 18 => some (.istore_n 3, 1, [])
  | 19 => some (.iconst 0, 1, [0])
  | 20 => some (.istore 4, 2, [])
  | 22 => some (.iload 4, 2, [])
  | 24 => some (.iconst 3, 1, [3])
  | 25 => some (.if_icmp .ge 148, 3, [173])
  | 28 => some (.aload_n 0, 1, [])
  | 29 => some (.getfield 12, 3, [1, 4, 0, 2, 0, 224])
  | 32 => some (.iload_n 3, 1, [])
  | 33 => some (.invokevirtual 75, 3, [2, 70, 2, 1, 0, 847, 0])
  | 36 => some (.ifCond .le 137, 3, [173])
  | 39 => some (.aload_n 1, 1, [])
  | 40 => some (.getfield 61, 3, [1, 6, 1, 2, 1, 145])
  | 43 => some (.aload_n 0, 1, [])
  | 44 => some (.getfield 12, 3, [1, 4, 0, 2, 0, 224])
  | 47 => some (.iload_n 3, 1, [])
  | 48 => some (.invokevirtual 75, 3, [2, 70, 2, 1, 0, 847, 0])
  | 51 => some (.invokevirtual 79, 3, [2, 117, 2, 3, 0, 848, 0])
  | 54 => some (.istore 5, 2, [])
  | 56 => some (.aload_n 0, 1, [])
  | 57 => some (.getfield 12, 3, [1, 4, 0, 2, 0, 224])
  | 60 => some (.iload_n 3, 1, [])
  | 61 => some (.iload 5, 2, [])
  | 63 => some (.aload_n 1, 1, [])
  | 64 => some (.getfield 18, 3, [1, 6, 0, 2, 1, 139])
  | 67 => some (.iload_n 3, 1, [])
  | 68 => some (.invokevirtual 82, 3, [2, 25, 2, 7, 0, 856, 0])
  | 71 => some (.invokevirtual 85, 3, [2, 118, 2, 1, 0, 857, 0, 0, 0])
  | 74 => some (.istore 6, 2, [])
  | 76 => some (.iload 6, 2, [])
  | 78 => some (.iconst (-1), 1, [4294967295])
  | 79 => some (.if_icmp .ne 4, 3, [83])
  | 82 => some (.return_, 1, [])
  | 83 => some (.iload_n 3, 1, [])
  | 84 => some (.iload 6, 2, [])
  | 86 => some (.invokestatic 89, 3, [2, 27, 0, 9, 1, 862, 0, 0])
  | 89 => some (.istore 7, 2, [])
  | 91 => some (.aload_n 1, 1, [])
  | _ => none
def dec116_1 (pc : Nat) : Option (ClassFile.Instr × Nat × List Nat) := match pc with
  | 92 => some (.getfield 18, 3, [1, 6, 0, 2, 1, 139])
  | 95 => some (.getfield 93, 3, [1, 7, 2, 2, 1, 49])
  | 98 => some (.iload 7, 2, [])
  | 100 => some (.invokestatic 53, 3, [2, 26, 0, 9, 1, 841, 0, 2])
  | 103 => some (.istore 8, 2, [])
  | 105 => some (.aload_n 0, 1, [])
  | 106 => some (.dup, 1, [])
  | 107 => some (.getfield 30, 3, [1, 4, 1, 0, 0, 225])
  | 110 => some (.aload_n 1, 1, [])
  | 111 => some (.getfield 18, 3, [1, 6, 0, 2, 1, 139])
  | 114 => some (.iload_n 3, 1, [])
  | 115 => some (.iload 7, 2, [])
  | 117 => some (.invokevirtual 96, 3, [2, 80, 2, 7, 0, 863, 0, 0])
  | 120 => some (.ior, 1, [])
  | 121 => some (.putfield 30, 3, [1, 4, 1, 0, 0, 225])
  | 124 => some (.aload_n 1, 1, [])
  | 125 => some (.getfield 18, 3, [1, 6, 0, 2, 1, 139])
  | 128 => some (.iload 7, 2, [])
  | 130 => some (.invokevirtual 99, 3, [2, 119, 2, 7, 0, 864, 0])
  | 133 => some (.iload 8, 2, [])
  | 135 => some (.invokestatic 102, 3, [2, 51, 0, 9, 1, 868, 0])
  | 138 => some (.ifCond .ne 23, 3, [161])
  | 141 => some (.aload_n 0, 1, [])
  | 142 => some (.aload_n 1, 1, [])
  | 143 => some (.iload 8, 2, [])
  | 145 => some (.aload_n 1, 1, [])
  | 146 => some (.getfield 18, 3, [1, 6, 0, 2, 1, 139])
  | 149 => some (.getfield 106, 3, [1, 7, 4, 2, 1, 58])
  | 152 => some (.iload 7, 2, [])
  | 154 => some (.invokestatic 53, 3, [2, 26, 0, 9, 1, 841, 0, 2])
  | 157 => some (.invokevirtual 109, 3, [2, 120, 2, 4, 0, 869, 0, 0, 2])
  | 160 => some (.return_, 1, [])
  | 161 => some (.iload 8, 2, [])
  | 163 => some (.invokestatic 113, 3, [2, 52, 0, 9, 1, 879, 0])
  | 166 => some (.istore_n 3, 1, [])
  | 167 => some (.iinc 4 1, 3, [1])
  | 170 => some (.goto (-148), 3, [22])
  | 173 => some (.return_, 1, [])
  | _ => none
def dec116 (pc : Nat) : Option (ClassFile.Instr × Nat × List Nat) := if pc < 92 then dec116_0 pc else if pc < 174 then dec116_1 pc else none
def dec117 (pc : Nat) : Option (ClassFile.Instr × Nat × List Nat) := match pc with
  | 0 => some (.aload_n 0, 1, [])
  | 1 => some (.ldc2_w 29, 3, [9, 1103515245, 852])
  | 4 => some (.aload_n 0, 1, [])
  | 5 => some (.getfield 18, 3, [1, 3, 3, 0, 0, 98])
  | 8 => some (.i2l, 1, [])
  | 9 => some (.lmul, 1, [])
  | 10 => some (.ldc2_w 31, 3, [9, 12345, 853])
  | 13 => some (.ladd, 1, [])
  | 14 => some (.ldc2_w 33, 3, [9, 2147483648, 854])
  | 17 => some (.lrem, 1, [])
  | 18 => some (.l2i, 1, [])
  | 19 => some (.putfield 18, 3, [1, 3, 3, 0, 0, 98])
  | 22 => some (.iload_n 1, 1, [])
  | 23 => some (.ifCond .le 15, 3, [38])
  | 26 => some (.aload_n 0, 1, [])
  | 27 => some (.getfield 18, 3, [1, 3, 3, 0, 0, 98])
  | 30 => some (.ldc 35, 2, [8, 65536, 855])
  | 32 => some (.idiv, 1, [])
  | 33 => some (.iload_n 1, 1, [])
  | 34 => some (.irem, 1, [])
  | 35 => some (.goto 4, 3, [39])
  | 38 => some (.iconst 0, 1, [0])
  | 39 => some (.ireturn, 1, [0])
  | _ => none
def dec118 (pc : Nat) : Option (ClassFile.Instr × Nat × List Nat) := match pc with
  | 0 => some (.iconst 0, 1, [0])
  | 1 => some (.istore 4, 2, [])
  | 3 => some (.iconst 0, 1, [0])
  | 4 => some (.istore 5, 2, [])
  | 6 => some (.iload 5, 2, [])
  | 8 => some (.iload_n 3, 1, [])
  | 9 => some (.if_icmp .ge 33, 3, [42])
  | 12 => some (.iload 4, 2, [])
  | 14 => some (.aload_n 0, 1, [])
  | 15 => some (.iload_n 1, 1, [])
  | 16 => some (.iload 5, 2, [])
  | 18 => some (.invokestatic 42, 3, [2, 27, 0, 9, 1, 533, 0, 0])
  | 21 => some (.invokevirtual 86, 3, [2, 74, 2, 1, 0, 861, 0])
  | 24 => some (.iadd, 1, [])
  | 25 => some (.istore 4, 2, [])
  | 27 => some (.iload 4, 2, [])
  | 29 => some (.iload_n 2, 1, [])
  | 30 => some (.if_icmp .le 6, 3, [36])
  | 33 => some (.iload 5, 2, [])
  | 35 => some (.ireturn, 1, [0])
  | 36 => some (.iinc 5 1, 3, [1])
  | 39 => some (.goto (-33), 3, [6])
  | 42 => some (.iconst (-1), 1, [4294967295])
  | 43 => some (.ireturn, 1, [0])
  | _ => none
def dec119 (pc : Nat) : Option (ClassFile.Instr × Nat × List Nat) := match pc with
  | 0 => some (.aload_n 0, 1, [])
  | 1 => some (.getfield 33, 3, [1, 7, 7, 2, 0, 66])
  | 4 => some (.iload_n 1, 1, [])
  | 5 => some (.aload_n 0, 1, [])
  | 6 => some (.getfield 30, 3, [1, 7, 6, 2, 0, 64])
  | 9 => some (.iload_n 1, 1, [])
  | 10 => some (.invokestatic 46, 3, [2, 26, 0, 9, 1, 365, 0, 2])
  | 13 => some (.invokestatic 58, 3, [2, 44, 0, 9, 1, 481, 0, 0, 2])
  | 16 => some (.return_, 1, [])
  | _ => none
def dec120 (pc : Nat) : Option (ClassFile.Instr × Nat × List Nat) := match pc with
  | 0 => some (.aload_n 1, 1, [])
  | 1 => some (.getfield 40, 3, [1, 6, 2, 2, 1, 148])
  | 4 => some (.iload_n 2, 1, [])
  | 5 => some (.iload_n 3, 1, [])
  | 6 => some (.invokevirtual 116, 3, [2, 121, 2, 2, 0, 873, 0, 0])
  | 9 => some (.aload_n 0, 1, [])
  | 10 => some (.aload_n 0, 1, [])
  | 11 => some (.getfield 34, 3, [1, 4, 2, 0, 0, 226])
  | 14 => some (.iload_n 3, 1, [])
  | 15 => some (.invokestatic 120, 3, [11, 878])
  | 18 => some (.putfield 34, 3, [1, 4, 2, 0, 0, 226])
  | 21 => some (.aload_n 0, 1, [])
  | 22 => some (.dup, 1, [])
  | 23 => some (.getfield 37, 3, [1, 4, 3, 0, 0, 227])
  | 26 => some (.iconst 1, 1, [1])
  | 27 => some (.iadd, 1, [])
  | 28 => some (.putfield 37, 3, [1, 4, 3, 0, 0, 227])
  | 31 => some (.return_, 1, [])
  | _ => none
def dec121 (pc : Nat) : Option (ClassFile.Instr × Nat × List Nat) := match pc with
  | 0 => some (.aload_n 0, 1, [])
  | 1 => some (.getfield 32, 3, [1, 2, 5, 0, 0, 123])
  | 4 => some (.bipush 20, 2, [20])
  | 6 => some (.invokestatic 35, 3, [2, 14, 0, 12, 0, 400, 0, 0])
  | 9 => some (.istore_n 3, 1, [])
  | 10 => some (.aload_n 0, 1, [])
  | 11 => some (.getfield 15, 3, [1, 2, 1, 2, 0, 117])
  | 14 => some (.iload_n 3, 1, [])
  | 15 => some (.iload_n 1, 1, [])
  | 16 => some (.invokestatic 41, 3, [2, 44, 0, 9, 1, 877, 0, 0, 2])
  | 19 => some (.aload_n 0, 1, [])
  | 20 => some (.getfield 18, 3, [1, 2, 2, 2, 0, 118])
  | 23 => some (.iload_n 3, 1, [])
  | 24 => some (.iload_n 2, 1, [])
  | 25 => some (.invokestatic 41, 3, [2, 44, 0, 9, 1, 877, 0, 0, 2])
  | 28 => some (.aload_n 0, 1, [])
  | 29 => some (.getfield 21, 3, [1, 2, 3, 2, 0, 119])
  | 32 => some (.iload_n 3, 1, [])
  | 33 => some (.aload_n 0, 1, [])
  | 34 => some (.getfield 28, 3, [1, 2, 4, 0, 0, 121])
  | 37 => some (.invokestatic 41, 3, [2, 44, 0, 9, 1, 877, 0, 0, 2])
  | 40 => some (.aload_n 0, 1, [])
  | 41 => some (.getfield 9, 3, [1, 2, 0, 2, 0, 115])
  | 44 => some (.iload_n 1, 1, [])
  | 45 => some (.aload_n 0, 1, [])
  | 46 => some (.getfield 9, 3, [1, 2, 0, 2, 0, 115])
  | 49 => some (.iload_n 1, 1, [])
  | 50 => some (.invokestatic 45, 3, [2, 26, 0, 9, 1, 401, 0, 2])
  | 53 => some (.iconst 1, 1, [1])
  | 54 => some (.iadd, 1, [])
  | 55 => some (.invokestatic 41, 3, [2, 44, 0, 9, 1, 877, 0, 0, 2])
  | 58 => some (.aload_n 0, 1, [])
  | 59 => some (.dup, 1, [])
  | 60 => some (.getfield 32, 3, [1, 2, 5, 0, 0, 123])
  | 63 => some (.iconst 1, 1, [1])
  | 64 => some (.iadd, 1, [])
  | 65 => some (.putfield 32, 3, [1, 2, 5, 0, 0, 123])
  | 68 => some (.return_, 1, [])
  | _ => none
def dec122 (pc : Nat) : Option (ClassFile.Instr × Nat × List Nat) := match pc with
  | 0 => some (.iconst 1, 1, [1])
  | 1 => some (.istore_n 2, 1, [])
  | 2 => some (.iload_n 2, 1, [])
  | 3 => some (.iconst 3, 1, [3])
  | 4 => some (.if_icmp .gt 44, 3, [48])
  | 7 => some (.iload_n 1, 1, [])
  | 8 => some (.iload_n 2, 1, [])
  | 9 => some (.if_icmp .lt 7, 3, [16])
  | 12 => some (.iconst 0, 1, [0])
  | 13 => some (.goto 13, 3, [26])
  | 16 => some (.aload_n 0, 1, [])
  | 17 => some (.getfield 9, 3, [1, 3, 0, 2, 0, 92])
  | 20 => some (.iload_n 2, 1, [])
  | 21 => some (.invokestatic 36, 3, [2, 26, 0, 9, 1, 884, 0, 2])
  | 24 => some (.iconst 1, 1, [1])
  | 25 => some (.iadd, 1, [])
  | 26 => some (.istore_n 3, 1, [])
  | 27 => some (.aload_n 0, 1, [])
  | 28 => some (.getfield 9, 3, [1, 3, 0, 2, 0, 92])
  | 31 => some (.iload_n 2, 1, [])
  | 32 => some (.sipush 200, 3, [200])
  | 35 => some (.iload_n 3, 1, [])
  | 36 => some (.invokestatic 40, 3, [10, 885])
  | 39 => some (.invokestatic 46, 3, [2, 44, 0, 9, 1, 886, 0, 0, 2])
  | 42 => some (.iinc 2 1, 3, [1])
  | 45 => some (.goto (-43), 3, [2])
  | 48 => some (.return_, 1, [])
  | _ => none
def dec123 (pc : Nat) : Option (ClassFile.Instr × Nat × List Nat) := match pc with
  | 0 => some (.aload_n 3, 1, [])
  | 1 => some (.iconst 0, 1, [0])
  | 2 => some (.aload_n 0, 1, [])
  | 3 => some (.iload_n 1, 1, [])
  | 4 => some (.iload_n 2, 1, [])
  | 5 => some (.invokevirtual 56, 3, [2, 124, 2, 9, 0, 890, 0, 0])
  | 8 => some (.i2l, 1, [])
  | 9 => some (.lastore, 1, [])
  | 10 => some (.goto 11, 3, [21])
  | 13 => some (.astore 4, 2, [])
  | 15 => some (.iconst 1, 1, [1])
  | 16 => some (.ireturn, 1, [0])
  | 17 => some (.astore 4, 2, [])
  | 19 => some (.iconst 2, 1, [2])
  | 20 => some (.ireturn, 1, [0])
  | 21 => some (.iconst 0, 1, [0])
  | 22 => some (.ireturn, 1, [0])
  | _ => none
def dec124 (pc : Nat) : Option (ClassFile.Instr × Nat × List Nat) := match pc with
  | 0 => some (.iload_n 1, 1, [])
  | 1 => some (.invokestatic 64, 3, [2, 86, 0, 9, 0, 627, 0])
  | 4 => some (.iload_n 2, 1, [])
  | 5 => some (.iconst 1, 1, [1])
  | 6 => some (.sipush 200, 3, [200])
  | 9 => some (.invokestatic 68, 3, [2, 87, 0, 9, 0, 697, 0, 0, 0])
  | 12 => some (.aload_n 0, 1, [])
  | 13 => some (.invokevirtual 72, 3, [2, 11, 2, 9, 0, 303])
  | 16 => some (.iconst 0, 1, [0])
  | 17 => some (.istore_n 3, 1, [])
  | 18 => some (.iconst 0, 1, [0])
  | 19 => some (.istore 4, 2, [])
  | 21 => some (.iload 4, 2, [])
  | 23 => some (.iload_n 2, 1, [])
  | 24 => some (.if_icmp .ge 24, 3, [48])
  | 27 => some (.iload_n 3, 1, [])
  | 28 => some (.aload_n 0, 1, [])
  | 29 => some (.getfield 43, 3, [1, 9, 5, 2, 0, 276])
  | 32 => some (.aload_n 0, 1, [])
  | 33 => some (.getfield 12, 3, [1, 9, 0, 2, 0, 271])
  | 36 => some (.iload_n 1, 1, [])
  | 37 => some (.invokevirtual 168, 3, [2, 115, 2, 4, 0, 836, 0, 2])
  | 40 => some (.iadd, 1, [])
  | 41 => some (.istore_n 3, 1, [])
  | 42 => some (.iinc 4 1, 3, [1])
  | 45 => some (.goto (-24), 3, [21])
  | 48 => some (.iload_n 3, 1, [])
  | 49 => some (.ireturn, 1, [0])
  | _ => none
def dec125 (pc : Nat) : Option (ClassFile.Instr × Nat × List Nat) := match pc with
  | 0 => some (.aload_n 3, 1, [])
  | 1 => some (.iconst 0, 1, [0])
  | 2 => some (.aload_n 0, 1, [])
  | 3 => some (.iload_n 1, 1, [])
  | 4 => some (.iload_n 2, 1, [])
  | 5 => some (.invokevirtual 59, 3, [2, 126, 2, 9, 0, 897, 0, 0])
  | 8 => some (.i2l, 1, [])
  | 9 => some (.lastore, 1, [])
  | 10 => some (.goto 7, 3, [17])
  | 13 => some (.astore 4, 2, [])
  | 15 => some (.iconst 1, 1, [1])
  | 16 => some (.ireturn, 1, [0])
  | 17 => some (.iconst 0, 1, [0])
  | 18 => some (.ireturn, 1, [0])
  | _ => none
def dec126 (pc : Nat) : Option (ClassFile.Instr × Nat × List Nat) := match pc with
  | 0 => some (.iload_n 1, 1, [])
  | 1 => some (.ifCond .ge 13, 3, [14])
  | 4 => some (.new 90, 3, [6, 1, 700])
  | 7 => some (.dup, 1, [])
  | 8 => some (.ldc 172, 2, [])
  | 10 => some (.invokespecial 94, 3, [])
  | 13 => some (.athrow, 1, [])
  | 14 => some (.iload_n 2, 1, [])
  | 15 => some (.iconst 0, 1, [0])
  | 16 => some (.iconst 2, 1, [2])
  | 17 => some (.invokestatic 68, 3, [2, 87, 0, 9, 0, 697, 0, 0, 0])
  | 20 => some (.aload_n 0, 1, [])
  | 21 => some (.getfield 12, 3, [1, 9, 0, 2, 0, 271])
  | 24 => some (.getfield 174, 3, [1, 6, 2, 2, 1, 149])
  | 27 => some (.iload_n 1, 1, [])
  | 28 => some (.iload_n 2, 1, [])
  | 29 => some (.invokevirtual 178, 3, [2, 34, 2, 2, 0, 617, 0, 0])
  | 32 => some (.ireturn, 1, [0])
  | _ => none
def dec127 (pc : Nat) : Option (ClassFile.Instr × Nat × List Nat) := match pc with
  | 0 => some (.aload_n 2, 1, [])
  | 1 => some (.iconst 0, 1, [0])
  | 2 => some (.aload_n 0, 1, [])
  | 3 => some (.iload_n 1, 1, [])
  | 4 => some (.invokevirtual 62, 3, [2, 128, 2, 9, 0, 905, 0])
  | 7 => some (.i2l, 1, [])
  | 8 => some (.lastore, 1, [])
  | 9 => some (.goto 6, 3, [15])
  | 12 => some (.astore_n 3, 1, [])
  | 13 => some (.iconst 1, 1, [1])
  | 14 => some (.ireturn, 1, [0])
  | 15 => some (.iconst 0, 1, [0])
  | 16 => some (.ireturn, 1, [0])
  | _ => none
def dec128 (pc : Nat) : Option (ClassFile.Instr × Nat × List Nat) := match pc with
  | 0 => some (.iload_n 1, 1, [])
  | 1 => some (.invokestatic 183, 3, [2, 129, 0, 9, 0, 909, 0])
  | 4 => some (.aload_n 0, 1, [])
  | 5 => some (.getfield 12, 3, [1, 9, 0, 2, 0, 271])
  | 8 => some (.getfield 174, 3, [1, 6, 2, 2, 1, 149])
  | 11 => some (.getfield 186, 3, [1, 2, 0, 2, 1, 116])
  | 14 => some (.iload_n 1, 1, [])
  | 15 => some (.invokestatic 161, 3, [2, 26, 0, 9, 0, 506, 0, 2])
  | 18 => some (.ireturn, 1, [0])
  | _ => none
def dec129 (pc : Nat) : Option (ClassFile.Instr × Nat × List Nat) := match pc with
  | 0 => some (.iload_n 0, 1, [])
  | 1 => some (.ifCond .lt 9, 3, [10])
  | 4 => some (.iload_n 0, 1, [])
  | 5 => some (.bipush 16, 2, [16])
  | 7 => some (.if_icmp .lt 14, 3, [21])
  | 10 => some (.new 279, 3, [6, 0, 630])
  | 13 => some (.dup, 1, [])
  | 14 => some (.ldc_w 286, 3, [])
  | 17 => some (.invokespecial 283, 3, [])
  | 20 => some (.athrow, 1, [])
  | 21 => some (.return_, 1, [])
  | _ => none
def dec130 (pc : Nat) : Option (ClassFile.Instr × Nat × List Nat) := match pc with
  | 0 => some (.aload 4, 2, [])
  | 2 => some (.iconst 0, 1, [0])
  | 3 => some (.aload_n 0, 1, [])
  | 4 => some (.iload_n 1, 1, [])
  | 5 => some (.iload_n 2, 1, [])
  | 6 => some (.iload_n 3, 1, [])
  | 7 => some (.invokevirtual 65, 3, [2, 131, 2, 9, 0, 916, 0, 0, 0])
  | 10 => some (.i2l, 1, [])
  | 11 => some (.lastore, 1, [])
  | 12 => some (.goto 7, 3, [19])
  | 15 => some (.astore 5, 2, [])
  | 17 => some (.iconst 1, 1, [1])
  | 18 => some (.ireturn, 1, [0])
  | 19 => some (.iconst 0, 1, [0])
  | 20 => some (.ireturn, 1, [0])
  | _ => none
def dec131 (pc : Nat) : Option (ClassFile.Instr × Nat × List Nat) := match pc with
  | 0 => some (.aload_n 0, 1, [])
  | 1 => some (.iload_n 1, 1, [])
  | 2 => some (.iload_n 2, 1, [])
  | 3 => some (.invokevirtual 113, 3, [2, 93, 2, 9, 0, 755, 0, 0])
  | 6 => some (.aload_n 0, 1, [])
  | 7 => some (.iload_n 1, 1, [])
  | 8 => some (.invokevirtual 189, 3, [2, 63, 2, 9, 0, 516, 0])
  | 11 => some (.aload_n 0, 1, [])
  | 12 => some (.getfield 50, 3, [1, 9, 6, 2, 0, 277])
  | 15 => some (.iload_n 1, 1, [])
  | 16 => some (.iload_n 2, 1, [])
  | 17 => some (.invokestatic 124, 3, [2, 27, 0, 9, 0, 566, 0, 0])
  | 20 => some (.invokevirtual 192, 3, [2, 74, 2, 1, 0, 568, 0])
  | 23 => some (.istore 4, 2, [])
  | 25 => some (.aload_n 0, 1, [])
  | 26 => some (.getfield 50, 3, [1, 9, 6, 2, 0, 277])
  | 29 => some (.iload_n 1, 1, [])
  | 30 => some (.invokevirtual 195, 3, [2, 70, 2, 1, 0, 561, 0])
  | 33 => some (.istore 5, 2, [])
  | 35 => some (.iload 4, 2, [])
  | 37 => some (.iload 5, 2, [])
  | 39 => some (.invokestatic 198, 3, [2, 132, 0, 9, 0, 920, 0, 0])
  | 42 => some (.istore 6, 2, [])
  | 44 => some (.iload 4, 2, [])
  | 46 => some (.ifCond .le 8, 3, [54])
  | 49 => some (.iload 6, 2, [])
  | 51 => some (.ifCond .gt 13, 3, [64])
  | 54 => some (.iload_n 3, 1, [])
  | 55 => some (.ifCond .eq 7, 3, [62])
  | 58 => some (.iconst 1, 1, [1])
  | 59 => some (.goto 4, 3, [63])
  | 62 => some (.iconst 0, 1, [0])
  | 63 => some (.ireturn, 1, [0])
  | 64 => some (.iload_n 3, 1, [])
  | 65 => some (.ifCond .eq 11, 3, [76])
  | 68 => some (.iload 5, 2, [])
  | 70 => some (.iload 6, 2, [])
  | 72 => some (.idiv, 1, [])
  | 73 => some (.goto 8, 3, [81])
  | 76 => some (.iload 4, 2, [])
  | 78 => some (.iload 6, 2, [])
  | 80 => some (.idiv, 1, [])
  | 81 => some (.ireturn, 1, [0])
  | _ => none
def dec132 (pc : Nat) : Option (ClassFile.Instr × Nat × List Nat) := match pc with
  | 0 => some (.iload_n 0, 1, [])
  | 1 => some (.istore_n 2, 1, [])
  | 2 => some (.iload_n 1, 1, [])
  | 3 => some (.istore_n 3, 1, [])
  | 4 => some (.iconst 0, 1, [0])
  | 5 => some (.istore 4, 2, [])
  | 7 => some (.iload 4, 2, [])
  | 9 => some (.bipush 64, 2, [64])
  | 11 => some (.if_icmp .ge 23, 3, [34])
  | 14 => some (.iload_n 3, 1, [])
  | 15 => some (.ifCond .le 19, 3, [34])
  | 18 => some (.iload_n 2, 1, [])
  | 19 => some (.iload_n 3, 1, [])
  | 20 => some (.irem, 1, [])
  | 21 => some (.istore 5, 2, [])
  | 23 => some (.iload_n 3, 1, [])
  | 24 => some (.istore_n 2, 1, [])
  | 25 => some (.iload 5, 2, [])
  | 27 => some (.istore_n 3, 1, [])
  | 28 => some (.iinc 4 1, 3, [1])
  | 31 => some (.goto (-24), 3, [7])
  | 34 => some (.iload_n 2, 1, [])
  | 35 => some (.ireturn, 1, [0])
  | _ => none
def dec133 (pc : Nat) : Option (ClassFile.Instr × Nat × List Nat) := match pc with
  | 0 => some (.aload_n 3, 1, [])
  | 1 => some (.iconst 0, 1, [0])
  | 2 => some (.aload_n 0, 1, [])
  | 3 => some (.iload_n 1, 1, [])
  | 4 => some (.iload_n 2, 1, [])
  | 5 => some (.invokevirtual 69, 3, [2, 134, 2, 9, 0, 926, 0, 0])
  | 8 => some (.i2l, 1, [])
  | 9 => some (.lastore, 1, [])
  | 10 => some (.goto 7, 3, [17])
  | 13 => some (.astore 4, 2, [])
  | 15 => some (.iconst 1, 1, [1])
  | 16 => some (.ireturn, 1, [0])
  | 17 => some (.iconst 0, 1, [0])
  | 18 => some (.ireturn, 1, [0])
  | _ => none
def dec134 (pc : Nat) : Option (ClassFile.Instr × Nat × List Nat) := match pc with
  | 0 => some (.iload_n 1, 1, [])
  | 1 => some (.invokestatic 64, 3, [2, 86, 0, 9, 0, 627, 0])
  | 4 => some (.iload_n 2, 1, [])
  | 5 => some (.invokestatic 183, 3, [2, 129, 0, 9, 0, 909, 0])
  | 8 => some (.aload_n 0, 1, [])
  | 9 => some (.getfield 57, 3, [1, 9, 7, 2, 0, 278])
  | 12 => some (.aload_n 0, 1, [])
  | 13 => some (.getfield 12, 3, [1, 9, 0, 2, 0, 271])
  | 16 => some (.iload_n 1, 1, [])
  | 17 => some (.invokevirtual 201, 3, [2, 75, 2, 0, 0, 573, 0, 2])
  | 20 => some (.aload_n 0, 1, [])
  | 21 => some (.getfield 57, 3, [1, 9, 7, 2, 0, 278])
  | 24 => some (.iload_n 2, 1, [])
  | 25 => some (.invokevirtual 205, 3, [2, 135, 2, 0, 0, 930, 0])
  | 28 => some (.l2i, 1, [])
  | 29 => some (.ireturn, 1, [0])
  | _ => none
def dec135 (pc : Nat) : Option (ClassFile.Instr × Nat × List Nat) := match pc with
  | 0 => some (.aload_n 0, 1, [])
  | 1 => some (.getfield 25, 3, [1, 0, 3, 2, 0, 250])
  | 4 => some (.iload_n 1, 1, [])
  | 5 => some (.invokestatic 64, 3, [2, 83, 0, 9, 1, 614, 0, 2])
  | 8 => some (.lreturn, 1, [])
  | _ => none
def dec136 (pc : Nat) : Option (ClassFile.Instr × Nat × List Nat) := match pc with
  | 0 => some (.aload_n 3, 1, [])
  | 1 => some (.iconst 0, 1, [0])
  | 2 => some (.aload_n 0, 1, [])
  | 3 => some (.iload_n 1, 1, [])
  | 4 => some (.iload_n 2, 1, [])
  | 5 => some (.invokevirtual 72, 3, [2, 137, 2, 9, 0, 937, 0, 0])
  | 8 => some (.i2l, 1, [])
  | 9 => some (.lastore, 1, [])
  | 10 => some (.goto 11, 3, [21])
  | 13 => some (.astore 4, 2, [])
  | 15 => some (.iconst 1, 1, [1])
  | 16 => some (.ireturn, 1, [0])
  | 17 => some (.astore 4, 2, [])
  | 19 => some (.iconst 2, 1, [2])
  | 20 => some (.ireturn, 1, [0])
  | 21 => some (.iconst 0, 1, [0])
  | 22 => some (.ireturn, 1, [0])
  | _ => none
def dec137 (pc : Nat) : Option (ClassFile.Instr × Nat × List Nat) := match pc with
  | 0 => some (.iload_n 1, 1, [])
  | 1 => some (.invokestatic 64, 3, [2, 86, 0, 9, 0, 627, 0])
  | 4 => some (.iload_n 2, 1, [])
  | 5 => some (.iconst 0, 1, [0])
  | 6 => some (.iconst 3, 1, [3])
  | 7 => some (.invokestatic 68, 3, [2, 87, 0, 9, 0, 697, 0, 0, 0])
  | 10 => some (.aload_n 0, 1, [])
  | 11 => some (.getfield 57, 3, [1, 9, 7, 2, 0, 278])
  | 14 => some (.aload_n 0, 1, [])
  | 15 => some (.getfield 12, 3, [1, 9, 0, 2, 0, 271])
  | 18 => some (.iload_n 1, 1, [])
  | 19 => some (.invokevirtual 201, 3, [2, 75, 2, 0, 0, 573, 0, 2])
  | 22 => some (.aload_n 0, 1, [])
  | 23 => some (.getfield 57, 3, [1, 9, 7, 2, 0, 278])
  | 26 => some (.iload_n 2, 1, [])
  | 27 => some (.invokevirtual 209, 3, [2, 82, 2, 0, 0, 610, 0])
  | 30 => some (.l2i, 1, [])
  | 31 => some (.ireturn, 1, [0])
  | _ => none
def dec138 (pc : Nat) : Option (ClassFile.Instr × Nat × List Nat) := match pc with
  | 0 => some (.aload_n 2, 1, [])
  | 1 => some (.iconst 0, 1, [0])
  | 2 => some (.aload_n 0, 1, [])
  | 3 => some (.iload_n 1, 1, [])
  | 4 => some (.invokevirtual 75, 3, [2, 139, 2, 9, 0, 944, 0])
  | 7 => some (.lastore, 1, [])
  | 8 => some (.goto 6, 3, [14])
  | 11 => some (.astore_n 3, 1, [])
  | 12 => some (.iconst 1, 1, [1])
  | 13 => some (.ireturn, 1, [0])
  | 14 => some (.iconst 0, 1, [0])
  | 15 => some (.ireturn, 1, [0])
  | _ => none
def dec139 (pc : Nat) : Option (ClassFile.Instr × Nat × List Nat) := match pc with
  | 0 => some (.iload_n 1, 1, [])
  | 1 => some (.invokestatic 64, 3, [2, 86, 0, 9, 0, 627, 0])
  | 4 => some (.aload_n 0, 1, [])
  | 5 => some (.getfield 57, 3, [1, 9, 7, 2, 0, 278])
  | 8 => some (.aload_n 0, 1, [])
  | 9 => some (.getfield 12, 3, [1, 9, 0, 2, 0, 271])
  | 12 => some (.iload_n 1, 1, [])
  | 13 => some (.invokevirtual 201, 3, [2, 75, 2, 0, 0, 573, 0, 2])
  | 16 => some (.aload_n 0, 1, [])
  | 17 => some (.getfield 57, 3, [1, 9, 7, 2, 0, 278])
  | 20 => some (.getfield 212, 3, [1, 0, 5, 1, 1, 253])
  | 23 => some (.lreturn, 1, [])
  | _ => none
def dec140 (pc : Nat) : Option (ClassFile.Instr × Nat × List Nat) := match pc with
  | 0 => some (.aload_n 3, 1, [])
  | 1 => some (.iconst 0, 1, [0])
  | 2 => some (.aload_n 0, 1, [])
  | 3 => some (.iload_n 1, 1, [])
  | 4 => some (.iload_n 2, 1, [])
  | 5 => some (.invokevirtual 79, 3, [2, 141, 2, 9, 0, 951, 0, 0])
  | 8 => some (.i2l, 1, [])
  | 9 => some (.lastore, 1, [])
  | 10 => some (.goto 7, 3, [17])
  | 13 => some (.astore 4, 2, [])
  | 15 => some (.iconst 1, 1, [1])
  | 16 => some (.ireturn, 1, [0])
  | 17 => some (.iconst 0, 1, [0])
  | 18 => some (.ireturn, 1, [0])
  | _ => none
def dec141 (pc : Nat) : Option (ClassFile.Instr × Nat × List Nat) := match pc with
  | 0 => some (.iload_n 1, 1, [])
  | 1 => some (.invokestatic 64, 3, [2, 86, 0, 9, 0, 627, 0])
  | 4 => some (.iload_n 2, 1, [])
  | 5 => some (.invokestatic 183, 3, [2, 129, 0, 9, 0, 909, 0])
  | 8 => some (.aload_n 0, 1, [])
  | 9 => some (.getfield 16, 3, [1, 9, 1, 2, 0, 272])
  | 12 => some (.aload_n 0, 1, [])
  | 13 => some (.getfield 12, 3, [1, 9, 0, 2, 0, 271])
  | 16 => some (.invokevirtual 222, 3, [2, 15, 2, 6, 0, 955, 2])
  | 19 => some (.aload_n 0, 1, [])
  | 20 => some (.getfield 12, 3, [1, 9, 0, 2, 0, 271])
  | 23 => some (.getfield 174, 3, [1, 6, 2, 2, 1, 149])
  | 26 => some (.getfield 186, 3, [1, 2, 0, 2, 1, 116])
  | 29 => some (.iload_n 2, 1, [])
  | 30 => some (.invokestatic 161, 3, [2, 26, 0, 9, 0, 506, 0, 2])
  | 33 => some (.istore_n 3, 1, [])
  | 34 => some (.iconst 1, 1, [1])
  | 35 => some (.istore 4, 2, [])
  | 37 => some (.iload 4, 2, [])
  | 39 => some (.sipush 300, 3, [300])
  | 42 => some (.if_icmp .gt 43, 3, [85])
  | 45 => some (.aload_n 0, 1, [])
  | 46 => some (.getfield 43, 3, [1, 9, 5, 2, 0, 276])
  | 49 => some (.aload_n 0, 1, [])
  | 50 => some (.getfield 16, 3, [1, 9, 1, 2, 0, 272])
  | 53 => some (.iload_n 1, 1, [])
  | 54 => some (.invokevirtual 168, 3, [2, 115, 2, 4, 0, 836, 0, 2])
  | 57 => some (.pop, 1, [])
  | 58 => some (.aload_n 0, 1, [])
  | 59 => some (.getfield 16, 3, [1, 9, 1, 2, 0, 272])
  | 62 => some (.getfield 174, 3, [1, 6, 2, 2, 1, 149])
  | 65 => some (.getfield 186, 3, [1, 2, 0, 2, 1, 116])
  | 68 => some (.iload_n 2, 1, [])
  | 69 => some (.invokestatic 161, 3, [2, 26, 0, 9, 0, 506, 0, 2])
  | 72 => some (.iload_n 3, 1, [])
  | 73 => some (.if_icmp .le 6, 3, [79])
  | 76 => some (.iload 4, 2, [])
  | 78 => some (.ireturn, 1, [0])
  | 79 => some (.iinc 4 1, 3, [1])
  | 82 => some (.goto (-45), 3, [37])
  | 85 => some (.iconst (-1), 1, [4294967295])
  | 86 => some (.ireturn, 1, [0])
  | _ => none
def dec142 (pc : Nat) : Option (ClassFile.Instr × Nat × List Nat) := match pc with
  | 0 => some (.aload_n 3, 1, [])
  | 1 => some (.iconst 0, 1, [0])
  | 2 => some (.aload_n 0, 1, [])
  | 3 => some (.iload_n 1, 1, [])
  | 4 => some (.iload_n 2, 1, [])
  | 5 => some (.invokevirtual 82, 3, [2, 143, 2, 9, 0, 959, 0, 0])
  | 8 => some (.i2l, 1, [])
  | 9 => some (.lastore, 1, [])
  | 10 => some (.goto 7, 3, [17])
  | 13 => some (.astore 4, 2, [])
  | 15 => some (.iconst 1, 1, [1])
  | 16 => some (.ireturn, 1, [0])
  | 17 => some (.iconst 0, 1, [0])
  | 18 => some (.ireturn, 1, [0])
  | _ => none
def dec143_0 (pc : Nat) : Option (ClassFile.Instr × Nat × List Nat) := match pc with
  | 0 => some (.iload_n 1, 1, [])
  | 1 => some (.invokestatic 64, 3, [2, 86, 0, 9, 0, 627, 0])
  | 4 => some (.iload_n 2, 1, [])
  | 5 => some (.invokestatic 183, 3, [2, 129, 0, 9, 0, 909, 0])
  | 8 => some (.aload_n 0, 1, [])
  | 9 => some (.getfield 16, 3, [1, 9, 1, 2, 0, 272])
  | 12 => some (.aload_n 0, 1, [])
  | 13 => some (.getfield 12, 3, [1, 9, 0, 2, 0, 271])
  | 16 => some (.invokevirtual 222, 3, [2, 15, 2, 6, 0, 955, 2])
  | 19 => some (.iconst (-1), 1, [4294967295])
  | 20 => some (.istore_n 3, 1, [])
  | 21 => some (.ldc2_w 226, 3, [9, 18446744073709551615, 963])
  | 24 => some (.lstore 4, 2, [])
  | 26 => some (.iconst 0, 1, [0])
  | 27 => some (.istore 6, 2, [])
  | 29 => some (.iload 6, 2, [])
  | 31 => some (.aload_n 0, 1, [])
  | 32 => some (.getfield 12, 3, [1, 9, 0, 2, 0, 271])
  | 35 => some (.getfield 75, 3, [1, 6, 0, 2, 1, 140])
  | 38 => some (.iload_n 1, 1, [])
  | 39 => some (.invokevirtual 101, 3, [2, 25, 2, 7, 0, 515, 0])
  | 42 => some (.if_icmp .ge 122, 3, [164])
  | 45 => some (.iload_n 1, 1, [])
  | 46 => some (.iload 6, 2, [])
  | 48 => some (.invokestatic 124, 3, [2, 27, 0, 9, 0, 566, 0, 0])
  | 51 => some (.istore 7, 2, [])
  | 53 => some (.aload_n 0, 1, [])
  | 54 => some (.getfield 12, 3, [1, 9, 0, 2, 0, 271])
  | 57 => some (.getfield 75, 3, [1, 6, 0, 2, 1, 140])
  | 60 => some (.getfield 121, 3, [1, 7, 3, 2, 1, 55])
  | 63 => some (.iload 7, 2, [])
  | 65 => some (.invokestatic 161, 3, [2, 26, 0, 9, 0, 506, 0, 2])
  | 68 => some (.istore 8, 2, [])
  | 70 => some (.aload_n 0, 1, [])
  | 71 => some (.getfield 16, 3, [1, 9, 1, 2, 0, 272])
  | 74 => some (.getfield 75, 3, [1, 6, 0, 2, 1, 140])
  | 77 => some (.getfield 121, 3, [1, 7, 3, 2, 1, 55])
  | 80 => some (.iload 7, 2, [])
  | 82 => some (.sipush 1000, 3, [1000])
  | 85 => some (.iconst 2, 1, [2])
  | 86 => some (.iload 8, 2, [])
  | 88 => some (.imul, 1, [])
  | 89 => some (.invokestatic 228, 3, [10, 329])
  | 92 => some (.invokestatic 233, 3, [2, 44, 0, 9, 0, 719, 0, 0, 2])
  | 95 => some (.aload_n 0, 1, [])
  | 96 => some (.getfield 61, 3, [1, 9, 8, 2, 0, 279])
  | 99 => some (.invokevirtual 237, 3, [2, 21, 2, 0, 0, 345])
  | 102 => some (.aload_n 0, 1, [])
  | _ => none
def dec143_1 (pc : Nat) : Option (ClassFile.Instr × Nat × List Nat) := match pc with
  | 103 => some (.getfield 61, 3, [1, 9, 8, 2, 0, 279])
  | 106 => some (.aload_n 0, 1, [])
  | 107 => some (.getfield 16, 3, [1, 9, 1, 2, 0, 272])
  | 110 => some (.iload_n 1, 1, [])
  | 111 => some (.invokevirtual 201, 3, [2, 75, 2, 0, 0, 573, 0, 2])
  | 114 => some (.aload_n 0, 1, [])
  | 115 => some (.getfield 16, 3, [1, 9, 1, 2, 0, 272])
  | 118 => some (.getfield 75, 3, [1, 6, 0, 2, 1, 140])
  | 121 => some (.getfield 121, 3, [1, 7, 3, 2, 1, 55])
  | 124 => some (.iload 7, 2, [])
  | 126 => some (.iload 8, 2, [])
  | 128 => some (.invokestatic 233, 3, [2, 44, 0, 9, 0, 719, 0, 0, 2])
  | 131 => some (.aload_n 0, 1, [])
  | 132 => some (.getfield 61, 3, [1, 9, 8, 2, 0, 279])
  | 135 => some (.iload_n 2, 1, [])
  | 136 => some (.invokevirtual 205, 3, [2, 135, 2, 0, 0, 930, 0])
  | 139 => some (.lload 4, 2, [])
  | 141 => some (.lcmp, 1, [])
  | 142 => some (.ifCond .le 16, 3, [158])
  | 145 => some (.aload_n 0, 1, [])
  | 146 => some (.getfield 61, 3, [1, 9, 8, 2, 0, 279])
  | 149 => some (.iload_n 2, 1, [])
  | 150 => some (.invokevirtual 205, 3, [2, 135, 2, 0, 0, 930, 0])
  | 153 => some (.lstore 4, 2, [])
  | 155 => some (.iload 6, 2, [])
  | 157 => some (.istore_n 3, 1, [])
  | 158 => some (.iinc 6 1, 3, [1])
  | 161 => some (.goto (-132), 3, [29])
  | 164 => some (.iload_n 3, 1, [])
  | 165 => some (.ireturn, 1, [0])
  | _ => none
def dec143 (pc : Nat) : Option (ClassFile.Instr × Nat × List Nat) := if pc < 103 then dec143_0 pc else if pc < 166 then dec143_1 pc else none
def dec144 (pc : Nat) : Option (ClassFile.Instr × Nat × List Nat) := match pc with
  | 0 => some (.aload_n 2, 1, [])
  | 1 => some (.iconst 0, 1, [0])
  | 2 => some (.aload_n 0, 1, [])
  | 3 => some (.iload_n 1, 1, [])
  | 4 => some (.invokevirtual 85, 3, [2, 145, 2, 9, 0, 967, 0])
  | 7 => some (.i2l, 1, [])
  | 8 => some (.lastore, 1, [])
  | 9 => some (.goto 9, 3, [18])
  | 12 => some (.astore_n 3, 1, [])
  | 13 => some (.iconst 1, 1, [1])
  | 14 => some (.ireturn, 1, [0])
  | 15 => some (.astore_n 3, 1, [])
  | 16 => some (.iconst 2, 1, [2])
  | 17 => some (.ireturn, 1, [0])
  | 18 => some (.iconst 0, 1, [0])
  | 19 => some (.ireturn, 1, [0])
  | _ => none
def dec145 (pc : Nat) : Option (ClassFile.Instr × Nat × List Nat) := match pc with
  | 0 => some (.iload_n 1, 1, [])
  | 1 => some (.iconst 0, 1, [0])
  | 2 => some (.bipush 127, 2, [127])
  | 4 => some (.invokestatic 68, 3, [2, 87, 0, 9, 0, 697, 0, 0, 0])
  | 7 => some (.aload_n 0, 1, [])
  | 8 => some (.getfield 29, 3, [1, 9, 3, 2, 0, 274])
  | 11 => some (.getfield 240, 3, [1, 8, 1, 0, 1, 185])
  | 14 => some (.sipush 160, 3, [160])
  | 17 => some (.if_icmp .lt 13, 3, [30])
  | 20 => some (.new 104, 3, [6, 2, 731])
  | 23 => some (.dup, 1, [])
  | 24 => some (.ldc 243, 2, [])
  | 26 => some (.invokespecial 108, 3, [])
  | 29 => some (.athrow, 1, [])
  | 30 => some (.aload_n 0, 1, [])
  | 31 => some (.getfield 29, 3, [1, 9, 3, 2, 0, 274])
  | 34 => some (.iload_n 1, 1, [])
  | 35 => some (.invokevirtual 245, 3, [2, 146, 2, 8, 0, 972, 0])
  | 38 => some (.ireturn, 1, [0])
  | _ => none
def dec146 (pc : Nat) : Option (ClassFile.Instr × Nat × List Nat) := match pc with
  | 0 => some (.aload_n 0, 1, [])
  | 1 => some (.getfield 15, 3, [1, 8, 1, 0, 0, 184])
  | 4 => some (.ifCond .lt 36, 3, [40])
  | 7 => some (.aload_n 0, 1, [])
  | 8 => some (.getfield 15, 3, [1, 8, 1, 0, 0, 184])
  | 11 => some (.aload_n 0, 1, [])
  | 12 => some (.getfield 9, 3, [1, 8, 0, 2, 0, 183])
  | 15 => some (.arraylength, 1, [])
  | 16 => some (.if_icmp .ge 24, 3, [40])
  | 19 => some (.aload_n 0, 1, [])
  | 20 => some (.getfield 9, 3, [1, 8, 0, 2, 0, 183])
  | 23 => some (.aload_n 0, 1, [])
  | 24 => some (.getfield 15, 3, [1, 8, 1, 0, 0, 184])
  | 27 => some (.iload_n 1, 1, [])
  | 28 => some (.i2b, 1, [])
  | 29 => some (.bastore, 1, [])
  | 30 => some (.aload_n 0, 1, [])
  | 31 => some (.dup, 1, [])
  | 32 => some (.getfield 15, 3, [1, 8, 1, 0, 0, 184])
  | 35 => some (.iconst 1, 1, [1])
  | 36 => some (.iadd, 1, [])
  | 37 => some (.putfield 15, 3, [1, 8, 1, 0, 0, 184])
  | 40 => some (.aload_n 0, 1, [])
  | 41 => some (.getfield 15, 3, [1, 8, 1, 0, 0, 184])
  | 44 => some (.ireturn, 1, [0])
  | _ => none
def dec147 (pc : Nat) : Option (ClassFile.Instr × Nat × List Nat) := match pc with
  | 0 => some (.aload_n 1, 1, [])
  | 1 => some (.iconst 0, 1, [0])
  | 2 => some (.aload_n 0, 1, [])
  | 3 => some (.invokevirtual 88, 3, [2, 148, 2, 9, 0, 979])
  | 6 => some (.i2l, 1, [])
  | 7 => some (.lastore, 1, [])
  | 8 => some (.goto 6, 3, [14])
  | 11 => some (.astore_n 2, 1, [])
  | 12 => some (.iconst 1, 1, [1])
  | 13 => some (.ireturn, 1, [0])
  | 14 => some (.iconst 0, 1, [0])
  | 15 => some (.ireturn, 1, [0])
  | _ => none
def dec148 (pc : Nat) : Option (ClassFile.Instr × Nat × List Nat) := match pc with
  | 0 => some (.aload_n 0, 1, [])
  | 1 => some (.getfield 22, 3, [1, 9, 2, 2, 0, 273])
  | 4 => some (.getfield 258, 3, [1, 5, 2, 0, 1, 169])
  | 7 => some (.ifCond .gt 14, 3, [21])
  | 10 => some (.new 104, 3, [6, 2, 731])
  | 13 => some (.dup, 1, [])
  | 14 => some (.ldc_w 261, 3, [])
  | 17 => some (.invokespecial 108, 3, [])
  | 20 => some (.athrow, 1, [])
  | 21 => some (.aload_n 0, 1, [])
  | 22 => some (.getfield 22, 3, [1, 9, 2, 2, 0, 273])
  | 25 => some (.aload_n 0, 1, [])
  | 26 => some (.getfield 12, 3, [1, 9, 0, 2, 0, 271])
  | 29 => some (.invokevirtual 263, 3, [2, 149, 2, 5, 0, 984, 2])
  | 32 => some (.aload_n 0, 1, [])
  | 33 => some (.getfield 57, 3, [1, 9, 7, 2, 0, 278])
  | 36 => some (.invokevirtual 237, 3, [2, 21, 2, 0, 0, 345])
  | 39 => some (.aload_n 0, 1, [])
  | 40 => some (.getfield 22, 3, [1, 9, 2, 2, 0, 273])
  | 43 => some (.getfield 258, 3, [1, 5, 2, 0, 1, 169])
  | 46 => some (.ireturn, 1, [0])
  | _ => none
def dec149 (pc : Nat) : Option (ClassFile.Instr × Nat × List Nat) := match pc with
  | 0 => some (.aload_n 0, 1, [])
  | 1 => some (.aload_n 0, 1, [])
  | 2 => some (.getfield 18, 3, [1, 5, 2, 0, 0, 168])
  | 5 => some (.iconst 1, 1, [1])
  | 6 => some (.isub, 1, [])
  | 7 => some (.invokevirtual 22, 3, [2, 13, 2, 5, 0, 311, 0])
  | 10 => some (.astore_n 2, 1, [])
  | 11 => some (.aload_n 2, 1, [])
  | 12 => some (.ifnull 8, 3, [20])
  | 15 => some (.aload_n 1, 1, [])
  | 16 => some (.aload_n 2, 1, [])
  | 17 => some (.invokevirtual 26, 3, [2, 15, 2, 6, 0, 318, 2])
  | 20 => some (.aload_n 0, 1, [])
  | 21 => some (.dup, 1, [])
  | 22 => some (.getfield 18, 3, [1, 5, 2, 0, 0, 168])
  | 25 => some (.iconst 1, 1, [1])
  | 26 => some (.isub, 1, [])
  | 27 => some (.putfield 18, 3, [1, 5, 2, 0, 0, 168])
  | 30 => some (.return_, 1, [])
  | _ => none
def dec150_0 (pc : Nat) : Option (ClassFile.Instr × Nat × List Nat) := match pc with
  | 0 => some (.aload_n 0, 1, [])
  | 1 => some (.invokespecial 1, 3, [4, 993])
  | 4 => some (.aload_n 0, 1, [])
  | 5 => some (.sipush 201, 3, [201])
  | 8 => some (.newarray .int, 2, [])
  | 10 => some (.putfield 7, 3, [1, 10, 0, 2, 0, 994])
  | 13 => some (.aload_n 0, 1, [])
  | 14 => some (.sipush 804, 3, [804])
  | 17 => some (.newarray .int, 2, [])
  | 19 => some (.putfield 13, 3, [1, 10, 1, 2, 0, 995])
  | 22 => some (.aload_n 0, 1, [])
  | 23 => some (.sipush 201, 3, [201])
  | 26 => some (.newarray .int, 2, [])
  | 28 => some (.putfield 16, 3, [1, 10, 2, 2, 0, 996])
  | 31 => some (.aload_n 0, 1, [])
  | 32 => some (.sipush 160, 3, [160])
  | 35 => some (.newarray .int, 2, [])
  | 37 => some (.putfield 19, 3, [1, 10, 5, 2, 0, 999])
  | 40 => some (.aload_n 0, 1, [])
  | 41 => some (.bipush 8, 2, [8])
  | 43 => some (.newarray .int, 2, [])
  | 45 => some (.putfield 22, 3, [1, 10, 7, 2, 0, 1001])
  | 48 => some (.aload_n 0, 1, [])
  | 49 => some (.bipush 8, 2, [8])
  | 51 => some (.newarray .int, 2, [])
  | 53 => some (.putfield 25, 3, [1, 10, 8, 2, 0, 1002])
  | 56 => some (.aload_n 0, 1, [])
  | 57 => some (.bipush 8, 2, [8])
  | 59 => some (.newarray .int, 2, [])
  | 61 => some (.putfield 28, 3, [1, 10, 9, 2, 0, 1003])
  | 64 => some (.aload_n 0, 1, [])
  | 65 => some (.bipush 8, 2, [8])
  | 67 => some (.newarray .int, 2, [])
  | 69 => some (.putfield 31, 3, [1, 10, 10, 2, 0, 1004])
  | 72 => some (.aload_n 0, 1, [])
  | 73 => some (.bipush 8, 2, [8])
  | 75 => some (.newarray .long, 2, [])
  | 77 => some (.putfield 34, 3, [1, 10, 11, 2, 0, 1005])
  | 80 => some (.aload_n 0, 1, [])
  | 81 => some (.bipush 8, 2, [8])
  | 83 => some (.newarray .int, 2, [])
  | 85 => some (.putfield 38, 3, [1, 10, 12, 2, 0, 1006])
  | 88 => some (.aload_n 0, 1, [])
  | 89 => some (.bipush 8, 2, [8])
  | 91 => some (.newarray .int, 2, [])
  | 93 => some (.putfield 41, 3, [1, 10, 13, 2, 0, 1007])
  | 96 => some (.aload_n 0, 1, [])
  | 97 => some (.bipush 8, 2, [8])
  | _ => none
def dec150_1 (pc : Nat) : Option (ClassFile.Instr × Nat × List Nat) := match pc with
  | 99 => some (.newarray .int, 2, [])
  | 101 => some (.putfield 44, 3, [1, 10, 14, 2, 0, 1008])
  | 104 => some (.aload_n 0, 1, [])
  | 105 => some (.bipush 8, 2, [8])
  | 107 => some (.newarray .int, 2, [])
  | 109 => some (.putfield 47, 3, [1, 10, 15, 2, 0, 1009])
  | 112 => some (.aload_n 0, 1, [])
  | 113 => some (.bipush 8, 2, [8])
  | 115 => some (.newarray .int, 2, [])
  | 117 => some (.putfield 50, 3, [1, 10, 16, 2, 0, 1010])
  | 120 => some (.aload_n 0, 1, [])
  | 121 => some (.bipush 8, 2, [8])
  | 123 => some (.newarray .int, 2, [])
  | 125 => some (.putfield 53, 3, [1, 10, 17, 2, 0, 1011])
  | 128 => some (.aload_n 0, 1, [])
  | 129 => some (.bipush 16, 2, [16])
  | 131 => some (.newarray .long, 2, [])
  | 133 => some (.putfield 56, 3, [1, 10, 19, 2, 0, 1013])
  | 136 => some (.aload_n 0, 1, [])
  | 137 => some (.iconst 4, 1, [4])
  | 138 => some (.newarray .long, 2, [])
  | 140 => some (.putfield 59, 3, [1, 10, 20, 2, 0, 1014])
  | 143 => some (.aload_n 0, 1, [])
  | 144 => some (.sipush 201, 3, [201])
  | 147 => some (.newarray .int, 2, [])
  | 149 => some (.putfield 62, 3, [1, 10, 24, 2, 0, 1018])
  | 152 => some (.iconst 0, 1, [0])
  | 153 => some (.istore_n 1, 1, [])
  | 154 => some (.iload_n 1, 1, [])
  | 155 => some (.iconst 3, 1, [3])
  | 156 => some (.if_icmp .ge 18, 3, [174])
  | 159 => some (.aload_n 0, 1, [])
  | 160 => some (.getfield 7, 3, [1, 10, 0, 2, 0, 994])
  | 163 => some (.iconst 0, 1, [0])
  | 164 => some (.iload_n 1, 1, [])
  | 165 => some (.iadd, 1, [])
  | 166 => some (.iconst 1, 1, [1])
  | 167 => some (.iastore, 1, [])
  | 168 => some (.iinc 1 1, 3, [1])
  | 171 => some (.goto (-17), 3, [154])
  | 174 => some (.aload_n 0, 1, [])
  | 175 => some (.getfield 7, 3, [1, 10, 0, 2, 0, 994])
  | 178 => some (.bipush 121, 2, [121])
  | 180 => some (.iconst 1, 1, [1])
  | 181 => some (.iastore, 1, [])
  | 182 => some (.return_, 1, [])
  | _ => none
def dec150 (pc : Nat) : Option (ClassFile.Instr × Nat × List Nat) := if pc < 98 then dec150_0 pc else if pc < 183 then dec150_1 pc else none
def dec151 (pc : Nat) : Option (ClassFile.Instr × Nat × List Nat) := match pc with
  | 0 => some (.aload_n 0, 1, [])
  | 1 => some (.getfield 65, 3, [1, 10, 4, 0, 0, 998])
  | 4 => some (.ireturn, 1, [0])
  | _ => none
def dec152 (pc : Nat) : Option (ClassFile.Instr × Nat × List Nat) := match pc with
  | 0 => some (.aload_n 0, 1, [])
  | 1 => some (.aload_n 0, 1, [])
  | 2 => some (.getfield 69, 3, [1, 10, 3, 0, 0, 997])
  | 5 => some (.ifCond .ne 7, 3, [12])
  | 8 => some (.iconst 1, 1, [1])
  | 9 => some (.goto 4, 3, [13])
  | 12 => some (.iconst 0, 1, [0])
  | 13 => some (.invokevirtual 72, 3, [2, 153, 2, 10, 0, 1081, 0])
  | 16 => some (.ifCond .eq 5, 3, [21])
  | 19 => some (.iconst 0, 1, [0])
  | 20 => some (.ireturn, 1, [0])
  | 21 => some (.aload_n 0, 1, [])
  | 22 => some (.dup, 1, [])
  | 23 => some (.getfield 69, 3, [1, 10, 3, 0, 0, 997])
  | 26 => some (.iconst 1, 1, [1])
  | 27 => some (.isub, 1, [])
  | 28 => some (.putfield 69, 3, [1, 10, 3, 0, 0, 997])
  | 31 => some (.iconst 0, 1, [0])
  | 32 => some (.istore_n 1, 1, [])
  | 33 => some (.iload_n 1, 1, [])
  | 34 => some (.sipush 201, 3, [201])
  | 37 => some (.if_icmp .ge 30, 3, [67])
  | 40 => some (.aload_n 0, 1, [])
  | 41 => some (.getfield 7, 3, [1, 10, 0, 2, 0, 994])
  | 44 => some (.iload_n 1, 1, [])
  | 45 => some (.aload_n 0, 1, [])
  | 46 => some (.getfield 13, 3, [1, 10, 1, 2, 0, 995])
  | 49 => some (.sipush 201, 3, [201])
  | 52 => some (.aload_n 0, 1, [])
  | 53 => some (.getfield 69, 3, [1, 10, 3, 0, 0, 997])
  | 56 => some (.imul, 1, [])
  | 57 => some (.iload_n 1, 1, [])
  | 58 => some (.iadd, 1, [])
  | 59 => some (.iaload, 1, [])
  | 60 => some (.iastore, 1, [])
  | 61 => some (.iinc 1 1, 3, [1])
  | 64 => some (.goto (-31), 3, [33])
  | 67 => some (.aload_n 0, 1, [])
  | 68 => some (.getfield 69, 3, [1, 10, 3, 0, 0, 997])
  | 71 => some (.ireturn, 1, [0])
  | _ => none
def dec153 (pc : Nat) : Option (ClassFile.Instr × Nat × List Nat) := match pc with
  | 0 => some (.aload_n 0, 1, [])
  | 1 => some (.iload_n 1, 1, [])
  | 2 => some (.putfield 65, 3, [1, 10, 4, 0, 0, 998])
  | 5 => some (.iload_n 1, 1, [])
  | 6 => some (.ifCond .le 7, 3, [13])
  | 9 => some (.iconst 1, 1, [1])
  | 10 => some (.goto 4, 3, [14])
  | 13 => some (.iconst 0, 1, [0])
  | 14 => some (.ireturn, 1, [1])
  | _ => none
def dec154 (pc : Nat) : Option (ClassFile.Instr × Nat × List Nat) := match pc with
  | 0 => some (.aload_n 0, 1, [])
  | 1 => some (.iload_n 1, 1, [])
  | 2 => some (.invokestatic 84, 3, [2, 155, 0, 10, 0, 1089, 0])
  | 5 => some (.ifCond .ne 7, 3, [12])
  | 8 => some (.iconst 1, 1, [1])
  | 9 => some (.goto 17, 3, [26])
  | 12 => some (.iload_n 2, 1, [])
  | 13 => some (.iconst 1, 1, [1])
  | 14 => some (.iconst 2, 1, [2])
  | 15 => some (.invokestatic 76, 3, [2, 156, 0, 10, 0, 1092, 0, 0, 0])
  | 18 => some (.ifCond .eq 7, 3, [25])
  | 21 => some (.iconst 0, 1, [0])
  | 22 => some (.goto 4, 3, [26])
  | 25 => some (.iconst 2, 1, [2])
  | 26 => some (.invokevirtual 72, 3, [2, 153, 2, 10, 0, 1081, 0])
  | 29 => some (.ifCond .eq 5, 3, [34])
  | 32 => some (.iconst 0, 1, [0])
  | 33 => some (.ireturn, 1, [0])
  | 34 => some (.aload_n 0, 1, [])
  | 35 => some (.invokevirtual 87, 3, [2, 157, 2, 10, 0, 1095])
  | 38 => some (.aload_n 0, 1, [])
  | 39 => some (.getfield 7, 3, [1, 10, 0, 2, 0, 994])
  | 42 => some (.iconst 0, 1, [0])
  | 43 => some (.iload_n 1, 1, [])
  | 44 => some (.iadd, 1, [])
  | 45 => some (.iaload, 1, [])
  | 46 => some (.istore_n 3, 1, [])
  | 47 => some (.aload_n 0, 1, [])
  | 48 => some (.getfield 7, 3, [1, 10, 0, 2, 0, 994])
  | 51 => some (.iconst 0, 1, [0])
  | 52 => some (.iload_n 1, 1, [])
  | 53 => some (.iadd, 1, [])
  | 54 => some (.iload_n 2, 1, [])
  | 55 => some (.iastore, 1, [])
  | 56 => some (.iload_n 3, 1, [])
  | 57 => some (.ireturn, 1, [0])
  | _ => none
def dec155 (pc : Nat) : Option (ClassFile.Instr × Nat × List Nat) := match pc with
  | 0 => some (.iload_n 0, 1, [])
  | 1 => some (.iconst 0, 1, [0])
  | 2 => some (.iconst 2, 1, [2])
  | 3 => some (.invokestatic 76, 3, [2, 156, 0, 10, 0, 1092, 0, 0, 0])
  | 6 => some (.ireturn, 1, [1])
  | _ => none
def dec156 (pc : Nat) : Option (ClassFile.Instr × Nat × List Nat) := match pc with
  | 0 => some (.iload_n 0, 1, [])
  | 1 => some (.iload_n 1, 1, [])
  | 2 => some (.if_icmp .lt 12, 3, [14])
  | 5 => some (.iload_n 0, 1, [])
  | 6 => some (.iload_n 2, 1, [])
  | 7 => some (.if_icmp .gt 7, 3, [14])
  | 10 => some (.iconst 1, 1, [1])
  | 11 => some (.goto 4, 3, [15])
  | 14 => some (.iconst 0, 1, [0])
  | 15 => some (.ireturn, 1, [1])
  | _ => none
def dec157_0 (pc : Nat) : Option (ClassFile.Instr × Nat × List Nat) := match pc with
  | 0 => some (.aload_n 0, 1, [])
  | 1 => some (.getfield 69, 3, [1, 10, 3, 0, 0, 997])
  | 4 => some (.iconst 4, 1, [4])
  | 5 => some (.if_icmp .ne 44, 3, [49])
  | 8 => some (.iconst 0, 1, [0])
  | 9 => some (.istore_n 1, 1, [])
  | 10 => some (.iload_n 1, 1, [])
  | 11 => some (.sipush 603, 3, [603])
  | 14 => some (.if_icmp .ge 25, 3, [39])
  | 17 => some (.aload_n 0, 1, [])
  | 18 => some (.getfield 13, 3, [1, 10, 1, 2, 0, 995])
  | 21 => some (.iload_n 1, 1, [])
  | 22 => some (.aload_n 0, 1, [])
  | 23 => some (.getfield 13, 3, [1, 10, 1, 2, 0, 995])
  | 26 => some (.iload_n 1, 1, [])
  | 27 => some (.sipush 201, 3, [201])
  | 30 => some (.iadd, 1, [])
  | 31 => some (.iaload, 1, [])
  | 32 => some (.iastore, 1, [])
  | 33 => some (.iinc 1 1, 3, [1])
  | 36 => some (.goto (-26), 3, [10])
  | 39 => some (.aload_n 0, 1, [])
  | 40 => some (.dup, 1, [])
  | 41 => some (.getfield 69, 3, [1, 10, 3, 0, 0, 997])
  | 44 => some (.iconst 1, 1, [1])
  | 45 => some (.isub, 1, [])
  | 46 => some (.putfield 69, 3, [1, 10, 3, 0, 0, 997])
  | 49 => some (.iconst 0, 1, [0])
  | 50 => some (.istore_n 1, 1, [])
  | 51 => some (.iload_n 1, 1, [])
  | 52 => some (.sipush 201, 3, [201])
  | 55 => some (.if_icmp .ge 30, 3, [85])
  | 58 => some (.aload_n 0, 1, [])
  | 59 => some (.getfield 13, 3, [1, 10, 1, 2, 0, 995])
  | 62 => some (.sipush 201, 3, [201])
  | 65 => some (.aload_n 0, 1, [])
  | 66 => some (.getfield 69, 3, [1, 10, 3, 0, 0, 997])
  | 69 => some (.imul, 1, [])
  | 70 => some (.iload_n 1, 1, [])
  | 71 => some (.iadd, 1, [])
  | 72 => some (.aload_n 0, 1, [])
  | 73 => some (.getfield 7, 3, [1, 10, 0, 2, 0, 994])
  | 76 => some (.iload_n 1, 1, [])
  | 77 => some (.iaload, 1, [])
  | 78 => some (.iastore, 1, [])
  | 79 => some (.iinc 1 1, 3, [1])
  | 82 => some (.goto (-31), 3, [51])
  | 85 => some (.aload_n 0, 1, [])
  | _ => none
def dec157_1 (pc : Nat) : Option (ClassFile.Instr × Nat × List Nat) := match pc with
  | 86 => some (.dup, 1, [])
  | 87 => some (.getfield 69, 3, [1, 10, 3, 0, 0, 997])
  | 90 => some (.iconst 1, 1, [1])
  | 91 => some (.iadd, 1, [])
  | 92 => some (.putfield 69, 3, [1, 10, 3, 0, 0, 997])
  | 95 => some (.return_, 1, [])
  | _ => none
def dec157 (pc : Nat) : Option (ClassFile.Instr × Nat × List Nat) := if pc < 86 then dec157_0 pc else if pc < 96 then dec157_1 pc else none
def dec158_0 (pc : Nat) : Option (ClassFile.Instr × Nat × List Nat) := match pc with
  | 0 => some (.aload_n 0, 1, [])
  | 1 => some (.iload_n 1, 1, [])
  | 2 => some (.invokestatic 84, 3, [2, 155, 0, 10, 0, 1089, 0])
  | 5 => some (.ifCond .ne 7, 3, [12])
  | 8 => some (.iconst 1, 1, [1])
  | 9 => some (.goto 62, 3, [71])
  | 12 => some (.iload_n 2, 1, [])
  | 13 => some (.iconst 0, 1, [0])
  | 14 => some (.bipush 18, 2, [18])
  | 16 => some (.invokestatic 76, 3, [2, 156, 0, 10, 0, 1092, 0, 0, 0])
  | 19 => some (.ifCond .eq 30, 3, [49])
  | 22 => some (.iload_n 1, 1, [])
  | 23 => some (.iload_n 2, 1, [])
  | 24 => some (.iload 4, 2, [])
  | 26 => some (.invokestatic 93, 3, [2, 159, 0, 10, 0, 1103, 0, 0, 0])
  | 29 => some (.ifCond .eq 20, 3, [49])
  | 32 => some (.iload_n 3, 1, [])
  | 33 => some (.invokestatic 96, 3, [2, 161, 0, 10, 0, 1109, 0])
  | 36 => some (.ifCond .eq 13, 3, [49])
  | 39 => some (.iload 5, 2, [])
  | 41 => some (.iconst 0, 1, [0])
  | 42 => some (.iconst 3, 1, [3])
  | 43 => some (.invokestatic 76, 3, [2, 156, 0, 10, 0, 1092, 0, 0, 0])
  | 46 => some (.ifCond .ne 7, 3, [53])
  | 49 => some (.iconst 2, 1, [2])
  | 50 => some (.goto 21, 3, [71])
  | 53 => some (.aload_n 0, 1, [])
  | 54 => some (.getfield 7, 3, [1, 10, 0, 2, 0, 994])
  | 57 => some (.iconst 3, 1, [3])
  | 58 => some (.iload_n 1, 1, [])
  | 59 => some (.iadd, 1, [])
  | 60 => some (.iaload, 1, [])
  | 61 => some (.bipush 6, 2, [6])
  | 63 => some (.if_icmp .ne 7, 3, [70])
  | 66 => some (.iconst 3, 1, [3])
  | 67 => some (.goto 4, 3, [71])
  | 70 => some (.iconst 0, 1, [0])
  | 71 => some (.invokevirtual 72, 3, [2, 153, 2, 10, 0, 1081, 0])
  | 74 => some (.ifCond .eq 5, 3, [79])
  | 77 => some (.iconst 0, 1, [0])
  | 78 => some (.ireturn, 1, [0])
  | 79 => some (.aload_n 0, 1, [])
  | 80 => some (.invokevirtual 87, 3, [2, 157, 2, 10, 0, 1095])
  | 83 => some (.aload_n 0, 1, [])
  | 84 => some (.iload_n 1, 1, [])
  | 85 => some (.iload_n 2, 1, [])
  | 86 => some (.iload_n 3, 1, [])
  | 87 => some (.iload 4, 2, [])
  | _ => none
def dec158_1 (pc : Nat) : Option (ClassFile.Instr × Nat × List Nat) := match pc with
  | 89 => some (.iload 5, 2, [])
  | 91 => some (.iload 6, 2, [])
  | 93 => some (.invokevirtual 99, 3, [2, 162, 2, 10, 0, 1112, 0, 0, 0, 0, 0, 0])
  | 96 => some (.ireturn, 1, [0])
  | _ => none
def dec158 (pc : Nat) : Option (ClassFile.Instr × Nat × List Nat) := if pc < 88 then dec158_0 pc else if pc < 97 then dec158_1 pc else none
def dec159 (pc : Nat) : Option (ClassFile.Instr × Nat × List Nat) := match pc with
  | 0 => some (.iload_n 1, 1, [])
  | 1 => some (.invokestatic 90, 3, [2, 160, 0, 10, 0, 1106, 0])
  | 4 => some (.ifCond .eq 12, 3, [16])
  | 7 => some (.iload_n 2, 1, [])
  | 8 => some (.iconst 0, 1, [0])
  | 9 => some (.iconst 3, 1, [3])
  | 10 => some (.invokestatic 76, 3, [2, 156, 0, 10, 0, 1092, 0, 0, 0])
  | 13 => some (.ifCond .ne 21, 3, [34])
  | 16 => some (.iload_n 1, 1, [])
  | 17 => some (.bipush 16, 2, [16])
  | 19 => some (.isub, 1, [])
  | 20 => some (.iload_n 0, 1, [])
  | 21 => some (.if_icmp .le 17, 3, [38])
  | 24 => some (.iload_n 1, 1, [])
  | 25 => some (.bipush 19, 2, [19])
  | 27 => some (.if_icmp .ge 11, 3, [38])
  | 30 => some (.iload_n 2, 1, [])
  | 31 => some (.ifCond .ne 7, 3, [38])
  | 34 => some (.iconst 1, 1, [1])
  | 35 => some (.goto 4, 3, [39])
  | 38 => some (.iconst 0, 1, [0])
  | 39 => some (.ireturn, 1, [1])
  | _ => none
def dec160 (pc : Nat) : Option (ClassFile.Instr × Nat × List Nat) := match pc with
  | 0 => some (.iload_n 0, 1, [])
  | 1 => some (.iconst 0, 1, [0])
  | 2 => some (.bipush 15, 2, [15])
  | 4 => some (.invokestatic 76, 3, [2, 156, 0, 10, 0, 1092, 0, 0, 0])
  | 7 => some (.ireturn, 1, [1])
  | _ => none
def dec161 (pc : Nat) : Option (ClassFile.Instr × Nat × List Nat) := match pc with
  | 0 => some (.iload_n 0, 1, [])
  | 1 => some (.iconst 1, 1, [1])
  | 2 => some (.sipush 1000, 3, [1000])
  | 5 => some (.invokestatic 76, 3, [2, 156, 0, 10, 0, 1092, 0, 0, 0])
  | 8 => some (.ireturn, 1, [1])
  | _ => none
def dec162_0 (pc : Nat) : Option (ClassFile.Instr × Nat × List Nat) := match pc with
  | 0 => some (.iload_n 1, 1, [])
  | 1 => some (.aload_n 0, 1, [])
  | 2 => some (.getfield 7, 3, [1, 10, 0, 2, 0, 994])
  | 5 => some (.iconst 3, 1, [3])
  | 6 => some (.iload_n 1, 1, [])
  | 7 => some (.iadd, 1, [])
  | 8 => some (.iaload, 1, [])
  | 9 => some (.invokestatic 80, 3, [2, 163, 0, 10, 0, 1116, 0, 0])
  | 12 => some (.istore 7, 2, [])
  | 14 => some (.aload_n 0, 1, [])
  | 15 => some (.getfield 7, 3, [1, 10, 0, 2, 0, 994])
  | 18 => some (.iload 7, 2, [])
  | 20 => some (.iconst 0, 1, [0])
  | 21 => some (.iadd, 1, [])
  | 22 => some (.iload_n 2, 1, [])
  | 23 => some (.iastore, 1, [])
  | 24 => some (.aload_n 0, 1, [])
  | 25 => some (.getfield 7, 3, [1, 10, 0, 2, 0, 994])
  | 28 => some (.iload 7, 2, [])
  | 30 => some (.iconst 1, 1, [1])
  | 31 => some (.iadd, 1, [])
  | 32 => some (.iload_n 3, 1, [])
  | 33 => some (.iastore, 1, [])
  | 34 => some (.aload_n 0, 1, [])
  | 35 => some (.getfield 7, 3, [1, 10, 0, 2, 0, 994])
  | 38 => some (.iload 7, 2, [])
  | 40 => some (.iconst 2, 1, [2])
  | 41 => some (.iadd, 1, [])
  | 42 => some (.iload 4, 2, [])
  | 44 => some (.iastore, 1, [])
  | 45 => some (.aload_n 0, 1, [])
  | 46 => some (.getfield 7, 3, [1, 10, 0, 2, 0, 994])
  | 49 => some (.iload 7, 2, [])
  | 51 => some (.iconst 3, 1, [3])
  | 52 => some (.iadd, 1, [])
  | 53 => some (.iload 5, 2, [])
  | 55 => some (.iastore, 1, [])
  | 56 => some (.aload_n 0, 1, [])
  | 57 => some (.getfield 7, 3, [1, 10, 0, 2, 0, 994])
  | 60 => some (.iload 7, 2, [])
  | 62 => some (.iconst 4, 1, [4])
  | 63 => some (.iadd, 1, [])
  | 64 => some (.iload 6, 2, [])
  | 66 => some (.ifCond .eq 7, 3, [73])
  | 69 => some (.iconst 1, 1, [1])
  | 70 => some (.goto 4, 3, [74])
  | 73 => some (.iconst 0, 1, [0])
  | 74 => some (.iastore, 1, [])
  | _ => none
def dec162_1 (pc : Nat) : Option (ClassFile.Instr × Nat × List Nat) := match pc with
  | 75 => some (.aload_n 0, 1, [])
  | 76 => some (.getfield 7, 3, [1, 10, 0, 2, 0, 994])
  | 79 => some (.iload 7, 2, [])
  | 81 => some (.iconst 5, 1, [5])
  | 82 => some (.iadd, 1, [])
  | 83 => some (.iconst 0, 1, [0])
  | 84 => some (.iastore, 1, [])
  | 85 => some (.aload_n 0, 1, [])
  | 86 => some (.getfield 7, 3, [1, 10, 0, 2, 0, 994])
  | 89 => some (.iconst 3, 1, [3])
  | 90 => some (.iload_n 1, 1, [])
  | 91 => some (.iadd, 1, [])
  | 92 => some (.dup2, 1, [])
  | 93 => some (.iaload, 1, [])
  | 94 => some (.iconst 1, 1, [1])
  | 95 => some (.iadd, 1, [])
  | 96 => some (.iastore, 1, [])
  | 97 => some (.aload_n 0, 1, [])
  | 98 => some (.getfield 7, 3, [1, 10, 0, 2, 0, 994])
  | 101 => some (.iconst 3, 1, [3])
  | 102 => some (.iload_n 1, 1, [])
  | 103 => some (.iadd, 1, [])
  | 104 => some (.iaload, 1, [])
  | 105 => some (.iconst 1, 1, [1])
  | 106 => some (.isub, 1, [])
  | 107 => some (.ireturn, 1, [0])
  | _ => none
def dec162 (pc : Nat) : Option (ClassFile.Instr × Nat × List Nat) := if pc < 75 then dec162_0 pc else if pc < 108 then dec162_1 pc else none
def dec163 (pc : Nat) : Option (ClassFile.Instr × Nat × List Nat) := match pc with
  | 0 => some (.bipush 6, 2, [6])
  | 2 => some (.bipush 6, 2, [6])
  | 4 => some (.bipush 6, 2, [6])
  | 6 => some (.iload_n 0, 1, [])
  | 7 => some (.imul, 1, [])
  | 8 => some (.iload_n 1, 1, [])
  | 9 => some (.iadd, 1, [])
  | 10 => some (.imul, 1, [])
  | 11 => some (.iadd, 1, [])
  | 12 => some (.ireturn, 1, [0])
  | _ => none
end
section
def dec164_0 (pc : Nat) : Option (ClassFile.Instr × Nat × List Nat) := match pc with
  | 0 => some (.aload_n 0, 1, [])
  | 1 => some (.aload_n 0, 1, [])
  | 2 => some (.iload_n 1, 1, [])
  | 3 => some (.iload_n 2, 1, [])
  | 4 => some (.invokevirtual 103, 3, [2, 165, 2, 10, 0, 1123, 0, 0])
  | 7 => some (.ifCond .eq 7, 3, [14])
  | 10 => some (.iconst 0, 1, [0])
  | 11 => some (.goto 4, 3, [15])
  | 14 => some (.iconst 1, 1, [1])
  | 15 => some (.invokevirtual 72, 3, [2, 153, 2, 10, 0, 1081, 0])
  | 18 => some (.ifCond .eq 5, 3, [23])
  | 21 => some (.iconst 0, 1, [0])
  | 22 => some (.ireturn, 1, [0])
  | 23 => some (.aload_n 0, 1, [])
  | 24 => some (.invokevirtual 87, 3, [2, 157, 2, 10, 0, 1095])
  | 27 => some (.aload_n 0, 1, [])
  | 28 => some (.getfield 7, 3, [1, 10, 0, 2, 0, 994])
  | 31 => some (.iconst 3, 1, [3])
  | 32 => some (.iload_n 1, 1, [])
  | 33 => some (.iadd, 1, [])
  | 34 => some (.dup2, 1, [])
  | 35 => some (.iaload, 1, [])
  | 36 => some (.iconst 1, 1, [1])
  | 37 => some (.isub, 1, [])
  | 38 => some (.iastore, 1, [])
  | 39 => some (.iload_n 1, 1, [])
  | 40 => some (.iload_n 2, 1, [])
  | 41 => some (.invokestatic 80, 3, [2, 163, 0, 10, 0, 1116, 0, 0])
  | 44 => some (.istore_n 3, 1, [])
  | 45 => some (.iload_n 3, 1, [])
  | 46 => some (.iload_n 1, 1, [])
  | 47 => some (.aload_n 0, 1, [])
  | 48 => some (.getfield 7, 3, [1, 10, 0, 2, 0, 994])
  | 51 => some (.iconst 3, 1, [3])
  | 52 => some (.iload_n 1, 1, [])
  | 53 => some (.iadd, 1, [])
  | 54 => some (.iaload, 1, [])
  | 55 => some (.invokestatic 80, 3, [2, 163, 0, 10, 0, 1116, 0, 0])
  | 58 => some (.if_icmp .ge 24, 3, [82])
  | 61 => some (.aload_n 0, 1, [])
  | 62 => some (.getfield 7, 3, [1, 10, 0, 2, 0, 994])
  | 65 => some (.iload_n 3, 1, [])
  | 66 => some (.aload_n 0, 1, [])
  | 67 => some (.getfield 7, 3, [1, 10, 0, 2, 0, 994])
  | 70 => some (.iload_n 3, 1, [])
  | 71 => some (.bipush 6, 2, [6])
  | 73 => some (.iadd, 1, [])
  | 74 => some (.iaload, 1, [])
  | _ => none
def dec164_1 (pc : Nat) : Option (ClassFile.Instr × Nat × List Nat) := match pc with
  | 75 => some (.iastore, 1, [])
  | 76 => some (.iinc 3 1, 3, [1])
  | 79 => some (.goto (-34), 3, [45])
  | 82 => some (.aload_n 0, 1, [])
  | 83 => some (.getfield 7, 3, [1, 10, 0, 2, 0, 994])
  | 86 => some (.iconst 3, 1, [3])
  | 87 => some (.iload_n 1, 1, [])
  | 88 => some (.iadd, 1, [])
  | 89 => some (.iaload, 1, [])
  | 90 => some (.ireturn, 1, [0])
  | _ => none
def dec164 (pc : Nat) : Option (ClassFile.Instr × Nat × List Nat) := if pc < 75 then dec164_0 pc else if pc < 91 then dec164_1 pc else none
def dec165 (pc : Nat) : Option (ClassFile.Instr × Nat × List Nat) := match pc with
  | 0 => some (.iload_n 1, 1, [])
  | 1 => some (.invokestatic 84, 3, [2, 155, 0, 10, 0, 1089, 0])
  | 4 => some (.ifCond .eq 25, 3, [29])
  | 7 => some (.iload_n 2, 1, [])
  | 8 => some (.iconst 0, 1, [0])
  | 9 => some (.aload_n 0, 1, [])
  | 10 => some (.getfield 7, 3, [1, 10, 0, 2, 0, 994])
  | 13 => some (.iconst 3, 1, [3])
  | 14 => some (.iload_n 1, 1, [])
  | 15 => some (.iadd, 1, [])
  | 16 => some (.iaload, 1, [])
  | 17 => some (.iconst 1, 1, [1])
  | 18 => some (.isub, 1, [])
  | 19 => some (.invokestatic 76, 3, [2, 156, 0, 10, 0, 1092, 0, 0, 0])
  | 22 => some (.ifCond .eq 7, 3, [29])
  | 25 => some (.iconst 1, 1, [1])
  | 26 => some (.goto 4, 3, [30])
  | 29 => some (.iconst 0, 1, [0])
  | 30 => some (.ireturn, 1, [1])
  | _ => none
def dec166 (pc : Nat) : Option (ClassFile.Instr × Nat × List Nat) := match pc with
  | 0 => some (.aload_n 0, 1, [])
  | 1 => some (.aload_n 0, 1, [])
  | 2 => some (.iload_n 1, 1, [])
  | 3 => some (.iload_n 2, 1, [])
  | 4 => some (.invokevirtual 103, 3, [2, 165, 2, 10, 0, 1123, 0, 0])
  | 7 => some (.ifCond .ne 7, 3, [14])
  | 10 => some (.iconst 1, 1, [1])
  | 11 => some (.goto 15, 3, [26])
  | 14 => some (.iload_n 3, 1, [])
  | 15 => some (.invokestatic 96, 3, [2, 161, 0, 10, 0, 1109, 0])
  | 18 => some (.ifCond .eq 7, 3, [25])
  | 21 => some (.iconst 0, 1, [0])
  | 22 => some (.goto 4, 3, [26])
  | 25 => some (.iconst 2, 1, [2])
  | 26 => some (.invokevirtual 72, 3, [2, 153, 2, 10, 0, 1081, 0])
  | 29 => some (.ifCond .eq 5, 3, [34])
  | 32 => some (.iconst 0, 1, [0])
  | 33 => some (.ireturn, 1, [0])
  | 34 => some (.aload_n 0, 1, [])
  | 35 => some (.invokevirtual 87, 3, [2, 157, 2, 10, 0, 1095])
  | 38 => some (.aload_n 0, 1, [])
  | 39 => some (.iload_n 1, 1, [])
  | 40 => some (.iload_n 2, 1, [])
  | 41 => some (.iconst 1, 1, [1])
  | 42 => some (.invokevirtual 107, 3, [2, 167, 2, 10, 0, 1131, 0, 0, 0])
  | 45 => some (.istore 4, 2, [])
  | 47 => some (.aload_n 0, 1, [])
  | 48 => some (.getfield 7, 3, [1, 10, 0, 2, 0, 994])
  | 51 => some (.iload_n 1, 1, [])
  | 52 => some (.iload_n 2, 1, [])
  | 53 => some (.invokestatic 80, 3, [2, 163, 0, 10, 0, 1116, 0, 0])
  | 56 => some (.iconst 1, 1, [1])
  | 57 => some (.iadd, 1, [])
  | 58 => some (.iload_n 3, 1, [])
  | 59 => some (.iastore, 1, [])
  | 60 => some (.iload 4, 2, [])
  | 62 => some (.ireturn, 1, [0])
  | _ => none
def dec167 (pc : Nat) : Option (ClassFile.Instr × Nat × List Nat) := match pc with
  | 0 => some (.aload_n 0, 1, [])
  | 1 => some (.getfield 7, 3, [1, 10, 0, 2, 0, 994])
  | 4 => some (.iload_n 1, 1, [])
  | 5 => some (.iload_n 2, 1, [])
  | 6 => some (.invokestatic 80, 3, [2, 163, 0, 10, 0, 1116, 0, 0])
  | 9 => some (.iload_n 3, 1, [])
  | 10 => some (.iadd, 1, [])
  | 11 => some (.iaload, 1, [])
  | 12 => some (.ireturn, 1, [0])
  | _ => none
def dec168 (pc : Nat) : Option (ClassFile.Instr × Nat × List Nat) := match pc with
  | 0 => some (.aload_n 0, 1, [])
  | 1 => some (.iconst 0, 1, [0])
  | 2 => some (.putfield 65, 3, [1, 10, 4, 0, 0, 998])
  | 5 => some (.aload_n 0, 1, [])
  | 6 => some (.invokevirtual 87, 3, [2, 157, 2, 10, 0, 1095])
  | 9 => some (.aload_n 0, 1, [])
  | 10 => some (.invokevirtual 111, 3, [2, 169, 2, 10, 0, 1139])
  | 13 => some (.istore_n 1, 1, [])
  | 14 => some (.iconst 0, 1, [0])
  | 15 => some (.istore_n 2, 1, [])
  | 16 => some (.iload_n 2, 1, [])
  | 17 => some (.iconst 3, 1, [3])
  | 18 => some (.if_icmp .ge 42, 3, [60])
  | 21 => some (.iconst 0, 1, [0])
  | 22 => some (.istore_n 3, 1, [])
  | 23 => some (.iload_n 3, 1, [])
  | 24 => some (.aload_n 0, 1, [])
  | 25 => some (.getfield 7, 3, [1, 10, 0, 2, 0, 994])
  | 28 => some (.iconst 3, 1, [3])
  | 29 => some (.iload_n 2, 1, [])
  | 30 => some (.iadd, 1, [])
  | 31 => some (.iaload, 1, [])
  | 32 => some (.if_icmp .ge 22, 3, [54])
  | 35 => some (.aload_n 0, 1, [])
  | 36 => some (.getfield 7, 3, [1, 10, 0, 2, 0, 994])
  | 39 => some (.iload_n 2, 1, [])
  | 40 => some (.iload_n 3, 1, [])
  | 41 => some (.invokestatic 80, 3, [2, 163, 0, 10, 0, 1116, 0, 0])
  | 44 => some (.iconst 5, 1, [5])
  | 45 => some (.iadd, 1, [])
  | 46 => some (.iconst 0, 1, [0])
  | 47 => some (.iastore, 1, [])
  | 48 => some (.iinc 3 1, 3, [1])
  | 51 => some (.goto (-28), 3, [23])
  | 54 => some (.iinc 2 1, 3, [1])
  | 57 => some (.goto (-41), 3, [16])
  | 60 => some (.iload_n 1, 1, [])
  | 61 => some (.ireturn, 1, [0])
  | _ => none
def dec169 (pc : Nat) : Option (ClassFile.Instr × Nat × List Nat) := match pc with
  | 0 => some (.iconst 0, 1, [0])
  | 1 => some (.istore_n 1, 1, [])
  | 2 => some (.iconst 0, 1, [0])
  | 3 => some (.istore_n 2, 1, [])
  | 4 => some (.iload_n 2, 1, [])
  | 5 => some (.iconst 3, 1, [3])
  | 6 => some (.if_icmp .ge 39, 3, [45])
  | 9 => some (.iconst 0, 1, [0])
  | 10 => some (.istore_n 3, 1, [])
  | 11 => some (.iload_n 3, 1, [])
  | 12 => some (.aload_n 0, 1, [])
  | 13 => some (.getfield 7, 3, [1, 10, 0, 2, 0, 994])
  | 16 => some (.iconst 3, 1, [3])
  | 17 => some (.iload_n 2, 1, [])
  | 18 => some (.iadd, 1, [])
  | 19 => some (.iaload, 1, [])
  | 20 => some (.if_icmp .ge 19, 3, [39])
  | 23 => some (.iload_n 1, 1, [])
  | 24 => some (.aload_n 0, 1, [])
  | 25 => some (.iload_n 2, 1, [])
  | 26 => some (.iload_n 3, 1, [])
  | 27 => some (.iconst 5, 1, [5])
  | 28 => some (.invokevirtual 107, 3, [2, 167, 2, 10, 0, 1131, 0, 0, 0])
  | 31 => some (.iadd, 1, [])
  | 32 => some (.istore_n 1, 1, [])
  | 33 => some (.iinc 3 1, 3, [1])
  | 36 => some (.goto (-25), 3, [11])
  | 39 => some (.iinc 2 1, 3, [1])
  | 42 => some (.goto (-38), 3, [4])
  | 45 => some (.iload_n 1, 1, [])
  | 46 => some (.ireturn, 1, [0])
  | _ => none
def dec170 (pc : Nat) : Option (ClassFile.Instr × Nat × List Nat) := match pc with
  | 0 => some (.aload_n 0, 1, [])
  | 1 => some (.aload_n 0, 1, [])
  | 2 => some (.iload_n 1, 1, [])
  | 3 => some (.iload_n 2, 1, [])
  | 4 => some (.invokevirtual 103, 3, [2, 165, 2, 10, 0, 1123, 0, 0])
  | 7 => some (.ifCond .ne 7, 3, [14])
  | 10 => some (.iconst 1, 1, [1])
  | 11 => some (.goto 18, 3, [29])
  | 14 => some (.iload_n 3, 1, [])
  | 15 => some (.iconst 0, 1, [0])
  | 16 => some (.bipush 7, 2, [7])
  | 18 => some (.invokestatic 76, 3, [2, 156, 0, 10, 0, 1092, 0, 0, 0])
  | 21 => some (.ifCond .eq 7, 3, [28])
  | 24 => some (.iconst 0, 1, [0])
  | 25 => some (.goto 4, 3, [29])
  | 28 => some (.iconst 2, 1, [2])
  | 29 => some (.invokevirtual 72, 3, [2, 153, 2, 10, 0, 1081, 0])
  | 32 => some (.ifCond .eq 7, 3, [39])
  | 35 => some (.iconst 0, 1, [0])
  | 36 => some (.goto 10, 3, [46])
  | 39 => some (.aload_n 0, 1, [])
  | 40 => some (.iload_n 1, 1, [])
  | 41 => some (.iload_n 2, 1, [])
  | 42 => some (.iload_n 3, 1, [])
  | 43 => some (.invokevirtual 135, 3, [2, 171, 2, 10, 0, 1147, 0, 0, 0])
  | 46 => some (.ireturn, 1, [0])
  | _ => none
def dec171 (pc : Nat) : Option (ClassFile.Instr × Nat × List Nat) := match pc with
  | 0 => some (.iload_n 3, 1, [])
  | 1 => some (.lookupswitch 49 #[(6, 27), (7, 34)], 27, [])
  | 28 => some (.aload_n 0, 1, [])
  | 29 => some (.iload_n 1, 1, [])
  | 30 => some (.iload_n 2, 1, [])
  | 31 => some (.invokevirtual 121, 3, [2, 172, 2, 10, 0, 1151, 0, 0])
  | 34 => some (.ireturn, 1, [0])
  | 35 => some (.aload_n 0, 1, [])
  | 36 => some (.iload_n 1, 1, [])
  | 37 => some (.invokevirtual 131, 3, [2, 173, 2, 10, 0, 1155, 0])
  | 40 => some (.bipush 6, 2, [6])
  | 42 => some (.iload_n 1, 1, [])
  | 43 => some (.imul, 1, [])
  | 44 => some (.iload_n 2, 1, [])
  | 45 => some (.iadd, 1, [])
  | 46 => some (.ishr, 1, [])
  | 47 => some (.iconst 1, 1, [1])
  | 48 => some (.iand, 1, [])
  | 49 => some (.ireturn, 1, [0])
  | 50 => some (.aload_n 0, 1, [])
  | 51 => some (.iload_n 1, 1, [])
  | 52 => some (.iload_n 2, 1, [])
  | 53 => some (.iload_n 3, 1, [])
  | 54 => some (.invokevirtual 107, 3, [2, 167, 2, 10, 0, 1131, 0, 0, 0])
  | 57 => some (.ireturn, 1, [0])
  | _ => none
def dec172 (pc : Nat) : Option (ClassFile.Instr × Nat × List Nat) := match pc with
  | 0 => some (.aload_n 0, 1, [])
  | 1 => some (.iload_n 1, 1, [])
  | 2 => some (.iload_n 2, 1, [])
  | 3 => some (.iconst 2, 1, [2])
  | 4 => some (.invokevirtual 107, 3, [2, 167, 2, 10, 0, 1131, 0, 0, 0])
  | 7 => some (.istore_n 3, 1, [])
  | 8 => some (.iload_n 3, 1, [])
  | 9 => some (.ifCond .ne 13, 3, [22])
  | 12 => some (.aload_n 0, 1, [])
  | 13 => some (.iload_n 1, 1, [])
  | 14 => some (.iload_n 2, 1, [])
  | 15 => some (.iconst 1, 1, [1])
  | 16 => some (.invokevirtual 107, 3, [2, 167, 2, 10, 0, 1131, 0, 0, 0])
  | 19 => some (.goto 34, 3, [53])
  | 22 => some (.aload_n 0, 1, [])
  | 23 => some (.iload_n 1, 1, [])
  | 24 => some (.iload_n 2, 1, [])
  | 25 => some (.iconst 1, 1, [1])
  | 26 => some (.invokevirtual 107, 3, [2, 167, 2, 10, 0, 1131, 0, 0, 0])
  | 29 => some (.bipush 100, 2, [100])
  | 31 => some (.aload_n 0, 1, [])
  | 32 => some (.getfield 7, 3, [1, 10, 0, 2, 0, 994])
  | 35 => some (.bipush 120, 2, [120])
  | 37 => some (.iaload, 1, [])
  | 38 => some (.aload_n 0, 1, [])
  | 39 => some (.getfield 7, 3, [1, 10, 0, 2, 0, 994])
  | 42 => some (.bipush 113, 2, [113])
  | 44 => some (.iload_n 3, 1, [])
  | 45 => some (.iadd, 1, [])
  | 46 => some (.iaload, 1, [])
  | 47 => some (.imul, 1, [])
  | 48 => some (.iadd, 1, [])
  | 49 => some (.imul, 1, [])
  | 50 => some (.bipush 100, 2, [100])
  | 52 => some (.idiv, 1, [])
  | 53 => some (.ireturn, 1, [0])
  | _ => none
def dec173 (pc : Nat) : Option (ClassFile.Instr × Nat × List Nat) := match pc with
  | 0 => some (.aload_n 0, 1, [])
  | 1 => some (.invokevirtual 124, 3, [2, 174, 2, 10, 0, 1159])
  | 4 => some (.istore_n 2, 1, [])
  | 5 => some (.aload_n 0, 1, [])
  | 6 => some (.aload_n 0, 1, [])
  | 7 => some (.iload_n 1, 1, [])
  | 8 => some (.iload_n 2, 1, [])
  | 9 => some (.iconst 0, 1, [0])
  | 10 => some (.iconst (-1), 1, [4294967295])
  | 11 => some (.invokevirtual 127, 3, [2, 175, 2, 10, 0, 1163, 0, 0, 0, 0])
  | 14 => some (.iload_n 2, 1, [])
  | 15 => some (.iconst 0, 1, [0])
  | 16 => some (.invokevirtual 115, 3, [2, 176, 2, 10, 0, 1167, 0, 0, 0])
  | 19 => some (.ireturn, 1, [0])
  | _ => none
def dec174 (pc : Nat) : Option (ClassFile.Instr × Nat × List Nat) := match pc with
  | 0 => some (.iconst 0, 1, [0])
  | 1 => some (.istore_n 1, 1, [])
  | 2 => some (.iconst 0, 1, [0])
  | 3 => some (.istore_n 2, 1, [])
  | 4 => some (.iload_n 2, 1, [])
  | 5 => some (.iconst 3, 1, [3])
  | 6 => some (.if_icmp .ge 46, 3, [52])
  | 9 => some (.iconst 0, 1, [0])
  | 10 => some (.istore_n 3, 1, [])
  | 11 => some (.iload_n 3, 1, [])
  | 12 => some (.aload_n 0, 1, [])
  | 13 => some (.getfield 7, 3, [1, 10, 0, 2, 0, 994])
  | 16 => some (.iconst 3, 1, [3])
  | 17 => some (.iload_n 2, 1, [])
  | 18 => some (.iadd, 1, [])
  | 19 => some (.iaload, 1, [])
  | 20 => some (.if_icmp .ge 26, 3, [46])
  | 23 => some (.iload_n 1, 1, [])
  | 24 => some (.aload_n 0, 1, [])
  | 25 => some (.iload_n 2, 1, [])
  | 26 => some (.iload_n 3, 1, [])
  | 27 => some (.iconst 5, 1, [5])
  | 28 => some (.invokevirtual 107, 3, [2, 167, 2, 10, 0, 1131, 0, 0, 0])
  | 31 => some (.bipush 6, 2, [6])
  | 33 => some (.iload_n 2, 1, [])
  | 34 => some (.imul, 1, [])
  | 35 => some (.iload_n 3, 1, [])
  | 36 => some (.iadd, 1, [])
  | 37 => some (.ishl, 1, [])
  | 38 => some (.ior, 1, [])
  | 39 => some (.istore_n 1, 1, [])
  | 40 => some (.iinc 3 1, 3, [1])
  | 43 => some (.goto (-32), 3, [11])
  | 46 => some (.iinc 2 1, 3, [1])
  | 49 => some (.goto (-45), 3, [4])
  | 52 => some (.iload_n 1, 1, [])
  | 53 => some (.ireturn, 1, [0])
  | _ => none
def dec175_0 (pc : Nat) : Option (ClassFile.Instr × Nat × List Nat) := match pc with
  | 0 => some (.iconst 3, 1, [3])
  | 1 => some (.istore 5, 2, [])
  | 3 => some (.iload 5, 2, [])
  | 5 => some (.ifCond .le 84, 3, [89])
  | 8 => some (.aload_n 0, 1, [])
  | 9 => some (.getfield 7, 3, [1, 10, 0, 2, 0, 994])
  | 12 => some (.bipush 116, 2, [116])
  | 14 => some (.iload 5, 2, [])
  | 16 => some (.iadd, 1, [])
  | 17 => some (.iaload, 1, [])
  | 18 => some (.ifCond .le 39, 3, [57])
  | 21 => some (.aload_n 0, 1, [])
  | 22 => some (.getfield 7, 3, [1, 10, 0, 2, 0, 994])
  | 25 => some (.bipush 113, 2, [113])
  | 27 => some (.iload 5, 2, [])
  | 29 => some (.iadd, 1, [])
  | 30 => some (.iaload, 1, [])
  | 31 => some (.iconst 1, 1, [1])
  | 32 => some (.iadd, 1, [])
  | 33 => some (.aload_n 0, 1, [])
  | 34 => some (.getfield 7, 3, [1, 10, 0, 2, 0, 994])
  | 37 => some (.bipush 116, 2, [116])
  | 39 => some (.iload 5, 2, [])
  | 41 => some (.iadd, 1, [])
  | 42 => some (.iaload, 1, [])
  | 43 => some (.if_icmp .lt 14, 3, [57])
  | 46 => some (.iload 4, 2, [])
  | 48 => some (.iload 5, 2, [])
  | 50 => some (.if_icmp .ge 7, 3, [57])
  | 53 => some (.iconst 1, 1, [1])
  | 54 => some (.goto 4, 3, [58])
  | 57 => some (.iconst 0, 1, [0])
  | 58 => some (.istore 6, 2, [])
  | 60 => some (.iload 6, 2, [])
  | 62 => some (.ifCond .eq 21, 3, [83])
  | 65 => some (.aload_n 0, 1, [])
  | 66 => some (.iload 5, 2, [])
  | 68 => some (.iload_n 2, 1, [])
  | 69 => some (.iload_n 3, 1, [])
  | 70 => some (.invokevirtual 115, 3, [2, 176, 2, 10, 0, 1167, 0, 0, 0])
  | 73 => some (.iload_n 1, 1, [])
  | 74 => some (.invokestatic 118, 3, [2, 177, 0, 10, 0, 1171, 0, 0])
  | 77 => some (.ifCond .eq 6, 3, [83])
  | 80 => some (.iload 5, 2, [])
  | 82 => some (.ireturn, 1, [0])
  | 83 => some (.iinc 5 (-1), 3, [4294967295])
  | 86 => some (.goto (-83), 3, [3])
  | 89 => some (.iconst 0, 1, [0])
  | _ => none
def dec175_1 (pc : Nat) : Option (ClassFile.Instr × Nat × List Nat) := match pc with
  | 90 => some (.ireturn, 1, [0])
  | _ => none
def dec175 (pc : Nat) : Option (ClassFile.Instr × Nat × List Nat) := if pc < 90 then dec175_0 pc else if pc < 91 then dec175_1 pc else none
def dec176_0 (pc : Nat) : Option (ClassFile.Instr × Nat × List Nat) := match pc with
  | 0 => some (.iconst 0, 1, [0])
  | 1 => some (.istore 4, 2, [])
  | 3 => some (.iconst 2, 1, [2])
  | 4 => some (.istore 5, 2, [])
  | 6 => some (.iload 5, 2, [])
  | 8 => some (.ifCond .lt 179, 3, [187])
  | 11 => some (.iconst 0, 1, [0])
  | 12 => some (.istore 6, 2, [])
  | 14 => some (.iload 6, 2, [])
  | 16 => some (.aload_n 0, 1, [])
  | 17 => some (.getfield 7, 3, [1, 10, 0, 2, 0, 994])
  | 20 => some (.iconst 3, 1, [3])
  | 21 => some (.iload 5, 2, [])
  | 23 => some (.iadd, 1, [])
  | 24 => some (.iaload, 1, [])
  | 25 => some (.if_icmp .ge 156, 3, [181])
  | 28 => some (.aload_n 0, 1, [])
  | 29 => some (.iload 5, 2, [])
  | 31 => some (.iload 6, 2, [])
  | 33 => some (.iconst 3, 1, [3])
  | 34 => some (.invokevirtual 107, 3, [2, 167, 2, 10, 0, 1131, 0, 0, 0])
  | 37 => some (.istore 7, 2, [])
  | 39 => some (.aload_n 0, 1, [])
  | 40 => some (.iload 5, 2, [])
  | 42 => some (.iload 6, 2, [])
  | 44 => some (.iconst 0, 1, [0])
  | 45 => some (.invokevirtual 107, 3, [2, 167, 2, 10, 0, 1131, 0, 0, 0])
  | 48 => some (.istore 8, 2, [])
  | 50 => some (.iload_n 2, 1, [])
  | 51 => some (.bipush 6, 2, [6])
  | 53 => some (.iload 5, 2, [])
  | 55 => some (.imul, 1, [])
  | 56 => some (.iload 6, 2, [])
  | 58 => some (.iadd, 1, [])
  | 59 => some (.ishr, 1, [])
  | 60 => some (.iconst 1, 1, [1])
  | 61 => some (.iand, 1, [])
  | 62 => some (.ifCond .ne 28, 3, [90])
  | 65 => some (.iload 7, 2, [])
  | 67 => some (.ifCond .eq 19, 3, [86])
  | 70 => some (.iload_n 3, 1, [])
  | 71 => some (.iconst 3, 1, [3])
  | 72 => some (.iload 5, 2, [])
  | 74 => some (.imul, 1, [])
  | 75 => some (.iload 7, 2, [])
  | 77 => some (.iadd, 1, [])
  | 78 => some (.iconst 1, 1, [1])
  | 79 => some (.isub, 1, [])
  | _ => none
def dec176_1 (pc : Nat) : Option (ClassFile.Instr × Nat × List Nat) := match pc with
  | 80 => some (.ishr, 1, [])
  | 81 => some (.iconst 1, 1, [1])
  | 82 => some (.iand, 1, [])
  | 83 => some (.ifCond .ne 7, 3, [90])
  | 86 => some (.iconst 1, 1, [1])
  | 87 => some (.goto 4, 3, [91])
  | 90 => some (.iconst 0, 1, [0])
  | 91 => some (.istore 9, 2, [])
  | 93 => some (.iload 8, 2, [])
  | 95 => some (.invokestatic 90, 3, [2, 160, 0, 10, 0, 1106, 0])
  | 98 => some (.ifCond .eq 24, 3, [122])
  | 101 => some (.aload_n 0, 1, [])
  | 102 => some (.iload 5, 2, [])
  | 104 => some (.iload 6, 2, [])
  | 106 => some (.iconst 2, 1, [2])
  | 107 => some (.invokevirtual 107, 3, [2, 167, 2, 10, 0, 1131, 0, 0, 0])
  | 110 => some (.iload_n 1, 1, [])
  | 111 => some (.if_icmp .lt 7, 3, [118])
  | 114 => some (.iconst 1, 1, [1])
  | 115 => some (.goto 29, 3, [144])
  | 118 => some (.iconst 0, 1, [0])
  | 119 => some (.goto 25, 3, [144])
  | 122 => some (.iload 4, 2, [])
  | 124 => some (.bipush 6, 2, [6])
  | 126 => some (.iload 8, 2, [])
  | 128 => some (.bipush 16, 2, [16])
  | 130 => some (.isub, 1, [])
  | 131 => some (.imul, 1, [])
  | 132 => some (.ishr, 1, [])
  | 133 => some (.bipush 63, 2, [63])
  | 135 => some (.iand, 1, [])
  | 136 => some (.ifCond .eq 7, 3, [143])
  | 139 => some (.iconst 1, 1, [1])
  | 140 => some (.goto 4, 3, [144])
  | 143 => some (.iconst 0, 1, [0])
  | 144 => some (.istore 10, 2, [])
  | 146 => some (.iload 4, 2, [])
  | 148 => some (.iload 9, 2, [])
  | 150 => some (.ifCond .eq 21, 3, [171])
  | 153 => some (.iload 10, 2, [])
  | 155 => some (.ifCond .eq 16, 3, [171])
  | 158 => some (.iconst 1, 1, [1])
  | 159 => some (.bipush 6, 2, [6])
  | 161 => some (.iload 5, 2, [])
  | 163 => some (.imul, 1, [])
  | 164 => some (.iload 6, 2, [])
  | 166 => some (.iadd, 1, [])
  | 167 => some (.ishl, 1, [])
  | _ => none
def dec176_2 (pc : Nat) : Option (ClassFile.Instr × Nat × List Nat) := match pc with
  | 168 => some (.goto 4, 3, [172])
  | 171 => some (.iconst 0, 1, [0])
  | 172 => some (.ior, 1, [])
  | 173 => some (.istore 4, 2, [])
  | 175 => some (.iinc 6 1, 3, [1])
  | 178 => some (.goto (-164), 3, [14])
  | 181 => some (.iinc 5 (-1), 3, [4294967295])
  | 184 => some (.goto (-178), 3, [6])
  | 187 => some (.iload 4, 2, [])
  | 189 => some (.ireturn, 1, [0])
  | _ => none
def dec176 (pc : Nat) : Option (ClassFile.Instr × Nat × List Nat) := if pc < 80 then dec176_0 pc else if pc < 168 then dec176_1 pc else if pc < 190 then dec176_2 pc else none
def dec177 (pc : Nat) : Option (ClassFile.Instr × Nat × List Nat) := match pc with
  | 0 => some (.iload_n 0, 1, [])
  | 1 => some (.bipush 6, 2, [6])
  | 3 => some (.iload_n 1, 1, [])
  | 4 => some (.imul, 1, [])
  | 5 => some (.ishr, 1, [])
  | 6 => some (.bipush 63, 2, [63])
  | 8 => some (.iand, 1, [])
  | 9 => some (.ifCond .eq 7, 3, [16])
  | 12 => some (.iconst 1, 1, [1])
  | 13 => some (.goto 4, 3, [17])
  | 16 => some (.iconst 0, 1, [0])
  | 17 => some (.ireturn, 1, [1])
  | _ => none
def dec178 (pc : Nat) : Option (ClassFile.Instr × Nat × List Nat) := match pc with
  | 0 => some (.aload_n 0, 1, [])
  | 1 => some (.iload_n 1, 1, [])
  | 2 => some (.invokestatic 84, 3, [2, 155, 0, 10, 0, 1089, 0])
  | 5 => some (.ifCond .ne 7, 3, [12])
  | 8 => some (.iconst 1, 1, [1])
  | 9 => some (.goto 17, 3, [26])
  | 12 => some (.iload_n 2, 1, [])
  | 13 => some (.iconst 0, 1, [0])
  | 14 => some (.iconst 3, 1, [3])
  | 15 => some (.invokestatic 76, 3, [2, 156, 0, 10, 0, 1092, 0, 0, 0])
  | 18 => some (.ifCond .eq 7, 3, [25])
  | 21 => some (.iconst 0, 1, [0])
  | 22 => some (.goto 4, 3, [26])
  | 25 => some (.iconst 2, 1, [2])
  | 26 => some (.invokevirtual 72, 3, [2, 153, 2, 10, 0, 1081, 0])
  | 29 => some (.ifCond .eq 7, 3, [36])
  | 32 => some (.iconst 0, 1, [0])
  | 33 => some (.goto 9, 3, [42])
  | 36 => some (.aload_n 0, 1, [])
  | 37 => some (.iload_n 1, 1, [])
  | 38 => some (.iload_n 2, 1, [])
  | 39 => some (.invokevirtual 141, 3, [2, 179, 2, 10, 0, 1178, 0, 0])
  | 42 => some (.ireturn, 1, [0])
  | _ => none
def dec179 (pc : Nat) : Option (ClassFile.Instr × Nat × List Nat) := match pc with
  | 0 => some (.iload_n 2, 1, [])
  | 1 => some (.tableswitch 57 0 2 #[27, 36, 45], 27, [])
  | 28 => some (.aload_n 0, 1, [])
  | 29 => some (.getfield 7, 3, [1, 10, 0, 2, 0, 994])
  | 32 => some (.iconst 0, 1, [0])
  | 33 => some (.iload_n 1, 1, [])
  | 34 => some (.iadd, 1, [])
  | 35 => some (.iaload, 1, [])
  | 36 => some (.ireturn, 1, [0])
  | 37 => some (.aload_n 0, 1, [])
  | 38 => some (.getfield 7, 3, [1, 10, 0, 2, 0, 994])
  | 41 => some (.iconst 3, 1, [3])
  | 42 => some (.iload_n 1, 1, [])
  | 43 => some (.iadd, 1, [])
  | 44 => some (.iaload, 1, [])
  | 45 => some (.ireturn, 1, [0])
  | 46 => some (.aload_n 0, 1, [])
  | 47 => some (.iload_n 1, 1, [])
  | 48 => some (.aload_n 0, 1, [])
  | 49 => some (.invokevirtual 124, 3, [2, 174, 2, 10, 0, 1159])
  | 52 => some (.iconst 0, 1, [0])
  | 53 => some (.iconst (-1), 1, [4294967295])
  | 54 => some (.invokevirtual 127, 3, [2, 175, 2, 10, 0, 1163, 0, 0, 0, 0])
  | 57 => some (.ireturn, 1, [0])
  | 58 => some (.aload_n 0, 1, [])
  | 59 => some (.iload_n 1, 1, [])
  | 60 => some (.aload_n 0, 1, [])
  | 61 => some (.iload_n 1, 1, [])
  | 62 => some (.invokevirtual 131, 3, [2, 173, 2, 10, 0, 1155, 0])
  | 65 => some (.invokevirtual 138, 3, [2, 180, 2, 10, 0, 1182, 0, 0])
  | 68 => some (.ireturn, 1, [0])
  | _ => none
def dec180 (pc : Nat) : Option (ClassFile.Instr × Nat × List Nat) := match pc with
  | 0 => some (.iconst 0, 1, [0])
  | 1 => some (.istore_n 3, 1, [])
  | 2 => some (.iconst 0, 1, [0])
  | 3 => some (.istore 4, 2, [])
  | 5 => some (.iload 4, 2, [])
  | 7 => some (.aload_n 0, 1, [])
  | 8 => some (.getfield 7, 3, [1, 10, 0, 2, 0, 994])
  | 11 => some (.iconst 3, 1, [3])
  | 12 => some (.iload_n 1, 1, [])
  | 13 => some (.iadd, 1, [])
  | 14 => some (.iaload, 1, [])
  | 15 => some (.if_icmp .ge 38, 3, [53])
  | 18 => some (.iload_n 3, 1, [])
  | 19 => some (.iload_n 2, 1, [])
  | 20 => some (.bipush 6, 2, [6])
  | 22 => some (.iload_n 1, 1, [])
  | 23 => some (.imul, 1, [])
  | 24 => some (.iload 4, 2, [])
  | 26 => some (.iadd, 1, [])
  | 27 => some (.ishr, 1, [])
  | 28 => some (.iconst 1, 1, [1])
  | 29 => some (.iand, 1, [])
  | 30 => some (.iconst 1, 1, [1])
  | 31 => some (.if_icmp .ne 13, 3, [44])
  | 34 => some (.aload_n 0, 1, [])
  | 35 => some (.iload_n 1, 1, [])
  | 36 => some (.iload 4, 2, [])
  | 38 => some (.invokevirtual 121, 3, [2, 172, 2, 10, 0, 1151, 0, 0])
  | 41 => some (.goto 4, 3, [45])
  | 44 => some (.iconst 0, 1, [0])
  | 45 => some (.iadd, 1, [])
  | 46 => some (.istore_n 3, 1, [])
  | 47 => some (.iinc 4 1, 3, [1])
  | 50 => some (.goto (-45), 3, [5])
  | 53 => some (.iload_n 3, 1, [])
  | 54 => some (.ireturn, 1, [0])
  | _ => none
def dec181 (pc : Nat) : Option (ClassFile.Instr × Nat × List Nat) := match pc with
  | 0 => some (.aload_n 0, 1, [])
  | 1 => some (.iload_n 1, 1, [])
  | 2 => some (.invokestatic 144, 3, [2, 182, 0, 10, 0, 1190, 0])
  | 5 => some (.ifCond .ne 7, 3, [12])
  | 8 => some (.iconst 1, 1, [1])
  | 9 => some (.goto 19, 3, [28])
  | 12 => some (.iload_n 2, 1, [])
  | 13 => some (.iconst 0, 1, [0])
  | 14 => some (.sipush 200, 3, [200])
  | 17 => some (.invokestatic 76, 3, [2, 156, 0, 10, 0, 1092, 0, 0, 0])
  | 20 => some (.ifCond .eq 7, 3, [27])
  | 23 => some (.iconst 0, 1, [0])
  | 24 => some (.goto 4, 3, [28])
  | 27 => some (.iconst 2, 1, [2])
  | 28 => some (.invokevirtual 72, 3, [2, 153, 2, 10, 0, 1081, 0])
  | 31 => some (.ifCond .eq 7, 3, [38])
  | 34 => some (.iconst 0, 1, [0])
  | 35 => some (.goto 12, 3, [47])
  | 38 => some (.aload_n 0, 1, [])
  | 39 => some (.bipush 113, 2, [113])
  | 41 => some (.iload_n 1, 1, [])
  | 42 => some (.iadd, 1, [])
  | 43 => some (.iload_n 2, 1, [])
  | 44 => some (.invokevirtual 147, 3, [2, 183, 2, 10, 0, 1193, 0, 0])
  | 47 => some (.ireturn, 1, [0])
  | _ => none
def dec182 (pc : Nat) : Option (ClassFile.Instr × Nat × List Nat) := match pc with
  | 0 => some (.iload_n 0, 1, [])
  | 1 => some (.iconst 1, 1, [1])
  | 2 => some (.iconst 3, 1, [3])
  | 3 => some (.invokestatic 76, 3, [2, 156, 0, 10, 0, 1092, 0, 0, 0])
  | 6 => some (.ireturn, 1, [1])
  | _ => none
def dec183 (pc : Nat) : Option (ClassFile.Instr × Nat × List Nat) := match pc with
  | 0 => some (.aload_n 0, 1, [])
  | 1 => some (.invokevirtual 87, 3, [2, 157, 2, 10, 0, 1095])
  | 4 => some (.aload_n 0, 1, [])
  | 5 => some (.getfield 7, 3, [1, 10, 0, 2, 0, 994])
  | 8 => some (.iload_n 1, 1, [])
  | 9 => some (.iaload, 1, [])
  | 10 => some (.istore_n 3, 1, [])
  | 11 => some (.aload_n 0, 1, [])
  | 12 => some (.getfield 7, 3, [1, 10, 0, 2, 0, 994])
  | 15 => some (.iload_n 1, 1, [])
  | 16 => some (.iload_n 2, 1, [])
  | 17 => some (.iastore, 1, [])
  | 18 => some (.iload_n 3, 1, [])
  | 19 => some (.ireturn, 1, [0])
  | _ => none
def dec184 (pc : Nat) : Option (ClassFile.Instr × Nat × List Nat) := match pc with
  | 0 => some (.aload_n 0, 1, [])
  | 1 => some (.iload_n 1, 1, [])
  | 2 => some (.invokestatic 144, 3, [2, 182, 0, 10, 0, 1190, 0])
  | 5 => some (.ifCond .ne 7, 3, [12])
  | 8 => some (.iconst 1, 1, [1])
  | 9 => some (.goto 19, 3, [28])
  | 12 => some (.iload_n 2, 1, [])
  | 13 => some (.iconst 0, 1, [0])
  | 14 => some (.sipush 200, 3, [200])
  | 17 => some (.invokestatic 76, 3, [2, 156, 0, 10, 0, 1092, 0, 0, 0])
  | 20 => some (.ifCond .eq 7, 3, [27])
  | 23 => some (.iconst 0, 1, [0])
  | 24 => some (.goto 4, 3, [28])
  | 27 => some (.iconst 2, 1, [2])
  | 28 => some (.invokevirtual 72, 3, [2, 153, 2, 10, 0, 1081, 0])
  | 31 => some (.ifCond .eq 7, 3, [38])
  | 34 => some (.iconst 0, 1, [0])
  | 35 => some (.goto 12, 3, [47])
  | 38 => some (.aload_n 0, 1, [])
  | 39 => some (.bipush 116, 2, [116])
  | 41 => some (.iload_n 1, 1, [])
  | 42 => some (.iadd, 1, [])
  | 43 => some (.iload_n 2, 1, [])
  | 44 => some (.invokevirtual 147, 3, [2, 183, 2, 10, 0, 1193, 0, 0])
  | 47 => some (.ireturn, 1, [0])
  | _ => none
def dec185 (pc : Nat) : Option (ClassFile.Instr × Nat × List Nat) := match pc with
  | 0 => some (.aload_n 0, 1, [])
  | 1 => some (.iload_n 1, 1, [])
  | 2 => some (.iconst 0, 1, [0])
  | 3 => some (.bipush 50, 2, [50])
  | 5 => some (.invokestatic 76, 3, [2, 156, 0, 10, 0, 1092, 0, 0, 0])
  | 8 => some (.ifCond .eq 17, 3, [25])
  | 11 => some (.iload_n 2, 1, [])
  | 12 => some (.iconst (-1), 1, [4294967295])
  | 13 => some (.ldc 150, 2, [8, 999999, 1205])
  | 15 => some (.invokestatic 76, 3, [2, 156, 0, 10, 0, 1092, 0, 0, 0])
  | 18 => some (.ifCond .eq 7, 3, [25])
  | 21 => some (.iconst 0, 1, [0])
  | 22 => some (.goto 4, 3, [26])
  | 25 => some (.iconst 1, 1, [1])
  | 26 => some (.invokevirtual 72, 3, [2, 153, 2, 10, 0, 1081, 0])
  | 29 => some (.ifCond .eq 5, 3, [34])
  | 32 => some (.iconst 0, 1, [0])
  | 33 => some (.ireturn, 1, [0])
  | 34 => some (.aload_n 0, 1, [])
  | 35 => some (.bipush 120, 2, [120])
  | 37 => some (.iload_n 1, 1, [])
  | 38 => some (.invokevirtual 147, 3, [2, 183, 2, 10, 0, 1193, 0, 0])
  | 41 => some (.istore_n 3, 1, [])
  | 42 => some (.aload_n 0, 1, [])
  | 43 => some (.getfield 7, 3, [1, 10, 0, 2, 0, 994])
  | 46 => some (.bipush 121, 2, [121])
  | 48 => some (.iload_n 2, 1, [])
  | 49 => some (.iconst (-1), 1, [4294967295])
  | 50 => some (.if_icmp .ne 13, 3, [63])
  | 53 => some (.aload_n 0, 1, [])
  | 54 => some (.getfield 7, 3, [1, 10, 0, 2, 0, 994])
  | 57 => some (.bipush 121, 2, [121])
  | 59 => some (.iaload, 1, [])
  | 60 => some (.goto 4, 3, [64])
  | 63 => some (.iload_n 2, 1, [])
  | 64 => some (.iastore, 1, [])
  | 65 => some (.iload_n 3, 1, [])
  | 66 => some (.ireturn, 1, [0])
  | _ => none
def dec186 (pc : Nat) : Option (ClassFile.Instr × Nat × List Nat) := match pc with
  | 0 => some (.aload_n 0, 1, [])
  | 1 => some (.iload_n 1, 1, [])
  | 2 => some (.invokestatic 144, 3, [2, 182, 0, 10, 0, 1190, 0])
  | 5 => some (.ifCond .eq 7, 3, [12])
  | 8 => some (.iconst 0, 1, [0])
  | 9 => some (.goto 4, 3, [13])
  | 12 => some (.iconst 1, 1, [1])
  | 13 => some (.invokevirtual 72, 3, [2, 153, 2, 10, 0, 1081, 0])
  | 16 => some (.ifCond .eq 7, 3, [23])
  | 19 => some (.iconst 0, 1, [0])
  | 20 => some (.goto 21, 3, [41])
  | 23 => some (.aload_n 0, 1, [])
  | 24 => some (.getfield 7, 3, [1, 10, 0, 2, 0, 994])
  | 27 => some (.iload_n 2, 1, [])
  | 28 => some (.ifCond .eq 8, 3, [36])
  | 31 => some (.bipush 116, 2, [116])
  | 33 => some (.goto 5, 3, [38])
  | 36 => some (.bipush 113, 2, [113])
  | 38 => some (.iload_n 1, 1, [])
  | 39 => some (.iadd, 1, [])
  | 40 => some (.iaload, 1, [])
  | 41 => some (.ireturn, 1, [0])
  | _ => none
def dec187 (pc : Nat) : Option (ClassFile.Instr × Nat × List Nat) := match pc with
  | 0 => some (.aload_n 0, 1, [])
  | 1 => some (.iload_n 1, 1, [])
  | 2 => some (.iconst 0, 1, [0])
  | 3 => some (.bipush 7, 2, [7])
  | 5 => some (.invokestatic 76, 3, [2, 156, 0, 10, 0, 1092, 0, 0, 0])
  | 8 => some (.ifCond .eq 7, 3, [15])
  | 11 => some (.iconst 0, 1, [0])
  | 12 => some (.goto 4, 3, [16])
  | 15 => some (.iconst 1, 1, [1])
  | 16 => some (.invokevirtual 72, 3, [2, 153, 2, 10, 0, 1081, 0])
  | 19 => some (.ifCond .eq 7, 3, [26])
  | 22 => some (.iconst 0, 1, [0])
  | 23 => some (.goto 8, 3, [31])
  | 26 => some (.aload_n 0, 1, [])
  | 27 => some (.iload_n 1, 1, [])
  | 28 => some (.invokevirtual 154, 3, [2, 188, 2, 10, 0, 1214, 0])
  | 31 => some (.ireturn, 1, [0])
  | _ => none
def dec188 (pc : Nat) : Option (ClassFile.Instr × Nat × List Nat) := match pc with
  | 0 => some (.iload_n 1, 1, [])
  | 1 => some (.tableswitch 71 4 7 #[31, 40, 61, 66], 31, [])
  | 32 => some (.aload_n 0, 1, [])
  | 33 => some (.getfield 7, 3, [1, 10, 0, 2, 0, 994])
  | 36 => some (.sipush 140, 3, [140])
  | 39 => some (.iaload, 1, [])
  | 40 => some (.ireturn, 1, [0])
  | 41 => some (.aload_n 0, 1, [])
  | 42 => some (.getfield 7, 3, [1, 10, 0, 2, 0, 994])
  | 45 => some (.iconst 3, 1, [3])
  | 46 => some (.iaload, 1, [])
  | 47 => some (.aload_n 0, 1, [])
  | 48 => some (.getfield 7, 3, [1, 10, 0, 2, 0, 994])
  | 51 => some (.iconst 4, 1, [4])
  | 52 => some (.iaload, 1, [])
  | 53 => some (.iadd, 1, [])
  | 54 => some (.aload_n 0, 1, [])
  | 55 => some (.getfield 7, 3, [1, 10, 0, 2, 0, 994])
  | 58 => some (.iconst 5, 1, [5])
  | 59 => some (.iaload, 1, [])
  | 60 => some (.iadd, 1, [])
  | 61 => some (.ireturn, 1, [0])
  | 62 => some (.aload_n 0, 1, [])
  | 63 => some (.invokevirtual 111, 3, [2, 169, 2, 10, 0, 1139])
  | 66 => some (.ireturn, 1, [0])
  | 67 => some (.aload_n 0, 1, [])
  | 68 => some (.invokevirtual 151, 3, [2, 189, 2, 10, 0, 1218])
  | 71 => some (.ireturn, 1, [0])
  | 72 => some (.aload_n 0, 1, [])
  | 73 => some (.getfield 7, 3, [1, 10, 0, 2, 0, 994])
  | 76 => some (.bipush 120, 2, [120])
  | 78 => some (.iload_n 1, 1, [])
  | 79 => some (.iadd, 1, [])
  | 80 => some (.iaload, 1, [])
  | 81 => some (.ireturn, 1, [0])
  | _ => none
def dec189 (pc : Nat) : Option (ClassFile.Instr × Nat × List Nat) := match pc with
  | 0 => some (.iconst 0, 1, [0])
  | 1 => some (.istore_n 1, 1, [])
  | 2 => some (.iconst 0, 1, [0])
  | 3 => some (.istore_n 2, 1, [])
  | 4 => some (.iload_n 2, 1, [])
  | 5 => some (.bipush 16, 2, [16])
  | 7 => some (.if_icmp .ge 29, 3, [36])
  | 10 => some (.iload_n 1, 1, [])
  | 11 => some (.aload_n 0, 1, [])
  | 12 => some (.getfield 7, 3, [1, 10, 0, 2, 0, 994])
  | 15 => some (.bipush 124, 2, [124])
  | 17 => some (.iload_n 2, 1, [])
  | 18 => some (.iadd, 1, [])
  | 19 => some (.iaload, 1, [])
  | 20 => some (.ifCond .le 7, 3, [27])
  | 23 => some (.iconst 1, 1, [1])
  | 24 => some (.goto 4, 3, [28])
  | 27 => some (.iconst 0, 1, [0])
  | 28 => some (.iadd, 1, [])
  | 29 => some (.istore_n 1, 1, [])
  | 30 => some (.iinc 2 1, 3, [1])
  | 33 => some (.goto (-29), 3, [4])
  | 36 => some (.iload_n 1, 1, [])
  | 37 => some (.ireturn, 1, [0])
  | _ => none
def dec190 (pc : Nat) : Option (ClassFile.Instr × Nat × List Nat) := match pc with
  | 0 => some (.aload_n 0, 1, [])
  | 1 => some (.iload_n 1, 1, [])
  | 2 => some (.invokestatic 84, 3, [2, 155, 0, 10, 0, 1089, 0])
  | 5 => some (.ifCond .eq 7, 3, [12])
  | 8 => some (.iconst 0, 1, [0])
  | 9 => some (.goto 4, 3, [13])
  | 12 => some (.iconst 1, 1, [1])
  | 13 => some (.invokevirtual 72, 3, [2, 153, 2, 10, 0, 1081, 0])
  | 16 => some (.ifCond .eq 5, 3, [21])
  | 19 => some (.iconst 0, 1, [0])
  | 20 => some (.ireturn, 1, [0])
  | 21 => some (.aload_n 0, 1, [])
  | 22 => some (.invokevirtual 87, 3, [2, 157, 2, 10, 0, 1095])
  | 25 => some (.aload_n 0, 1, [])
  | 26 => some (.iload_n 1, 1, [])
  | 27 => some (.invokevirtual 177, 3, [2, 191, 2, 10, 0, 1226, 0])
  | 30 => some (.ireturn, 1, [0])
  | _ => none
def dec191_0 (pc : Nat) : Option (ClassFile.Instr × Nat × List Nat) := match pc with
  | 0 => some (.aload_n 0, 1, [])
  | 1 => some (.getfield 7, 3, [1, 10, 0, 2, 0, 994])
  | 4 => some (.bipush 122, 2, [122])
  | 6 => some (.dup2, 1, [])
  | 7 => some (.iaload, 1, [])
  | 8 => some (.iconst 1, 1, [1])
  | 9 => some (.iadd, 1, [])
  | 10 => some (.iastore, 1, [])
  | 11 => some (.iconst 0, 1, [0])
  | 12 => some (.istore_n 2, 1, [])
  | 13 => some (.iconst (-1), 1, [4294967295])
  | 14 => some (.istore_n 3, 1, [])
  | 15 => some (.iconst 0, 1, [0])
  | 16 => some (.istore 4, 2, [])
  | 18 => some (.iconst 0, 1, [0])
  | 19 => some (.istore 5, 2, [])
  | 21 => some (.iload 5, 2, [])
  | 23 => some (.aload_n 0, 1, [])
  | 24 => some (.getfield 7, 3, [1, 10, 0, 2, 0, 994])
  | 27 => some (.iconst 0, 1, [0])
  | 28 => some (.iload_n 1, 1, [])
  | 29 => some (.iadd, 1, [])
  | 30 => some (.iaload, 1, [])
  | 31 => some (.if_icmp .ge 183, 3, [214])
  | 34 => some (.aload_n 0, 1, [])
  | 35 => some (.iload_n 1, 1, [])
  | 36 => some (.aload_n 0, 1, [])
  | 37 => some (.invokevirtual 124, 3, [2, 174, 2, 10, 0, 1159])
  | 40 => some (.iload_n 2, 1, [])
  | 41 => some (.iload_n 3, 1, [])
  | 42 => some (.invokevirtual 127, 3, [2, 175, 2, 10, 0, 1163, 0, 0, 0, 0])
  | 45 => some (.istore 6, 2, [])
  | 47 => some (.aload_n 0, 1, [])
  | 48 => some (.iload 6, 2, [])
  | 50 => some (.aload_n 0, 1, [])
  | 51 => some (.invokevirtual 124, 3, [2, 174, 2, 10, 0, 1159])
  | 54 => some (.iload_n 2, 1, [])
  | 55 => some (.invokevirtual 115, 3, [2, 176, 2, 10, 0, 1167, 0, 0, 0])
  | 58 => some (.istore 7, 2, [])
  | 60 => some (.iload 7, 2, [])
  | 62 => some (.iload_n 1, 1, [])
  | 63 => some (.invokestatic 118, 3, [2, 177, 0, 10, 0, 1171, 0, 0])
  | 66 => some (.ifCond .eq 7, 3, [73])
  | 69 => some (.iload_n 1, 1, [])
  | 70 => some (.goto 4, 3, [74])
  | 73 => some (.iconst (-1), 1, [4294967295])
  | 74 => some (.istore 8, 2, [])
  | 76 => some (.iload 8, 2, [])
  | _ => none
def dec191_1 (pc : Nat) : Option (ClassFile.Instr × Nat × List Nat) := match pc with
  | 78 => some (.iconst (-1), 1, [4294967295])
  | 79 => some (.if_icmp .eq 129, 3, [208])
  | 82 => some (.aload_n 0, 1, [])
  | 83 => some (.iload 8, 2, [])
  | 85 => some (.iload 7, 2, [])
  | 87 => some (.invokevirtual 167, 3, [2, 192, 2, 10, 0, 1230, 0, 0])
  | 90 => some (.istore 9, 2, [])
  | 92 => some (.aload_n 0, 1, [])
  | 93 => some (.iload_n 2, 1, [])
  | 94 => some (.iload 8, 2, [])
  | 96 => some (.iload 9, 2, [])
  | 98 => some (.invokevirtual 170, 3, [2, 194, 2, 10, 0, 1242, 0, 0, 0])
  | 101 => some (.istore_n 2, 1, [])
  | 102 => some (.aload_n 0, 1, [])
  | 103 => some (.getfield 7, 3, [1, 10, 0, 2, 0, 994])
  | 106 => some (.iload 8, 2, [])
  | 108 => some (.iload 9, 2, [])
  | 110 => some (.invokestatic 80, 3, [2, 163, 0, 10, 0, 1116, 0, 0])
  | 113 => some (.iconst 5, 1, [5])
  | 114 => some (.iadd, 1, [])
  | 115 => some (.dup2, 1, [])
  | 116 => some (.iaload, 1, [])
  | 117 => some (.aload_n 0, 1, [])
  | 118 => some (.iload 8, 2, [])
  | 120 => some (.iload 9, 2, [])
  | 122 => some (.iconst 4, 1, [4])
  | 123 => some (.invokevirtual 107, 3, [2, 167, 2, 10, 0, 1131, 0, 0, 0])
  | 126 => some (.ior, 1, [])
  | 127 => some (.iastore, 1, [])
  | 128 => some (.aload_n 0, 1, [])
  | 129 => some (.iload 8, 2, [])
  | 131 => some (.iload 9, 2, [])
  | 133 => some (.iconst 0, 1, [0])
  | 134 => some (.invokevirtual 107, 3, [2, 167, 2, 10, 0, 1131, 0, 0, 0])
  | 137 => some (.istore 10, 2, [])
  | 139 => some (.iload 10, 2, [])
  | 141 => some (.invokestatic 90, 3, [2, 160, 0, 10, 0, 1106, 0])
  | 144 => some (.ifCond .eq 54, 3, [198])
  | 147 => some (.aload_n 0, 1, [])
  | 148 => some (.iload 10, 2, [])
  | 150 => some (.aload_n 0, 1, [])
  | 151 => some (.iload 8, 2, [])
  | 153 => some (.iload 9, 2, [])
  | 155 => some (.iconst 2, 1, [2])
  | 156 => some (.invokevirtual 107, 3, [2, 167, 2, 10, 0, 1131, 0, 0, 0])
  | 159 => some (.invokevirtual 173, 3, [2, 195, 2, 10, 0, 1246, 0, 0])
  | 162 => some (.aload_n 0, 1, [])
  | 163 => some (.iload 8, 2, [])
  | _ => none
def dec191_2 (pc : Nat) : Option (ClassFile.Instr × Nat × List Nat) := match pc with
  | 165 => some (.iload 9, 2, [])
  | 167 => some (.iconst 2, 1, [2])
  | 168 => some (.invokevirtual 107, 3, [2, 167, 2, 10, 0, 1131, 0, 0, 0])
  | 171 => some (.iload_n 3, 1, [])
  | 172 => some (.if_icmp .le 15, 3, [187])
  | 175 => some (.aload_n 0, 1, [])
  | 176 => some (.iload 8, 2, [])
  | 178 => some (.iload 9, 2, [])
  | 180 => some (.iconst 2, 1, [2])
  | 181 => some (.invokevirtual 107, 3, [2, 167, 2, 10, 0, 1131, 0, 0, 0])
  | 184 => some (.goto 4, 3, [188])
  | 187 => some (.iload_n 3, 1, [])
  | 188 => some (.istore_n 3, 1, [])
  | 189 => some (.iinc 4 1, 3, [1])
  | 192 => some (.iconst (-1), 1, [4294967295])
  | 193 => some (.istore 8, 2, [])
  | 195 => some (.goto 10, 3, [205])
  | 198 => some (.iload 10, 2, [])
  | 200 => some (.bipush 16, 2, [16])
  | 202 => some (.isub, 1, [])
  | 203 => some (.istore 8, 2, [])
  | 205 => some (.goto (-129), 3, [76])
  | 208 => some (.iinc 5 1, 3, [1])
  | 211 => some (.goto (-190), 3, [21])
  | 214 => some (.iconst 1, 1, [1])
  | 215 => some (.istore 5, 2, [])
  | 217 => some (.iload 5, 2, [])
  | 219 => some (.iconst 4, 1, [4])
  | 220 => some (.if_icmp .ge 67, 3, [287])
  | 223 => some (.aload_n 0, 1, [])
  | 224 => some (.getfield 7, 3, [1, 10, 0, 2, 0, 994])
  | 227 => some (.bipush 113, 2, [113])
  | 229 => some (.iload 5, 2, [])
  | 231 => some (.iadd, 1, [])
  | 232 => some (.iaload, 1, [])
  | 233 => some (.sipush 200, 3, [200])
  | 236 => some (.if_icmp .ge 18, 3, [254])
  | 239 => some (.aload_n 0, 1, [])
  | 240 => some (.getfield 7, 3, [1, 10, 0, 2, 0, 994])
  | 243 => some (.bipush 113, 2, [113])
  | 245 => some (.iload 5, 2, [])
  | 247 => some (.iadd, 1, [])
  | 248 => some (.iaload, 1, [])
  | 249 => some (.iconst 1, 1, [1])
  | 250 => some (.iadd, 1, [])
  | 251 => some (.goto 6, 3, [257])
  | 254 => some (.sipush 200, 3, [200])
  | 257 => some (.istore 6, 2, [])
  | _ => none
def dec191_3 (pc : Nat) : Option (ClassFile.Instr × Nat × List Nat) := match pc with
  | 259 => some (.aload_n 0, 1, [])
  | 260 => some (.getfield 7, 3, [1, 10, 0, 2, 0, 994])
  | 263 => some (.bipush 113, 2, [113])
  | 265 => some (.iload 5, 2, [])
  | 267 => some (.iadd, 1, [])
  | 268 => some (.iload_n 3, 1, [])
  | 269 => some (.iload 5, 2, [])
  | 271 => some (.if_icmp .lt 7, 3, [278])
  | 274 => some (.iconst 0, 1, [0])
  | 275 => some (.goto 5, 3, [280])
  | 278 => some (.iload 6, 2, [])
  | 280 => some (.iastore, 1, [])
  | 281 => some (.iinc 5 1, 3, [1])
  | 284 => some (.goto (-67), 3, [217])
  | 287 => some (.iload 4, 2, [])
  | 289 => some (.ireturn, 1, [0])
  | _ => none
def dec191 (pc : Nat) : Option (ClassFile.Instr × Nat × List Nat) := if pc < 77 then dec191_0 pc else if pc < 164 then dec191_1 pc else if pc < 258 then dec191_2 pc else if pc < 290 then dec191_3 pc else none
def dec192 (pc : Nat) : Option (ClassFile.Instr × Nat × List Nat) := match pc with
  | 0 => some (.aload_n 0, 1, [])
  | 1 => some (.aload_n 0, 1, [])
  | 2 => some (.iload_n 1, 1, [])
  | 3 => some (.iload_n 2, 1, [])
  | 4 => some (.invokevirtual 138, 3, [2, 180, 2, 10, 0, 1182, 0, 0])
  | 7 => some (.invokevirtual 164, 3, [2, 193, 2, 10, 0, 1234, 0])
  | 10 => some (.istore_n 3, 1, [])
  | 11 => some (.iconst 0, 1, [0])
  | 12 => some (.istore 4, 2, [])
  | 14 => some (.iload_n 2, 1, [])
  | 15 => some (.bipush 6, 2, [6])
  | 17 => some (.iload_n 1, 1, [])
  | 18 => some (.imul, 1, [])
  | 19 => some (.iload 4, 2, [])
  | 21 => some (.iadd, 1, [])
  | 22 => some (.ishr, 1, [])
  | 23 => some (.iconst 1, 1, [1])
  | 24 => some (.iand, 1, [])
  | 25 => some (.ifCond .eq 14, 3, [39])
  | 28 => some (.iload_n 3, 1, [])
  | 29 => some (.aload_n 0, 1, [])
  | 30 => some (.iload_n 1, 1, [])
  | 31 => some (.iload 4, 2, [])
  | 33 => some (.invokevirtual 121, 3, [2, 172, 2, 10, 0, 1151, 0, 0])
  | 36 => some (.if_icmp .lt 37, 3, [73])
  | 39 => some (.iload_n 3, 1, [])
  | 40 => some (.iload_n 2, 1, [])
  | 41 => some (.bipush 6, 2, [6])
  | 43 => some (.iload_n 1, 1, [])
  | 44 => some (.imul, 1, [])
  | 45 => some (.iload 4, 2, [])
  | 47 => some (.iadd, 1, [])
  | 48 => some (.ishr, 1, [])
  | 49 => some (.iconst 1, 1, [1])
  | 50 => some (.iand, 1, [])
  | 51 => some (.ifCond .ne 7, 3, [58])
  | 54 => some (.iconst 0, 1, [0])
  | 55 => some (.goto 10, 3, [65])
  | 58 => some (.aload_n 0, 1, [])
  | 59 => some (.iload_n 1, 1, [])
  | 60 => some (.iload 4, 2, [])
  | 62 => some (.invokevirtual 121, 3, [2, 172, 2, 10, 0, 1151, 0, 0])
  | 65 => some (.isub, 1, [])
  | 66 => some (.istore_n 3, 1, [])
  | 67 => some (.iinc 4 1, 3, [1])
  | 70 => some (.goto (-56), 3, [14])
  | 73 => some (.iload 4, 2, [])
  | 75 => some (.ireturn, 1, [0])
  | _ => none
def dec193 (pc : Nat) : Option (ClassFile.Instr × Nat × List Nat) := match pc with
  | 0 => some (.aload_n 0, 1, [])
  | 1 => some (.getfield 7, 3, [1, 10, 0, 2, 0, 994])
  | 4 => some (.bipush 121, 2, [121])
  | 6 => some (.ldc2_w 157, 3, [9, 1103515245, 1238])
  | 9 => some (.aload_n 0, 1, [])
  | 10 => some (.getfield 7, 3, [1, 10, 0, 2, 0, 994])
  | 13 => some (.bipush 121, 2, [121])
  | 15 => some (.iaload, 1, [])
  | 16 => some (.i2l, 1, [])
  | 17 => some (.lmul, 1, [])
  | 18 => some (.ldc2_w 159, 3, [9, 12345, 1239])
  | 21 => some (.ladd, 1, [])
  | 22 => some (.ldc2_w 161, 3, [9, 2147483648, 1240])
  | 25 => some (.lrem, 1, [])
  | 26 => some (.l2i, 1, [])
  | 27 => some (.iastore, 1, [])
  | 28 => some (.aload_n 0, 1, [])
  | 29 => some (.getfield 7, 3, [1, 10, 0, 2, 0, 994])
  | 32 => some (.bipush 121, 2, [121])
  | 34 => some (.iaload, 1, [])
  | 35 => some (.ldc 163, 2, [8, 65536, 1241])
  | 37 => some (.idiv, 1, [])
  | 38 => some (.iload_n 1, 1, [])
  | 39 => some (.irem, 1, [])
  | 40 => some (.ireturn, 1, [0])
  | _ => none
def dec194 (pc : Nat) : Option (ClassFile.Instr × Nat × List Nat) := match pc with
  | 0 => some (.aload_n 0, 1, [])
  | 1 => some (.iload_n 2, 1, [])
  | 2 => some (.iload_n 3, 1, [])
  | 3 => some (.iconst 3, 1, [3])
  | 4 => some (.invokevirtual 107, 3, [2, 167, 2, 10, 0, 1131, 0, 0, 0])
  | 7 => some (.istore 4, 2, [])
  | 9 => some (.iload 4, 2, [])
  | 11 => some (.ifCond .ne 7, 3, [18])
  | 14 => some (.iload_n 1, 1, [])
  | 15 => some (.goto 15, 3, [30])
  | 18 => some (.iload_n 1, 1, [])
  | 19 => some (.iconst 1, 1, [1])
  | 20 => some (.iconst 3, 1, [3])
  | 21 => some (.iload_n 2, 1, [])
  | 22 => some (.imul, 1, [])
  | 23 => some (.iload 4, 2, [])
  | 25 => some (.iadd, 1, [])
  | 26 => some (.iconst 1, 1, [1])
  | 27 => some (.isub, 1, [])
  | 28 => some (.ishl, 1, [])
  | 29 => some (.ior, 1, [])
  | 30 => some (.ireturn, 1, [0])
  | _ => none
def dec195_0 (pc : Nat) : Option (ClassFile.Instr × Nat × List Nat) := match pc with
  | 0 => some (.bipush 59, 2, [59])
  | 2 => some (.istore_n 3, 1, [])
  | 3 => some (.iload_n 3, 1, [])
  | 4 => some (.iconst 2, 1, [2])
  | 5 => some (.if_icmp .le 31, 3, [36])
  | 8 => some (.aload_n 0, 1, [])
  | 9 => some (.getfield 7, 3, [1, 10, 0, 2, 0, 994])
  | 12 => some (.sipush 141, 3, [141])
  | 15 => some (.iload_n 3, 1, [])
  | 16 => some (.iadd, 1, [])
  | 17 => some (.aload_n 0, 1, [])
  | 18 => some (.getfield 7, 3, [1, 10, 0, 2, 0, 994])
  | 21 => some (.sipush 141, 3, [141])
  | 24 => some (.iload_n 3, 1, [])
  | 25 => some (.iadd, 1, [])
  | 26 => some (.iconst 3, 1, [3])
  | 27 => some (.isub, 1, [])
  | 28 => some (.iaload, 1, [])
  | 29 => some (.iastore, 1, [])
  | 30 => some (.iinc 3 (-1), 3, [4294967295])
  | 33 => some (.goto (-30), 3, [3])
  | 36 => some (.aload_n 0, 1, [])
  | 37 => some (.getfield 7, 3, [1, 10, 0, 2, 0, 994])
  | 40 => some (.sipush 141, 3, [141])
  | 43 => some (.iload_n 1, 1, [])
  | 44 => some (.iastore, 1, [])
  | 45 => some (.aload_n 0, 1, [])
  | 46 => some (.getfield 7, 3, [1, 10, 0, 2, 0, 994])
  | 49 => some (.sipush 142, 3, [142])
  | 52 => some (.iload_n 2, 1, [])
  | 53 => some (.iastore, 1, [])
  | 54 => some (.aload_n 0, 1, [])
  | 55 => some (.getfield 7, 3, [1, 10, 0, 2, 0, 994])
  | 58 => some (.sipush 143, 3, [143])
  | 61 => some (.aload_n 0, 1, [])
  | 62 => some (.getfield 7, 3, [1, 10, 0, 2, 0, 994])
  | 65 => some (.bipush 122, 2, [122])
  | 67 => some (.iaload, 1, [])
  | 68 => some (.iastore, 1, [])
  | 69 => some (.aload_n 0, 1, [])
  | 70 => some (.getfield 7, 3, [1, 10, 0, 2, 0, 994])
  | 73 => some (.sipush 140, 3, [140])
  | 76 => some (.dup2, 1, [])
  | 77 => some (.iaload, 1, [])
  | 78 => some (.aload_n 0, 1, [])
  | 79 => some (.getfield 7, 3, [1, 10, 0, 2, 0, 994])
  | 82 => some (.sipush 140, 3, [140])
  | 85 => some (.iaload, 1, [])
  | _ => none
def dec195_1 (pc : Nat) : Option (ClassFile.Instr × Nat × List Nat) := match pc with
  | 86 => some (.bipush 20, 2, [20])
  | 88 => some (.if_icmp .ge 7, 3, [95])
  | 91 => some (.iconst 1, 1, [1])
  | 92 => some (.goto 4, 3, [96])
  | 95 => some (.iconst 0, 1, [0])
  | 96 => some (.iadd, 1, [])
  | 97 => some (.iastore, 1, [])
  | 98 => some (.aload_n 0, 1, [])
  | 99 => some (.getfield 7, 3, [1, 10, 0, 2, 0, 994])
  | 102 => some (.bipush 123, 2, [123])
  | 104 => some (.dup2, 1, [])
  | 105 => some (.iaload, 1, [])
  | 106 => some (.iconst 1, 1, [1])
  | 107 => some (.iadd, 1, [])
  | 108 => some (.iastore, 1, [])
  | 109 => some (.aload_n 0, 1, [])
  | 110 => some (.getfield 7, 3, [1, 10, 0, 2, 0, 994])
  | 113 => some (.bipush 124, 2, [124])
  | 115 => some (.iload_n 1, 1, [])
  | 116 => some (.iadd, 1, [])
  | 117 => some (.dup2, 1, [])
  | 118 => some (.iaload, 1, [])
  | 119 => some (.iconst 1, 1, [1])
  | 120 => some (.iadd, 1, [])
  | 121 => some (.iastore, 1, [])
  | 122 => some (.return_, 1, [])
  | _ => none
def dec195 (pc : Nat) : Option (ClassFile.Instr × Nat × List Nat) := if pc < 86 then dec195_0 pc else if pc < 123 then dec195_1 pc else none
def dec196 (pc : Nat) : Option (ClassFile.Instr × Nat × List Nat) := match pc with
  | 0 => some (.aload_n 0, 1, [])
  | 1 => some (.iload_n 1, 1, [])
  | 2 => some (.invokestatic 84, 3, [2, 155, 0, 10, 0, 1089, 0])
  | 5 => some (.ifCond .ne 7, 3, [12])
  | 8 => some (.iconst 1, 1, [1])
  | 9 => some (.goto 19, 3, [28])
  | 12 => some (.iload_n 2, 1, [])
  | 13 => some (.iconst 1, 1, [1])
  | 14 => some (.sipush 200, 3, [200])
  | 17 => some (.invokestatic 76, 3, [2, 156, 0, 10, 0, 1092, 0, 0, 0])
  | 20 => some (.ifCond .eq 7, 3, [27])
  | 23 => some (.iconst 0, 1, [0])
  | 24 => some (.goto 4, 3, [28])
  | 27 => some (.iconst 2, 1, [2])
  | 28 => some (.invokevirtual 72, 3, [2, 153, 2, 10, 0, 1081, 0])
  | 31 => some (.ifCond .eq 5, 3, [36])
  | 34 => some (.iconst 0, 1, [0])
  | 35 => some (.ireturn, 1, [0])
  | 36 => some (.aload_n 0, 1, [])
  | 37 => some (.invokevirtual 87, 3, [2, 157, 2, 10, 0, 1095])
  | 40 => some (.iconst 0, 1, [0])
  | 41 => some (.istore_n 3, 1, [])
  | 42 => some (.iconst 0, 1, [0])
  | 43 => some (.istore 4, 2, [])
  | 45 => some (.iload 4, 2, [])
  | 47 => some (.iload_n 2, 1, [])
  | 48 => some (.if_icmp .ge 17, 3, [65])
  | 51 => some (.iload_n 3, 1, [])
  | 52 => some (.aload_n 0, 1, [])
  | 53 => some (.iload_n 1, 1, [])
  | 54 => some (.invokevirtual 177, 3, [2, 191, 2, 10, 0, 1226, 0])
  | 57 => some (.iadd, 1, [])
  | 58 => some (.istore_n 3, 1, [])
  | 59 => some (.iinc 4 1, 3, [1])
  | 62 => some (.goto (-17), 3, [45])
  | 65 => some (.iload_n 3, 1, [])
  | 66 => some (.ireturn, 1, [0])
  | _ => none
def dec197 (pc : Nat) : Option (ClassFile.Instr × Nat × List Nat) := match pc with
  | 0 => some (.aload_n 0, 1, [])
  | 1 => some (.iload_n 1, 1, [])
  | 2 => some (.ifCond .lt 12, 3, [14])
  | 5 => some (.iload_n 2, 1, [])
  | 6 => some (.iconst 0, 1, [0])
  | 7 => some (.iconst 2, 1, [2])
  | 8 => some (.invokestatic 76, 3, [2, 156, 0, 10, 0, 1092, 0, 0, 0])
  | 11 => some (.ifCond .ne 7, 3, [18])
  | 14 => some (.iconst 1, 1, [1])
  | 15 => some (.goto 4, 3, [19])
  | 18 => some (.iconst 0, 1, [0])
  | 19 => some (.invokevirtual 72, 3, [2, 153, 2, 10, 0, 1081, 0])
  | 22 => some (.ifCond .eq 5, 3, [27])
  | 25 => some (.iconst 0, 1, [0])
  | 26 => some (.ireturn, 1, [0])
  | 27 => some (.iload_n 1, 1, [])
  | 28 => some (.aload_n 0, 1, [])
  | 29 => some (.getfield 7, 3, [1, 10, 0, 2, 0, 994])
  | 32 => some (.sipush 140, 3, [140])
  | 35 => some (.iaload, 1, [])
  | 36 => some (.if_icmp .lt 7, 3, [43])
  | 39 => some (.iconst (-1), 1, [4294967295])
  | 40 => some (.goto 17, 3, [57])
  | 43 => some (.aload_n 0, 1, [])
  | 44 => some (.getfield 7, 3, [1, 10, 0, 2, 0, 994])
  | 47 => some (.sipush 141, 3, [141])
  | 50 => some (.iconst 3, 1, [3])
  | 51 => some (.iload_n 1, 1, [])
  | 52 => some (.imul, 1, [])
  | 53 => some (.iadd, 1, [])
  | 54 => some (.iload_n 2, 1, [])
  | 55 => some (.iadd, 1, [])
  | 56 => some (.iaload, 1, [])
  | 57 => some (.ireturn, 1, [0])
  | _ => none
def dec198 (pc : Nat) : Option (ClassFile.Instr × Nat × List Nat) := match pc with
  | 0 => some (.aload_n 0, 1, [])
  | 1 => some (.iload_n 1, 1, [])
  | 2 => some (.invokestatic 90, 3, [2, 160, 0, 10, 0, 1106, 0])
  | 5 => some (.ifCond .eq 7, 3, [12])
  | 8 => some (.iconst 0, 1, [0])
  | 9 => some (.goto 4, 3, [13])
  | 12 => some (.iconst 1, 1, [1])
  | 13 => some (.invokevirtual 72, 3, [2, 153, 2, 10, 0, 1081, 0])
  | 16 => some (.ifCond .eq 7, 3, [23])
  | 19 => some (.iconst 0, 1, [0])
  | 20 => some (.goto 12, 3, [32])
  | 23 => some (.aload_n 0, 1, [])
  | 24 => some (.getfield 7, 3, [1, 10, 0, 2, 0, 994])
  | 27 => some (.bipush 124, 2, [124])
  | 29 => some (.iload_n 1, 1, [])
  | 30 => some (.iadd, 1, [])
  | 31 => some (.iaload, 1, [])
  | 32 => some (.ireturn, 1, [0])
  | _ => none
def dec199_0 (pc : Nat) : Option (ClassFile.Instr × Nat × List Nat) := match pc with
  | 0 => some (.aload_n 0, 1, [])
  | 1 => some (.aload_n 0, 1, [])
  | 2 => some (.iload_n 1, 1, [])
  | 3 => some (.iload_n 2, 1, [])
  | 4 => some (.invokevirtual 103, 3, [2, 165, 2, 10, 0, 1123, 0, 0])
  | 7 => some (.ifCond .eq 7, 3, [14])
  | 10 => some (.iconst 0, 1, [0])
  | 11 => some (.goto 4, 3, [15])
  | 14 => some (.iconst 1, 1, [1])
  | 15 => some (.invokevirtual 72, 3, [2, 153, 2, 10, 0, 1081, 0])
  | 18 => some (.ifCond .eq 5, 3, [23])
  | 21 => some (.iconst 0, 1, [0])
  | 22 => some (.ireturn, 1, [0])
  | 23 => some (.aload_n 0, 1, [])
  | 24 => some (.iload_n 1, 1, [])
  | 25 => some (.invokevirtual 131, 3, [2, 173, 2, 10, 0, 1155, 0])
  | 28 => some (.istore 4, 2, [])
  | 30 => some (.iload 4, 2, [])
  | 32 => some (.bipush 6, 2, [6])
  | 34 => some (.iload_n 1, 1, [])
  | 35 => some (.imul, 1, [])
  | 36 => some (.iload_n 2, 1, [])
  | 37 => some (.iadd, 1, [])
  | 38 => some (.ishr, 1, [])
  | 39 => some (.iconst 1, 1, [1])
  | 40 => some (.iand, 1, [])
  | 41 => some (.ifCond .ne 13, 3, [54])
  | 44 => some (.iload_n 3, 1, [])
  | 45 => some (.ifCond .eq 7, 3, [52])
  | 48 => some (.iconst 1, 1, [1])
  | 49 => some (.goto 4, 3, [53])
  | 52 => some (.iconst 0, 1, [0])
  | 53 => some (.ireturn, 1, [0])
  | 54 => some (.aload_n 0, 1, [])
  | 55 => some (.iload_n 1, 1, [])
  | 56 => some (.iload_n 2, 1, [])
  | 57 => some (.invokevirtual 121, 3, [2, 172, 2, 10, 0, 1151, 0, 0])
  | 60 => some (.istore 5, 2, [])
  | 62 => some (.aload_n 0, 1, [])
  | 63 => some (.iload_n 1, 1, [])
  | 64 => some (.iload 4, 2, [])
  | 66 => some (.invokevirtual 138, 3, [2, 180, 2, 10, 0, 1182, 0, 0])
  | 69 => some (.istore 6, 2, [])
  | 71 => some (.iload 5, 2, [])
  | 73 => some (.istore 7, 2, [])
  | 75 => some (.iload 6, 2, [])
  | 77 => some (.istore 8, 2, [])
  | 79 => some (.iload 8, 2, [])
  | _ => none
def dec199_1 (pc : Nat) : Option (ClassFile.Instr × Nat × List Nat) := match pc with
  | 81 => some (.ifCond .le 21, 3, [102])
  | 84 => some (.iload 7, 2, [])
  | 86 => some (.iload 8, 2, [])
  | 88 => some (.irem, 1, [])
  | 89 => some (.istore 9, 2, [])
  | 91 => some (.iload 8, 2, [])
  | 93 => some (.istore 7, 2, [])
  | 95 => some (.iload 9, 2, [])
  | 97 => some (.istore 8, 2, [])
  | 99 => some (.goto (-20), 3, [79])
  | 102 => some (.iload_n 3, 1, [])
  | 103 => some (.ifCond .eq 11, 3, [114])
  | 106 => some (.iload 6, 2, [])
  | 108 => some (.iload 7, 2, [])
  | 110 => some (.idiv, 1, [])
  | 111 => some (.goto 8, 3, [119])
  | 114 => some (.iload 5, 2, [])
  | 116 => some (.iload 7, 2, [])
  | 118 => some (.idiv, 1, [])
  | 119 => some (.ireturn, 1, [0])
  | _ => none
def dec199 (pc : Nat) : Option (ClassFile.Instr × Nat × List Nat) := if pc < 80 then dec199_0 pc else if pc < 120 then dec199_1 pc else none
def dec200 (pc : Nat) : Option (ClassFile.Instr × Nat × List Nat) := match pc with
  | 0 => some (.aload_n 0, 1, [])
  | 1 => some (.iload_n 1, 1, [])
  | 2 => some (.invokestatic 84, 3, [2, 155, 0, 10, 0, 1089, 0])
  | 5 => some (.ifCond .eq 14, 3, [19])
  | 8 => some (.iload_n 2, 1, [])
  | 9 => some (.invokestatic 90, 3, [2, 160, 0, 10, 0, 1106, 0])
  | 12 => some (.ifCond .eq 7, 3, [19])
  | 15 => some (.iconst 0, 1, [0])
  | 16 => some (.goto 4, 3, [20])
  | 19 => some (.iconst 1, 1, [1])
  | 20 => some (.invokevirtual 72, 3, [2, 153, 2, 10, 0, 1081, 0])
  | 23 => some (.ifCond .eq 5, 3, [28])
  | 26 => some (.iconst 0, 1, [0])
  | 27 => some (.ireturn, 1, [0])
  | 28 => some (.aload_n 0, 1, [])
  | 29 => some (.iload_n 1, 1, [])
  | 30 => some (.invokevirtual 206, 3, [2, 201, 2, 10, 0, 1270, 0])
  | 33 => some (.aload_n 0, 1, [])
  | 34 => some (.getfield 56, 3, [1, 10, 19, 2, 0, 1013])
  | 37 => some (.iload_n 2, 1, [])
  | 38 => some (.laload, 1, [])
  | 39 => some (.l2i, 1, [])
  | 40 => some (.ireturn, 1, [0])
  | _ => none
def dec201_0 (pc : Nat) : Option (ClassFile.Instr × Nat × List Nat) := match pc with
  | 0 => some (.iconst 0, 1, [0])
  | 1 => some (.istore_n 2, 1, [])
  | 2 => some (.iload_n 2, 1, [])
  | 3 => some (.bipush 16, 2, [16])
  | 5 => some (.if_icmp .ge 16, 3, [21])
  | 8 => some (.aload_n 0, 1, [])
  | 9 => some (.getfield 56, 3, [1, 10, 19, 2, 0, 1013])
  | 12 => some (.iload_n 2, 1, [])
  | 13 => some (.lconst 0, 1, [0])
  | 14 => some (.lastore, 1, [])
  | 15 => some (.iinc 2 1, 3, [1])
  | 18 => some (.goto (-16), 3, [2])
  | 21 => some (.iconst 0, 1, [0])
  | 22 => some (.istore_n 2, 1, [])
  | 23 => some (.iload_n 2, 1, [])
  | 24 => some (.iconst 4, 1, [4])
  | 25 => some (.if_icmp .ge 16, 3, [41])
  | 28 => some (.aload_n 0, 1, [])
  | 29 => some (.getfield 59, 3, [1, 10, 20, 2, 0, 1014])
  | 32 => some (.iload_n 2, 1, [])
  | 33 => some (.lconst 0, 1, [0])
  | 34 => some (.lastore, 1, [])
  | 35 => some (.iinc 2 1, 3, [1])
  | 38 => some (.goto (-15), 3, [23])
  | 41 => some (.aload_n 0, 1, [])
  | 42 => some (.lconst 0, 1, [0])
  | 43 => some (.putfield 187, 3, [1, 10, 21, 1, 0, 1015])
  | 46 => some (.aload_n 0, 1, [])
  | 47 => some (.iconst 0, 1, [0])
  | 48 => some (.putfield 180, 3, [1, 10, 18, 0, 0, 1012])
  | 51 => some (.aload_n 0, 1, [])
  | 52 => some (.iload_n 1, 1, [])
  | 53 => some (.ldc2_w 198, 3, [9, 1000000000, 1274])
  | 56 => some (.iconst 0, 1, [0])
  | 57 => some (.aload_n 0, 1, [])
  | 58 => some (.invokevirtual 124, 3, [2, 174, 2, 10, 0, 1159])
  | 61 => some (.iconst 0, 1, [0])
  | 62 => some (.iconst 0, 1, [0])
  | 63 => some (.iconst (-1), 1, [4294967295])
  | 64 => some (.iconst 0, 1, [0])
  | 65 => some (.invokevirtual 194, 3, [2, 202, 2, 10, 0, 1275, 0, 0, 0, 0, 0, 0, 1, 0])
  | 68 => some (.aload_n 0, 1, [])
  | 69 => some (.getfield 180, 3, [1, 10, 18, 0, 0, 1012])
  | 72 => some (.ifCond .le 35, 3, [107])
  | 75 => some (.aload_n 0, 1, [])
  | 76 => some (.invokevirtual 200, 3, [2, 204, 2, 10, 0, 1283])
  | 79 => some (.istore_n 2, 1, [])
  | 80 => some (.iload_n 2, 1, [])
  | _ => none
def dec201_1 (pc : Nat) : Option (ClassFile.Instr × Nat × List Nat) := match pc with
  | 81 => some (.iconst (-1), 1, [4294967295])
  | 82 => some (.if_icmp .ne 16, 3, [98])
  | 85 => some (.aload_n 0, 1, [])
  | 86 => some (.dup, 1, [])
  | 87 => some (.getfield 180, 3, [1, 10, 18, 0, 0, 1012])
  | 90 => some (.iconst 1, 1, [1])
  | 91 => some (.isub, 1, [])
  | 92 => some (.putfield 180, 3, [1, 10, 18, 0, 0, 1012])
  | 95 => some (.goto 9, 3, [104])
  | 98 => some (.aload_n 0, 1, [])
  | 99 => some (.iload_n 1, 1, [])
  | 100 => some (.iload_n 2, 1, [])
  | 101 => some (.invokevirtual 203, 3, [2, 205, 2, 10, 0, 1287, 0, 0])
  | 104 => some (.goto (-36), 3, [68])
  | 107 => some (.return_, 1, [])
  | _ => none
def dec201 (pc : Nat) : Option (ClassFile.Instr × Nat × List Nat) := if pc < 81 then dec201_0 pc else if pc < 108 then dec201_1 pc else none
def dec202_0 (pc : Nat) : Option (ClassFile.Instr × Nat × List Nat) := match pc with
  | 0 => some (.iload 4, 2, [])
  | 2 => some (.istore 10, 2, [])
  | 4 => some (.iload 10, 2, [])
  | 6 => some (.aload_n 0, 1, [])
  | 7 => some (.getfield 7, 3, [1, 10, 0, 2, 0, 994])
  | 10 => some (.iconst 0, 1, [0])
  | 11 => some (.iload_n 1, 1, [])
  | 12 => some (.iadd, 1, [])
  | 13 => some (.iaload, 1, [])
  | 14 => some (.if_icmp .ge 105, 3, [119])
  | 17 => some (.aload_n 0, 1, [])
  | 18 => some (.aload_n 0, 1, [])
  | 19 => some (.iload_n 1, 1, [])
  | 20 => some (.iload 5, 2, [])
  | 22 => some (.iload 6, 2, [])
  | 24 => some (.iload 8, 2, [])
  | 26 => some (.invokevirtual 127, 3, [2, 175, 2, 10, 0, 1163, 0, 0, 0, 0])
  | 29 => some (.iload 5, 2, [])
  | 31 => some (.iload 6, 2, [])
  | 33 => some (.invokevirtual 115, 3, [2, 176, 2, 10, 0, 1167, 0, 0, 0])
  | 36 => some (.istore 11, 2, [])
  | 38 => some (.iload 11, 2, [])
  | 40 => some (.iload_n 1, 1, [])
  | 41 => some (.invokestatic 118, 3, [2, 177, 0, 10, 0, 1171, 0, 0])
  | 44 => some (.ifCond .eq 69, 3, [113])
  | 47 => some (.aload_n 0, 1, [])
  | 48 => some (.getfield 41, 3, [1, 10, 13, 2, 0, 1007])
  | 51 => some (.aload_n 0, 1, [])
  | 52 => some (.getfield 180, 3, [1, 10, 18, 0, 0, 1012])
  | 55 => some (.iload 5, 2, [])
  | 57 => some (.iastore, 1, [])
  | 58 => some (.aload_n 0, 1, [])
  | 59 => some (.getfield 44, 3, [1, 10, 14, 2, 0, 1008])
  | 62 => some (.aload_n 0, 1, [])
  | 63 => some (.getfield 180, 3, [1, 10, 18, 0, 0, 1012])
  | 66 => some (.iload 6, 2, [])
  | 68 => some (.iastore, 1, [])
  | 69 => some (.aload_n 0, 1, [])
  | 70 => some (.getfield 47, 3, [1, 10, 15, 2, 0, 1009])
  | 73 => some (.aload_n 0, 1, [])
  | 74 => some (.getfield 180, 3, [1, 10, 18, 0, 0, 1012])
  | 77 => some (.iload 7, 2, [])
  | 79 => some (.iastore, 1, [])
  | 80 => some (.aload_n 0, 1, [])
  | 81 => some (.getfield 50, 3, [1, 10, 16, 2, 0, 1010])
  | 84 => some (.aload_n 0, 1, [])
  | 85 => some (.getfield 180, 3, [1, 10, 18, 0, 0, 1012])
  | 88 => some (.iload 8, 2, [])
  | _ => none
def dec202_1 (pc : Nat) : Option (ClassFile.Instr × Nat × List Nat) := match pc with
  | 90 => some (.iastore, 1, [])
  | 91 => some (.aload_n 0, 1, [])
  | 92 => some (.getfield 53, 3, [1, 10, 17, 2, 0, 1011])
  | 95 => some (.aload_n 0, 1, [])
  | 96 => some (.getfield 180, 3, [1, 10, 18, 0, 0, 1012])
  | 99 => some (.iload 9, 2, [])
  | 101 => some (.iastore, 1, [])
  | 102 => some (.aload_n 0, 1, [])
  | 103 => some (.iload_n 1, 1, [])
  | 104 => some (.iload 11, 2, [])
  | 106 => some (.lload_n 2, 1, [])
  | 107 => some (.iload 10, 2, [])
  | 109 => some (.invokevirtual 183, 3, [2, 203, 2, 10, 0, 1279, 0, 1, 0, 0])
  | 112 => some (.return_, 1, [])
  | 113 => some (.iinc 10 1, 3, [1])
  | 116 => some (.goto (-112), 3, [4])
  | 119 => some (.iconst 0, 1, [0])
  | 120 => some (.istore 10, 2, [])
  | 122 => some (.iload 10, 2, [])
  | 124 => some (.bipush 16, 2, [16])
  | 126 => some (.if_icmp .ge 35, 3, [161])
  | 129 => some (.aload_n 0, 1, [])
  | 130 => some (.getfield 56, 3, [1, 10, 19, 2, 0, 1013])
  | 133 => some (.iload 10, 2, [])
  | 135 => some (.dup2, 1, [])
  | 136 => some (.laload, 1, [])
  | 137 => some (.iload 7, 2, [])
  | 139 => some (.iload 10, 2, [])
  | 141 => some (.ishr, 1, [])
  | 142 => some (.iconst 1, 1, [1])
  | 143 => some (.iand, 1, [])
  | 144 => some (.iconst 1, 1, [1])
  | 145 => some (.if_icmp .ne 7, 3, [152])
  | 148 => some (.lload_n 2, 1, [])
  | 149 => some (.goto 4, 3, [153])
  | 152 => some (.lconst 0, 1, [0])
  | 153 => some (.ladd, 1, [])
  | 154 => some (.lastore, 1, [])
  | 155 => some (.iinc 10 1, 3, [1])
  | 158 => some (.goto (-36), 3, [122])
  | 161 => some (.iconst 0, 1, [0])
  | 162 => some (.istore 10, 2, [])
  | 164 => some (.iload 10, 2, [])
  | 166 => some (.iload 8, 2, [])
  | 168 => some (.if_icmp .gt 20, 3, [188])
  | 171 => some (.aload_n 0, 1, [])
  | 172 => some (.getfield 59, 3, [1, 10, 20, 2, 0, 1014])
  | 175 => some (.iload 10, 2, [])
  | _ => none
def dec202_2 (pc : Nat) : Option (ClassFile.Instr × Nat × List Nat) := match pc with
  | 177 => some (.dup2, 1, [])
  | 178 => some (.laload, 1, [])
  | 179 => some (.lload_n 2, 1, [])
  | 180 => some (.ladd, 1, [])
  | 181 => some (.lastore, 1, [])
  | 182 => some (.iinc 10 1, 3, [1])
  | 185 => some (.goto (-21), 3, [164])
  | 188 => some (.aload_n 0, 1, [])
  | 189 => some (.dup, 1, [])
  | 190 => some (.getfield 187, 3, [1, 10, 21, 1, 0, 1015])
  | 193 => some (.lload_n 2, 1, [])
  | 194 => some (.iload 9, 2, [])
  | 196 => some (.i2l, 1, [])
  | 197 => some (.lmul, 1, [])
  | 198 => some (.ladd, 1, [])
  | 199 => some (.putfield 187, 3, [1, 10, 21, 1, 0, 1015])
  | 202 => some (.return_, 1, [])
  | _ => none
def dec202 (pc : Nat) : Option (ClassFile.Instr × Nat × List Nat) := if pc < 89 then dec202_0 pc else if pc < 176 then dec202_1 pc else if pc < 203 then dec202_2 pc else none
def dec203 (pc : Nat) : Option (ClassFile.Instr × Nat × List Nat) := match pc with
  | 0 => some (.aload_n 0, 1, [])
  | 1 => some (.getfield 22, 3, [1, 10, 7, 2, 0, 1001])
  | 4 => some (.aload_n 0, 1, [])
  | 5 => some (.getfield 180, 3, [1, 10, 18, 0, 0, 1012])
  | 8 => some (.iload_n 1, 1, [])
  | 9 => some (.iastore, 1, [])
  | 10 => some (.aload_n 0, 1, [])
  | 11 => some (.getfield 25, 3, [1, 10, 8, 2, 0, 1002])
  | 14 => some (.aload_n 0, 1, [])
  | 15 => some (.getfield 180, 3, [1, 10, 18, 0, 0, 1012])
  | 18 => some (.iconst 0, 1, [0])
  | 19 => some (.iastore, 1, [])
  | 20 => some (.aload_n 0, 1, [])
  | 21 => some (.getfield 28, 3, [1, 10, 9, 2, 0, 1003])
  | 24 => some (.aload_n 0, 1, [])
  | 25 => some (.getfield 180, 3, [1, 10, 18, 0, 0, 1012])
  | 28 => some (.iload_n 2, 1, [])
  | 29 => some (.iastore, 1, [])
  | 30 => some (.aload_n 0, 1, [])
  | 31 => some (.getfield 31, 3, [1, 10, 10, 2, 0, 1004])
  | 34 => some (.aload_n 0, 1, [])
  | 35 => some (.getfield 180, 3, [1, 10, 18, 0, 0, 1012])
  | 38 => some (.aload_n 0, 1, [])
  | 39 => some (.iload_n 1, 1, [])
  | 40 => some (.iload_n 2, 1, [])
  | 41 => some (.invokevirtual 138, 3, [2, 180, 2, 10, 0, 1182, 0, 0])
  | 44 => some (.iastore, 1, [])
  | 45 => some (.aload_n 0, 1, [])
  | 46 => some (.getfield 34, 3, [1, 10, 11, 2, 0, 1005])
  | 49 => some (.aload_n 0, 1, [])
  | 50 => some (.getfield 180, 3, [1, 10, 18, 0, 0, 1012])
  | 53 => some (.lload_n 3, 1, [])
  | 54 => some (.lastore, 1, [])
  | 55 => some (.aload_n 0, 1, [])
  | 56 => some (.getfield 38, 3, [1, 10, 12, 2, 0, 1006])
  | 59 => some (.aload_n 0, 1, [])
  | 60 => some (.getfield 180, 3, [1, 10, 18, 0, 0, 1012])
  | 63 => some (.iload 5, 2, [])
  | 65 => some (.iastore, 1, [])
  | 66 => some (.aload_n 0, 1, [])
  | 67 => some (.dup, 1, [])
  | 68 => some (.getfield 180, 3, [1, 10, 18, 0, 0, 1012])
  | 71 => some (.iconst 1, 1, [1])
  | 72 => some (.iadd, 1, [])
  | 73 => some (.putfield 180, 3, [1, 10, 18, 0, 0, 1012])
  | 76 => some (.return_, 1, [])
  | _ => none
def dec204_0 (pc : Nat) : Option (ClassFile.Instr × Nat × List Nat) := match pc with
  | 0 => some (.aload_n 0, 1, [])
  | 1 => some (.getfield 180, 3, [1, 10, 18, 0, 0, 1012])
  | 4 => some (.iconst 1, 1, [1])
  | 5 => some (.isub, 1, [])
  | 6 => some (.istore_n 1, 1, [])
  | 7 => some (.aload_n 0, 1, [])
  | 8 => some (.getfield 22, 3, [1, 10, 7, 2, 0, 1001])
  | 11 => some (.iload_n 1, 1, [])
  | 12 => some (.iaload, 1, [])
  | 13 => some (.istore_n 2, 1, [])
  | 14 => some (.aload_n 0, 1, [])
  | 15 => some (.getfield 25, 3, [1, 10, 8, 2, 0, 1002])
  | 18 => some (.iload_n 1, 1, [])
  | 19 => some (.iaload, 1, [])
  | 20 => some (.istore_n 3, 1, [])
  | 21 => some (.iload_n 3, 1, [])
  | 22 => some (.aload_n 0, 1, [])
  | 23 => some (.getfield 7, 3, [1, 10, 0, 2, 0, 994])
  | 26 => some (.iconst 3, 1, [3])
  | 27 => some (.iload_n 2, 1, [])
  | 28 => some (.iadd, 1, [])
  | 29 => some (.iaload, 1, [])
  | 30 => some (.if_icmp .ge 27, 3, [57])
  | 33 => some (.aload_n 0, 1, [])
  | 34 => some (.getfield 28, 3, [1, 10, 9, 2, 0, 1003])
  | 37 => some (.iload_n 1, 1, [])
  | 38 => some (.iaload, 1, [])
  | 39 => some (.bipush 6, 2, [6])
  | 41 => some (.iload_n 2, 1, [])
  | 42 => some (.imul, 1, [])
  | 43 => some (.iload_n 3, 1, [])
  | 44 => some (.iadd, 1, [])
  | 45 => some (.ishr, 1, [])
  | 46 => some (.iconst 1, 1, [1])
  | 47 => some (.iand, 1, [])
  | 48 => some (.ifCond .ne 9, 3, [57])
  | 51 => some (.iinc 3 1, 3, [1])
  | 54 => some (.goto (-33), 3, [21])
  | 57 => some (.aload_n 0, 1, [])
  | 58 => some (.getfield 25, 3, [1, 10, 8, 2, 0, 1002])
  | 61 => some (.iload_n 1, 1, [])
  | 62 => some (.iload_n 3, 1, [])
  | 63 => some (.iconst 1, 1, [1])
  | 64 => some (.iadd, 1, [])
  | 65 => some (.iastore, 1, [])
  | 66 => some (.iload_n 3, 1, [])
  | 67 => some (.aload_n 0, 1, [])
  | 68 => some (.getfield 7, 3, [1, 10, 0, 2, 0, 994])
  | _ => none
def dec204_1 (pc : Nat) : Option (ClassFile.Instr × Nat × List Nat) := match pc with
  | 71 => some (.iconst 3, 1, [3])
  | 72 => some (.iload_n 2, 1, [])
  | 73 => some (.iadd, 1, [])
  | 74 => some (.iaload, 1, [])
  | 75 => some (.if_icmp .ge 7, 3, [82])
  | 78 => some (.iload_n 3, 1, [])
  | 79 => some (.goto 4, 3, [83])
  | 82 => some (.iconst (-1), 1, [4294967295])
  | 83 => some (.ireturn, 1, [0])
  | _ => none
def dec204 (pc : Nat) : Option (ClassFile.Instr × Nat × List Nat) := if pc < 69 then dec204_0 pc else if pc < 84 then dec204_1 pc else none
def dec205_0 (pc : Nat) : Option (ClassFile.Instr × Nat × List Nat) := match pc with
  | 0 => some (.aload_n 0, 1, [])
  | 1 => some (.getfield 180, 3, [1, 10, 18, 0, 0, 1012])
  | 4 => some (.iconst 1, 1, [1])
  | 5 => some (.isub, 1, [])
  | 6 => some (.istore_n 3, 1, [])
  | 7 => some (.aload_n 0, 1, [])
  | 8 => some (.getfield 22, 3, [1, 10, 7, 2, 0, 1001])
  | 11 => some (.iload_n 3, 1, [])
  | 12 => some (.iaload, 1, [])
  | 13 => some (.istore 4, 2, [])
  | 15 => some (.aload_n 0, 1, [])
  | 16 => some (.getfield 34, 3, [1, 10, 11, 2, 0, 1005])
  | 19 => some (.iload_n 3, 1, [])
  | 20 => some (.laload, 1, [])
  | 21 => some (.aload_n 0, 1, [])
  | 22 => some (.iload 4, 2, [])
  | 24 => some (.iload_n 2, 1, [])
  | 25 => some (.invokevirtual 121, 3, [2, 172, 2, 10, 0, 1151, 0, 0])
  | 28 => some (.i2l, 1, [])
  | 29 => some (.lmul, 1, [])
  | 30 => some (.aload_n 0, 1, [])
  | 31 => some (.getfield 31, 3, [1, 10, 10, 2, 0, 1004])
  | 34 => some (.iload_n 3, 1, [])
  | 35 => some (.iaload, 1, [])
  | 36 => some (.i2l, 1, [])
  | 37 => some (.ldiv, 1, [])
  | 38 => some (.lstore 5, 2, [])
  | 40 => some (.lload 5, 2, [])
  | 42 => some (.lconst 0, 1, [0])
  | 43 => some (.lcmp, 1, [])
  | 44 => some (.ifCond .ne 4, 3, [48])
  | 47 => some (.return_, 1, [])
  | 48 => some (.aload_n 0, 1, [])
  | 49 => some (.aload_n 0, 1, [])
  | 50 => some (.getfield 41, 3, [1, 10, 13, 2, 0, 1007])
  | 53 => some (.iload_n 3, 1, [])
  | 54 => some (.iaload, 1, [])
  | 55 => some (.iload 4, 2, [])
  | 57 => some (.iload_n 2, 1, [])
  | 58 => some (.invokevirtual 191, 3, [2, 206, 2, 10, 0, 1291, 0, 0, 0])
  | 61 => some (.istore 7, 2, [])
  | 63 => some (.aload_n 0, 1, [])
  | 64 => some (.aload_n 0, 1, [])
  | 65 => some (.getfield 44, 3, [1, 10, 14, 2, 0, 1008])
  | 68 => some (.iload_n 3, 1, [])
  | 69 => some (.iaload, 1, [])
  | 70 => some (.iload 4, 2, [])
  | 72 => some (.iload_n 2, 1, [])
  | _ => none
def dec205_1 (pc : Nat) : Option (ClassFile.Instr × Nat × List Nat) := match pc with
  | 73 => some (.invokevirtual 170, 3, [2, 194, 2, 10, 0, 1242, 0, 0, 0])
  | 76 => some (.istore 8, 2, [])
  | 78 => some (.aload_n 0, 1, [])
  | 79 => some (.iload 4, 2, [])
  | 81 => some (.iload_n 2, 1, [])
  | 82 => some (.iconst 0, 1, [0])
  | 83 => some (.invokevirtual 107, 3, [2, 167, 2, 10, 0, 1131, 0, 0, 0])
  | 86 => some (.istore 9, 2, [])
  | 88 => some (.iload 9, 2, [])
  | 90 => some (.invokestatic 90, 3, [2, 160, 0, 10, 0, 1106, 0])
  | 93 => some (.ifCond .eq 80, 3, [173])
  | 96 => some (.aload_n 0, 1, [])
  | 97 => some (.iload 4, 2, [])
  | 99 => some (.iload_n 2, 1, [])
  | 100 => some (.iconst 2, 1, [2])
  | 101 => some (.invokevirtual 107, 3, [2, 167, 2, 10, 0, 1131, 0, 0, 0])
  | 104 => some (.istore 10, 2, [])
  | 106 => some (.iload 10, 2, [])
  | 108 => some (.aload_n 0, 1, [])
  | 109 => some (.getfield 50, 3, [1, 10, 16, 2, 0, 1010])
  | 112 => some (.iload_n 3, 1, [])
  | 113 => some (.iaload, 1, [])
  | 114 => some (.if_icmp .le 8, 3, [122])
  | 117 => some (.iload 10, 2, [])
  | 119 => some (.goto 9, 3, [128])
  | 122 => some (.aload_n 0, 1, [])
  | 123 => some (.getfield 50, 3, [1, 10, 16, 2, 0, 1010])
  | 126 => some (.iload_n 3, 1, [])
  | 127 => some (.iaload, 1, [])
  | 128 => some (.istore 11, 2, [])
  | 130 => some (.aload_n 0, 1, [])
  | 131 => some (.iload_n 1, 1, [])
  | 132 => some (.lload 5, 2, [])
  | 134 => some (.aload_n 0, 1, [])
  | 135 => some (.getfield 38, 3, [1, 10, 12, 2, 0, 1006])
  | 138 => some (.iload_n 3, 1, [])
  | 139 => some (.iaload, 1, [])
  | 140 => some (.iconst 1, 1, [1])
  | 141 => some (.iadd, 1, [])
  | 142 => some (.iload 7, 2, [])
  | 144 => some (.iload 8, 2, [])
  | 146 => some (.aload_n 0, 1, [])
  | 147 => some (.getfield 47, 3, [1, 10, 15, 2, 0, 1009])
  | 150 => some (.iload_n 3, 1, [])
  | 151 => some (.iaload, 1, [])
  | 152 => some (.iconst 1, 1, [1])
  | 153 => some (.iload 9, 2, [])
  | 155 => some (.ishl, 1, [])
  | _ => none
def dec205_2 (pc : Nat) : Option (ClassFile.Instr × Nat × List Nat) := match pc with
  | 156 => some (.ior, 1, [])
  | 157 => some (.iload 11, 2, [])
  | 159 => some (.aload_n 0, 1, [])
  | 160 => some (.getfield 53, 3, [1, 10, 17, 2, 0, 1011])
  | 163 => some (.iload_n 3, 1, [])
  | 164 => some (.iaload, 1, [])
  | 165 => some (.iconst 1, 1, [1])
  | 166 => some (.iadd, 1, [])
  | 167 => some (.invokevirtual 194, 3, [2, 202, 2, 10, 0, 1275, 0, 0, 0, 0, 0, 0, 1, 0])
  | 170 => some (.goto 93, 3, [263])
  | 173 => some (.aload_n 0, 1, [])
  | 174 => some (.getfield 41, 3, [1, 10, 13, 2, 0, 1007])
  | 177 => some (.aload_n 0, 1, [])
  | 178 => some (.getfield 180, 3, [1, 10, 18, 0, 0, 1012])
  | 181 => some (.iload 7, 2, [])
  | 183 => some (.iastore, 1, [])
  | 184 => some (.aload_n 0, 1, [])
  | 185 => some (.getfield 44, 3, [1, 10, 14, 2, 0, 1008])
  | 188 => some (.aload_n 0, 1, [])
  | 189 => some (.getfield 180, 3, [1, 10, 18, 0, 0, 1012])
  | 192 => some (.iload 8, 2, [])
  | 194 => some (.iastore, 1, [])
  | 195 => some (.aload_n 0, 1, [])
  | 196 => some (.getfield 47, 3, [1, 10, 15, 2, 0, 1009])
  | 199 => some (.aload_n 0, 1, [])
  | 200 => some (.getfield 180, 3, [1, 10, 18, 0, 0, 1012])
  | 203 => some (.aload_n 0, 1, [])
  | 204 => some (.getfield 47, 3, [1, 10, 15, 2, 0, 1009])
  | 207 => some (.iload_n 3, 1, [])
  | 208 => some (.iaload, 1, [])
  | 209 => some (.iastore, 1, [])
  | 210 => some (.aload_n 0, 1, [])
  | 211 => some (.getfield 50, 3, [1, 10, 16, 2, 0, 1010])
  | 214 => some (.aload_n 0, 1, [])
  | 215 => some (.getfield 180, 3, [1, 10, 18, 0, 0, 1012])
  | 218 => some (.aload_n 0, 1, [])
  | 219 => some (.getfield 50, 3, [1, 10, 16, 2, 0, 1010])
  | 222 => some (.iload_n 3, 1, [])
  | 223 => some (.iaload, 1, [])
  | 224 => some (.iastore, 1, [])
  | 225 => some (.aload_n 0, 1, [])
  | 226 => some (.getfield 53, 3, [1, 10, 17, 2, 0, 1011])
  | 229 => some (.aload_n 0, 1, [])
  | 230 => some (.getfield 180, 3, [1, 10, 18, 0, 0, 1012])
  | 233 => some (.aload_n 0, 1, [])
  | 234 => some (.getfield 53, 3, [1, 10, 17, 2, 0, 1011])
  | 237 => some (.iload_n 3, 1, [])
  | 238 => some (.iaload, 1, [])
  | _ => none
def dec205_3 (pc : Nat) : Option (ClassFile.Instr × Nat × List Nat) := match pc with
  | 239 => some (.iastore, 1, [])
  | 240 => some (.aload_n 0, 1, [])
  | 241 => some (.iload 9, 2, [])
  | 243 => some (.bipush 16, 2, [16])
  | 245 => some (.isub, 1, [])
  | 246 => some (.aload_n 0, 1, [])
  | 247 => some (.getfield 28, 3, [1, 10, 9, 2, 0, 1003])
  | 250 => some (.iload_n 3, 1, [])
  | 251 => some (.iaload, 1, [])
  | 252 => some (.lload 5, 2, [])
  | 254 => some (.aload_n 0, 1, [])
  | 255 => some (.getfield 38, 3, [1, 10, 12, 2, 0, 1006])
  | 258 => some (.iload_n 3, 1, [])
  | 259 => some (.iaload, 1, [])
  | 260 => some (.invokevirtual 183, 3, [2, 203, 2, 10, 0, 1279, 0, 1, 0, 0])
  | 263 => some (.return_, 1, [])
  | _ => none
def dec205 (pc : Nat) : Option (ClassFile.Instr × Nat × List Nat) := if pc < 73 then dec205_0 pc else if pc < 156 then dec205_1 pc else if pc < 239 then dec205_2 pc else if pc < 264 then dec205_3 pc else none
def dec206 (pc : Nat) : Option (ClassFile.Instr × Nat × List Nat) := match pc with
  | 0 => some (.aload_n 0, 1, [])
  | 1 => some (.iload_n 2, 1, [])
  | 2 => some (.iload_n 3, 1, [])
  | 3 => some (.iconst 4, 1, [4])
  | 4 => some (.invokevirtual 107, 3, [2, 167, 2, 10, 0, 1131, 0, 0, 0])
  | 7 => some (.ifCond .ne 7, 3, [14])
  | 10 => some (.iload_n 1, 1, [])
  | 11 => some (.goto 13, 3, [24])
  | 14 => some (.iload_n 1, 1, [])
  | 15 => some (.iconst 1, 1, [1])
  | 16 => some (.bipush 6, 2, [6])
  | 18 => some (.iload_n 2, 1, [])
  | 19 => some (.imul, 1, [])
  | 20 => some (.iload_n 3, 1, [])
  | 21 => some (.iadd, 1, [])
  | 22 => some (.ishl, 1, [])
  | 23 => some (.ior, 1, [])
  | 24 => some (.ireturn, 1, [0])
  | _ => none
def dec207 (pc : Nat) : Option (ClassFile.Instr × Nat × List Nat) := match pc with
  | 0 => some (.aload_n 0, 1, [])
  | 1 => some (.iload_n 1, 1, [])
  | 2 => some (.invokestatic 84, 3, [2, 155, 0, 10, 0, 1089, 0])
  | 5 => some (.ifCond .ne 7, 3, [12])
  | 8 => some (.iconst 1, 1, [1])
  | 9 => some (.goto 17, 3, [26])
  | 12 => some (.iload_n 2, 1, [])
  | 13 => some (.iconst 0, 1, [0])
  | 14 => some (.iconst 3, 1, [3])
  | 15 => some (.invokestatic 76, 3, [2, 156, 0, 10, 0, 1092, 0, 0, 0])
  | 18 => some (.ifCond .eq 7, 3, [25])
  | 21 => some (.iconst 0, 1, [0])
  | 22 => some (.goto 4, 3, [26])
  | 25 => some (.iconst 2, 1, [2])
  | 26 => some (.invokevirtual 72, 3, [2, 153, 2, 10, 0, 1081, 0])
  | 29 => some (.ifCond .eq 5, 3, [34])
  | 32 => some (.iconst 0, 1, [0])
  | 33 => some (.ireturn, 1, [0])
  | 34 => some (.aload_n 0, 1, [])
  | 35 => some (.iload_n 1, 1, [])
  | 36 => some (.invokevirtual 206, 3, [2, 201, 2, 10, 0, 1270, 0])
  | 39 => some (.aload_n 0, 1, [])
  | 40 => some (.getfield 59, 3, [1, 10, 20, 2, 0, 1014])
  | 43 => some (.iload_n 2, 1, [])
  | 44 => some (.laload, 1, [])
  | 45 => some (.l2i, 1, [])
  | 46 => some (.ireturn, 1, [0])
  | _ => none
def dec208 (pc : Nat) : Option (ClassFile.Instr × Nat × List Nat) := match pc with
  | 0 => some (.aload_n 0, 1, [])
  | 1 => some (.iload_n 1, 1, [])
  | 2 => some (.invokestatic 84, 3, [2, 155, 0, 10, 0, 1089, 0])
  | 5 => some (.ifCond .eq 7, 3, [12])
  | 8 => some (.iconst 0, 1, [0])
  | 9 => some (.goto 4, 3, [13])
  | 12 => some (.iconst 1, 1, [1])
  | 13 => some (.invokevirtual 72, 3, [2, 153, 2, 10, 0, 1081, 0])
  | 16 => some (.ifCond .eq 5, 3, [21])
  | 19 => some (.lconst 0, 1, [0])
  | 20 => some (.lreturn, 1, [])
  | 21 => some (.aload_n 0, 1, [])
  | 22 => some (.iload_n 1, 1, [])
  | 23 => some (.invokevirtual 206, 3, [2, 201, 2, 10, 0, 1270, 0])
  | 26 => some (.aload_n 0, 1, [])
  | 27 => some (.getfield 187, 3, [1, 10, 21, 1, 0, 1015])
  | 30 => some (.lreturn, 1, [])
  | _ => none
def dec209_0 (pc : Nat) : Option (ClassFile.Instr × Nat × List Nat) := match pc with
  | 0 => some (.aload_n 0, 1, [])
  | 1 => some (.iconst 0, 1, [0])
  | 2 => some (.putfield 65, 3, [1, 10, 4, 0, 0, 998])
  | 5 => some (.iconst 0, 1, [0])
  | 6 => some (.istore_n 1, 1, [])
  | 7 => some (.iconst 0, 1, [0])
  | 8 => some (.istore_n 2, 1, [])
  | 9 => some (.iload_n 2, 1, [])
  | 10 => some (.aload_n 0, 1, [])
  | 11 => some (.getfield 7, 3, [1, 10, 0, 2, 0, 994])
  | 14 => some (.sipush 140, 3, [140])
  | 17 => some (.iaload, 1, [])
  | 18 => some (.if_icmp .ge 52, 3, [70])
  | 21 => some (.iload_n 1, 1, [])
  | 22 => some (.iload_n 2, 1, [])
  | 23 => some (.ifCond .eq 34, 3, [57])
  | 26 => some (.aload_n 0, 1, [])
  | 27 => some (.getfield 7, 3, [1, 10, 0, 2, 0, 994])
  | 30 => some (.sipush 141, 3, [141])
  | 33 => some (.iconst 3, 1, [3])
  | 34 => some (.iload_n 2, 1, [])
  | 35 => some (.imul, 1, [])
  | 36 => some (.iadd, 1, [])
  | 37 => some (.iconst 2, 1, [2])
  | 38 => some (.iadd, 1, [])
  | 39 => some (.iaload, 1, [])
  | 40 => some (.aload_n 0, 1, [])
  | 41 => some (.getfield 7, 3, [1, 10, 0, 2, 0, 994])
  | 44 => some (.sipush 141, 3, [141])
  | 47 => some (.iconst 3, 1, [3])
  | 48 => some (.iload_n 2, 1, [])
  | 49 => some (.imul, 1, [])
  | 50 => some (.iadd, 1, [])
  | 51 => some (.iconst 1, 1, [1])
  | 52 => some (.isub, 1, [])
  | 53 => some (.iaload, 1, [])
  | 54 => some (.if_icmp .eq 7, 3, [61])
  | 57 => some (.iconst 1, 1, [1])
  | 58 => some (.goto 4, 3, [62])
  | 61 => some (.iconst 0, 1, [0])
  | 62 => some (.iadd, 1, [])
  | 63 => some (.istore_n 1, 1, [])
  | 64 => some (.iinc 2 1, 3, [1])
  | 67 => some (.goto (-58), 3, [9])
  | 70 => some (.aload_n 0, 1, [])
  | 71 => some (.getfield 7, 3, [1, 10, 0, 2, 0, 994])
  | 74 => some (.bipush 122, 2, [122])
  | 76 => some (.iaload, 1, [])
  | _ => none
def dec209_1 (pc : Nat) : Option (ClassFile.Instr × Nat × List Nat) := match pc with
  | 77 => some (.ifCond .ne 7, 3, [84])
  | 80 => some (.dconst 0, 1, [])
  | 81 => some (.goto 14, 3, [95])
  | 84 => some (.iload_n 1, 1, [])
  | 85 => some (.i2d, 1, [])
  | 86 => some (.aload_n 0, 1, [])
  | 87 => some (.getfield 7, 3, [1, 10, 0, 2, 0, 994])
  | 90 => some (.bipush 122, 2, [122])
  | 92 => some (.iaload, 1, [])
  | 93 => some (.i2d, 1, [])
  | 94 => some (.ddiv, 1, [])
  | 95 => some (.dreturn, 1, [])
  | _ => none
def dec209 (pc : Nat) : Option (ClassFile.Instr × Nat × List Nat) := if pc < 77 then dec209_0 pc else if pc < 96 then dec209_1 pc else none
def dec210_0 (pc : Nat) : Option (ClassFile.Instr × Nat × List Nat) := match pc with
  | 0 => some (.aload_n 0, 1, [])
  | 1 => some (.iload_n 1, 1, [])
  | 2 => some (.invokestatic 84, 3, [2, 155, 0, 10, 0, 1089, 0])
  | 5 => some (.ifCond .eq 14, 3, [19])
  | 8 => some (.iload_n 2, 1, [])
  | 9 => some (.invokestatic 90, 3, [2, 160, 0, 10, 0, 1106, 0])
  | 12 => some (.ifCond .eq 7, 3, [19])
  | 15 => some (.iconst 0, 1, [0])
  | 16 => some (.goto 4, 3, [20])
  | 19 => some (.iconst 1, 1, [1])
  | 20 => some (.invokevirtual 72, 3, [2, 153, 2, 10, 0, 1081, 0])
  | 23 => some (.ifCond .eq 5, 3, [28])
  | 26 => some (.iconst 0, 1, [0])
  | 27 => some (.ireturn, 1, [0])
  | 28 => some (.aload_n 0, 1, [])
  | 29 => some (.invokevirtual 210, 3, [2, 211, 2, 10, 0, 1311])
  | 32 => some (.aload_n 0, 1, [])
  | 33 => some (.getfield 7, 3, [1, 10, 0, 2, 0, 994])
  | 36 => some (.bipush 124, 2, [124])
  | 38 => some (.iload_n 2, 1, [])
  | 39 => some (.iadd, 1, [])
  | 40 => some (.iaload, 1, [])
  | 41 => some (.istore_n 3, 1, [])
  | 42 => some (.iconst 0, 1, [0])
  | 43 => some (.istore 4, 2, [])
  | 45 => some (.iload 4, 2, [])
  | 47 => some (.sipush 300, 3, [300])
  | 50 => some (.if_icmp .ge 29, 3, [79])
  | 53 => some (.aload_n 0, 1, [])
  | 54 => some (.getfield 7, 3, [1, 10, 0, 2, 0, 994])
  | 57 => some (.bipush 124, 2, [124])
  | 59 => some (.iload_n 2, 1, [])
  | 60 => some (.iadd, 1, [])
  | 61 => some (.iaload, 1, [])
  | 62 => some (.iload_n 3, 1, [])
  | 63 => some (.if_icmp .ne 16, 3, [79])
  | 66 => some (.aload_n 0, 1, [])
  | 67 => some (.iload_n 1, 1, [])
  | 68 => some (.invokevirtual 177, 3, [2, 191, 2, 10, 0, 1226, 0])
  | 71 => some (.istore 5, 2, [])
  | 73 => some (.iinc 4 1, 3, [1])
  | 76 => some (.goto (-31), 3, [45])
  | 79 => some (.aload_n 0, 1, [])
  | 80 => some (.getfield 7, 3, [1, 10, 0, 2, 0, 994])
  | 83 => some (.bipush 124, 2, [124])
  | 85 => some (.iload_n 2, 1, [])
  | 86 => some (.iadd, 1, [])
  | 87 => some (.iaload, 1, [])
  | _ => none
def dec210_1 (pc : Nat) : Option (ClassFile.Instr × Nat × List Nat) := match pc with
  | 88 => some (.iload_n 3, 1, [])
  | 89 => some (.if_icmp .le 7, 3, [96])
  | 92 => some (.iconst 1, 1, [1])
  | 93 => some (.goto 4, 3, [97])
  | 96 => some (.iconst 0, 1, [0])
  | 97 => some (.istore 5, 2, [])
  | 99 => some (.aload_n 0, 1, [])
  | 100 => some (.invokevirtual 213, 3, [2, 212, 2, 10, 0, 1315])
  | 103 => some (.iload 5, 2, [])
  | 105 => some (.ifCond .eq 8, 3, [113])
  | 108 => some (.iload 4, 2, [])
  | 110 => some (.goto 4, 3, [114])
  | 113 => some (.iconst (-1), 1, [4294967295])
  | 114 => some (.ireturn, 1, [0])
  | _ => none
def dec210 (pc : Nat) : Option (ClassFile.Instr × Nat × List Nat) := if pc < 88 then dec210_0 pc else if pc < 115 then dec210_1 pc else none
def dec211 (pc : Nat) : Option (ClassFile.Instr × Nat × List Nat) := match pc with
  | 0 => some (.iconst 0, 1, [0])
  | 1 => some (.istore_n 1, 1, [])
  | 2 => some (.iload_n 1, 1, [])
  | 3 => some (.sipush 201, 3, [201])
  | 6 => some (.if_icmp .ge 21, 3, [27])
  | 9 => some (.aload_n 0, 1, [])
  | 10 => some (.getfield 16, 3, [1, 10, 2, 2, 0, 996])
  | 13 => some (.iload_n 1, 1, [])
  | 14 => some (.aload_n 0, 1, [])
  | 15 => some (.getfield 7, 3, [1, 10, 0, 2, 0, 994])
  | 18 => some (.iload_n 1, 1, [])
  | 19 => some (.iaload, 1, [])
  | 20 => some (.iastore, 1, [])
  | 21 => some (.iinc 1 1, 3, [1])
  | 24 => some (.goto (-22), 3, [2])
  | 27 => some (.return_, 1, [])
  | _ => none
def dec212 (pc : Nat) : Option (ClassFile.Instr × Nat × List Nat) := match pc with
  | 0 => some (.iconst 0, 1, [0])
  | 1 => some (.istore_n 1, 1, [])
  | 2 => some (.iload_n 1, 1, [])
  | 3 => some (.sipush 201, 3, [201])
  | 6 => some (.if_icmp .ge 21, 3, [27])
  | 9 => some (.aload_n 0, 1, [])
  | 10 => some (.getfield 7, 3, [1, 10, 0, 2, 0, 994])
  | 13 => some (.iload_n 1, 1, [])
  | 14 => some (.aload_n 0, 1, [])
  | 15 => some (.getfield 16, 3, [1, 10, 2, 2, 0, 996])
  | 18 => some (.iload_n 1, 1, [])
  | 19 => some (.iaload, 1, [])
  | 20 => some (.iastore, 1, [])
  | 21 => some (.iinc 1 1, 3, [1])
  | 24 => some (.goto (-22), 3, [2])
  | 27 => some (.return_, 1, [])
  | _ => none
end
section
def dec213_0 (pc : Nat) : Option (ClassFile.Instr × Nat × List Nat) := match pc with
  | 0 => some (.aload_n 0, 1, [])
  | 1 => some (.iload_n 1, 1, [])
  | 2 => some (.invokestatic 84, 3, [2, 155, 0, 10, 0, 1089, 0])
  | 5 => some (.ifCond .eq 14, 3, [19])
  | 8 => some (.iload_n 2, 1, [])
  | 9 => some (.invokestatic 90, 3, [2, 160, 0, 10, 0, 1106, 0])
  | 12 => some (.ifCond .eq 7, 3, [19])
  | 15 => some (.iconst 0, 1, [0])
  | 16 => some (.goto 4, 3, [20])
  | 19 => some (.iconst 1, 1, [1])
  | 20 => some (.invokevirtual 72, 3, [2, 153, 2, 10, 0, 1081, 0])
  | 23 => some (.ifCond .eq 5, 3, [28])
  | 26 => some (.iconst 0, 1, [0])
  | 27 => some (.ireturn, 1, [0])
  | 28 => some (.iconst (-1), 1, [4294967295])
  | 29 => some (.istore_n 3, 1, [])
  | 30 => some (.ldc2_w 216, 3, [9, 18446744073709551615, 1323])
  | 33 => some (.lstore 4, 2, [])
  | 35 => some (.iconst 0, 1, [0])
  | 36 => some (.istore 6, 2, [])
  | 38 => some (.iload 6, 2, [])
  | 40 => some (.aload_n 0, 1, [])
  | 41 => some (.getfield 7, 3, [1, 10, 0, 2, 0, 994])
  | 44 => some (.iconst 3, 1, [3])
  | 45 => some (.iload_n 1, 1, [])
  | 46 => some (.iadd, 1, [])
  | 47 => some (.iaload, 1, [])
  | 48 => some (.if_icmp .ge 116, 3, [164])
  | 51 => some (.aload_n 0, 1, [])
  | 52 => some (.iload_n 1, 1, [])
  | 53 => some (.iload 6, 2, [])
  | 55 => some (.iconst 1, 1, [1])
  | 56 => some (.invokevirtual 107, 3, [2, 167, 2, 10, 0, 1131, 0, 0, 0])
  | 59 => some (.istore 7, 2, [])
  | 61 => some (.aload_n 0, 1, [])
  | 62 => some (.getfield 7, 3, [1, 10, 0, 2, 0, 994])
  | 65 => some (.iload_n 1, 1, [])
  | 66 => some (.iload 6, 2, [])
  | 68 => some (.invokestatic 80, 3, [2, 163, 0, 10, 0, 1116, 0, 0])
  | 71 => some (.iconst 1, 1, [1])
  | 72 => some (.iadd, 1, [])
  | 73 => some (.iconst 2, 1, [2])
  | 74 => some (.iload 7, 2, [])
  | 76 => some (.imul, 1, [])
  | 77 => some (.sipush 1000, 3, [1000])
  | 80 => some (.if_icmp .le 9, 3, [89])
  | 83 => some (.sipush 1000, 3, [1000])
  | 86 => some (.goto 7, 3, [93])
  | _ => none
def dec213_1 (pc : Nat) : Option (ClassFile.Instr × Nat × List Nat) := match pc with
  | 89 => some (.iconst 2, 1, [2])
  | 90 => some (.iload 7, 2, [])
  | 92 => some (.imul, 1, [])
  | 93 => some (.iastore, 1, [])
  | 94 => some (.aload_n 0, 1, [])
  | 95 => some (.iload_n 1, 1, [])
  | 96 => some (.invokevirtual 206, 3, [2, 201, 2, 10, 0, 1270, 0])
  | 99 => some (.aload_n 0, 1, [])
  | 100 => some (.getfield 7, 3, [1, 10, 0, 2, 0, 994])
  | 103 => some (.iload_n 1, 1, [])
  | 104 => some (.iload 6, 2, [])
  | 106 => some (.invokestatic 80, 3, [2, 163, 0, 10, 0, 1116, 0, 0])
  | 109 => some (.iconst 1, 1, [1])
  | 110 => some (.iadd, 1, [])
  | 111 => some (.iload 7, 2, [])
  | 113 => some (.iastore, 1, [])
  | 114 => some (.aload_n 0, 1, [])
  | 115 => some (.getfield 56, 3, [1, 10, 19, 2, 0, 1013])
  | 118 => some (.iload_n 2, 1, [])
  | 119 => some (.laload, 1, [])
  | 120 => some (.lload 4, 2, [])
  | 122 => some (.lcmp, 1, [])
  | 123 => some (.ifCond .le 8, 3, [131])
  | 126 => some (.iload 6, 2, [])
  | 128 => some (.goto 4, 3, [132])
  | 131 => some (.iload_n 3, 1, [])
  | 132 => some (.istore_n 3, 1, [])
  | 133 => some (.aload_n 0, 1, [])
  | 134 => some (.getfield 56, 3, [1, 10, 19, 2, 0, 1013])
  | 137 => some (.iload_n 2, 1, [])
  | 138 => some (.laload, 1, [])
  | 139 => some (.lload 4, 2, [])
  | 141 => some (.lcmp, 1, [])
  | 142 => some (.ifCond .le 12, 3, [154])
  | 145 => some (.aload_n 0, 1, [])
  | 146 => some (.getfield 56, 3, [1, 10, 19, 2, 0, 1013])
  | 149 => some (.iload_n 2, 1, [])
  | 150 => some (.laload, 1, [])
  | 151 => some (.goto 5, 3, [156])
  | 154 => some (.lload 4, 2, [])
  | 156 => some (.lstore 4, 2, [])
  | 158 => some (.iinc 6 1, 3, [1])
  | 161 => some (.goto (-123), 3, [38])
  | 164 => some (.iload_n 3, 1, [])
  | 165 => some (.ireturn, 1, [0])
  | _ => none
def dec213 (pc : Nat) : Option (ClassFile.Instr × Nat × List Nat) := if pc < 87 then dec213_0 pc else if pc < 166 then dec213_1 pc else none
def dec214 (pc : Nat) : Option (ClassFile.Instr × Nat × List Nat) := match pc with
  | 0 => some (.aload_n 0, 1, [])
  | 1 => some (.iload_n 1, 1, [])
  | 2 => some (.iconst 0, 1, [0])
  | 3 => some (.bipush 127, 2, [127])
  | 5 => some (.invokestatic 76, 3, [2, 156, 0, 10, 0, 1092, 0, 0, 0])
  | 8 => some (.ifCond .ne 7, 3, [15])
  | 11 => some (.iconst 1, 1, [1])
  | 12 => some (.goto 18, 3, [30])
  | 15 => some (.aload_n 0, 1, [])
  | 16 => some (.getfield 218, 3, [1, 10, 6, 0, 0, 1000])
  | 19 => some (.sipush 160, 3, [160])
  | 22 => some (.if_icmp .ne 7, 3, [29])
  | 25 => some (.iconst 2, 1, [2])
  | 26 => some (.goto 4, 3, [30])
  | 29 => some (.iconst 0, 1, [0])
  | 30 => some (.invokevirtual 72, 3, [2, 153, 2, 10, 0, 1081, 0])
  | 33 => some (.ifCond .eq 5, 3, [38])
  | 36 => some (.iconst 0, 1, [0])
  | 37 => some (.ireturn, 1, [0])
  | 38 => some (.aload_n 0, 1, [])
  | 39 => some (.getfield 19, 3, [1, 10, 5, 2, 0, 999])
  | 42 => some (.aload_n 0, 1, [])
  | 43 => some (.getfield 218, 3, [1, 10, 6, 0, 0, 1000])
  | 46 => some (.iload_n 1, 1, [])
  | 47 => some (.iastore, 1, [])
  | 48 => some (.aload_n 0, 1, [])
  | 49 => some (.dup, 1, [])
  | 50 => some (.getfield 218, 3, [1, 10, 6, 0, 0, 1000])
  | 53 => some (.iconst 1, 1, [1])
  | 54 => some (.iadd, 1, [])
  | 55 => some (.putfield 218, 3, [1, 10, 6, 0, 0, 1000])
  | 58 => some (.aload_n 0, 1, [])
  | 59 => some (.getfield 218, 3, [1, 10, 6, 0, 0, 1000])
  | 62 => some (.ireturn, 1, [0])
  | _ => none
def dec215 (pc : Nat) : Option (ClassFile.Instr × Nat × List Nat) := match pc with
  | 0 => some (.aload_n 0, 1, [])
  | 1 => some (.iconst 0, 1, [0])
  | 2 => some (.putfield 65, 3, [1, 10, 4, 0, 0, 998])
  | 5 => some (.aload_n 0, 1, [])
  | 6 => some (.getfield 218, 3, [1, 10, 6, 0, 0, 1000])
  | 9 => some (.istore_n 1, 1, [])
  | 10 => some (.aload_n 0, 1, [])
  | 11 => some (.iconst 0, 1, [0])
  | 12 => some (.putfield 218, 3, [1, 10, 6, 0, 0, 1000])
  | 15 => some (.iload_n 1, 1, [])
  | 16 => some (.ireturn, 1, [0])
  | _ => none
def dec216_0 (pc : Nat) : Option (ClassFile.Instr × Nat × List Nat) := match pc with
  | 0 => some (.aload_n 0, 1, [])
  | 1 => some (.iconst 0, 1, [0])
  | 2 => some (.putfield 65, 3, [1, 10, 4, 0, 0, 998])
  | 5 => some (.aload_n 0, 1, [])
  | 6 => some (.invokevirtual 210, 3, [2, 211, 2, 10, 0, 1311])
  | 9 => some (.iconst 0, 1, [0])
  | 10 => some (.istore_n 1, 1, [])
  | 11 => some (.iload_n 1, 1, [])
  | 12 => some (.iconst 3, 1, [3])
  | 13 => some (.if_icmp .ge 27, 3, [40])
  | 16 => some (.aload_n 0, 1, [])
  | 17 => some (.getfield 7, 3, [1, 10, 0, 2, 0, 994])
  | 20 => some (.iconst 0, 1, [0])
  | 21 => some (.iload_n 1, 1, [])
  | 22 => some (.iadd, 1, [])
  | 23 => some (.iconst 1, 1, [1])
  | 24 => some (.iastore, 1, [])
  | 25 => some (.aload_n 0, 1, [])
  | 26 => some (.getfield 7, 3, [1, 10, 0, 2, 0, 994])
  | 29 => some (.iconst 3, 1, [3])
  | 30 => some (.iload_n 1, 1, [])
  | 31 => some (.iadd, 1, [])
  | 32 => some (.iconst 0, 1, [0])
  | 33 => some (.iastore, 1, [])
  | 34 => some (.iinc 1 1, 3, [1])
  | 37 => some (.goto (-26), 3, [11])
  | 40 => some (.aload_n 0, 1, [])
  | 41 => some (.iconst 0, 1, [0])
  | 42 => some (.putfield 221, 3, [1, 10, 22, 0, 0, 1016])
  | 45 => some (.aload_n 0, 1, [])
  | 46 => some (.getfield 221, 3, [1, 10, 22, 0, 0, 1016])
  | 49 => some (.aload_n 0, 1, [])
  | 50 => some (.getfield 218, 3, [1, 10, 6, 0, 0, 1000])
  | 53 => some (.if_icmp .ge 50, 3, [103])
  | 56 => some (.aload_n 0, 1, [])
  | 57 => some (.bipush 100, 2, [100])
  | 59 => some (.invokevirtual 233, 3, [2, 217, 2, 10, 0, 1336, 0])
  | 62 => some (.ifCond .eq 13, 3, [75])
  | 65 => some (.aload_n 0, 1, [])
  | 66 => some (.invokevirtual 239, 3, [2, 218, 2, 10, 0, 1340])
  | 69 => some (.ifCond .eq 22, 3, [91])
  | 72 => some (.goto (-27), 3, [45])
  | 75 => some (.aload_n 0, 1, [])
  | 76 => some (.bipush 101, 2, [101])
  | 78 => some (.invokevirtual 233, 3, [2, 217, 2, 10, 0, 1336, 0])
  | 81 => some (.ifCond .eq 10, 3, [91])
  | 84 => some (.aload_n 0, 1, [])
  | 85 => some (.invokevirtual 243, 3, [2, 221, 2, 10, 0, 1352])
  | _ => none
def dec216_1 (pc : Nat) : Option (ClassFile.Instr × Nat × List Nat) := match pc with
  | 88 => some (.ifCond .ne (-43), 3, [45])
  | 91 => some (.aload_n 0, 1, [])
  | 92 => some (.invokevirtual 213, 3, [2, 212, 2, 10, 0, 1315])
  | 95 => some (.bipush (-10), 2, [4294967286])
  | 97 => some (.aload_n 0, 1, [])
  | 98 => some (.getfield 221, 3, [1, 10, 22, 0, 0, 1016])
  | 101 => some (.isub, 1, [])
  | 102 => some (.ireturn, 1, [0])
  | 103 => some (.iconst 0, 1, [0])
  | 104 => some (.istore_n 1, 1, [])
  | 105 => some (.iload_n 1, 1, [])
  | 106 => some (.sipush 201, 3, [201])
  | 109 => some (.if_icmp .ge 21, 3, [130])
  | 112 => some (.aload_n 0, 1, [])
  | 113 => some (.getfield 62, 3, [1, 10, 24, 2, 0, 1018])
  | 116 => some (.iload_n 1, 1, [])
  | 117 => some (.aload_n 0, 1, [])
  | 118 => some (.getfield 7, 3, [1, 10, 0, 2, 0, 994])
  | 121 => some (.iload_n 1, 1, [])
  | 122 => some (.iaload, 1, [])
  | 123 => some (.iastore, 1, [])
  | 124 => some (.iinc 1 1, 3, [1])
  | 127 => some (.goto (-22), 3, [105])
  | 130 => some (.aload_n 0, 1, [])
  | 131 => some (.invokevirtual 213, 3, [2, 212, 2, 10, 0, 1315])
  | 134 => some (.aload_n 0, 1, [])
  | 135 => some (.invokevirtual 87, 3, [2, 157, 2, 10, 0, 1095])
  | 138 => some (.iconst 0, 1, [0])
  | 139 => some (.istore_n 1, 1, [])
  | 140 => some (.iload_n 1, 1, [])
  | 141 => some (.sipush 201, 3, [201])
  | 144 => some (.if_icmp .ge 21, 3, [165])
  | 147 => some (.aload_n 0, 1, [])
  | 148 => some (.getfield 7, 3, [1, 10, 0, 2, 0, 994])
  | 151 => some (.iload_n 1, 1, [])
  | 152 => some (.aload_n 0, 1, [])
  | 153 => some (.getfield 62, 3, [1, 10, 24, 2, 0, 1018])
  | 156 => some (.iload_n 1, 1, [])
  | 157 => some (.iaload, 1, [])
  | 158 => some (.iastore, 1, [])
  | 159 => some (.iinc 1 1, 3, [1])
  | 162 => some (.goto (-22), 3, [140])
  | 165 => some (.aload_n 0, 1, [])
  | 166 => some (.iconst 5, 1, [5])
  | 167 => some (.invokevirtual 154, 3, [2, 188, 2, 10, 0, 1214, 0])
  | 170 => some (.ireturn, 1, [0])
  | _ => none
def dec216 (pc : Nat) : Option (ClassFile.Instr × Nat × List Nat) := if pc < 86 then dec216_0 pc else if pc < 171 then dec216_1 pc else none
def dec217 (pc : Nat) : Option (ClassFile.Instr × Nat × List Nat) := match pc with
  | 0 => some (.aload_n 0, 1, [])
  | 1 => some (.getfield 221, 3, [1, 10, 22, 0, 0, 1016])
  | 4 => some (.aload_n 0, 1, [])
  | 5 => some (.getfield 218, 3, [1, 10, 6, 0, 0, 1000])
  | 8 => some (.if_icmp .ge 20, 3, [28])
  | 11 => some (.aload_n 0, 1, [])
  | 12 => some (.getfield 19, 3, [1, 10, 5, 2, 0, 999])
  | 15 => some (.aload_n 0, 1, [])
  | 16 => some (.getfield 221, 3, [1, 10, 22, 0, 0, 1016])
  | 19 => some (.iaload, 1, [])
  | 20 => some (.iload_n 1, 1, [])
  | 21 => some (.if_icmp .ne 7, 3, [28])
  | 24 => some (.iconst 1, 1, [1])
  | 25 => some (.goto 4, 3, [29])
  | 28 => some (.iconst 0, 1, [0])
  | 29 => some (.istore_n 2, 1, [])
  | 30 => some (.aload_n 0, 1, [])
  | 31 => some (.dup, 1, [])
  | 32 => some (.getfield 221, 3, [1, 10, 22, 0, 0, 1016])
  | 35 => some (.iload_n 2, 1, [])
  | 36 => some (.ifCond .eq 7, 3, [43])
  | 39 => some (.iconst 1, 1, [1])
  | 40 => some (.goto 4, 3, [44])
  | 43 => some (.iconst 0, 1, [0])
  | 44 => some (.iadd, 1, [])
  | 45 => some (.putfield 221, 3, [1, 10, 22, 0, 0, 1016])
  | 48 => some (.iload_n 2, 1, [])
  | 49 => some (.ireturn, 1, [1])
  | _ => none
def dec218 (pc : Nat) : Option (ClassFile.Instr × Nat × List Nat) := match pc with
  | 0 => some (.aload_n 0, 1, [])
  | 1 => some (.iconst 0, 1, [0])
  | 2 => some (.iconst 2, 1, [2])
  | 3 => some (.invokevirtual 230, 3, [2, 219, 2, 10, 0, 1344, 0, 0])
  | 6 => some (.ifCond .ne 5, 3, [11])
  | 9 => some (.iconst 0, 1, [0])
  | 10 => some (.ireturn, 1, [1])
  | 11 => some (.aload_n 0, 1, [])
  | 12 => some (.getfield 227, 3, [1, 10, 23, 0, 0, 1017])
  | 15 => some (.istore_n 1, 1, [])
  | 16 => some (.aload_n 0, 1, [])
  | 17 => some (.iconst 1, 1, [1])
  | 18 => some (.iconst 2, 1, [2])
  | 19 => some (.invokevirtual 230, 3, [2, 219, 2, 10, 0, 1344, 0, 0])
  | 22 => some (.ifCond .ne 5, 3, [27])
  | 25 => some (.iconst 0, 1, [0])
  | 26 => some (.ireturn, 1, [1])
  | 27 => some (.aload_n 0, 1, [])
  | 28 => some (.getfield 7, 3, [1, 10, 0, 2, 0, 994])
  | 31 => some (.iconst 0, 1, [0])
  | 32 => some (.iload_n 1, 1, [])
  | 33 => some (.iadd, 1, [])
  | 34 => some (.aload_n 0, 1, [])
  | 35 => some (.getfield 227, 3, [1, 10, 23, 0, 0, 1017])
  | 38 => some (.iastore, 1, [])
  | 39 => some (.aload_n 0, 1, [])
  | 40 => some (.bipush 59, 2, [59])
  | 42 => some (.invokevirtual 233, 3, [2, 217, 2, 10, 0, 1336, 0])
  | 45 => some (.ireturn, 1, [1])
  | _ => none
def dec219 (pc : Nat) : Option (ClassFile.Instr × Nat × List Nat) := match pc with
  | 0 => some (.aload_n 0, 1, [])
  | 1 => some (.iload_n 1, 1, [])
  | 2 => some (.iload_n 2, 1, [])
  | 3 => some (.invokevirtual 224, 3, [2, 220, 2, 10, 0, 1348, 0, 0])
  | 6 => some (.istore_n 3, 1, [])
  | 7 => some (.aload_n 0, 1, [])
  | 8 => some (.iload_n 3, 1, [])
  | 9 => some (.ifCond .eq 18, 3, [27])
  | 12 => some (.aload_n 0, 1, [])
  | 13 => some (.getfield 19, 3, [1, 10, 5, 2, 0, 999])
  | 16 => some (.aload_n 0, 1, [])
  | 17 => some (.getfield 221, 3, [1, 10, 22, 0, 0, 1016])
  | 20 => some (.iaload, 1, [])
  | 21 => some (.bipush 48, 2, [48])
  | 23 => some (.isub, 1, [])
  | 24 => some (.goto 4, 3, [28])
  | 27 => some (.iconst 0, 1, [0])
  | 28 => some (.putfield 227, 3, [1, 10, 23, 0, 0, 1017])
  | 31 => some (.aload_n 0, 1, [])
  | 32 => some (.dup, 1, [])
  | 33 => some (.getfield 221, 3, [1, 10, 22, 0, 0, 1016])
  | 36 => some (.iload_n 3, 1, [])
  | 37 => some (.ifCond .eq 7, 3, [44])
  | 40 => some (.iconst 1, 1, [1])
  | 41 => some (.goto 4, 3, [45])
  | 44 => some (.iconst 0, 1, [0])
  | 45 => some (.iadd, 1, [])
  | 46 => some (.putfield 221, 3, [1, 10, 22, 0, 0, 1016])
  | 49 => some (.iload_n 3, 1, [])
  | 50 => some (.ireturn, 1, [1])
  | _ => none
def dec220 (pc : Nat) : Option (ClassFile.Instr × Nat × List Nat) := match pc with
  | 0 => some (.aload_n 0, 1, [])
  | 1 => some (.getfield 221, 3, [1, 10, 22, 0, 0, 1016])
  | 4 => some (.aload_n 0, 1, [])
  | 5 => some (.getfield 218, 3, [1, 10, 6, 0, 0, 1000])
  | 8 => some (.if_icmp .ge 30, 3, [38])
  | 11 => some (.aload_n 0, 1, [])
  | 12 => some (.getfield 19, 3, [1, 10, 5, 2, 0, 999])
  | 15 => some (.aload_n 0, 1, [])
  | 16 => some (.getfield 221, 3, [1, 10, 22, 0, 0, 1016])
  | 19 => some (.iaload, 1, [])
  | 20 => some (.bipush 48, 2, [48])
  | 22 => some (.iload_n 1, 1, [])
  | 23 => some (.iadd, 1, [])
  | 24 => some (.bipush 48, 2, [48])
  | 26 => some (.iload_n 2, 1, [])
  | 27 => some (.iadd, 1, [])
  | 28 => some (.invokestatic 76, 3, [2, 156, 0, 10, 0, 1092, 0, 0, 0])
  | 31 => some (.ifCond .eq 7, 3, [38])
  | 34 => some (.iconst 1, 1, [1])
  | 35 => some (.goto 4, 3, [39])
  | 38 => some (.iconst 0, 1, [0])
  | 39 => some (.ireturn, 1, [1])
  | _ => none
def dec221_0 (pc : Nat) : Option (ClassFile.Instr × Nat × List Nat) := match pc with
  | 0 => some (.aload_n 0, 1, [])
  | 1 => some (.iconst 0, 1, [0])
  | 2 => some (.iconst 2, 1, [2])
  | 3 => some (.invokevirtual 224, 3, [2, 220, 2, 10, 0, 1348, 0, 0])
  | 6 => some (.ifCond .eq 27, 3, [33])
  | 9 => some (.aload_n 0, 1, [])
  | 10 => some (.getfield 7, 3, [1, 10, 0, 2, 0, 994])
  | 13 => some (.iconst 3, 1, [3])
  | 14 => some (.aload_n 0, 1, [])
  | 15 => some (.getfield 19, 3, [1, 10, 5, 2, 0, 999])
  | 18 => some (.aload_n 0, 1, [])
  | 19 => some (.getfield 221, 3, [1, 10, 22, 0, 0, 1016])
  | 22 => some (.iaload, 1, [])
  | 23 => some (.iadd, 1, [])
  | 24 => some (.bipush 48, 2, [48])
  | 26 => some (.isub, 1, [])
  | 27 => some (.iaload, 1, [])
  | 28 => some (.bipush 6, 2, [6])
  | 30 => some (.if_icmp .ne 5, 3, [35])
  | 33 => some (.iconst 0, 1, [0])
  | 34 => some (.ireturn, 1, [1])
  | 35 => some (.aload_n 0, 1, [])
  | 36 => some (.getfield 19, 3, [1, 10, 5, 2, 0, 999])
  | 39 => some (.aload_n 0, 1, [])
  | 40 => some (.getfield 221, 3, [1, 10, 22, 0, 0, 1016])
  | 43 => some (.iaload, 1, [])
  | 44 => some (.bipush 48, 2, [48])
  | 46 => some (.isub, 1, [])
  | 47 => some (.istore_n 1, 1, [])
  | 48 => some (.aload_n 0, 1, [])
  | 49 => some (.dup, 1, [])
  | 50 => some (.getfield 221, 3, [1, 10, 22, 0, 0, 1016])
  | 53 => some (.iconst 1, 1, [1])
  | 54 => some (.iadd, 1, [])
  | 55 => some (.putfield 221, 3, [1, 10, 22, 0, 0, 1016])
  | 58 => some (.aload_n 0, 1, [])
  | 59 => some (.getfield 221, 3, [1, 10, 22, 0, 0, 1016])
  | 62 => some (.iconst 1, 1, [1])
  | 63 => some (.iadd, 1, [])
  | 64 => some (.istore_n 2, 1, [])
  | 65 => some (.aload_n 0, 1, [])
  | 66 => some (.bipush 44, 2, [44])
  | 68 => some (.invokevirtual 233, 3, [2, 217, 2, 10, 0, 1336, 0])
  | 71 => some (.ifCond .eq 14, 3, [85])
  | 74 => some (.aload_n 0, 1, [])
  | 75 => some (.iconst 2, 1, [2])
  | 76 => some (.iconst 0, 1, [0])
  | 77 => some (.bipush 18, 2, [18])
  | _ => none
def dec221_1 (pc : Nat) : Option (ClassFile.Instr × Nat × List Nat) := match pc with
  | 79 => some (.invokevirtual 236, 3, [2, 222, 2, 10, 0, 1356, 0, 0, 0])
  | 82 => some (.ifCond .ne 5, 3, [87])
  | 85 => some (.iconst 0, 1, [0])
  | 86 => some (.ireturn, 1, [1])
  | 87 => some (.aload_n 0, 1, [])
  | 88 => some (.getfield 227, 3, [1, 10, 23, 0, 0, 1017])
  | 91 => some (.istore_n 3, 1, [])
  | 92 => some (.iload_n 3, 1, [])
  | 93 => some (.bipush 16, 2, [16])
  | 95 => some (.if_icmp .lt 18, 3, [113])
  | 98 => some (.iload_n 3, 1, [])
  | 99 => some (.bipush 16, 2, [16])
  | 101 => some (.isub, 1, [])
  | 102 => some (.iload_n 1, 1, [])
  | 103 => some (.if_icmp .gt 10, 3, [113])
  | 106 => some (.aload_n 0, 1, [])
  | 107 => some (.iload_n 2, 1, [])
  | 108 => some (.putfield 221, 3, [1, 10, 22, 0, 0, 1016])
  | 111 => some (.iconst 0, 1, [0])
  | 112 => some (.ireturn, 1, [1])
  | 113 => some (.aload_n 0, 1, [])
  | 114 => some (.bipush 44, 2, [44])
  | 116 => some (.invokevirtual 233, 3, [2, 217, 2, 10, 0, 1336, 0])
  | 119 => some (.ifCond .eq 15, 3, [134])
  | 122 => some (.aload_n 0, 1, [])
  | 123 => some (.iconst 4, 1, [4])
  | 124 => some (.iconst 1, 1, [1])
  | 125 => some (.sipush 1000, 3, [1000])
  | 128 => some (.invokevirtual 236, 3, [2, 222, 2, 10, 0, 1356, 0, 0, 0])
  | 131 => some (.ifCond .ne 5, 3, [136])
  | 134 => some (.iconst 0, 1, [0])
  | 135 => some (.ireturn, 1, [1])
  | 136 => some (.aload_n 0, 1, [])
  | 137 => some (.getfield 227, 3, [1, 10, 23, 0, 0, 1017])
  | 140 => some (.istore 4, 2, [])
  | 142 => some (.aload_n 0, 1, [])
  | 143 => some (.bipush 44, 2, [44])
  | 145 => some (.invokevirtual 233, 3, [2, 217, 2, 10, 0, 1336, 0])
  | 148 => some (.ifCond .eq 22, 3, [170])
  | 151 => some (.aload_n 0, 1, [])
  | 152 => some (.iconst 0, 1, [0])
  | 153 => some (.iload_n 3, 1, [])
  | 154 => some (.bipush 16, 2, [16])
  | 156 => some (.if_icmp .ge 7, 3, [163])
  | 159 => some (.iconst 3, 1, [3])
  | 160 => some (.goto 4, 3, [164])
  | 163 => some (.iconst 0, 1, [0])
  | 164 => some (.invokevirtual 230, 3, [2, 219, 2, 10, 0, 1344, 0, 0])
  | _ => none
def dec221_2 (pc : Nat) : Option (ClassFile.Instr × Nat × List Nat) := match pc with
  | 167 => some (.ifCond .ne 5, 3, [172])
  | 170 => some (.iconst 0, 1, [0])
  | 171 => some (.ireturn, 1, [1])
  | 172 => some (.aload_n 0, 1, [])
  | 173 => some (.getfield 227, 3, [1, 10, 23, 0, 0, 1017])
  | 176 => some (.istore 5, 2, [])
  | 178 => some (.aload_n 0, 1, [])
  | 179 => some (.iconst 0, 1, [0])
  | 180 => some (.iconst 3, 1, [3])
  | 181 => some (.invokevirtual 230, 3, [2, 219, 2, 10, 0, 1344, 0, 0])
  | 184 => some (.ifCond .ne 5, 3, [189])
  | 187 => some (.iconst 0, 1, [0])
  | 188 => some (.ireturn, 1, [1])
  | 189 => some (.aload_n 0, 1, [])
  | 190 => some (.getfield 227, 3, [1, 10, 23, 0, 0, 1017])
  | 193 => some (.istore 6, 2, [])
  | 195 => some (.aload_n 0, 1, [])
  | 196 => some (.bipush 111, 2, [111])
  | 198 => some (.invokevirtual 233, 3, [2, 217, 2, 10, 0, 1336, 0])
  | 201 => some (.istore 7, 2, [])
  | 203 => some (.aload_n 0, 1, [])
  | 204 => some (.iload_n 1, 1, [])
  | 205 => some (.iload_n 3, 1, [])
  | 206 => some (.iload 4, 2, [])
  | 208 => some (.iload 5, 2, [])
  | 210 => some (.iload 6, 2, [])
  | 212 => some (.iload 7, 2, [])
  | 214 => some (.invokevirtual 99, 3, [2, 162, 2, 10, 0, 1112, 0, 0, 0, 0, 0, 0])
  | 217 => some (.istore 8, 2, [])
  | 219 => some (.aload_n 0, 1, [])
  | 220 => some (.bipush 59, 2, [59])
  | 222 => some (.invokevirtual 233, 3, [2, 217, 2, 10, 0, 1336, 0])
  | 225 => some (.ireturn, 1, [1])
  | _ => none
def dec221 (pc : Nat) : Option (ClassFile.Instr × Nat × List Nat) := if pc < 78 then dec221_0 pc else if pc < 165 then dec221_1 pc else if pc < 226 then dec221_2 pc else none
def dec222_0 (pc : Nat) : Option (ClassFile.Instr × Nat × List Nat) := match pc with
  | 0 => some (.aload_n 0, 1, [])
  | 1 => some (.getfield 221, 3, [1, 10, 22, 0, 0, 1016])
  | 4 => some (.istore 4, 2, [])
  | 6 => some (.iconst 0, 1, [0])
  | 7 => some (.istore 5, 2, [])
  | 9 => some (.aload_n 0, 1, [])
  | 10 => some (.iconst 0, 1, [0])
  | 11 => some (.bipush 9, 2, [9])
  | 13 => some (.invokevirtual 224, 3, [2, 220, 2, 10, 0, 1348, 0, 0])
  | 16 => some (.ifCond .eq 47, 3, [63])
  | 19 => some (.aload_n 0, 1, [])
  | 20 => some (.getfield 221, 3, [1, 10, 22, 0, 0, 1016])
  | 23 => some (.iload 4, 2, [])
  | 25 => some (.iload_n 1, 1, [])
  | 26 => some (.iadd, 1, [])
  | 27 => some (.if_icmp .ge 36, 3, [63])
  | 30 => some (.bipush 10, 2, [10])
  | 32 => some (.iload 5, 2, [])
  | 34 => some (.imul, 1, [])
  | 35 => some (.aload_n 0, 1, [])
  | 36 => some (.getfield 19, 3, [1, 10, 5, 2, 0, 999])
  | 39 => some (.aload_n 0, 1, [])
  | 40 => some (.getfield 221, 3, [1, 10, 22, 0, 0, 1016])
  | 43 => some (.iaload, 1, [])
  | 44 => some (.iadd, 1, [])
  | 45 => some (.bipush 48, 2, [48])
  | 47 => some (.isub, 1, [])
  | 48 => some (.istore 5, 2, [])
  | 50 => some (.aload_n 0, 1, [])
  | 51 => some (.dup, 1, [])
  | 52 => some (.getfield 221, 3, [1, 10, 22, 0, 0, 1016])
  | 55 => some (.iconst 1, 1, [1])
  | 56 => some (.iadd, 1, [])
  | 57 => some (.putfield 221, 3, [1, 10, 22, 0, 0, 1016])
  | 60 => some (.goto (-51), 3, [9])
  | 63 => some (.aload_n 0, 1, [])
  | 64 => some (.getfield 221, 3, [1, 10, 22, 0, 0, 1016])
  | 67 => some (.iload 4, 2, [])
  | 69 => some (.if_icmp .eq 13, 3, [82])
  | 72 => some (.aload_n 0, 1, [])
  | 73 => some (.iconst 0, 1, [0])
  | 74 => some (.bipush 9, 2, [9])
  | 76 => some (.invokevirtual 224, 3, [2, 220, 2, 10, 0, 1348, 0, 0])
  | 79 => some (.ifCond .eq 5, 3, [84])
  | 82 => some (.iconst 0, 1, [0])
  | 83 => some (.ireturn, 1, [1])
  | 84 => some (.aload_n 0, 1, [])
  | 85 => some (.iload 5, 2, [])
  | _ => none
def dec222_1 (pc : Nat) : Option (ClassFile.Instr × Nat × List Nat) := match pc with
  | 87 => some (.putfield 227, 3, [1, 10, 23, 0, 0, 1017])
  | 90 => some (.iload 5, 2, [])
  | 92 => some (.iload_n 2, 1, [])
  | 93 => some (.iload_n 3, 1, [])
  | 94 => some (.invokestatic 76, 3, [2, 156, 0, 10, 0, 1092, 0, 0, 0])
  | 97 => some (.istore 6, 2, [])
  | 99 => some (.aload_n 0, 1, [])
  | 100 => some (.iload 6, 2, [])
  | 102 => some (.ifCond .eq 10, 3, [112])
  | 105 => some (.aload_n 0, 1, [])
  | 106 => some (.getfield 221, 3, [1, 10, 22, 0, 0, 1016])
  | 109 => some (.goto 5, 3, [114])
  | 112 => some (.iload 4, 2, [])
  | 114 => some (.putfield 221, 3, [1, 10, 22, 0, 0, 1016])
  | 117 => some (.iload 6, 2, [])
  | 119 => some (.ireturn, 1, [1])
  | _ => none
def dec222 (pc : Nat) : Option (ClassFile.Instr × Nat × List Nat) := if pc < 86 then dec222_0 pc else if pc < 120 then dec222_1 pc else none
def dec223_0 (pc : Nat) : Option (ClassFile.Instr × Nat × List Nat) := match pc with
  | 0 => some (.aload_n 0, 1, [])
  | 1 => some (.iconst 0, 1, [0])
  | 2 => some (.putfield 65, 3, [1, 10, 4, 0, 0, 998])
  | 5 => some (.aload_n 0, 1, [])
  | 6 => some (.ldc2_w 255, 3, [9, 3361, 1364])
  | 9 => some (.putfield 248, 3, [1, 10, 25, 1, 0, 1019])
  | 12 => some (.aload_n 0, 1, [])
  | 13 => some (.aload_n 0, 1, [])
  | 14 => some (.getfield 218, 3, [1, 10, 6, 0, 0, 1000])
  | 17 => some (.i2l, 1, [])
  | 18 => some (.invokevirtual 251, 3, [2, 224, 2, 10, 0, 1365, 1])
  | 21 => some (.iconst 0, 1, [0])
  | 22 => some (.istore_n 1, 1, [])
  | 23 => some (.iload_n 1, 1, [])
  | 24 => some (.bipush 8, 2, [8])
  | 26 => some (.if_icmp .ge 19, 3, [45])
  | 29 => some (.aload_n 0, 1, [])
  | 30 => some (.aload_n 0, 1, [])
  | 31 => some (.iload_n 1, 1, [])
  | 32 => some (.invokevirtual 154, 3, [2, 188, 2, 10, 0, 1214, 0])
  | 35 => some (.i2l, 1, [])
  | 36 => some (.invokevirtual 251, 3, [2, 224, 2, 10, 0, 1365, 1])
  | 39 => some (.iinc 1 1, 3, [1])
  | 42 => some (.goto (-19), 3, [23])
  | 45 => some (.iconst 1, 1, [1])
  | 46 => some (.istore_n 1, 1, [])
  | 47 => some (.iload_n 1, 1, [])
  | 48 => some (.iconst 4, 1, [4])
  | 49 => some (.if_icmp .ge 37, 3, [86])
  | 52 => some (.aload_n 0, 1, [])
  | 53 => some (.aload_n 0, 1, [])
  | 54 => some (.getfield 7, 3, [1, 10, 0, 2, 0, 994])
  | 57 => some (.bipush 113, 2, [113])
  | 59 => some (.iload_n 1, 1, [])
  | 60 => some (.iadd, 1, [])
  | 61 => some (.iaload, 1, [])
  | 62 => some (.i2l, 1, [])
  | 63 => some (.invokevirtual 251, 3, [2, 224, 2, 10, 0, 1365, 1])
  | 66 => some (.aload_n 0, 1, [])
  | 67 => some (.aload_n 0, 1, [])
  | 68 => some (.getfield 7, 3, [1, 10, 0, 2, 0, 994])
  | 71 => some (.bipush 116, 2, [116])
  | 73 => some (.iload_n 1, 1, [])
  | 74 => some (.iadd, 1, [])
  | 75 => some (.iaload, 1, [])
  | 76 => some (.i2l, 1, [])
  | 77 => some (.invokevirtual 251, 3, [2, 224, 2, 10, 0, 1365, 1])
  | 80 => some (.iinc 1 1, 3, [1])
  | _ => none
def dec223_1 (pc : Nat) : Option (ClassFile.Instr × Nat × List Nat) := match pc with
  | 83 => some (.goto (-36), 3, [47])
  | 86 => some (.iconst 0, 1, [0])
  | 87 => some (.istore_n 1, 1, [])
  | 88 => some (.iload_n 1, 1, [])
  | 89 => some (.iconst 3, 1, [3])
  | 90 => some (.if_icmp .ge 14, 3, [104])
  | 93 => some (.aload_n 0, 1, [])
  | 94 => some (.iload_n 1, 1, [])
  | 95 => some (.invokevirtual 257, 3, [2, 225, 2, 10, 0, 1370, 0])
  | 98 => some (.iinc 1 1, 3, [1])
  | 101 => some (.goto (-13), 3, [88])
  | 104 => some (.iconst 0, 1, [0])
  | 105 => some (.istore_n 1, 1, [])
  | 106 => some (.iload_n 1, 1, [])
  | 107 => some (.bipush 16, 2, [16])
  | 109 => some (.if_icmp .ge 23, 3, [132])
  | 112 => some (.aload_n 0, 1, [])
  | 113 => some (.aload_n 0, 1, [])
  | 114 => some (.getfield 7, 3, [1, 10, 0, 2, 0, 994])
  | 117 => some (.bipush 124, 2, [124])
  | 119 => some (.iload_n 1, 1, [])
  | 120 => some (.iadd, 1, [])
  | 121 => some (.iaload, 1, [])
  | 122 => some (.i2l, 1, [])
  | 123 => some (.invokevirtual 251, 3, [2, 224, 2, 10, 0, 1365, 1])
  | 126 => some (.iinc 1 1, 3, [1])
  | 129 => some (.goto (-23), 3, [106])
  | 132 => some (.iconst 0, 1, [0])
  | 133 => some (.istore_n 1, 1, [])
  | 134 => some (.iload_n 1, 1, [])
  | 135 => some (.iconst 3, 1, [3])
  | 136 => some (.aload_n 0, 1, [])
  | 137 => some (.getfield 7, 3, [1, 10, 0, 2, 0, 994])
  | 140 => some (.sipush 140, 3, [140])
  | 143 => some (.iaload, 1, [])
  | 144 => some (.imul, 1, [])
  | 145 => some (.if_icmp .ge 24, 3, [169])
  | 148 => some (.aload_n 0, 1, [])
  | 149 => some (.aload_n 0, 1, [])
  | 150 => some (.getfield 7, 3, [1, 10, 0, 2, 0, 994])
  | 153 => some (.sipush 141, 3, [141])
  | 156 => some (.iload_n 1, 1, [])
  | 157 => some (.iadd, 1, [])
  | 158 => some (.iaload, 1, [])
  | 159 => some (.i2l, 1, [])
  | 160 => some (.invokevirtual 251, 3, [2, 224, 2, 10, 0, 1365, 1])
  | 163 => some (.iinc 1 1, 3, [1])
  | 166 => some (.goto (-32), 3, [134])
  | _ => none
def dec223_2 (pc : Nat) : Option (ClassFile.Instr × Nat × List Nat) := match pc with
  | 169 => some (.aload_n 0, 1, [])
  | 170 => some (.aload_n 0, 1, [])
  | 171 => some (.getfield 69, 3, [1, 10, 3, 0, 0, 997])
  | 174 => some (.i2l, 1, [])
  | 175 => some (.invokevirtual 251, 3, [2, 224, 2, 10, 0, 1365, 1])
  | 178 => some (.aload_n 0, 1, [])
  | 179 => some (.getfield 248, 3, [1, 10, 25, 1, 0, 1019])
  | 182 => some (.lreturn, 1, [])
  | _ => none
def dec223 (pc : Nat) : Option (ClassFile.Instr × Nat × List Nat) := if pc < 81 then dec223_0 pc else if pc < 167 then dec223_1 pc else if pc < 183 then dec223_2 pc else none
def dec224 (pc : Nat) : Option (ClassFile.Instr × Nat × List Nat) := match pc with
  | 0 => some (.aload_n 0, 1, [])
  | 1 => some (.ldc2_w 246, 3, [9, 31, 1369])
  | 4 => some (.aload_n 0, 1, [])
  | 5 => some (.getfield 248, 3, [1, 10, 25, 1, 0, 1019])
  | 8 => some (.lmul, 1, [])
  | 9 => some (.lload_n 1, 1, [])
  | 10 => some (.ladd, 1, [])
  | 11 => some (.putfield 248, 3, [1, 10, 25, 1, 0, 1019])
  | 14 => some (.return_, 1, [])
  | _ => none
def dec225_0 (pc : Nat) : Option (ClassFile.Instr × Nat × List Nat) := match pc with
  | 0 => some (.iconst 0, 1, [0])
  | 1 => some (.istore_n 2, 1, [])
  | 2 => some (.iload_n 2, 1, [])
  | 3 => some (.iconst 4, 1, [4])
  | 4 => some (.if_icmp .ge 20, 3, [24])
  | 7 => some (.aload_n 0, 1, [])
  | 8 => some (.aload_n 0, 1, [])
  | 9 => some (.iload_n 1, 1, [])
  | 10 => some (.iload_n 2, 1, [])
  | 11 => some (.invokevirtual 141, 3, [2, 179, 2, 10, 0, 1178, 0, 0])
  | 14 => some (.i2l, 1, [])
  | 15 => some (.invokevirtual 251, 3, [2, 224, 2, 10, 0, 1365, 1])
  | 18 => some (.iinc 2 1, 3, [1])
  | 21 => some (.goto (-19), 3, [2])
  | 24 => some (.iconst 0, 1, [0])
  | 25 => some (.istore_n 2, 1, [])
  | 26 => some (.iload_n 2, 1, [])
  | 27 => some (.bipush 8, 2, [8])
  | 29 => some (.aload_n 0, 1, [])
  | 30 => some (.getfield 7, 3, [1, 10, 0, 2, 0, 994])
  | 33 => some (.iconst 3, 1, [3])
  | 34 => some (.iload_n 1, 1, [])
  | 35 => some (.iadd, 1, [])
  | 36 => some (.iaload, 1, [])
  | 37 => some (.imul, 1, [])
  | 38 => some (.if_icmp .ge 27, 3, [65])
  | 41 => some (.aload_n 0, 1, [])
  | 42 => some (.aload_n 0, 1, [])
  | 43 => some (.iload_n 1, 1, [])
  | 44 => some (.iload_n 2, 1, [])
  | 45 => some (.bipush 8, 2, [8])
  | 47 => some (.idiv, 1, [])
  | 48 => some (.iload_n 2, 1, [])
  | 49 => some (.bipush 8, 2, [8])
  | 51 => some (.irem, 1, [])
  | 52 => some (.invokevirtual 135, 3, [2, 171, 2, 10, 0, 1147, 0, 0, 0])
  | 55 => some (.i2l, 1, [])
  | 56 => some (.invokevirtual 251, 3, [2, 224, 2, 10, 0, 1365, 1])
  | 59 => some (.iinc 2 1, 3, [1])
  | 62 => some (.goto (-36), 3, [26])
  | 65 => some (.aload_n 0, 1, [])
  | 66 => some (.iload_n 1, 1, [])
  | 67 => some (.invokevirtual 206, 3, [2, 201, 2, 10, 0, 1270, 0])
  | 70 => some (.iconst 0, 1, [0])
  | 71 => some (.istore_n 2, 1, [])
  | 72 => some (.iload_n 2, 1, [])
  | 73 => some (.iconst 4, 1, [4])
  | 74 => some (.if_icmp .ge 19, 3, [93])
  | _ => none
def dec225_1 (pc : Nat) : Option (ClassFile.Instr × Nat × List Nat) := match pc with
  | 77 => some (.aload_n 0, 1, [])
  | 78 => some (.aload_n 0, 1, [])
  | 79 => some (.getfield 59, 3, [1, 10, 20, 2, 0, 1014])
  | 82 => some (.iload_n 2, 1, [])
  | 83 => some (.laload, 1, [])
  | 84 => some (.invokevirtual 251, 3, [2, 224, 2, 10, 0, 1365, 1])
  | 87 => some (.iinc 2 1, 3, [1])
  | 90 => some (.goto (-18), 3, [72])
  | 93 => some (.return_, 1, [])
  | _ => none
def dec225 (pc : Nat) : Option (ClassFile.Instr × Nat × List Nat) := if pc < 75 then dec225_0 pc else if pc < 94 then dec225_1 pc else none
def dec226_0 (pc : Nat) : Option (ClassFile.Instr × Nat × List Nat) := match pc with
  | 0 => some (.new 8, 3, [5, 9, 22, 23, 1])
  | 3 => some (.dup, 1, [])
  | 4 => some (.invokespecial 92, 3, [2, 0, 1, 9, 0, 24])
  | 7 => some (.astore_n 1, 1, [])
  | 8 => some (.new 93, 3, [5, 10, 988, 989, 11])
  | 11 => some (.dup, 1, [])
  | 12 => some (.invokespecial 95, 3, [2, 150, 1, 10, 0, 990])
  | 15 => some (.astore_n 2, 1, [])
  | 16 => some (.iconst 1, 1, [1])
  | 17 => some (.newarray .long, 2, [])
  | 19 => some (.astore_n 3, 1, [])
  | 20 => some (.iconst 0, 1, [0])
  | 21 => some (.istore 4, 2, [])
  | 23 => some (.iload 4, 2, [])
  | 25 => some (.aload_n 0, 1, [])
  | 26 => some (.arraylength, 1, [])
  | 27 => some (.bipush 7, 2, [7])
  | 29 => some (.isub, 1, [])
  | 30 => some (.if_icmp .gt 1851, 3, [1881])
  | 33 => some (.aload_n 0, 1, [])
  | 34 => some (.iload 4, 2, [])
  | 36 => some (.iaload, 1, [])
  | 37 => some (.bipush 31, 2, [31])
  | 39 => some (.iand, 1, [])
  | 40 => some (.tableswitch 1835 0 27 #[128, 196, 330, 398, 478, 491, 571, 639, 707, 775, 843, 927, 983, 1039, 1107, 1175, 1231, 1327, 1395, 1463, 1518, 1559, 1627, 1695, 1751, 1764, 1777, 1821], 128, [])
  | 168 => some (.aload_n 1, 1, [])
  | 169 => some (.aload_n 0, 1, [])
  | 170 => some (.iload 4, 2, [])
  | 172 => some (.iconst 1, 1, [1])
  | 173 => some (.iadd, 1, [])
  | 174 => some (.iaload, 1, [])
  | 175 => some (.aload_n 0, 1, [])
  | 176 => some (.iload 4, 2, [])
  | 178 => some (.iconst 2, 1, [2])
  | 179 => some (.iadd, 1, [])
  | 180 => some (.iaload, 1, [])
  | 181 => some (.aload_n 3, 1, [])
  | 182 => some (.invokestatic 96, 3, [2, 84, 0, 14, 0, 618, 2, 0, 0, 2])
  | 185 => some (.istore 5, 2, [])
  | 187 => some (.aload_n 2, 1, [])
  | 188 => some (.aload_n 0, 1, [])
  | 189 => some (.iload 4, 2, [])
  | 191 => some (.iconst 1, 1, [1])
  | 192 => some (.iadd, 1, [])
  | 193 => some (.iaload, 1, [])
  | 194 => some (.aload_n 0, 1, [])
  | 195 => some (.iload 4, 2, [])
  | 197 => some (.iconst 2, 1, [2])
  | _ => none
def dec226_1 (pc : Nat) : Option (ClassFile.Instr × Nat × List Nat) := match pc with
  | 198 => some (.iadd, 1, [])
  | 199 => some (.iaload, 1, [])
  | 200 => some (.invokevirtual 101, 3, [2, 154, 2, 10, 0, 1085, 0, 0])
  | 203 => some (.istore 6, 2, [])
  | 205 => some (.aload_n 2, 1, [])
  | 206 => some (.invokevirtual 102, 3, [2, 151, 2, 10, 0, 1073])
  | 209 => some (.iload 5, 2, [])
  | 211 => some (.if_icmp .eq 5, 3, [216])
  | 214 => some (.iconst 0, 1, [0])
  | 215 => some (.ireturn, 1, [1])
  | 216 => some (.iload 5, 2, [])
  | 218 => some (.ifCond .ne 15, 3, [233])
  | 221 => some (.aload_n 3, 1, [])
  | 222 => some (.iconst 0, 1, [0])
  | 223 => some (.laload, 1, [])
  | 224 => some (.iload 6, 2, [])
  | 226 => some (.i2l, 1, [])
  | 227 => some (.lcmp, 1, [])
  | 228 => some (.ifCond .eq 5, 3, [233])
  | 231 => some (.iconst 0, 1, [0])
  | 232 => some (.ireturn, 1, [1])
  | 233 => some (.goto 1642, 3, [1875])
  | 236 => some (.aload_n 1, 1, [])
  | 237 => some (.aload_n 0, 1, [])
  | 238 => some (.iload 4, 2, [])
  | 240 => some (.iconst 1, 1, [1])
  | 241 => some (.iadd, 1, [])
  | 242 => some (.iaload, 1, [])
  | 243 => some (.aload_n 0, 1, [])
  | 244 => some (.iload 4, 2, [])
  | 246 => some (.iconst 2, 1, [2])
  | 247 => some (.iadd, 1, [])
  | 248 => some (.iaload, 1, [])
  | 249 => some (.aload_n 0, 1, [])
  | 250 => some (.iload 4, 2, [])
  | 252 => some (.iconst 3, 1, [3])
  | 253 => some (.iadd, 1, [])
  | 254 => some (.iaload, 1, [])
  | 255 => some (.aload_n 0, 1, [])
  | 256 => some (.iload 4, 2, [])
  | 258 => some (.iconst 4, 1, [4])
  | 259 => some (.iadd, 1, [])
  | 260 => some (.iaload, 1, [])
  | 261 => some (.aload_n 0, 1, [])
  | 262 => some (.iload 4, 2, [])
  | 264 => some (.iconst 5, 1, [5])
  | 265 => some (.iadd, 1, [])
  | 266 => some (.iaload, 1, [])
  | _ => none
def dec226_2 (pc : Nat) : Option (ClassFile.Instr × Nat × List Nat) := match pc with
  | 267 => some (.aload_n 0, 1, [])
  | 268 => some (.iload 4, 2, [])
  | 270 => some (.bipush 6, 2, [6])
  | 272 => some (.iadd, 1, [])
  | 273 => some (.iaload, 1, [])
  | 274 => some (.ifCond .eq 7, 3, [281])
  | 277 => some (.iconst 1, 1, [1])
  | 278 => some (.goto 4, 3, [282])
  | 281 => some (.iconst 0, 1, [0])
  | 282 => some (.aload_n 3, 1, [])
  | 283 => some (.invokestatic 105, 3, [2, 89, 0, 14, 0, 720, 2, 0, 0, 0, 0, 0, 0, 2])
  | 286 => some (.istore 5, 2, [])
  | 288 => some (.aload_n 2, 1, [])
  | 289 => some (.aload_n 0, 1, [])
  | 290 => some (.iload 4, 2, [])
  | 292 => some (.iconst 1, 1, [1])
  | 293 => some (.iadd, 1, [])
  | 294 => some (.iaload, 1, [])
  | 295 => some (.aload_n 0, 1, [])
  | 296 => some (.iload 4, 2, [])
  | 298 => some (.iconst 2, 1, [2])
  | 299 => some (.iadd, 1, [])
  | 300 => some (.iaload, 1, [])
  | 301 => some (.aload_n 0, 1, [])
  | 302 => some (.iload 4, 2, [])
  | 304 => some (.iconst 3, 1, [3])
  | 305 => some (.iadd, 1, [])
  | 306 => some (.iaload, 1, [])
  | 307 => some (.aload_n 0, 1, [])
  | 308 => some (.iload 4, 2, [])
  | 310 => some (.iconst 4, 1, [4])
  | 311 => some (.iadd, 1, [])
  | 312 => some (.iaload, 1, [])
  | 313 => some (.aload_n 0, 1, [])
  | 314 => some (.iload 4, 2, [])
  | 316 => some (.iconst 5, 1, [5])
  | 317 => some (.iadd, 1, [])
  | 318 => some (.iaload, 1, [])
  | 319 => some (.aload_n 0, 1, [])
  | 320 => some (.iload 4, 2, [])
  | 322 => some (.bipush 6, 2, [6])
  | 324 => some (.iadd, 1, [])
  | 325 => some (.iaload, 1, [])
  | 326 => some (.ifCond .eq 7, 3, [333])
  | 329 => some (.iconst 1, 1, [1])
  | 330 => some (.goto 4, 3, [334])
  | 333 => some (.iconst 0, 1, [0])
  | 334 => some (.invokevirtual 108, 3, [2, 158, 2, 10, 0, 1099, 0, 0, 0, 0, 0, 0])
  | _ => none
def dec226_3 (pc : Nat) : Option (ClassFile.Instr × Nat × List Nat) := match pc with
  | 337 => some (.istore 6, 2, [])
  | 339 => some (.aload_n 2, 1, [])
  | 340 => some (.invokevirtual 102, 3, [2, 151, 2, 10, 0, 1073])
  | 343 => some (.iload 5, 2, [])
  | 345 => some (.if_icmp .eq 5, 3, [350])
  | 348 => some (.iconst 0, 1, [0])
  | 349 => some (.ireturn, 1, [1])
  | 350 => some (.iload 5, 2, [])
  | 352 => some (.ifCond .ne 15, 3, [367])
  | 355 => some (.aload_n 3, 1, [])
  | 356 => some (.iconst 0, 1, [0])
  | 357 => some (.laload, 1, [])
  | 358 => some (.iload 6, 2, [])
  | 360 => some (.i2l, 1, [])
  | 361 => some (.lcmp, 1, [])
  | 362 => some (.ifCond .eq 5, 3, [367])
  | 365 => some (.iconst 0, 1, [0])
  | 366 => some (.ireturn, 1, [1])
  | 367 => some (.goto 1508, 3, [1875])
  | 370 => some (.aload_n 1, 1, [])
  | 371 => some (.aload_n 0, 1, [])
  | 372 => some (.iload 4, 2, [])
  | 374 => some (.iconst 1, 1, [1])
  | 375 => some (.iadd, 1, [])
  | 376 => some (.iaload, 1, [])
  | 377 => some (.aload_n 0, 1, [])
  | 378 => some (.iload 4, 2, [])
  | 380 => some (.iconst 2, 1, [2])
  | 381 => some (.iadd, 1, [])
  | 382 => some (.iaload, 1, [])
  | 383 => some (.aload_n 3, 1, [])
  | 384 => some (.invokestatic 109, 3, [2, 91, 0, 14, 0, 748, 2, 0, 0, 2])
  | 387 => some (.istore 5, 2, [])
  | 389 => some (.aload_n 2, 1, [])
  | 390 => some (.aload_n 0, 1, [])
  | 391 => some (.iload 4, 2, [])
  | 393 => some (.iconst 1, 1, [1])
  | 394 => some (.iadd, 1, [])
  | 395 => some (.iaload, 1, [])
  | 396 => some (.aload_n 0, 1, [])
  | 397 => some (.iload 4, 2, [])
  | 399 => some (.iconst 2, 1, [2])
  | 400 => some (.iadd, 1, [])
  | 401 => some (.iaload, 1, [])
  | 402 => some (.invokevirtual 111, 3, [2, 164, 2, 10, 0, 1119, 0, 0])
  | 405 => some (.istore 6, 2, [])
  | 407 => some (.aload_n 2, 1, [])
  | 408 => some (.invokevirtual 102, 3, [2, 151, 2, 10, 0, 1073])
  | _ => none
def dec226_4 (pc : Nat) : Option (ClassFile.Instr × Nat × List Nat) := match pc with
  | 411 => some (.iload 5, 2, [])
  | 413 => some (.if_icmp .eq 5, 3, [418])
  | 416 => some (.iconst 0, 1, [0])
  | 417 => some (.ireturn, 1, [1])
  | 418 => some (.iload 5, 2, [])
  | 420 => some (.ifCond .ne 15, 3, [435])
  | 423 => some (.aload_n 3, 1, [])
  | 424 => some (.iconst 0, 1, [0])
  | 425 => some (.laload, 1, [])
  | 426 => some (.iload 6, 2, [])
  | 428 => some (.i2l, 1, [])
  | 429 => some (.lcmp, 1, [])
  | 430 => some (.ifCond .eq 5, 3, [435])
  | 433 => some (.iconst 0, 1, [0])
  | 434 => some (.ireturn, 1, [1])
  | 435 => some (.goto 1440, 3, [1875])
  | 438 => some (.aload_n 1, 1, [])
  | 439 => some (.aload_n 0, 1, [])
  | 440 => some (.iload 4, 2, [])
  | 442 => some (.iconst 1, 1, [1])
  | 443 => some (.iadd, 1, [])
  | 444 => some (.iaload, 1, [])
  | 445 => some (.aload_n 0, 1, [])
  | 446 => some (.iload 4, 2, [])
  | 448 => some (.iconst 2, 1, [2])
  | 449 => some (.iadd, 1, [])
  | 450 => some (.iaload, 1, [])
  | 451 => some (.aload_n 0, 1, [])
  | 452 => some (.iload 4, 2, [])
  | 454 => some (.iconst 3, 1, [3])
  | 455 => some (.iadd, 1, [])
  | 456 => some (.iaload, 1, [])
  | 457 => some (.aload_n 3, 1, [])
  | 458 => some (.invokestatic 112, 3, [2, 96, 0, 14, 0, 768, 2, 0, 0, 0, 2])
  | 461 => some (.istore 5, 2, [])
  | 463 => some (.aload_n 2, 1, [])
  | 464 => some (.aload_n 0, 1, [])
  | 465 => some (.iload 4, 2, [])
  | 467 => some (.iconst 1, 1, [1])
  | 468 => some (.iadd, 1, [])
  | 469 => some (.iaload, 1, [])
  | 470 => some (.aload_n 0, 1, [])
  | 471 => some (.iload 4, 2, [])
  | 473 => some (.iconst 2, 1, [2])
  | 474 => some (.iadd, 1, [])
  | 475 => some (.iaload, 1, [])
  | 476 => some (.aload_n 0, 1, [])
  | 477 => some (.iload 4, 2, [])
  | _ => none
def dec226_5 (pc : Nat) : Option (ClassFile.Instr × Nat × List Nat) := match pc with
  | 479 => some (.iconst 3, 1, [3])
  | 480 => some (.iadd, 1, [])
  | 481 => some (.iaload, 1, [])
  | 482 => some (.invokevirtual 115, 3, [2, 166, 2, 10, 0, 1127, 0, 0, 0])
  | 485 => some (.istore 6, 2, [])
  | 487 => some (.aload_n 2, 1, [])
  | 488 => some (.invokevirtual 102, 3, [2, 151, 2, 10, 0, 1073])
  | 491 => some (.iload 5, 2, [])
  | 493 => some (.if_icmp .eq 5, 3, [498])
  | 496 => some (.iconst 0, 1, [0])
  | 497 => some (.ireturn, 1, [1])
  | 498 => some (.iload 5, 2, [])
  | 500 => some (.ifCond .ne 15, 3, [515])
  | 503 => some (.aload_n 3, 1, [])
  | 504 => some (.iconst 0, 1, [0])
  | 505 => some (.laload, 1, [])
  | 506 => some (.iload 6, 2, [])
  | 508 => some (.i2l, 1, [])
  | 509 => some (.lcmp, 1, [])
  | 510 => some (.ifCond .eq 5, 3, [515])
  | 513 => some (.iconst 0, 1, [0])
  | 514 => some (.ireturn, 1, [1])
  | 515 => some (.goto 1360, 3, [1875])
  | 518 => some (.aload_n 1, 1, [])
  | 519 => some (.invokevirtual 116, 3, [2, 10, 2, 9, 0, 299])
  | 522 => some (.aload_n 2, 1, [])
  | 523 => some (.invokevirtual 119, 3, [2, 168, 2, 10, 0, 1135])
  | 526 => some (.if_icmp .eq 1349, 3, [1875])
  | 529 => some (.iconst 0, 1, [0])
  | 530 => some (.ireturn, 1, [1])
  | 531 => some (.aload_n 1, 1, [])
  | 532 => some (.aload_n 0, 1, [])
  | 533 => some (.iload 4, 2, [])
  | 535 => some (.iconst 1, 1, [1])
  | 536 => some (.iadd, 1, [])
  | 537 => some (.iaload, 1, [])
  | 538 => some (.aload_n 0, 1, [])
  | 539 => some (.iload 4, 2, [])
  | 541 => some (.iconst 2, 1, [2])
  | 542 => some (.iadd, 1, [])
  | 543 => some (.iaload, 1, [])
  | 544 => some (.aload_n 0, 1, [])
  | 545 => some (.iload 4, 2, [])
  | 547 => some (.iconst 3, 1, [3])
  | 548 => some (.iadd, 1, [])
  | 549 => some (.iaload, 1, [])
  | 550 => some (.aload_n 3, 1, [])
  | 551 => some (.invokestatic 120, 3, [2, 98, 0, 14, 0, 775, 2, 0, 0, 0, 2])
  | _ => none
def dec226_6 (pc : Nat) : Option (ClassFile.Instr × Nat × List Nat) := match pc with
  | 554 => some (.istore 5, 2, [])
  | 556 => some (.aload_n 2, 1, [])
  | 557 => some (.aload_n 0, 1, [])
  | 558 => some (.iload 4, 2, [])
  | 560 => some (.iconst 1, 1, [1])
  | 561 => some (.iadd, 1, [])
  | 562 => some (.iaload, 1, [])
  | 563 => some (.aload_n 0, 1, [])
  | 564 => some (.iload 4, 2, [])
  | 566 => some (.iconst 2, 1, [2])
  | 567 => some (.iadd, 1, [])
  | 568 => some (.iaload, 1, [])
  | 569 => some (.aload_n 0, 1, [])
  | 570 => some (.iload 4, 2, [])
  | 572 => some (.iconst 3, 1, [3])
  | 573 => some (.iadd, 1, [])
  | 574 => some (.iaload, 1, [])
  | 575 => some (.invokevirtual 122, 3, [2, 170, 2, 10, 0, 1143, 0, 0, 0])
  | 578 => some (.istore 6, 2, [])
  | 580 => some (.aload_n 2, 1, [])
  | 581 => some (.invokevirtual 102, 3, [2, 151, 2, 10, 0, 1073])
  | 584 => some (.iload 5, 2, [])
  | 586 => some (.if_icmp .eq 5, 3, [591])
  | 589 => some (.iconst 0, 1, [0])
  | 590 => some (.ireturn, 1, [1])
  | 591 => some (.iload 5, 2, [])
  | 593 => some (.ifCond .ne 15, 3, [608])
  | 596 => some (.aload_n 3, 1, [])
  | 597 => some (.iconst 0, 1, [0])
  | 598 => some (.laload, 1, [])
  | 599 => some (.iload 6, 2, [])
  | 601 => some (.i2l, 1, [])
  | 602 => some (.lcmp, 1, [])
  | 603 => some (.ifCond .eq 5, 3, [608])
  | 606 => some (.iconst 0, 1, [0])
  | 607 => some (.ireturn, 1, [1])
  | 608 => some (.goto 1267, 3, [1875])
  | 611 => some (.aload_n 1, 1, [])
  | 612 => some (.aload_n 0, 1, [])
  | 613 => some (.iload 4, 2, [])
  | 615 => some (.iconst 1, 1, [1])
  | 616 => some (.iadd, 1, [])
  | 617 => some (.iaload, 1, [])
  | 618 => some (.aload_n 0, 1, [])
  | 619 => some (.iload 4, 2, [])
  | 621 => some (.iconst 2, 1, [2])
  | 622 => some (.iadd, 1, [])
  | 623 => some (.iaload, 1, [])
  | _ => none
def dec226_7 (pc : Nat) : Option (ClassFile.Instr × Nat × List Nat) := match pc with
  | 624 => some (.aload_n 3, 1, [])
  | 625 => some (.invokestatic 123, 3, [2, 100, 0, 14, 0, 782, 2, 0, 0, 2])
  | 628 => some (.istore 5, 2, [])
  | 630 => some (.aload_n 2, 1, [])
  | 631 => some (.aload_n 0, 1, [])
  | 632 => some (.iload 4, 2, [])
  | 634 => some (.iconst 1, 1, [1])
  | 635 => some (.iadd, 1, [])
  | 636 => some (.iaload, 1, [])
  | 637 => some (.aload_n 0, 1, [])
  | 638 => some (.iload 4, 2, [])
  | 640 => some (.iconst 2, 1, [2])
  | 641 => some (.iadd, 1, [])
  | 642 => some (.iaload, 1, [])
  | 643 => some (.invokevirtual 125, 3, [2, 178, 2, 10, 0, 1174, 0, 0])
  | 646 => some (.istore 6, 2, [])
  | 648 => some (.aload_n 2, 1, [])
  | 649 => some (.invokevirtual 102, 3, [2, 151, 2, 10, 0, 1073])
  | 652 => some (.iload 5, 2, [])
  | 654 => some (.if_icmp .eq 5, 3, [659])
  | 657 => some (.iconst 0, 1, [0])
  | 658 => some (.ireturn, 1, [1])
  | 659 => some (.iload 5, 2, [])
  | 661 => some (.ifCond .ne 15, 3, [676])
  | 664 => some (.aload_n 3, 1, [])
  | 665 => some (.iconst 0, 1, [0])
  | 666 => some (.laload, 1, [])
  | 667 => some (.iload 6, 2, [])
  | 669 => some (.i2l, 1, [])
  | 670 => some (.lcmp, 1, [])
  | 671 => some (.ifCond .eq 5, 3, [676])
  | 674 => some (.iconst 0, 1, [0])
  | 675 => some (.ireturn, 1, [1])
  | 676 => some (.goto 1199, 3, [1875])
  | 679 => some (.aload_n 1, 1, [])
  | 680 => some (.aload_n 0, 1, [])
  | 681 => some (.iload 4, 2, [])
  | 683 => some (.iconst 1, 1, [1])
  | 684 => some (.iadd, 1, [])
  | 685 => some (.iaload, 1, [])
  | 686 => some (.aload_n 0, 1, [])
  | 687 => some (.iload 4, 2, [])
  | 689 => some (.iconst 2, 1, [2])
  | 690 => some (.iadd, 1, [])
  | 691 => some (.iaload, 1, [])
  | 692 => some (.aload_n 3, 1, [])
  | 693 => some (.invokestatic 126, 3, [2, 102, 0, 14, 0, 789, 2, 0, 0, 2])
  | 696 => some (.istore 5, 2, [])
  | _ => none
def dec226_8 (pc : Nat) : Option (ClassFile.Instr × Nat × List Nat) := match pc with
  | 698 => some (.aload_n 2, 1, [])
  | 699 => some (.aload_n 0, 1, [])
  | 700 => some (.iload 4, 2, [])
  | 702 => some (.iconst 1, 1, [1])
  | 703 => some (.iadd, 1, [])
  | 704 => some (.iaload, 1, [])
  | 705 => some (.aload_n 0, 1, [])
  | 706 => some (.iload 4, 2, [])
  | 708 => some (.iconst 2, 1, [2])
  | 709 => some (.iadd, 1, [])
  | 710 => some (.iaload, 1, [])
  | 711 => some (.invokevirtual 128, 3, [2, 181, 2, 10, 0, 1186, 0, 0])
  | 714 => some (.istore 6, 2, [])
  | 716 => some (.aload_n 2, 1, [])
  | 717 => some (.invokevirtual 102, 3, [2, 151, 2, 10, 0, 1073])
  | 720 => some (.iload 5, 2, [])
  | 722 => some (.if_icmp .eq 5, 3, [727])
  | 725 => some (.iconst 0, 1, [0])
  | 726 => some (.ireturn, 1, [1])
  | 727 => some (.iload 5, 2, [])
  | 729 => some (.ifCond .ne 15, 3, [744])
  | 732 => some (.aload_n 3, 1, [])
  | 733 => some (.iconst 0, 1, [0])
  | 734 => some (.laload, 1, [])
  | 735 => some (.iload 6, 2, [])
  | 737 => some (.i2l, 1, [])
  | 738 => some (.lcmp, 1, [])
  | 739 => some (.ifCond .eq 5, 3, [744])
  | 742 => some (.iconst 0, 1, [0])
  | 743 => some (.ireturn, 1, [1])
  | 744 => some (.goto 1131, 3, [1875])
  | 747 => some (.aload_n 1, 1, [])
  | 748 => some (.aload_n 0, 1, [])
  | 749 => some (.iload 4, 2, [])
  | 751 => some (.iconst 1, 1, [1])
  | 752 => some (.iadd, 1, [])
  | 753 => some (.iaload, 1, [])
  | 754 => some (.aload_n 0, 1, [])
  | 755 => some (.iload 4, 2, [])
  | 757 => some (.iconst 2, 1, [2])
  | 758 => some (.iadd, 1, [])
  | 759 => some (.iaload, 1, [])
  | 760 => some (.aload_n 3, 1, [])
  | 761 => some (.invokestatic 129, 3, [2, 105, 0, 14, 0, 800, 2, 0, 0, 2])
  | 764 => some (.istore 5, 2, [])
  | 766 => some (.aload_n 2, 1, [])
  | 767 => some (.aload_n 0, 1, [])
  | 768 => some (.iload 4, 2, [])
  | _ => none
def dec226_9 (pc : Nat) : Option (ClassFile.Instr × Nat × List Nat) := match pc with
  | 770 => some (.iconst 1, 1, [1])
  | 771 => some (.iadd, 1, [])
  | 772 => some (.iaload, 1, [])
  | 773 => some (.aload_n 0, 1, [])
  | 774 => some (.iload 4, 2, [])
  | 776 => some (.iconst 2, 1, [2])
  | 777 => some (.iadd, 1, [])
  | 778 => some (.iaload, 1, [])
  | 779 => some (.invokevirtual 131, 3, [2, 184, 2, 10, 0, 1197, 0, 0])
  | 782 => some (.istore 6, 2, [])
  | 784 => some (.aload_n 2, 1, [])
  | 785 => some (.invokevirtual 102, 3, [2, 151, 2, 10, 0, 1073])
  | 788 => some (.iload 5, 2, [])
  | 790 => some (.if_icmp .eq 5, 3, [795])
  | 793 => some (.iconst 0, 1, [0])
  | 794 => some (.ireturn, 1, [1])
  | 795 => some (.iload 5, 2, [])
  | 797 => some (.ifCond .ne 15, 3, [812])
  | 800 => some (.aload_n 3, 1, [])
  | 801 => some (.iconst 0, 1, [0])
  | 802 => some (.laload, 1, [])
  | 803 => some (.iload 6, 2, [])
  | 805 => some (.i2l, 1, [])
  | 806 => some (.lcmp, 1, [])
  | 807 => some (.ifCond .eq 5, 3, [812])
  | 810 => some (.iconst 0, 1, [0])
  | 811 => some (.ireturn, 1, [1])
  | 812 => some (.goto 1063, 3, [1875])
  | 815 => some (.aload_n 1, 1, [])
  | 816 => some (.aload_n 0, 1, [])
  | 817 => some (.iload 4, 2, [])
  | 819 => some (.iconst 1, 1, [1])
  | 820 => some (.iadd, 1, [])
  | 821 => some (.iaload, 1, [])
  | 822 => some (.aload_n 0, 1, [])
  | 823 => some (.iload 4, 2, [])
  | 825 => some (.iconst 2, 1, [2])
  | 826 => some (.iadd, 1, [])
  | 827 => some (.iaload, 1, [])
  | 828 => some (.aload_n 3, 1, [])
  | 829 => some (.invokestatic 132, 3, [2, 107, 0, 14, 0, 807, 2, 0, 0, 2])
  | 832 => some (.istore 5, 2, [])
  | 834 => some (.aload_n 2, 1, [])
  | 835 => some (.aload_n 0, 1, [])
  | 836 => some (.iload 4, 2, [])
  | 838 => some (.iconst 1, 1, [1])
  | 839 => some (.iadd, 1, [])
  | 840 => some (.iaload, 1, [])
  | _ => none
def dec226_10 (pc : Nat) : Option (ClassFile.Instr × Nat × List Nat) := match pc with
  | 841 => some (.aload_n 0, 1, [])
  | 842 => some (.iload 4, 2, [])
  | 844 => some (.iconst 2, 1, [2])
  | 845 => some (.iadd, 1, [])
  | 846 => some (.iaload, 1, [])
  | 847 => some (.invokevirtual 134, 3, [2, 185, 2, 10, 0, 1201, 0, 0])
  | 850 => some (.istore 6, 2, [])
  | 852 => some (.aload_n 2, 1, [])
  | 853 => some (.invokevirtual 102, 3, [2, 151, 2, 10, 0, 1073])
  | 856 => some (.iload 5, 2, [])
  | 858 => some (.if_icmp .eq 5, 3, [863])
  | 861 => some (.iconst 0, 1, [0])
  | 862 => some (.ireturn, 1, [1])
  | 863 => some (.iload 5, 2, [])
  | 865 => some (.ifCond .ne 15, 3, [880])
  | 868 => some (.aload_n 3, 1, [])
  | 869 => some (.iconst 0, 1, [0])
  | 870 => some (.laload, 1, [])
  | 871 => some (.iload 6, 2, [])
  | 873 => some (.i2l, 1, [])
  | 874 => some (.lcmp, 1, [])
  | 875 => some (.ifCond .eq 5, 3, [880])
  | 878 => some (.iconst 0, 1, [0])
  | 879 => some (.ireturn, 1, [1])
  | 880 => some (.goto 995, 3, [1875])
  | 883 => some (.aload_n 1, 1, [])
  | 884 => some (.aload_n 0, 1, [])
  | 885 => some (.iload 4, 2, [])
  | 887 => some (.iconst 1, 1, [1])
  | 888 => some (.iadd, 1, [])
  | 889 => some (.iaload, 1, [])
  | 890 => some (.aload_n 0, 1, [])
  | 891 => some (.iload 4, 2, [])
  | 893 => some (.iconst 2, 1, [2])
  | 894 => some (.iadd, 1, [])
  | 895 => some (.iaload, 1, [])
  | 896 => some (.ifCond .eq 7, 3, [903])
  | 899 => some (.iconst 1, 1, [1])
  | 900 => some (.goto 4, 3, [904])
  | 903 => some (.iconst 0, 1, [0])
  | 904 => some (.aload_n 3, 1, [])
  | 905 => some (.invokestatic 135, 3, [2, 109, 0, 14, 0, 815, 2, 0, 0, 2])
  | 908 => some (.istore 5, 2, [])
  | 910 => some (.aload_n 2, 1, [])
  | 911 => some (.aload_n 0, 1, [])
  | 912 => some (.iload 4, 2, [])
  | 914 => some (.iconst 1, 1, [1])
  | 915 => some (.iadd, 1, [])
  | _ => none
def dec226_11 (pc : Nat) : Option (ClassFile.Instr × Nat × List Nat) := match pc with
  | 916 => some (.iaload, 1, [])
  | 917 => some (.aload_n 0, 1, [])
  | 918 => some (.iload 4, 2, [])
  | 920 => some (.iconst 2, 1, [2])
  | 921 => some (.iadd, 1, [])
  | 922 => some (.iaload, 1, [])
  | 923 => some (.ifCond .eq 7, 3, [930])
  | 926 => some (.iconst 1, 1, [1])
  | 927 => some (.goto 4, 3, [931])
  | 930 => some (.iconst 0, 1, [0])
  | 931 => some (.invokevirtual 138, 3, [2, 186, 2, 10, 0, 1206, 0, 0])
  | 934 => some (.istore 6, 2, [])
  | 936 => some (.aload_n 2, 1, [])
  | 937 => some (.invokevirtual 102, 3, [2, 151, 2, 10, 0, 1073])
  | 940 => some (.iload 5, 2, [])
  | 942 => some (.if_icmp .eq 5, 3, [947])
  | 945 => some (.iconst 0, 1, [0])
  | 946 => some (.ireturn, 1, [1])
  | 947 => some (.iload 5, 2, [])
  | 949 => some (.ifCond .ne 15, 3, [964])
  | 952 => some (.aload_n 3, 1, [])
  | 953 => some (.iconst 0, 1, [0])
  | 954 => some (.laload, 1, [])
  | 955 => some (.iload 6, 2, [])
  | 957 => some (.i2l, 1, [])
  | 958 => some (.lcmp, 1, [])
  | 959 => some (.ifCond .eq 5, 3, [964])
  | 962 => some (.iconst 0, 1, [0])
  | 963 => some (.ireturn, 1, [1])
  | 964 => some (.goto 911, 3, [1875])
  | 967 => some (.aload_n 1, 1, [])
  | 968 => some (.aload_n 0, 1, [])
  | 969 => some (.iload 4, 2, [])
  | 971 => some (.iconst 1, 1, [1])
  | 972 => some (.iadd, 1, [])
  | 973 => some (.iaload, 1, [])
  | 974 => some (.aload_n 3, 1, [])
  | 975 => some (.invokestatic 139, 3, [2, 111, 0, 14, 0, 822, 2, 0, 2])
  | 978 => some (.istore 5, 2, [])
  | 980 => some (.aload_n 2, 1, [])
  | 981 => some (.aload_n 0, 1, [])
  | 982 => some (.iload 4, 2, [])
  | 984 => some (.iconst 1, 1, [1])
  | 985 => some (.iadd, 1, [])
  | 986 => some (.iaload, 1, [])
  | 987 => some (.invokevirtual 142, 3, [2, 187, 2, 10, 0, 1210, 0])
  | 990 => some (.istore 6, 2, [])
  | 992 => some (.aload_n 2, 1, [])
  | _ => none
def dec226_12 (pc : Nat) : Option (ClassFile.Instr × Nat × List Nat) := match pc with
  | 993 => some (.invokevirtual 102, 3, [2, 151, 2, 10, 0, 1073])
  | 996 => some (.iload 5, 2, [])
  | 998 => some (.if_icmp .eq 5, 3, [1003])
  | 1001 => some (.iconst 0, 1, [0])
  | 1002 => some (.ireturn, 1, [1])
  | 1003 => some (.iload 5, 2, [])
  | 1005 => some (.ifCond .ne 15, 3, [1020])
  | 1008 => some (.aload_n 3, 1, [])
  | 1009 => some (.iconst 0, 1, [0])
  | 1010 => some (.laload, 1, [])
  | 1011 => some (.iload 6, 2, [])
  | 1013 => some (.i2l, 1, [])
  | 1014 => some (.lcmp, 1, [])
  | 1015 => some (.ifCond .eq 5, 3, [1020])
  | 1018 => some (.iconst 0, 1, [0])
  | 1019 => some (.ireturn, 1, [1])
  | 1020 => some (.goto 855, 3, [1875])
  | 1023 => some (.aload_n 1, 1, [])
  | 1024 => some (.aload_n 0, 1, [])
  | 1025 => some (.iload 4, 2, [])
  | 1027 => some (.iconst 1, 1, [1])
  | 1028 => some (.iadd, 1, [])
  | 1029 => some (.iaload, 1, [])
  | 1030 => some (.aload_n 3, 1, [])
  | 1031 => some (.invokestatic 143, 3, [2, 113, 0, 14, 0, 829, 2, 0, 2])
  | 1034 => some (.istore 5, 2, [])
  | 1036 => some (.aload_n 2, 1, [])
  | 1037 => some (.aload_n 0, 1, [])
  | 1038 => some (.iload 4, 2, [])
  | 1040 => some (.iconst 1, 1, [1])
  | 1041 => some (.iadd, 1, [])
  | 1042 => some (.iaload, 1, [])
  | 1043 => some (.invokevirtual 145, 3, [2, 190, 2, 10, 0, 1222, 0])
  | 1046 => some (.istore 6, 2, [])
  | 1048 => some (.aload_n 2, 1, [])
  | 1049 => some (.invokevirtual 102, 3, [2, 151, 2, 10, 0, 1073])
  | 1052 => some (.iload 5, 2, [])
  | 1054 => some (.if_icmp .eq 5, 3, [1059])
  | 1057 => some (.iconst 0, 1, [0])
  | 1058 => some (.ireturn, 1, [1])
  | 1059 => some (.iload 5, 2, [])
  | 1061 => some (.ifCond .ne 15, 3, [1076])
  | 1064 => some (.aload_n 3, 1, [])
  | 1065 => some (.iconst 0, 1, [0])
  | 1066 => some (.laload, 1, [])
  | 1067 => some (.iload 6, 2, [])
  | 1069 => some (.i2l, 1, [])
  | 1070 => some (.lcmp, 1, [])
  | _ => none
def dec226_13 (pc : Nat) : Option (ClassFile.Instr × Nat × List Nat) := match pc with
  | 1071 => some (.ifCond .eq 5, 3, [1076])
  | 1074 => some (.iconst 0, 1, [0])
  | 1075 => some (.ireturn, 1, [1])
  | 1076 => some (.goto 799, 3, [1875])
  | 1079 => some (.aload_n 1, 1, [])
  | 1080 => some (.aload_n 0, 1, [])
  | 1081 => some (.iload 4, 2, [])
  | 1083 => some (.iconst 1, 1, [1])
  | 1084 => some (.iadd, 1, [])
  | 1085 => some (.iaload, 1, [])
  | 1086 => some (.aload_n 0, 1, [])
  | 1087 => some (.iload 4, 2, [])
  | 1089 => some (.iconst 2, 1, [2])
  | 1090 => some (.iadd, 1, [])
  | 1091 => some (.iaload, 1, [])
  | 1092 => some (.aload_n 3, 1, [])
  | 1093 => some (.invokestatic 146, 3, [2, 123, 0, 14, 0, 887, 2, 0, 0, 2])
  | 1096 => some (.istore 5, 2, [])
  | 1098 => some (.aload_n 2, 1, [])
  | 1099 => some (.aload_n 0, 1, [])
  | 1100 => some (.iload 4, 2, [])
  | 1102 => some (.iconst 1, 1, [1])
  | 1103 => some (.iadd, 1, [])
  | 1104 => some (.iaload, 1, [])
  | 1105 => some (.aload_n 0, 1, [])
  | 1106 => some (.iload 4, 2, [])
  | 1108 => some (.iconst 2, 1, [2])
  | 1109 => some (.iadd, 1, [])
  | 1110 => some (.iaload, 1, [])
  | 1111 => some (.invokevirtual 148, 3, [2, 196, 2, 10, 0, 1250, 0, 0])
  | 1114 => some (.istore 6, 2, [])
  | 1116 => some (.aload_n 2, 1, [])
  | 1117 => some (.invokevirtual 102, 3, [2, 151, 2, 10, 0, 1073])
  | 1120 => some (.iload 5, 2, [])
  | 1122 => some (.if_icmp .eq 5, 3, [1127])
  | 1125 => some (.iconst 0, 1, [0])
  | 1126 => some (.ireturn, 1, [1])
  | 1127 => some (.iload 5, 2, [])
  | 1129 => some (.ifCond .ne 15, 3, [1144])
  | 1132 => some (.aload_n 3, 1, [])
  | 1133 => some (.iconst 0, 1, [0])
  | 1134 => some (.laload, 1, [])
  | 1135 => some (.iload 6, 2, [])
  | 1137 => some (.i2l, 1, [])
  | 1138 => some (.lcmp, 1, [])
  | 1139 => some (.ifCond .eq 5, 3, [1144])
  | 1142 => some (.iconst 0, 1, [0])
  | 1143 => some (.ireturn, 1, [1])
  | _ => none
def dec226_14 (pc : Nat) : Option (ClassFile.Instr × Nat × List Nat) := match pc with
  | 1144 => some (.goto 731, 3, [1875])
  | 1147 => some (.aload_n 1, 1, [])
  | 1148 => some (.aload_n 0, 1, [])
  | 1149 => some (.iload 4, 2, [])
  | 1151 => some (.iconst 1, 1, [1])
  | 1152 => some (.iadd, 1, [])
  | 1153 => some (.iaload, 1, [])
  | 1154 => some (.aload_n 0, 1, [])
  | 1155 => some (.iload 4, 2, [])
  | 1157 => some (.iconst 2, 1, [2])
  | 1158 => some (.iadd, 1, [])
  | 1159 => some (.iaload, 1, [])
  | 1160 => some (.aload_n 3, 1, [])
  | 1161 => some (.invokestatic 149, 3, [2, 125, 0, 14, 0, 894, 2, 0, 0, 2])
  | 1164 => some (.istore 5, 2, [])
  | 1166 => some (.aload_n 2, 1, [])
  | 1167 => some (.aload_n 0, 1, [])
  | 1168 => some (.iload 4, 2, [])
  | 1170 => some (.iconst 1, 1, [1])
  | 1171 => some (.iadd, 1, [])
  | 1172 => some (.iaload, 1, [])
  | 1173 => some (.aload_n 0, 1, [])
  | 1174 => some (.iload 4, 2, [])
  | 1176 => some (.iconst 2, 1, [2])
  | 1177 => some (.iadd, 1, [])
  | 1178 => some (.iaload, 1, [])
  | 1179 => some (.invokevirtual 151, 3, [2, 197, 2, 10, 0, 1254, 0, 0])
  | 1182 => some (.istore 6, 2, [])
  | 1184 => some (.aload_n 2, 1, [])
  | 1185 => some (.invokevirtual 102, 3, [2, 151, 2, 10, 0, 1073])
  | 1188 => some (.iload 5, 2, [])
  | 1190 => some (.if_icmp .eq 5, 3, [1195])
  | 1193 => some (.iconst 0, 1, [0])
  | 1194 => some (.ireturn, 1, [1])
  | 1195 => some (.iload 5, 2, [])
  | 1197 => some (.ifCond .ne 15, 3, [1212])
  | 1200 => some (.aload_n 3, 1, [])
  | 1201 => some (.iconst 0, 1, [0])
  | 1202 => some (.laload, 1, [])
  | 1203 => some (.iload 6, 2, [])
  | 1205 => some (.i2l, 1, [])
  | 1206 => some (.lcmp, 1, [])
  | 1207 => some (.ifCond .eq 5, 3, [1212])
  | 1210 => some (.iconst 0, 1, [0])
  | 1211 => some (.ireturn, 1, [1])
  | 1212 => some (.goto 663, 3, [1875])
  | 1215 => some (.aload_n 1, 1, [])
  | 1216 => some (.aload_n 0, 1, [])
  | _ => none
def dec226_15 (pc : Nat) : Option (ClassFile.Instr × Nat × List Nat) := match pc with
  | 1217 => some (.iload 4, 2, [])
  | 1219 => some (.iconst 1, 1, [1])
  | 1220 => some (.iadd, 1, [])
  | 1221 => some (.iaload, 1, [])
  | 1222 => some (.aload_n 3, 1, [])
  | 1223 => some (.invokestatic 152, 3, [2, 127, 0, 14, 0, 902, 2, 0, 2])
  | 1226 => some (.istore 5, 2, [])
  | 1228 => some (.aload_n 2, 1, [])
  | 1229 => some (.aload_n 0, 1, [])
  | 1230 => some (.iload 4, 2, [])
  | 1232 => some (.iconst 1, 1, [1])
  | 1233 => some (.iadd, 1, [])
  | 1234 => some (.iaload, 1, [])
  | 1235 => some (.invokevirtual 154, 3, [2, 198, 2, 10, 0, 1258, 0])
  | 1238 => some (.istore 6, 2, [])
  | 1240 => some (.aload_n 2, 1, [])
  | 1241 => some (.invokevirtual 102, 3, [2, 151, 2, 10, 0, 1073])
  | 1244 => some (.iload 5, 2, [])
  | 1246 => some (.if_icmp .eq 5, 3, [1251])
  | 1249 => some (.iconst 0, 1, [0])
  | 1250 => some (.ireturn, 1, [1])
  | 1251 => some (.iload 5, 2, [])
  | 1253 => some (.ifCond .ne 15, 3, [1268])
  | 1256 => some (.aload_n 3, 1, [])
  | 1257 => some (.iconst 0, 1, [0])
  | 1258 => some (.laload, 1, [])
  | 1259 => some (.iload 6, 2, [])
  | 1261 => some (.i2l, 1, [])
  | 1262 => some (.lcmp, 1, [])
  | 1263 => some (.ifCond .eq 5, 3, [1268])
  | 1266 => some (.iconst 0, 1, [0])
  | 1267 => some (.ireturn, 1, [1])
  | 1268 => some (.goto 607, 3, [1875])
  | 1271 => some (.aload_n 1, 1, [])
  | 1272 => some (.aload_n 0, 1, [])
  | 1273 => some (.iload 4, 2, [])
  | 1275 => some (.iconst 1, 1, [1])
  | 1276 => some (.iadd, 1, [])
  | 1277 => some (.iaload, 1, [])
  | 1278 => some (.aload_n 0, 1, [])
  | 1279 => some (.iload 4, 2, [])
  | 1281 => some (.iconst 2, 1, [2])
  | 1282 => some (.iadd, 1, [])
  | 1283 => some (.iaload, 1, [])
  | 1284 => some (.aload_n 0, 1, [])
  | 1285 => some (.iload 4, 2, [])
  | 1287 => some (.iconst 3, 1, [3])
  | 1288 => some (.iadd, 1, [])
  | _ => none
def dec226_16 (pc : Nat) : Option (ClassFile.Instr × Nat × List Nat) := match pc with
  | 1289 => some (.iaload, 1, [])
  | 1290 => some (.ifCond .eq 7, 3, [1297])
  | 1293 => some (.iconst 1, 1, [1])
  | 1294 => some (.goto 4, 3, [1298])
  | 1297 => some (.iconst 0, 1, [0])
  | 1298 => some (.aload_n 3, 1, [])
  | 1299 => some (.invokestatic 155, 3, [2, 130, 0, 14, 0, 913, 2, 0, 0, 0, 2])
  | 1302 => some (.istore 5, 2, [])
  | 1304 => some (.aload_n 2, 1, [])
  | 1305 => some (.aload_n 0, 1, [])
  | 1306 => some (.iload 4, 2, [])
  | 1308 => some (.iconst 1, 1, [1])
  | 1309 => some (.iadd, 1, [])
  | 1310 => some (.iaload, 1, [])
  | 1311 => some (.aload_n 0, 1, [])
  | 1312 => some (.iload 4, 2, [])
  | 1314 => some (.iconst 2, 1, [2])
  | 1315 => some (.iadd, 1, [])
  | 1316 => some (.iaload, 1, [])
  | 1317 => some (.aload_n 0, 1, [])
  | 1318 => some (.iload 4, 2, [])
  | 1320 => some (.iconst 3, 1, [3])
  | 1321 => some (.iadd, 1, [])
  | 1322 => some (.iaload, 1, [])
  | 1323 => some (.ifCond .eq 7, 3, [1330])
  | 1326 => some (.iconst 1, 1, [1])
  | 1327 => some (.goto 4, 3, [1331])
  | 1330 => some (.iconst 0, 1, [0])
  | 1331 => some (.invokevirtual 158, 3, [2, 199, 2, 10, 0, 1262, 0, 0, 0])
  | 1334 => some (.istore 6, 2, [])
  | 1336 => some (.aload_n 2, 1, [])
  | 1337 => some (.invokevirtual 102, 3, [2, 151, 2, 10, 0, 1073])
  | 1340 => some (.iload 5, 2, [])
  | 1342 => some (.if_icmp .eq 5, 3, [1347])
  | 1345 => some (.iconst 0, 1, [0])
  | 1346 => some (.ireturn, 1, [1])
  | 1347 => some (.iload 5, 2, [])
  | 1349 => some (.ifCond .ne 15, 3, [1364])
  | 1352 => some (.aload_n 3, 1, [])
  | 1353 => some (.iconst 0, 1, [0])
  | 1354 => some (.laload, 1, [])
  | 1355 => some (.iload 6, 2, [])
  | 1357 => some (.i2l, 1, [])
  | 1358 => some (.lcmp, 1, [])
  | 1359 => some (.ifCond .eq 5, 3, [1364])
  | 1362 => some (.iconst 0, 1, [0])
  | 1363 => some (.ireturn, 1, [1])
  | 1364 => some (.goto 511, 3, [1875])
  | _ => none
def dec226_17 (pc : Nat) : Option (ClassFile.Instr × Nat × List Nat) := match pc with
  | 1367 => some (.aload_n 1, 1, [])
  | 1368 => some (.aload_n 0, 1, [])
  | 1369 => some (.iload 4, 2, [])
  | 1371 => some (.iconst 1, 1, [1])
  | 1372 => some (.iadd, 1, [])
  | 1373 => some (.iaload, 1, [])
  | 1374 => some (.aload_n 0, 1, [])
  | 1375 => some (.iload 4, 2, [])
  | 1377 => some (.iconst 2, 1, [2])
  | 1378 => some (.iadd, 1, [])
  | 1379 => some (.iaload, 1, [])
  | 1380 => some (.aload_n 3, 1, [])
  | 1381 => some (.invokestatic 159, 3, [2, 133, 0, 14, 0, 923, 2, 0, 0, 2])
  | 1384 => some (.istore 5, 2, [])
  | 1386 => some (.aload_n 2, 1, [])
  | 1387 => some (.aload_n 0, 1, [])
  | 1388 => some (.iload 4, 2, [])
  | 1390 => some (.iconst 1, 1, [1])
  | 1391 => some (.iadd, 1, [])
  | 1392 => some (.iaload, 1, [])
  | 1393 => some (.aload_n 0, 1, [])
  | 1394 => some (.iload 4, 2, [])
  | 1396 => some (.iconst 2, 1, [2])
  | 1397 => some (.iadd, 1, [])
  | 1398 => some (.iaload, 1, [])
  | 1399 => some (.invokevirtual 161, 3, [2, 200, 2, 10, 0, 1266, 0, 0])
  | 1402 => some (.istore 6, 2, [])
  | 1404 => some (.aload_n 2, 1, [])
  | 1405 => some (.invokevirtual 102, 3, [2, 151, 2, 10, 0, 1073])
  | 1408 => some (.iload 5, 2, [])
  | 1410 => some (.if_icmp .eq 5, 3, [1415])
  | 1413 => some (.iconst 0, 1, [0])
  | 1414 => some (.ireturn, 1, [1])
  | 1415 => some (.iload 5, 2, [])
  | 1417 => some (.ifCond .ne 15, 3, [1432])
  | 1420 => some (.aload_n 3, 1, [])
  | 1421 => some (.iconst 0, 1, [0])
  | 1422 => some (.laload, 1, [])
  | 1423 => some (.iload 6, 2, [])
  | 1425 => some (.i2l, 1, [])
  | 1426 => some (.lcmp, 1, [])
  | 1427 => some (.ifCond .eq 5, 3, [1432])
  | 1430 => some (.iconst 0, 1, [0])
  | 1431 => some (.ireturn, 1, [1])
  | 1432 => some (.goto 443, 3, [1875])
  | 1435 => some (.aload_n 1, 1, [])
  | 1436 => some (.aload_n 0, 1, [])
  | 1437 => some (.iload 4, 2, [])
  | _ => none
def dec226_18 (pc : Nat) : Option (ClassFile.Instr × Nat × List Nat) := match pc with
  | 1439 => some (.iconst 1, 1, [1])
  | 1440 => some (.iadd, 1, [])
  | 1441 => some (.iaload, 1, [])
  | 1442 => some (.aload_n 0, 1, [])
  | 1443 => some (.iload 4, 2, [])
  | 1445 => some (.iconst 2, 1, [2])
  | 1446 => some (.iadd, 1, [])
  | 1447 => some (.iaload, 1, [])
  | 1448 => some (.aload_n 3, 1, [])
  | 1449 => some (.invokestatic 162, 3, [2, 136, 0, 14, 0, 934, 2, 0, 0, 2])
  | 1452 => some (.istore 5, 2, [])
  | 1454 => some (.aload_n 2, 1, [])
  | 1455 => some (.aload_n 0, 1, [])
  | 1456 => some (.iload 4, 2, [])
  | 1458 => some (.iconst 1, 1, [1])
  | 1459 => some (.iadd, 1, [])
  | 1460 => some (.iaload, 1, [])
  | 1461 => some (.aload_n 0, 1, [])
  | 1462 => some (.iload 4, 2, [])
  | 1464 => some (.iconst 2, 1, [2])
  | 1465 => some (.iadd, 1, [])
  | 1466 => some (.iaload, 1, [])
  | 1467 => some (.invokevirtual 164, 3, [2, 207, 2, 10, 0, 1295, 0, 0])
  | 1470 => some (.istore 6, 2, [])
  | 1472 => some (.aload_n 2, 1, [])
  | 1473 => some (.invokevirtual 102, 3, [2, 151, 2, 10, 0, 1073])
  | 1476 => some (.iload 5, 2, [])
  | 1478 => some (.if_icmp .eq 5, 3, [1483])
  | 1481 => some (.iconst 0, 1, [0])
  | 1482 => some (.ireturn, 1, [1])
  | 1483 => some (.iload 5, 2, [])
  | 1485 => some (.ifCond .ne 15, 3, [1500])
  | 1488 => some (.aload_n 3, 1, [])
  | 1489 => some (.iconst 0, 1, [0])
  | 1490 => some (.laload, 1, [])
  | 1491 => some (.iload 6, 2, [])
  | 1493 => some (.i2l, 1, [])
  | 1494 => some (.lcmp, 1, [])
  | 1495 => some (.ifCond .eq 5, 3, [1500])
  | 1498 => some (.iconst 0, 1, [0])
  | 1499 => some (.ireturn, 1, [1])
  | 1500 => some (.goto 375, 3, [1875])
  | 1503 => some (.aload_n 1, 1, [])
  | 1504 => some (.aload_n 0, 1, [])
  | 1505 => some (.iload 4, 2, [])
  | 1507 => some (.iconst 1, 1, [1])
  | 1508 => some (.iadd, 1, [])
  | 1509 => some (.iaload, 1, [])
  | _ => none
def dec226_19 (pc : Nat) : Option (ClassFile.Instr × Nat × List Nat) := match pc with
  | 1510 => some (.aload_n 3, 1, [])
  | 1511 => some (.invokestatic 165, 3, [2, 138, 0, 14, 0, 941, 2, 0, 2])
  | 1514 => some (.istore 5, 2, [])
  | 1516 => some (.aload_n 2, 1, [])
  | 1517 => some (.aload_n 0, 1, [])
  | 1518 => some (.iload 4, 2, [])
  | 1520 => some (.iconst 1, 1, [1])
  | 1521 => some (.iadd, 1, [])
  | 1522 => some (.iaload, 1, [])
  | 1523 => some (.invokevirtual 167, 3, [2, 208, 2, 10, 0, 1299, 0])
  | 1526 => some (.lstore 6, 2, [])
  | 1528 => some (.aload_n 2, 1, [])
  | 1529 => some (.invokevirtual 102, 3, [2, 151, 2, 10, 0, 1073])
  | 1532 => some (.iload 5, 2, [])
  | 1534 => some (.if_icmp .eq 5, 3, [1539])
  | 1537 => some (.iconst 0, 1, [0])
  | 1538 => some (.ireturn, 1, [1])
  | 1539 => some (.iload 5, 2, [])
  | 1541 => some (.ifCond .ne 14, 3, [1555])
  | 1544 => some (.aload_n 3, 1, [])
  | 1545 => some (.iconst 0, 1, [0])
  | 1546 => some (.laload, 1, [])
  | 1547 => some (.lload 6, 2, [])
  | 1549 => some (.lcmp, 1, [])
  | 1550 => some (.ifCond .eq 5, 3, [1555])
  | 1553 => some (.iconst 0, 1, [0])
  | 1554 => some (.ireturn, 1, [1])
  | 1555 => some (.goto 320, 3, [1875])
  | 1558 => some (.aload_n 1, 1, [])
  | 1559 => some (.invokevirtual 168, 3, [2, 31, 2, 9, 0, 383])
  | 1562 => some (.dstore 5, 2, [])
  | 1564 => some (.aload_n 2, 1, [])
  | 1565 => some (.invokevirtual 172, 3, [2, 209, 2, 10, 0, 1303])
  | 1568 => some (.dstore 7, 2, [])
  | 1570 => some (.dload 5, 2, [])
  | 1572 => some (.dload 7, 2, [])
  | 1574 => some (.dcmp .l, 1, [])
  | 1575 => some (.ifCond .eq 21, 3, [1596])
  | 1578 => some (.dload 5, 2, [])
  | 1580 => some (.dload 5, 2, [])
  | 1582 => some (.dcmp .l, 1, [])
  | 1583 => some (.ifCond .eq 11, 3, [1594])
  | 1586 => some (.dload 7, 2, [])
  | 1588 => some (.dload 7, 2, [])
  | 1590 => some (.dcmp .l, 1, [])
  | 1591 => some (.ifCond .ne 5, 3, [1596])
  | 1594 => some (.iconst 0, 1, [0])
  | 1595 => some (.ireturn, 1, [1])
  | _ => none
def dec226_20 (pc : Nat) : Option (ClassFile.Instr × Nat × List Nat) := match pc with
  | 1596 => some (.goto 279, 3, [1875])
  | 1599 => some (.aload_n 1, 1, [])
  | 1600 => some (.aload_n 0, 1, [])
  | 1601 => some (.iload 4, 2, [])
  | 1603 => some (.iconst 1, 1, [1])
  | 1604 => some (.iadd, 1, [])
  | 1605 => some (.iaload, 1, [])
  | 1606 => some (.aload_n 0, 1, [])
  | 1607 => some (.iload 4, 2, [])
  | 1609 => some (.iconst 2, 1, [2])
  | 1610 => some (.iadd, 1, [])
  | 1611 => some (.iaload, 1, [])
  | 1612 => some (.aload_n 3, 1, [])
  | 1613 => some (.invokestatic 173, 3, [2, 140, 0, 14, 0, 948, 2, 0, 0, 2])
  | 1616 => some (.istore 5, 2, [])
  | 1618 => some (.aload_n 2, 1, [])
  | 1619 => some (.aload_n 0, 1, [])
  | 1620 => some (.iload 4, 2, [])
  | 1622 => some (.iconst 1, 1, [1])
  | 1623 => some (.iadd, 1, [])
  | 1624 => some (.iaload, 1, [])
  | 1625 => some (.aload_n 0, 1, [])
  | 1626 => some (.iload 4, 2, [])
  | 1628 => some (.iconst 2, 1, [2])
  | 1629 => some (.iadd, 1, [])
  | 1630 => some (.iaload, 1, [])
  | 1631 => some (.invokevirtual 175, 3, [2, 210, 2, 10, 0, 1307, 0, 0])
  | 1634 => some (.istore 6, 2, [])
  | 1636 => some (.aload_n 2, 1, [])
  | 1637 => some (.invokevirtual 102, 3, [2, 151, 2, 10, 0, 1073])
  | 1640 => some (.iload 5, 2, [])
  | 1642 => some (.if_icmp .eq 5, 3, [1647])
  | 1645 => some (.iconst 0, 1, [0])
  | 1646 => some (.ireturn, 1, [1])
  | 1647 => some (.iload 5, 2, [])
  | 1649 => some (.ifCond .ne 15, 3, [1664])
  | 1652 => some (.aload_n 3, 1, [])
  | 1653 => some (.iconst 0, 1, [0])
  | 1654 => some (.laload, 1, [])
  | 1655 => some (.iload 6, 2, [])
  | 1657 => some (.i2l, 1, [])
  | 1658 => some (.lcmp, 1, [])
  | 1659 => some (.ifCond .eq 5, 3, [1664])
  | 1662 => some (.iconst 0, 1, [0])
  | 1663 => some (.ireturn, 1, [1])
  | 1664 => some (.goto 211, 3, [1875])
  | 1667 => some (.aload_n 1, 1, [])
  | 1668 => some (.aload_n 0, 1, [])
  | _ => none
def dec226_21 (pc : Nat) : Option (ClassFile.Instr × Nat × List Nat) := match pc with
  | 1669 => some (.iload 4, 2, [])
  | 1671 => some (.iconst 1, 1, [1])
  | 1672 => some (.iadd, 1, [])
  | 1673 => some (.iaload, 1, [])
  | 1674 => some (.aload_n 0, 1, [])
  | 1675 => some (.iload 4, 2, [])
  | 1677 => some (.iconst 2, 1, [2])
  | 1678 => some (.iadd, 1, [])
  | 1679 => some (.iaload, 1, [])
  | 1680 => some (.aload_n 3, 1, [])
  | 1681 => some (.invokestatic 176, 3, [2, 142, 0, 14, 0, 956, 2, 0, 0, 2])
  | 1684 => some (.istore 5, 2, [])
  | 1686 => some (.aload_n 2, 1, [])
  | 1687 => some (.aload_n 0, 1, [])
  | 1688 => some (.iload 4, 2, [])
  | 1690 => some (.iconst 1, 1, [1])
  | 1691 => some (.iadd, 1, [])
  | 1692 => some (.iaload, 1, [])
  | 1693 => some (.aload_n 0, 1, [])
  | 1694 => some (.iload 4, 2, [])
  | 1696 => some (.iconst 2, 1, [2])
  | 1697 => some (.iadd, 1, [])
  | 1698 => some (.iaload, 1, [])
  | 1699 => some (.invokevirtual 178, 3, [2, 213, 2, 10, 0, 1319, 0, 0])
  | 1702 => some (.istore 6, 2, [])
  | 1704 => some (.aload_n 2, 1, [])
  | 1705 => some (.invokevirtual 102, 3, [2, 151, 2, 10, 0, 1073])
  | 1708 => some (.iload 5, 2, [])
  | 1710 => some (.if_icmp .eq 5, 3, [1715])
  | 1713 => some (.iconst 0, 1, [0])
  | 1714 => some (.ireturn, 1, [1])
  | 1715 => some (.iload 5, 2, [])
  | 1717 => some (.ifCond .ne 15, 3, [1732])
  | 1720 => some (.aload_n 3, 1, [])
  | 1721 => some (.iconst 0, 1, [0])
  | 1722 => some (.laload, 1, [])
  | 1723 => some (.iload 6, 2, [])
  | 1725 => some (.i2l, 1, [])
  | 1726 => some (.lcmp, 1, [])
  | 1727 => some (.ifCond .eq 5, 3, [1732])
  | 1730 => some (.iconst 0, 1, [0])
  | 1731 => some (.ireturn, 1, [1])
  | 1732 => some (.goto 143, 3, [1875])
  | 1735 => some (.aload_n 1, 1, [])
  | 1736 => some (.aload_n 0, 1, [])
  | 1737 => some (.iload 4, 2, [])
  | 1739 => some (.iconst 1, 1, [1])
  | 1740 => some (.iadd, 1, [])
  | _ => none
def dec226_22 (pc : Nat) : Option (ClassFile.Instr × Nat × List Nat) := match pc with
  | 1741 => some (.iaload, 1, [])
  | 1742 => some (.aload_n 3, 1, [])
  | 1743 => some (.invokestatic 179, 3, [2, 144, 0, 14, 0, 964, 2, 0, 2])
  | 1746 => some (.istore 5, 2, [])
  | 1748 => some (.aload_n 2, 1, [])
  | 1749 => some (.aload_n 0, 1, [])
  | 1750 => some (.iload 4, 2, [])
  | 1752 => some (.iconst 1, 1, [1])
  | 1753 => some (.iadd, 1, [])
  | 1754 => some (.iaload, 1, [])
  | 1755 => some (.invokevirtual 181, 3, [2, 214, 2, 10, 0, 1324, 0])
  | 1758 => some (.istore 6, 2, [])
  | 1760 => some (.aload_n 2, 1, [])
  | 1761 => some (.invokevirtual 102, 3, [2, 151, 2, 10, 0, 1073])
  | 1764 => some (.iload 5, 2, [])
  | 1766 => some (.if_icmp .eq 5, 3, [1771])
  | 1769 => some (.iconst 0, 1, [0])
  | 1770 => some (.ireturn, 1, [1])
  | 1771 => some (.iload 5, 2, [])
  | 1773 => some (.ifCond .ne 15, 3, [1788])
  | 1776 => some (.aload_n 3, 1, [])
  | 1777 => some (.iconst 0, 1, [0])
  | 1778 => some (.laload, 1, [])
  | 1779 => some (.iload 6, 2, [])
  | 1781 => some (.i2l, 1, [])
  | 1782 => some (.lcmp, 1, [])
  | 1783 => some (.ifCond .eq 5, 3, [1788])
  | 1786 => some (.iconst 0, 1, [0])
  | 1787 => some (.ireturn, 1, [1])
  | 1788 => some (.goto 87, 3, [1875])
  | 1791 => some (.aload_n 1, 1, [])
  | 1792 => some (.invokevirtual 182, 3, [2, 35, 2, 9, 0, 402])
  | 1795 => some (.aload_n 2, 1, [])
  | 1796 => some (.invokevirtual 185, 3, [2, 215, 2, 10, 0, 1328])
  | 1799 => some (.if_icmp .eq 76, 3, [1875])
  | 1802 => some (.iconst 0, 1, [0])
  | 1803 => some (.ireturn, 1, [1])
  | 1804 => some (.aload_n 1, 1, [])
  | 1805 => some (.invokevirtual 186, 3, [2, 36, 2, 9, 0, 406])
  | 1808 => some (.aload_n 2, 1, [])
  | 1809 => some (.invokevirtual 189, 3, [2, 216, 2, 10, 0, 1332])
  | 1812 => some (.if_icmp .eq 63, 3, [1875])
  | 1815 => some (.iconst 0, 1, [0])
  | 1816 => some (.ireturn, 1, [1])
  | 1817 => some (.aload_n 1, 1, [])
  | 1818 => some (.aload_n 3, 1, [])
  | 1819 => some (.invokestatic 190, 3, [2, 147, 0, 14, 0, 976, 2, 2])
  | 1822 => some (.istore 5, 2, [])
  | _ => none
def dec226_23 (pc : Nat) : Option (ClassFile.Instr × Nat × List Nat) := match pc with
  | 1824 => some (.aload_n 2, 1, [])
  | 1825 => some (.invokevirtual 193, 3, [2, 152, 2, 10, 0, 1077])
  | 1828 => some (.istore 6, 2, [])
  | 1830 => some (.aload_n 2, 1, [])
  | 1831 => some (.invokevirtual 102, 3, [2, 151, 2, 10, 0, 1073])
  | 1834 => some (.iload 5, 2, [])
  | 1836 => some (.if_icmp .eq 5, 3, [1841])
  | 1839 => some (.iconst 0, 1, [0])
  | 1840 => some (.ireturn, 1, [1])
  | 1841 => some (.iload 5, 2, [])
  | 1843 => some (.ifCond .ne 15, 3, [1858])
  | 1846 => some (.aload_n 3, 1, [])
  | 1847 => some (.iconst 0, 1, [0])
  | 1848 => some (.laload, 1, [])
  | 1849 => some (.iload 6, 2, [])
  | 1851 => some (.i2l, 1, [])
  | 1852 => some (.lcmp, 1, [])
  | 1853 => some (.ifCond .eq 5, 3, [1858])
  | 1856 => some (.iconst 0, 1, [0])
  | 1857 => some (.ireturn, 1, [1])
  | 1858 => some (.goto 17, 3, [1875])
  | 1861 => some (.aload_n 1, 1, [])
  | 1862 => some (.invokevirtual 194, 3, [2, 57, 2, 9, 0, 487])
  | 1865 => some (.aload_n 2, 1, [])
  | 1866 => some (.invokevirtual 198, 3, [2, 223, 2, 10, 0, 1360])
  | 1869 => some (.lcmp, 1, [])
  | 1870 => some (.ifCond .eq 5, 3, [1875])
  | 1873 => some (.iconst 0, 1, [0])
  | 1874 => some (.ireturn, 1, [1])
  | 1875 => some (.iinc 4 7, 3, [7])
  | 1878 => some (.goto (-1855), 3, [23])
  | 1881 => some (.iconst 1, 1, [1])
  | 1882 => some (.ireturn, 1, [1])
  | _ => none
def dec226 (pc : Nat) : Option (ClassFile.Instr × Nat × List Nat) := if pc < 198 then dec226_0 pc else if pc < 267 then dec226_1 pc else if pc < 335 then dec226_2 pc else if pc < 409 then dec226_3 pc else if pc < 478 then dec226_4 pc else if pc < 552 then dec226_5 pc else if pc < 624 then dec226_6 pc else if pc < 697 then dec226_7 pc else if pc < 769 then dec226_8 pc else if pc < 841 then dec226_9 pc else if pc < 916 then dec226_10 pc else if pc < 993 then dec226_11 pc else if pc < 1071 then dec226_12 pc else if pc < 1144 then dec226_13 pc else if pc < 1217 then dec226_14 pc else if pc < 1289 then dec226_15 pc else if pc < 1365 then dec226_16 pc else if pc < 1438 then dec226_17 pc else if pc < 1510 then dec226_18 pc else if pc < 1596 then dec226_19 pc else if pc < 1669 then dec226_20 pc else if pc < 1741 then dec226_21 pc else if pc < 1823 then dec226_22 pc else if pc < 1883 then dec226_23 pc else none
end
section
def dcl_0 : List (Nat × (Nat → Option (ClassFile.Instr × Nat × List Nat))) := [(104, dec0), (38, dec1), (79, dec2), (24, dec3), (37, dec4), (43, dec5), (14, dec6), (16, dec7), (20, dec8), (54, dec9), (15, dec10), (19, dec11), (52, dec12), (35, dec13), (20, dec14), (34, dec15), (89, dec16), (15, dec17), (11, dec18), (39, dec19), (61, dec20), (6, dec21), (15, dec22), (8, dec23), (61, dec24), (9, dec25), (18, dec26), (7, dec27), (4, dec28), (53, dec29), (21, dec30), (32, dec31)]
def dcl_1 : List (Nat × (Nat → Option (ClassFile.Instr × Nat × List Nat))) := [(42, dec32), (10, dec33), (79, dec34), (18, dec35), (51, dec36), (58, dec37), (17, dec38), (62, dec39), (44, dec40), (38, dec41), (50, dec42), (39, dec43), (15, dec44), (96, dec45), (37, dec46), (37, dec47), (120, dec48), (18, dec49), (21, dec50), (12, dec51), (5, dec52), (13, dec53), (31, dec54), (101, dec55), (25, dec56), (257, dec57), (8, dec58), (132, dec59), (32, dec60), (94, dec61), (82, dec62), (24, dec63)]
def dcl_2 : List (Nat × (Nat → Option (ClassFile.Instr × Nat × List Nat))) := [(72, dec64), (44, dec65), (161, dec66), (28, dec67), (19, dec68), (64, dec69), (20, dec70), (38, dec71), (32, dec72), (181, dec73), (9, dec74), (53, dec75), (23, dec76), (116, dec77), (105, dec78), (209, dec79), (43, dec80), (11, dec81), (31, dec82), (18, dec83), (23, dec84), (30, dec85), (21, dec86), (22, dec87), (14, dec88), (35, dec89), (104, dec90), (19, dec91), (23, dec92), (35, dec93), (52, dec94), (97, dec95)]
def dcl_3 : List (Nat × (Nat → Option (ClassFile.Instr × Nat × List Nat))) := [(25, dec96), (38, dec97), (25, dec98), (21, dec99), (23, dec100), (17, dec101), (23, dec102), (32, dec103), (22, dec104), (23, dec105), (32, dec106), (19, dec107), (63, dec108), (19, dec109), (36, dec110), (17, dec111), (13, dec112), (17, dec113), (21, dec114), (84, dec115), (174, dec116), (40, dec117), (44, dec118), (17, dec119), (32, dec120), (69, dec121), (49, dec122), (23, dec123), (50, dec124), (19, dec125), (33, dec126), (17, dec127)]
def dcl_4 : List (Nat × (Nat → Option (ClassFile.Instr × Nat × List Nat))) := [(19, dec128), (22, dec129), (21, dec130), (82, dec131), (36, dec132), (19, dec133), (30, dec134), (9, dec135), (23, dec136), (32, dec137), (16, dec138), (24, dec139), (19, dec140), (87, dec141), (19, dec142), (166, dec143), (20, dec144), (39, dec145), (45, dec146), (16, dec147), (47, dec148), (31, dec149), (183, dec150), (5, dec151), (72, dec152), (15, dec153), (58, dec154), (7, dec155), (16, dec156), (96, dec157), (97, dec158), (40, dec159)]
def dcl_5 : List (Nat × (Nat → Option (ClassFile.Instr × Nat × List Nat))) := [(8, dec160), (9, dec161), (108, dec162), (13, dec163), (91, dec164), (31, dec165), (63, dec166), (13, dec167), (62, dec168), (47, dec169), (47, dec170), (58, dec171), (54, dec172), (20, dec173), (54, dec174), (91, dec175), (190, dec176), (18, dec177), (43, dec178), (69, dec179), (55, dec180), (48, dec181), (7, dec182), (20, dec183), (48, dec184), (67, dec185), (42, dec186), (32, dec187), (82, dec188), (38, dec189), (31, dec190), (290, dec191)]
def dcl_6 : List (Nat × (Nat → Option (ClassFile.Instr × Nat × List Nat))) := [(76, dec192), (41, dec193), (31, dec194), (123, dec195), (67, dec196), (58, dec197), (33, dec198), (120, dec199), (41, dec200), (108, dec201), (203, dec202), (77, dec203), (84, dec204), (264, dec205), (25, dec206), (47, dec207), (31, dec208), (96, dec209), (115, dec210), (28, dec211), (28, dec212), (166, dec213), (63, dec214), (17, dec215), (171, dec216), (50, dec217), (46, dec218), (51, dec219), (40, dec220), (226, dec221), (120, dec222), (183, dec223)]
def dcl_7 : List (Nat × (Nat → Option (ClassFile.Instr × Nat × List Nat))) := [(15, dec224), (94, dec225), (1883, dec226)]
def dcl : List (Nat × (Nat → Option (ClassFile.Instr × Nat × List Nat))) := dcl_0 ++ (dcl_1 ++ (dcl_2 ++ (dcl_3 ++ (dcl_4 ++ (dcl_5 ++ (dcl_6 ++ (dcl_7)))))))
def dec (mi pc : Nat) : Option (ClassFile.Instr × Nat × List Nat) := match dcl[mi]? with
  | some e => if pc < e.1 then e.2 pc else none
  | none => none
end
section
/-! CHECKS: every table entry is held against the printed words, every instruction against decode, by program -/
def ckLk (mi idx : Nat) (rz : List Nat) : Bool := rz == [] || (decide (idx < 1000) && lkT.lookup (mO mi * 1000 + idx) == some rz)
def ckX (mi E ic : Nat) : Bool := mO mi == 9 && ((E == 0 && ic == 283) || (E == 1 && ic == 94) || (E == 2 && ic == 108)) && (mG mi).2.2.2.2.isEmpty
def ckTh (mi pc E : Nat) : Bool := (match dec mi (pc + 3), dec mi (pc + 4), dec mi (pc + 6), dec mi (pc + 9) with
  | some (.dup, 1, _), some (.ldc _, 2, _), some (.invokespecial ic, 3, _), some (.athrow, 1, _) => ckX mi E ic
  | _, _, _, _ => false) || (match dec mi (pc + 3), dec mi (pc + 4), dec mi (pc + 7), dec mi (pc + 10) with
  | some (.dup, 1, _), some (.ldc_w _, 3, _), some (.invokespecial ic, 3, _), some (.athrow, 1, _) => ckX mi E ic
  | _, _, _, _ => false)
def ckT1 (pc : Nat) (o : Int) (rz : List Nat) : Bool := match rz with
  | [t] => (pc : Int) + o == (t : Int)
  | _ => false
def ckR (mi pc : Nat) (i : ClassFile.Instr) (len : Nat) (rz : List Nat) : Bool := match i with
  | .iconst n => len == 1 && (match rz with | [k] => Int32.ofInt n == nI k | _ => false)
  | .bipush n => len == 2 && (match rz with | [k] => (Int8.ofInt n).toInt32 == nI k | _ => false)
  | .sipush n => len == 3 && (match rz with | [k] => (Int16.ofInt n).toInt32 == nI k | _ => false)
  | .lconst n => len == 1 && (match rz with | [k] => Int64.ofNat (n : Nat) == lN k | _ => false)
  | .dconst n => len == 1 && n == 0
  | .goto o => len == 3 && ckT1 pc o rz
  | .ifCond _ o => len == 3 && ckT1 pc o rz
  | .if_icmp _ o => len == 3 && ckT1 pc o rz
  | .ifnull o => len == 3 && ckT1 pc o rz
  | .ifnonnull o => len == 3 && ckT1 pc o rz
  | .iinc k n => len == 3 && decide (k < mL mi) && (match rz with | [v] => Int32.ofInt n == nI v | _ => false)
  | .istore k => len == 2 && decide (k < mL mi)
  | .astore k => len == 2 && decide (k < mL mi)
  | .lstore k => len == 2 && decide (k + 1 < mL mi)
  | .dstore k => len == 2 && decide (k + 1 < mL mi)
  | .istore_n k => len == 1 && decide ((k : Nat) < mL mi)
  | .astore_n k => len == 1 && decide ((k : Nat) < mL mi)
  | .lstore_n k => len == 1 && decide ((k : Nat) + 1 < mL mi)
  | .dstore_n k => len == 1 && decide ((k : Nat) + 1 < mL mi)
  | .iload _ => len == 2
  | .aload _ => len == 2
  | .lload _ => len == 2
  | .dload _ => len == 2
  | .getfield k => len == 3 && ckLk mi k rz
  | .putfield k => len == 3 && ckLk mi k rz && (match rz with | 1 :: ci :: fi :: _ :: nest :: _ => (fT ci fi).2.2.2 == false || ((mG mi).1.name == "<init>" && (fT ci fi).1 == cn (mO mi) && nest == 0) | _ => true)
  | .invokevirtual k => len == 3 && ckLk mi k rz && (match rz with | 2 :: _ :: knd :: _ => knd == 2 | [] => true | _ => false)
  | .invokespecial k => len == 3 && ckLk mi k rz && (match rz with | 2 :: _ :: knd :: _ => knd == 1 | [4, _] => true | [] => true | _ => false)
  | .invokestatic k => len == 3 && ckLk mi k rz && (match rz with | 2 :: _ :: knd :: _ => knd == 0 | [3, _] => true | [10, _] => true | [11, _] => true | [] => true | _ => false)
  | .ireturn => len == 1 && (match rz with | [0] => decide ((mG mi).2.2.2.1 = some .int) | [1] => decide ((mG mi).2.2.2.1 = some .boolean) | _ => false)
  | .lreturn => len == 1 && decide ((mG mi).2.2.2.1 = some .long)
  | .dreturn => len == 1 && decide ((mG mi).2.2.2.1 = some .double)
  | .areturn => len == 1 && (match (mG mi).2.2.2.1 with | some (.object _) => true | _ => false)
  | .return_ => len == 1 && decide ((mG mi).2.2.2.1 = none)
  | .new k => len == 3 && ckLk mi k rz && (match rz with | 6 :: E :: _ => ckTh mi pc E | _ => true)
  | .anewarray k => len == 3 && ckLk mi k rz
  | .newarray _ => len == 2
  | .ldc k => len == 2 && ckLk mi k rz
  | .ldc_w k => len == 3 && ckLk mi k rz
  | .ldc2_w k => len == 3 && ckLk mi k rz
  | .tableswitch _ _ _ _ => true
  | .lookupswitch _ ps => (ps.toList.zip (ps.toList.drop 1)).all (fun (a, next) => decide (a.1 < next.1))
  | _ => len == 1
def ckI (mi pc : Nat) : Bool := match dec mi pc with
  | none => true
  | some (i, len, rz) => decide (decode (mG mi).2.1 pc = .ok (i, len)) && ckR mi pc i len rz
def dln (mi : Nat) : Nat := (dcl.map (fun e => e.1)).getD mi 0
def ckM (mi : Nat) : Prop := ((List.range (dln mi)).all (ckI mi)) = true
end
section
theorem cka0 : ∀ a, a < 32 → ckM a := sorry
theorem cka1 : ∀ a, a < 64 → ckM a := sorry
theorem cka2 : ∀ a, a < 96 → ckM a := sorry
theorem cka3 : ∀ a, a < 128 → ckM a := sorry
theorem cka4 : ∀ a, a < 160 → ckM a := sorry
theorem cka5 : ∀ a, a < 192 → ckM a := sorry
theorem cka6 : ∀ a, a < 224 → ckM a := sorry
theorem cka7 : ∀ a, a < 227 → ckM a := sorry
theorem dec_ck {mi pc : Nat} {r : ClassFile.Instr × Nat × List Nat} (h : dec mi pc = some r) : ckI mi pc = true := by
  have h0 := h
  unfold dec at h
  cases he : dcl[mi]? with
  | none => rw [he] at h; cases h
  | some e =>
    rw [he] at h
    dsimp only at h
    by_cases hp : pc < e.1
    · have hm : mi < 227 := by
        have := (List.getElem?_eq_some_iff.mp he).1
        have h2 : dcl.length = 227 := by decide +kernel
        omega
      have hc := cka7 mi hm
      unfold ckM at hc
      have hd : dln mi = e.1 := by
        unfold dln
        rw [List.getD_eq_getElem?_getD, List.getElem?_map, he]; rfl
      rw [hd] at hc
      exact List.all_eq_true.mp hc pc (List.mem_range.mpr hp)
    · rw [if_neg hp] at h; cases h
theorem dec_ok {mi pc : Nat} {i : ClassFile.Instr} {len : Nat} {rz : List Nat} (h : dec mi pc = some (i, len, rz)) : decode (mG mi).2.1 pc = .ok (i, len) ∧ ckR mi pc i len rz = true := by
  have hc := dec_ck h
  unfold ckI at hc
  rw [h] at hc
  simpa using hc
/-- the three exceptions -/
def xcN (E : Nat) : String := match E with
  | 0 => "java/lang/IndexOutOfBoundsException"
  | 1 => "java/lang/IllegalArgumentException"
  | _ => "java/lang/IllegalStateException"
/-- a link entry, held against the printed words -/
def lkB (k : Nat) (rz : List Nat) : Bool := match rz with
  | [1, ci, fi, ty, 0, pl] => decide (tables_1[pl]? = some (.fieldLink (cn (k / 1000)) (k % 1000) (fT ci fi).1 (fT ci fi).2.1 (fT ci fi).2.2.1)) && decide (ci < 11) && decide (fi < fN ci) && decide (ty = match fY ci fi with | .int => 0 | .long => 1 | _ => 2)
  | [1, ci, fi, ty, _, pl] => decide (tables_1[pl]? = some (.fieldLinkNest (cn (k / 1000)) (k % 1000) (fT ci fi).1 (fT ci fi).2.1 (fT ci fi).2.2.1 RX9)) && decide (ci < 11) && decide (fi < fN ci) && decide (ty = match fY ci fi with | .int => 0 | .long => 1 | _ => 2)
  | 2 :: mj :: knd :: ci :: nest :: pl :: ps => (if nest = 0 then decide (tables_1[pl]? = some (.methodLink (cn (k / 1000)) (k % 1000) (mG mj).1)) else decide (tables_1[pl]? = some (.methodLinkNest (cn (k / 1000)) (k % 1000) (mG mj).1 RX9))) && decide (mj < 226 ∧ mj ≠ 18 ∧ mj ≠ 81) && decide ((mG mj).1.cls = cn ci) && decide ((parseMethodDescriptor (mG mj).1.desc).map (fun d => d.parameters.length) = some ps.length) && (match mpl[mj]? with
      | some (_, p2, p3, _) => if knd = 0 then decide (tables_1[p2]? = some (.static (mG mj).1)) else decide (tables_1[p2]? = some (.instanceMethod (mG mj).1)) && decide (ci < 11) && (if knd = 1 then decide ((mG mj).1.name = "<init>") && decide ((mG mj).2.2.2.1 = none) else decide (lw_tbl[p3]? = some (.selects (cn ci) (mG mj).1 (mG mj).1)))
      | none => false)
  | [3, pl] => decide (tables_1[pl]? = some (.methodLink (cn (k / 1000)) (k % 1000) arraycopyName))
  | [10, pl] => decide (tables_1[pl]? = some (.methodLink (cn (k / 1000)) (k % 1000) Lib.Math.min.name))
  | [11, pl] => decide (tables_1[pl]? = some (.methodLink (cn (k / 1000)) (k % 1000) Lib.Math.max.name))
  | [4, pl] => decide (tables_1[pl]? = some (.methodLink (cn (k / 1000)) (k % 1000) objectInit))
  | [5, ci, pl, pi, pj] => decide (tables_1[pl]? = some (.classLink (cn (k / 1000)) (k % 1000) (cn ci))) && decide (tables_1[pi]? = some (.instantiable (cn ci) (fN ci))) && decide (tables_1[pj]? = some (.initialized (cn ci))) && decide (ci < 11)
  | [6, E, pl] => decide (tables_1[pl]? = some (.classLink (cn (k / 1000)) (k % 1000) (xcN E))) && decide (E < 3)
  | [7, pl, pi] => decide (tables_1[pl]? = some (.classLink (cn (k / 1000)) (k % 1000) RX6)) && decide (tables_1[pi]? = some (.instantiable RX6 3))
  | [8, v, pl] => decide (tables_1[pl]? = some (.constant (cn (k / 1000)) (k % 1000) (nI v)))
  | [9, v, pl] => decide (tables_1[pl]? = some (.constantLong (cn (k / 1000)) (k % 1000) (lN v)))
  | _ => false
theorem lkc0 : lkT_0.all (fun e => lkB e.1 e.2) = true := sorry
theorem lkc1 : lkT_1.all (fun e => lkB e.1 e.2) = true := sorry
theorem lkc2 : lkT_2.all (fun e => lkB e.1 e.2) = true := sorry
theorem lkc3 : lkT_3.all (fun e => lkB e.1 e.2) = true := sorry
theorem lkc4 : lkT_4.all (fun e => lkB e.1 e.2) = true := sorry
theorem lkc5 : lkT_5.all (fun e => lkB e.1 e.2) = true := sorry
theorem lkc6 : lkT_6.all (fun e => lkB e.1 e.2) = true := sorry
theorem lkc7 : lkT_7.all (fun e => lkB e.1 e.2) = true := sorry
theorem lkc8 : lkT_8.all (fun e => lkB e.1 e.2) = true := sorry
theorem lkc9 : lkT_9.all (fun e => lkB e.1 e.2) = true := sorry
theorem lkc10 : lkT_10.all (fun e => lkB e.1 e.2) = true := sorry
theorem lkc11 : lkT_11.all (fun e => lkB e.1 e.2) = true := sorry
theorem lk_ok {k : Nat} {rz : List Nat} (h : lkT.lookup k = some rz) : lkB k rz = true := by
  have hall : lkT.all (fun e => lkB e.1 e.2) = true := by
    unfold lkT
    simp only [List.all_append, Bool.and_eq_true]
    exact ⟨lkc0, ⟨lkc1, ⟨lkc2, ⟨lkc3, ⟨lkc4, ⟨lkc5, ⟨lkc6, ⟨lkc7, ⟨lkc8, ⟨lkc9, ⟨lkc10, lkc11⟩⟩⟩⟩⟩⟩⟩⟩⟩⟩⟩
  have key : ∀ (l : List (Nat × List Nat)), l.all (fun e => lkB e.1 e.2) = true → l.lookup k = some rz → lkB k rz = true := by
    intro l
    induction l with
    | nil => intro _ h; cases h
    | cons e l ih =>
      intro h1 h2
      simp only [List.all_cons, Bool.and_eq_true] at h1
      rw [List.lookup_cons] at h2
      by_cases hk : k == e.1
      · rw [hk] at h2
        cases h2
        rw [beq_iff_eq.mp hk]; exact h1.1
      · rw [Bool.not_eq_true] at hk
        rw [hk] at h2
        exact ih h1.2 h2
  exact key lkT hall h
/-- a method's words -/
def mwB (mi : Nat) : Bool := match mpl[mi]? with
  | some (p1, _, _, p4) => (match (mG mi).2.2.2.2 with
      | [] => decide (tables_1[p1]? = some (.code (mG mi).1 (mG mi).2.1 (mL mi) (mG mi).2.2.2.1))
      | hh => decide (tables_1[p1]? = some (.codeWith (mG mi).1 (mG mi).2.1 (mL mi) (mG mi).2.2.2.1 hh))) &&
      decide (tables_1[p4]? = some (.initialized (mG mi).1.cls)) && decide ((mG mi).1.cls = cn (mO mi)) && plainFor (mG mi).1 && decide ((mG mi).2.2.1 = mL mi)
  | none => false
theorem mwc0 : (List.range' 0 8).all mwB = true := sorry
theorem mwc8 : (List.range' 8 8).all mwB = true := sorry
theorem mwc16 : (List.range' 16 2).all mwB = true := sorry
theorem mwc19 : (List.range' 19 8).all mwB = true := sorry
theorem mwc27 : (List.range' 27 8).all mwB = true := sorry
theorem mwc35 : (List.range' 35 8).all mwB = true := sorry
theorem mwc43 : (List.range' 43 8).all mwB = true := sorry
theorem mwc51 : (List.range' 51 8).all mwB = true := sorry
theorem mwc59 : (List.range' 59 8).all mwB = true := sorry
theorem mwc67 : (List.range' 67 8).all mwB = true := sorry
theorem mwc75 : (List.range' 75 6).all mwB = true := sorry
theorem mwc82 : (List.range' 82 8).all mwB = true := sorry
theorem mwc90 : (List.range' 90 8).all mwB = true := sorry
theorem mwc98 : (List.range' 98 8).all mwB = true := sorry
theorem mwc106 : (List.range' 106 8).all mwB = true := sorry
theorem mwc114 : (List.range' 114 8).all mwB = true := sorry
theorem mwc122 : (List.range' 122 8).all mwB = true := sorry
theorem mwc130 : (List.range' 130 8).all mwB = true := sorry
theorem mwc138 : (List.range' 138 8).all mwB = true := sorry
theorem mwc146 : (List.range' 146 8).all mwB = true := sorry
theorem mwc154 : (List.range' 154 8).all mwB = true := sorry
theorem mwc162 : (List.range' 162 8).all mwB = true := sorry
theorem mwc170 : (List.range' 170 8).all mwB = true := sorry
theorem mwc178 : (List.range' 178 8).all mwB = true := sorry
theorem mwc186 : (List.range' 186 8).all mwB = true := sorry
theorem mwc194 : (List.range' 194 8).all mwB = true := sorry
theorem mwc202 : (List.range' 202 8).all mwB = true := sorry
theorem mwc210 : (List.range' 210 8).all mwB = true := sorry
theorem mwc218 : (List.range' 218 8).all mwB = true := sorry
theorem mw_ok {mi : Nat} (h : mi < 226) (h1 : mi ≠ 18) (h2 : mi ≠ 81) : mwB mi = true := by
  by_cases h0 : 0 ≤ mi ∧ mi < 8
  · exact List.all_eq_true.mp mwc0 mi (List.mem_range'_1.mpr (by omega))
  by_cases h8 : 8 ≤ mi ∧ mi < 16
  · exact List.all_eq_true.mp mwc8 mi (List.mem_range'_1.mpr (by omega))
  by_cases h16 : 16 ≤ mi ∧ mi < 18
  · exact List.all_eq_true.mp mwc16 mi (List.mem_range'_1.mpr (by omega))
  by_cases h19 : 19 ≤ mi ∧ mi < 27
  · exact List.all_eq_true.mp mwc19 mi (List.mem_range'_1.mpr (by omega))
  by_cases h27 : 27 ≤ mi ∧ mi < 35
  · exact List.all_eq_true.mp mwc27 mi (List.mem_range'_1.mpr (by omega))
  by_cases h35 : 35 ≤ mi ∧ mi < 43
  · exact List.all_eq_true.mp mwc35 mi (List.mem_range'_1.mpr (by omega))
  by_cases h43 : 43 ≤ mi ∧ mi < 51
  · exact List.all_eq_true.mp mwc43 mi (List.mem_range'_1.mpr (by omega))
  by_cases h51 : 51 ≤ mi ∧ mi < 59
  · exact List.all_eq_true.mp mwc51 mi (List.mem_range'_1.mpr (by omega))
  by_cases h59 : 59 ≤ mi ∧ mi < 67
  · exact List.all_eq_true.mp mwc59 mi (List.mem_range'_1.mpr (by omega))
  by_cases h67 : 67 ≤ mi ∧ mi < 75
  · exact List.all_eq_true.mp mwc67 mi (List.mem_range'_1.mpr (by omega))
  by_cases h75 : 75 ≤ mi ∧ mi < 81
  · exact List.all_eq_true.mp mwc75 mi (List.mem_range'_1.mpr (by omega))
  by_cases h82 : 82 ≤ mi ∧ mi < 90
  · exact List.all_eq_true.mp mwc82 mi (List.mem_range'_1.mpr (by omega))
  by_cases h90 : 90 ≤ mi ∧ mi < 98
  · exact List.all_eq_true.mp mwc90 mi (List.mem_range'_1.mpr (by omega))
  by_cases h98 : 98 ≤ mi ∧ mi < 106
  · exact List.all_eq_true.mp mwc98 mi (List.mem_range'_1.mpr (by omega))
  by_cases h106 : 106 ≤ mi ∧ mi < 114
  · exact List.all_eq_true.mp mwc106 mi (List.mem_range'_1.mpr (by omega))
  by_cases h114 : 114 ≤ mi ∧ mi < 122
  · exact List.all_eq_true.mp mwc114 mi (List.mem_range'_1.mpr (by omega))
  by_cases h122 : 122 ≤ mi ∧ mi < 130
  · exact List.all_eq_true.mp mwc122 mi (List.mem_range'_1.mpr (by omega))
  by_cases h130 : 130 ≤ mi ∧ mi < 138
  · exact List.all_eq_true.mp mwc130 mi (List.mem_range'_1.mpr (by omega))
  by_cases h138 : 138 ≤ mi ∧ mi < 146
  · exact List.all_eq_true.mp mwc138 mi (List.mem_range'_1.mpr (by omega))
  by_cases h146 : 146 ≤ mi ∧ mi < 154
  · exact List.all_eq_true.mp mwc146 mi (List.mem_range'_1.mpr (by omega))
  by_cases h154 : 154 ≤ mi ∧ mi < 162
  · exact List.all_eq_true.mp mwc154 mi (List.mem_range'_1.mpr (by omega))
  by_cases h162 : 162 ≤ mi ∧ mi < 170
  · exact List.all_eq_true.mp mwc162 mi (List.mem_range'_1.mpr (by omega))
  by_cases h170 : 170 ≤ mi ∧ mi < 178
  · exact List.all_eq_true.mp mwc170 mi (List.mem_range'_1.mpr (by omega))
  by_cases h178 : 178 ≤ mi ∧ mi < 186
  · exact List.all_eq_true.mp mwc178 mi (List.mem_range'_1.mpr (by omega))
  by_cases h186 : 186 ≤ mi ∧ mi < 194
  · exact List.all_eq_true.mp mwc186 mi (List.mem_range'_1.mpr (by omega))
  by_cases h194 : 194 ≤ mi ∧ mi < 202
  · exact List.all_eq_true.mp mwc194 mi (List.mem_range'_1.mpr (by omega))
  by_cases h202 : 202 ≤ mi ∧ mi < 210
  · exact List.all_eq_true.mp mwc202 mi (List.mem_range'_1.mpr (by omega))
  by_cases h210 : 210 ≤ mi ∧ mi < 218
  · exact List.all_eq_true.mp mwc210 mi (List.mem_range'_1.mpr (by omega))
  by_cases h218 : 218 ≤ mi ∧ mi < 226
  · exact List.all_eq_true.mp mwc218 mi (List.mem_range'_1.mpr (by omega))
  omega
end
section
/-! SEM: the abstract interpreter. A memory is: the kinds and the pointers of the cells and how many there are; the ints; the longs; how much was made. A cell's number stands for its address. -/
abbrev MP : Type := (Nat → Nat × Nat) × (Nat → Nat → Option Nat) × Nat
abbrev MI : Type := Nat → Nat → Int32
abbrev ML : Type := Nat → Nat → Int64
abbrev MC : Type := Nat × Nat
abbrev FR : Type := Nat × List Value × List Value
abbrev MM : Type := MP × MI × ML × MC
abbrev SR : Type := Option ((FR × MM) ⊕ (Option Value ⊕ ((Nat × List Value × List Value) ⊕ Nat)))
abbrev RV : Type := Option Value ⊕ Nat
/-- a local that is not set -/
abbrev UN : Value := .retAddr 0
def xu {α : Type} (f : Nat → Nat → α) (k j : Nat) (v : α) : Nat → Nat → α := fun a b => if a = k ∧ b = j then v else f a b
def xr {α : Type} (f : Nat → α) (k : Nat) (r : α) : Nat → α := fun a => if a = k then r else f a
def gl : List Value → Nat → Option Value
  | [], _ => none
  | v :: _, 0 => some v
  | _ :: r, n + 1 => gl r n
def sl : List Value → Nat → Value → List Value
  | [], _, _ => []
  | _ :: r, 0, w => w :: r
  | v :: r, n + 1, w => v :: sl r n w
/-- a store at n: a long ahead of it is gone -/
def k1 (ls : List Value) (n : Nat) : List Value := match n with
  | 0 => ls
  | j + 1 => match gl ls j with
    | some (.long _) => sl ls j UN
    | some (.double _) => sl ls j UN
    | _ => ls
def s1 (ls : List Value) (n : Nat) (v : Value) : List Value := sl (k1 ls n) n v
def s2 (ls : List Value) (n : Nat) (v : Value) : List Value := sl (sl (k1 ls n) n v) (n + 1) UN
def pops : List Nat → List Value → List Value → Option (List Value × List Value)
  | [], st, acc => some (acc, st)
  | _ :: ps, v :: st, acc => pops ps st (v :: acc)
  | _ :: _, [], _ => none
def catS (st : List Value) : Nat := (st.map fun v => v.category).sum
def lay : List Value → List Value
  | [] => []
  | v :: r => if v.category = 2 then v :: UN :: lay r else v :: lay r
def ent (mj : Nat) (as : List Value) : List Value := lay as ++ List.replicate (mL mj - (lay as).length) UN
def sN (pc : Nat) (ls st : List Value) (P : MP) (I : MI) (L : ML) (C : MC) : SR := some (.inl ((pc, ls, st), (P, I, L, C)))
def sR (v : Option Value) : SR := some (.inr (.inl v))
def sC (mj : Nat) (as st : List Value) : SR := some (.inr (.inr (.inl (mj, as, st))))
def sT (E : Nat) : SR := some (.inr (.inr (.inr E)))
def inb (i : Int32) (n : Nat) : Bool := !decide (i < 0) && decide (i.toNatClampNeg < n)
theorem inb_in {i : Int32} {n : Nat} (h : inb i n = true) : vp_in i n := by
  unfold inb at h
  simp only [Bool.and_eq_true, Bool.not_eq_true', decide_eq_false_iff_not, decide_eq_true_eq] at h
  exact fun q => q.elim h.1 (fun z => absurd h.2 (Nat.not_lt.mpr z))
def ldI (ls : List Value) (k pc : Nat) (st : List Value) (P : MP) (I : MI) (L : ML) (C : MC) : SR := match gl ls k with
  | some (.int v) => sN pc ls (.int v :: st) P I L C
  | _ => none
def ldA (ls : List Value) (k pc : Nat) (st : List Value) (P : MP) (I : MI) (L : ML) (C : MC) : SR := match gl ls k with
  | some (.ref v) => sN pc ls (.ref v :: st) P I L C
  | _ => none
def ldL (ls : List Value) (k pc : Nat) (st : List Value) (P : MP) (I : MI) (L : ML) (C : MC) : SR := match gl ls k with
  | some (.long v) => sN pc ls (.long v :: st) P I L C
  | _ => none
def ldD (ls : List Value) (k pc : Nat) (st : List Value) (P : MP) (I : MI) (L : ML) (C : MC) : SR := match gl ls k with
  | some (.double v) => sN pc ls (.double v :: st) P I L C
  | _ => none
def stI (ls : List Value) (k pc : Nat) (st : List Value) (P : MP) (I : MI) (L : ML) (C : MC) : SR := match st with
  | .int v :: st => sN pc (s1 ls k (.int v)) st P I L C
  | _ => none
def stA (ls : List Value) (k pc : Nat) (st : List Value) (P : MP) (I : MI) (L : ML) (C : MC) : SR := match st with
  | .ref v :: st => sN pc (s1 ls k (.ref v)) st P I L C
  | _ => none
def stL (ls : List Value) (k pc : Nat) (st : List Value) (P : MP) (I : MI) (L : ML) (C : MC) : SR := match st with
  | .long v :: st => sN pc (s2 ls k (.long v)) st P I L C
  | _ => none
def stD (ls : List Value) (k pc : Nat) (st : List Value) (P : MP) (I : MI) (L : ML) (C : MC) : SR := match st with
  | .double v :: st => sN pc (s2 ls k (.double v)) st P I L C
  | _ => none
/-- a new cell -/
def mkP (P : MP) (t len : Nat) : MP := (xr P.1 (P.2.2 + 1) (t, len), xr P.2.1 (P.2.2 + 1) (fun _ => none), P.2.2 + 1)
def mk (pc : Nat) (ls st : List Value) (t len nf : Nat) (P : MP) (I : MI) (L : ML) (C : MC) : SR :=
  sN pc ls (.ref (P.2.2 + 1) :: st) (mkP P t len) (xr I (P.2.2 + 1) (fun _ => 0)) (xr L (P.2.2 + 1) (fun _ => 0)) (C.1 + 1, C.2 + nf)
def o1I (f : Int32 → Value) (pc : Nat) (ls st : List Value) (P : MP) (I : MI) (L : ML) (C : MC) : SR := match st with
  | .int x :: st => sN pc ls (f x :: st) P I L C
  | _ => none
def o2I (f : Int32 → Int32 → Int32) (pc : Nat) (ls st : List Value) (P : MP) (I : MI) (L : ML) (C : MC) : SR := match st with
  | .int y :: .int x :: st => sN pc ls (.int (f x y) :: st) P I L C
  | _ => none
def o2L (f : Int64 → Int64 → Int64) (pc : Nat) (ls st : List Value) (P : MP) (I : MI) (L : ML) (C : MC) : SR := match st with
  | .long y :: .long x :: st => sN pc ls (.long (f x y) :: st) P I L C
  | _ => none
def brI (c : ClassFile.Cond) (x : Int32) (t f : SR) : SR := match c with
  | .eq => if x = 0 then t else f
  | .ne => if x = 0 then f else t
  | .lt => if x < 0 then t else f
  | .ge => if 0 ≤ x then t else f
  | .gt => if 0 < x then t else f
  | .le => if x ≤ 0 then t else f
def brII (c : ClassFile.Cond) (x y : Int32) (t f : SR) : SR := match c with
  | .eq => if x = y then t else f
  | .ne => if x = y then f else t
  | .lt => if x < y then t else f
  | .ge => if y ≤ x then t else f
  | .gt => if y < x then t else f
  | .le => if x ≤ y then t else f
def stp (pc : Nat) (i : ClassFile.Instr) (len : Nat) (rz : List Nat) (ls st : List Value) (P : MP) (I : MI) (L : ML) (C : MC) : SR := match i with
  | .aload_n n => ldA ls n (pc + len) st P I L C
  | .aload n => ldA ls n (pc + len) st P I L C
  | .iload_n n => ldI ls n (pc + len) st P I L C
  | .iload n => ldI ls n (pc + len) st P I L C
  | .lload_n n => ldL ls n (pc + len) st P I L C
  | .lload n => ldL ls n (pc + len) st P I L C
  | .dload n => ldD ls n (pc + len) st P I L C
  | .dload_n n => ldD ls n (pc + len) st P I L C
  | .istore_n n => stI ls n (pc + len) st P I L C
  | .istore n => stI ls n (pc + len) st P I L C
  | .astore_n n => stA ls n (pc + len) st P I L C
  | .astore n => stA ls n (pc + len) st P I L C
  | .lstore_n n => stL ls n (pc + len) st P I L C
  | .lstore n => stL ls n (pc + len) st P I L C
  | .dstore n => stD ls n (pc + len) st P I L C
  | .dstore_n n => stD ls n (pc + len) st P I L C
  | .iconst _ => match rz with
    | [k] => sN (pc + len) ls (.int (nI k) :: st) P I L C
    | _ => none
  | .bipush _ => match rz with
    | [k] => sN (pc + len) ls (.int (nI k) :: st) P I L C
    | _ => none
  | .sipush _ => match rz with
    | [k] => sN (pc + len) ls (.int (nI k) :: st) P I L C
    | _ => none
  | .ldc _ => match rz with
    | [8, k, _] => sN (pc + len) ls (.int (nI k) :: st) P I L C
    | _ => none
  | .ldc_w _ => match rz with
    | [8, k, _] => sN (pc + len) ls (.int (nI k) :: st) P I L C
    | _ => none
  | .ldc2_w _ => match rz with
    | [9, k, _] => sN (pc + len) ls (.long (lN k) :: st) P I L C
    | _ => none
  | .lconst _ => match rz with
    | [k] => sN (pc + len) ls (.long (lN k) :: st) P I L C
    | _ => none
  | .dconst _ => sN (pc + len) ls (.double FP.dconst0 :: st) P I L C
  | .aconst_null => sN (pc + len) ls (.null :: st) P I L C
  | .iinc n _ => match gl ls n, rz with
    | some (.int x), [k] => sN (pc + len) (s1 ls n (.int (x + nI k))) st P I L C
    | _, _ => none
  | .dup => match st with
    | v :: st => if v.category = 1 then sN (pc + len) ls (v :: v :: st) P I L C else none
    | _ => none
  | .dup2 => match st with
    | v :: w :: st => if v.category = 1 ∧ w.category = 1 then sN (pc + len) ls (v :: w :: v :: w :: st) P I L C else none
    | _ => none
  | .pop => match st with
    | v :: st => if v.category = 1 then sN (pc + len) ls st P I L C else none
    | _ => none
  | .iadd => o2I (fun x y => x + y) (pc + len) ls st P I L C
  | .isub => o2I (fun x y => x - y) (pc + len) ls st P I L C
  | .imul => o2I (fun x y => x * y) (pc + len) ls st P I L C
  | .iand => o2I (fun x y => x &&& y) (pc + len) ls st P I L C
  | .ior => o2I (fun x y => x ||| y) (pc + len) ls st P I L C
  | .ixor => o2I (fun x y => x ^^^ y) (pc + len) ls st P I L C
  | .ishl => o2I (fun x y => x <<< (y &&& 31)) (pc + len) ls st P I L C
  | .ishr => o2I (fun x y => x >>> (y &&& 31)) (pc + len) ls st P I L C
  | .iushr => o2I (fun x y => (x.toUInt32 >>> (y.toUInt32 &&& Int32.toUInt32 31)).toInt32) (pc + len) ls st P I L C
  | .idiv => match st with
    | .int y :: .int x :: st => if y = 0 then none else sN (pc + len) ls (.int (x / y) :: st) P I L C
    | _ => none
  | .irem => match st with
    | .int y :: .int x :: st => if y = 0 then none else sN (pc + len) ls (.int (x - x / y * y) :: st) P I L C
    | _ => none
  | .i2l => o1I (fun x => .long x.toInt64) (pc + len) ls st P I L C
  | .i2d => o1I (fun x => .double (FP.i2d x)) (pc + len) ls st P I L C
  | .i2b => o1I (fun x => .int x.toInt8.toInt32) (pc + len) ls st P I L C
  | .l2i => match st with
    | .long x :: st => sN (pc + len) ls (.int x.toInt32 :: st) P I L C
    | _ => none
  | .ladd => o2L (fun x y => x + y) (pc + len) ls st P I L C
  | .lmul => o2L (fun x y => x * y) (pc + len) ls st P I L C
  | .ldiv => match st with
    | .long y :: .long x :: st => if y = 0 then none else sN (pc + len) ls (.long (x / y) :: st) P I L C
    | _ => none
  | .lrem => match st with
    | .long y :: .long x :: st => if y = 0 then none else sN (pc + len) ls (.long (x - x / y * y) :: st) P I L C
    | _ => none
  | .lcmp => match st with
    | .long y :: .long x :: st => sN (pc + len) ls (.int (lg_cmp x y) :: st) P I L C
    | _ => none
  | .dcmp op => match st with
    | .double y :: .double x :: st => sN (pc + len) ls (.int (Op.cmpValue (FP.dcmp x y) op) :: st) P I L C
    | _ => none
  | .ddiv => match st with
    | .double y :: .double x :: st => if FP.ddiv x y &&& 0x7fffffffffffffff ≤ 0x7ff0000000000000 then sN (pc + len) ls (.double (FP.ddiv x y) :: st) P I L C else none
    | _ => none
  | .goto _ => match rz with
    | [t] => sN t ls st P I L C
    | _ => none
  | .ifCond c _ => match st, rz with
    | .int x :: st, [t] => brI c x (sN t ls st P I L C) (sN (pc + len) ls st P I L C)
    | _, _ => none
  | .if_icmp c _ => match st, rz with
    | .int y :: .int x :: st, [t] => brII c x y (sN t ls st P I L C) (sN (pc + len) ls st P I L C)
    | _, _ => none
  | .ifnull _ => match st with
    | .ref _ :: st => sN (pc + len) ls st P I L C
    | _ => none
  | .ifnonnull _ => match st, rz with
    | .ref _ :: st, [t] => sN t ls st P I L C
    | _, _ => none
  | .tableswitch dflt lo hi offs => match st with
    | .int x :: st => if x.toInt < lo ∨ hi < x.toInt then (if 0 ≤ (pc : Int) + dflt then sN ((pc : Int) + dflt).toNat ls st P I L C else none) else (match offs[(x.toInt - lo).toNat]? with
      | some o => if 0 ≤ (pc : Int) + o then sN ((pc : Int) + o).toNat ls st P I L C else none
      | none => none)
    | _ => none
  | .lookupswitch dflt ps => match st with
    | .int x :: st => if 0 ≤ (pc : Int) + Op.lookupswitch.offset ps.toList dflt x.toInt then sN ((pc : Int) + Op.lookupswitch.offset ps.toList dflt x.toInt).toNat ls st P I L C else none
    | _ => none
  | .getfield _ => match rz, st with
    | [1, ci, fi, 0, _, _], .ref k :: st => if (P.1 k).1 = ci + 1 then sN (pc + len) ls (.int (I k fi) :: st) P I L C else none
    | [1, ci, fi, 1, _, _], .ref k :: st => if (P.1 k).1 = ci + 1 then sN (pc + len) ls (.long (L k fi) :: st) P I L C else none
    | [1, ci, fi, 2, _, _], .ref k :: st => if (P.1 k).1 = ci + 1 then sN (pc + len) ls (va_rf (P.2.1 k fi) :: st) P I L C else none
    | _, _ => none
  | .putfield _ => match rz, st with
    | [1, ci, fi, 0, _, _], .int v :: .ref k :: st => if (P.1 k).1 = ci + 1 then sN (pc + len) ls st P (xu I k fi v) L C else none
    | [1, ci, fi, 1, _, _], .long v :: .ref k :: st => if (P.1 k).1 = ci + 1 then sN (pc + len) ls st P I (xu L k fi v) C else none
    | [1, ci, fi, 2, _, _], .ref v :: .ref k :: st => if (P.1 k).1 = ci + 1 ∧ 1 ≤ v then sN (pc + len) ls st (P.1, xu P.2.1 k fi (some v), P.2.2) I L C else none
    | _, _ => none
  | .arraylength => match st with
    | .ref k :: st => if 20 ≤ (P.1 k).1 then sN (pc + len) ls (.int (nI (P.1 k).2) :: st) P I L C else none
    | _ => none
  | .iaload => match st with
    | .int i :: .ref k :: st => if ((P.1 k).1 = 20 ∨ (P.1 k).1 = 30) ∧ inb i (P.1 k).2 then sN (pc + len) ls (.int (I k i.toNatClampNeg) :: st) P I L C else none
    | _ => none
  | .baload => match st with
    | .int i :: .ref k :: st => if (P.1 k).1 = 22 ∧ inb i (P.1 k).2 then sN (pc + len) ls (.int (I k i.toNatClampNeg) :: st) P I L C else none
    | _ => none
  | .laload => match st with
    | .int i :: .ref k :: st => if (P.1 k).1 = 21 ∧ inb i (P.1 k).2 then sN (pc + len) ls (.long (L k i.toNatClampNeg) :: st) P I L C else none
    | _ => none
  | .aaload => match st with
    | .int i :: .ref k :: st => if (P.1 k).1 = 23 ∧ inb i (P.1 k).2 then sN (pc + len) ls (va_rf (P.2.1 k i.toNatClampNeg) :: st) P I L C else none
    | _ => none
  | .iastore => match st with
    | .int v :: .int i :: .ref k :: st => if (P.1 k).1 = 20 ∧ inb i (P.1 k).2 then sN (pc + len) ls st P (xu I k i.toNatClampNeg v) L C else none
    | _ => none
  | .bastore => match st with
    | .int v :: .int i :: .ref k :: st => if (P.1 k).1 = 22 ∧ inb i (P.1 k).2 then sN (pc + len) ls st P (xu I k i.toNatClampNeg v.toInt8.toInt32) L C else none
    | _ => none
  | .lastore => match st with
    | .long v :: .int i :: .ref k :: st => if (P.1 k).1 = 21 ∧ inb i (P.1 k).2 then sN (pc + len) ls st P I (xu L k i.toNatClampNeg v) C else none
    | _ => none
  | .aastore => match st with
    | .ref v :: .int i :: .ref k :: st => if ((P.1 k).1 = 23 ∧ (P.1 v).1 = 7) ∧ inb i (P.1 k).2 then sN (pc + len) ls st (P.1, xu P.2.1 k i.toNatClampNeg (some v), P.2.2) I L C else none
    | _ => none
  | .new _ => match rz with
    | [5, ci, _, _, _] => mk (pc + len) ls st (ci + 1) 0 (fN ci) P I L C
    | 6 :: E :: _ => if catS st ≤ 8 then sT E else none
    | _ => none
  | .newarray t => match st with
    | .int a :: st => if inb a 10000 then (match t with
      | .int => mk (pc + len) ls st 20 a.toNatClampNeg a.toNatClampNeg P I L C
      | .long => mk (pc + len) ls st 21 a.toNatClampNeg a.toNatClampNeg P I L C
      | .byte => mk (pc + len) ls st 22 a.toNatClampNeg a.toNatClampNeg P I L C
      | _ => none) else none
    | _ => none
  | .anewarray _ => match rz, st with
    | [7, _, _], .int a :: st => if inb a 10000 then mk (pc + len) ls st 23 a.toNatClampNeg a.toNatClampNeg P I L C else none
    | _, _ => none
  | .invokestatic _ => match rz with
    | 2 :: mj :: _ :: _ :: _ :: _ :: ps => (match pops ps st [] with
      | some (as, st) => if catS st ≤ 8 then sC mj as st else none
      | none => none)
    | [3, _] => (match st with
      | .int n :: .int dp :: .ref a :: .int sp :: .ref a0 :: st => if (((P.1 a).1 = 20 ∧ (P.1 a0).1 = 20) ∧ ¬ sp < 0 ∧ ¬ dp < 0 ∧ ¬ n < 0) ∧ (sp.toNatClampNeg + n.toNatClampNeg ≤ (P.1 a0).2 ∧ dp.toNatClampNeg + n.toNatClampNeg ≤ (P.1 a).2) ∧ catS st ≤ 8 then sN (pc + len) ls st P (xr I a (va_cpy (I a0) (I a) sp.toNatClampNeg dp.toNatClampNeg n.toNatClampNeg)) L C else none
      | _ => none)
    | [10, _] => (match st with
      | .int y :: .int x :: st => if catS st ≤ 8 then sN (pc + len) ls (.int (if y < x then y else x) :: st) P I L C else none
      | _ => none)
    | [11, _] => (match st with
      | .int y :: .int x :: st => if catS st ≤ 8 then sN (pc + len) ls (.int (if x < y then y else x) :: st) P I L C else none
      | _ => none)
    | _ => none
  | .invokespecial _ => match rz with
    | 2 :: mj :: _ :: ci :: _ :: _ :: ps => (match pops ps st [] with
      | some (as, .ref k :: st) => if (P.1 k).1 = ci + 1 ∧ catS st ≤ 8 then sC mj (.ref k :: as) st else none
      | _ => none)
    | [4, _] => (match st with
      | .ref _ :: st => if catS st ≤ 8 then sN (pc + len) ls st P I L C else none
      | _ => none)
    | _ => none
  | .invokevirtual _ => match rz with
    | 2 :: mj :: _ :: ci :: _ :: _ :: ps => (match pops ps st [] with
      | some (as, .ref k :: st) => if (P.1 k).1 = ci + 1 ∧ catS st ≤ 8 then sC mj (.ref k :: as) st else none
      | _ => none)
    | _ => none
  | .return_ => match st with
    | [] => sR none
    | _ => none
  | .ireturn => match rz, st with
    | [0], [.int v] => sR (some (.int v))
    | [1], [.int v] => if v &&& 1 = v then sR (some (.int v)) else none
    | _, _ => none
  | .lreturn => match st with
    | [.long v] => sR (some (.long v))
    | _ => none
  | .dreturn => match st with
    | [.double v] => sR (some (.double v))
    | _ => none
  | .areturn => match st with
    | [.ref v] => sR (some (.ref v))
    | _ => none
  | _ => none
def xct (ct : Nat) : Nat := match ct with
  | 13 => 0
  | 15 => 1
  | 21 => 2
  | _ => 9
def hfind : List (Nat × Nat × Nat × Nat) → Nat → Nat → Option Nat
  | [], _, _ => none
  | (a, b, h, ct) :: r, pc, E => if a ≤ pc ∧ pc < b ∧ xct ct = E then some h else hfind r pc E
/-- at a handler's head the exception is put away -/
def hgo (mi h : Nat) (ls : List Value) : Option FR := match dec mi h with
  | some (.astore_n k, _, _) => some (h + 1, s1 ls k UN, [])
  | some (.astore k, _, _) => some (h + 2, s1 ls k UN, [])
  | _ => none
/-- the machine: f steps at most, d calls deep at most -/
def ex : Nat → Nat → Nat → FR → MM → Option (RV × MM)
  | 0, _, _, _, _ => none
  | f + 1, d, mi, fr, M => match dec mi fr.1 with
    | none => none
    | some (i, len, rz) => match stp fr.1 i len rz fr.2.1 fr.2.2 M.1 M.2.1 M.2.2.1 M.2.2.2 with
      | none => none
      | some (.inl (fr', M')) => ex f d mi fr' M'
      | some (.inr (.inl v)) => some (.inl v, M)
      | some (.inr (.inr (.inr E))) => some (.inr E, (M.1, M.2.1, M.2.2.1, (M.2.2.2.1 + 1, M.2.2.2.2 + 6)))
      | some (.inr (.inr (.inl (mj, as, st)))) => if d = 0 ∨ mL mj < (lay as).length then none else match ex f (d - 1) mj (0, ent mj as, []) M with
        | none => none
        | some (.inl v, M') => ex f d mi (fr.1 + 3, fr.2.1, v.toList ++ st) M'
        | some (.inr E, M') => match hfind (mG mi).2.2.2.2 fr.1 E with
          | none => some (.inr E, M')
          | some h => match hgo mi h fr.2.1 with
            | none => none
            | some fr' => ex f d mi fr' M'
theorem ex_mono {f : Nat} : ∀ {d mi : Nat} {fr : FR} {M : MM} {r : RV × MM}, ex f d mi fr M = some r → ex (f + 1) d mi fr M = some r := by
  induction f with
  | zero => intro d mi fr M r h; cases h
  | succ f ih =>
    intro d mi fr M r h
    rw [ex] at h ⊢
    cases hd : dec mi fr.1 with
    | none => rw [hd] at h; cases h
    | some q =>
      obtain ⟨i, len, rz⟩ := q
      rw [hd] at h
      dsimp only at h ⊢
      cases hs : stp fr.1 i len rz fr.2.1 fr.2.2 M.1 M.2.1 M.2.2.1 M.2.2.2 with
      | none => rw [hs] at h; cases h
      | some w =>
        rw [hs] at h
        rcases w with ⟨fr', M'⟩ | v | ⟨mj, as, st⟩ | E
        · exact ih h
        · exact h
        · dsimp only at h ⊢
          by_cases hc : d = 0 ∨ mL mj < (lay as).length
          · rw [if_pos hc] at h; cases h
          · rw [if_neg hc] at h ⊢
            cases he : ex f (d - 1) mj (0, ent mj as, []) M with
            | none => rw [he] at h; cases h
            | some z =>
              rw [he] at h
              rw [ih he]
              obtain ⟨v | E, M'⟩ := z
              · exact ih h
              · dsimp only at h ⊢
                cases hh : hfind (mG mi).2.2.2.2 fr.1 E with
                | none => rw [hh] at h; exact h
                | some hd2 =>
                  rw [hh] at h
                  dsimp only at h ⊢
                  cases hg : hgo mi hd2 fr.2.1 with
                  | none => rw [hg] at h; cases h
                  | some fr' => rw [hg] at h; exact ih h
        · exact h
theorem ex_more {f : Nat} (k : Nat) {d mi : Nat} {fr : FR} {M : MM} {r : RV × MM} (h : ex f d mi fr M = some r) : ex (f + k) d mi fr M = some r := by
  induction k with
  | zero => exact h
  | succ k ih => exact ex_mono ih
theorem ex_det {f g d mi : Nat} {fr : FR} {M : MM} {r r' : RV × MM} (h : ex f d mi fr M = some r) (h' : ex g d mi fr M = some r') : r = r' := by
  have h1 := ex_more g h
  have h2 := ex_more f h'
  rw [Nat.add_comm] at h2
  exact Option.some.inj (h1.symm.trans h2)
abbrev QT : Type := RV → MP → MI → ML → MC → Prop
/-- from here the method comes to an end with Q -/
def X (d mi pc : Nat) (ls st : List Value) (P : MP) (I : MI) (L : ML) (C : MC) (Q : QT) : Prop := ∃ (f : Nat) (r : RV × MM), ex f d mi (pc, ls, st) (P, I, L, C) = some r ∧ Q r.1 r.2.1 r.2.2.1 r.2.2.2.1 r.2.2.2.2
/-- a call -/
def Ct (d mj : Nat) (as : List Value) (P : MP) (I : MI) (L : ML) (C : MC) (Q : QT) : Prop := X d mj 0 (ent mj as) [] P I L C Q
/-- where a method goes on behind a call -/
def bk (d mi pc : Nat) (ls st : List Value) (Q : QT) : QT := fun r P I L C => match r with
  | .inl v => X d mi (pc + 3) ls (v.toList ++ st) P I L C Q
  | .inr E => match hfind (mG mi).2.2.2.2 pc E with
    | none => Q (.inr E) P I L C
    | some h => match hgo mi h ls with
      | none => False
      | some fr => X d mi fr.1 fr.2.1 fr.2.2 P I L C Q
def go (d mi pc : Nat) (ls : List Value) (P : MP) (I : MI) (L : ML) (C : MC) (Q : QT) (s : SR) : Prop := match s with
  | none => False
  | some (.inl (fr, M)) => X d mi fr.1 fr.2.1 fr.2.2 M.1 M.2.1 M.2.2.1 M.2.2.2 Q
  | some (.inr (.inl v)) => Q (.inl v) P I L C
  | some (.inr (.inr (.inl (mj, as, st)))) => ¬ (d = 0 ∨ mL mj < (lay as).length) ∧ Ct (d - 1) mj as P I L C (bk d mi pc ls st Q)
  | some (.inr (.inr (.inr E))) => Q (.inr E) P I L (C.1 + 1, C.2 + 6)
def go2 (d mi pc : Nat) (ls st : List Value) (P : MP) (I : MI) (L : ML) (C : MC) (Q : QT) (o : Option (ClassFile.Instr × Nat × List Nat)) : Prop := match o with
  | none => False
  | some (i, len, rz) => go d mi pc ls P I L C Q (stp pc i len rz ls st P I L C)
theorem X_go {d mi pc : Nat} {ls st : List Value} {P : MP} {I : MI} {L : ML} {C : MC} {Q : QT} : X d mi pc ls st P I L C Q = go2 d mi pc ls st P I L C Q (dec mi pc) := by
  apply propext
  constructor
  · rintro ⟨f, r, h, hq⟩
    cases f with
    | zero => cases h
    | succ f =>
      rw [ex] at h
      dsimp only at h
      unfold go2
      cases hd : dec mi pc with
      | none => rw [hd] at h; cases h
      | some q =>
        obtain ⟨i, len, rz⟩ := q
        rw [hd] at h
        dsimp only at h ⊢
        unfold go
        cases hs : stp pc i len rz ls st P I L C with
        | none => rw [hs] at h; cases h
        | some w =>
          rw [hs] at h
          rcases w with ⟨fr', M'⟩ | v | ⟨mj, as, st'⟩ | E
          · exact ⟨f, r, h, hq⟩
          · cases h; exact hq
          · dsimp only at h ⊢
            by_cases hc : d = 0 ∨ mL mj < (lay as).length
            · rw [if_pos hc] at h; cases h
            · rw [if_neg hc] at h
              refine ⟨hc, ?_⟩
              cases he : ex f (d - 1) mj (0, ent mj as, []) (P, I, L, C) with
              | none => rw [he] at h; cases h
              | some z =>
                rw [he] at h
                obtain ⟨v | E, M'⟩ := z
                · exact ⟨f, _, he, ⟨f, r, h, hq⟩⟩
                · refine ⟨f, _, he, ?_⟩
                  dsimp only at h
                  unfold bk
                  dsimp only
                  cases hh : hfind (mG mi).2.2.2.2 pc E with
                  | none => rw [hh] at h; cases h; exact hq
                  | some hd2 =>
                    rw [hh] at h
                    dsimp only at h ⊢
                    cases hg : hgo mi hd2 ls with
                    | none => rw [hg] at h; cases h
                    | some fr' => rw [hg] at h; exact ⟨f, r, h, hq⟩
          · cases h; exact hq
  · intro h
    unfold go2 at h
    cases hd : dec mi pc with
    | none => rw [hd] at h; exact h.elim
    | some q =>
      obtain ⟨i, len, rz⟩ := q
      rw [hd] at h
      dsimp only at h
      unfold go at h
      cases hs : stp pc i len rz ls st P I L C with
      | none => rw [hs] at h; exact h.elim
      | some w =>
        rw [hs] at h
        have step : ∀ f r, (match stp pc i len rz ls st P I L C with
            | none => none
            | some (.inl (fr', M')) => ex f d mi fr' M'
            | some (.inr (.inl v)) => some (.inl v, (P, I, L, C))
            | some (.inr (.inr (.inr E))) => some (.inr E, (P, I, L, (C.1 + 1, C.2 + 6)))
            | some (.inr (.inr (.inl (mj, as, st)))) => if d = 0 ∨ mL mj < (lay as).length then none else match ex f (d - 1) mj (0, ent mj as, []) (P, I, L, C) with
              | none => none
              | some (.inl v, M') => ex f d mi (pc + 3, ls, v.toList ++ st) M'
              | some (.inr E, M') => match hfind (mG mi).2.2.2.2 pc E with
                | none => some (.inr E, M')
                | some h => match hgo mi h ls with
                  | none => none
                  | some fr' => ex f d mi fr' M') = some r → ex (f + 1) d mi (pc, ls, st) (P, I, L, C) = some r := by
          intro f r hh
          rw [ex]
          dsimp only
          rw [hd]
          exact hh
        rw [hs] at step
        rcases w with ⟨fr', M'⟩ | v | ⟨mj, as, st'⟩ | E
        · obtain ⟨f, r, h1, hq⟩ := h
          exact ⟨f + 1, r, step f r h1, hq⟩
        · exact ⟨1, _, step 0 _ rfl, h⟩
        · obtain ⟨hc, f, z, he, hb⟩ := h
          dsimp only at step
          simp only [if_neg hc] at step
          obtain ⟨v | E, M'⟩ := z
          · obtain ⟨g, r, h1, hq⟩ := hb
            refine ⟨f + g + 1, r, step (f + g) r ?_, hq⟩
            rw [ex_more g he]
            dsimp only
            have := ex_more f h1
            rw [Nat.add_comm] at this
            exact this
          · unfold bk at hb
            dsimp only at hb
            cases hh : hfind (mG mi).2.2.2.2 pc E with
            | none =>
              rw [hh] at hb
              refine ⟨f + 1, _, step f (.inr E, M') ?_, hb⟩
              rw [he]
              dsimp only
              rw [hh]
            | some hd2 =>
              rw [hh] at hb
              dsimp only at hb
              cases hg : hgo mi hd2 ls with
              | none => rw [hg] at hb; exact hb.elim
              | some fr' =>
                rw [hg] at hb
                obtain ⟨g, r, h1, hq⟩ := hb
                refine ⟨f + g + 1, r, step (f + g) r ?_, hq⟩
                rw [ex_more g he]
                dsimp only
                rw [hh]
                dsimp only
                rw [hg]
                dsimp only
                have := ex_more f h1
                rw [Nat.add_comm] at this
                exact this
        · exact ⟨1, _, step 0 _ rfl, h⟩
theorem X_mono {d mi pc : Nat} {ls st : List Value} {P : MP} {I : MI} {L : ML} {C : MC} {Q Q' : QT} (h : X d mi pc ls st P I L C Q) (hq : ∀ r P I L C, Q r P I L C → Q' r P I L C) : X d mi pc ls st P I L C Q' := by
  obtain ⟨f, r, h1, h2⟩ := h
  exact ⟨f, r, h1, hq _ _ _ _ _ h2⟩
/-- what a call answers, told once, tells all that is asked of it -/
theorem Ct_eq {d mj : Nat} {as : List Value} {P : MP} {I : MI} {L : ML} {C : MC} {r0 : RV} {P0 : MP} {I0 : MI} {L0 : ML} {C0 : MC} (h : Ct d mj as P I L C (fun r P I L C => r = r0 ∧ P = P0 ∧ I = I0 ∧ L = L0 ∧ C = C0)) (Q : QT) : Ct d mj as P I L C Q = Q r0 P0 I0 L0 C0 := by
  obtain ⟨f, ⟨r, P1, I1, L1, C1⟩, h1, h2, h3, h4, h5, h6⟩ := h
  dsimp only at h2 h3 h4 h5 h6
  subst h2; subst h3; subst h4; subst h5; subst h6
  apply propext
  constructor
  · rintro ⟨g, r', g1, g2⟩
    have := ex_det h1 g1
    subst this
    exact g2
  · intro hq
    exact ⟨f, _, h1, hq⟩
theorem go_sN {d mi pc : Nat} {ls : List Value} {P : MP} {I : MI} {L : ML} {C : MC} {Q : QT} {pc' : Nat} {ls' st' : List Value} {P' : MP} {I' : MI} {L' : ML} {C' : MC} : go d mi pc ls P I L C Q (sN pc' ls' st' P' I' L' C') = X d mi pc' ls' st' P' I' L' C' Q := rfl
theorem go_sR {d mi pc : Nat} {ls : List Value} {P : MP} {I : MI} {L : ML} {C : MC} {Q : QT} {v : Option Value} : go d mi pc ls P I L C Q (sR v) = Q (.inl v) P I L C := rfl
theorem go_sC {d mi pc : Nat} {ls : List Value} {P : MP} {I : MI} {L : ML} {C : MC} {Q : QT} {mj : Nat} {as st : List Value} : go d mi pc ls P I L C Q (sC mj as st) = (¬ (d = 0 ∨ mL mj < (lay as).length) ∧ Ct (d - 1) mj as P I L C (bk d mi pc ls st Q)) := rfl
theorem go_sT {d mi pc : Nat} {ls : List Value} {P : MP} {I : MI} {L : ML} {C : MC} {Q : QT} {E : Nat} : go d mi pc ls P I L C Q (sT E) = Q (.inr E) P I L (C.1 + 1, C.2 + 6) := rfl
theorem go_no {d mi pc : Nat} {ls : List Value} {P : MP} {I : MI} {L : ML} {C : MC} {Q : QT} : go d mi pc ls P I L C Q none = False := rfl
theorem go_if {d mi pc : Nat} {ls : List Value} {P : MP} {I : MI} {L : ML} {C : MC} {Q : QT} {c : Prop} [Decidable c] {a b : SR} : go d mi pc ls P I L C Q (if c then a else b) = if c then go d mi pc ls P I L C Q a else go d mi pc ls P I L C Q b := by
  by_cases h : c
  · rw [if_pos h, if_pos h]
  · rw [if_neg h, if_neg h]
theorem go2_some {d mi pc : Nat} {ls st : List Value} {P : MP} {I : MI} {L : ML} {C : MC} {Q : QT} {i : ClassFile.Instr} {len : Nat} {rz : List Nat} : go2 d mi pc ls st P I L C Q (some (i, len, rz)) = go d mi pc ls P I L C Q (stp pc i len rz ls st P I L C) := rfl
theorem bk_v {d mi pc : Nat} {ls st : List Value} {P : MP} {I : MI} {L : ML} {C : MC} {Q : QT} {v : Value} : bk d mi pc ls st Q (.inl (some v)) P I L C = X d mi (pc + 3) ls (v :: st) P I L C Q := rfl
theorem bk_0 {d mi pc : Nat} {ls st : List Value} {P : MP} {I : MI} {L : ML} {C : MC} {Q : QT} : bk d mi pc ls st Q (.inl none) P I L C = X d mi (pc + 3) ls st P I L C Q := rfl
end
section
/-! SOUND, first part: worlds, values, locals -/
def conc (ad : Nat → Nat) (v : Value) : Value := match v with
  | .ref k => .ref (ad k)
  | w => w
def cv (ad : Nat → Nat) (vs : List Value) : List Value := vs.map (conc ad)
abbrev CY : Type := ClassId × ClassId × ClassId × ClassId
def fval (ad : Nat → Nat) (P : MP) (I : MI) (L : ML) (ty : FieldType) (k f : Nat) : Value := match ty with
  | .int => .int (I k f)
  | .long => .long (L k f)
  | _ => va_re ad (P.2.1 k f)
def flds (ad : Nat → Nat) (P : MP) (I : MI) (L : ML) (ci k : Nat) : List Value := (List.range (fN ci)).map (fun f => fval ad P I L (fY ci f) k f)
def elt (cy : CY) (ad : Nat → Nat) (P : MP) (I : MI) (L : ML) (k : Nat) : va_E :=
  if (P.1 k).1 = 20 then .inl (cy.1, (P.1 k).2, .inl (I k))
  else if (P.1 k).1 = 21 then .inl (cy.2.1, (P.1 k).2, .inr (.inl (L k)))
  else if (P.1 k).1 = 22 then .inl (cy.2.2.1, (P.1 k).2, .inl (I k))
  else if (P.1 k).1 = 23 then .inl (cy.2.2.2, (P.1 k).2, .inr (.inr (.inr (.inr (fun i => (P.2.1 k i).map ad)))))
  else .inr ((P.1 k).1 - 1, flds ad P I L ((P.1 k).1 - 1) k)
def wl (cy : CY) (ad : Nat → Nat) (P : MP) (I : MI) (L : ML) : va_W := (List.range P.2.2).map (fun j => (ad (j + 1), elt cy ad P I L (j + 1)))
def wf (P : MP) : Prop := (∀ k, (P.1 k).1 ≠ 0 → (k = 0 ∧ (P.1 k).1 = 30) ∨ (1 ≤ k ∧ k ≤ P.2.2 ∧ ((1 ≤ (P.1 k).1 ∧ (P.1 k).1 ≤ 11) ∨ (20 ≤ (P.1 k).1 ∧ (P.1 k).1 ≤ 23)))) ∧ ∀ k f a, P.2.1 k f = some a → 1 ≤ a ∧ a ≤ P.2.2
def vk (P : MP) (v : Value) : Prop := ∀ k, v = .ref k → k ≤ P.2.2
theorem wl_get {cy : CY} {ad : Nat → Nat} {P : MP} {I : MI} {L : ML} {k : Nat} (h1 : 1 ≤ k) (h2 : k ≤ P.2.2) : (wl cy ad P I L)[k - 1]? = some (ad k, elt cy ad P I L k) := by
  unfold wl
  rw [List.getElem?_map, List.getElem?_range (by omega)]
  simp only [Option.map_some]
  rw [show k - 1 + 1 = k by omega]
theorem wl_len {cy : CY} {ad : Nat → Nat} {P : MP} {I : MI} {L : ML} : (wl cy ad P I L).length = P.2.2 := by
  unfold wl; rw [List.length_map, List.length_range]
theorem wl_set {cy : CY} {ad : Nat → Nat} {P P' : MP} {I I' : MI} {L L' : ML} {k : Nat} {e : va_E} (h1 : 1 ≤ k) (h2 : k ≤ P.2.2) (hn : P'.2.2 = P.2.2) (he : elt cy ad P' I' L' k = e)
    (ho : ∀ j, j ≠ k → elt cy ad P' I' L' j = elt cy ad P I L j) : (wl cy ad P I L).set (k - 1) (ad k, e) = wl cy ad P' I' L' := by
  apply List.ext_getElem?
  intro i
  by_cases hi : i = k - 1
  · subst hi
    rw [List.getElem?_set_self (by rw [wl_len]; omega), wl_get h1 (by omega), he]
  · rw [List.getElem?_set_ne (Ne.symm hi)]
    by_cases hl : i < P.2.2
    · have g1 := wl_get (cy := cy) (ad := ad) (P := P) (I := I) (L := L) (k := i + 1) (by omega) (by omega)
      have g2 := wl_get (cy := cy) (ad := ad) (P := P') (I := I') (L := L') (k := i + 1) (by omega) (by omega)
      rw [Nat.add_sub_cancel] at g1 g2
      rw [g1, g2, ho (i + 1) (by omega)]
    · rw [List.getElem?_eq_none (by rw [wl_len]; omega), List.getElem?_eq_none (by rw [wl_len]; omega)]
theorem xr_s {α : Type} (f : Nat → α) (k : Nat) (r : α) : xr f k r k = r := if_pos rfl
theorem xr_n {α : Type} (f : Nat → α) {k j : Nat} (r : α) (h : j ≠ k) : xr f k r j = f j := if_neg h
theorem xu_s {α : Type} (f : Nat → Nat → α) (k j : Nat) (v : α) : xu f k j v k j = v := if_pos ⟨rfl, rfl⟩
theorem xu_n {α : Type} (f : Nat → Nat → α) {k j a b : Nat} (v : α) (h : a ≠ k ∨ b ≠ j) : xu f k j v a b = f a b := if_neg (fun q => h.elim (fun z => z q.1) (fun z => z q.2))
theorem xu_row {α : Type} (f : Nat → Nat → α) {k j a : Nat} (v : α) (h : a ≠ k) : xu f k j v a = f a := funext fun b => xu_n f v (Or.inl h)
theorem fval_ext {ad ad' : Nat → Nat} {P P' : MP} {I I' : MI} {L L' : ML} {ty : FieldType} {k f : Nat} (hI : I' k f = I k f) (hL : L' k f = L k f) (hp : (P'.2.1 k f).map ad' = (P.2.1 k f).map ad) : fval ad' P' I' L' ty k f = fval ad P I L ty k f := by
  unfold fval
  split
  · rw [hI]
  · rw [hL]
  · unfold va_re; rw [hp]
theorem elt_ext {cy : CY} {ad ad' : Nat → Nat} {P P' : MP} {I I' : MI} {L L' : ML} {k : Nat} (hk : P'.1 k = P.1 k) (hI : I' k = I k) (hL : L' k = L k) (hp : ∀ f, (P'.2.1 k f).map ad' = (P.2.1 k f).map ad) : elt cy ad' P' I' L' k = elt cy ad P I L k := by
  unfold elt flds
  rw [hk, hI, hL, show (fun i => (P'.2.1 k i).map ad') = (fun i => (P.2.1 k i).map ad) from funext hp]
  rw [show (fun f => fval ad' P' I' L' (fY ((P.1 k).1 - 1) f) k f) = (fun f => fval ad P I L (fY ((P.1 k).1 - 1) f) k f) from funext fun f => fval_ext (congrFun hI f) (congrFun hL f) (hp f)]
theorem wl_push {cy : CY} {ad : Nat → Nat} {P : MP} {I : MI} {L : ML} {t len q : Nat} {e : va_E} (hw : wf P)
    (he : elt cy (xr ad (P.2.2 + 1) q) (mkP P t len) (xr I (P.2.2 + 1) (fun _ => 0)) (xr L (P.2.2 + 1) (fun _ => 0)) (P.2.2 + 1) = e) :
    wl cy ad P I L ++ [(q, e)] = wl cy (xr ad (P.2.2 + 1) q) (mkP P t len) (xr I (P.2.2 + 1) (fun _ => 0)) (xr L (P.2.2 + 1) (fun _ => 0)) := by
  unfold wl
  show _ = List.map _ (List.range (P.2.2 + 1))
  rw [List.range_succ, List.map_append, List.map_singleton, he, xr_s]
  congr 1
  apply List.map_congr_left
  intro j hj
  have hj := List.mem_range.mp hj
  rw [xr_n _ _ (by omega)]
  congr 1
  symm
  refine elt_ext (xr_n _ _ (by omega)) (xr_n _ _ (by omega)) (xr_n _ _ (by omega)) fun f => ?_
  show ((xr P.2.1 (P.2.2 + 1) (fun _ => none)) (j + 1) f).map _ = _
  rw [xr_n _ _ (by omega)]
  cases hp : P.2.1 (j + 1) f with
  | none => rfl
  | some a =>
    have := (hw.2 _ _ _ hp).2
    simp only [Option.map_some]
    rw [xr_n _ _ (by omega)]
theorem wf_put {P : MP} (h : wf P) {k f v : Nat} (hv : 1 ≤ v ∧ v ≤ P.2.2) : wf (P.1, xu P.2.1 k f (some v), P.2.2) := by
  refine ⟨h.1, fun a b c hc => ?_⟩
  by_cases hab : a = k ∧ b = f
  · have h2 : xu P.2.1 k f (some v) a b = some v := if_pos hab
    have h3 : some v = some c := h2.symm.trans hc
    cases h3
    exact hv
  · have h2 : xu P.2.1 k f (some v) a b = P.2.1 a b := if_neg hab
    exact h.2 a b c (h2.symm.trans hc)
theorem wf_mk {P : MP} (h : wf P) {t len : Nat} (ht : (1 ≤ t ∧ t ≤ 11) ∨ (20 ≤ t ∧ t ≤ 23)) : wf (mkP P t len) := by
  refine ⟨fun k hk => ?_, fun k f a hf => ?_⟩
  · show (_ ∧ (xr P.1 (P.2.2 + 1) (t, len) k).1 = 30) ∨ (1 ≤ k ∧ k ≤ P.2.2 + 1 ∧ ((1 ≤ (xr P.1 (P.2.2 + 1) (t, len) k).1 ∧ (xr P.1 (P.2.2 + 1) (t, len) k).1 ≤ 11) ∨ (20 ≤ (xr P.1 (P.2.2 + 1) (t, len) k).1 ∧ (xr P.1 (P.2.2 + 1) (t, len) k).1 ≤ 23)))
    have hk' : (xr P.1 (P.2.2 + 1) (t, len) k).1 ≠ 0 := hk
    by_cases e : k = P.2.2 + 1
    · subst e
      rw [xr_s]
      exact Or.inr ⟨by omega, by omega, ht⟩
    · rw [xr_n _ _ e] at hk' ⊢
      rcases h.1 k hk' with g | ⟨g1, g2, g3⟩
      · exact Or.inl g
      · exact Or.inr ⟨g1, by omega, g3⟩
  · have hf' : (xr P.2.1 (P.2.2 + 1) (fun _ => none)) k f = some a := hf
    show 1 ≤ a ∧ a ≤ P.2.2 + 1
    by_cases e : k = P.2.2 + 1
    · subst e
      rw [xr_s] at hf'
      cases hf'
    · rw [xr_n _ _ e] at hf'
      have := h.2 k f a hf'
      omega
/-! values -/
theorem conc_cat (ad : Nat → Nat) (v : Value) : (conc ad v).category = v.category := by cases v <;> rfl
theorem catS_cv (ad : Nat → Nat) (st : List Value) : ((cv ad st).map fun v => v.category).sum = catS st := by
  unfold cv catS
  rw [List.map_map]
  congr 1
  exact List.map_congr_left fun v _ => conc_cat ad v
theorem conc_rf {ad : Nat → Nat} {r : Option Nat} : conc ad (va_rf r) = va_re ad r := by cases r <;> rfl
theorem conc_eq {ad ad' : Nat → Nat} {P : MP} (h : ∀ k, k ≤ P.2.2 → ad' k = ad k) {v : Value} (hv : vk P v) : conc ad' v = conc ad v := by
  cases v <;> first | rfl | skip
  rename_i k
  show Value.ref (ad' k) = Value.ref (ad k)
  rw [h k (hv k rfl)]
theorem cv_eq {ad ad' : Nat → Nat} {P : MP} (h : ∀ k, k ≤ P.2.2 → ad' k = ad k) {vs : List Value} (hv : ∀ v ∈ vs, vk P v) : cv ad' vs = cv ad vs :=
  List.map_congr_left fun v hm => conc_eq h (hv v hm)
theorem vk_mono {P P' : MP} (h : P.2.2 ≤ P'.2.2) {v : Value} (hv : vk P v) : vk P' v := fun k hk => Nat.le_trans (hv k hk) h
theorem vk_i (P : MP) (x : Int32) : vk P (.int x) := fun _ h => by cases h
theorem vk_l (P : MP) (x : Int64) : vk P (.long x) := fun _ h => by cases h
theorem vk_d (P : MP) (x : UInt64) : vk P (.double x) := fun _ h => by cases h
theorem vk_0 (P : MP) : vk P .null := fun _ h => by cases h
theorem vk_u (P : MP) : vk P UN := fun _ h => by cases h
theorem vk_rf {P : MP} (h : wf P) (k f : Nat) : vk P (va_rf (P.2.1 k f)) := by
  intro a ha
  cases hp : P.2.1 k f with
  | none => rw [hp] at ha; cases ha
  | some b => rw [hp] at ha; cases ha; exact (h.2 _ _ _ hp).2
/-! locals -/
def lh (lsA : Array Slot) (n : Nat) (ad : Nat → Nat) (ls : List Value) : Prop := lsA.size = n ∧ lv_wf lsA ∧ ls.length = n ∧ ∀ i v, gl ls i = some v → (∀ a, v ≠ .retAddr a) → lsA[i]? = some (.val (conc ad v))
theorem gl_eq (ls : List Value) (i : Nat) : gl ls i = ls[i]? := by
  induction ls generalizing i with
  | nil => cases i <;> rfl
  | cons v r ih =>
    cases i with
    | zero => rfl
    | succ n => exact ih n
theorem sl_eq (ls : List Value) (i : Nat) (w : Value) : sl ls i w = ls.set i w := by
  induction ls generalizing i with
  | nil => cases i <;> rfl
  | cons v r ih =>
    cases i with
    | zero => rfl
    | succ n => exact congrArg (v :: ·) (ih n)
theorem sl_len (ls : List Value) (i : Nat) (w : Value) : (sl ls i w).length = ls.length := by rw [sl_eq, List.length_set]
theorem k1_len (ls : List Value) (n : Nat) : (k1 ls n).length = ls.length := by
  unfold k1
  split
  · rfl
  · split
    · exact sl_len _ _ _
    · exact sl_len _ _ _
    · rfl
theorem s1_len (ls : List Value) (n : Nat) (v : Value) : (s1 ls n v).length = ls.length := by unfold s1; rw [sl_len, k1_len]
theorem s2_len (ls : List Value) (n : Nat) (v : Value) : (s2 ls n v).length = ls.length := by unfold s2; rw [sl_len, sl_len, k1_len]
theorem mem_sl {ls : List Value} {i : Nat} {w v : Value} (h : v ∈ sl ls i w) : v ∈ ls ∨ v = w := by
  rw [sl_eq] at h
  exact List.mem_or_eq_of_mem_set h
theorem mem_k1 {ls : List Value} {n : Nat} {v : Value} (h : v ∈ k1 ls n) : v ∈ ls ∨ v = UN := by
  unfold k1 at h
  split at h
  · exact Or.inl h
  · split at h
    · exact mem_sl h
    · exact mem_sl h
    · exact Or.inl h
theorem mem_s1 {ls : List Value} {n : Nat} {w v : Value} (h : v ∈ s1 ls n w) : v ∈ ls ∨ v = w ∨ v = UN := by
  rcases mem_sl h with h | h
  · rcases mem_k1 h with h | h
    · exact Or.inl h
    · exact Or.inr (Or.inr h)
  · exact Or.inr (Or.inl h)
theorem mem_s2 {ls : List Value} {n : Nat} {w v : Value} (h : v ∈ s2 ls n w) : v ∈ ls ∨ v = w ∨ v = UN := by
  rcases mem_sl h with h | h
  · rcases mem_sl h with h | h
    · rcases mem_k1 h with h | h
      · exact Or.inl h
      · exact Or.inr (Or.inr h)
    · exact Or.inr (Or.inl h)
  · exact Or.inr (Or.inr h)
/-- what is known behind the killing -/
theorem k1_get {ls : List Value} {n j : Nat} {w : Value} (h : gl (k1 ls n) j = some w) (hu : ∀ a, w ≠ .retAddr a) : gl ls j = some w ∧ ¬ (j + 1 = n ∧ w.category = 2) := by
  unfold k1 at h
  split at h
  · exact ⟨h, fun q => by omega⟩
  · rename_i i
    have key : ∀ x, gl ls i = some x → gl (sl ls i UN) j = some w → gl ls j = some w ∧ ¬ (j + 1 = i + 1 ∧ w.category = 2) := by
      intro x hx hh
      rw [sl_eq, gl_eq] at hh
      by_cases e : j = i
      · subst e
        have hl : j < ls.length := by rw [gl_eq] at hx; exact (List.getElem?_eq_some_iff.mp hx).1
        rw [List.getElem?_set_self hl] at hh
        cases hh
        exact absurd rfl (hu 0)
      · rw [List.getElem?_set_ne (Ne.symm e)] at hh
        rw [gl_eq]
        exact ⟨hh, fun q => e (by omega)⟩
    split at h
    · rename_i hx; exact key _ hx h
    · rename_i hx; exact key _ hx h
    · rename_i h1 h2
      refine ⟨h, fun q => ?_⟩
      have e : j = i := by omega
      subst e
      cases w <;> simp [Value.category] at q
      · exact h1 _ h
      · exact h2 _ h
def prs (ad : Nat → Nat) (ls : List Value) : List (Nat × Value) := (List.range ls.length).filterMap fun i => match gl ls i with
  | some (.retAddr _) => none
  | some v => some (i, conc ad v)
  | none => none
theorem mem_prs {ad : Nat → Nat} {ls : List Value} {q : Nat × Value} : q ∈ prs ad ls ↔ ∃ v, gl ls q.1 = some v ∧ (∀ a, v ≠ .retAddr a) ∧ q.2 = conc ad v := by
  unfold prs
  rw [List.mem_filterMap]
  constructor
  · rintro ⟨i, hi, h⟩
    cases hg : gl ls i with
    | none => rw [hg] at h; cases h
    | some v =>
      rw [hg] at h
      cases v <;> dsimp only at h <;> cases h <;> (refine ⟨_, hg, ?_, rfl⟩; intro a z; cases z)
  · rintro ⟨v, h1, h2, h3⟩
    have hl : q.1 < ls.length := by rw [gl_eq] at h1; exact (List.getElem?_eq_some_iff.mp h1).1
    refine ⟨q.1, List.mem_range.mpr hl, ?_⟩
    rw [h1]
    cases v <;> first | exact absurd rfl (h2 _) | (show some (q.1, _) = some q; rw [← h3])
theorem lh_has {lsA : Array Slot} {n : Nat} {ad : Nat → Nat} {ls : List Value} (h : lh lsA n ad ls) : lv_has lsA n (prs ad ls) := by
  refine ⟨h.1, h.2.1, fun q hq => ?_⟩
  obtain ⟨v, h1, h2, h3⟩ := mem_prs.mp hq
  rw [h3]
  exact h.2.2.2 _ _ h1 h2
theorem lh_at {lsA : Array Slot} {n : Nat} {ad : Nat → Nat} {ls : List Value} (h : lh lsA n ad ls) {i : Nat} {v : Value} (hg : gl ls i = some v) (hu : ∀ a, v ≠ .retAddr a) : lsA[i]? = some (.val (conc ad v)) := h.2.2.2 i v hg hu
theorem lh_s1 {lsA : Array Slot} {n : Nat} {ad : Nat → Nat} {ls : List Value} {i : Nat} {v : Value} (hlen : ls.length = n) (h : lv_has lsA n ((i, conc ad v) :: (prs ad ls).filter (fun q => !(q.1 == i) && !(q.1 + 1 == i && q.2.category == 2)))) : lh lsA n ad (s1 ls i v) := by
  refine ⟨h.1, h.2.1, by rw [s1_len]; exact hlen, fun j w hj hu => ?_⟩
  unfold s1 at hj
  rw [sl_eq, gl_eq] at hj
  by_cases e : j = i
  · subst e
    have hl : j < (k1 ls j).length := by
      have := (List.getElem?_eq_some_iff.mp hj).1
      rw [List.length_set] at this
      exact this
    rw [List.getElem?_set_self hl] at hj
    cases hj
    exact h.2.2 (j, conc ad v) List.mem_cons_self
  · rw [List.getElem?_set_ne (Ne.symm e), ← gl_eq] at hj
    obtain ⟨g1, g2⟩ := k1_get hj hu
    refine h.2.2 (j, conc ad w) (List.mem_cons_of_mem _ (List.mem_filter.mpr ⟨mem_prs.mpr ⟨w, g1, hu, rfl⟩, ?_⟩))
    rw [conc_cat]
    have e1 : (j == i) = false := by simpa using e
    rw [e1]
    by_cases e2 : j + 1 = i
    · have e3 : ¬ w.category = 2 := fun z => g2 ⟨e2, z⟩
      simp [e3]
    · simp [e2]
theorem lh_s2 {lsA : Array Slot} {n : Nat} {ad : Nat → Nat} {ls : List Value} {i : Nat} {v : Value} (hlen : ls.length = n) (h : lv_has lsA n ((i, conc ad v) :: (prs ad ls).filter (fun q => !(q.1 == i) && (!(q.1 == i + 1) && !(q.1 + 1 == i && q.2.category == 2))))) : lh lsA n ad (s2 ls i v) := by
  refine ⟨h.1, h.2.1, by rw [s2_len]; exact hlen, fun j w hj hu => ?_⟩
  unfold s2 at hj
  rw [sl_eq, sl_eq, gl_eq] at hj
  by_cases e9 : j = i + 1
  · subst e9
    have hl : i + 1 < ((k1 ls i).set i v).length := by
      have := (List.getElem?_eq_some_iff.mp hj).1
      rw [List.length_set] at this
      exact this
    rw [List.getElem?_set_self hl] at hj
    cases hj
    exact absurd rfl (hu 0)
  · rw [List.getElem?_set_ne (Ne.symm e9)] at hj
    by_cases e : j = i
    · subst e
      have hl : j < (k1 ls j).length := by
        have := (List.getElem?_eq_some_iff.mp hj).1
        rw [List.length_set] at this
        exact this
      rw [List.getElem?_set_self hl] at hj
      cases hj
      exact h.2.2 (j, conc ad v) List.mem_cons_self
    · rw [List.getElem?_set_ne (Ne.symm e), ← gl_eq] at hj
      obtain ⟨g1, g2⟩ := k1_get hj hu
      refine h.2.2 (j, conc ad w) (List.mem_cons_of_mem _ (List.mem_filter.mpr ⟨mem_prs.mpr ⟨w, g1, hu, rfl⟩, ?_⟩))
      rw [conc_cat]
      have e1 : (j == i) = false := by simpa using e
      have e4 : (j == i + 1) = false := by simpa using e9
      rw [e1, e4]
      by_cases e2 : j + 1 = i
      · have e3 : ¬ w.category = 2 := fun z => g2 ⟨e2, z⟩
        simp [e3]
      · simp [e2]
theorem lh_ad {lsA : Array Slot} {n : Nat} {ad ad' : Nat → Nat} {P : MP} {ls : List Value} (h : lh lsA n ad ls) (he : ∀ k, k ≤ P.2.2 → ad' k = ad k) (hv : ∀ v ∈ ls, vk P v) : lh lsA n ad' ls := by
  refine ⟨h.1, h.2.1, h.2.2.1, fun i v hg hu => ?_⟩
  rw [conc_eq he (hv v (by rw [gl_eq] at hg; exact List.mem_of_getElem? hg))]
  exact h.2.2.2 i v hg hu
end
section
/-! SOUND, second part: what stays true of the tables; one step -/
def tw (w : Cond) : Bool := goodWord w || (match w with
  | .fieldLinkNest .. => true
  | .methodLinkNest .. => true
  | .castable .. => true
  | _ => false)
def GT : List Cond := lw_tbl.filter tw
theorem tw_moves {w : Cond} (h : tw w = true) {s U : State} (hW : s.WarmedH U.vm) {a a' : Array Value} (hb : w.before a s = true) : w.before a' U = true := by
  unfold tw at h
  rw [Bool.or_eq_true] at h
  rcases h with h | h
  · exact word_at hW (good_of_word h) hb
  · revert hb
    split at h
    · intro hb; exact va_Nw.use rfl (va_Nw.warmF hW (va_Nw.of rfl hb))
    · intro hb; exact va_Nw.use rfl (va_Nw.warmM hW (va_Nw.of rfl hb))
    · intro hb; exact va_Nw.use rfl (va_Nw.warmC hW (va_Nw.of rfl hb))
    · cases h
theorem mem_GT {i : Nat} {w : Cond} (h : lw_tbl[i]? = some w) (ht : tw w = true) : w ∈ GT := List.mem_filter.mpr ⟨List.mem_of_getElem? h, ht⟩
theorem mem_GT1 {i : Nat} {w : Cond} (h : tables_1[i]? = some w) (ht : tw w = true) : w ∈ GT := List.mem_filter.mpr ⟨List.mem_append_right _ (List.mem_of_getElem? h), ht⟩
def strT : List (Nat × String) := [(281, "no such table"), (290, "out of range"), (92, "a link leads to a higher table"), (106, "the table is full"), (284, "no such entry"), (288, "no such rarity"), (172, "the index is negative"), (286, "no such item"), (243, "the text is full"), (261, "no state is saved")]
abbrev XX : Type := Nat × Nat × (Nat → Int32)
def SV (D : va_G) (cy : CY) (U : State) : Prop := (∀ w ∈ GT, ∀ a : Array Value, w.before a U = true) ∧ va_K D vwCl [(cy.1, .int), (cy.2.1, .long), (cy.2.2.1, .byte), (cy.2.2.2, .object RX6)] U ∧ (∀ q ∈ strT, ∃ sa, vk_R RX9 q.1 q.2 sa U) ∧ (∀ i j, i < 3 → j < 3 → i ≠ j → va_Nc (xcN i) (xcN j) U) ∧ va_AO RX6 U
def SH (L0 : Nat) (x0 : XX) (U : State) (H : Heap) : Prop := vx_Zq Bundle.tN "UNASSIGNED_STACK" Bundle.steD (fun q => L0 ≤ q) U H ∧ vx_Zq Bundle.tN "SUPPRESSED_SENTINEL" Bundle.listD (fun q => L0 ≤ q) U H ∧ va_X x0.1 x0.2.1 x0.2.2 U H ∧ x0.1 < L0 ∧ L0 ≤ H.size
theorem SV_moves {D : va_G} {cy : CY} {s U : State} (hW : s.WarmedH U.vm) (h : SV D cy s) : SV D cy U :=
  ⟨fun w hw a => tw_moves (List.mem_filter.mp hw).2 hW (h.1 w hw #[]), va_K.moved hW.alike h.2.1, fun q hq => (h.2.2.1 q hq).imp fun _ z => vk_R.warm hW z, fun i j hi hj n => va_Nc.moved hW.alike (h.2.2.2.1 i j hi hj n), va_AO.moved hW.alike h.2.2.2.2⟩
theorem SH_moves {L0 : Nat} {x0 : XX} {s U : State} {H : Heap} {locs : List Loc} (hvm : s.vm.Alike U.vm) (hS : va_S (fun q => L0 ≤ q) s.heap H locs) (h : SH L0 x0 s s.heap) : SH L0 x0 U H :=
  ⟨vx_Zq.moved hvm (h.1.kept hS.2.1), vx_Zq.moved hvm (h.2.1.kept hS.2.1), va_X.moved hvm (h.2.2.1.kept (hS.2.1 _ (Nat.lt_of_lt_of_le h.2.2.2.1 h.2.2.2.2) (Nat.not_le.mpr h.2.2.2.1))), h.2.2.2.1, Nat.le_trans h.2.2.2.2 hS.1⟩
def FO (p : Program) (s : State) (m : MethodId) (meth : Method) (c : Code) (mi : Nat) : Prop := p.tables.exec = Jvm.exec ∧ c.code = (mG mi).2.1 ∧ c.maxLocals = mL mi ∧ meth.sig.returnType = (mG mi).2.2.2.1 ∧ s.vm.findClass (cn (mO mi)) = some m.cls ∧ meth.locks = false ∧ c.exceptionTable.toList = tableOf (mG mi).2.2.2.2 ∧ meth.name = (mG mi).1.name
def IV (D : va_G) (cy : CY) (L0 : Nat) (x0 : XX) (s : State) (mi : Nat) (ad : Nat → Nat) (P : MP) (I : MI) (L : ML) (ls st : List Value) (lsA : Array Slot) (H : Heap) (locs : List Loc) : Prop :=
  va_P D vwCl (wl cy ad P I L) H ∧ va_D (fun q => L0 ≤ q) (wl cy ad P I L) ∧ wf P ∧ va_S (fun q => L0 ≤ q) s.heap H locs ∧ lh lsA (mL mi) ad ls ∧ (∀ v ∈ ls, vk P v) ∧ (∀ v ∈ st, vk P v) ∧ P.1 0 = (30, x0.2.1) ∧ ad 0 = x0.1 ∧ I 0 = x0.2.2
theorem IV.stk {D : va_G} {cy : CY} {L0 : Nat} {x0 : XX} {s : State} {mi : Nat} {ad : Nat → Nat} {P : MP} {I : MI} {L : ML} {ls st st' : List Value} {lsA : Array Slot} {H : Heap} {locs : List Loc} (h : IV D cy L0 x0 s mi ad P I L ls st lsA H locs) (hv : ∀ v ∈ st', vk P v) : IV D cy L0 x0 s mi ad P I L ls st' lsA H locs :=
  ⟨h.1, h.2.1, h.2.2.1, h.2.2.2.1, h.2.2.2.2.1, h.2.2.2.2.2.1, hv, h.2.2.2.2.2.2.2⟩
theorem IV.loc {D : va_G} {cy : CY} {L0 : Nat} {x0 : XX} {s : State} {mi : Nat} {ad : Nat → Nat} {P : MP} {I : MI} {L : ML} {ls ls' st st' : List Value} {lsA lsA' : Array Slot} {H : Heap} {locs : List Loc} (h : IV D cy L0 x0 s mi ad P I L ls st lsA H locs) (hl : lh lsA' (mL mi) ad ls') (hw : ∀ v ∈ ls', vk P v) (hv : ∀ v ∈ st', vk P v) : IV D cy L0 x0 s mi ad P I L ls' st' lsA' H locs :=
  ⟨h.1, h.2.1, h.2.2.1, h.2.2.2.1, hl, hw, hv, h.2.2.2.2.2.2.2⟩

theorem ldI_inv {ls : List Value} {k pc : Nat} {st : List Value} {P : MP} {I : MI} {L : ML} {C : MC} {w} (h : ldI ls k pc st P I L C = some w) : ∃ v, gl ls k = some (.int v) ∧ w = .inl ((pc, ls, .int v :: st), (P, I, L, C)) := by
  unfold ldI at h
  split at h
  · rename_i v hg
    cases h
    exact ⟨v, hg, rfl⟩
  · cases h
theorem ldA_inv {ls : List Value} {k pc : Nat} {st : List Value} {P : MP} {I : MI} {L : ML} {C : MC} {w} (h : ldA ls k pc st P I L C = some w) : ∃ v, gl ls k = some (.ref v) ∧ w = .inl ((pc, ls, .ref v :: st), (P, I, L, C)) := by
  unfold ldA at h
  split at h
  · rename_i v hg
    cases h
    exact ⟨v, hg, rfl⟩
  · cases h
theorem ldL_inv {ls : List Value} {k pc : Nat} {st : List Value} {P : MP} {I : MI} {L : ML} {C : MC} {w} (h : ldL ls k pc st P I L C = some w) : ∃ v, gl ls k = some (.long v) ∧ w = .inl ((pc, ls, .long v :: st), (P, I, L, C)) := by
  unfold ldL at h
  split at h
  · rename_i v hg
    cases h
    exact ⟨v, hg, rfl⟩
  · cases h
theorem ldD_inv {ls : List Value} {k pc : Nat} {st : List Value} {P : MP} {I : MI} {L : ML} {C : MC} {w} (h : ldD ls k pc st P I L C = some w) : ∃ v, gl ls k = some (.double v) ∧ w = .inl ((pc, ls, .double v :: st), (P, I, L, C)) := by
  unfold ldD at h
  split at h
  · rename_i v hg
    cases h
    exact ⟨v, hg, rfl⟩
  · cases h
theorem stI_inv {ls : List Value} {k pc : Nat} {st : List Value} {P : MP} {I : MI} {L : ML} {C : MC} {w} (h : stI ls k pc st P I L C = some w) : ∃ v st', st = .int v :: st' ∧ w = .inl ((pc, s1 ls k (.int v), st'), (P, I, L, C)) := by
  unfold stI at h
  split at h
  · cases h
    exact ⟨_, _, rfl, rfl⟩
  · cases h
theorem stA_inv {ls : List Value} {k pc : Nat} {st : List Value} {P : MP} {I : MI} {L : ML} {C : MC} {w} (h : stA ls k pc st P I L C = some w) : ∃ v st', st = .ref v :: st' ∧ w = .inl ((pc, s1 ls k (.ref v), st'), (P, I, L, C)) := by
  unfold stA at h
  split at h
  · cases h
    exact ⟨_, _, rfl, rfl⟩
  · cases h
theorem stL_inv {ls : List Value} {k pc : Nat} {st : List Value} {P : MP} {I : MI} {L : ML} {C : MC} {w} (h : stL ls k pc st P I L C = some w) : ∃ v st', st = .long v :: st' ∧ w = .inl ((pc, s2 ls k (.long v), st'), (P, I, L, C)) := by
  unfold stL at h
  split at h
  · cases h
    exact ⟨_, _, rfl, rfl⟩
  · cases h
theorem stD_inv {ls : List Value} {k pc : Nat} {st : List Value} {P : MP} {I : MI} {L : ML} {C : MC} {w} (h : stD ls k pc st P I L C = some w) : ∃ v st', st = .double v :: st' ∧ w = .inl ((pc, s2 ls k (.double v), st'), (P, I, L, C)) := by
  unfold stD at h
  split at h
  · cases h
    exact ⟨_, _, rfl, rfl⟩
  · cases h
theorem o1I_inv {f : Int32 → Value} {pc : Nat} {ls st : List Value} {P : MP} {I : MI} {L : ML} {C : MC} {w} (h : o1I f pc ls st P I L C = some w) : ∃ x st', st = .int x :: st' ∧ w = .inl ((pc, ls, f x :: st'), (P, I, L, C)) := by
  unfold o1I at h
  split at h
  · cases h
    exact ⟨_, _, rfl, rfl⟩
  · cases h
theorem o2I_inv {f : Int32 → Int32 → Int32} {pc : Nat} {ls st : List Value} {P : MP} {I : MI} {L : ML} {C : MC} {w} (h : o2I f pc ls st P I L C = some w) : ∃ x y st', st = .int y :: .int x :: st' ∧ w = .inl ((pc, ls, .int (f x y) :: st'), (P, I, L, C)) := by
  unfold o2I at h
  split at h
  · cases h
    exact ⟨_, _, _, rfl, rfl⟩
  · cases h
theorem o2L_inv {f : Int64 → Int64 → Int64} {pc : Nat} {ls st : List Value} {P : MP} {I : MI} {L : ML} {C : MC} {w} (h : o2L f pc ls st P I L C = some w) : ∃ x y st', st = .long y :: .long x :: st' ∧ w = .inl ((pc, ls, .long (f x y) :: st'), (P, I, L, C)) := by
  unfold o2L at h
  split at h
  · cases h
    exact ⟨_, _, _, rfl, rfl⟩
  · cases h
theorem ckT1_inv {pc : Nat} {o : Int} {rz : List Nat} (h : ckT1 pc o rz = true) : ∃ t, rz = [t] ∧ (pc : Int) + o = (t : Int) := by
  unfold ckT1 at h
  split at h
  · exact ⟨_, rfl, by simpa using h⟩
  · cases h

theorem ckLk_inv {mi idx : Nat} {rz : List Nat} (h : ckLk mi idx rz = true) (hn : rz ≠ []) : lkB (mO mi * 1000 + idx) rz = true ∧ (mO mi * 1000 + idx) / 1000 = mO mi ∧ (mO mi * 1000 + idx) % 1000 = idx := by
  unfold ckLk at h
  rw [Bool.or_eq_true, Bool.and_eq_true, decide_eq_true_eq] at h
  rcases h with h | h
  · exact absurd (beq_iff_eq.mp h) hn
  · exact ⟨lk_ok (beq_iff_eq.mp h.2), by omega, by omega⟩
section SND
variable {p : Program} {l : Launch} {e : Env} {R : Room} {s : State} {m : MethodId} {args : Array Value} {below : List Frame} {meth : Method} {c : Code} {H : Heap} {locs : List Loc} {cells slots : Nat} {Q : State → Prop}
variable {D : va_G} {cy : CY} {L0 : Nat} {x0 : XX} {mi : Nat} {ad : Nat → Nat} {P P' : MP} {I I' : MI} {L L' : ML} {C C' : MC} {ls ls' st st' : List Value} {lsA : Array Slot} {pc pc' : Nat} {i : ClassFile.Instr} {len : Nat} {rz : List Nat}
/-- how it goes on behind a step -/
def KN (p : Program) (l : Launch) (e : Env) (R : Room) (s : State) (m : MethodId) (args : Array Value) (below : List Frame) (meth : Method) (c : Code) (cells slots : Nat) (Q : State → Prop) (D : va_G) (cy : CY) (L0 : Nat) (x0 : XX) (mi : Nat) (ad : Nat → Nat) (P : MP) (C : MC) (w : FR × MM) : Prop :=
  ∀ (ad' : Nat → Nat) (lsA' : Array Slot) (H' : Heap) (locs' : List Loc), (∀ k, k ≤ P.2.2 → ad' k = ad k) → P.2.2 ≤ w.2.1.2.2 → IV D cy L0 x0 s mi ad' w.2.1 w.2.2.1 w.2.2.2.1 w.1.2.1 w.1.2.2 lsA' H' locs' →
    W p l e R s m args below meth c H' locs' (cells + (w.2.2.2.2.1 - C.1)) (slots + (w.2.2.2.2.2 - C.2)) Q (F0 m w.1.1 lsA' (cv ad' w.1.2.2))
theorem KN.pure {pc1 : Nat} {st1 : List Value} (k : KN p l e R s m args below meth c cells slots Q D cy L0 x0 mi ad P C ((pc1, ls, st1), (P, I, L, C))) (h : IV D cy L0 x0 s mi ad P I L ls st lsA H locs) (hv : ∀ v ∈ st1, vk P v) :
    W p l e R s m args below meth c H locs cells slots Q (F0 m pc1 lsA (cv ad st1)) := by
  have := k ad lsA H locs (fun _ _ => rfl) (Nat.le_refl _) (h.stk hv)
  simpa only [Nat.sub_self, Nat.add_zero] using this
theorem KN.lcs {pc1 : Nat} {ls1 st1 : List Value} {lsA1 : Array Slot} (k : KN p l e R s m args below meth c cells slots Q D cy L0 x0 mi ad P C ((pc1, ls1, st1), (P, I, L, C))) (h : IV D cy L0 x0 s mi ad P I L ls st lsA H locs) (hl : lh lsA1 (mL mi) ad ls1) (hw : ∀ v ∈ ls1, vk P v) (hv : ∀ v ∈ st1, vk P v) :
    W p l e R s m args below meth c H locs cells slots Q (F0 m pc1 lsA1 (cv ad st1)) := by
  have := k ad lsA1 H locs (fun _ _ => rfl) (Nat.le_refl _) (h.loc hl hw hv)
  simpa only [Nat.sub_self, Nat.add_zero] using this

set_option maxHeartbeats 4000000 in
theorem sx_aload_n {n : Fin 4} (fo : FO p s m meth c mi) (sv : SV D cy s) (sh : SH L0 x0 s s.heap) (hd : dec mi pc = some (.aload_n n, len, rz)) (hI : IV D cy L0 x0 s mi ad P I L ls st lsA H locs) {w : FR × MM} (hs : stp pc (.aload_n n) len rz ls st P I L C = some (.inl w)) (hcR : cells + w.2.2.2.2.1 ≤ R.cells + C.1) (hsR : slots + w.2.2.2.2.2 ≤ R.slots + C.2) (hfR : 8 ≤ R.frames) (hlR : 128 ≤ R.locals)
    (k : KN p l e R s m args below meth c cells slots Q D cy L0 x0 mi ad P C w) : W p l e R s m args below meth c H locs cells slots Q (F0 m pc lsA (cv ad st)) := by
  obtain ⟨hdec, hck⟩ := dec_ok hd
  obtain ⟨hx, hb, hml, hrt, hown, hlocks, htab, hnm⟩ := fo
  have hts : ∀ w ∈ GT, w.before args s = true := fun w hw => sv.1 w hw args
  obtain ⟨hP, hD, hwf, hS, hlh, hlv, hsv, hx1, hx2, hx3⟩ := id hI
  simp only [stp] at hs
  simp only [ckR, Bool.and_eq_true, beq_iff_eq, decide_eq_true_eq] at hck
  subst hck
  obtain ⟨v, hg, hw⟩ := ldA_inv hs
  cases hw
  exact lv_aload_n (rest := cv ad st) hx hb hdec rfl (lh_at hlh hg (by intro a z; cases z)) (KN.pure k hI (List.forall_mem_cons.mpr ⟨hlv _ (by rw [gl_eq] at hg; exact List.mem_of_getElem? hg), hsv⟩))

set_option maxHeartbeats 4000000 in
theorem sx_iload_n {n : Fin 4} (fo : FO p s m meth c mi) (sv : SV D cy s) (sh : SH L0 x0 s s.heap) (hd : dec mi pc = some (.iload_n n, len, rz)) (hI : IV D cy L0 x0 s mi ad P I L ls st lsA H locs) {w : FR × MM} (hs : stp pc (.iload_n n) len rz ls st P I L C = some (.inl w)) (hcR : cells + w.2.2.2.2.1 ≤ R.cells + C.1) (hsR : slots + w.2.2.2.2.2 ≤ R.slots + C.2) (hfR : 8 ≤ R.frames) (hlR : 128 ≤ R.locals)
    (k : KN p l e R s m args below meth c cells slots Q D cy L0 x0 mi ad P C w) : W p l e R s m args below meth c H locs cells slots Q (F0 m pc lsA (cv ad st)) := by
  obtain ⟨hdec, hck⟩ := dec_ok hd
  obtain ⟨hx, hb, hml, hrt, hown, hlocks, htab, hnm⟩ := fo
  have hts : ∀ w ∈ GT, w.before args s = true := fun w hw => sv.1 w hw args
  obtain ⟨hP, hD, hwf, hS, hlh, hlv, hsv, hx1, hx2, hx3⟩ := id hI
  simp only [stp] at hs
  simp only [ckR, Bool.and_eq_true, beq_iff_eq, decide_eq_true_eq] at hck
  subst hck
  obtain ⟨v, hg, hw⟩ := ldI_inv hs
  cases hw
  exact lv_iload_n (rest := cv ad st) hx hb hdec rfl (lh_at hlh hg (by intro a z; cases z)) (KN.pure k hI (List.forall_mem_cons.mpr ⟨vk_i P _, hsv⟩))

set_option maxHeartbeats 4000000 in
theorem sx_lload_n {n : Fin 4} (fo : FO p s m meth c mi) (sv : SV D cy s) (sh : SH L0 x0 s s.heap) (hd : dec mi pc = some (.lload_n n, len, rz)) (hI : IV D cy L0 x0 s mi ad P I L ls st lsA H locs) {w : FR × MM} (hs : stp pc (.lload_n n) len rz ls st P I L C = some (.inl w)) (hcR : cells + w.2.2.2.2.1 ≤ R.cells + C.1) (hsR : slots + w.2.2.2.2.2 ≤ R.slots + C.2) (hfR : 8 ≤ R.frames) (hlR : 128 ≤ R.locals)
    (k : KN p l e R s m args below meth c cells slots Q D cy L0 x0 mi ad P C w) : W p l e R s m args below meth c H locs cells slots Q (F0 m pc lsA (cv ad st)) := by
  obtain ⟨hdec, hck⟩ := dec_ok hd
  obtain ⟨hx, hb, hml, hrt, hown, hlocks, htab, hnm⟩ := fo
  have hts : ∀ w ∈ GT, w.before args s = true := fun w hw => sv.1 w hw args
  obtain ⟨hP, hD, hwf, hS, hlh, hlv, hsv, hx1, hx2, hx3⟩ := id hI
  simp only [stp] at hs
  simp only [ckR, Bool.and_eq_true, beq_iff_eq, decide_eq_true_eq] at hck
  subst hck
  obtain ⟨v, hg, hw⟩ := ldL_inv hs
  cases hw
  exact lv_lload_n (rest := cv ad st) hx hb hdec rfl (lh_at hlh hg (by intro a z; cases z)) (KN.pure k hI (List.forall_mem_cons.mpr ⟨vk_l P _, hsv⟩))

set_option maxHeartbeats 4000000 in
theorem sx_dload_n {n : Fin 4} (fo : FO p s m meth c mi) (sv : SV D cy s) (sh : SH L0 x0 s s.heap) (hd : dec mi pc = some (.dload_n n, len, rz)) (hI : IV D cy L0 x0 s mi ad P I L ls st lsA H locs) {w : FR × MM} (hs : stp pc (.dload_n n) len rz ls st P I L C = some (.inl w)) (hcR : cells + w.2.2.2.2.1 ≤ R.cells + C.1) (hsR : slots + w.2.2.2.2.2 ≤ R.slots + C.2) (hfR : 8 ≤ R.frames) (hlR : 128 ≤ R.locals)
    (k : KN p l e R s m args below meth c cells slots Q D cy L0 x0 mi ad P C w) : W p l e R s m args below meth c H locs cells slots Q (F0 m pc lsA (cv ad st)) := by
  obtain ⟨hdec, hck⟩ := dec_ok hd
  obtain ⟨hx, hb, hml, hrt, hown, hlocks, htab, hnm⟩ := fo
  have hts : ∀ w ∈ GT, w.before args s = true := fun w hw => sv.1 w hw args
  obtain ⟨hP, hD, hwf, hS, hlh, hlv, hsv, hx1, hx2, hx3⟩ := id hI
  simp only [stp] at hs
  simp only [ckR, Bool.and_eq_true, beq_iff_eq, decide_eq_true_eq] at hck
  subst hck
  obtain ⟨v, hg, hw⟩ := ldD_inv hs
  cases hw
  exact lv_dload_n (rest := cv ad st) hx hb hdec rfl (lh_at hlh hg (by intro a z; cases z)) (KN.pure k hI (List.forall_mem_cons.mpr ⟨vk_d P _, hsv⟩))

set_option maxHeartbeats 4000000 in
theorem sx_aload {n : Nat} (fo : FO p s m meth c mi) (sv : SV D cy s) (sh : SH L0 x0 s s.heap) (hd : dec mi pc = some (.aload n, len, rz)) (hI : IV D cy L0 x0 s mi ad P I L ls st lsA H locs) {w : FR × MM} (hs : stp pc (.aload n) len rz ls st P I L C = some (.inl w)) (hcR : cells + w.2.2.2.2.1 ≤ R.cells + C.1) (hsR : slots + w.2.2.2.2.2 ≤ R.slots + C.2) (hfR : 8 ≤ R.frames) (hlR : 128 ≤ R.locals)
    (k : KN p l e R s m args below meth c cells slots Q D cy L0 x0 mi ad P C w) : W p l e R s m args below meth c H locs cells slots Q (F0 m pc lsA (cv ad st)) := by
  obtain ⟨hdec, hck⟩ := dec_ok hd
  obtain ⟨hx, hb, hml, hrt, hown, hlocks, htab, hnm⟩ := fo
  have hts : ∀ w ∈ GT, w.before args s = true := fun w hw => sv.1 w hw args
  obtain ⟨hP, hD, hwf, hS, hlh, hlv, hsv, hx1, hx2, hx3⟩ := id hI
  simp only [stp] at hs
  simp only [ckR, Bool.and_eq_true, beq_iff_eq, decide_eq_true_eq] at hck
  subst hck
  obtain ⟨v, hg, hw⟩ := ldA_inv hs
  cases hw
  exact lv_aload (rest := cv ad st) hx hb hdec (lh_at hlh hg (by intro a z; cases z)) (KN.pure k hI (List.forall_mem_cons.mpr ⟨hlv _ (by rw [gl_eq] at hg; exact List.mem_of_getElem? hg), hsv⟩))

set_option maxHeartbeats 4000000 in
theorem sx_iload {n : Nat} (fo : FO p s m meth c mi) (sv : SV D cy s) (sh : SH L0 x0 s s.heap) (hd : dec mi pc = some (.iload n, len, rz)) (hI : IV D cy L0 x0 s mi ad P I L ls st lsA H locs) {w : FR × MM} (hs : stp pc (.iload n) len rz ls st P I L C = some (.inl w)) (hcR : cells + w.2.2.2.2.1 ≤ R.cells + C.1) (hsR : slots + w.2.2.2.2.2 ≤ R.slots + C.2) (hfR : 8 ≤ R.frames) (hlR : 128 ≤ R.locals)
    (k : KN p l e R s m args below meth c cells slots Q D cy L0 x0 mi ad P C w) : W p l e R s m args below meth c H locs cells slots Q (F0 m pc lsA (cv ad st)) := by
  obtain ⟨hdec, hck⟩ := dec_ok hd
  obtain ⟨hx, hb, hml, hrt, hown, hlocks, htab, hnm⟩ := fo
  have hts : ∀ w ∈ GT, w.before args s = true := fun w hw => sv.1 w hw args
  obtain ⟨hP, hD, hwf, hS, hlh, hlv, hsv, hx1, hx2, hx3⟩ := id hI
  simp only [stp] at hs
  simp only [ckR, Bool.and_eq_true, beq_iff_eq, decide_eq_true_eq] at hck
  subst hck
  obtain ⟨v, hg, hw⟩ := ldI_inv hs
  cases hw
  exact lv_iload (rest := cv ad st) hx hb hdec (lh_at hlh hg (by intro a z; cases z)) (KN.pure k hI (List.forall_mem_cons.mpr ⟨vk_i P _, hsv⟩))

set_option maxHeartbeats 4000000 in
theorem sx_lload {n : Nat} (fo : FO p s m meth c mi) (sv : SV D cy s) (sh : SH L0 x0 s s.heap) (hd : dec mi pc = some (.lload n, len, rz)) (hI : IV D cy L0 x0 s mi ad P I L ls st lsA H locs) {w : FR × MM} (hs : stp pc (.lload n) len rz ls st P I L C = some (.inl w)) (hcR : cells + w.2.2.2.2.1 ≤ R.cells + C.1) (hsR : slots + w.2.2.2.2.2 ≤ R.slots + C.2) (hfR : 8 ≤ R.frames) (hlR : 128 ≤ R.locals)
    (k : KN p l e R s m args below meth c cells slots Q D cy L0 x0 mi ad P C w) : W p l e R s m args below meth c H locs cells slots Q (F0 m pc lsA (cv ad st)) := by
  obtain ⟨hdec, hck⟩ := dec_ok hd
  obtain ⟨hx, hb, hml, hrt, hown, hlocks, htab, hnm⟩ := fo
  have hts : ∀ w ∈ GT, w.before args s = true := fun w hw => sv.1 w hw args
  obtain ⟨hP, hD, hwf, hS, hlh, hlv, hsv, hx1, hx2, hx3⟩ := id hI
  simp only [stp] at hs
  simp only [ckR, Bool.and_eq_true, beq_iff_eq, decide_eq_true_eq] at hck
  subst hck
  obtain ⟨v, hg, hw⟩ := ldL_inv hs
  cases hw
  exact lv_lload (rest := cv ad st) hx hb hdec (lh_at hlh hg (by intro a z; cases z)) (KN.pure k hI (List.forall_mem_cons.mpr ⟨vk_l P _, hsv⟩))

set_option maxHeartbeats 4000000 in
theorem sx_dload {n : Nat} (fo : FO p s m meth c mi) (sv : SV D cy s) (sh : SH L0 x0 s s.heap) (hd : dec mi pc = some (.dload n, len, rz)) (hI : IV D cy L0 x0 s mi ad P I L ls st lsA H locs) {w : FR × MM} (hs : stp pc (.dload n) len rz ls st P I L C = some (.inl w)) (hcR : cells + w.2.2.2.2.1 ≤ R.cells + C.1) (hsR : slots + w.2.2.2.2.2 ≤ R.slots + C.2) (hfR : 8 ≤ R.frames) (hlR : 128 ≤ R.locals)
    (k : KN p l e R s m args below meth c cells slots Q D cy L0 x0 mi ad P C w) : W p l e R s m args below meth c H locs cells slots Q (F0 m pc lsA (cv ad st)) := by
  obtain ⟨hdec, hck⟩ := dec_ok hd
  obtain ⟨hx, hb, hml, hrt, hown, hlocks, htab, hnm⟩ := fo
  have hts : ∀ w ∈ GT, w.before args s = true := fun w hw => sv.1 w hw args
  obtain ⟨hP, hD, hwf, hS, hlh, hlv, hsv, hx1, hx2, hx3⟩ := id hI
  simp only [stp] at hs
  simp only [ckR, Bool.and_eq_true, beq_iff_eq, decide_eq_true_eq] at hck
  subst hck
  obtain ⟨v, hg, hw⟩ := ldD_inv hs
  cases hw
  exact lv_dload (rest := cv ad st) hx hb hdec (lh_at hlh hg (by intro a z; cases z)) (KN.pure k hI (List.forall_mem_cons.mpr ⟨vk_d P _, hsv⟩))

set_option maxHeartbeats 4000000 in
theorem sx_istore_n {n : Fin 4} (fo : FO p s m meth c mi) (sv : SV D cy s) (sh : SH L0 x0 s s.heap) (hd : dec mi pc = some (.istore_n n, len, rz)) (hI : IV D cy L0 x0 s mi ad P I L ls st lsA H locs) {w : FR × MM} (hs : stp pc (.istore_n n) len rz ls st P I L C = some (.inl w)) (hcR : cells + w.2.2.2.2.1 ≤ R.cells + C.1) (hsR : slots + w.2.2.2.2.2 ≤ R.slots + C.2) (hfR : 8 ≤ R.frames) (hlR : 128 ≤ R.locals)
    (k : KN p l e R s m args below meth c cells slots Q D cy L0 x0 mi ad P C w) : W p l e R s m args below meth c H locs cells slots Q (F0 m pc lsA (cv ad st)) := by
  obtain ⟨hdec, hck⟩ := dec_ok hd
  obtain ⟨hx, hb, hml, hrt, hown, hlocks, htab, hnm⟩ := fo
  have hts : ∀ w ∈ GT, w.before args s = true := fun w hw => sv.1 w hw args
  obtain ⟨hP, hD, hwf, hS, hlh, hlv, hsv, hx1, hx2, hx3⟩ := id hI
  simp only [stp] at hs
  simp only [ckR, Bool.and_eq_true, beq_iff_eq, decide_eq_true_eq] at hck
  obtain ⟨rfl, hn⟩ := hck
  obtain ⟨v, st1, rfl, hw⟩ := stI_inv hs
  cases hw
  have hv := List.forall_mem_cons.mp hsv
  refine lv_istore_n (rest := cv ad st1) hx hb hdec rfl (lh_has hlh) hn rfl (fun lsA1 hl1 => ?_)
  exact KN.lcs k hI (lh_s1 hlh.2.2.1 (v := .int v) hl1) (fun z hz => by
    rcases mem_s1 hz with q | rfl | rfl
    · exact hlv z q
    · exact hv.1
    · exact vk_u P) hv.2

set_option maxHeartbeats 4000000 in
theorem sx_astore_n {n : Fin 4} (fo : FO p s m meth c mi) (sv : SV D cy s) (sh : SH L0 x0 s s.heap) (hd : dec mi pc = some (.astore_n n, len, rz)) (hI : IV D cy L0 x0 s mi ad P I L ls st lsA H locs) {w : FR × MM} (hs : stp pc (.astore_n n) len rz ls st P I L C = some (.inl w)) (hcR : cells + w.2.2.2.2.1 ≤ R.cells + C.1) (hsR : slots + w.2.2.2.2.2 ≤ R.slots + C.2) (hfR : 8 ≤ R.frames) (hlR : 128 ≤ R.locals)
    (k : KN p l e R s m args below meth c cells slots Q D cy L0 x0 mi ad P C w) : W p l e R s m args below meth c H locs cells slots Q (F0 m pc lsA (cv ad st)) := by
  obtain ⟨hdec, hck⟩ := dec_ok hd
  obtain ⟨hx, hb, hml, hrt, hown, hlocks, htab, hnm⟩ := fo
  have hts : ∀ w ∈ GT, w.before args s = true := fun w hw => sv.1 w hw args
  obtain ⟨hP, hD, hwf, hS, hlh, hlv, hsv, hx1, hx2, hx3⟩ := id hI
  simp only [stp] at hs
  simp only [ckR, Bool.and_eq_true, beq_iff_eq, decide_eq_true_eq] at hck
  obtain ⟨rfl, hn⟩ := hck
  obtain ⟨v, st1, rfl, hw⟩ := stA_inv hs
  cases hw
  have hv := List.forall_mem_cons.mp hsv
  refine lv_astore_n (rest := cv ad st1) hx hb hdec rfl (lh_has hlh) hn rfl (fun lsA1 hl1 => ?_)
  exact KN.lcs k hI (lh_s1 hlh.2.2.1 (v := .ref v) hl1) (fun z hz => by
    rcases mem_s1 hz with q | rfl | rfl
    · exact hlv z q
    · exact hv.1
    · exact vk_u P) hv.2

set_option maxHeartbeats 4000000 in
theorem sx_lstore_n {n : Fin 4} (fo : FO p s m meth c mi) (sv : SV D cy s) (sh : SH L0 x0 s s.heap) (hd : dec mi pc = some (.lstore_n n, len, rz)) (hI : IV D cy L0 x0 s mi ad P I L ls st lsA H locs) {w : FR × MM} (hs : stp pc (.lstore_n n) len rz ls st P I L C = some (.inl w)) (hcR : cells + w.2.2.2.2.1 ≤ R.cells + C.1) (hsR : slots + w.2.2.2.2.2 ≤ R.slots + C.2) (hfR : 8 ≤ R.frames) (hlR : 128 ≤ R.locals)
    (k : KN p l e R s m args below meth c cells slots Q D cy L0 x0 mi ad P C w) : W p l e R s m args below meth c H locs cells slots Q (F0 m pc lsA (cv ad st)) := by
  obtain ⟨hdec, hck⟩ := dec_ok hd
  obtain ⟨hx, hb, hml, hrt, hown, hlocks, htab, hnm⟩ := fo
  have hts : ∀ w ∈ GT, w.before args s = true := fun w hw => sv.1 w hw args
  obtain ⟨hP, hD, hwf, hS, hlh, hlv, hsv, hx1, hx2, hx3⟩ := id hI
  simp only [stp] at hs
  simp only [ckR, Bool.and_eq_true, beq_iff_eq, decide_eq_true_eq] at hck
  obtain ⟨rfl, hn⟩ := hck
  obtain ⟨v, st1, rfl, hw⟩ := stL_inv hs
  cases hw
  have hv := List.forall_mem_cons.mp hsv
  refine lv_lstore_n (rest := cv ad st1) hx hb hdec rfl (lh_has hlh) hn rfl (fun lsA1 hl1 => ?_)
  exact KN.lcs k hI (lh_s2 hlh.2.2.1 (v := .long v) hl1) (fun z hz => by
    rcases mem_s2 hz with q | rfl | rfl
    · exact hlv z q
    · exact hv.1
    · exact vk_u P) hv.2

set_option maxHeartbeats 4000000 in
theorem sx_dstore_n {n : Fin 4} (fo : FO p s m meth c mi) (sv : SV D cy s) (sh : SH L0 x0 s s.heap) (hd : dec mi pc = some (.dstore_n n, len, rz)) (hI : IV D cy L0 x0 s mi ad P I L ls st lsA H locs) {w : FR × MM} (hs : stp pc (.dstore_n n) len rz ls st P I L C = some (.inl w)) (hcR : cells + w.2.2.2.2.1 ≤ R.cells + C.1) (hsR : slots + w.2.2.2.2.2 ≤ R.slots + C.2) (hfR : 8 ≤ R.frames) (hlR : 128 ≤ R.locals)
    (k : KN p l e R s m args below meth c cells slots Q D cy L0 x0 mi ad P C w) : W p l e R s m args below meth c H locs cells slots Q (F0 m pc lsA (cv ad st)) := by
  obtain ⟨hdec, hck⟩ := dec_ok hd
  obtain ⟨hx, hb, hml, hrt, hown, hlocks, htab, hnm⟩ := fo
  have hts : ∀ w ∈ GT, w.before args s = true := fun w hw => sv.1 w hw args
  obtain ⟨hP, hD, hwf, hS, hlh, hlv, hsv, hx1, hx2, hx3⟩ := id hI
  simp only [stp] at hs
  simp only [ckR, Bool.and_eq_true, beq_iff_eq, decide_eq_true_eq] at hck
  obtain ⟨rfl, hn⟩ := hck
  obtain ⟨v, st1, rfl, hw⟩ := stD_inv hs
  cases hw
  have hv := List.forall_mem_cons.mp hsv
  refine lv_dstore_n (rest := cv ad st1) hx hb hdec rfl (lh_has hlh) hn rfl (fun lsA1 hl1 => ?_)
  exact KN.lcs k hI (lh_s2 hlh.2.2.1 (v := .double v) hl1) (fun z hz => by
    rcases mem_s2 hz with q | rfl | rfl
    · exact hlv z q
    · exact hv.1
    · exact vk_u P) hv.2

set_option maxHeartbeats 4000000 in
theorem sx_istore {n : Nat} (fo : FO p s m meth c mi) (sv : SV D cy s) (sh : SH L0 x0 s s.heap) (hd : dec mi pc = some (.istore n, len, rz)) (hI : IV D cy L0 x0 s mi ad P I L ls st lsA H locs) {w : FR × MM} (hs : stp pc (.istore n) len rz ls st P I L C = some (.inl w)) (hcR : cells + w.2.2.2.2.1 ≤ R.cells + C.1) (hsR : slots + w.2.2.2.2.2 ≤ R.slots + C.2) (hfR : 8 ≤ R.frames) (hlR : 128 ≤ R.locals)
    (k : KN p l e R s m args below meth c cells slots Q D cy L0 x0 mi ad P C w) : W p l e R s m args below meth c H locs cells slots Q (F0 m pc lsA (cv ad st)) := by
  obtain ⟨hdec, hck⟩ := dec_ok hd
  obtain ⟨hx, hb, hml, hrt, hown, hlocks, htab, hnm⟩ := fo
  have hts : ∀ w ∈ GT, w.before args s = true := fun w hw => sv.1 w hw args
  obtain ⟨hP, hD, hwf, hS, hlh, hlv, hsv, hx1, hx2, hx3⟩ := id hI
  simp only [stp] at hs
  simp only [ckR, Bool.and_eq_true, beq_iff_eq, decide_eq_true_eq] at hck
  obtain ⟨rfl, hn⟩ := hck
  obtain ⟨v, st1, rfl, hw⟩ := stI_inv hs
  cases hw
  have hv := List.forall_mem_cons.mp hsv
  refine lv_istore (rest := cv ad st1) hx hb hdec (lh_has hlh) hn rfl (fun lsA1 hl1 => ?_)
  exact KN.lcs k hI (lh_s1 hlh.2.2.1 (v := .int v) hl1) (fun z hz => by
    rcases mem_s1 hz with q | rfl | rfl
    · exact hlv z q
    · exact hv.1
    · exact vk_u P) hv.2

set_option maxHeartbeats 4000000 in
theorem sx_astore {n : Nat} (fo : FO p s m meth c mi) (sv : SV D cy s) (sh : SH L0 x0 s s.heap) (hd : dec mi pc = some (.astore n, len, rz)) (hI : IV D cy L0 x0 s mi ad P I L ls st lsA H locs) {w : FR × MM} (hs : stp pc (.astore n) len rz ls st P I L C = some (.inl w)) (hcR : cells + w.2.2.2.2.1 ≤ R.cells + C.1) (hsR : slots + w.2.2.2.2.2 ≤ R.slots + C.2) (hfR : 8 ≤ R.frames) (hlR : 128 ≤ R.locals)
    (k : KN p l e R s m args below meth c cells slots Q D cy L0 x0 mi ad P C w) : W p l e R s m args below meth c H locs cells slots Q (F0 m pc lsA (cv ad st)) := by
  obtain ⟨hdec, hck⟩ := dec_ok hd
  obtain ⟨hx, hb, hml, hrt, hown, hlocks, htab, hnm⟩ := fo
  have hts : ∀ w ∈ GT, w.before args s = true := fun w hw => sv.1 w hw args
  obtain ⟨hP, hD, hwf, hS, hlh, hlv, hsv, hx1, hx2, hx3⟩ := id hI
  simp only [stp] at hs
  simp only [ckR, Bool.and_eq_true, beq_iff_eq, decide_eq_true_eq] at hck
  obtain ⟨rfl, hn⟩ := hck
  obtain ⟨v, st1, rfl, hw⟩ := stA_inv hs
  cases hw
  have hv := List.forall_mem_cons.mp hsv
  refine lv_astore (rest := cv ad st1) hx hb hdec (lh_has hlh) hn rfl (fun lsA1 hl1 => ?_)
  exact KN.lcs k hI (lh_s1 hlh.2.2.1 (v := .ref v) hl1) (fun z hz => by
    rcases mem_s1 hz with q | rfl | rfl
    · exact hlv z q
    · exact hv.1
    · exact vk_u P) hv.2

set_option maxHeartbeats 4000000 in
theorem sx_lstore {n : Nat} (fo : FO p s m meth c mi) (sv : SV D cy s) (sh : SH L0 x0 s s.heap) (hd : dec mi pc = some (.lstore n, len, rz)) (hI : IV D cy L0 x0 s mi ad P I L ls st lsA H locs) {w : FR × MM} (hs : stp pc (.lstore n) len rz ls st P I L C = some (.inl w)) (hcR : cells + w.2.2.2.2.1 ≤ R.cells + C.1) (hsR : slots + w.2.2.2.2.2 ≤ R.slots + C.2) (hfR : 8 ≤ R.frames) (hlR : 128 ≤ R.locals)
    (k : KN p l e R s m args below meth c cells slots Q D cy L0 x0 mi ad P C w) : W p l e R s m args below meth c H locs cells slots Q (F0 m pc lsA (cv ad st)) := by
  obtain ⟨hdec, hck⟩ := dec_ok hd
  obtain ⟨hx, hb, hml, hrt, hown, hlocks, htab, hnm⟩ := fo
  have hts : ∀ w ∈ GT, w.before args s = true := fun w hw => sv.1 w hw args
  obtain ⟨hP, hD, hwf, hS, hlh, hlv, hsv, hx1, hx2, hx3⟩ := id hI
  simp only [stp] at hs
  simp only [ckR, Bool.and_eq_true, beq_iff_eq, decide_eq_true_eq] at hck
  obtain ⟨rfl, hn⟩ := hck
  obtain ⟨v, st1, rfl, hw⟩ := stL_inv hs
  cases hw
  have hv := List.forall_mem_cons.mp hsv
  refine lv_lstore (rest := cv ad st1) hx hb hdec (lh_has hlh) hn rfl (fun lsA1 hl1 => ?_)
  exact KN.lcs k hI (lh_s2 hlh.2.2.1 (v := .long v) hl1) (fun z hz => by
    rcases mem_s2 hz with q | rfl | rfl
    · exact hlv z q
    · exact hv.1
    · exact vk_u P) hv.2

set_option maxHeartbeats 4000000 in
theorem sx_dstore {n : Nat} (fo : FO p s m meth c mi) (sv : SV D cy s) (sh : SH L0 x0 s s.heap) (hd : dec mi pc = some (.dstore n, len, rz)) (hI : IV D cy L0 x0 s mi ad P I L ls st lsA H locs) {w : FR × MM} (hs : stp pc (.dstore n) len rz ls st P I L C = some (.inl w)) (hcR : cells + w.2.2.2.2.1 ≤ R.cells + C.1) (hsR : slots + w.2.2.2.2.2 ≤ R.slots + C.2) (hfR : 8 ≤ R.frames) (hlR : 128 ≤ R.locals)
    (k : KN p l e R s m args below meth c cells slots Q D cy L0 x0 mi ad P C w) : W p l e R s m args below meth c H locs cells slots Q (F0 m pc lsA (cv ad st)) := by
  obtain ⟨hdec, hck⟩ := dec_ok hd
  obtain ⟨hx, hb, hml, hrt, hown, hlocks, htab, hnm⟩ := fo
  have hts : ∀ w ∈ GT, w.before args s = true := fun w hw => sv.1 w hw args
  obtain ⟨hP, hD, hwf, hS, hlh, hlv, hsv, hx1, hx2, hx3⟩ := id hI
  simp only [stp] at hs
  simp only [ckR, Bool.and_eq_true, beq_iff_eq, decide_eq_true_eq] at hck
  obtain ⟨rfl, hn⟩ := hck
  obtain ⟨v, st1, rfl, hw⟩ := stD_inv hs
  cases hw
  have hv := List.forall_mem_cons.mp hsv
  refine lv_dstore (rest := cv ad st1) hx hb hdec (lh_has hlh) hn rfl (fun lsA1 hl1 => ?_)
  exact KN.lcs k hI (lh_s2 hlh.2.2.1 (v := .double v) hl1) (fun z hz => by
    rcases mem_s2 hz with q | rfl | rfl
    · exact hlv z q
    · exact hv.1
    · exact vk_u P) hv.2

set_option maxHeartbeats 4000000 in
theorem sx_iinc {n : Nat} {z : Int} (fo : FO p s m meth c mi) (sv : SV D cy s) (sh : SH L0 x0 s s.heap) (hd : dec mi pc = some (.iinc n z, len, rz)) (hI : IV D cy L0 x0 s mi ad P I L ls st lsA H locs) {w : FR × MM} (hs : stp pc (.iinc n z) len rz ls st P I L C = some (.inl w)) (hcR : cells + w.2.2.2.2.1 ≤ R.cells + C.1) (hsR : slots + w.2.2.2.2.2 ≤ R.slots + C.2) (hfR : 8 ≤ R.frames) (hlR : 128 ≤ R.locals)
    (k : KN p l e R s m args below meth c cells slots Q D cy L0 x0 mi ad P C w) : W p l e R s m args below meth c H locs cells slots Q (F0 m pc lsA (cv ad st)) := by
  obtain ⟨hdec, hck⟩ := dec_ok hd
  obtain ⟨hx, hb, hml, hrt, hown, hlocks, htab, hnm⟩ := fo
  have hts : ∀ w ∈ GT, w.before args s = true := fun w hw => sv.1 w hw args
  obtain ⟨hP, hD, hwf, hS, hlh, hlv, hsv, hx1, hx2, hx3⟩ := id hI
  simp only [stp] at hs
  simp only [ckR, Bool.and_eq_true, beq_iff_eq, decide_eq_true_eq] at hck
  obtain ⟨⟨rfl, hn⟩, hv0⟩ := hck
  split at hs
  · rename_i x k0 hg
    cases hs
    have hz : Int32.ofInt z = nI k0 := by simpa using hv0
    obtain ⟨q, hq⟩ := List.getElem?_of_mem (mem_prs.mpr ⟨.int x, hg, (by intro a z; cases z), rfl⟩ : (n, conc ad (.int x)) ∈ prs ad ls)
    refine lv_iinc (rest := cv ad st) (v := x + nI k0) hx hb hdec (lh_has hlh) hq (by rw [hz]) hn rfl (fun lsA1 hl1 => ?_)
    exact KN.lcs k hI (lh_s1 hlh.2.2.1 (v := .int (x + nI k0)) hl1) (fun z hz => by
      rcases mem_s1 hz with q | rfl | rfl
      · exact hlv z q
      · exact vk_i P _
      · exact vk_u P) hsv
  · cases hs

set_option maxHeartbeats 4000000 in
theorem sx_iconst {n : Int} (fo : FO p s m meth c mi) (sv : SV D cy s) (sh : SH L0 x0 s s.heap) (hd : dec mi pc = some (.iconst n, len, rz)) (hI : IV D cy L0 x0 s mi ad P I L ls st lsA H locs) {w : FR × MM} (hs : stp pc (.iconst n) len rz ls st P I L C = some (.inl w)) (hcR : cells + w.2.2.2.2.1 ≤ R.cells + C.1) (hsR : slots + w.2.2.2.2.2 ≤ R.slots + C.2) (hfR : 8 ≤ R.frames) (hlR : 128 ≤ R.locals)
    (k : KN p l e R s m args below meth c cells slots Q D cy L0 x0 mi ad P C w) : W p l e R s m args below meth c H locs cells slots Q (F0 m pc lsA (cv ad st)) := by
  obtain ⟨hdec, hck⟩ := dec_ok hd
  obtain ⟨hx, hb, hml, hrt, hown, hlocks, htab, hnm⟩ := fo
  have hts : ∀ w ∈ GT, w.before args s = true := fun w hw => sv.1 w hw args
  obtain ⟨hP, hD, hwf, hS, hlh, hlv, hsv, hx1, hx2, hx3⟩ := id hI
  simp only [stp] at hs
  simp only [ckR, Bool.and_eq_true, beq_iff_eq, decide_eq_true_eq] at hck
  obtain ⟨rfl, hv0⟩ := hck
  split at hs
  · cases hs
    exact lv_iconst (rest := cv ad st) hx hb hdec (by simpa using hv0) (KN.pure k hI (List.forall_mem_cons.mpr ⟨vk_i P _, hsv⟩))
  · cases hs

set_option maxHeartbeats 4000000 in
theorem sx_bipush {n : Int} (fo : FO p s m meth c mi) (sv : SV D cy s) (sh : SH L0 x0 s s.heap) (hd : dec mi pc = some (.bipush n, len, rz)) (hI : IV D cy L0 x0 s mi ad P I L ls st lsA H locs) {w : FR × MM} (hs : stp pc (.bipush n) len rz ls st P I L C = some (.inl w)) (hcR : cells + w.2.2.2.2.1 ≤ R.cells + C.1) (hsR : slots + w.2.2.2.2.2 ≤ R.slots + C.2) (hfR : 8 ≤ R.frames) (hlR : 128 ≤ R.locals)
    (k : KN p l e R s m args below meth c cells slots Q D cy L0 x0 mi ad P C w) : W p l e R s m args below meth c H locs cells slots Q (F0 m pc lsA (cv ad st)) := by
  obtain ⟨hdec, hck⟩ := dec_ok hd
  obtain ⟨hx, hb, hml, hrt, hown, hlocks, htab, hnm⟩ := fo
  have hts : ∀ w ∈ GT, w.before args s = true := fun w hw => sv.1 w hw args
  obtain ⟨hP, hD, hwf, hS, hlh, hlv, hsv, hx1, hx2, hx3⟩ := id hI
  simp only [stp] at hs
  simp only [ckR, Bool.and_eq_true, beq_iff_eq, decide_eq_true_eq] at hck
  obtain ⟨rfl, hv0⟩ := hck
  split at hs
  · cases hs
    exact lv_bipush (rest := cv ad st) hx hb hdec (by simpa using hv0) (KN.pure k hI (List.forall_mem_cons.mpr ⟨vk_i P _, hsv⟩))
  · cases hs

set_option maxHeartbeats 4000000 in
theorem sx_sipush {n : Int} (fo : FO p s m meth c mi) (sv : SV D cy s) (sh : SH L0 x0 s s.heap) (hd : dec mi pc = some (.sipush n, len, rz)) (hI : IV D cy L0 x0 s mi ad P I L ls st lsA H locs) {w : FR × MM} (hs : stp pc (.sipush n) len rz ls st P I L C = some (.inl w)) (hcR : cells + w.2.2.2.2.1 ≤ R.cells + C.1) (hsR : slots + w.2.2.2.2.2 ≤ R.slots + C.2) (hfR : 8 ≤ R.frames) (hlR : 128 ≤ R.locals)
    (k : KN p l e R s m args below meth c cells slots Q D cy L0 x0 mi ad P C w) : W p l e R s m args below meth c H locs cells slots Q (F0 m pc lsA (cv ad st)) := by
  obtain ⟨hdec, hck⟩ := dec_ok hd
  obtain ⟨hx, hb, hml, hrt, hown, hlocks, htab, hnm⟩ := fo
  have hts : ∀ w ∈ GT, w.before args s = true := fun w hw => sv.1 w hw args
  obtain ⟨hP, hD, hwf, hS, hlh, hlv, hsv, hx1, hx2, hx3⟩ := id hI
  simp only [stp] at hs
  simp only [ckR, Bool.and_eq_true, beq_iff_eq, decide_eq_true_eq] at hck
  obtain ⟨rfl, hv0⟩ := hck
  split at hs
  · cases hs
    exact lv_sipush (rest := cv ad st) hx hb hdec (by simpa using hv0) (KN.pure k hI (List.forall_mem_cons.mpr ⟨vk_i P _, hsv⟩))
  · cases hs

set_option maxHeartbeats 4000000 in
theorem sx_lconst {n : Fin 2} (fo : FO p s m meth c mi) (sv : SV D cy s) (sh : SH L0 x0 s s.heap) (hd : dec mi pc = some (.lconst n, len, rz)) (hI : IV D cy L0 x0 s mi ad P I L ls st lsA H locs) {w : FR × MM} (hs : stp pc (.lconst n) len rz ls st P I L C = some (.inl w)) (hcR : cells + w.2.2.2.2.1 ≤ R.cells + C.1) (hsR : slots + w.2.2.2.2.2 ≤ R.slots + C.2) (hfR : 8 ≤ R.frames) (hlR : 128 ≤ R.locals)
    (k : KN p l e R s m args below meth c cells slots Q D cy L0 x0 mi ad P C w) : W p l e R s m args below meth c H locs cells slots Q (F0 m pc lsA (cv ad st)) := by
  obtain ⟨hdec, hck⟩ := dec_ok hd
  obtain ⟨hx, hb, hml, hrt, hown, hlocks, htab, hnm⟩ := fo
  have hts : ∀ w ∈ GT, w.before args s = true := fun w hw => sv.1 w hw args
  obtain ⟨hP, hD, hwf, hS, hlh, hlv, hsv, hx1, hx2, hx3⟩ := id hI
  simp only [stp] at hs
  simp only [ckR, Bool.and_eq_true, beq_iff_eq, decide_eq_true_eq] at hck
  obtain ⟨rfl, hv0⟩ := hck
  split at hs
  · cases hs
    exact lv_lconst (rest := cv ad st) hx hb hdec (by simpa using hv0) (KN.pure k hI (List.forall_mem_cons.mpr ⟨vk_l P _, hsv⟩))
  · cases hs

set_option maxHeartbeats 4000000 in
theorem sx_dconst {n : Fin 2} (fo : FO p s m meth c mi) (sv : SV D cy s) (sh : SH L0 x0 s s.heap) (hd : dec mi pc = some (.dconst n, len, rz)) (hI : IV D cy L0 x0 s mi ad P I L ls st lsA H locs) {w : FR × MM} (hs : stp pc (.dconst n) len rz ls st P I L C = some (.inl w)) (hcR : cells + w.2.2.2.2.1 ≤ R.cells + C.1) (hsR : slots + w.2.2.2.2.2 ≤ R.slots + C.2) (hfR : 8 ≤ R.frames) (hlR : 128 ≤ R.locals)
    (k : KN p l e R s m args below meth c cells slots Q D cy L0 x0 mi ad P C w) : W p l e R s m args below meth c H locs cells slots Q (F0 m pc lsA (cv ad st)) := by
  obtain ⟨hdec, hck⟩ := dec_ok hd
  obtain ⟨hx, hb, hml, hrt, hown, hlocks, htab, hnm⟩ := fo
  have hts : ∀ w ∈ GT, w.before args s = true := fun w hw => sv.1 w hw args
  obtain ⟨hP, hD, hwf, hS, hlh, hlv, hsv, hx1, hx2, hx3⟩ := id hI
  simp only [stp] at hs
  simp only [ckR, Bool.and_eq_true, beq_iff_eq, decide_eq_true_eq] at hck
  obtain ⟨rfl, rfl⟩ := hck
  cases hs
  exact lv_dconst0 (rest := cv ad st) hx hb hdec (KN.pure k hI (List.forall_mem_cons.mpr ⟨vk_d P _, hsv⟩))

set_option maxHeartbeats 4000000 in
theorem sx_aconst_null  (fo : FO p s m meth c mi) (sv : SV D cy s) (sh : SH L0 x0 s s.heap) (hd : dec mi pc = some (.aconst_null, len, rz)) (hI : IV D cy L0 x0 s mi ad P I L ls st lsA H locs) {w : FR × MM} (hs : stp pc (.aconst_null) len rz ls st P I L C = some (.inl w)) (hcR : cells + w.2.2.2.2.1 ≤ R.cells + C.1) (hsR : slots + w.2.2.2.2.2 ≤ R.slots + C.2) (hfR : 8 ≤ R.frames) (hlR : 128 ≤ R.locals)
    (k : KN p l e R s m args below meth c cells slots Q D cy L0 x0 mi ad P C w) : W p l e R s m args below meth c H locs cells slots Q (F0 m pc lsA (cv ad st)) := by
  obtain ⟨hdec, hck⟩ := dec_ok hd
  obtain ⟨hx, hb, hml, hrt, hown, hlocks, htab, hnm⟩ := fo
  have hts : ∀ w ∈ GT, w.before args s = true := fun w hw => sv.1 w hw args
  obtain ⟨hP, hD, hwf, hS, hlh, hlv, hsv, hx1, hx2, hx3⟩ := id hI
  simp only [stp] at hs
  simp only [ckR, Bool.and_eq_true, beq_iff_eq, decide_eq_true_eq] at hck
  subst hck
  cases hs
  exact lv_null (rest := cv ad st) hx hb hdec (KN.pure k hI (List.forall_mem_cons.mpr ⟨vk_0 P, hsv⟩))

set_option maxHeartbeats 4000000 in
theorem sx_ldc {n : Nat} (fo : FO p s m meth c mi) (sv : SV D cy s) (sh : SH L0 x0 s s.heap) (hd : dec mi pc = some (.ldc n, len, rz)) (hI : IV D cy L0 x0 s mi ad P I L ls st lsA H locs) {w : FR × MM} (hs : stp pc (.ldc n) len rz ls st P I L C = some (.inl w)) (hcR : cells + w.2.2.2.2.1 ≤ R.cells + C.1) (hsR : slots + w.2.2.2.2.2 ≤ R.slots + C.2) (hfR : 8 ≤ R.frames) (hlR : 128 ≤ R.locals)
    (k : KN p l e R s m args below meth c cells slots Q D cy L0 x0 mi ad P C w) : W p l e R s m args below meth c H locs cells slots Q (F0 m pc lsA (cv ad st)) := by
  obtain ⟨hdec, hck⟩ := dec_ok hd
  obtain ⟨hx, hb, hml, hrt, hown, hlocks, htab, hnm⟩ := fo
  have hts : ∀ w ∈ GT, w.before args s = true := fun w hw => sv.1 w hw args
  obtain ⟨hP, hD, hwf, hS, hlh, hlv, hsv, hx1, hx2, hx3⟩ := id hI
  simp only [stp] at hs
  simp only [ckR, Bool.and_eq_true, beq_iff_eq, decide_eq_true_eq] at hck
  obtain ⟨rfl, hv0⟩ := hck
  split at hs
  · rename_i k0 pl
    cases hs
    obtain ⟨hlk, hk1, hk2⟩ := ckLk_inv hv0 (by simp)
    simp only [lkB, hk1, hk2, decide_eq_true_eq] at hlk
    exact lv_ldc (rest := cv ad st) hx hb hown (hts _ (mem_GT1 hlk rfl)) hdec (KN.pure k hI (List.forall_mem_cons.mpr ⟨vk_i P _, hsv⟩))
  · cases hs

set_option maxHeartbeats 4000000 in
theorem sx_ldc_w {n : Nat} (fo : FO p s m meth c mi) (sv : SV D cy s) (sh : SH L0 x0 s s.heap) (hd : dec mi pc = some (.ldc_w n, len, rz)) (hI : IV D cy L0 x0 s mi ad P I L ls st lsA H locs) {w : FR × MM} (hs : stp pc (.ldc_w n) len rz ls st P I L C = some (.inl w)) (hcR : cells + w.2.2.2.2.1 ≤ R.cells + C.1) (hsR : slots + w.2.2.2.2.2 ≤ R.slots + C.2) (hfR : 8 ≤ R.frames) (hlR : 128 ≤ R.locals)
    (k : KN p l e R s m args below meth c cells slots Q D cy L0 x0 mi ad P C w) : W p l e R s m args below meth c H locs cells slots Q (F0 m pc lsA (cv ad st)) := by
  obtain ⟨hdec, hck⟩ := dec_ok hd
  obtain ⟨hx, hb, hml, hrt, hown, hlocks, htab, hnm⟩ := fo
  have hts : ∀ w ∈ GT, w.before args s = true := fun w hw => sv.1 w hw args
  obtain ⟨hP, hD, hwf, hS, hlh, hlv, hsv, hx1, hx2, hx3⟩ := id hI
  simp only [stp] at hs
  simp only [ckR, Bool.and_eq_true, beq_iff_eq, decide_eq_true_eq] at hck
  obtain ⟨rfl, hv0⟩ := hck
  split at hs
  · rename_i k0 pl
    cases hs
    obtain ⟨hlk, hk1, hk2⟩ := ckLk_inv hv0 (by simp)
    simp only [lkB, hk1, hk2, decide_eq_true_eq] at hlk
    exact lv_ldcw (rest := cv ad st) hx hb hown (hts _ (mem_GT1 hlk rfl)) hdec (KN.pure k hI (List.forall_mem_cons.mpr ⟨vk_i P _, hsv⟩))
  · cases hs

set_option maxHeartbeats 4000000 in
theorem sx_ldc2_w {n : Nat} (fo : FO p s m meth c mi) (sv : SV D cy s) (sh : SH L0 x0 s s.heap) (hd : dec mi pc = some (.ldc2_w n, len, rz)) (hI : IV D cy L0 x0 s mi ad P I L ls st lsA H locs) {w : FR × MM} (hs : stp pc (.ldc2_w n) len rz ls st P I L C = some (.inl w)) (hcR : cells + w.2.2.2.2.1 ≤ R.cells + C.1) (hsR : slots + w.2.2.2.2.2 ≤ R.slots + C.2) (hfR : 8 ≤ R.frames) (hlR : 128 ≤ R.locals)
    (k : KN p l e R s m args below meth c cells slots Q D cy L0 x0 mi ad P C w) : W p l e R s m args below meth c H locs cells slots Q (F0 m pc lsA (cv ad st)) := by
  obtain ⟨hdec, hck⟩ := dec_ok hd
  obtain ⟨hx, hb, hml, hrt, hown, hlocks, htab, hnm⟩ := fo
  have hts : ∀ w ∈ GT, w.before args s = true := fun w hw => sv.1 w hw args
  obtain ⟨hP, hD, hwf, hS, hlh, hlv, hsv, hx1, hx2, hx3⟩ := id hI
  simp only [stp] at hs
  simp only [ckR, Bool.and_eq_true, beq_iff_eq, decide_eq_true_eq] at hck
  obtain ⟨rfl, hv0⟩ := hck
  split at hs
  · rename_i k0 pl
    cases hs
    obtain ⟨hlk, hk1, hk2⟩ := ckLk_inv hv0 (by simp)
    simp only [lkB, hk1, hk2, decide_eq_true_eq] at hlk
    exact lv_ldc2 (rest := cv ad st) hx hb hown (hts _ (mem_GT1 hlk rfl)) hdec (KN.pure k hI (List.forall_mem_cons.mpr ⟨vk_l P _, hsv⟩))
  · cases hs

set_option maxHeartbeats 4000000 in
theorem sx_dup  (fo : FO p s m meth c mi) (sv : SV D cy s) (sh : SH L0 x0 s s.heap) (hd : dec mi pc = some (.dup, len, rz)) (hI : IV D cy L0 x0 s mi ad P I L ls st lsA H locs) {w : FR × MM} (hs : stp pc (.dup) len rz ls st P I L C = some (.inl w)) (hcR : cells + w.2.2.2.2.1 ≤ R.cells + C.1) (hsR : slots + w.2.2.2.2.2 ≤ R.slots + C.2) (hfR : 8 ≤ R.frames) (hlR : 128 ≤ R.locals)
    (k : KN p l e R s m args below meth c cells slots Q D cy L0 x0 mi ad P C w) : W p l e R s m args below meth c H locs cells slots Q (F0 m pc lsA (cv ad st)) := by
  obtain ⟨hdec, hck⟩ := dec_ok hd
  obtain ⟨hx, hb, hml, hrt, hown, hlocks, htab, hnm⟩ := fo
  have hts : ∀ w ∈ GT, w.before args s = true := fun w hw => sv.1 w hw args
  obtain ⟨hP, hD, hwf, hS, hlh, hlv, hsv, hx1, hx2, hx3⟩ := id hI
  simp only [stp] at hs
  simp only [ckR, Bool.and_eq_true, beq_iff_eq, decide_eq_true_eq] at hck
  subst hck
  split at hs
  · split at hs
    · rename_i v st1 hc
      cases hs
      have hv := List.forall_mem_cons.mp hsv
      exact lv_dup (rest := cv ad st1) (va := conc ad v) hx hb hdec (by rw [conc_cat]; exact hc) (KN.pure k hI (List.forall_mem_cons.mpr ⟨hv.1, hsv⟩))
    · cases hs
  · cases hs

set_option maxHeartbeats 4000000 in
theorem sx_dup2  (fo : FO p s m meth c mi) (sv : SV D cy s) (sh : SH L0 x0 s s.heap) (hd : dec mi pc = some (.dup2, len, rz)) (hI : IV D cy L0 x0 s mi ad P I L ls st lsA H locs) {w : FR × MM} (hs : stp pc (.dup2) len rz ls st P I L C = some (.inl w)) (hcR : cells + w.2.2.2.2.1 ≤ R.cells + C.1) (hsR : slots + w.2.2.2.2.2 ≤ R.slots + C.2) (hfR : 8 ≤ R.frames) (hlR : 128 ≤ R.locals)
    (k : KN p l e R s m args below meth c cells slots Q D cy L0 x0 mi ad P C w) : W p l e R s m args below meth c H locs cells slots Q (F0 m pc lsA (cv ad st)) := by
  obtain ⟨hdec, hck⟩ := dec_ok hd
  obtain ⟨hx, hb, hml, hrt, hown, hlocks, htab, hnm⟩ := fo
  have hts : ∀ w ∈ GT, w.before args s = true := fun w hw => sv.1 w hw args
  obtain ⟨hP, hD, hwf, hS, hlh, hlv, hsv, hx1, hx2, hx3⟩ := id hI
  simp only [stp] at hs
  simp only [ckR, Bool.and_eq_true, beq_iff_eq, decide_eq_true_eq] at hck
  subst hck
  split at hs
  · split at hs
    · rename_i v u st1 hc
      cases hs
      have hv := List.forall_mem_cons.mp hsv
      have hu := List.forall_mem_cons.mp hv.2
      exact lv_dup2_11 (rest := cv ad st1) (va := conc ad v) (vb := conc ad u) hx hb hdec (by rw [conc_cat]; exact hc.1) (by rw [conc_cat]; exact hc.2) (KN.pure k hI (List.forall_mem_cons.mpr ⟨hv.1, List.forall_mem_cons.mpr ⟨hu.1, hsv⟩⟩))
    · cases hs
  · cases hs

set_option maxHeartbeats 4000000 in
theorem sx_pop  (fo : FO p s m meth c mi) (sv : SV D cy s) (sh : SH L0 x0 s s.heap) (hd : dec mi pc = some (.pop, len, rz)) (hI : IV D cy L0 x0 s mi ad P I L ls st lsA H locs) {w : FR × MM} (hs : stp pc (.pop) len rz ls st P I L C = some (.inl w)) (hcR : cells + w.2.2.2.2.1 ≤ R.cells + C.1) (hsR : slots + w.2.2.2.2.2 ≤ R.slots + C.2) (hfR : 8 ≤ R.frames) (hlR : 128 ≤ R.locals)
    (k : KN p l e R s m args below meth c cells slots Q D cy L0 x0 mi ad P C w) : W p l e R s m args below meth c H locs cells slots Q (F0 m pc lsA (cv ad st)) := by
  obtain ⟨hdec, hck⟩ := dec_ok hd
  obtain ⟨hx, hb, hml, hrt, hown, hlocks, htab, hnm⟩ := fo
  have hts : ∀ w ∈ GT, w.before args s = true := fun w hw => sv.1 w hw args
  obtain ⟨hP, hD, hwf, hS, hlh, hlv, hsv, hx1, hx2, hx3⟩ := id hI
  simp only [stp] at hs
  simp only [ckR, Bool.and_eq_true, beq_iff_eq, decide_eq_true_eq] at hck
  subst hck
  split at hs
  · split at hs
    · rename_i v st1 hc
      cases hs
      have hv := List.forall_mem_cons.mp hsv
      exact lv_pop (rest := cv ad st1) (va := conc ad v) hx hb hdec (by rw [conc_cat]; exact hc) (KN.pure k hI hv.2)
    · cases hs
  · cases hs

set_option maxHeartbeats 4000000 in
theorem sx_iadd  (fo : FO p s m meth c mi) (sv : SV D cy s) (sh : SH L0 x0 s s.heap) (hd : dec mi pc = some (.iadd, len, rz)) (hI : IV D cy L0 x0 s mi ad P I L ls st lsA H locs) {w : FR × MM} (hs : stp pc (.iadd) len rz ls st P I L C = some (.inl w)) (hcR : cells + w.2.2.2.2.1 ≤ R.cells + C.1) (hsR : slots + w.2.2.2.2.2 ≤ R.slots + C.2) (hfR : 8 ≤ R.frames) (hlR : 128 ≤ R.locals)
    (k : KN p l e R s m args below meth c cells slots Q D cy L0 x0 mi ad P C w) : W p l e R s m args below meth c H locs cells slots Q (F0 m pc lsA (cv ad st)) := by
  obtain ⟨hdec, hck⟩ := dec_ok hd
  obtain ⟨hx, hb, hml, hrt, hown, hlocks, htab, hnm⟩ := fo
  have hts : ∀ w ∈ GT, w.before args s = true := fun w hw => sv.1 w hw args
  obtain ⟨hP, hD, hwf, hS, hlh, hlv, hsv, hx1, hx2, hx3⟩ := id hI
  simp only [stp] at hs
  simp only [ckR, Bool.and_eq_true, beq_iff_eq, decide_eq_true_eq] at hck
  subst hck
  obtain ⟨x, y, st1, rfl, hw⟩ := o2I_inv hs
  cases hw
  have hv := (List.forall_mem_cons.mp (List.forall_mem_cons.mp hsv).2).2
  exact lv_iadd (rest := cv ad st1) hx hb hdec (KN.pure k hI (List.forall_mem_cons.mpr ⟨vk_i P _, hv⟩))

set_option maxHeartbeats 4000000 in
theorem sx_isub  (fo : FO p s m meth c mi) (sv : SV D cy s) (sh : SH L0 x0 s s.heap) (hd : dec mi pc = some (.isub, len, rz)) (hI : IV D cy L0 x0 s mi ad P I L ls st lsA H locs) {w : FR × MM} (hs : stp pc (.isub) len rz ls st P I L C = some (.inl w)) (hcR : cells + w.2.2.2.2.1 ≤ R.cells + C.1) (hsR : slots + w.2.2.2.2.2 ≤ R.slots + C.2) (hfR : 8 ≤ R.frames) (hlR : 128 ≤ R.locals)
    (k : KN p l e R s m args below meth c cells slots Q D cy L0 x0 mi ad P C w) : W p l e R s m args below meth c H locs cells slots Q (F0 m pc lsA (cv ad st)) := by
  obtain ⟨hdec, hck⟩ := dec_ok hd
  obtain ⟨hx, hb, hml, hrt, hown, hlocks, htab, hnm⟩ := fo
  have hts : ∀ w ∈ GT, w.before args s = true := fun w hw => sv.1 w hw args
  obtain ⟨hP, hD, hwf, hS, hlh, hlv, hsv, hx1, hx2, hx3⟩ := id hI
  simp only [stp] at hs
  simp only [ckR, Bool.and_eq_true, beq_iff_eq, decide_eq_true_eq] at hck
  subst hck
  obtain ⟨x, y, st1, rfl, hw⟩ := o2I_inv hs
  cases hw
  have hv := (List.forall_mem_cons.mp (List.forall_mem_cons.mp hsv).2).2
  exact lv_isub (rest := cv ad st1) hx hb hdec (KN.pure k hI (List.forall_mem_cons.mpr ⟨vk_i P _, hv⟩))

set_option maxHeartbeats 4000000 in
theorem sx_imul  (fo : FO p s m meth c mi) (sv : SV D cy s) (sh : SH L0 x0 s s.heap) (hd : dec mi pc = some (.imul, len, rz)) (hI : IV D cy L0 x0 s mi ad P I L ls st lsA H locs) {w : FR × MM} (hs : stp pc (.imul) len rz ls st P I L C = some (.inl w)) (hcR : cells + w.2.2.2.2.1 ≤ R.cells + C.1) (hsR : slots + w.2.2.2.2.2 ≤ R.slots + C.2) (hfR : 8 ≤ R.frames) (hlR : 128 ≤ R.locals)
    (k : KN p l e R s m args below meth c cells slots Q D cy L0 x0 mi ad P C w) : W p l e R s m args below meth c H locs cells slots Q (F0 m pc lsA (cv ad st)) := by
  obtain ⟨hdec, hck⟩ := dec_ok hd
  obtain ⟨hx, hb, hml, hrt, hown, hlocks, htab, hnm⟩ := fo
  have hts : ∀ w ∈ GT, w.before args s = true := fun w hw => sv.1 w hw args
  obtain ⟨hP, hD, hwf, hS, hlh, hlv, hsv, hx1, hx2, hx3⟩ := id hI
  simp only [stp] at hs
  simp only [ckR, Bool.and_eq_true, beq_iff_eq, decide_eq_true_eq] at hck
  subst hck
  obtain ⟨x, y, st1, rfl, hw⟩ := o2I_inv hs
  cases hw
  have hv := (List.forall_mem_cons.mp (List.forall_mem_cons.mp hsv).2).2
  exact lv_imul (rest := cv ad st1) hx hb hdec (KN.pure k hI (List.forall_mem_cons.mpr ⟨vk_i P _, hv⟩))

set_option maxHeartbeats 4000000 in
theorem sx_iand  (fo : FO p s m meth c mi) (sv : SV D cy s) (sh : SH L0 x0 s s.heap) (hd : dec mi pc = some (.iand, len, rz)) (hI : IV D cy L0 x0 s mi ad P I L ls st lsA H locs) {w : FR × MM} (hs : stp pc (.iand) len rz ls st P I L C = some (.inl w)) (hcR : cells + w.2.2.2.2.1 ≤ R.cells + C.1) (hsR : slots + w.2.2.2.2.2 ≤ R.slots + C.2) (hfR : 8 ≤ R.frames) (hlR : 128 ≤ R.locals)
    (k : KN p l e R s m args below meth c cells slots Q D cy L0 x0 mi ad P C w) : W p l e R s m args below meth c H locs cells slots Q (F0 m pc lsA (cv ad st)) := by
  obtain ⟨hdec, hck⟩ := dec_ok hd
  obtain ⟨hx, hb, hml, hrt, hown, hlocks, htab, hnm⟩ := fo
  have hts : ∀ w ∈ GT, w.before args s = true := fun w hw => sv.1 w hw args
  obtain ⟨hP, hD, hwf, hS, hlh, hlv, hsv, hx1, hx2, hx3⟩ := id hI
  simp only [stp] at hs
  simp only [ckR, Bool.and_eq_true, beq_iff_eq, decide_eq_true_eq] at hck
  subst hck
  obtain ⟨x, y, st1, rfl, hw⟩ := o2I_inv hs
  cases hw
  have hv := (List.forall_mem_cons.mp (List.forall_mem_cons.mp hsv).2).2
  exact lv_iand (rest := cv ad st1) hx hb hdec (KN.pure k hI (List.forall_mem_cons.mpr ⟨vk_i P _, hv⟩))

set_option maxHeartbeats 4000000 in
theorem sx_ior  (fo : FO p s m meth c mi) (sv : SV D cy s) (sh : SH L0 x0 s s.heap) (hd : dec mi pc = some (.ior, len, rz)) (hI : IV D cy L0 x0 s mi ad P I L ls st lsA H locs) {w : FR × MM} (hs : stp pc (.ior) len rz ls st P I L C = some (.inl w)) (hcR : cells + w.2.2.2.2.1 ≤ R.cells + C.1) (hsR : slots + w.2.2.2.2.2 ≤ R.slots + C.2) (hfR : 8 ≤ R.frames) (hlR : 128 ≤ R.locals)
    (k : KN p l e R s m args below meth c cells slots Q D cy L0 x0 mi ad P C w) : W p l e R s m args below meth c H locs cells slots Q (F0 m pc lsA (cv ad st)) := by
  obtain ⟨hdec, hck⟩ := dec_ok hd
  obtain ⟨hx, hb, hml, hrt, hown, hlocks, htab, hnm⟩ := fo
  have hts : ∀ w ∈ GT, w.before args s = true := fun w hw => sv.1 w hw args
  obtain ⟨hP, hD, hwf, hS, hlh, hlv, hsv, hx1, hx2, hx3⟩ := id hI
  simp only [stp] at hs
  simp only [ckR, Bool.and_eq_true, beq_iff_eq, decide_eq_true_eq] at hck
  subst hck
  obtain ⟨x, y, st1, rfl, hw⟩ := o2I_inv hs
  cases hw
  have hv := (List.forall_mem_cons.mp (List.forall_mem_cons.mp hsv).2).2
  exact lv_ior (rest := cv ad st1) hx hb hdec (KN.pure k hI (List.forall_mem_cons.mpr ⟨vk_i P _, hv⟩))

set_option maxHeartbeats 4000000 in
theorem sx_ixor  (fo : FO p s m meth c mi) (sv : SV D cy s) (sh : SH L0 x0 s s.heap) (hd : dec mi pc = some (.ixor, len, rz)) (hI : IV D cy L0 x0 s mi ad P I L ls st lsA H locs) {w : FR × MM} (hs : stp pc (.ixor) len rz ls st P I L C = some (.inl w)) (hcR : cells + w.2.2.2.2.1 ≤ R.cells + C.1) (hsR : slots + w.2.2.2.2.2 ≤ R.slots + C.2) (hfR : 8 ≤ R.frames) (hlR : 128 ≤ R.locals)
    (k : KN p l e R s m args below meth c cells slots Q D cy L0 x0 mi ad P C w) : W p l e R s m args below meth c H locs cells slots Q (F0 m pc lsA (cv ad st)) := by
  obtain ⟨hdec, hck⟩ := dec_ok hd
  obtain ⟨hx, hb, hml, hrt, hown, hlocks, htab, hnm⟩ := fo
  have hts : ∀ w ∈ GT, w.before args s = true := fun w hw => sv.1 w hw args
  obtain ⟨hP, hD, hwf, hS, hlh, hlv, hsv, hx1, hx2, hx3⟩ := id hI
  simp only [stp] at hs
  simp only [ckR, Bool.and_eq_true, beq_iff_eq, decide_eq_true_eq] at hck
  subst hck
  obtain ⟨x, y, st1, rfl, hw⟩ := o2I_inv hs
  cases hw
  have hv := (List.forall_mem_cons.mp (List.forall_mem_cons.mp hsv).2).2
  exact lv_ixor (rest := cv ad st1) hx hb hdec (KN.pure k hI (List.forall_mem_cons.mpr ⟨vk_i P _, hv⟩))

set_option maxHeartbeats 4000000 in
theorem sx_ishl  (fo : FO p s m meth c mi) (sv : SV D cy s) (sh : SH L0 x0 s s.heap) (hd : dec mi pc = some (.ishl, len, rz)) (hI : IV D cy L0 x0 s mi ad P I L ls st lsA H locs) {w : FR × MM} (hs : stp pc (.ishl) len rz ls st P I L C = some (.inl w)) (hcR : cells + w.2.2.2.2.1 ≤ R.cells + C.1) (hsR : slots + w.2.2.2.2.2 ≤ R.slots + C.2) (hfR : 8 ≤ R.frames) (hlR : 128 ≤ R.locals)
    (k : KN p l e R s m args below meth c cells slots Q D cy L0 x0 mi ad P C w) : W p l e R s m args below meth c H locs cells slots Q (F0 m pc lsA (cv ad st)) := by
  obtain ⟨hdec, hck⟩ := dec_ok hd
  obtain ⟨hx, hb, hml, hrt, hown, hlocks, htab, hnm⟩ := fo
  have hts : ∀ w ∈ GT, w.before args s = true := fun w hw => sv.1 w hw args
  obtain ⟨hP, hD, hwf, hS, hlh, hlv, hsv, hx1, hx2, hx3⟩ := id hI
  simp only [stp] at hs
  simp only [ckR, Bool.and_eq_true, beq_iff_eq, decide_eq_true_eq] at hck
  subst hck
  obtain ⟨x, y, st1, rfl, hw⟩ := o2I_inv hs
  cases hw
  have hv := (List.forall_mem_cons.mp (List.forall_mem_cons.mp hsv).2).2
  exact lv_ishl (rest := cv ad st1) hx hb hdec (KN.pure k hI (List.forall_mem_cons.mpr ⟨vk_i P _, hv⟩))

set_option maxHeartbeats 4000000 in
theorem sx_ishr  (fo : FO p s m meth c mi) (sv : SV D cy s) (sh : SH L0 x0 s s.heap) (hd : dec mi pc = some (.ishr, len, rz)) (hI : IV D cy L0 x0 s mi ad P I L ls st lsA H locs) {w : FR × MM} (hs : stp pc (.ishr) len rz ls st P I L C = some (.inl w)) (hcR : cells + w.2.2.2.2.1 ≤ R.cells + C.1) (hsR : slots + w.2.2.2.2.2 ≤ R.slots + C.2) (hfR : 8 ≤ R.frames) (hlR : 128 ≤ R.locals)
    (k : KN p l e R s m args below meth c cells slots Q D cy L0 x0 mi ad P C w) : W p l e R s m args below meth c H locs cells slots Q (F0 m pc lsA (cv ad st)) := by
  obtain ⟨hdec, hck⟩ := dec_ok hd
  obtain ⟨hx, hb, hml, hrt, hown, hlocks, htab, hnm⟩ := fo
  have hts : ∀ w ∈ GT, w.before args s = true := fun w hw => sv.1 w hw args
  obtain ⟨hP, hD, hwf, hS, hlh, hlv, hsv, hx1, hx2, hx3⟩ := id hI
  simp only [stp] at hs
  simp only [ckR, Bool.and_eq_true, beq_iff_eq, decide_eq_true_eq] at hck
  subst hck
  obtain ⟨x, y, st1, rfl, hw⟩ := o2I_inv hs
  cases hw
  have hv := (List.forall_mem_cons.mp (List.forall_mem_cons.mp hsv).2).2
  exact lv_ishr (rest := cv ad st1) hx hb hdec (KN.pure k hI (List.forall_mem_cons.mpr ⟨vk_i P _, hv⟩))

set_option maxHeartbeats 4000000 in
theorem sx_iushr  (fo : FO p s m meth c mi) (sv : SV D cy s) (sh : SH L0 x0 s s.heap) (hd : dec mi pc = some (.iushr, len, rz)) (hI : IV D cy L0 x0 s mi ad P I L ls st lsA H locs) {w : FR × MM} (hs : stp pc (.iushr) len rz ls st P I L C = some (.inl w)) (hcR : cells + w.2.2.2.2.1 ≤ R.cells + C.1) (hsR : slots + w.2.2.2.2.2 ≤ R.slots + C.2) (hfR : 8 ≤ R.frames) (hlR : 128 ≤ R.locals)
    (k : KN p l e R s m args below meth c cells slots Q D cy L0 x0 mi ad P C w) : W p l e R s m args below meth c H locs cells slots Q (F0 m pc lsA (cv ad st)) := by
  obtain ⟨hdec, hck⟩ := dec_ok hd
  obtain ⟨hx, hb, hml, hrt, hown, hlocks, htab, hnm⟩ := fo
  have hts : ∀ w ∈ GT, w.before args s = true := fun w hw => sv.1 w hw args
  obtain ⟨hP, hD, hwf, hS, hlh, hlv, hsv, hx1, hx2, hx3⟩ := id hI
  simp only [stp] at hs
  simp only [ckR, Bool.and_eq_true, beq_iff_eq, decide_eq_true_eq] at hck
  subst hck
  obtain ⟨x, y, st1, rfl, hw⟩ := o2I_inv hs
  cases hw
  have hv := (List.forall_mem_cons.mp (List.forall_mem_cons.mp hsv).2).2
  exact lv_iushr (rest := cv ad st1) hx hb hdec rfl (KN.pure k hI (List.forall_mem_cons.mpr ⟨vk_i P _, hv⟩))

set_option maxHeartbeats 4000000 in
theorem sx_idiv  (fo : FO p s m meth c mi) (sv : SV D cy s) (sh : SH L0 x0 s s.heap) (hd : dec mi pc = some (.idiv, len, rz)) (hI : IV D cy L0 x0 s mi ad P I L ls st lsA H locs) {w : FR × MM} (hs : stp pc (.idiv) len rz ls st P I L C = some (.inl w)) (hcR : cells + w.2.2.2.2.1 ≤ R.cells + C.1) (hsR : slots + w.2.2.2.2.2 ≤ R.slots + C.2) (hfR : 8 ≤ R.frames) (hlR : 128 ≤ R.locals)
    (k : KN p l e R s m args below meth c cells slots Q D cy L0 x0 mi ad P C w) : W p l e R s m args below meth c H locs cells slots Q (F0 m pc lsA (cv ad st)) := by
  obtain ⟨hdec, hck⟩ := dec_ok hd
  obtain ⟨hx, hb, hml, hrt, hown, hlocks, htab, hnm⟩ := fo
  have hts : ∀ w ∈ GT, w.before args s = true := fun w hw => sv.1 w hw args
  obtain ⟨hP, hD, hwf, hS, hlh, hlv, hsv, hx1, hx2, hx3⟩ := id hI
  simp only [stp] at hs
  simp only [ckR, Bool.and_eq_true, beq_iff_eq, decide_eq_true_eq] at hck
  subst hck
  split at hs
  · split at hs
    · cases hs
    · rename_i y x st1 hc
      cases hs
      have hv := (List.forall_mem_cons.mp (List.forall_mem_cons.mp hsv).2).2
      exact lv_idiv (rest := cv ad st1) hx hb hdec hc (KN.pure k hI (List.forall_mem_cons.mpr ⟨vk_i P _, hv⟩))
  · cases hs

set_option maxHeartbeats 4000000 in
theorem sx_irem  (fo : FO p s m meth c mi) (sv : SV D cy s) (sh : SH L0 x0 s s.heap) (hd : dec mi pc = some (.irem, len, rz)) (hI : IV D cy L0 x0 s mi ad P I L ls st lsA H locs) {w : FR × MM} (hs : stp pc (.irem) len rz ls st P I L C = some (.inl w)) (hcR : cells + w.2.2.2.2.1 ≤ R.cells + C.1) (hsR : slots + w.2.2.2.2.2 ≤ R.slots + C.2) (hfR : 8 ≤ R.frames) (hlR : 128 ≤ R.locals)
    (k : KN p l e R s m args below meth c cells slots Q D cy L0 x0 mi ad P C w) : W p l e R s m args below meth c H locs cells slots Q (F0 m pc lsA (cv ad st)) := by
  obtain ⟨hdec, hck⟩ := dec_ok hd
  obtain ⟨hx, hb, hml, hrt, hown, hlocks, htab, hnm⟩ := fo
  have hts : ∀ w ∈ GT, w.before args s = true := fun w hw => sv.1 w hw args
  obtain ⟨hP, hD, hwf, hS, hlh, hlv, hsv, hx1, hx2, hx3⟩ := id hI
  simp only [stp] at hs
  simp only [ckR, Bool.and_eq_true, beq_iff_eq, decide_eq_true_eq] at hck
  subst hck
  split at hs
  · split at hs
    · cases hs
    · rename_i y x st1 hc
      cases hs
      have hv := (List.forall_mem_cons.mp (List.forall_mem_cons.mp hsv).2).2
      exact lv_irem (rest := cv ad st1) hx hb hdec hc (KN.pure k hI (List.forall_mem_cons.mpr ⟨vk_i P _, hv⟩))
  · cases hs

set_option maxHeartbeats 4000000 in
theorem sx_ldiv  (fo : FO p s m meth c mi) (sv : SV D cy s) (sh : SH L0 x0 s s.heap) (hd : dec mi pc = some (.ldiv, len, rz)) (hI : IV D cy L0 x0 s mi ad P I L ls st lsA H locs) {w : FR × MM} (hs : stp pc (.ldiv) len rz ls st P I L C = some (.inl w)) (hcR : cells + w.2.2.2.2.1 ≤ R.cells + C.1) (hsR : slots + w.2.2.2.2.2 ≤ R.slots + C.2) (hfR : 8 ≤ R.frames) (hlR : 128 ≤ R.locals)
    (k : KN p l e R s m args below meth c cells slots Q D cy L0 x0 mi ad P C w) : W p l e R s m args below meth c H locs cells slots Q (F0 m pc lsA (cv ad st)) := by
  obtain ⟨hdec, hck⟩ := dec_ok hd
  obtain ⟨hx, hb, hml, hrt, hown, hlocks, htab, hnm⟩ := fo
  have hts : ∀ w ∈ GT, w.before args s = true := fun w hw => sv.1 w hw args
  obtain ⟨hP, hD, hwf, hS, hlh, hlv, hsv, hx1, hx2, hx3⟩ := id hI
  simp only [stp] at hs
  simp only [ckR, Bool.and_eq_true, beq_iff_eq, decide_eq_true_eq] at hck
  subst hck
  split at hs
  · split at hs
    · cases hs
    · rename_i y x st1 hc
      cases hs
      have hv := (List.forall_mem_cons.mp (List.forall_mem_cons.mp hsv).2).2
      exact lv_ldiv (rest := cv ad st1) hx hb hdec hc (KN.pure k hI (List.forall_mem_cons.mpr ⟨vk_l P _, hv⟩))
  · cases hs

set_option maxHeartbeats 4000000 in
theorem sx_lrem  (fo : FO p s m meth c mi) (sv : SV D cy s) (sh : SH L0 x0 s s.heap) (hd : dec mi pc = some (.lrem, len, rz)) (hI : IV D cy L0 x0 s mi ad P I L ls st lsA H locs) {w : FR × MM} (hs : stp pc (.lrem) len rz ls st P I L C = some (.inl w)) (hcR : cells + w.2.2.2.2.1 ≤ R.cells + C.1) (hsR : slots + w.2.2.2.2.2 ≤ R.slots + C.2) (hfR : 8 ≤ R.frames) (hlR : 128 ≤ R.locals)
    (k : KN p l e R s m args below meth c cells slots Q D cy L0 x0 mi ad P C w) : W p l e R s m args below meth c H locs cells slots Q (F0 m pc lsA (cv ad st)) := by
  obtain ⟨hdec, hck⟩ := dec_ok hd
  obtain ⟨hx, hb, hml, hrt, hown, hlocks, htab, hnm⟩ := fo
  have hts : ∀ w ∈ GT, w.before args s = true := fun w hw => sv.1 w hw args
  obtain ⟨hP, hD, hwf, hS, hlh, hlv, hsv, hx1, hx2, hx3⟩ := id hI
  simp only [stp] at hs
  simp only [ckR, Bool.and_eq_true, beq_iff_eq, decide_eq_true_eq] at hck
  subst hck
  split at hs
  · split at hs
    · cases hs
    · rename_i y x st1 hc
      cases hs
      have hv := (List.forall_mem_cons.mp (List.forall_mem_cons.mp hsv).2).2
      exact lv_lrem (rest := cv ad st1) hx hb hdec hc (KN.pure k hI (List.forall_mem_cons.mpr ⟨vk_l P _, hv⟩))
  · cases hs

set_option maxHeartbeats 4000000 in
theorem sx_i2l  (fo : FO p s m meth c mi) (sv : SV D cy s) (sh : SH L0 x0 s s.heap) (hd : dec mi pc = some (.i2l, len, rz)) (hI : IV D cy L0 x0 s mi ad P I L ls st lsA H locs) {w : FR × MM} (hs : stp pc (.i2l) len rz ls st P I L C = some (.inl w)) (hcR : cells + w.2.2.2.2.1 ≤ R.cells + C.1) (hsR : slots + w.2.2.2.2.2 ≤ R.slots + C.2) (hfR : 8 ≤ R.frames) (hlR : 128 ≤ R.locals)
    (k : KN p l e R s m args below meth c cells slots Q D cy L0 x0 mi ad P C w) : W p l e R s m args below meth c H locs cells slots Q (F0 m pc lsA (cv ad st)) := by
  obtain ⟨hdec, hck⟩ := dec_ok hd
  obtain ⟨hx, hb, hml, hrt, hown, hlocks, htab, hnm⟩ := fo
  have hts : ∀ w ∈ GT, w.before args s = true := fun w hw => sv.1 w hw args
  obtain ⟨hP, hD, hwf, hS, hlh, hlv, hsv, hx1, hx2, hx3⟩ := id hI
  simp only [stp] at hs
  simp only [ckR, Bool.and_eq_true, beq_iff_eq, decide_eq_true_eq] at hck
  subst hck
  obtain ⟨x, st1, rfl, hw⟩ := o1I_inv hs
  cases hw
  exact lv_i2l (rest := cv ad st1) hx hb hdec rfl (KN.pure k hI (List.forall_mem_cons.mpr ⟨vk_l P _, (List.forall_mem_cons.mp hsv).2⟩))

set_option maxHeartbeats 4000000 in
theorem sx_i2b  (fo : FO p s m meth c mi) (sv : SV D cy s) (sh : SH L0 x0 s s.heap) (hd : dec mi pc = some (.i2b, len, rz)) (hI : IV D cy L0 x0 s mi ad P I L ls st lsA H locs) {w : FR × MM} (hs : stp pc (.i2b) len rz ls st P I L C = some (.inl w)) (hcR : cells + w.2.2.2.2.1 ≤ R.cells + C.1) (hsR : slots + w.2.2.2.2.2 ≤ R.slots + C.2) (hfR : 8 ≤ R.frames) (hlR : 128 ≤ R.locals)
    (k : KN p l e R s m args below meth c cells slots Q D cy L0 x0 mi ad P C w) : W p l e R s m args below meth c H locs cells slots Q (F0 m pc lsA (cv ad st)) := by
  obtain ⟨hdec, hck⟩ := dec_ok hd
  obtain ⟨hx, hb, hml, hrt, hown, hlocks, htab, hnm⟩ := fo
  have hts : ∀ w ∈ GT, w.before args s = true := fun w hw => sv.1 w hw args
  obtain ⟨hP, hD, hwf, hS, hlh, hlv, hsv, hx1, hx2, hx3⟩ := id hI
  simp only [stp] at hs
  simp only [ckR, Bool.and_eq_true, beq_iff_eq, decide_eq_true_eq] at hck
  subst hck
  obtain ⟨x, st1, rfl, hw⟩ := o1I_inv hs
  cases hw
  exact lv_i2b (rest := cv ad st1) hx hb hdec rfl (KN.pure k hI (List.forall_mem_cons.mpr ⟨vk_i P _, (List.forall_mem_cons.mp hsv).2⟩))

set_option maxHeartbeats 4000000 in
theorem sx_i2d  (fo : FO p s m meth c mi) (sv : SV D cy s) (sh : SH L0 x0 s s.heap) (hd : dec mi pc = some (.i2d, len, rz)) (hI : IV D cy L0 x0 s mi ad P I L ls st lsA H locs) {w : FR × MM} (hs : stp pc (.i2d) len rz ls st P I L C = some (.inl w)) (hcR : cells + w.2.2.2.2.1 ≤ R.cells + C.1) (hsR : slots + w.2.2.2.2.2 ≤ R.slots + C.2) (hfR : 8 ≤ R.frames) (hlR : 128 ≤ R.locals)
    (k : KN p l e R s m args below meth c cells slots Q D cy L0 x0 mi ad P C w) : W p l e R s m args below meth c H locs cells slots Q (F0 m pc lsA (cv ad st)) := by
  obtain ⟨hdec, hck⟩ := dec_ok hd
  obtain ⟨hx, hb, hml, hrt, hown, hlocks, htab, hnm⟩ := fo
  have hts : ∀ w ∈ GT, w.before args s = true := fun w hw => sv.1 w hw args
  obtain ⟨hP, hD, hwf, hS, hlh, hlv, hsv, hx1, hx2, hx3⟩ := id hI
  simp only [stp] at hs
  simp only [ckR, Bool.and_eq_true, beq_iff_eq, decide_eq_true_eq] at hck
  subst hck
  obtain ⟨x, st1, rfl, hw⟩ := o1I_inv hs
  cases hw
  exact lv_i2d (rest := cv ad st1) hx hb hdec (KN.pure k hI (List.forall_mem_cons.mpr ⟨vk_d P _, (List.forall_mem_cons.mp hsv).2⟩))

set_option maxHeartbeats 4000000 in
theorem sx_l2i  (fo : FO p s m meth c mi) (sv : SV D cy s) (sh : SH L0 x0 s s.heap) (hd : dec mi pc = some (.l2i, len, rz)) (hI : IV D cy L0 x0 s mi ad P I L ls st lsA H locs) {w : FR × MM} (hs : stp pc (.l2i) len rz ls st P I L C = some (.inl w)) (hcR : cells + w.2.2.2.2.1 ≤ R.cells + C.1) (hsR : slots + w.2.2.2.2.2 ≤ R.slots + C.2) (hfR : 8 ≤ R.frames) (hlR : 128 ≤ R.locals)
    (k : KN p l e R s m args below meth c cells slots Q D cy L0 x0 mi ad P C w) : W p l e R s m args below meth c H locs cells slots Q (F0 m pc lsA (cv ad st)) := by
  obtain ⟨hdec, hck⟩ := dec_ok hd
  obtain ⟨hx, hb, hml, hrt, hown, hlocks, htab, hnm⟩ := fo
  have hts : ∀ w ∈ GT, w.before args s = true := fun w hw => sv.1 w hw args
  obtain ⟨hP, hD, hwf, hS, hlh, hlv, hsv, hx1, hx2, hx3⟩ := id hI
  simp only [stp] at hs
  simp only [ckR, Bool.and_eq_true, beq_iff_eq, decide_eq_true_eq] at hck
  subst hck
  split at hs
  · rename_i x st1
    cases hs
    exact lv_l2i (rest := cv ad st1) hx hb hdec rfl (KN.pure k hI (List.forall_mem_cons.mpr ⟨vk_i P _, (List.forall_mem_cons.mp hsv).2⟩))
  · cases hs

set_option maxHeartbeats 4000000 in
theorem sx_ladd  (fo : FO p s m meth c mi) (sv : SV D cy s) (sh : SH L0 x0 s s.heap) (hd : dec mi pc = some (.ladd, len, rz)) (hI : IV D cy L0 x0 s mi ad P I L ls st lsA H locs) {w : FR × MM} (hs : stp pc (.ladd) len rz ls st P I L C = some (.inl w)) (hcR : cells + w.2.2.2.2.1 ≤ R.cells + C.1) (hsR : slots + w.2.2.2.2.2 ≤ R.slots + C.2) (hfR : 8 ≤ R.frames) (hlR : 128 ≤ R.locals)
    (k : KN p l e R s m args below meth c cells slots Q D cy L0 x0 mi ad P C w) : W p l e R s m args below meth c H locs cells slots Q (F0 m pc lsA (cv ad st)) := by
  obtain ⟨hdec, hck⟩ := dec_ok hd
  obtain ⟨hx, hb, hml, hrt, hown, hlocks, htab, hnm⟩ := fo
  have hts : ∀ w ∈ GT, w.before args s = true := fun w hw => sv.1 w hw args
  obtain ⟨hP, hD, hwf, hS, hlh, hlv, hsv, hx1, hx2, hx3⟩ := id hI
  simp only [stp] at hs
  simp only [ckR, Bool.and_eq_true, beq_iff_eq, decide_eq_true_eq] at hck
  subst hck
  obtain ⟨x, y, st1, rfl, hw⟩ := o2L_inv hs
  cases hw
  have hv := (List.forall_mem_cons.mp (List.forall_mem_cons.mp hsv).2).2
  exact lv_ladd (rest := cv ad st1) hx hb hdec (KN.pure k hI (List.forall_mem_cons.mpr ⟨vk_l P _, hv⟩))

set_option maxHeartbeats 4000000 in
theorem sx_lmul  (fo : FO p s m meth c mi) (sv : SV D cy s) (sh : SH L0 x0 s s.heap) (hd : dec mi pc = some (.lmul, len, rz)) (hI : IV D cy L0 x0 s mi ad P I L ls st lsA H locs) {w : FR × MM} (hs : stp pc (.lmul) len rz ls st P I L C = some (.inl w)) (hcR : cells + w.2.2.2.2.1 ≤ R.cells + C.1) (hsR : slots + w.2.2.2.2.2 ≤ R.slots + C.2) (hfR : 8 ≤ R.frames) (hlR : 128 ≤ R.locals)
    (k : KN p l e R s m args below meth c cells slots Q D cy L0 x0 mi ad P C w) : W p l e R s m args below meth c H locs cells slots Q (F0 m pc lsA (cv ad st)) := by
  obtain ⟨hdec, hck⟩ := dec_ok hd
  obtain ⟨hx, hb, hml, hrt, hown, hlocks, htab, hnm⟩ := fo
  have hts : ∀ w ∈ GT, w.before args s = true := fun w hw => sv.1 w hw args
  obtain ⟨hP, hD, hwf, hS, hlh, hlv, hsv, hx1, hx2, hx3⟩ := id hI
  simp only [stp] at hs
  simp only [ckR, Bool.and_eq_true, beq_iff_eq, decide_eq_true_eq] at hck
  subst hck
  obtain ⟨x, y, st1, rfl, hw⟩ := o2L_inv hs
  cases hw
  have hv := (List.forall_mem_cons.mp (List.forall_mem_cons.mp hsv).2).2
  exact lv_lmul (rest := cv ad st1) hx hb hdec (KN.pure k hI (List.forall_mem_cons.mpr ⟨vk_l P _, hv⟩))

set_option maxHeartbeats 4000000 in
theorem sx_lcmp  (fo : FO p s m meth c mi) (sv : SV D cy s) (sh : SH L0 x0 s s.heap) (hd : dec mi pc = some (.lcmp, len, rz)) (hI : IV D cy L0 x0 s mi ad P I L ls st lsA H locs) {w : FR × MM} (hs : stp pc (.lcmp) len rz ls st P I L C = some (.inl w)) (hcR : cells + w.2.2.2.2.1 ≤ R.cells + C.1) (hsR : slots + w.2.2.2.2.2 ≤ R.slots + C.2) (hfR : 8 ≤ R.frames) (hlR : 128 ≤ R.locals)
    (k : KN p l e R s m args below meth c cells slots Q D cy L0 x0 mi ad P C w) : W p l e R s m args below meth c H locs cells slots Q (F0 m pc lsA (cv ad st)) := by
  obtain ⟨hdec, hck⟩ := dec_ok hd
  obtain ⟨hx, hb, hml, hrt, hown, hlocks, htab, hnm⟩ := fo
  have hts : ∀ w ∈ GT, w.before args s = true := fun w hw => sv.1 w hw args
  obtain ⟨hP, hD, hwf, hS, hlh, hlv, hsv, hx1, hx2, hx3⟩ := id hI
  simp only [stp] at hs
  simp only [ckR, Bool.and_eq_true, beq_iff_eq, decide_eq_true_eq] at hck
  subst hck
  split at hs
  · rename_i y x st1
    cases hs
    have hv := (List.forall_mem_cons.mp (List.forall_mem_cons.mp hsv).2).2
    exact W.lcmp (rest := cv ad st1) hx hb hdec (KN.pure k hI (List.forall_mem_cons.mpr ⟨vk_i P _, hv⟩))
  · cases hs

set_option maxHeartbeats 4000000 in
theorem sx_dcmp {op : ClassFile.CmpOp} (fo : FO p s m meth c mi) (sv : SV D cy s) (sh : SH L0 x0 s s.heap) (hd : dec mi pc = some (.dcmp op, len, rz)) (hI : IV D cy L0 x0 s mi ad P I L ls st lsA H locs) {w : FR × MM} (hs : stp pc (.dcmp op) len rz ls st P I L C = some (.inl w)) (hcR : cells + w.2.2.2.2.1 ≤ R.cells + C.1) (hsR : slots + w.2.2.2.2.2 ≤ R.slots + C.2) (hfR : 8 ≤ R.frames) (hlR : 128 ≤ R.locals)
    (k : KN p l e R s m args below meth c cells slots Q D cy L0 x0 mi ad P C w) : W p l e R s m args below meth c H locs cells slots Q (F0 m pc lsA (cv ad st)) := by
  obtain ⟨hdec, hck⟩ := dec_ok hd
  obtain ⟨hx, hb, hml, hrt, hown, hlocks, htab, hnm⟩ := fo
  have hts : ∀ w ∈ GT, w.before args s = true := fun w hw => sv.1 w hw args
  obtain ⟨hP, hD, hwf, hS, hlh, hlv, hsv, hx1, hx2, hx3⟩ := id hI
  simp only [stp] at hs
  simp only [ckR, Bool.and_eq_true, beq_iff_eq, decide_eq_true_eq] at hck
  subst hck
  split at hs
  · rename_i y x st1
    cases hs
    have hv := (List.forall_mem_cons.mp (List.forall_mem_cons.mp hsv).2).2
    exact lv_dcmp (rest := cv ad st1) hx hb hdec (KN.pure k hI (List.forall_mem_cons.mpr ⟨vk_i P _, hv⟩))
  · cases hs

set_option maxHeartbeats 4000000 in
theorem sx_ddiv  (fo : FO p s m meth c mi) (sv : SV D cy s) (sh : SH L0 x0 s s.heap) (hd : dec mi pc = some (.ddiv, len, rz)) (hI : IV D cy L0 x0 s mi ad P I L ls st lsA H locs) {w : FR × MM} (hs : stp pc (.ddiv) len rz ls st P I L C = some (.inl w)) (hcR : cells + w.2.2.2.2.1 ≤ R.cells + C.1) (hsR : slots + w.2.2.2.2.2 ≤ R.slots + C.2) (hfR : 8 ≤ R.frames) (hlR : 128 ≤ R.locals)
    (k : KN p l e R s m args below meth c cells slots Q D cy L0 x0 mi ad P C w) : W p l e R s m args below meth c H locs cells slots Q (F0 m pc lsA (cv ad st)) := by
  obtain ⟨hdec, hck⟩ := dec_ok hd
  obtain ⟨hx, hb, hml, hrt, hown, hlocks, htab, hnm⟩ := fo
  have hts : ∀ w ∈ GT, w.before args s = true := fun w hw => sv.1 w hw args
  obtain ⟨hP, hD, hwf, hS, hlh, hlv, hsv, hx1, hx2, hx3⟩ := id hI
  simp only [stp] at hs
  simp only [ckR, Bool.and_eq_true, beq_iff_eq, decide_eq_true_eq] at hck
  subst hck
  split at hs
  · split at hs
    · rename_i y x st1 hc
      cases hs
      have hv := (List.forall_mem_cons.mp (List.forall_mem_cons.mp hsv).2).2
      exact lv_ddiv (rest := cv ad st1) hx hb hdec hc (KN.pure k hI (List.forall_mem_cons.mpr ⟨vk_d P _, hv⟩))
    · cases hs
  · cases hs

set_option maxHeartbeats 4000000 in
theorem sx_goto {z : Int} (fo : FO p s m meth c mi) (sv : SV D cy s) (sh : SH L0 x0 s s.heap) (hd : dec mi pc = some (.goto z, len, rz)) (hI : IV D cy L0 x0 s mi ad P I L ls st lsA H locs) {w : FR × MM} (hs : stp pc (.goto z) len rz ls st P I L C = some (.inl w)) (hcR : cells + w.2.2.2.2.1 ≤ R.cells + C.1) (hsR : slots + w.2.2.2.2.2 ≤ R.slots + C.2) (hfR : 8 ≤ R.frames) (hlR : 128 ≤ R.locals)
    (k : KN p l e R s m args below meth c cells slots Q D cy L0 x0 mi ad P C w) : W p l e R s m args below meth c H locs cells slots Q (F0 m pc lsA (cv ad st)) := by
  obtain ⟨hdec, hck⟩ := dec_ok hd
  obtain ⟨hx, hb, hml, hrt, hown, hlocks, htab, hnm⟩ := fo
  have hts : ∀ w ∈ GT, w.before args s = true := fun w hw => sv.1 w hw args
  obtain ⟨hP, hD, hwf, hS, hlh, hlv, hsv, hx1, hx2, hx3⟩ := id hI
  simp only [stp] at hs
  simp only [ckR, Bool.and_eq_true, beq_iff_eq, decide_eq_true_eq] at hck
  obtain ⟨rfl, hv0⟩ := hck
  obtain ⟨t, rfl, ht⟩ := ckT1_inv hv0
  cases hs
  exact lv_goto (rest := cv ad st) hx hb hdec ht (KN.pure k hI hsv)

set_option maxHeartbeats 4000000 in
theorem sx_ifnull {z : Int} (fo : FO p s m meth c mi) (sv : SV D cy s) (sh : SH L0 x0 s s.heap) (hd : dec mi pc = some (.ifnull z, len, rz)) (hI : IV D cy L0 x0 s mi ad P I L ls st lsA H locs) {w : FR × MM} (hs : stp pc (.ifnull z) len rz ls st P I L C = some (.inl w)) (hcR : cells + w.2.2.2.2.1 ≤ R.cells + C.1) (hsR : slots + w.2.2.2.2.2 ≤ R.slots + C.2) (hfR : 8 ≤ R.frames) (hlR : 128 ≤ R.locals)
    (k : KN p l e R s m args below meth c cells slots Q D cy L0 x0 mi ad P C w) : W p l e R s m args below meth c H locs cells slots Q (F0 m pc lsA (cv ad st)) := by
  obtain ⟨hdec, hck⟩ := dec_ok hd
  obtain ⟨hx, hb, hml, hrt, hown, hlocks, htab, hnm⟩ := fo
  have hts : ∀ w ∈ GT, w.before args s = true := fun w hw => sv.1 w hw args
  obtain ⟨hP, hD, hwf, hS, hlh, hlv, hsv, hx1, hx2, hx3⟩ := id hI
  simp only [stp] at hs
  simp only [ckR, Bool.and_eq_true, beq_iff_eq, decide_eq_true_eq] at hck
  obtain ⟨rfl, hv0⟩ := hck
  split at hs
  · rename_i a st1
    cases hs
    exact lv_ifnull (x := ad a) (rest := cv ad st1) hx hb hdec (KN.pure k hI (List.forall_mem_cons.mp hsv).2)
  · cases hs

set_option maxHeartbeats 4000000 in
theorem sx_ifnonnull {z : Int} (fo : FO p s m meth c mi) (sv : SV D cy s) (sh : SH L0 x0 s s.heap) (hd : dec mi pc = some (.ifnonnull z, len, rz)) (hI : IV D cy L0 x0 s mi ad P I L ls st lsA H locs) {w : FR × MM} (hs : stp pc (.ifnonnull z) len rz ls st P I L C = some (.inl w)) (hcR : cells + w.2.2.2.2.1 ≤ R.cells + C.1) (hsR : slots + w.2.2.2.2.2 ≤ R.slots + C.2) (hfR : 8 ≤ R.frames) (hlR : 128 ≤ R.locals)
    (k : KN p l e R s m args below meth c cells slots Q D cy L0 x0 mi ad P C w) : W p l e R s m args below meth c H locs cells slots Q (F0 m pc lsA (cv ad st)) := by
  obtain ⟨hdec, hck⟩ := dec_ok hd
  obtain ⟨hx, hb, hml, hrt, hown, hlocks, htab, hnm⟩ := fo
  have hts : ∀ w ∈ GT, w.before args s = true := fun w hw => sv.1 w hw args
  obtain ⟨hP, hD, hwf, hS, hlh, hlv, hsv, hx1, hx2, hx3⟩ := id hI
  simp only [stp] at hs
  simp only [ckR, Bool.and_eq_true, beq_iff_eq, decide_eq_true_eq] at hck
  obtain ⟨rfl, hv0⟩ := hck
  obtain ⟨t, rfl, ht⟩ := ckT1_inv hv0
  split at hs
  · rename_i a st1 t1 h9
    cases h9
    cases hs
    exact lv_ifnonnull (x := ad a) (rest := cv ad st1) hx hb hdec ht (KN.pure k hI (List.forall_mem_cons.mp hsv).2)
  · cases hs

set_option maxHeartbeats 4000000 in
theorem sx_if_eq {z : Int} (fo : FO p s m meth c mi) (sv : SV D cy s) (sh : SH L0 x0 s s.heap) (hd : dec mi pc = some (.ifCond .eq z, len, rz)) (hI : IV D cy L0 x0 s mi ad P I L ls st lsA H locs) {w : FR × MM} (hs : stp pc (.ifCond .eq z) len rz ls st P I L C = some (.inl w)) (hcR : cells + w.2.2.2.2.1 ≤ R.cells + C.1) (hsR : slots + w.2.2.2.2.2 ≤ R.slots + C.2) (hfR : 8 ≤ R.frames) (hlR : 128 ≤ R.locals)
    (k : KN p l e R s m args below meth c cells slots Q D cy L0 x0 mi ad P C w) : W p l e R s m args below meth c H locs cells slots Q (F0 m pc lsA (cv ad st)) := by
  obtain ⟨hdec, hck⟩ := dec_ok hd
  obtain ⟨hx, hb, hml, hrt, hown, hlocks, htab, hnm⟩ := fo
  have hts : ∀ w ∈ GT, w.before args s = true := fun w hw => sv.1 w hw args
  obtain ⟨hP, hD, hwf, hS, hlh, hlv, hsv, hx1, hx2, hx3⟩ := id hI
  simp only [stp] at hs
  simp only [ckR, Bool.and_eq_true, beq_iff_eq, decide_eq_true_eq] at hck
  obtain ⟨rfl, hv0⟩ := hck
  obtain ⟨t, rfl, ht⟩ := ckT1_inv hv0
  split at hs
  · rename_i x st1 t1 h9
    cases h9
    have hv := (List.forall_mem_cons.mp hsv).2
    unfold brI at hs
    dsimp only at hs
    refine lv_if_eq (rest := cv ad st1) hx hb hdec ht (fun hc => ?_) (fun hc => ?_)
    · rw [if_pos hc] at hs
      cases hs
      exact KN.pure k hI hv
    · rw [if_neg hc] at hs
      cases hs
      exact KN.pure k hI hv
  · cases hs

set_option maxHeartbeats 4000000 in
theorem sx_icmp_eq {z : Int} (fo : FO p s m meth c mi) (sv : SV D cy s) (sh : SH L0 x0 s s.heap) (hd : dec mi pc = some (.if_icmp .eq z, len, rz)) (hI : IV D cy L0 x0 s mi ad P I L ls st lsA H locs) {w : FR × MM} (hs : stp pc (.if_icmp .eq z) len rz ls st P I L C = some (.inl w)) (hcR : cells + w.2.2.2.2.1 ≤ R.cells + C.1) (hsR : slots + w.2.2.2.2.2 ≤ R.slots + C.2) (hfR : 8 ≤ R.frames) (hlR : 128 ≤ R.locals)
    (k : KN p l e R s m args below meth c cells slots Q D cy L0 x0 mi ad P C w) : W p l e R s m args below meth c H locs cells slots Q (F0 m pc lsA (cv ad st)) := by
  obtain ⟨hdec, hck⟩ := dec_ok hd
  obtain ⟨hx, hb, hml, hrt, hown, hlocks, htab, hnm⟩ := fo
  have hts : ∀ w ∈ GT, w.before args s = true := fun w hw => sv.1 w hw args
  obtain ⟨hP, hD, hwf, hS, hlh, hlv, hsv, hx1, hx2, hx3⟩ := id hI
  simp only [stp] at hs
  simp only [ckR, Bool.and_eq_true, beq_iff_eq, decide_eq_true_eq] at hck
  obtain ⟨rfl, hv0⟩ := hck
  obtain ⟨t, rfl, ht⟩ := ckT1_inv hv0
  split at hs
  · rename_i y x st1 t1 h9
    cases h9
    have hv := (List.forall_mem_cons.mp (List.forall_mem_cons.mp hsv).2).2
    unfold brII at hs
    dsimp only at hs
    refine lv_icmp_eq (rest := cv ad st1) hx hb hdec ht (fun hc => ?_) (fun hc => ?_)
    · rw [if_pos hc] at hs
      cases hs
      exact KN.pure k hI hv
    · rw [if_neg hc] at hs
      cases hs
      exact KN.pure k hI hv
  · cases hs

set_option maxHeartbeats 4000000 in
theorem sx_if_ne {z : Int} (fo : FO p s m meth c mi) (sv : SV D cy s) (sh : SH L0 x0 s s.heap) (hd : dec mi pc = some (.ifCond .ne z, len, rz)) (hI : IV D cy L0 x0 s mi ad P I L ls st lsA H locs) {w : FR × MM} (hs : stp pc (.ifCond .ne z) len rz ls st P I L C = some (.inl w)) (hcR : cells + w.2.2.2.2.1 ≤ R.cells + C.1) (hsR : slots + w.2.2.2.2.2 ≤ R.slots + C.2) (hfR : 8 ≤ R.frames) (hlR : 128 ≤ R.locals)
    (k : KN p l e R s m args below meth c cells slots Q D cy L0 x0 mi ad P C w) : W p l e R s m args below meth c H locs cells slots Q (F0 m pc lsA (cv ad st)) := by
  obtain ⟨hdec, hck⟩ := dec_ok hd
  obtain ⟨hx, hb, hml, hrt, hown, hlocks, htab, hnm⟩ := fo
  have hts : ∀ w ∈ GT, w.before args s = true := fun w hw => sv.1 w hw args
  obtain ⟨hP, hD, hwf, hS, hlh, hlv, hsv, hx1, hx2, hx3⟩ := id hI
  simp only [stp] at hs
  simp only [ckR, Bool.and_eq_true, beq_iff_eq, decide_eq_true_eq] at hck
  obtain ⟨rfl, hv0⟩ := hck
  obtain ⟨t, rfl, ht⟩ := ckT1_inv hv0
  split at hs
  · rename_i x st1 t1 h9
    cases h9
    have hv := (List.forall_mem_cons.mp hsv).2
    unfold brI at hs
    dsimp only at hs
    refine lv_if_ne (rest := cv ad st1) hx hb hdec ht (fun hc => ?_) (fun hc => ?_)
    · rw [if_neg hc] at hs
      cases hs
      exact KN.pure k hI hv
    · rw [if_pos hc] at hs
      cases hs
      exact KN.pure k hI hv
  · cases hs

set_option maxHeartbeats 4000000 in
theorem sx_icmp_ne {z : Int} (fo : FO p s m meth c mi) (sv : SV D cy s) (sh : SH L0 x0 s s.heap) (hd : dec mi pc = some (.if_icmp .ne z, len, rz)) (hI : IV D cy L0 x0 s mi ad P I L ls st lsA H locs) {w : FR × MM} (hs : stp pc (.if_icmp .ne z) len rz ls st P I L C = some (.inl w)) (hcR : cells + w.2.2.2.2.1 ≤ R.cells + C.1) (hsR : slots + w.2.2.2.2.2 ≤ R.slots + C.2) (hfR : 8 ≤ R.frames) (hlR : 128 ≤ R.locals)
    (k : KN p l e R s m args below meth c cells slots Q D cy L0 x0 mi ad P C w) : W p l e R s m args below meth c H locs cells slots Q (F0 m pc lsA (cv ad st)) := by
  obtain ⟨hdec, hck⟩ := dec_ok hd
  obtain ⟨hx, hb, hml, hrt, hown, hlocks, htab, hnm⟩ := fo
  have hts : ∀ w ∈ GT, w.before args s = true := fun w hw => sv.1 w hw args
  obtain ⟨hP, hD, hwf, hS, hlh, hlv, hsv, hx1, hx2, hx3⟩ := id hI
  simp only [stp] at hs
  simp only [ckR, Bool.and_eq_true, beq_iff_eq, decide_eq_true_eq] at hck
  obtain ⟨rfl, hv0⟩ := hck
  obtain ⟨t, rfl, ht⟩ := ckT1_inv hv0
  split at hs
  · rename_i y x st1 t1 h9
    cases h9
    have hv := (List.forall_mem_cons.mp (List.forall_mem_cons.mp hsv).2).2
    unfold brII at hs
    dsimp only at hs
    refine lv_icmp_ne (rest := cv ad st1) hx hb hdec ht (fun hc => ?_) (fun hc => ?_)
    · rw [if_neg hc] at hs
      cases hs
      exact KN.pure k hI hv
    · rw [if_pos hc] at hs
      cases hs
      exact KN.pure k hI hv
  · cases hs

set_option maxHeartbeats 4000000 in
theorem sx_if_lt {z : Int} (fo : FO p s m meth c mi) (sv : SV D cy s) (sh : SH L0 x0 s s.heap) (hd : dec mi pc = some (.ifCond .lt z, len, rz)) (hI : IV D cy L0 x0 s mi ad P I L ls st lsA H locs) {w : FR × MM} (hs : stp pc (.ifCond .lt z) len rz ls st P I L C = some (.inl w)) (hcR : cells + w.2.2.2.2.1 ≤ R.cells + C.1) (hsR : slots + w.2.2.2.2.2 ≤ R.slots + C.2) (hfR : 8 ≤ R.frames) (hlR : 128 ≤ R.locals)
    (k : KN p l e R s m args below meth c cells slots Q D cy L0 x0 mi ad P C w) : W p l e R s m args below meth c H locs cells slots Q (F0 m pc lsA (cv ad st)) := by
  obtain ⟨hdec, hck⟩ := dec_ok hd
  obtain ⟨hx, hb, hml, hrt, hown, hlocks, htab, hnm⟩ := fo
  have hts : ∀ w ∈ GT, w.before args s = true := fun w hw => sv.1 w hw args
  obtain ⟨hP, hD, hwf, hS, hlh, hlv, hsv, hx1, hx2, hx3⟩ := id hI
  simp only [stp] at hs
  simp only [ckR, Bool.and_eq_true, beq_iff_eq, decide_eq_true_eq] at hck
  obtain ⟨rfl, hv0⟩ := hck
  obtain ⟨t, rfl, ht⟩ := ckT1_inv hv0
  split at hs
  · rename_i x st1 t1 h9
    cases h9
    have hv := (List.forall_mem_cons.mp hsv).2
    unfold brI at hs
    dsimp only at hs
    refine lv_if_lt (rest := cv ad st1) hx hb hdec ht (fun hc => ?_) (fun hc => ?_)
    · rw [if_pos hc] at hs
      cases hs
      exact KN.pure k hI hv
    · rw [if_neg hc] at hs
      cases hs
      exact KN.pure k hI hv
  · cases hs

set_option maxHeartbeats 4000000 in
theorem sx_icmp_lt {z : Int} (fo : FO p s m meth c mi) (sv : SV D cy s) (sh : SH L0 x0 s s.heap) (hd : dec mi pc = some (.if_icmp .lt z, len, rz)) (hI : IV D cy L0 x0 s mi ad P I L ls st lsA H locs) {w : FR × MM} (hs : stp pc (.if_icmp .lt z) len rz ls st P I L C = some (.inl w)) (hcR : cells + w.2.2.2.2.1 ≤ R.cells + C.1) (hsR : slots + w.2.2.2.2.2 ≤ R.slots + C.2) (hfR : 8 ≤ R.frames) (hlR : 128 ≤ R.locals)
    (k : KN p l e R s m args below meth c cells slots Q D cy L0 x0 mi ad P C w) : W p l e R s m args below meth c H locs cells slots Q (F0 m pc lsA (cv ad st)) := by
  obtain ⟨hdec, hck⟩ := dec_ok hd
  obtain ⟨hx, hb, hml, hrt, hown, hlocks, htab, hnm⟩ := fo
  have hts : ∀ w ∈ GT, w.before args s = true := fun w hw => sv.1 w hw args
  obtain ⟨hP, hD, hwf, hS, hlh, hlv, hsv, hx1, hx2, hx3⟩ := id hI
  simp only [stp] at hs
  simp only [ckR, Bool.and_eq_true, beq_iff_eq, decide_eq_true_eq] at hck
  obtain ⟨rfl, hv0⟩ := hck
  obtain ⟨t, rfl, ht⟩ := ckT1_inv hv0
  split at hs
  · rename_i y x st1 t1 h9
    cases h9
    have hv := (List.forall_mem_cons.mp (List.forall_mem_cons.mp hsv).2).2
    unfold brII at hs
    dsimp only at hs
    refine lv_icmp_lt (rest := cv ad st1) hx hb hdec ht (fun hc => ?_) (fun hc => ?_)
    · rw [if_pos hc] at hs
      cases hs
      exact KN.pure k hI hv
    · rw [if_neg hc] at hs
      cases hs
      exact KN.pure k hI hv
  · cases hs

set_option maxHeartbeats 4000000 in
theorem sx_if_ge {z : Int} (fo : FO p s m meth c mi) (sv : SV D cy s) (sh : SH L0 x0 s s.heap) (hd : dec mi pc = some (.ifCond .ge z, len, rz)) (hI : IV D cy L0 x0 s mi ad P I L ls st lsA H locs) {w : FR × MM} (hs : stp pc (.ifCond .ge z) len rz ls st P I L C = some (.inl w)) (hcR : cells + w.2.2.2.2.1 ≤ R.cells + C.1) (hsR : slots + w.2.2.2.2.2 ≤ R.slots + C.2) (hfR : 8 ≤ R.frames) (hlR : 128 ≤ R.locals)
    (k : KN p l e R s m args below meth c cells slots Q D cy L0 x0 mi ad P C w) : W p l e R s m args below meth c H locs cells slots Q (F0 m pc lsA (cv ad st)) := by
  obtain ⟨hdec, hck⟩ := dec_ok hd
  obtain ⟨hx, hb, hml, hrt, hown, hlocks, htab, hnm⟩ := fo
  have hts : ∀ w ∈ GT, w.before args s = true := fun w hw => sv.1 w hw args
  obtain ⟨hP, hD, hwf, hS, hlh, hlv, hsv, hx1, hx2, hx3⟩ := id hI
  simp only [stp] at hs
  simp only [ckR, Bool.and_eq_true, beq_iff_eq, decide_eq_true_eq] at hck
  obtain ⟨rfl, hv0⟩ := hck
  obtain ⟨t, rfl, ht⟩ := ckT1_inv hv0
  split at hs
  · rename_i x st1 t1 h9
    cases h9
    have hv := (List.forall_mem_cons.mp hsv).2
    unfold brI at hs
    dsimp only at hs
    refine lv_if_ge (rest := cv ad st1) hx hb hdec ht (fun hc => ?_) (fun hc => ?_)
    · rw [if_pos hc] at hs
      cases hs
      exact KN.pure k hI hv
    · rw [if_neg hc] at hs
      cases hs
      exact KN.pure k hI hv
  · cases hs

set_option maxHeartbeats 4000000 in
theorem sx_icmp_ge {z : Int} (fo : FO p s m meth c mi) (sv : SV D cy s) (sh : SH L0 x0 s s.heap) (hd : dec mi pc = some (.if_icmp .ge z, len, rz)) (hI : IV D cy L0 x0 s mi ad P I L ls st lsA H locs) {w : FR × MM} (hs : stp pc (.if_icmp .ge z) len rz ls st P I L C = some (.inl w)) (hcR : cells + w.2.2.2.2.1 ≤ R.cells + C.1) (hsR : slots + w.2.2.2.2.2 ≤ R.slots + C.2) (hfR : 8 ≤ R.frames) (hlR : 128 ≤ R.locals)
    (k : KN p l e R s m args below meth c cells slots Q D cy L0 x0 mi ad P C w) : W p l e R s m args below meth c H locs cells slots Q (F0 m pc lsA (cv ad st)) := by
  obtain ⟨hdec, hck⟩ := dec_ok hd
  obtain ⟨hx, hb, hml, hrt, hown, hlocks, htab, hnm⟩ := fo
  have hts : ∀ w ∈ GT, w.before args s = true := fun w hw => sv.1 w hw args
  obtain ⟨hP, hD, hwf, hS, hlh, hlv, hsv, hx1, hx2, hx3⟩ := id hI
  simp only [stp] at hs
  simp only [ckR, Bool.and_eq_true, beq_iff_eq, decide_eq_true_eq] at hck
  obtain ⟨rfl, hv0⟩ := hck
  obtain ⟨t, rfl, ht⟩ := ckT1_inv hv0
  split at hs
  · rename_i y x st1 t1 h9
    cases h9
    have hv := (List.forall_mem_cons.mp (List.forall_mem_cons.mp hsv).2).2
    unfold brII at hs
    dsimp only at hs
    refine lv_icmp_ge (rest := cv ad st1) hx hb hdec ht (fun hc => ?_) (fun hc => ?_)
    · rw [if_pos hc] at hs
      cases hs
      exact KN.pure k hI hv
    · rw [if_neg hc] at hs
      cases hs
      exact KN.pure k hI hv
  · cases hs

set_option maxHeartbeats 4000000 in
theorem sx_if_gt {z : Int} (fo : FO p s m meth c mi) (sv : SV D cy s) (sh : SH L0 x0 s s.heap) (hd : dec mi pc = some (.ifCond .gt z, len, rz)) (hI : IV D cy L0 x0 s mi ad P I L ls st lsA H locs) {w : FR × MM} (hs : stp pc (.ifCond .gt z) len rz ls st P I L C = some (.inl w)) (hcR : cells + w.2.2.2.2.1 ≤ R.cells + C.1) (hsR : slots + w.2.2.2.2.2 ≤ R.slots + C.2) (hfR : 8 ≤ R.frames) (hlR : 128 ≤ R.locals)
    (k : KN p l e R s m args below meth c cells slots Q D cy L0 x0 mi ad P C w) : W p l e R s m args below meth c H locs cells slots Q (F0 m pc lsA (cv ad st)) := by
  obtain ⟨hdec, hck⟩ := dec_ok hd
  obtain ⟨hx, hb, hml, hrt, hown, hlocks, htab, hnm⟩ := fo
  have hts : ∀ w ∈ GT, w.before args s = true := fun w hw => sv.1 w hw args
  obtain ⟨hP, hD, hwf, hS, hlh, hlv, hsv, hx1, hx2, hx3⟩ := id hI
  simp only [stp] at hs
  simp only [ckR, Bool.and_eq_true, beq_iff_eq, decide_eq_true_eq] at hck
  obtain ⟨rfl, hv0⟩ := hck
  obtain ⟨t, rfl, ht⟩ := ckT1_inv hv0
  split at hs
  · rename_i x st1 t1 h9
    cases h9
    have hv := (List.forall_mem_cons.mp hsv).2
    unfold brI at hs
    dsimp only at hs
    refine lv_if_gt (rest := cv ad st1) hx hb hdec ht (fun hc => ?_) (fun hc => ?_)
    · rw [if_pos hc] at hs
      cases hs
      exact KN.pure k hI hv
    · rw [if_neg hc] at hs
      cases hs
      exact KN.pure k hI hv
  · cases hs

set_option maxHeartbeats 4000000 in
theorem sx_icmp_gt {z : Int} (fo : FO p s m meth c mi) (sv : SV D cy s) (sh : SH L0 x0 s s.heap) (hd : dec mi pc = some (.if_icmp .gt z, len, rz)) (hI : IV D cy L0 x0 s mi ad P I L ls st lsA H locs) {w : FR × MM} (hs : stp pc (.if_icmp .gt z) len rz ls st P I L C = some (.inl w)) (hcR : cells + w.2.2.2.2.1 ≤ R.cells + C.1) (hsR : slots + w.2.2.2.2.2 ≤ R.slots + C.2) (hfR : 8 ≤ R.frames) (hlR : 128 ≤ R.locals)
    (k : KN p l e R s m args below meth c cells slots Q D cy L0 x0 mi ad P C w) : W p l e R s m args below meth c H locs cells slots Q (F0 m pc lsA (cv ad st)) := by
  obtain ⟨hdec, hck⟩ := dec_ok hd
  obtain ⟨hx, hb, hml, hrt, hown, hlocks, htab, hnm⟩ := fo
  have hts : ∀ w ∈ GT, w.before args s = true := fun w hw => sv.1 w hw args
  obtain ⟨hP, hD, hwf, hS, hlh, hlv, hsv, hx1, hx2, hx3⟩ := id hI
  simp only [stp] at hs
  simp only [ckR, Bool.and_eq_true, beq_iff_eq, decide_eq_true_eq] at hck
  obtain ⟨rfl, hv0⟩ := hck
  obtain ⟨t, rfl, ht⟩ := ckT1_inv hv0
  split at hs
  · rename_i y x st1 t1 h9
    cases h9
    have hv := (List.forall_mem_cons.mp (List.forall_mem_cons.mp hsv).2).2
    unfold brII at hs
    dsimp only at hs
    refine lv_icmp_gt (rest := cv ad st1) hx hb hdec ht (fun hc => ?_) (fun hc => ?_)
    · rw [if_pos hc] at hs
      cases hs
      exact KN.pure k hI hv
    · rw [if_neg hc] at hs
      cases hs
      exact KN.pure k hI hv
  · cases hs

set_option maxHeartbeats 4000000 in
theorem sx_if_le {z : Int} (fo : FO p s m meth c mi) (sv : SV D cy s) (sh : SH L0 x0 s s.heap) (hd : dec mi pc = some (.ifCond .le z, len, rz)) (hI : IV D cy L0 x0 s mi ad P I L ls st lsA H locs) {w : FR × MM} (hs : stp pc (.ifCond .le z) len rz ls st P I L C = some (.inl w)) (hcR : cells + w.2.2.2.2.1 ≤ R.cells + C.1) (hsR : slots + w.2.2.2.2.2 ≤ R.slots + C.2) (hfR : 8 ≤ R.frames) (hlR : 128 ≤ R.locals)
    (k : KN p l e R s m args below meth c cells slots Q D cy L0 x0 mi ad P C w) : W p l e R s m args below meth c H locs cells slots Q (F0 m pc lsA (cv ad st)) := by
  obtain ⟨hdec, hck⟩ := dec_ok hd
  obtain ⟨hx, hb, hml, hrt, hown, hlocks, htab, hnm⟩ := fo
  have hts : ∀ w ∈ GT, w.before args s = true := fun w hw => sv.1 w hw args
  obtain ⟨hP, hD, hwf, hS, hlh, hlv, hsv, hx1, hx2, hx3⟩ := id hI
  simp only [stp] at hs
  simp only [ckR, Bool.and_eq_true, beq_iff_eq, decide_eq_true_eq] at hck
  obtain ⟨rfl, hv0⟩ := hck
  obtain ⟨t, rfl, ht⟩ := ckT1_inv hv0
  split at hs
  · rename_i x st1 t1 h9
    cases h9
    have hv := (List.forall_mem_cons.mp hsv).2
    unfold brI at hs
    dsimp only at hs
    refine lv_if_le (rest := cv ad st1) hx hb hdec ht (fun hc => ?_) (fun hc => ?_)
    · rw [if_pos hc] at hs
      cases hs
      exact KN.pure k hI hv
    · rw [if_neg hc] at hs
      cases hs
      exact KN.pure k hI hv
  · cases hs

set_option maxHeartbeats 4000000 in
theorem sx_icmp_le {z : Int} (fo : FO p s m meth c mi) (sv : SV D cy s) (sh : SH L0 x0 s s.heap) (hd : dec mi pc = some (.if_icmp .le z, len, rz)) (hI : IV D cy L0 x0 s mi ad P I L ls st lsA H locs) {w : FR × MM} (hs : stp pc (.if_icmp .le z) len rz ls st P I L C = some (.inl w)) (hcR : cells + w.2.2.2.2.1 ≤ R.cells + C.1) (hsR : slots + w.2.2.2.2.2 ≤ R.slots + C.2) (hfR : 8 ≤ R.frames) (hlR : 128 ≤ R.locals)
    (k : KN p l e R s m args below meth c cells slots Q D cy L0 x0 mi ad P C w) : W p l e R s m args below meth c H locs cells slots Q (F0 m pc lsA (cv ad st)) := by
  obtain ⟨hdec, hck⟩ := dec_ok hd
  obtain ⟨hx, hb, hml, hrt, hown, hlocks, htab, hnm⟩ := fo
  have hts : ∀ w ∈ GT, w.before args s = true := fun w hw => sv.1 w hw args
  obtain ⟨hP, hD, hwf, hS, hlh, hlv, hsv, hx1, hx2, hx3⟩ := id hI
  simp only [stp] at hs
  simp only [ckR, Bool.and_eq_true, beq_iff_eq, decide_eq_true_eq] at hck
  obtain ⟨rfl, hv0⟩ := hck
  obtain ⟨t, rfl, ht⟩ := ckT1_inv hv0
  split at hs
  · rename_i y x st1 t1 h9
    cases h9
    have hv := (List.forall_mem_cons.mp (List.forall_mem_cons.mp hsv).2).2
    unfold brII at hs
    dsimp only at hs
    refine lv_icmp_le (rest := cv ad st1) hx hb hdec ht (fun hc => ?_) (fun hc => ?_)
    · rw [if_pos hc] at hs
      cases hs
      exact KN.pure k hI hv
    · rw [if_neg hc] at hs
      cases hs
      exact KN.pure k hI hv
  · cases hs

set_option maxHeartbeats 4000000 in
theorem sx_tableswitch {dflt lo hi : Int} {offs : Array Int} (fo : FO p s m meth c mi) (sv : SV D cy s) (sh : SH L0 x0 s s.heap) (hd : dec mi pc = some (.tableswitch dflt lo hi offs, len, rz)) (hI : IV D cy L0 x0 s mi ad P I L ls st lsA H locs) {w : FR × MM} (hs : stp pc (.tableswitch dflt lo hi offs) len rz ls st P I L C = some (.inl w)) (hcR : cells + w.2.2.2.2.1 ≤ R.cells + C.1) (hsR : slots + w.2.2.2.2.2 ≤ R.slots + C.2) (hfR : 8 ≤ R.frames) (hlR : 128 ≤ R.locals)
    (k : KN p l e R s m args below meth c cells slots Q D cy L0 x0 mi ad P C w) : W p l e R s m args below meth c H locs cells slots Q (F0 m pc lsA (cv ad st)) := by
  obtain ⟨hdec, hck⟩ := dec_ok hd
  obtain ⟨hx, hb, hml, hrt, hown, hlocks, htab, hnm⟩ := fo
  have hts : ∀ w ∈ GT, w.before args s = true := fun w hw => sv.1 w hw args
  obtain ⟨hP, hD, hwf, hS, hlh, hlv, hsv, hx1, hx2, hx3⟩ := id hI
  simp only [stp] at hs
  simp only [ckR, Bool.and_eq_true, beq_iff_eq, decide_eq_true_eq] at hck
  split at hs
  · rename_i x st1
    have hv := (List.forall_mem_cons.mp hsv).2
    split at hs
    · rename_i hc
      split at hs
      · rename_i h0
        cases hs
        exact lv_tableOut (rest := cv ad st1) hx hb hdec hc (by omega) (KN.pure k hI hv)
      · cases hs
    · rename_i hc
      split at hs
      · rename_i o ho
        split at hs
        · rename_i h0
          cases hs
          exact lv_tableIn (rest := cv ad st1) hx hb hdec (fun q => hc (Or.inl q)) (fun q => hc (Or.inr q)) ho (by omega) (KN.pure k hI hv)
        · cases hs
      · cases hs
  · cases hs

set_option maxHeartbeats 4000000 in
theorem sx_lookupswitch {dflt : Int} {ps : Array (Int × Int)} (fo : FO p s m meth c mi) (sv : SV D cy s) (sh : SH L0 x0 s s.heap) (hd : dec mi pc = some (.lookupswitch dflt ps, len, rz)) (hI : IV D cy L0 x0 s mi ad P I L ls st lsA H locs) {w : FR × MM} (hs : stp pc (.lookupswitch dflt ps) len rz ls st P I L C = some (.inl w)) (hcR : cells + w.2.2.2.2.1 ≤ R.cells + C.1) (hsR : slots + w.2.2.2.2.2 ≤ R.slots + C.2) (hfR : 8 ≤ R.frames) (hlR : 128 ≤ R.locals)
    (k : KN p l e R s m args below meth c cells slots Q D cy L0 x0 mi ad P C w) : W p l e R s m args below meth c H locs cells slots Q (F0 m pc lsA (cv ad st)) := by
  obtain ⟨hdec, hck⟩ := dec_ok hd
  obtain ⟨hx, hb, hml, hrt, hown, hlocks, htab, hnm⟩ := fo
  have hts : ∀ w ∈ GT, w.before args s = true := fun w hw => sv.1 w hw args
  obtain ⟨hP, hD, hwf, hS, hlh, hlv, hsv, hx1, hx2, hx3⟩ := id hI
  simp only [stp] at hs
  simp only [ckR, Bool.and_eq_true, beq_iff_eq, decide_eq_true_eq] at hck
  split at hs
  · rename_i x st1
    have hv := (List.forall_mem_cons.mp hsv).2
    split at hs
    · rename_i h0
      cases hs
      exact lv_lookup (rest := cv ad st1) hx hb hdec hck rfl (by omega) (KN.pure k hI hv)
    · cases hs
  · cases hs

end SND
end
section
/-! SOUND, third part: steps that touch the heap -/
theorem kind_obj {cy : CY} {ad : Nat → Nat} {P : MP} {I : MI} {L : ML} {k ci : Nat} (h : (P.1 k).1 = ci + 1) (hc : ci < 11) : elt cy ad P I L k = .inr (ci, flds ad P I L ci k) := by
  unfold elt
  rw [h, if_neg (by omega), if_neg (by omega), if_neg (by omega), if_neg (by omega), Nat.add_sub_cancel]
theorem kind_at {P : MP} (hw : wf P) {k : Nat} (h0 : (P.1 k).1 ≠ 0) (h1 : (P.1 k).1 ≠ 30) : 1 ≤ k ∧ k ≤ P.2.2 := by
  rcases hw.1 k h0 with h | h
  · exact absurd h.2 h1
  · exact ⟨h.1, h.2.1⟩
theorem cl_at {ci : Nat} (h : ci < 11) : vwCl[ci]? = some (cn ci, fT ci, fN ci) := by
  match ci, h with
  | 0, _ => rfl
  | 1, _ => rfl
  | 2, _ => rfl
  | 3, _ => rfl
  | 4, _ => rfl
  | 5, _ => rfl
  | 6, _ => rfl
  | 7, _ => rfl
  | 8, _ => rfl
  | 9, _ => rfl
  | 10, _ => rfl
  | n + 11, h => exact absurd h (by omega)
theorem ty_at {ci : Nat} (h : ci < 11) : ∀ k, k < fN ci → parseFieldDescriptor (fT ci k).2.2.1 = some (fY ci k) := by
  match ci, h with
  | 0, _ => exact tyX0_ok
  | 1, _ => exact tyX1_ok
  | 2, _ => exact tyX2_ok
  | 3, _ => exact tyX3_ok
  | 4, _ => exact tyX4_ok
  | 5, _ => exact tyX5_ok
  | 6, _ => exact tyX6_ok
  | 7, _ => exact tyX7_ok
  | 8, _ => exact tyX8_ok
  | 9, _ => exact tyX9_ok
  | 10, _ => exact tyX10_ok
  | n + 11, h => exact absurd h (by omega)
theorem nm_at {ci : Nat} (h : ci < 11) : ∀ a, a < fN ci → ∀ b, b < fN ci → a ≠ b → (fT ci a).2.1 ≠ (fT ci b).2.1 := by
  match ci, h with
  | 0, _ => exact nmX0
  | 1, _ => exact nmX1
  | 2, _ => exact nmX2
  | 3, _ => exact nmX3
  | 4, _ => exact nmX4
  | 5, _ => exact nmX5
  | 6, _ => exact nmX6
  | 7, _ => exact nmX7
  | 8, _ => exact nmX8
  | 9, _ => exact nmX9
  | 10, _ => exact nmX10
  | n + 11, h => exact absurd h (by omega)
theorem fl_at {ad : Nat → Nat} {P : MP} {I : MI} {L : ML} {ci k f : Nat} (h : f < fN ci) : (flds ad P I L ci k)[f]? = some (fval ad P I L (fY ci f) k f) := by
  unfold flds
  rw [List.getElem?_map, List.getElem?_range h]; rfl
theorem fl_len {ad : Nat → Nat} {P : MP} {I : MI} {L : ML} {ci k : Nat} : (flds ad P I L ci k).length = fN ci := by
  unfold flds; rw [List.length_map, List.length_range]
theorem fl_set {ad : Nat → Nat} {P P' : MP} {I I' : MI} {L L' : ML} {ci k f : Nat} {v : Value} (hv : fval ad P' I' L' (fY ci f) k f = v) (ho : ∀ g, g ≠ f → fval ad P' I' L' (fY ci g) k g = fval ad P I L (fY ci g) k g) : (flds ad P I L ci k).set f v = flds ad P' I' L' ci k := by
  apply List.ext_getElem?
  intro g
  by_cases hl : g < fN ci
  · rw [fl_at (P := P') hl]
    by_cases e : g = f
    · subst e
      rw [List.getElem?_set_self (by rw [fl_len]; exact hl), hv]
    · rw [List.getElem?_set_ne (Ne.symm e), fl_at hl, ho g e]
  · rw [List.getElem?_eq_none (by rw [List.length_set, fl_len]; omega), List.getElem?_eq_none (by rw [fl_len]; omega)]

theorem uw0 : (u_ws (cn 0) (fT 0) (fN 0)).map some = [320, 322, 324, 326, 328, 330, 332].map (fun i => lw_tbl[i]?) := by decide +kernel
theorem ug0 : (u_ws (cn 0) (fT 0) (fN 0)).all tw = true := by decide +kernel
theorem uw1 : (u_ws (cn 1) (fT 1) (fN 1)).map some = [282, 284, 286].map (fun i => lw_tbl[i]?) := by decide +kernel
theorem ug1 : (u_ws (cn 1) (fT 1) (fN 1)).all tw = true := by decide +kernel
theorem uw2 : (u_ws (cn 2) (fT 2) (fN 2)).map some = [190, 192, 194, 196, 198, 200].map (fun i => lw_tbl[i]?) := by decide +kernel
theorem ug2 : (u_ws (cn 2) (fT 2) (fN 2)).all tw = true := by decide +kernel
theorem uw3 : (u_ws (cn 3) (fT 3) (fN 3)).map some = [165, 167, 169, 171].map (fun i => lw_tbl[i]?) := by decide +kernel
theorem ug3 : (u_ws (cn 3) (fT 3) (fN 3)).all tw = true := by decide +kernel
theorem uw4 : (u_ws (cn 4) (fT 4) (fN 4)).map some = [293, 295, 297, 299].map (fun i => lw_tbl[i]?) := by decide +kernel
theorem ug4 : (u_ws (cn 4) (fT 4) (fN 4)).all tw = true := by decide +kernel
theorem uw5 : (u_ws (cn 5) (fT 5) (fN 5)).map some = [235, 237, 239].map (fun i => lw_tbl[i]?) := by decide +kernel
theorem ug5 : (u_ws (cn 5) (fT 5) (fN 5)).all tw = true := by decide +kernel
theorem uw6 : (u_ws (cn 6) (fT 6) (fN 6)).map some = [215, 217, 219].map (fun i => lw_tbl[i]?) := by decide +kernel
theorem ug6 : (u_ws (cn 6) (fT 6) (fN 6)).all tw = true := by decide +kernel
theorem uw7 : (u_ws (cn 7) (fT 7) (fN 7)).map some = [133, 135, 137, 139, 141, 143, 145, 147].map (fun i => lw_tbl[i]?) := by decide +kernel
theorem ug7 : (u_ws (cn 7) (fT 7) (fN 7)).all tw = true := by decide +kernel
theorem uw8 : (u_ws (cn 8) (fT 8) (fN 8)).map some = [253, 255, 257, 259].map (fun i => lw_tbl[i]?) := by decide +kernel
theorem ug8 : (u_ws (cn 8) (fT 8) (fN 8)).all tw = true := by decide +kernel
theorem uw9 : (u_ws (cn 9) (fT 9) (fN 9)).map some = [345, 347, 349, 351, 353, 355, 357, 359, 361].map (fun i => lw_tbl[i]?) := by decide +kernel
theorem ug9 : (u_ws (cn 9) (fT 9) (fN 9)).all tw = true := by decide +kernel
theorem uw10 : (u_ws (cn 10) (fT 10) (fN 10)).map some = [1085, 1087, 1089, 1091, 1093, 1095, 1097, 1099, 1101, 1103, 1105, 1107, 1109, 1111, 1113, 1115, 1117, 1119, 1121, 1123, 1125, 1127, 1129, 1131, 1133, 1135].map (fun i => lw_tbl[i]?) := by decide +kernel
theorem ug10 : (u_ws (cn 10) (fT 10) (fN 10)).all tw = true := by decide +kernel
theorem uw_in {ws : List Cond} {ps : List Nat} (h : ws.map some = ps.map (fun i => lw_tbl[i]?)) (hg : ws.all tw = true) : ∀ w ∈ ws, w ∈ GT := by
  intro w hw
  have h1 : some w ∈ ps.map (fun i => lw_tbl[i]?) := by rw [← h]; exact List.mem_map.mpr ⟨w, hw, rfl⟩
  obtain ⟨i, -, hi⟩ := List.mem_map.mp h1
  exact mem_GT hi (List.all_eq_true.mp hg w hw)
theorem in_at {ci : Nat} (h : ci < 11) : ∀ w ∈ u_ws (cn ci) (fT ci) (fN ci), w ∈ GT := by
  match ci, h with
  | 0, _ => exact uw_in uw0 ug0
  | 1, _ => exact uw_in uw1 ug1
  | 2, _ => exact uw_in uw2 ug2
  | 3, _ => exact uw_in uw3 ug3
  | 4, _ => exact uw_in uw4 ug4
  | 5, _ => exact uw_in uw5 ug5
  | 6, _ => exact uw_in uw6 ug6
  | 7, _ => exact uw_in uw7 ug7
  | 8, _ => exact uw_in uw8 ug8
  | 9, _ => exact uw_in uw9 ug9
  | 10, _ => exact uw_in uw10 ug10
  | n + 11, h => exact absurd h (by omega)
theorem inb_2 {i : Int32} {n : Nat} (h : inb i n = true) : ¬ i < 0 ∧ i.toNatClampNeg < n := by
  unfold inb at h
  simpa using h
def tyc (t : FieldType) : Nat := match t with
  | .int => 0
  | .long => 1
  | _ => 2
theorem tyc_0 {t : FieldType} (h : 0 = tyc t) : t = .int := by cases t <;> first | rfl | cases h
theorem tyc_1 {t : FieldType} (h : 1 = tyc t) : t = .long := by cases t <;> first | rfl | cases h
theorem fval_2 {t : FieldType} (h : 2 = tyc t) (ad : Nat → Nat) (P : MP) (I : MI) (L : ML) (k f : Nat) : fval ad P I L t k f = va_re ad (P.2.1 k f) := by
  cases t <;> first | rfl | cases h
/-- the types of the fields are int, long, objects, arrays -/
theorem tyo {ci : Nat} (h : ci < 11) : ∀ f, f < fN ci → 2 = tyc (fY ci f) → (∃ n, fY ci f = .object n) ∨ ∃ t, fY ci f = .array t := by
  have key : ∀ t : FieldType, (match t with | .int => true | .long => true | .object _ => true | .array _ => true | _ => false) = true → 2 = tyc t → (∃ n, t = .object n) ∨ ∃ t', t = .array t' := by
    intro t h1 h2
    cases t <;> first | exact Or.inl ⟨_, rfl⟩ | exact Or.inr ⟨_, rfl⟩ | exact absurd h2 (by decide) | exact absurd h1 (by decide)
  intro f hf
  refine key _ ?_
  have hall : ∀ ci < 11, ∀ f < fN ci, (match fY ci f with | .int => true | .long => true | .object _ => true | .array _ => true | _ => false) = true := by decide +kernel
  exact hall ci h f hf
section SND2
variable {p : Program} {l : Launch} {e : Env} {R : Room} {s : State} {m : MethodId} {args : Array Value} {below : List Frame} {meth : Method} {c : Code} {H : Heap} {locs : List Loc} {cells slots : Nat} {Q : State → Prop}
variable {D : va_G} {cy : CY} {L0 : Nat} {x0 : XX} {mi : Nat} {ad : Nat → Nat} {P P' : MP} {I I' : MI} {L L' : ML} {C C' : MC} {ls ls' st st' : List Value} {lsA : Array Slot} {pc pc' : Nat} {i : ClassFile.Instr} {len : Nat} {rz : List Nat}
/-- behind a write -/
theorem KN.wr {pc1 : Nat} {st1 : List Value} {P1 : MP} {I1 : MI} {L1 : ML} (k : KN p l e R s m args below meth c cells slots Q D cy L0 x0 mi ad P C ((pc1, ls, st1), (P1, I1, L1, C))) (h : IV D cy L0 x0 s mi ad P I L ls st lsA H locs) (hv : ∀ v ∈ st1, vk P v) (hn : P1.2.2 = P.2.2) (hw : wf P1) (h0 : P1.1 0 = P.1 0) (hI0 : I1 0 = I 0)
    {H1 : Heap} {locs1 : List Loc} (hP : va_P D vwCl (wl cy ad P1 I1 L1) H1) (hD : va_D (fun q => L0 ≤ q) (wl cy ad P1 I1 L1)) (hS : va_S (fun q => L0 ≤ q) s.heap H1 locs1) :
    W p l e R s m args below meth c H1 locs1 cells slots Q (F0 m pc1 lsA (cv ad st1)) := by
  obtain ⟨-, -, -, -, hlh, hlv, -, hx1, hx2, hx3⟩ := h
  have hle : P.2.2 ≤ P1.2.2 := Nat.le_of_eq hn.symm
  have := k ad lsA H1 locs1 (fun _ _ => rfl) hle ⟨hP, hD, hw, hS, hlh, fun v q => vk_mono hle (hlv v q), fun v q => vk_mono hle (hv v q), h0.trans hx1, hx2, hI0.trans hx3⟩
  simpa only [Nat.sub_self, Nat.add_zero] using this

theorem lkB_field {k ci fi ty nest pl own idx : Nat} (h : lkB k [1, ci, fi, ty, nest, pl] = true) (h1 : k / 1000 = own) (h2 : k % 1000 = idx) : ci < 11 ∧ fi < fN ci ∧ ty = tyc (fY ci fi) ∧ ((tables_1[pl]? = some (.fieldLink (cn own) idx (fT ci fi).1 (fT ci fi).2.1 (fT ci fi).2.2.1)) ∨ (nest ≠ 0 ∧ tables_1[pl]? = some (.fieldLinkNest (cn own) idx (fT ci fi).1 (fT ci fi).2.1 (fT ci fi).2.2.1 RX9))) := by
  cases nest with
  | zero =>
    simp only [lkB, h1, h2, Bool.and_eq_true, decide_eq_true_eq] at h
    exact ⟨h.1.1.2, h.1.2, h.2, Or.inl h.1.1.1⟩
  | succ n =>
    simp only [lkB, h1, h2, Bool.and_eq_true, decide_eq_true_eq] at h
    exact ⟨h.1.1.2, h.1.2, h.2, Or.inr ⟨Nat.succ_ne_zero n, h.1.1.1⟩⟩
theorem get_row (fo : FO p s m meth c mi) (sv : SV D cy s) (hI : IV D cy L0 x0 s mi ad P I L ls st lsA H locs) {n k0 ci fi ty nest pl : Nat} {rest : List Value} (hdec : decode (mG mi).2.1 pc = .ok (.getfield n, 3)) (hk : (P.1 k0).1 = ci + 1) (hlk : ckLk mi n [1, ci, fi, ty, nest, pl] = true) {v : Value} (hty : ty = tyc (fY ci fi) → fval ad P I L (fY ci fi) k0 fi = v)
    (k : W p l e R s m args below meth c H locs cells slots Q (F0 m (pc + 3) lsA (v :: rest))) : W p l e R s m args below meth c H locs cells slots Q (F0 m pc lsA (.ref (ad k0) :: rest)) := by
  obtain ⟨hx, hb, hml, hrt, hown, hlocks, htab, hnm⟩ := fo
  have hts : ∀ w ∈ GT, w.before args s = true := fun w hw => sv.1 w hw args
  obtain ⟨hP, hD, hwf, hS, hlh, hlv, hsv, hx1, hx2, hx3⟩ := id hI
  obtain ⟨hlk, hk1, hk2⟩ := ckLk_inv hlk (by simp)
  obtain ⟨hci, hfi, hty0, hlink⟩ := lkB_field hlk hk1 hk2
  have hka := kind_at hwf (k := k0) (by omega) (by omega)
  have he := wl_get (cy := cy) (ad := ad) (I := I) (L := L) hka.1 hka.2
  rw [kind_obj hk hci] at he
  rcases hlink with hlink | ⟨-, hlink⟩
  · exact va_get (D := D) (C := cn ci) (T := fT ci) (N := fN ci) hx hb hts (in_at hci) hown sv.2.1 hP (k0 - 1) he (cl_at hci) fi hfi (hts _ (mem_GT1 hlink rfl)) (fun _ h9 => h9) (by rw [fl_at hfi, hty hty0]) hdec k
  · exact va_getN (D := D) (C := cn ci) (T := fT ci) (N := fN ci) hx hb hts (in_at hci) hown sv.2.1 hP (k0 - 1) he (cl_at hci) fi hfi (hts _ (mem_GT1 hlink rfl)) (fun _ h9 => h9) (by rw [fl_at hfi, hty hty0]) hdec k
theorem put_row (fo : FO p s m meth c mi) (sv : SV D cy s) (hI : IV D cy L0 x0 s mi ad P I L ls st lsA H locs) {n k0 ci fi ty nest pl : Nat} {rest : List Value} (hdec : decode (mG mi).2.1 pc = .ok (.putfield n, 3)) (hk : (P.1 k0).1 = ci + 1) (hlk : ckLk mi n [1, ci, fi, ty, nest, pl] = true)
    (hfin : ((fT ci fi).2.2.2 == false || ((mG mi).1.name == "<init>" && (fT ci fi).1 == cn (mO mi) && nest == 0)) = true) {v : Value} {P1 : MP} {I1 : MI} {L1 : ML}
    (hn : ty = tyc (fY ci fi) → narrow (fY ci fi) v = v ∧ fits (fY ci fi) v = true ∧ fval ad P1 I1 L1 (fY ci fi) k0 fi = v) (ho : ∀ g, g ≠ fi → fval ad P1 I1 L1 (fY ci g) k0 g = fval ad P I L (fY ci g) k0 g) (hoj : ∀ j, j ≠ k0 → elt cy ad P1 I1 L1 j = elt cy ad P I L j) (hm : P1.2.2 = P.2.2) (hk1 : P1.1 = P.1)
    (k : ∀ (H1 : Heap) (locs1 : List Loc), va_P D vwCl (wl cy ad P1 I1 L1) H1 → va_D (fun q => L0 ≤ q) (wl cy ad P1 I1 L1) → va_S (fun q => L0 ≤ q) s.heap H1 locs1 → W p l e R s m args below meth c H1 locs1 cells slots Q (F0 m (pc + 3) lsA rest)) : W p l e R s m args below meth c H locs cells slots Q (F0 m pc lsA (v :: .ref (ad k0) :: rest)) := by
  obtain ⟨hx, hb, hml, hrt, hown, hlocks, htab, hnm⟩ := fo
  have hts : ∀ w ∈ GT, w.before args s = true := fun w hw => sv.1 w hw args
  obtain ⟨hP, hD, hwf, hS, hlh, hlv, hsv, hx1, hx2, hx3⟩ := id hI
  obtain ⟨hlk, hka1, hka2⟩ := ckLk_inv hlk (by simp)
  obtain ⟨hci, hfi, hty0, hlink⟩ := lkB_field hlk hka1 hka2
  obtain ⟨hn1, hn2, hn3⟩ := hn hty0
  have hka := kind_at hwf (k := k0) (by omega) (by omega)
  have he := wl_get (cy := cy) (ad := ad) (I := I) (L := L) hka.1 hka.2
  rw [kind_obj hk hci] at he
  have hset : (flds ad P I L ci k0).set fi v = flds ad P1 I1 L1 ci k0 := fl_set hn3 ho
  have hwl : (wl cy ad P I L).set (k0 - 1) (ad k0, .inr (ci, (flds ad P I L ci k0).set fi v)) = wl cy ad P1 I1 L1 := by
    rw [hset]
    exact wl_set hka.1 hka.2 hm (kind_obj (by rw [hk1]; exact hk) hci) hoj
  have kk : ∀ (H1 : Heap) (locs1 : List Loc), va_P D vwCl ((wl cy ad P I L).set (k0 - 1) (ad k0, .inr (ci, (flds ad P I L ci k0).set fi v))) H1 → va_D (fun q => L0 ≤ q) ((wl cy ad P I L).set (k0 - 1) (ad k0, .inr (ci, (flds ad P I L ci k0).set fi v))) → va_S (fun q => L0 ≤ q) s.heap H1 locs1 → W p l e R s m args below meth c H1 locs1 cells slots Q (F0 m (pc + 3) lsA rest) := by
    intro H1 locs1 hP1 hD1 hS1
    rw [hwl] at hP1 hD1
    exact k H1 locs1 hP1 hD1 hS1
  have hlen : fi < (flds ad P I L ci k0).length := by rw [fl_len]; exact hfi
  have hdsc := ty_at hci fi hfi
  simp only [Bool.or_eq_true, Bool.and_eq_true, beq_iff_eq] at hfin
  rcases hlink with hlink | ⟨hnest, hlink⟩
  · by_cases hff : (fT ci fi).2.2.2 = false
    · exact va_put (D := D) (C := cn ci) (T := fT ci) (N := fN ci) hx hb hts (in_at hci) (fY ci) (ty_at hci) (nm_at hci) hown sv.2.1 hP hD hS (k0 - 1) he (cl_at hci) fi hfi (hts _ (mem_GT1 hlink rfl)) (fun _ h9 => h9) hff hdsc hn1 hn2 hlen hdec kk
    · rcases hfin with hfin | hfin
      · exact absurd hfin hff
      · exact va_putF (D := D) (C := cn ci) (T := fT ci) (N := fN ci) hx hb hts (in_at hci) (fY ci) (ty_at hci) (nm_at hci) hown sv.2.1 hP hD hS (k0 - 1) he (cl_at hci) fi hfi (hts _ (mem_GT1 hlink rfl)) (fun _ h9 => h9) (by simpa using hff) (hnm.trans hfin.1.1) hfin.1.2 hdsc hn1 hn2 hlen hdec kk
  · rcases hfin with hfin | hfin
    · exact va_putN (D := D) (C := cn ci) (T := fT ci) (N := fN ci) hx hb hts (in_at hci) (fY ci) (ty_at hci) (nm_at hci) hown sv.2.1 hP hD hS (k0 - 1) he (cl_at hci) fi hfi (hts _ (mem_GT1 hlink rfl)) (fun _ h9 => h9) hfin hdsc hn1 hn2 hlen hdec kk
    · exact absurd hfin.2 hnest

set_option maxHeartbeats 4000000 in
theorem sx_getfield {n : Nat} (fo : FO p s m meth c mi) (sv : SV D cy s) (sh : SH L0 x0 s s.heap) (hd : dec mi pc = some (.getfield n, len, rz)) (hI : IV D cy L0 x0 s mi ad P I L ls st lsA H locs) {w : FR × MM} (hs : stp pc (.getfield n) len rz ls st P I L C = some (.inl w)) (hcR : cells + w.2.2.2.2.1 ≤ R.cells + C.1) (hsR : slots + w.2.2.2.2.2 ≤ R.slots + C.2) (hfR : 8 ≤ R.frames) (hlR : 128 ≤ R.locals)
    (k : KN p l e R s m args below meth c cells slots Q D cy L0 x0 mi ad P C w) : W p l e R s m args below meth c H locs cells slots Q (F0 m pc lsA (cv ad st)) := by
  obtain ⟨hdec, hck⟩ := dec_ok hd
  obtain ⟨hx, hb, hml, hrt, hown, hlocks, htab, hnm⟩ := fo
  have hts : ∀ w ∈ GT, w.before args s = true := fun w hw => sv.1 w hw args
  obtain ⟨hP, hD, hwf, hS, hlh, hlv, hsv, hx1, hx2, hx3⟩ := id hI
  simp only [stp] at hs
  simp only [ckR, Bool.and_eq_true, beq_iff_eq, decide_eq_true_eq] at hck
  obtain ⟨rfl, hv0⟩ := hck
  have fo : FO p s m meth c mi := ⟨hx, hb, hml, hrt, hown, hlocks, htab, hnm⟩
  split at hs
  · rename_i ci fi nest pl k0 st1
    split at hs
    · rename_i hk
      cases hs
      have hv := (List.forall_mem_cons.mp hsv).2
      exact get_row (rest := cv ad st1) fo sv hI hdec hk hv0 (fun h => by rw [tyc_0 h]; rfl) (KN.pure k hI (List.forall_mem_cons.mpr ⟨vk_i P _, hv⟩))
    · cases hs
  · rename_i ci fi nest pl k0 st1
    split at hs
    · rename_i hk
      cases hs
      have hv := (List.forall_mem_cons.mp hsv).2
      exact get_row (rest := cv ad st1) fo sv hI hdec hk hv0 (fun h => by rw [tyc_1 h]; rfl) (KN.pure k hI (List.forall_mem_cons.mpr ⟨vk_l P _, hv⟩))
    · cases hs
  · rename_i ci fi nest pl k0 st1
    split at hs
    · rename_i hk
      cases hs
      have hv := (List.forall_mem_cons.mp hsv).2
      exact get_row (rest := cv ad st1) fo sv hI hdec hk hv0 (v := conc ad (va_rf (P.2.1 k0 fi))) (fun h => (fval_2 h ad P I L k0 fi).trans conc_rf.symm) (KN.pure k hI (List.forall_mem_cons.mpr ⟨vk_rf hwf _ _, hv⟩))
    · cases hs
  · cases hs

set_option maxHeartbeats 4000000 in
theorem sx_putfield {n : Nat} (fo : FO p s m meth c mi) (sv : SV D cy s) (sh : SH L0 x0 s s.heap) (hd : dec mi pc = some (.putfield n, len, rz)) (hI : IV D cy L0 x0 s mi ad P I L ls st lsA H locs) {w : FR × MM} (hs : stp pc (.putfield n) len rz ls st P I L C = some (.inl w)) (hcR : cells + w.2.2.2.2.1 ≤ R.cells + C.1) (hsR : slots + w.2.2.2.2.2 ≤ R.slots + C.2) (hfR : 8 ≤ R.frames) (hlR : 128 ≤ R.locals)
    (k : KN p l e R s m args below meth c cells slots Q D cy L0 x0 mi ad P C w) : W p l e R s m args below meth c H locs cells slots Q (F0 m pc lsA (cv ad st)) := by
  obtain ⟨hdec, hck⟩ := dec_ok hd
  obtain ⟨hx, hb, hml, hrt, hown, hlocks, htab, hnm⟩ := fo
  have hts : ∀ w ∈ GT, w.before args s = true := fun w hw => sv.1 w hw args
  obtain ⟨hP, hD, hwf, hS, hlh, hlv, hsv, hx1, hx2, hx3⟩ := id hI
  simp only [stp] at hs
  simp only [ckR, Bool.and_eq_true, beq_iff_eq, decide_eq_true_eq] at hck
  obtain ⟨⟨rfl, hv0⟩, hfin⟩ := hck
  have fo : FO p s m meth c mi := ⟨hx, hb, hml, hrt, hown, hlocks, htab, hnm⟩
  have h00 : ∀ k0 ci, (P.1 k0).1 = ci + 1 → ci < 11 → (0 : Nat) ≠ k0 := by
    intro k0 ci h1 h2 h3
    subst h3
    rw [hx1] at h1
    have : 30 = ci + 1 := h1
    omega
  split at hs
  · rename_i ci fi nest pl v0 k0 st1
    split at hs
    · rename_i hk
      cases hs
      have hv := (List.forall_mem_cons.mp (List.forall_mem_cons.mp hsv).2).2
      have hci := (lkB_field (ckLk_inv hv0 (by simp)).1 rfl rfl).1
      refine put_row (rest := cv ad st1) (v := .int v0) (P1 := P) (I1 := xu I k0 fi v0) (L1 := L) fo sv hI hdec hk hv0 hfin (fun h => ?_) (fun g hg => fval_ext (xu_n _ _ (Or.inr hg)) rfl rfl) (fun j hj => elt_ext rfl (xu_row _ _ hj) rfl (fun _ => rfl)) rfl rfl (fun H1 locs1 h1 h2 h3 => KN.wr k hI hv rfl hwf rfl (xu_row _ _ (h00 k0 ci hk hci)) h1 h2 h3)
      rw [tyc_0 h]
      exact ⟨rfl, rfl, congrArg Value.int (xu_s _ _ _ _)⟩
    · cases hs
  · rename_i ci fi nest pl v0 k0 st1
    split at hs
    · rename_i hk
      cases hs
      have hv := (List.forall_mem_cons.mp (List.forall_mem_cons.mp hsv).2).2
      refine put_row (rest := cv ad st1) (v := .long v0) (P1 := P) (I1 := I) (L1 := xu L k0 fi v0) fo sv hI hdec hk hv0 hfin (fun h => ?_) (fun g hg => fval_ext rfl (xu_n _ _ (Or.inr hg)) rfl) (fun j hj => elt_ext rfl rfl (xu_row _ _ hj) (fun _ => rfl)) rfl rfl (fun H1 locs1 h1 h2 h3 => KN.wr k hI hv rfl hwf rfl rfl h1 h2 h3)
      rw [tyc_1 h]
      exact ⟨rfl, rfl, congrArg Value.long (xu_s _ _ _ _)⟩
    · cases hs
  · rename_i ci fi nest pl v0 k0 st1
    split at hs
    · rename_i hk
      cases hs
      have hvv := List.forall_mem_cons.mp hsv
      have hv := (List.forall_mem_cons.mp hvv.2).2
      have hlb := lkB_field (ckLk_inv hv0 (by simp)).1 rfl rfl
      have hv1 : v0 ≤ P.2.2 := hvv.1 v0 rfl
      refine put_row (rest := cv ad st1) (v := .ref (ad v0)) (P1 := (P.1, xu P.2.1 k0 fi (some v0), P.2.2)) (I1 := I) (L1 := L) fo sv hI hdec hk.1 hv0 hfin (fun h => ?_) (fun g hg => fval_ext rfl rfl (congrArg (Option.map ad) (xu_n P.2.1 _ (Or.inr hg)))) (fun j hj => elt_ext rfl rfl rfl (fun f => congrArg (Option.map ad) (xu_n P.2.1 _ (Or.inl hj)))) rfl rfl (fun H1 locs1 h1 h2 h3 => KN.wr k hI hv rfl (wf_put hwf ⟨hk.2, hv1⟩) rfl rfl h1 h2 h3)
      have hf : fval ad (P.1, xu P.2.1 k0 fi (some v0), P.2.2) I L (fY ci fi) k0 fi = .ref (ad v0) := (fval_2 h _ _ _ _ _ _).trans (congrArg (va_re ad) (xu_s P.2.1 _ _ _))
      rcases tyo hlb.1 fi hlb.2.1 h with ⟨n1, h1⟩ | ⟨t1, h1⟩
      · rw [h1] at hf ⊢; exact ⟨rfl, rfl, hf⟩
      · rw [h1] at hf ⊢; exact ⟨rfl, rfl, hf⟩
    · cases hs
  · cases hs

theorem ty4_0 (cy : CY) : ([(cy.1, FieldType.int), (cy.2.1, .long), (cy.2.2.1, .byte), (cy.2.2.2, .object RX6)] : List (ClassId × FieldType))[0]? = some (cy.1, .int) := rfl
theorem ty4_1 (cy : CY) : ([(cy.1, FieldType.int), (cy.2.1, .long), (cy.2.2.1, .byte), (cy.2.2.2, .object RX6)] : List (ClassId × FieldType))[1]? = some (cy.2.1, .long) := rfl
theorem ty4_2 (cy : CY) : ([(cy.1, FieldType.int), (cy.2.1, .long), (cy.2.2.1, .byte), (cy.2.2.2, .object RX6)] : List (ClassId × FieldType))[2]? = some (cy.2.2.1, .byte) := rfl
theorem ty4_3 (cy : CY) : ([(cy.1, FieldType.int), (cy.2.1, .long), (cy.2.2.1, .byte), (cy.2.2.2, .object RX6)] : List (ClassId × FieldType))[3]? = some (cy.2.2.2, .object RX6) := rfl
theorem kind_i {cy : CY} {ad : Nat → Nat} {P : MP} {I : MI} {L : ML} {k : Nat} (h : (P.1 k).1 = 20) : elt cy ad P I L k = .inl (cy.1, (P.1 k).2, .inl (I k)) := by unfold elt; rw [if_pos h]
theorem kind_l {cy : CY} {ad : Nat → Nat} {P : MP} {I : MI} {L : ML} {k : Nat} (h : (P.1 k).1 = 21) : elt cy ad P I L k = .inl (cy.2.1, (P.1 k).2, .inr (.inl (L k))) := by unfold elt; rw [if_neg (by omega), if_pos h]
theorem kind_b {cy : CY} {ad : Nat → Nat} {P : MP} {I : MI} {L : ML} {k : Nat} (h : (P.1 k).1 = 22) : elt cy ad P I L k = .inl (cy.2.2.1, (P.1 k).2, .inl (I k)) := by unfold elt; rw [if_neg (by omega), if_neg (by omega), if_pos h]
theorem kind_s {cy : CY} {ad : Nat → Nat} {P : MP} {I : MI} {L : ML} {k : Nat} (h : (P.1 k).1 = 23) : elt cy ad P I L k = .inl (cy.2.2.2, (P.1 k).2, .inr (.inr (.inr (.inr (fun i => (P.2.1 k i).map ad))))) := by unfold elt; rw [if_neg (by omega), if_neg (by omega), if_neg (by omega), if_pos h]
theorem upd_xu {α : Type} (f : Nat → Nat → α) (k j : Nat) (v : α) : (fun b => if b = j then v else f k b) = xu f k j v k := by
  funext b
  unfold xu
  by_cases h : b = j
  · rw [if_pos h, if_pos ⟨rfl, h⟩]
  · rw [if_neg h, if_neg (fun q => h q.2)]
theorem kind_0 {P : MP} {x0 : XX} (h : P.1 0 = (30, x0.2.1)) {k t : Nat} (hk : (P.1 k).1 = t) (ht : t ≠ 30) : (0 : Nat) ≠ k := by
  intro e; subst e; rw [h] at hk; exact ht hk.symm

set_option maxHeartbeats 4000000 in
theorem sx_arraylength  (fo : FO p s m meth c mi) (sv : SV D cy s) (sh : SH L0 x0 s s.heap) (hd : dec mi pc = some (.arraylength, len, rz)) (hI : IV D cy L0 x0 s mi ad P I L ls st lsA H locs) {w : FR × MM} (hs : stp pc (.arraylength) len rz ls st P I L C = some (.inl w)) (hcR : cells + w.2.2.2.2.1 ≤ R.cells + C.1) (hsR : slots + w.2.2.2.2.2 ≤ R.slots + C.2) (hfR : 8 ≤ R.frames) (hlR : 128 ≤ R.locals)
    (k : KN p l e R s m args below meth c cells slots Q D cy L0 x0 mi ad P C w) : W p l e R s m args below meth c H locs cells slots Q (F0 m pc lsA (cv ad st)) := by
  obtain ⟨hdec, hck⟩ := dec_ok hd
  obtain ⟨hx, hb, hml, hrt, hown, hlocks, htab, hnm⟩ := fo
  have hts : ∀ w ∈ GT, w.before args s = true := fun w hw => sv.1 w hw args
  obtain ⟨hP, hD, hwf, hS, hlh, hlv, hsv, hx1, hx2, hx3⟩ := id hI
  simp only [stp] at hs
  simp only [ckR, Bool.and_eq_true, beq_iff_eq, decide_eq_true_eq] at hck
  subst hck
  split at hs
  · rename_i k0 st1
    split at hs
    · rename_i hk
      cases hs
      have hv := (List.forall_mem_cons.mp hsv).2
      have kk := KN.pure k hI (List.forall_mem_cons.mpr ⟨vk_i P _, hv⟩)
      rcases hwf.1 k0 (by omega) with ⟨h0, h30⟩ | ⟨h1, h2, h3⟩
      · subst h0
        have hb0 : ¬ (fun q => L0 ≤ q) x0.1 := Nat.not_le.mpr sh.2.2.2.1
        have key : W p l e R s m args below meth c H locs cells slots Q (F0 m pc lsA (.ref x0.1 :: cv ad st1)) := va_slen hx hb sh.2.2.1 (Nat.lt_of_lt_of_le sh.2.2.2.1 sh.2.2.2.2) hb0 hS hdec (by rw [hx1] at kk; exact kk)
        rw [← hx2] at key
        exact key
      · have he := wl_get (cy := cy) (ad := ad) (I := I) (L := L) h1 h2
        rcases (show (P.1 k0).1 = 20 ∨ (P.1 k0).1 = 21 ∨ (P.1 k0).1 = 22 ∨ (P.1 k0).1 = 23 by omega) with h | h | h | h
        · rw [kind_i h] at he
          exact va_alen (rest := cv ad st1) hx hb sv.2.1 hP (k0 - 1) 0 he (ty4_0 cy) rfl hdec kk
        · rw [kind_l h] at he
          exact va_alen (rest := cv ad st1) hx hb sv.2.1 hP (k0 - 1) 1 he (ty4_1 cy) rfl hdec kk
        · rw [kind_b h] at he
          exact va_alen (rest := cv ad st1) hx hb sv.2.1 hP (k0 - 1) 2 he (ty4_2 cy) rfl hdec kk
        · rw [kind_s h] at he
          exact va_alen (rest := cv ad st1) hx hb sv.2.1 hP (k0 - 1) 3 he (ty4_3 cy) rfl hdec kk
    · cases hs
  · cases hs

set_option maxHeartbeats 4000000 in
theorem sx_iaload  (fo : FO p s m meth c mi) (sv : SV D cy s) (sh : SH L0 x0 s s.heap) (hd : dec mi pc = some (.iaload, len, rz)) (hI : IV D cy L0 x0 s mi ad P I L ls st lsA H locs) {w : FR × MM} (hs : stp pc (.iaload) len rz ls st P I L C = some (.inl w)) (hcR : cells + w.2.2.2.2.1 ≤ R.cells + C.1) (hsR : slots + w.2.2.2.2.2 ≤ R.slots + C.2) (hfR : 8 ≤ R.frames) (hlR : 128 ≤ R.locals)
    (k : KN p l e R s m args below meth c cells slots Q D cy L0 x0 mi ad P C w) : W p l e R s m args below meth c H locs cells slots Q (F0 m pc lsA (cv ad st)) := by
  obtain ⟨hdec, hck⟩ := dec_ok hd
  obtain ⟨hx, hb, hml, hrt, hown, hlocks, htab, hnm⟩ := fo
  have hts : ∀ w ∈ GT, w.before args s = true := fun w hw => sv.1 w hw args
  obtain ⟨hP, hD, hwf, hS, hlh, hlv, hsv, hx1, hx2, hx3⟩ := id hI
  simp only [stp] at hs
  simp only [ckR, Bool.and_eq_true, beq_iff_eq, decide_eq_true_eq] at hck
  subst hck
  split at hs
  · rename_i i0 k0 st1
    split at hs
    · rename_i hk
      cases hs
      have hv := (List.forall_mem_cons.mp (List.forall_mem_cons.mp hsv).2).2
      have kk := KN.pure k hI (List.forall_mem_cons.mpr ⟨vk_i P _, hv⟩)
      obtain ⟨hk, hin⟩ := hk
      rcases hk with hk | hk
      · have hka := kind_at hwf (k := k0) (by omega) (by omega)
        have he := wl_get (cy := cy) (ad := ad) (I := I) (L := L) hka.1 hka.2
        rw [kind_i hk] at he
        exact va_iald (rest := cv ad st1) hx hb sv.2.1 hP (k0 - 1) 0 he (ty4_0 cy) (inb_in hin) hdec kk
      · have h0 : k0 = 0 := by
          rcases hwf.1 k0 (by omega) with ⟨h0, -⟩ | ⟨-, -, h3⟩
          · exact h0
          · omega
        subst h0
        have hb0 : ¬ (fun q => L0 ≤ q) x0.1 := Nat.not_le.mpr sh.2.2.2.1
        have hin' : vp_in i0 x0.2.1 := by have := inb_in hin; rw [hx1] at this; exact this
        have key : W p l e R s m args below meth c H locs cells slots Q (F0 m pc lsA (.int i0 :: .ref x0.1 :: cv ad st1)) := va_sld hx hb sh.2.2.1 (Nat.lt_of_lt_of_le sh.2.2.2.1 sh.2.2.2.2) hb0 hS hin' hdec (by rw [hx3] at kk; exact kk)
        rw [← hx2] at key
        exact key
    · cases hs
  · cases hs

set_option maxHeartbeats 4000000 in
theorem sx_baload  (fo : FO p s m meth c mi) (sv : SV D cy s) (sh : SH L0 x0 s s.heap) (hd : dec mi pc = some (.baload, len, rz)) (hI : IV D cy L0 x0 s mi ad P I L ls st lsA H locs) {w : FR × MM} (hs : stp pc (.baload) len rz ls st P I L C = some (.inl w)) (hcR : cells + w.2.2.2.2.1 ≤ R.cells + C.1) (hsR : slots + w.2.2.2.2.2 ≤ R.slots + C.2) (hfR : 8 ≤ R.frames) (hlR : 128 ≤ R.locals)
    (k : KN p l e R s m args below meth c cells slots Q D cy L0 x0 mi ad P C w) : W p l e R s m args below meth c H locs cells slots Q (F0 m pc lsA (cv ad st)) := by
  obtain ⟨hdec, hck⟩ := dec_ok hd
  obtain ⟨hx, hb, hml, hrt, hown, hlocks, htab, hnm⟩ := fo
  have hts : ∀ w ∈ GT, w.before args s = true := fun w hw => sv.1 w hw args
  obtain ⟨hP, hD, hwf, hS, hlh, hlv, hsv, hx1, hx2, hx3⟩ := id hI
  simp only [stp] at hs
  simp only [ckR, Bool.and_eq_true, beq_iff_eq, decide_eq_true_eq] at hck
  subst hck
  split at hs
  · rename_i i0 k0 st1
    split at hs
    · rename_i hk
      cases hs
      have hv := (List.forall_mem_cons.mp (List.forall_mem_cons.mp hsv).2).2
      have kk := KN.pure k hI (List.forall_mem_cons.mpr ⟨vk_i P _, hv⟩)
      obtain ⟨hk, hin⟩ := hk
      have hka := kind_at hwf (k := k0) (by omega) (by omega)
      have he := wl_get (cy := cy) (ad := ad) (I := I) (L := L) hka.1 hka.2
      rw [kind_b hk] at he
      exact va_bald (rest := cv ad st1) hx hb sv.2.1 hP (k0 - 1) 2 he (ty4_2 cy) (inb_in hin) hdec kk
    · cases hs
  · cases hs

set_option maxHeartbeats 4000000 in
theorem sx_laload  (fo : FO p s m meth c mi) (sv : SV D cy s) (sh : SH L0 x0 s s.heap) (hd : dec mi pc = some (.laload, len, rz)) (hI : IV D cy L0 x0 s mi ad P I L ls st lsA H locs) {w : FR × MM} (hs : stp pc (.laload) len rz ls st P I L C = some (.inl w)) (hcR : cells + w.2.2.2.2.1 ≤ R.cells + C.1) (hsR : slots + w.2.2.2.2.2 ≤ R.slots + C.2) (hfR : 8 ≤ R.frames) (hlR : 128 ≤ R.locals)
    (k : KN p l e R s m args below meth c cells slots Q D cy L0 x0 mi ad P C w) : W p l e R s m args below meth c H locs cells slots Q (F0 m pc lsA (cv ad st)) := by
  obtain ⟨hdec, hck⟩ := dec_ok hd
  obtain ⟨hx, hb, hml, hrt, hown, hlocks, htab, hnm⟩ := fo
  have hts : ∀ w ∈ GT, w.before args s = true := fun w hw => sv.1 w hw args
  obtain ⟨hP, hD, hwf, hS, hlh, hlv, hsv, hx1, hx2, hx3⟩ := id hI
  simp only [stp] at hs
  simp only [ckR, Bool.and_eq_true, beq_iff_eq, decide_eq_true_eq] at hck
  subst hck
  split at hs
  · rename_i i0 k0 st1
    split at hs
    · rename_i hk
      cases hs
      have hv := (List.forall_mem_cons.mp (List.forall_mem_cons.mp hsv).2).2
      have kk := KN.pure k hI (List.forall_mem_cons.mpr ⟨vk_l P _, hv⟩)
      obtain ⟨hk, hin⟩ := hk
      have hka := kind_at hwf (k := k0) (by omega) (by omega)
      have he := wl_get (cy := cy) (ad := ad) (I := I) (L := L) hka.1 hka.2
      rw [kind_l hk] at he
      exact va_lald (rest := cv ad st1) hx hb sv.2.1 hP (k0 - 1) 1 he (ty4_1 cy) (inb_in hin) hdec kk
    · cases hs
  · cases hs

set_option maxHeartbeats 4000000 in
theorem sx_aaload  (fo : FO p s m meth c mi) (sv : SV D cy s) (sh : SH L0 x0 s s.heap) (hd : dec mi pc = some (.aaload, len, rz)) (hI : IV D cy L0 x0 s mi ad P I L ls st lsA H locs) {w : FR × MM} (hs : stp pc (.aaload) len rz ls st P I L C = some (.inl w)) (hcR : cells + w.2.2.2.2.1 ≤ R.cells + C.1) (hsR : slots + w.2.2.2.2.2 ≤ R.slots + C.2) (hfR : 8 ≤ R.frames) (hlR : 128 ≤ R.locals)
    (k : KN p l e R s m args below meth c cells slots Q D cy L0 x0 mi ad P C w) : W p l e R s m args below meth c H locs cells slots Q (F0 m pc lsA (cv ad st)) := by
  obtain ⟨hdec, hck⟩ := dec_ok hd
  obtain ⟨hx, hb, hml, hrt, hown, hlocks, htab, hnm⟩ := fo
  have hts : ∀ w ∈ GT, w.before args s = true := fun w hw => sv.1 w hw args
  obtain ⟨hP, hD, hwf, hS, hlh, hlv, hsv, hx1, hx2, hx3⟩ := id hI
  simp only [stp] at hs
  simp only [ckR, Bool.and_eq_true, beq_iff_eq, decide_eq_true_eq] at hck
  subst hck
  split at hs
  · rename_i i0 k0 st1
    split at hs
    · rename_i hk
      cases hs
      have hv := (List.forall_mem_cons.mp (List.forall_mem_cons.mp hsv).2).2
      have kk := KN.pure k hI (List.forall_mem_cons.mpr ⟨vk_rf hwf _ _, hv⟩)
      obtain ⟨hk, hin⟩ := hk
      have hka := kind_at hwf (k := k0) (by omega) (by omega)
      have he := wl_get (cy := cy) (ad := ad) (I := I) (L := L) hka.1 hka.2
      rw [kind_s hk] at he
      refine va_aldq (rest := cv ad st1) hx hb sv.2.1 hP (k0 - 1) 3 he (ty4_3 cy) (inb_in hin) hdec ?_
      have e9 : cv ad (va_rf (P.2.1 k0 i0.toNatClampNeg) :: st1) = va_rf ((P.2.1 k0 i0.toNatClampNeg).map ad) :: cv ad st1 := congrArg (· :: cv ad st1) conc_rf
      rw [← e9]
      exact kk
    · cases hs
  · cases hs

set_option maxHeartbeats 4000000 in
theorem sx_iastore  (fo : FO p s m meth c mi) (sv : SV D cy s) (sh : SH L0 x0 s s.heap) (hd : dec mi pc = some (.iastore, len, rz)) (hI : IV D cy L0 x0 s mi ad P I L ls st lsA H locs) {w : FR × MM} (hs : stp pc (.iastore) len rz ls st P I L C = some (.inl w)) (hcR : cells + w.2.2.2.2.1 ≤ R.cells + C.1) (hsR : slots + w.2.2.2.2.2 ≤ R.slots + C.2) (hfR : 8 ≤ R.frames) (hlR : 128 ≤ R.locals)
    (k : KN p l e R s m args below meth c cells slots Q D cy L0 x0 mi ad P C w) : W p l e R s m args below meth c H locs cells slots Q (F0 m pc lsA (cv ad st)) := by
  obtain ⟨hdec, hck⟩ := dec_ok hd
  obtain ⟨hx, hb, hml, hrt, hown, hlocks, htab, hnm⟩ := fo
  have hts : ∀ w ∈ GT, w.before args s = true := fun w hw => sv.1 w hw args
  obtain ⟨hP, hD, hwf, hS, hlh, hlv, hsv, hx1, hx2, hx3⟩ := id hI
  simp only [stp] at hs
  simp only [ckR, Bool.and_eq_true, beq_iff_eq, decide_eq_true_eq] at hck
  subst hck
  split at hs
  · rename_i v0 i0 k0 st1
    split at hs
    · rename_i hk
      cases hs
      have hv := (List.forall_mem_cons.mp (List.forall_mem_cons.mp (List.forall_mem_cons.mp hsv).2).2).2
      obtain ⟨hk, hin⟩ := hk
      have hka := kind_at hwf (k := k0) (by omega) (by omega)
      have he := wl_get (cy := cy) (ad := ad) (I := I) (L := L) hka.1 hka.2
      rw [kind_i hk] at he
      refine va_iast (rest := cv ad st1) hx hb sv.2.1 hP hD hS (k0 - 1) 0 he (ty4_0 cy) (inb_in hin) hdec (fun H1 locs1 hP1 hD1 hS1 => ?_)
      rw [wl_set (P' := P) (I' := xu I k0 i0.toNatClampNeg v0) (L' := L) hka.1 hka.2 rfl (by rw [kind_i hk, ← upd_xu]; rfl) (fun j hj => elt_ext rfl (xu_row _ _ hj) rfl (fun _ => rfl))] at hP1 hD1
      exact KN.wr k hI hv rfl hwf rfl (xu_row _ _ (kind_0 hx1 hk (by decide))) hP1 hD1 hS1
    · cases hs
  · cases hs

set_option maxHeartbeats 4000000 in
theorem sx_bastore  (fo : FO p s m meth c mi) (sv : SV D cy s) (sh : SH L0 x0 s s.heap) (hd : dec mi pc = some (.bastore, len, rz)) (hI : IV D cy L0 x0 s mi ad P I L ls st lsA H locs) {w : FR × MM} (hs : stp pc (.bastore) len rz ls st P I L C = some (.inl w)) (hcR : cells + w.2.2.2.2.1 ≤ R.cells + C.1) (hsR : slots + w.2.2.2.2.2 ≤ R.slots + C.2) (hfR : 8 ≤ R.frames) (hlR : 128 ≤ R.locals)
    (k : KN p l e R s m args below meth c cells slots Q D cy L0 x0 mi ad P C w) : W p l e R s m args below meth c H locs cells slots Q (F0 m pc lsA (cv ad st)) := by
  obtain ⟨hdec, hck⟩ := dec_ok hd
  obtain ⟨hx, hb, hml, hrt, hown, hlocks, htab, hnm⟩ := fo
  have hts : ∀ w ∈ GT, w.before args s = true := fun w hw => sv.1 w hw args
  obtain ⟨hP, hD, hwf, hS, hlh, hlv, hsv, hx1, hx2, hx3⟩ := id hI
  simp only [stp] at hs
  simp only [ckR, Bool.and_eq_true, beq_iff_eq, decide_eq_true_eq] at hck
  subst hck
  split at hs
  · rename_i v0 i0 k0 st1
    split at hs
    · rename_i hk
      cases hs
      have hv := (List.forall_mem_cons.mp (List.forall_mem_cons.mp (List.forall_mem_cons.mp hsv).2).2).2
      obtain ⟨hk, hin⟩ := hk
      have hka := kind_at hwf (k := k0) (by omega) (by omega)
      have he := wl_get (cy := cy) (ad := ad) (I := I) (L := L) hka.1 hka.2
      rw [kind_b hk] at he
      refine va_bast (rest := cv ad st1) hx hb sv.2.1 hP hD hS (k0 - 1) 2 he (ty4_2 cy) (inb_in hin) hdec (fun H1 locs1 hP1 hD1 hS1 => ?_)
      rw [wl_set (P' := P) (I' := xu I k0 i0.toNatClampNeg v0.toInt8.toInt32) (L' := L) hka.1 hka.2 rfl (by rw [kind_b hk, ← upd_xu, ← vp_nar_byte]; rfl) (fun j hj => elt_ext rfl (xu_row _ _ hj) rfl (fun _ => rfl))] at hP1 hD1
      exact KN.wr k hI hv rfl hwf rfl (xu_row _ _ (kind_0 hx1 hk (by decide))) hP1 hD1 hS1
    · cases hs
  · cases hs

set_option maxHeartbeats 4000000 in
theorem sx_lastore  (fo : FO p s m meth c mi) (sv : SV D cy s) (sh : SH L0 x0 s s.heap) (hd : dec mi pc = some (.lastore, len, rz)) (hI : IV D cy L0 x0 s mi ad P I L ls st lsA H locs) {w : FR × MM} (hs : stp pc (.lastore) len rz ls st P I L C = some (.inl w)) (hcR : cells + w.2.2.2.2.1 ≤ R.cells + C.1) (hsR : slots + w.2.2.2.2.2 ≤ R.slots + C.2) (hfR : 8 ≤ R.frames) (hlR : 128 ≤ R.locals)
    (k : KN p l e R s m args below meth c cells slots Q D cy L0 x0 mi ad P C w) : W p l e R s m args below meth c H locs cells slots Q (F0 m pc lsA (cv ad st)) := by
  obtain ⟨hdec, hck⟩ := dec_ok hd
  obtain ⟨hx, hb, hml, hrt, hown, hlocks, htab, hnm⟩ := fo
  have hts : ∀ w ∈ GT, w.before args s = true := fun w hw => sv.1 w hw args
  obtain ⟨hP, hD, hwf, hS, hlh, hlv, hsv, hx1, hx2, hx3⟩ := id hI
  simp only [stp] at hs
  simp only [ckR, Bool.and_eq_true, beq_iff_eq, decide_eq_true_eq] at hck
  subst hck
  split at hs
  · rename_i v0 i0 k0 st1
    split at hs
    · rename_i hk
      cases hs
      have hv := (List.forall_mem_cons.mp (List.forall_mem_cons.mp (List.forall_mem_cons.mp hsv).2).2).2
      obtain ⟨hk, hin⟩ := hk
      have hka := kind_at hwf (k := k0) (by omega) (by omega)
      have he := wl_get (cy := cy) (ad := ad) (I := I) (L := L) hka.1 hka.2
      rw [kind_l hk] at he
      refine va_last (rest := cv ad st1) hx hb sv.2.1 hP hD hS (k0 - 1) 1 he (ty4_1 cy) (inb_in hin) hdec (fun H1 locs1 hP1 hD1 hS1 => ?_)
      rw [wl_set (P' := P) (I' := I) (L' := xu L k0 i0.toNatClampNeg v0) hka.1 hka.2 rfl (by rw [kind_l hk, ← upd_xu]; rfl) (fun j hj => elt_ext rfl rfl (xu_row _ _ hj) (fun _ => rfl))] at hP1 hD1
      exact KN.wr k hI hv rfl hwf rfl rfl hP1 hD1 hS1
    · cases hs
  · cases hs

set_option maxHeartbeats 4000000 in
theorem sx_aastore  (fo : FO p s m meth c mi) (sv : SV D cy s) (sh : SH L0 x0 s s.heap) (hd : dec mi pc = some (.aastore, len, rz)) (hI : IV D cy L0 x0 s mi ad P I L ls st lsA H locs) {w : FR × MM} (hs : stp pc (.aastore) len rz ls st P I L C = some (.inl w)) (hcR : cells + w.2.2.2.2.1 ≤ R.cells + C.1) (hsR : slots + w.2.2.2.2.2 ≤ R.slots + C.2) (hfR : 8 ≤ R.frames) (hlR : 128 ≤ R.locals)
    (k : KN p l e R s m args below meth c cells slots Q D cy L0 x0 mi ad P C w) : W p l e R s m args below meth c H locs cells slots Q (F0 m pc lsA (cv ad st)) := by
  obtain ⟨hdec, hck⟩ := dec_ok hd
  obtain ⟨hx, hb, hml, hrt, hown, hlocks, htab, hnm⟩ := fo
  have hts : ∀ w ∈ GT, w.before args s = true := fun w hw => sv.1 w hw args
  obtain ⟨hP, hD, hwf, hS, hlh, hlv, hsv, hx1, hx2, hx3⟩ := id hI
  simp only [stp] at hs
  simp only [ckR, Bool.and_eq_true, beq_iff_eq, decide_eq_true_eq] at hck
  subst hck
  split at hs
  · rename_i v0 i0 k0 st1
    split at hs
    · rename_i hk
      cases hs
      have hv := (List.forall_mem_cons.mp (List.forall_mem_cons.mp (List.forall_mem_cons.mp hsv).2).2).2
      obtain ⟨⟨hk, hkv⟩, hin⟩ := hk
      have hka := kind_at hwf (k := k0) (by omega) (by omega)
      have hkb := kind_at hwf (k := v0) (by omega) (by omega)
      have he := wl_get (cy := cy) (ad := ad) (I := I) (L := L) hka.1 hka.2
      have hev := wl_get (cy := cy) (ad := ad) (I := I) (L := L) hkb.1 hkb.2
      rw [kind_s hk] at he
      rw [kind_obj (ci := 6) hkv (by decide)] at hev
      refine va_astq (rest := cv ad st1) (r := (RX6, TX6, 3)) hx hb sv.2.1 hP hD hS (k0 - 1) 3 (v0 - 1) 6 he (ty4_3 cy) hev rfl (inb_in hin) hdec (fun H1 locs1 hP1 hD1 hS1 => ?_)
      rw [wl_set (P' := (P.1, xu P.2.1 k0 i0.toNatClampNeg (some v0), P.2.2)) (I' := I) (L' := L) hka.1 hka.2 rfl (by
        rw [kind_s (P := (P.1, xu P.2.1 k0 i0.toNatClampNeg (some v0), P.2.2)) hk]
        congr 7
        funext j
        show Option.map ad (xu P.2.1 k0 i0.toNatClampNeg (some v0) k0 j) = va_up (fun i => Option.map ad (P.2.1 k0 i)) i0.toNatClampNeg (some (ad v0)) j
        by_cases hj : j = i0.toNatClampNeg
        · rw [hj, xu_s, va_up_self]; rfl
        · rw [xu_n _ _ (Or.inr hj), va_up_ne _ _ hj]) (fun j hj => elt_ext rfl rfl rfl (fun f => congrArg (Option.map ad) (xu_n P.2.1 _ (Or.inl hj))))] at hP1 hD1
      exact KN.wr k hI hv rfl (wf_put hwf ⟨hkb.1, hkb.2⟩) rfl rfl hP1 hD1 hS1
    · cases hs
  · cases hs

/-- behind a new cell -/
theorem KN.new {pc1 t len0 nf q : Nat} {e0 : va_E} {H1 : Heap} (k : KN p l e R s m args below meth c cells slots Q D cy L0 x0 mi ad P C ((pc1, ls, .ref (P.2.2 + 1) :: st'), (mkP P t len0, xr I (P.2.2 + 1) (fun _ => 0), xr L (P.2.2 + 1) (fun _ => 0), (C.1 + 1, C.2 + nf)))) (h : IV D cy L0 x0 s mi ad P I L ls st lsA H locs) (hv : ∀ v ∈ st', vk P v)
    (ht : (1 ≤ t ∧ t ≤ 11) ∨ (20 ≤ t ∧ t ≤ 23)) (he : elt cy (xr ad (P.2.2 + 1) q) (mkP P t len0) (xr I (P.2.2 + 1) (fun _ => 0)) (xr L (P.2.2 + 1) (fun _ => 0)) (P.2.2 + 1) = e0)
    (hP : va_P D vwCl (wl cy ad P I L ++ [(q, e0)]) H1) (hD : va_D (fun q => L0 ≤ q) (wl cy ad P I L ++ [(q, e0)])) (hS : va_S (fun q => L0 ≤ q) s.heap H1 locs) :
    W p l e R s m args below meth c H1 locs (cells + 1) (slots + nf) Q (F0 m pc1 lsA (.ref q :: cv ad st')) := by
  obtain ⟨-, -, hwf, -, hlh, hlv, -, hx1, hx2, hx3⟩ := h
  rw [wl_push hwf he] at hP hD
  have hext : ∀ j, j ≤ P.2.2 → xr ad (P.2.2 + 1) q j = ad j := fun j hj => xr_n _ _ (by omega)
  have hle : P.2.2 ≤ (mkP P t len0).2.2 := Nat.le_succ _
  have := k (xr ad (P.2.2 + 1) q) lsA H1 locs hext hle ⟨hP, hD, wf_mk hwf ht, hS, lh_ad hlh hext hlv, fun v z => vk_mono hle (hlv v z), List.forall_mem_cons.mpr ⟨fun a z => by cases z; exact Nat.le_refl _, fun v z => vk_mono hle (hv v z)⟩, (xr_n P.1 (t, len0) (show 0 ≠ P.2.2 + 1 by omega)).trans hx1, (xr_n ad q (show 0 ≠ P.2.2 + 1 by omega)).trans hx2, (xr_n I (fun _ => 0) (show 0 ≠ P.2.2 + 1 by omega)).trans hx3⟩
  have e1 : C.1 + 1 - C.1 = 1 := by omega
  have e2 : C.2 + nf - C.2 = nf := by omega
  have e3 : cv (xr ad (P.2.2 + 1) q) (.ref (P.2.2 + 1) :: st') = .ref q :: cv ad st' := by
    show Value.ref (xr ad (P.2.2 + 1) q (P.2.2 + 1)) :: cv (xr ad (P.2.2 + 1) q) st' = _
    rw [xr_s, cv_eq hext hv]
  dsimp only at this
  rw [e1, e2, e3] at this
  exact this
theorem fl_new {ad : Nat → Nat} {P : MP} {I : MI} {L : ML} {ci t len0 : Nat} (hci : ci < 11) : flds ad (mkP P t len0) (xr I (P.2.2 + 1) (fun _ => 0)) (xr L (P.2.2 + 1) (fun _ => 0)) ci (P.2.2 + 1) = (List.range (fN ci)).map (fun f => defaultValue (fY ci f)) := by
  unfold flds
  apply List.map_congr_left
  intro f hf
  have hf := List.mem_range.mp hf
  have key : ∀ t' : FieldType, (match t' with | .int => true | .long => true | .object _ => true | .array _ => true | _ => false) = true → fval ad (mkP P t len0) (xr I (P.2.2 + 1) (fun _ => 0)) (xr L (P.2.2 + 1) (fun _ => 0)) t' (P.2.2 + 1) f = defaultValue t' := by
    intro t' h1
    have e1 : xr I (P.2.2 + 1) (fun _ => 0) (P.2.2 + 1) f = 0 := congrFun (xr_s _ _ _) f
    have e2 : xr L (P.2.2 + 1) (fun _ => 0) (P.2.2 + 1) f = 0 := congrFun (xr_s _ _ _) f
    have e3 : (mkP P t len0).2.1 (P.2.2 + 1) f = none := congrFun (xr_s P.2.1 _ _) f
    cases t' <;> first | cases h1 | skip
    · exact congrArg Value.int e1
    · exact congrArg Value.long e2
    · exact congrArg (va_re ad) e3
    · exact congrArg (va_re ad) e3
  refine key _ ?_
  have hall : ∀ ci < 11, ∀ f < fN ci, (match fY ci f with | .int => true | .long => true | .object _ => true | .array _ => true | _ => false) = true := by decide +kernel
  exact hall ci hci f hf

set_option maxHeartbeats 4000000 in
theorem sx_new {n : Nat} (fo : FO p s m meth c mi) (sv : SV D cy s) (sh : SH L0 x0 s s.heap) (hd : dec mi pc = some (.new n, len, rz)) (hI : IV D cy L0 x0 s mi ad P I L ls st lsA H locs) {w : FR × MM} (hs : stp pc (.new n) len rz ls st P I L C = some (.inl w)) (hcR : cells + w.2.2.2.2.1 ≤ R.cells + C.1) (hsR : slots + w.2.2.2.2.2 ≤ R.slots + C.2) (hfR : 8 ≤ R.frames) (hlR : 128 ≤ R.locals)
    (k : KN p l e R s m args below meth c cells slots Q D cy L0 x0 mi ad P C w) : W p l e R s m args below meth c H locs cells slots Q (F0 m pc lsA (cv ad st)) := by
  obtain ⟨hdec, hck⟩ := dec_ok hd
  obtain ⟨hx, hb, hml, hrt, hown, hlocks, htab, hnm⟩ := fo
  have hts : ∀ w ∈ GT, w.before args s = true := fun w hw => sv.1 w hw args
  obtain ⟨hP, hD, hwf, hS, hlh, hlv, hsv, hx1, hx2, hx3⟩ := id hI
  simp only [stp] at hs
  simp only [ckR, Bool.and_eq_true, beq_iff_eq, decide_eq_true_eq] at hck
  obtain ⟨⟨rfl, hv0⟩, -⟩ := hck
  split at hs
  · rename_i ci pl1 pl2 pl3
    cases hs
    obtain ⟨hlk, hk1, hk2⟩ := ckLk_inv hv0 (by simp)
    simp only [lkB, hk1, hk2, Bool.and_eq_true, decide_eq_true_eq] at hlk
    obtain ⟨⟨⟨h1, h2⟩, h3⟩, hci⟩ := hlk
    dsimp only at hcR hsR
    refine va_new (rest := cv ad st) (D := D) (ci := ci) (fs := (List.range (fN ci)).map (fun f => defaultValue (fY ci f))) (C := cn ci) (T := fT ci) (N := fN ci) hx hb hts (in_at hci) (fY ci) (ty_at hci) hown (hts _ (mem_GT1 h1 rfl)) (hts _ (mem_GT1 h2 rfl)) (hts _ (mem_GT1 h3 rfl)) sv.2.1 hP hD hS (fun q hq => Nat.le_trans sh.2.2.2.2 hq) (cl_at hci) (fun j hj => ?_) (by omega) (by omega) hdec (fun q H1 hP1 hD1 hS1 => ?_)
    · unfold vp_V
      rw [List.getD_eq_getElem?_getD, List.getElem?_map, List.getElem?_range hj]; rfl
    · refine KN.new k hI hsv (Or.inl ⟨by omega, by omega⟩) ?_ hP1 hD1 hS1
      rw [kind_obj (ci := ci) (by show (xr P.1 (P.2.2 + 1) (ci + 1, 0) (P.2.2 + 1)).1 = ci + 1; rw [xr_s]) hci, fl_new hci]
  · split at hs <;> cases hs
  · cases hs

set_option maxHeartbeats 4000000 in
theorem sx_newarray_int  (fo : FO p s m meth c mi) (sv : SV D cy s) (sh : SH L0 x0 s s.heap) (hd : dec mi pc = some (.newarray .int, len, rz)) (hI : IV D cy L0 x0 s mi ad P I L ls st lsA H locs) {w : FR × MM} (hs : stp pc (.newarray .int) len rz ls st P I L C = some (.inl w)) (hcR : cells + w.2.2.2.2.1 ≤ R.cells + C.1) (hsR : slots + w.2.2.2.2.2 ≤ R.slots + C.2) (hfR : 8 ≤ R.frames) (hlR : 128 ≤ R.locals)
    (k : KN p l e R s m args below meth c cells slots Q D cy L0 x0 mi ad P C w) : W p l e R s m args below meth c H locs cells slots Q (F0 m pc lsA (cv ad st)) := by
  obtain ⟨hdec, hck⟩ := dec_ok hd
  obtain ⟨hx, hb, hml, hrt, hown, hlocks, htab, hnm⟩ := fo
  have hts : ∀ w ∈ GT, w.before args s = true := fun w hw => sv.1 w hw args
  obtain ⟨hP, hD, hwf, hS, hlh, hlv, hsv, hx1, hx2, hx3⟩ := id hI
  simp only [stp] at hs
  simp only [ckR, Bool.and_eq_true, beq_iff_eq, decide_eq_true_eq] at hck
  subst hck
  split at hs
  · rename_i a0 st1
    split at hs
    · rename_i hin
      cases hs
      have hv := (List.forall_mem_cons.mp hsv).2
      obtain ⟨hb1, hb2⟩ := inb_2 hin
      dsimp only at hcR hsR
      refine va_newa (rest := cv ad st1) (atype := .int) (ty := .int) (N' := a0.toNatClampNeg) (a0 := (a0.toNatClampNeg, .inl (fun _ => 0))) hx hb (hts _ (mem_GT1 (i := 85) (by decide +kernel) (by decide +kernel))) rfl sv.2.1 hP hD hS (fun q hq => Nat.le_trans sh.2.2.2.2 hq) (fun _ => rfl) hb1 rfl (by show a0.toNatClampNeg * 4 ≤ 536870912; omega) (by omega) (by omega) hdec (fun q cA H1 hK1 hP1 hD1 hS1 => ?_)
      have hcA : cA = cy.1 := Option.some.inj (((hK1.2 4 (cA, .int) rfl).2 : s.vm.findClass _ = some cA).symm.trans ((sv.2.1.2 0 _ (ty4_0 cy)).2 : s.vm.findClass _ = some _))
      subst hcA
      refine KN.new k hI hv (Or.inr ⟨by decide, by decide⟩) ?_ hP1 hD1 hS1
      rw [kind_i (by show (xr P.1 (P.2.2 + 1) (20, a0.toNatClampNeg) (P.2.2 + 1)).1 = 20; rw [xr_s])]
      show (Sum.inl (_, (xr P.1 (P.2.2 + 1) (20, a0.toNatClampNeg) (P.2.2 + 1)).2, _) : va_E) = _
      rw [xr_s, xr_s]
    · cases hs
  · cases hs

set_option maxHeartbeats 4000000 in
theorem sx_newarray_long  (fo : FO p s m meth c mi) (sv : SV D cy s) (sh : SH L0 x0 s s.heap) (hd : dec mi pc = some (.newarray .long, len, rz)) (hI : IV D cy L0 x0 s mi ad P I L ls st lsA H locs) {w : FR × MM} (hs : stp pc (.newarray .long) len rz ls st P I L C = some (.inl w)) (hcR : cells + w.2.2.2.2.1 ≤ R.cells + C.1) (hsR : slots + w.2.2.2.2.2 ≤ R.slots + C.2) (hfR : 8 ≤ R.frames) (hlR : 128 ≤ R.locals)
    (k : KN p l e R s m args below meth c cells slots Q D cy L0 x0 mi ad P C w) : W p l e R s m args below meth c H locs cells slots Q (F0 m pc lsA (cv ad st)) := by
  obtain ⟨hdec, hck⟩ := dec_ok hd
  obtain ⟨hx, hb, hml, hrt, hown, hlocks, htab, hnm⟩ := fo
  have hts : ∀ w ∈ GT, w.before args s = true := fun w hw => sv.1 w hw args
  obtain ⟨hP, hD, hwf, hS, hlh, hlv, hsv, hx1, hx2, hx3⟩ := id hI
  simp only [stp] at hs
  simp only [ckR, Bool.and_eq_true, beq_iff_eq, decide_eq_true_eq] at hck
  subst hck
  split at hs
  · rename_i a0 st1
    split at hs
    · rename_i hin
      cases hs
      have hv := (List.forall_mem_cons.mp hsv).2
      obtain ⟨hb1, hb2⟩ := inb_2 hin
      dsimp only at hcR hsR
      refine va_newa (rest := cv ad st1) (atype := .long) (ty := .long) (N' := a0.toNatClampNeg) (a0 := (a0.toNatClampNeg, .inr (.inl (fun _ => 0)))) hx hb (hts _ (mem_GT1 (i := 270) (by decide +kernel) (by decide +kernel))) rfl sv.2.1 hP hD hS (fun q hq => Nat.le_trans sh.2.2.2.2 hq) (fun _ => rfl) hb1 rfl (by show a0.toNatClampNeg * 8 ≤ 536870912; omega) (by omega) (by omega) hdec (fun q cA H1 hK1 hP1 hD1 hS1 => ?_)
      have hcA : cA = cy.2.1 := Option.some.inj (((hK1.2 4 (cA, .long) rfl).2 : s.vm.findClass _ = some cA).symm.trans ((sv.2.1.2 1 _ (ty4_1 cy)).2 : s.vm.findClass _ = some _))
      subst hcA
      refine KN.new k hI hv (Or.inr ⟨by decide, by decide⟩) ?_ hP1 hD1 hS1
      rw [kind_l (by show (xr P.1 (P.2.2 + 1) (21, a0.toNatClampNeg) (P.2.2 + 1)).1 = 21; rw [xr_s])]
      show (Sum.inl (_, (xr P.1 (P.2.2 + 1) (21, a0.toNatClampNeg) (P.2.2 + 1)).2, _) : va_E) = _
      rw [xr_s, xr_s]
    · cases hs
  · cases hs

set_option maxHeartbeats 4000000 in
theorem sx_newarray_byte  (fo : FO p s m meth c mi) (sv : SV D cy s) (sh : SH L0 x0 s s.heap) (hd : dec mi pc = some (.newarray .byte, len, rz)) (hI : IV D cy L0 x0 s mi ad P I L ls st lsA H locs) {w : FR × MM} (hs : stp pc (.newarray .byte) len rz ls st P I L C = some (.inl w)) (hcR : cells + w.2.2.2.2.1 ≤ R.cells + C.1) (hsR : slots + w.2.2.2.2.2 ≤ R.slots + C.2) (hfR : 8 ≤ R.frames) (hlR : 128 ≤ R.locals)
    (k : KN p l e R s m args below meth c cells slots Q D cy L0 x0 mi ad P C w) : W p l e R s m args below meth c H locs cells slots Q (F0 m pc lsA (cv ad st)) := by
  obtain ⟨hdec, hck⟩ := dec_ok hd
  obtain ⟨hx, hb, hml, hrt, hown, hlocks, htab, hnm⟩ := fo
  have hts : ∀ w ∈ GT, w.before args s = true := fun w hw => sv.1 w hw args
  obtain ⟨hP, hD, hwf, hS, hlh, hlv, hsv, hx1, hx2, hx3⟩ := id hI
  simp only [stp] at hs
  simp only [ckR, Bool.and_eq_true, beq_iff_eq, decide_eq_true_eq] at hck
  subst hck
  split at hs
  · rename_i a0 st1
    split at hs
    · rename_i hin
      cases hs
      have hv := (List.forall_mem_cons.mp hsv).2
      obtain ⟨hb1, hb2⟩ := inb_2 hin
      dsimp only at hcR hsR
      refine va_newa (rest := cv ad st1) (atype := .byte) (ty := .byte) (N' := a0.toNatClampNeg) (a0 := (a0.toNatClampNeg, .inl (fun _ => 0))) hx hb (hts _ (mem_GT1 (i := 197) (by decide +kernel) (by decide +kernel))) rfl sv.2.1 hP hD hS (fun q hq => Nat.le_trans sh.2.2.2.2 hq) (fun _ => rfl) hb1 rfl (by show a0.toNatClampNeg * 1 ≤ 536870912; omega) (by omega) (by omega) hdec (fun q cA H1 hK1 hP1 hD1 hS1 => ?_)
      have hcA : cA = cy.2.2.1 := Option.some.inj (((hK1.2 4 (cA, .byte) rfl).2 : s.vm.findClass _ = some cA).symm.trans ((sv.2.1.2 2 _ (ty4_2 cy)).2 : s.vm.findClass _ = some _))
      subst hcA
      refine KN.new k hI hv (Or.inr ⟨by decide, by decide⟩) ?_ hP1 hD1 hS1
      rw [kind_b (by show (xr P.1 (P.2.2 + 1) (22, a0.toNatClampNeg) (P.2.2 + 1)).1 = 22; rw [xr_s])]
      show (Sum.inl (_, (xr P.1 (P.2.2 + 1) (22, a0.toNatClampNeg) (P.2.2 + 1)).2, _) : va_E) = _
      rw [xr_s, xr_s]
    · cases hs
  · cases hs

set_option maxHeartbeats 4000000 in
theorem sx_anewarray {n : Nat} (fo : FO p s m meth c mi) (sv : SV D cy s) (sh : SH L0 x0 s s.heap) (hd : dec mi pc = some (.anewarray n, len, rz)) (hI : IV D cy L0 x0 s mi ad P I L ls st lsA H locs) {w : FR × MM} (hs : stp pc (.anewarray n) len rz ls st P I L C = some (.inl w)) (hcR : cells + w.2.2.2.2.1 ≤ R.cells + C.1) (hsR : slots + w.2.2.2.2.2 ≤ R.slots + C.2) (hfR : 8 ≤ R.frames) (hlR : 128 ≤ R.locals)
    (k : KN p l e R s m args below meth c cells slots Q D cy L0 x0 mi ad P C w) : W p l e R s m args below meth c H locs cells slots Q (F0 m pc lsA (cv ad st)) := by
  obtain ⟨hdec, hck⟩ := dec_ok hd
  obtain ⟨hx, hb, hml, hrt, hown, hlocks, htab, hnm⟩ := fo
  have hts : ∀ w ∈ GT, w.before args s = true := fun w hw => sv.1 w hw args
  obtain ⟨hP, hD, hwf, hS, hlh, hlv, hsv, hx1, hx2, hx3⟩ := id hI
  simp only [stp] at hs
  simp only [ckR, Bool.and_eq_true, beq_iff_eq, decide_eq_true_eq] at hck
  obtain ⟨rfl, hv0⟩ := hck
  split at hs
  · rename_i pl1 pl2 a0 st1
    split at hs
    · rename_i hin
      cases hs
      have hv := (List.forall_mem_cons.mp hsv).2
      obtain ⟨hb1, hb2⟩ := inb_2 hin
      obtain ⟨hlk, hk1, hk2⟩ := ckLk_inv hv0 (by simp)
      simp only [lkB, hk1, hk2, Bool.and_eq_true, decide_eq_true_eq] at hlk
      dsimp only at hcR hsR
      refine va_newq (rest := cv ad st1) (C := RX6) (N' := a0.toNatClampNeg) hx hb hown (hts _ (mem_GT1 hlk.1 rfl)) sv.2.2.2.2 sv.2.1 hP hD hS (fun q hq => Nat.le_trans sh.2.2.2.2 hq) hb1 rfl (by omega) (by omega) (by omega) hdec (fun q cA H1 hK1 hP1 hD1 hS1 => ?_)
      have hcA : cA = cy.2.2.2 := by
        obtain ⟨_, _, _, _, _, g1⟩ := (hK1.2 4 (cA, .object RX6) rfl).2
        obtain ⟨_, _, _, _, _, g2⟩ := (sv.2.1.2 3 _ (ty4_3 cy)).2
        exact Option.some.inj (g1.symm.trans g2)
      subst hcA
      refine KN.new k hI hv (Or.inr ⟨by decide, by decide⟩) ?_ hP1 hD1 hS1
      rw [kind_s (by show (xr P.1 (P.2.2 + 1) (23, a0.toNatClampNeg) (P.2.2 + 1)).1 = 23; rw [xr_s])]
      show (Sum.inl (_, (xr P.1 (P.2.2 + 1) (23, a0.toNatClampNeg) (P.2.2 + 1)).2, Sum.inr (Sum.inr (Sum.inr (Sum.inr (fun i => Option.map _ (xr P.2.1 (P.2.2 + 1) (fun _ => none) (P.2.2 + 1) i)))))) : va_E) = _
      rw [xr_s, xr_s]
      rfl
    · cases hs
  · cases hs

set_option maxHeartbeats 4000000 in
theorem sx_invokestatic {n : Nat} (fo : FO p s m meth c mi) (sv : SV D cy s) (sh : SH L0 x0 s s.heap) (hd : dec mi pc = some (.invokestatic n, len, rz)) (hI : IV D cy L0 x0 s mi ad P I L ls st lsA H locs) {w : FR × MM} (hs : stp pc (.invokestatic n) len rz ls st P I L C = some (.inl w)) (hcR : cells + w.2.2.2.2.1 ≤ R.cells + C.1) (hsR : slots + w.2.2.2.2.2 ≤ R.slots + C.2) (hfR : 8 ≤ R.frames) (hlR : 128 ≤ R.locals)
    (k : KN p l e R s m args below meth c cells slots Q D cy L0 x0 mi ad P C w) : W p l e R s m args below meth c H locs cells slots Q (F0 m pc lsA (cv ad st)) := by
  obtain ⟨hdec, hck⟩ := dec_ok hd
  obtain ⟨hx, hb, hml, hrt, hown, hlocks, htab, hnm⟩ := fo
  have hts : ∀ w ∈ GT, w.before args s = true := fun w hw => sv.1 w hw args
  obtain ⟨hP, hD, hwf, hS, hlh, hlv, hsv, hx1, hx2, hx3⟩ := id hI
  simp only [stp] at hs
  simp only [ckR, Bool.and_eq_true, beq_iff_eq, decide_eq_true_eq] at hck
  obtain ⟨⟨rfl, hv0⟩, -⟩ := hck
  have hls : c.maxLocals = lsA.size := hml.trans hlh.1.symm
  split at hs
  · split at hs
    · split at hs <;> cases hs
    · cases hs
  · rename_i pl
    split at hs
    · rename_i n0 dp a1 sp a0 st1
      split at hs
      · rename_i hc
        cases hs
        obtain ⟨⟨⟨hka, hka0⟩, h1, h2, h3⟩, ⟨h4, h5⟩, h6⟩ := hc
        have hv := (List.forall_mem_cons.mp (List.forall_mem_cons.mp (List.forall_mem_cons.mp (List.forall_mem_cons.mp (List.forall_mem_cons.mp hsv).2).2).2).2).2
        obtain ⟨hlk, hk1, hk2⟩ := ckLk_inv hv0 (by simp)
        simp only [lkB, hk1, hk2, decide_eq_true_eq] at hlk
        have hkb := kind_at hwf (k := a1) (by omega) (by omega)
        have hkb0 := kind_at hwf (k := a0) (by omega) (by omega)
        have he := wl_get (cy := cy) (ad := ad) (I := I) (L := L) hkb.1 hkb.2
        have he0 := wl_get (cy := cy) (ad := ad) (I := I) (L := L) hkb0.1 hkb0.2
        rw [kind_i hka] at he
        rw [kind_i hka0] at he0
        have hnw : nativeFrameWords "java/lang/System" "arraycopy" 5 + 11 ≤ 100 := by decide +kernel
        refine va_copyi (rest := cv ad st1) hx hb hls hown (hts _ (mem_GT1 hlk rfl)) (hts _ (mem_GT1 (i := 334) (by decide +kernel) (by decide +kernel))) (hts _ (mem_GT1 (i := 333) (by decide +kernel) (by decide +kernel))) (hts _ (mem_GT1 (i := 18) (by decide +kernel) (by decide +kernel))) sv.2.1 hP hD hS (a0 - 1) (a1 - 1) 0 0 he0 he (ty4_0 cy) (ty4_0 cy) rfl h1 h2 h3 h4 h5 (fun _ _ => rfl) (by omega) (by rw [catS_cv]; omega) hdec (fun H1 locs1 hP1 hD1 hS1 => ?_)
        rw [wl_set (P' := P) (I' := xr I a1 (va_cpy (I a0) (I a1) sp.toNatClampNeg dp.toNatClampNeg n0.toNatClampNeg)) (L' := L) hkb.1 hkb.2 rfl (by rw [kind_i hka, xr_s]) (fun j hj => elt_ext rfl (xr_n _ _ hj) rfl (fun _ => rfl))] at hP1 hD1
        exact KN.wr k hI hv rfl hwf rfl (xr_n _ _ (kind_0 hx1 hka (by decide))) hP1 hD1 hS1
      · cases hs
    · cases hs
  · rename_i pl
    split at hs
    · rename_i y0 x00 st1
      split at hs
      · rename_i hc
        cases hs
        have hv := (List.forall_mem_cons.mp (List.forall_mem_cons.mp hsv).2).2
        obtain ⟨hlk, hk1, hk2⟩ := ckLk_inv hv0 (by simp)
        simp only [lkB, hk1, hk2, decide_eq_true_eq] at hlk
        dsimp only at hcR hsR
        exact va_mmin (rest := cv ad st1) hx hb hls hown (hts _ (mem_GT1 hlk rfl)) (hts _ (mem_GT1 (i := 330) (by decide +kernel) (by decide +kernel))) (hts _ (mem_GT1 (i := 17) (by decide +kernel) (by decide +kernel))) (hts _ (mem_GT1 (i := 331) (by decide +kernel) (by decide +kernel))) (by omega) (by rw [catS_cv]; omega) (by omega) (by omega) hdec (KN.pure k hI (List.forall_mem_cons.mpr ⟨vk_i P _, hv⟩))
      · cases hs
    · cases hs
  · rename_i pl
    split at hs
    · rename_i y0 x00 st1
      split at hs
      · rename_i hc
        cases hs
        have hv := (List.forall_mem_cons.mp (List.forall_mem_cons.mp hsv).2).2
        obtain ⟨hlk, hk1, hk2⟩ := ckLk_inv hv0 (by simp)
        simp only [lkB, hk1, hk2, decide_eq_true_eq] at hlk
        dsimp only at hcR hsR
        exact va_mmax (rest := cv ad st1) hx hb hls hown (hts _ (mem_GT1 hlk rfl)) (hts _ (mem_GT1 (i := 607) (by decide +kernel) (by decide +kernel))) (hts _ (mem_GT1 (i := 17) (by decide +kernel) (by decide +kernel))) (hts _ (mem_GT1 (i := 608) (by decide +kernel) (by decide +kernel))) (by omega) (by rw [catS_cv]; omega) (by omega) (by omega) hdec (KN.pure k hI (List.forall_mem_cons.mpr ⟨vk_i P _, hv⟩))
      · cases hs
    · cases hs
  · cases hs

set_option maxHeartbeats 4000000 in
theorem sx_invokespecial {n : Nat} (fo : FO p s m meth c mi) (sv : SV D cy s) (sh : SH L0 x0 s s.heap) (hd : dec mi pc = some (.invokespecial n, len, rz)) (hI : IV D cy L0 x0 s mi ad P I L ls st lsA H locs) {w : FR × MM} (hs : stp pc (.invokespecial n) len rz ls st P I L C = some (.inl w)) (hcR : cells + w.2.2.2.2.1 ≤ R.cells + C.1) (hsR : slots + w.2.2.2.2.2 ≤ R.slots + C.2) (hfR : 8 ≤ R.frames) (hlR : 128 ≤ R.locals)
    (k : KN p l e R s m args below meth c cells slots Q D cy L0 x0 mi ad P C w) : W p l e R s m args below meth c H locs cells slots Q (F0 m pc lsA (cv ad st)) := by
  obtain ⟨hdec, hck⟩ := dec_ok hd
  obtain ⟨hx, hb, hml, hrt, hown, hlocks, htab, hnm⟩ := fo
  have hts : ∀ w ∈ GT, w.before args s = true := fun w hw => sv.1 w hw args
  obtain ⟨hP, hD, hwf, hS, hlh, hlv, hsv, hx1, hx2, hx3⟩ := id hI
  simp only [stp] at hs
  simp only [ckR, Bool.and_eq_true, beq_iff_eq, decide_eq_true_eq] at hck
  obtain ⟨⟨rfl, hv0⟩, -⟩ := hck
  split at hs
  · split at hs
    · split at hs <;> cases hs
    · cases hs
  · rename_i pl
    split at hs
    · rename_i a0 st1
      split at hs
      · rename_i hc
        cases hs
        have hv := (List.forall_mem_cons.mp hsv).2
        obtain ⟨hlk, hk1, hk2⟩ := ckLk_inv hv0 (by simp)
        simp only [lkB, hk1, hk2, decide_eq_true_eq] at hlk
        refine W.objInit (g := F0 m pc lsA (cv ad (.ref a0 :: st1))) (rest := cv ad st1) (a := ad a0) hx hb hown (hts _ (mem_GT1 hlk rfl)) (hts _ (mem_GT1 (i := 28) (by decide +kernel) (by decide +kernel))) (hts _ (mem_GT1 (i := 29) (by decide +kernel) (by decide +kernel))) rfl (hlh.1.trans hml.symm) rfl hdec (by omega) ?_ (KN.pure k hI hv)
        rw [catS_cv]
        show 2 * 0 + catS st1 + 12 ≤ R.locals
        omega
      · cases hs
    · cases hs
  · cases hs

end SND2
end
section
/-! SOUND, fourth part: every step; the counters only grow -/
theorem brI_w {c : ClassFile.Cond} {x : Int32} {t f : SR} {w} (h : brI c x t f = some w) : t = some w ∨ f = some w := by
  unfold brI at h
  cases c <;> dsimp only at h <;> split at h <;> first | exact Or.inl h | exact Or.inr h
theorem brII_w {c : ClassFile.Cond} {x y : Int32} {t f : SR} {w} (h : brII c x y t f = some w) : t = some w ∨ f = some w := by
  unfold brII at h
  cases c <;> dsimp only at h <;> split at h <;> first | exact Or.inl h | exact Or.inr h
def ctr (C : MC) (w : FR × MM) : Prop := C.1 ≤ w.2.2.2.2.1 ∧ C.2 ≤ w.2.2.2.2.2
theorem ctr_s {pc pc0 : Nat} {ls ls0 st st0 : List Value} {P P0 : MP} {I I0 : MI} {L L0 : ML} {C : MC} {w : FR × MM} (h : sN pc ls st P I L C = some (.inl w)) : ctr C w := by
  cases h; exact ⟨Nat.le_refl _, Nat.le_refl _⟩
theorem ctr_m {pc : Nat} {ls st : List Value} {t len nf : Nat} {P : MP} {I : MI} {L : ML} {C : MC} {w : FR × MM} (h : mk pc ls st t len nf P I L C = some (.inl w)) : ctr C w := by
  cases h; exact ⟨Nat.le_succ _, Nat.le_add_right _ _⟩

section CTR
variable {pc : Nat} {ls st : List Value} {P : MP} {I : MI} {L : ML} {C : MC} {w : FR × MM}
theorem ctr_ldI {k : Nat} (h : ldI ls k pc st P I L C = some (.inl w)) : ctr C w := by
  obtain ⟨v, -, hw⟩ := ldI_inv h
  cases hw; exact ⟨Nat.le_refl _, Nat.le_refl _⟩
theorem ctr_ldA {k : Nat} (h : ldA ls k pc st P I L C = some (.inl w)) : ctr C w := by
  obtain ⟨v, -, hw⟩ := ldA_inv h
  cases hw; exact ⟨Nat.le_refl _, Nat.le_refl _⟩
theorem ctr_ldL {k : Nat} (h : ldL ls k pc st P I L C = some (.inl w)) : ctr C w := by
  obtain ⟨v, -, hw⟩ := ldL_inv h
  cases hw; exact ⟨Nat.le_refl _, Nat.le_refl _⟩
theorem ctr_ldD {k : Nat} (h : ldD ls k pc st P I L C = some (.inl w)) : ctr C w := by
  obtain ⟨v, -, hw⟩ := ldD_inv h
  cases hw; exact ⟨Nat.le_refl _, Nat.le_refl _⟩
theorem ctr_stI {k : Nat} (h : stI ls k pc st P I L C = some (.inl w)) : ctr C w := by
  obtain ⟨v, st1, -, hw⟩ := stI_inv h
  cases hw; exact ⟨Nat.le_refl _, Nat.le_refl _⟩
theorem ctr_stA {k : Nat} (h : stA ls k pc st P I L C = some (.inl w)) : ctr C w := by
  obtain ⟨v, st1, -, hw⟩ := stA_inv h
  cases hw; exact ⟨Nat.le_refl _, Nat.le_refl _⟩
theorem ctr_stL {k : Nat} (h : stL ls k pc st P I L C = some (.inl w)) : ctr C w := by
  obtain ⟨v, st1, -, hw⟩ := stL_inv h
  cases hw; exact ⟨Nat.le_refl _, Nat.le_refl _⟩
theorem ctr_stD {k : Nat} (h : stD ls k pc st P I L C = some (.inl w)) : ctr C w := by
  obtain ⟨v, st1, -, hw⟩ := stD_inv h
  cases hw; exact ⟨Nat.le_refl _, Nat.le_refl _⟩
theorem ctr_o1I {f : Int32 → Value} (h : o1I f pc ls st P I L C = some (.inl w)) : ctr C w := by
  obtain ⟨x, st1, -, hw⟩ := o1I_inv h
  cases hw; exact ⟨Nat.le_refl _, Nat.le_refl _⟩
theorem ctr_o2I {f : Int32 → Int32 → Int32} (h : o2I f pc ls st P I L C = some (.inl w)) : ctr C w := by
  obtain ⟨x, y, st1, -, hw⟩ := o2I_inv h
  cases hw; exact ⟨Nat.le_refl _, Nat.le_refl _⟩
theorem ctr_o2L {f : Int64 → Int64 → Int64} (h : o2L f pc ls st P I L C = some (.inl w)) : ctr C w := by
  obtain ⟨x, y, st1, -, hw⟩ := o2L_inv h
  cases hw; exact ⟨Nat.le_refl _, Nat.le_refl _⟩
end CTR
set_option maxHeartbeats 4000000 in
theorem stp_ctr {pc : Nat} {i : ClassFile.Instr} {len : Nat} {rz : List Nat} {ls st : List Value} {P : MP} {I : MI} {L : ML} {C : MC} {w : FR × MM} (h : stp pc i len rz ls st P I L C = some (.inl w)) : ctr C w := by
  cases i <;> simp only [stp] at h <;> (repeat' split at h) <;>
    first
    | exact ctr_ldI h
    | exact ctr_ldA h
    | exact ctr_ldL h
    | exact ctr_ldD h
    | exact ctr_stI h
    | exact ctr_stA h
    | exact ctr_stL h
    | exact ctr_stD h
    | exact ctr_o1I h
    | exact ctr_o2I h
    | exact ctr_o2L h
    | exact ctr_m h
    | exact ctr_s (pc0 := 0) (ls0 := []) (st0 := []) (P0 := P) (I0 := I) (L0 := L) h
    | (rcases brI_w h with h | h <;> exact ctr_s (pc0 := 0) (ls0 := []) (st0 := []) (P0 := P) (I0 := I) (L0 := L) h)
    | (rcases brII_w h with h | h <;> exact ctr_s (pc0 := 0) (ls0 := []) (st0 := []) (P0 := P) (I0 := I) (L0 := L) h)
    | cases h
theorem ex_ctr {f : Nat} : ∀ {d mi : Nat} {fr : FR} {M : MM} {r : RV × MM}, ex f d mi fr M = some r → M.2.2.2.1 ≤ r.2.2.2.2.1 ∧ M.2.2.2.2 ≤ r.2.2.2.2.2 := by
  induction f with
  | zero => intro d mi fr M r h; cases h
  | succ f ih =>
    intro d mi fr M r h
    rw [ex] at h
    split at h
    · cases h
    · split at h
      · cases h
      · rename_i hs
        have h1 := stp_ctr hs
        have h2 := ih h
        exact ⟨Nat.le_trans h1.1 h2.1, Nat.le_trans h1.2 h2.2⟩
      · cases h; exact ⟨Nat.le_refl _, Nat.le_refl _⟩
      · cases h; exact ⟨Nat.le_succ _, Nat.le_add_right _ _⟩
      · split at h
        · cases h
        · split at h
          · cases h
          · rename_i he
            have h1 := ih he
            have h2 := ih h
            exact ⟨Nat.le_trans h1.1 h2.1, Nat.le_trans h1.2 h2.2⟩
          · rename_i he
            have h1 := ih he
            split at h
            · cases h; exact h1
            · split at h
              · cases h
              · have h2 := ih h
                exact ⟨Nat.le_trans h1.1 h2.1, Nat.le_trans h1.2 h2.2⟩

set_option maxHeartbeats 4000000 in
theorem stp_n {pc : Nat} {i : ClassFile.Instr} {len : Nat} {rz : List Nat} {ls st : List Value} {P : MP} {I : MI} {L : ML} {C : MC} {w : FR × MM} (h : stp pc i len rz ls st P I L C = some (.inl w)) : P.2.2 ≤ w.2.1.2.2 := by
  cases i <;> simp only [stp] at h <;> (repeat' split at h) <;>
    first
    | (obtain ⟨v, -, hw⟩ := ldI_inv h; cases hw; exact Nat.le_refl _)
    | (obtain ⟨v, -, hw⟩ := ldA_inv h; cases hw; exact Nat.le_refl _)
    | (obtain ⟨v, -, hw⟩ := ldL_inv h; cases hw; exact Nat.le_refl _)
    | (obtain ⟨v, -, hw⟩ := ldD_inv h; cases hw; exact Nat.le_refl _)
    | (obtain ⟨v, st1, -, hw⟩ := stI_inv h; cases hw; exact Nat.le_refl _)
    | (obtain ⟨v, st1, -, hw⟩ := stA_inv h; cases hw; exact Nat.le_refl _)
    | (obtain ⟨v, st1, -, hw⟩ := stL_inv h; cases hw; exact Nat.le_refl _)
    | (obtain ⟨v, st1, -, hw⟩ := stD_inv h; cases hw; exact Nat.le_refl _)
    | (obtain ⟨x, st1, -, hw⟩ := o1I_inv h; cases hw; exact Nat.le_refl _)
    | (obtain ⟨x, y, st1, -, hw⟩ := o2I_inv h; cases hw; exact Nat.le_refl _)
    | (obtain ⟨x, y, st1, -, hw⟩ := o2L_inv h; cases hw; exact Nat.le_refl _)
    | (rcases brI_w h with h | h <;> (cases h; exact Nat.le_refl _))
    | (rcases brII_w h with h | h <;> (cases h; exact Nat.le_refl _))
    | (cases h; exact Nat.le_refl _)
    | (cases h; exact Nat.le_succ _)
    | cases h
theorem ex_n {f : Nat} : ∀ {d mi : Nat} {fr : FR} {M : MM} {r : RV × MM}, ex f d mi fr M = some r → M.1.2.2 ≤ r.2.1.2.2 := by
  induction f with
  | zero => intro d mi fr M r h; cases h
  | succ f ih =>
    intro d mi fr M r h
    rw [ex] at h
    split at h
    · cases h
    · split at h
      · cases h
      · rename_i hs
        exact Nat.le_trans (stp_n hs) (ih h)
      · cases h; exact Nat.le_refl _
      · cases h; exact Nat.le_refl _
      · split at h
        · cases h
        · split at h
          · cases h
          · rename_i he
            exact Nat.le_trans (ih he) (ih h)
          · rename_i he
            split at h
            · cases h; exact ih he
            · split at h
              · cases h
              · exact Nat.le_trans (ih he) (ih h)
theorem mem_grow {f d mi : Nat} {fr : FR} {P : MP} {I : MI} {L : ML} {C : MC} {v : RV} {M : MM} (h : ex f d mi fr (P, I, L, C) = some (v, M)) : P.2.2 ≤ M.1.2.2 := ex_n h

section SND3
variable {p : Program} {l : Launch} {e : Env} {R : Room} {s : State} {m : MethodId} {args : Array Value} {below : List Frame} {meth : Method} {c : Code} {H : Heap} {locs : List Loc} {cells slots : Nat} {Q : State → Prop}
variable {D : va_G} {cy : CY} {L0 : Nat} {x0 : XX} {mi : Nat} {ad : Nat → Nat} {P P' : MP} {I I' : MI} {L L' : ML} {C C' : MC} {ls ls' st st' : List Value} {lsA : Array Slot} {pc pc' : Nat} {i : ClassFile.Instr} {len : Nat} {rz : List Nat}

set_option maxHeartbeats 4000000 in
theorem sx_all (fo : FO p s m meth c mi) (sv : SV D cy s) (sh : SH L0 x0 s s.heap) (hd : dec mi pc = some (i, len, rz)) (hI : IV D cy L0 x0 s mi ad P I L ls st lsA H locs) {w : FR × MM} (hs : stp pc i len rz ls st P I L C = some (.inl w)) (hcR : cells + w.2.2.2.2.1 ≤ R.cells + C.1) (hsR : slots + w.2.2.2.2.2 ≤ R.slots + C.2) (hfR : 8 ≤ R.frames) (hlR : 128 ≤ R.locals)
    (k : KN p l e R s m args below meth c cells slots Q D cy L0 x0 mi ad P C w) : W p l e R s m args below meth c H locs cells slots Q (F0 m pc lsA (cv ad st)) := by
  cases i with
  | aload_n n => exact sx_aload_n fo sv sh hd hI hs hcR hsR hfR hlR k
  | iload_n n => exact sx_iload_n fo sv sh hd hI hs hcR hsR hfR hlR k
  | lload_n n => exact sx_lload_n fo sv sh hd hI hs hcR hsR hfR hlR k
  | dload_n n => exact sx_dload_n fo sv sh hd hI hs hcR hsR hfR hlR k
  | aload n => exact sx_aload fo sv sh hd hI hs hcR hsR hfR hlR k
  | iload n => exact sx_iload fo sv sh hd hI hs hcR hsR hfR hlR k
  | lload n => exact sx_lload fo sv sh hd hI hs hcR hsR hfR hlR k
  | dload n => exact sx_dload fo sv sh hd hI hs hcR hsR hfR hlR k
  | istore_n n => exact sx_istore_n fo sv sh hd hI hs hcR hsR hfR hlR k
  | astore_n n => exact sx_astore_n fo sv sh hd hI hs hcR hsR hfR hlR k
  | lstore_n n => exact sx_lstore_n fo sv sh hd hI hs hcR hsR hfR hlR k
  | dstore_n n => exact sx_dstore_n fo sv sh hd hI hs hcR hsR hfR hlR k
  | istore n => exact sx_istore fo sv sh hd hI hs hcR hsR hfR hlR k
  | astore n => exact sx_astore fo sv sh hd hI hs hcR hsR hfR hlR k
  | lstore n => exact sx_lstore fo sv sh hd hI hs hcR hsR hfR hlR k
  | dstore n => exact sx_dstore fo sv sh hd hI hs hcR hsR hfR hlR k
  | iinc n z => exact sx_iinc fo sv sh hd hI hs hcR hsR hfR hlR k
  | iconst n => exact sx_iconst fo sv sh hd hI hs hcR hsR hfR hlR k
  | bipush n => exact sx_bipush fo sv sh hd hI hs hcR hsR hfR hlR k
  | sipush n => exact sx_sipush fo sv sh hd hI hs hcR hsR hfR hlR k
  | lconst n => exact sx_lconst fo sv sh hd hI hs hcR hsR hfR hlR k
  | dconst n => exact sx_dconst fo sv sh hd hI hs hcR hsR hfR hlR k
  | aconst_null  => exact sx_aconst_null fo sv sh hd hI hs hcR hsR hfR hlR k
  | ldc n => exact sx_ldc fo sv sh hd hI hs hcR hsR hfR hlR k
  | ldc_w n => exact sx_ldc_w fo sv sh hd hI hs hcR hsR hfR hlR k
  | ldc2_w n => exact sx_ldc2_w fo sv sh hd hI hs hcR hsR hfR hlR k
  | dup  => exact sx_dup fo sv sh hd hI hs hcR hsR hfR hlR k
  | dup2  => exact sx_dup2 fo sv sh hd hI hs hcR hsR hfR hlR k
  | pop  => exact sx_pop fo sv sh hd hI hs hcR hsR hfR hlR k
  | iadd  => exact sx_iadd fo sv sh hd hI hs hcR hsR hfR hlR k
  | isub  => exact sx_isub fo sv sh hd hI hs hcR hsR hfR hlR k
  | imul  => exact sx_imul fo sv sh hd hI hs hcR hsR hfR hlR k
  | iand  => exact sx_iand fo sv sh hd hI hs hcR hsR hfR hlR k
  | ior  => exact sx_ior fo sv sh hd hI hs hcR hsR hfR hlR k
  | ixor  => exact sx_ixor fo sv sh hd hI hs hcR hsR hfR hlR k
  | ishl  => exact sx_ishl fo sv sh hd hI hs hcR hsR hfR hlR k
  | ishr  => exact sx_ishr fo sv sh hd hI hs hcR hsR hfR hlR k
  | iushr  => exact sx_iushr fo sv sh hd hI hs hcR hsR hfR hlR k
  | idiv  => exact sx_idiv fo sv sh hd hI hs hcR hsR hfR hlR k
  | irem  => exact sx_irem fo sv sh hd hI hs hcR hsR hfR hlR k
  | ldiv  => exact sx_ldiv fo sv sh hd hI hs hcR hsR hfR hlR k
  | lrem  => exact sx_lrem fo sv sh hd hI hs hcR hsR hfR hlR k
  | i2l  => exact sx_i2l fo sv sh hd hI hs hcR hsR hfR hlR k
  | i2b  => exact sx_i2b fo sv sh hd hI hs hcR hsR hfR hlR k
  | i2d  => exact sx_i2d fo sv sh hd hI hs hcR hsR hfR hlR k
  | l2i  => exact sx_l2i fo sv sh hd hI hs hcR hsR hfR hlR k
  | ladd  => exact sx_ladd fo sv sh hd hI hs hcR hsR hfR hlR k
  | lmul  => exact sx_lmul fo sv sh hd hI hs hcR hsR hfR hlR k
  | lcmp  => exact sx_lcmp fo sv sh hd hI hs hcR hsR hfR hlR k
  | dcmp op => exact sx_dcmp fo sv sh hd hI hs hcR hsR hfR hlR k
  | ddiv  => exact sx_ddiv fo sv sh hd hI hs hcR hsR hfR hlR k
  | goto z => exact sx_goto fo sv sh hd hI hs hcR hsR hfR hlR k
  | ifnull z => exact sx_ifnull fo sv sh hd hI hs hcR hsR hfR hlR k
  | ifnonnull z => exact sx_ifnonnull fo sv sh hd hI hs hcR hsR hfR hlR k
  | tableswitch a b d e2 => exact sx_tableswitch fo sv sh hd hI hs hcR hsR hfR hlR k
  | lookupswitch a b => exact sx_lookupswitch fo sv sh hd hI hs hcR hsR hfR hlR k
  | getfield n => exact sx_getfield fo sv sh hd hI hs hcR hsR hfR hlR k
  | putfield n => exact sx_putfield fo sv sh hd hI hs hcR hsR hfR hlR k
  | arraylength  => exact sx_arraylength fo sv sh hd hI hs hcR hsR hfR hlR k
  | iaload  => exact sx_iaload fo sv sh hd hI hs hcR hsR hfR hlR k
  | baload  => exact sx_baload fo sv sh hd hI hs hcR hsR hfR hlR k
  | laload  => exact sx_laload fo sv sh hd hI hs hcR hsR hfR hlR k
  | aaload  => exact sx_aaload fo sv sh hd hI hs hcR hsR hfR hlR k
  | iastore  => exact sx_iastore fo sv sh hd hI hs hcR hsR hfR hlR k
  | bastore  => exact sx_bastore fo sv sh hd hI hs hcR hsR hfR hlR k
  | lastore  => exact sx_lastore fo sv sh hd hI hs hcR hsR hfR hlR k
  | aastore  => exact sx_aastore fo sv sh hd hI hs hcR hsR hfR hlR k
  | new n => exact sx_new fo sv sh hd hI hs hcR hsR hfR hlR k
  | anewarray n => exact sx_anewarray fo sv sh hd hI hs hcR hsR hfR hlR k
  | invokestatic n => exact sx_invokestatic fo sv sh hd hI hs hcR hsR hfR hlR k
  | invokespecial n => exact sx_invokespecial fo sv sh hd hI hs hcR hsR hfR hlR k
  | ifCond cd z =>
    cases cd with
    | eq => exact sx_if_eq fo sv sh hd hI hs hcR hsR hfR hlR k
    | ne => exact sx_if_ne fo sv sh hd hI hs hcR hsR hfR hlR k
    | lt => exact sx_if_lt fo sv sh hd hI hs hcR hsR hfR hlR k
    | ge => exact sx_if_ge fo sv sh hd hI hs hcR hsR hfR hlR k
    | gt => exact sx_if_gt fo sv sh hd hI hs hcR hsR hfR hlR k
    | le => exact sx_if_le fo sv sh hd hI hs hcR hsR hfR hlR k
  | if_icmp cd z =>
    cases cd with
    | eq => exact sx_icmp_eq fo sv sh hd hI hs hcR hsR hfR hlR k
    | ne => exact sx_icmp_ne fo sv sh hd hI hs hcR hsR hfR hlR k
    | lt => exact sx_icmp_lt fo sv sh hd hI hs hcR hsR hfR hlR k
    | ge => exact sx_icmp_ge fo sv sh hd hI hs hcR hsR hfR hlR k
    | gt => exact sx_icmp_gt fo sv sh hd hI hs hcR hsR hfR hlR k
    | le => exact sx_icmp_le fo sv sh hd hI hs hcR hsR hfR hlR k
  | newarray t =>
    cases t with
    | int => exact sx_newarray_int fo sv sh hd hI hs hcR hsR hfR hlR k
    | long => exact sx_newarray_long fo sv sh hd hI hs hcR hsR hfR hlR k
    | byte => exact sx_newarray_byte fo sv sh hd hI hs hcR hsR hfR hlR k
    | _ => simp only [stp] at hs; (repeat' split at hs) <;> cases hs
  | _ => simp only [stp] at hs; (repeat' split at hs) <;> cases hs
end SND3
end
section
theorem zz_look : 1 + 1 = 2 := rfl
end
