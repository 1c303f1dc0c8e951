section
-- ===== PART A: goes FIRST, ahead of the names: the tables' words, and 'selects' of the private methods out of them =====
/-- a private method of a class that the tables say can be made, by its rows of tables_1 -/
def lw_okq (q : MethodName × Nat) : Prop := (q.1.cls ≠ "java/lang/invoke/MethodHandle" ∧ q.1.cls ≠ "java/lang/invoke/VarHandle") ∧ Cond.instantiable q.1.cls q.2 ∈ tables_1 ∧ Cond.privateMethod q.1 ∈ tables_1 ∧ Cond.instanceMethod q.1 ∈ tables_1
theorem lw_p0 : lw_okq (⟨"PaneHouse", "fitPanes", "()V"⟩, 11) := ⟨⟨by decide +kernel, by decide +kernel⟩, List.mem_of_getElem? (i := 31) (by decide +kernel), List.mem_of_getElem? (i := 327) (by decide +kernel), List.mem_of_getElem? (i := 328) (by decide +kernel)⟩
theorem lw_p1 : lw_okq (⟨"java/lang/Throwable", "fillInStackTrace", "(I)Ljava/lang/Throwable;"⟩, 6) := ⟨⟨by decide +kernel, by decide +kernel⟩, List.mem_of_getElem? (i := 388) (by decide +kernel), List.mem_of_getElem? (i := 386) (by decide +kernel), List.mem_of_getElem? (i := 387) (by decide +kernel)⟩
theorem lw_p2 : lw_okq (⟨"PaneHouse", "drawPicture", "()V"⟩, 11) := ⟨⟨by decide +kernel, by decide +kernel⟩, List.mem_of_getElem? (i := 31) (by decide +kernel), List.mem_of_getElem? (i := 742) (by decide +kernel), List.mem_of_getElem? (i := 743) (by decide +kernel)⟩
theorem lw_p3 : lw_okq (⟨"PaneHouse$Outer", "moveTo", "(II)V"⟩, 8) := ⟨⟨by decide +kernel, by decide +kernel⟩, List.mem_of_getElem? (i := 291) (by decide +kernel), List.mem_of_getElem? (i := 795) (by decide +kernel), List.mem_of_getElem? (i := 796) (by decide +kernel)⟩
theorem lw_p4 : lw_okq (⟨"PaneHouse$Outer", "put", "(I)V"⟩, 8) := ⟨⟨by decide +kernel, by decide +kernel⟩, List.mem_of_getElem? (i := 291) (by decide +kernel), List.mem_of_getElem? (i := 799) (by decide +kernel), List.mem_of_getElem? (i := 800) (by decide +kernel)⟩
theorem lw_p5 : lw_okq (⟨"PaneHouse$Outer", "putNumber", "(I)V"⟩, 8) := ⟨⟨by decide +kernel, by decide +kernel⟩, List.mem_of_getElem? (i := 291) (by decide +kernel), List.mem_of_getElem? (i := 803) (by decide +kernel), List.mem_of_getElem? (i := 804) (by decide +kernel)⟩
theorem lw_p6 : lw_okq (⟨"PaneHouse$Outer", "takePen", "(I)V"⟩, 8) := ⟨⟨by decide +kernel, by decide +kernel⟩, List.mem_of_getElem? (i := 291) (by decide +kernel), List.mem_of_getElem? (i := 807) (by decide +kernel), List.mem_of_getElem? (i := 808) (by decide +kernel)⟩
theorem lw_p7 : lw_okq (⟨"PaneHouse$Outer", "beginSequence", "(I)V"⟩, 8) := ⟨⟨by decide +kernel, by decide +kernel⟩, List.mem_of_getElem? (i := 291) (by decide +kernel), List.mem_of_getElem? (i := 811) (by decide +kernel), List.mem_of_getElem? (i := 812) (by decide +kernel)⟩
theorem lw_p8 : lw_okq (⟨"PaneHouse$Outer", "putPart", "(ZI)V"⟩, 8) := ⟨⟨by decide +kernel, by decide +kernel⟩, List.mem_of_getElem? (i := 291) (by decide +kernel), List.mem_of_getElem? (i := 815) (by decide +kernel), List.mem_of_getElem? (i := 816) (by decide +kernel)⟩
theorem lw_p9 : lw_okq (⟨"PaneHouse", "cursorColumn", "()I"⟩, 11) := ⟨⟨by decide +kernel, by decide +kernel⟩, List.mem_of_getElem? (i := 31) (by decide +kernel), List.mem_of_getElem? (i := 819) (by decide +kernel), List.mem_of_getElem? (i := 820) (by decide +kernel)⟩
theorem lw_p10 : lw_okq (⟨"PaneHouse", "cursorRow", "()I"⟩, 11) := ⟨⟨by decide +kernel, by decide +kernel⟩, List.mem_of_getElem? (i := 31) (by decide +kernel), List.mem_of_getElem? (i := 823) (by decide +kernel), List.mem_of_getElem? (i := 824) (by decide +kernel)⟩
theorem lw_p11 : lw_okq (⟨"PaneHouse", "checkPane", "(I)V"⟩, 11) := ⟨⟨by decide +kernel, by decide +kernel⟩, List.mem_of_getElem? (i := 31) (by decide +kernel), List.mem_of_getElem? (i := 847) (by decide +kernel), List.mem_of_getElem? (i := 848) (by decide +kernel)⟩
theorem lw_p12 : lw_okq (⟨"PaneHouse$Screen", "raiseRows", "(II)V"⟩, 18) := ⟨⟨by decide +kernel, by decide +kernel⟩, List.mem_of_getElem? (i := 71) (by decide +kernel), List.mem_of_getElem? (i := 894) (by decide +kernel), List.mem_of_getElem? (i := 895) (by decide +kernel)⟩
theorem lw_p13 : lw_okq (⟨"PaneHouse$Screen", "blank", "()I"⟩, 18) := ⟨⟨by decide +kernel, by decide +kernel⟩, List.mem_of_getElem? (i := 71) (by decide +kernel), List.mem_of_getElem? (i := 903) (by decide +kernel), List.mem_of_getElem? (i := 904) (by decide +kernel)⟩
theorem lw_p14 : lw_okq (⟨"PaneHouse$Reader", "takeLonger", "(I)V"⟩, 6) := ⟨⟨by decide +kernel, by decide +kernel⟩, List.mem_of_getElem? (i := 188) (by decide +kernel), List.mem_of_getElem? (i := 908) (by decide +kernel), List.mem_of_getElem? (i := 909) (by decide +kernel)⟩
theorem lw_p15 : lw_okq (⟨"PaneHouse$Reader", "takeDigit", "(I)V"⟩, 6) := ⟨⟨by decide +kernel, by decide +kernel⟩, List.mem_of_getElem? (i := 188) (by decide +kernel), List.mem_of_getElem? (i := 912) (by decide +kernel), List.mem_of_getElem? (i := 913) (by decide +kernel)⟩
def lw_privs_1 : List (MethodName × Nat) := [(⟨"PaneHouse", "fitPanes", "()V"⟩, 11), (⟨"java/lang/Throwable", "fillInStackTrace", "(I)Ljava/lang/Throwable;"⟩, 6), (⟨"PaneHouse", "drawPicture", "()V"⟩, 11), (⟨"PaneHouse$Outer", "moveTo", "(II)V"⟩, 8), (⟨"PaneHouse$Outer", "put", "(I)V"⟩, 8), (⟨"PaneHouse$Outer", "putNumber", "(I)V"⟩, 8), (⟨"PaneHouse$Outer", "takePen", "(I)V"⟩, 8), (⟨"PaneHouse$Outer", "beginSequence", "(I)V"⟩, 8), (⟨"PaneHouse$Outer", "putPart", "(ZI)V"⟩, 8), (⟨"PaneHouse", "cursorColumn", "()I"⟩, 11), (⟨"PaneHouse", "cursorRow", "()I"⟩, 11), (⟨"PaneHouse", "checkPane", "(I)V"⟩, 11), (⟨"PaneHouse$Screen", "raiseRows", "(II)V"⟩, 18), (⟨"PaneHouse$Screen", "blank", "()I"⟩, 18), (⟨"PaneHouse$Reader", "takeLonger", "(I)V"⟩, 6), (⟨"PaneHouse$Reader", "takeDigit", "(I)V"⟩, 6)]
theorem lw_r1 : ∀ q ∈ lw_privs_1, lw_okq q := List.forall_mem_cons.mpr ⟨lw_p0, List.forall_mem_cons.mpr ⟨lw_p1, List.forall_mem_cons.mpr ⟨lw_p2, List.forall_mem_cons.mpr ⟨lw_p3, List.forall_mem_cons.mpr ⟨lw_p4, List.forall_mem_cons.mpr ⟨lw_p5, List.forall_mem_cons.mpr ⟨lw_p6, List.forall_mem_cons.mpr ⟨lw_p7, List.forall_mem_cons.mpr ⟨lw_p8, List.forall_mem_cons.mpr ⟨lw_p9, List.forall_mem_cons.mpr ⟨lw_p10, List.forall_mem_cons.mpr ⟨lw_p11, List.forall_mem_cons.mpr ⟨lw_p12, List.forall_mem_cons.mpr ⟨lw_p13, List.forall_mem_cons.mpr ⟨lw_p14, List.forall_mem_cons.mpr ⟨lw_p15, fun _ h => absurd h List.not_mem_nil⟩⟩⟩⟩⟩⟩⟩⟩⟩⟩⟩⟩⟩⟩⟩⟩
theorem lw_p16 : lw_okq (⟨"PaneHouse$Reader", "doAsked", "(I)V"⟩, 6) := ⟨⟨by decide +kernel, by decide +kernel⟩, List.mem_of_getElem? (i := 188) (by decide +kernel), List.mem_of_getElem? (i := 917) (by decide +kernel), List.mem_of_getElem? (i := 918) (by decide +kernel)⟩
theorem lw_p17 : lw_okq (⟨"PaneHouse$Reader", "doLonger", "(I)V"⟩, 6) := ⟨⟨by decide +kernel, by decide +kernel⟩, List.mem_of_getElem? (i := 188) (by decide +kernel), List.mem_of_getElem? (i := 925) (by decide +kernel), List.mem_of_getElem? (i := 926) (by decide +kernel)⟩
theorem lw_p18 : lw_okq (⟨"PaneHouse$Screen", "lowerRows", "(II)V"⟩, 18) := ⟨⟨by decide +kernel, by decide +kernel⟩, List.mem_of_getElem? (i := 71) (by decide +kernel), List.mem_of_getElem? (i := 943) (by decide +kernel), List.mem_of_getElem? (i := 944) (by decide +kernel)⟩
theorem lw_p19 : lw_okq (⟨"PaneHouse$Reader", "setPen", "()V"⟩, 6) := ⟨⟨by decide +kernel, by decide +kernel⟩, List.mem_of_getElem? (i := 188) (by decide +kernel), List.mem_of_getElem? (i := 977) (by decide +kernel), List.mem_of_getElem? (i := 978) (by decide +kernel)⟩
theorem lw_p20 : lw_okq (⟨"PaneHouse$Reader", "setInsertMode", "(Z)V"⟩, 6) := ⟨⟨by decide +kernel, by decide +kernel⟩, List.mem_of_getElem? (i := 188) (by decide +kernel), List.mem_of_getElem? (i := 990) (by decide +kernel), List.mem_of_getElem? (i := 991) (by decide +kernel)⟩
theorem lw_p21 : lw_okq (⟨"PaneHouse$Reader", "takeShort", "(I)V"⟩, 6) := ⟨⟨by decide +kernel, by decide +kernel⟩, List.mem_of_getElem? (i := 188) (by decide +kernel), List.mem_of_getElem? (i := 994) (by decide +kernel), List.mem_of_getElem? (i := 995) (by decide +kernel)⟩
theorem lw_p22 : lw_okq (⟨"PaneHouse$Reader", "beginLonger", "()V"⟩, 6) := ⟨⟨by decide +kernel, by decide +kernel⟩, List.mem_of_getElem? (i := 188) (by decide +kernel), List.mem_of_getElem? (i := 1009) (by decide +kernel), List.mem_of_getElem? (i := 1010) (by decide +kernel)⟩
theorem lw_p23 : lw_okq (⟨"PaneHouse", "command", "(I)V"⟩, 11) := ⟨⟨by decide +kernel, by decide +kernel⟩, List.mem_of_getElem? (i := 31) (by decide +kernel), List.mem_of_getElem? (i := 1031) (by decide +kernel), List.mem_of_getElem? (i := 1032) (by decide +kernel)⟩
theorem lw_p24 : lw_okq (⟨"PaneHouse", "divide", "(IZ)I"⟩, 11) := ⟨⟨by decide +kernel, by decide +kernel⟩, List.mem_of_getElem? (i := 31) (by decide +kernel), List.mem_of_getElem? (i := 1035) (by decide +kernel), List.mem_of_getElem? (i := 1036) (by decide +kernel)⟩
theorem lw_p25 : lw_okq (⟨"PaneHouse$Layout", "exchange", "(LPaneHouse$Part;LPaneHouse$Part;)V"⟩, 2) := ⟨⟨by decide +kernel, by decide +kernel⟩, List.mem_of_getElem? (i := 233) (by decide +kernel), List.mem_of_getElem? (i := 1052) (by decide +kernel), List.mem_of_getElem? (i := 1053) (by decide +kernel)⟩
theorem lw_p26 : lw_okq (⟨"PaneHouse", "remove", "(I)Z"⟩, 11) := ⟨⟨by decide +kernel, by decide +kernel⟩, List.mem_of_getElem? (i := 31) (by decide +kernel), List.mem_of_getElem? (i := 1068) (by decide +kernel), List.mem_of_getElem? (i := 1069) (by decide +kernel)⟩
theorem lw_p27 : lw_okq (⟨"PaneHouse", "paste", "()V"⟩, 11) := ⟨⟨by decide +kernel, by decide +kernel⟩, List.mem_of_getElem? (i := 31) (by decide +kernel), List.mem_of_getElem? (i := 1078) (by decide +kernel), List.mem_of_getElem? (i := 1079) (by decide +kernel)⟩
theorem lw_p28 : lw_okq (⟨"PaneHouse", "checkPlace", "(III)V"⟩, 11) := ⟨⟨by decide +kernel, by decide +kernel⟩, List.mem_of_getElem? (i := 31) (by decide +kernel), List.mem_of_getElem? (i := 1151) (by decide +kernel), List.mem_of_getElem? (i := 1152) (by decide +kernel)⟩
theorem lw_p29 : lw_okq (⟨"PaneHouse", "clipByte", "(I)V"⟩, 11) := ⟨⟨by decide +kernel, by decide +kernel⟩, List.mem_of_getElem? (i := 31) (by decide +kernel), List.mem_of_getElem? (i := 1157) (by decide +kernel), List.mem_of_getElem? (i := 1158) (by decide +kernel)⟩
theorem lw_p30 : lw_okq (⟨"PaneHouse", "clipLine", "(II)V"⟩, 11) := ⟨⟨by decide +kernel, by decide +kernel⟩, List.mem_of_getElem? (i := 31) (by decide +kernel), List.mem_of_getElem? (i := 1161) (by decide +kernel), List.mem_of_getElem? (i := 1162) (by decide +kernel)⟩
theorem lw_p31 : lw_okq (⟨"PaneHouseModel", "begin", "(III)V"⟩, 61) := ⟨⟨by decide +kernel, by decide +kernel⟩, List.mem_of_getElem? (i := 1227) (by decide +kernel), List.mem_of_getElem? (i := 1233) (by decide +kernel), List.mem_of_getElem? (i := 1234) (by decide +kernel)⟩
def lw_privs_2 : List (MethodName × Nat) := [(⟨"PaneHouse$Reader", "doAsked", "(I)V"⟩, 6), (⟨"PaneHouse$Reader", "doLonger", "(I)V"⟩, 6), (⟨"PaneHouse$Screen", "lowerRows", "(II)V"⟩, 18), (⟨"PaneHouse$Reader", "setPen", "()V"⟩, 6), (⟨"PaneHouse$Reader", "setInsertMode", "(Z)V"⟩, 6), (⟨"PaneHouse$Reader", "takeShort", "(I)V"⟩, 6), (⟨"PaneHouse$Reader", "beginLonger", "()V"⟩, 6), (⟨"PaneHouse", "command", "(I)V"⟩, 11), (⟨"PaneHouse", "divide", "(IZ)I"⟩, 11), (⟨"PaneHouse$Layout", "exchange", "(LPaneHouse$Part;LPaneHouse$Part;)V"⟩, 2), (⟨"PaneHouse", "remove", "(I)Z"⟩, 11), (⟨"PaneHouse", "paste", "()V"⟩, 11), (⟨"PaneHouse", "checkPlace", "(III)V"⟩, 11), (⟨"PaneHouse", "clipByte", "(I)V"⟩, 11), (⟨"PaneHouse", "clipLine", "(II)V"⟩, 11), (⟨"PaneHouseModel", "begin", "(III)V"⟩, 61)]
theorem lw_r2 : ∀ q ∈ lw_privs_2, lw_okq q := List.forall_mem_cons.mpr ⟨lw_p16, List.forall_mem_cons.mpr ⟨lw_p17, List.forall_mem_cons.mpr ⟨lw_p18, List.forall_mem_cons.mpr ⟨lw_p19, List.forall_mem_cons.mpr ⟨lw_p20, List.forall_mem_cons.mpr ⟨lw_p21, List.forall_mem_cons.mpr ⟨lw_p22, List.forall_mem_cons.mpr ⟨lw_p23, List.forall_mem_cons.mpr ⟨lw_p24, List.forall_mem_cons.mpr ⟨lw_p25, List.forall_mem_cons.mpr ⟨lw_p26, List.forall_mem_cons.mpr ⟨lw_p27, List.forall_mem_cons.mpr ⟨lw_p28, List.forall_mem_cons.mpr ⟨lw_p29, List.forall_mem_cons.mpr ⟨lw_p30, List.forall_mem_cons.mpr ⟨lw_p31, fun _ h => absurd h List.not_mem_nil⟩⟩⟩⟩⟩⟩⟩⟩⟩⟩⟩⟩⟩⟩⟩⟩
theorem lw_p32 : lw_okq (⟨"PaneHouseModel", "reset", "(I)V"⟩, 61) := ⟨⟨by decide +kernel, by decide +kernel⟩, List.mem_of_getElem? (i := 1227) (by decide +kernel), List.mem_of_getElem? (i := 1237) (by decide +kernel), List.mem_of_getElem? (i := 1238) (by decide +kernel)⟩
theorem lw_p33 : lw_okq (⟨"PaneHouseModel", "blank", "(II)V"⟩, 61) := ⟨⟨by decide +kernel, by decide +kernel⟩, List.mem_of_getElem? (i := 1227) (by decide +kernel), List.mem_of_getElem? (i := 1244) (by decide +kernel), List.mem_of_getElem? (i := 1245) (by decide +kernel)⟩
theorem lw_p34 : lw_okq (⟨"PaneHouseModel", "noPane", "(I)Z"⟩, 61) := ⟨⟨by decide +kernel, by decide +kernel⟩, List.mem_of_getElem? (i := 1227) (by decide +kernel), List.mem_of_getElem? (i := 1441) (by decide +kernel), List.mem_of_getElem? (i := 1442) (by decide +kernel)⟩
theorem lw_p35 : lw_okq (⟨"PaneHouseModel", "maySplit", "(IZ)Z"⟩, 61) := ⟨⟨by decide +kernel, by decide +kernel⟩, List.mem_of_getElem? (i := 1227) (by decide +kernel), List.mem_of_getElem? (i := 1445) (by decide +kernel), List.mem_of_getElem? (i := 1446) (by decide +kernel)⟩
theorem lw_p36 : lw_okq (⟨"PaneHouseModel", "splitNow", "(IZ)I"⟩, 61) := ⟨⟨by decide +kernel, by decide +kernel⟩, List.mem_of_getElem? (i := 1227) (by decide +kernel), List.mem_of_getElem? (i := 1449) (by decide +kernel), List.mem_of_getElem? (i := 1450) (by decide +kernel)⟩
theorem lw_p37 : lw_okq (⟨"PaneHouseModel", "freeNode", "()I"⟩, 61) := ⟨⟨by decide +kernel, by decide +kernel⟩, List.mem_of_getElem? (i := 1227) (by decide +kernel), List.mem_of_getElem? (i := 1453) (by decide +kernel), List.mem_of_getElem? (i := 1454) (by decide +kernel)⟩
theorem lw_p38 : lw_okq (⟨"PaneHouseModel", "lay", "(IIIII)V"⟩, 61) := ⟨⟨by decide +kernel, by decide +kernel⟩, List.mem_of_getElem? (i := 1227) (by decide +kernel), List.mem_of_getElem? (i := 1457) (by decide +kernel), List.mem_of_getElem? (i := 1458) (by decide +kernel)⟩
theorem lw_p39 : lw_okq (⟨"PaneHouseModel", "resize", "(III)V"⟩, 61) := ⟨⟨by decide +kernel, by decide +kernel⟩, List.mem_of_getElem? (i := 1227) (by decide +kernel), List.mem_of_getElem? (i := 1461) (by decide +kernel), List.mem_of_getElem? (i := 1462) (by decide +kernel)⟩
theorem lw_p40 : lw_okq (⟨"PaneHouseModel", "panes", "()I"⟩, 61) := ⟨⟨by decide +kernel, by decide +kernel⟩, List.mem_of_getElem? (i := 1227) (by decide +kernel), List.mem_of_getElem? (i := 1472) (by decide +kernel), List.mem_of_getElem? (i := 1473) (by decide +kernel)⟩
theorem lw_p41 : lw_okq (⟨"PaneHouseModel", "closeNow", "(I)V"⟩, 61) := ⟨⟨by decide +kernel, by decide +kernel⟩, List.mem_of_getElem? (i := 1227) (by decide +kernel), List.mem_of_getElem? (i := 1476) (by decide +kernel), List.mem_of_getElem? (i := 1477) (by decide +kernel)⟩
theorem lw_p42 : lw_okq (⟨"PaneHouseModel", "take", "(II)V"⟩, 61) := ⟨⟨by decide +kernel, by decide +kernel⟩, List.mem_of_getElem? (i := 1227) (by decide +kernel), List.mem_of_getElem? (i := 1488) (by decide +kernel), List.mem_of_getElem? (i := 1489) (by decide +kernel)⟩
theorem lw_p43 : lw_okq (⟨"PaneHouseModel", "isPlain", "(II)Z"⟩, 61) := ⟨⟨by decide +kernel, by decide +kernel⟩, List.mem_of_getElem? (i := 1227) (by decide +kernel), List.mem_of_getElem? (i := 1492) (by decide +kernel), List.mem_of_getElem? (i := 1493) (by decide +kernel)⟩
theorem lw_p44 : lw_okq (⟨"PaneHouseModel", "moveTo", "(III)V"⟩, 61) := ⟨⟨by decide +kernel, by decide +kernel⟩, List.mem_of_getElem? (i := 1227) (by decide +kernel), List.mem_of_getElem? (i := 1496) (by decide +kernel), List.mem_of_getElem? (i := 1497) (by decide +kernel)⟩
theorem lw_p45 : lw_okq (⟨"PaneHouseModel", "down", "(I)V"⟩, 61) := ⟨⟨by decide +kernel, by decide +kernel⟩, List.mem_of_getElem? (i := 1227) (by decide +kernel), List.mem_of_getElem? (i := 1500) (by decide +kernel), List.mem_of_getElem? (i := 1501) (by decide +kernel)⟩
theorem lw_p46 : lw_okq (⟨"PaneHouseModel", "scrollUp", "(IIIIZ)V"⟩, 61) := ⟨⟨by decide +kernel, by decide +kernel⟩, List.mem_of_getElem? (i := 1227) (by decide +kernel), List.mem_of_getElem? (i := 1504) (by decide +kernel), List.mem_of_getElem? (i := 1505) (by decide +kernel)⟩
theorem lw_p47 : lw_okq (⟨"PaneHouseModel", "keepRow", "(I)V"⟩, 61) := ⟨⟨by decide +kernel, by decide +kernel⟩, List.mem_of_getElem? (i := 1227) (by decide +kernel), List.mem_of_getElem? (i := 1508) (by decide +kernel), List.mem_of_getElem? (i := 1509) (by decide +kernel)⟩
def lw_privs_3 : List (MethodName × Nat) := [(⟨"PaneHouseModel", "reset", "(I)V"⟩, 61), (⟨"PaneHouseModel", "blank", "(II)V"⟩, 61), (⟨"PaneHouseModel", "noPane", "(I)Z"⟩, 61), (⟨"PaneHouseModel", "maySplit", "(IZ)Z"⟩, 61), (⟨"PaneHouseModel", "splitNow", "(IZ)I"⟩, 61), (⟨"PaneHouseModel", "freeNode", "()I"⟩, 61), (⟨"PaneHouseModel", "lay", "(IIIII)V"⟩, 61), (⟨"PaneHouseModel", "resize", "(III)V"⟩, 61), (⟨"PaneHouseModel", "panes", "()I"⟩, 61), (⟨"PaneHouseModel", "closeNow", "(I)V"⟩, 61), (⟨"PaneHouseModel", "take", "(II)V"⟩, 61), (⟨"PaneHouseModel", "isPlain", "(II)Z"⟩, 61), (⟨"PaneHouseModel", "moveTo", "(III)V"⟩, 61), (⟨"PaneHouseModel", "down", "(I)V"⟩, 61), (⟨"PaneHouseModel", "scrollUp", "(IIIIZ)V"⟩, 61), (⟨"PaneHouseModel", "keepRow", "(I)V"⟩, 61)]
theorem lw_r3 : ∀ q ∈ lw_privs_3, lw_okq q := List.forall_mem_cons.mpr ⟨lw_p32, List.forall_mem_cons.mpr ⟨lw_p33, List.forall_mem_cons.mpr ⟨lw_p34, List.forall_mem_cons.mpr ⟨lw_p35, List.forall_mem_cons.mpr ⟨lw_p36, List.forall_mem_cons.mpr ⟨lw_p37, List.forall_mem_cons.mpr ⟨lw_p38, List.forall_mem_cons.mpr ⟨lw_p39, List.forall_mem_cons.mpr ⟨lw_p40, List.forall_mem_cons.mpr ⟨lw_p41, List.forall_mem_cons.mpr ⟨lw_p42, List.forall_mem_cons.mpr ⟨lw_p43, List.forall_mem_cons.mpr ⟨lw_p44, List.forall_mem_cons.mpr ⟨lw_p45, List.forall_mem_cons.mpr ⟨lw_p46, List.forall_mem_cons.mpr ⟨lw_p47, fun _ h => absurd h List.not_mem_nil⟩⟩⟩⟩⟩⟩⟩⟩⟩⟩⟩⟩⟩⟩⟩⟩
theorem lw_p48 : lw_okq (⟨"PaneHouseModel", "at", "(III)I"⟩, 61) := ⟨⟨by decide +kernel, by decide +kernel⟩, List.mem_of_getElem? (i := 1227) (by decide +kernel), List.mem_of_getElem? (i := 1515) (by decide +kernel), List.mem_of_getElem? (i := 1516) (by decide +kernel)⟩
theorem lw_p49 : lw_okq (⟨"PaneHouseModel", "shown", "(I)I"⟩, 61) := ⟨⟨by decide +kernel, by decide +kernel⟩, List.mem_of_getElem? (i := 1227) (by decide +kernel), List.mem_of_getElem? (i := 1519) (by decide +kernel), List.mem_of_getElem? (i := 1520) (by decide +kernel)⟩
theorem lw_p50 : lw_okq (⟨"PaneHouseModel", "moveRow", "(III)V"⟩, 61) := ⟨⟨by decide +kernel, by decide +kernel⟩, List.mem_of_getElem? (i := 1227) (by decide +kernel), List.mem_of_getElem? (i := 1523) (by decide +kernel), List.mem_of_getElem? (i := 1524) (by decide +kernel)⟩
theorem lw_p51 : lw_okq (⟨"PaneHouseModel", "blankRow", "(II)V"⟩, 61) := ⟨⟨by decide +kernel, by decide +kernel⟩, List.mem_of_getElem? (i := 1227) (by decide +kernel), List.mem_of_getElem? (i := 1527) (by decide +kernel), List.mem_of_getElem? (i := 1528) (by decide +kernel)⟩
theorem lw_p52 : lw_okq (⟨"PaneHouseModel", "write", "(II)V"⟩, 61) := ⟨⟨by decide +kernel, by decide +kernel⟩, List.mem_of_getElem? (i := 1227) (by decide +kernel), List.mem_of_getElem? (i := 1531) (by decide +kernel), List.mem_of_getElem? (i := 1532) (by decide +kernel)⟩
theorem lw_p53 : lw_okq (⟨"PaneHouseModel", "push", "(IIII)V"⟩, 61) := ⟨⟨by decide +kernel, by decide +kernel⟩, List.mem_of_getElem? (i := 1227) (by decide +kernel), List.mem_of_getElem? (i := 1535) (by decide +kernel), List.mem_of_getElem? (i := 1536) (by decide +kernel)⟩
theorem lw_p54 : lw_okq (⟨"PaneHouseModel", "shortSequence", "(II)V"⟩, 61) := ⟨⟨by decide +kernel, by decide +kernel⟩, List.mem_of_getElem? (i := 1227) (by decide +kernel), List.mem_of_getElem? (i := 1539) (by decide +kernel), List.mem_of_getElem? (i := 1540) (by decide +kernel)⟩
theorem lw_p55 : lw_okq (⟨"PaneHouseModel", "up", "(I)V"⟩, 61) := ⟨⟨by decide +kernel, by decide +kernel⟩, List.mem_of_getElem? (i := 1227) (by decide +kernel), List.mem_of_getElem? (i := 1543) (by decide +kernel), List.mem_of_getElem? (i := 1544) (by decide +kernel)⟩
theorem lw_p56 : lw_okq (⟨"PaneHouseModel", "scrollDown", "(IIII)V"⟩, 61) := ⟨⟨by decide +kernel, by decide +kernel⟩, List.mem_of_getElem? (i := 1227) (by decide +kernel), List.mem_of_getElem? (i := 1547) (by decide +kernel), List.mem_of_getElem? (i := 1548) (by decide +kernel)⟩
theorem lw_p57 : lw_okq (⟨"PaneHouseModel", "longSequence", "(II)V"⟩, 61) := ⟨⟨by decide +kernel, by decide +kernel⟩, List.mem_of_getElem? (i := 1227) (by decide +kernel), List.mem_of_getElem? (i := 1551) (by decide +kernel), List.mem_of_getElem? (i := 1552) (by decide +kernel)⟩
theorem lw_p58 : lw_okq (⟨"PaneHouseModel", "question", "(II)V"⟩, 61) := ⟨⟨by decide +kernel, by decide +kernel⟩, List.mem_of_getElem? (i := 1227) (by decide +kernel), List.mem_of_getElem? (i := 1555) (by decide +kernel), List.mem_of_getElem? (i := 1556) (by decide +kernel)⟩
theorem lw_p59 : lw_okq (⟨"PaneHouseModel", "act", "(II)V"⟩, 61) := ⟨⟨by decide +kernel, by decide +kernel⟩, List.mem_of_getElem? (i := 1227) (by decide +kernel), List.mem_of_getElem? (i := 1559) (by decide +kernel), List.mem_of_getElem? (i := 1560) (by decide +kernel)⟩
theorem lw_p60 : lw_okq (⟨"PaneHouseModel", "erase", "(IIIII)V"⟩, 61) := ⟨⟨by decide +kernel, by decide +kernel⟩, List.mem_of_getElem? (i := 1227) (by decide +kernel), List.mem_of_getElem? (i := 1566) (by decide +kernel), List.mem_of_getElem? (i := 1567) (by decide +kernel)⟩
theorem lw_p61 : lw_okq (⟨"PaneHouseModel", "lines", "(IZI)V"⟩, 61) := ⟨⟨by decide +kernel, by decide +kernel⟩, List.mem_of_getElem? (i := 1227) (by decide +kernel), List.mem_of_getElem? (i := 1570) (by decide +kernel), List.mem_of_getElem? (i := 1571) (by decide +kernel)⟩
theorem lw_p62 : lw_okq (⟨"PaneHouseModel", "region", "(III)V"⟩, 61) := ⟨⟨by decide +kernel, by decide +kernel⟩, List.mem_of_getElem? (i := 1227) (by decide +kernel), List.mem_of_getElem? (i := 1574) (by decide +kernel), List.mem_of_getElem? (i := 1575) (by decide +kernel)⟩
theorem lw_p63 : lw_okq (⟨"PaneHouseModel", "pens", "(I)V"⟩, 61) := ⟨⟨by decide +kernel, by decide +kernel⟩, List.mem_of_getElem? (i := 1227) (by decide +kernel), List.mem_of_getElem? (i := 1578) (by decide +kernel), List.mem_of_getElem? (i := 1579) (by decide +kernel)⟩
def lw_privs_4 : List (MethodName × Nat) := [(⟨"PaneHouseModel", "at", "(III)I"⟩, 61), (⟨"PaneHouseModel", "shown", "(I)I"⟩, 61), (⟨"PaneHouseModel", "moveRow", "(III)V"⟩, 61), (⟨"PaneHouseModel", "blankRow", "(II)V"⟩, 61), (⟨"PaneHouseModel", "write", "(II)V"⟩, 61), (⟨"PaneHouseModel", "push", "(IIII)V"⟩, 61), (⟨"PaneHouseModel", "shortSequence", "(II)V"⟩, 61), (⟨"PaneHouseModel", "up", "(I)V"⟩, 61), (⟨"PaneHouseModel", "scrollDown", "(IIII)V"⟩, 61), (⟨"PaneHouseModel", "longSequence", "(II)V"⟩, 61), (⟨"PaneHouseModel", "question", "(II)V"⟩, 61), (⟨"PaneHouseModel", "act", "(II)V"⟩, 61), (⟨"PaneHouseModel", "erase", "(IIIII)V"⟩, 61), (⟨"PaneHouseModel", "lines", "(IZI)V"⟩, 61), (⟨"PaneHouseModel", "region", "(III)V"⟩, 61), (⟨"PaneHouseModel", "pens", "(I)V"⟩, 61)]
theorem lw_r4 : ∀ q ∈ lw_privs_4, lw_okq q := List.forall_mem_cons.mpr ⟨lw_p48, List.forall_mem_cons.mpr ⟨lw_p49, List.forall_mem_cons.mpr ⟨lw_p50, List.forall_mem_cons.mpr ⟨lw_p51, List.forall_mem_cons.mpr ⟨lw_p52, List.forall_mem_cons.mpr ⟨lw_p53, List.forall_mem_cons.mpr ⟨lw_p54, List.forall_mem_cons.mpr ⟨lw_p55, List.forall_mem_cons.mpr ⟨lw_p56, List.forall_mem_cons.mpr ⟨lw_p57, List.forall_mem_cons.mpr ⟨lw_p58, List.forall_mem_cons.mpr ⟨lw_p59, List.forall_mem_cons.mpr ⟨lw_p60, List.forall_mem_cons.mpr ⟨lw_p61, List.forall_mem_cons.mpr ⟨lw_p62, List.forall_mem_cons.mpr ⟨lw_p63, fun _ h => absurd h List.not_mem_nil⟩⟩⟩⟩⟩⟩⟩⟩⟩⟩⟩⟩⟩⟩⟩⟩
theorem lw_p64 : lw_okq (⟨"PaneHouseModel", "command", "(I)V"⟩, 61) := ⟨⟨by decide +kernel, by decide +kernel⟩, List.mem_of_getElem? (i := 1227) (by decide +kernel), List.mem_of_getElem? (i := 1586) (by decide +kernel), List.mem_of_getElem? (i := 1587) (by decide +kernel)⟩
theorem lw_p65 : lw_okq (⟨"PaneHouseModel", "comesIn", "(II)V"⟩, 61) := ⟨⟨by decide +kernel, by decide +kernel⟩, List.mem_of_getElem? (i := 1227) (by decide +kernel), List.mem_of_getElem? (i := 1590) (by decide +kernel), List.mem_of_getElem? (i := 1591) (by decide +kernel)⟩
theorem lw_p66 : lw_okq (⟨"PaneHouseModel", "goUp", "(II)V"⟩, 61) := ⟨⟨by decide +kernel, by decide +kernel⟩, List.mem_of_getElem? (i := 1227) (by decide +kernel), List.mem_of_getElem? (i := 1594) (by decide +kernel), List.mem_of_getElem? (i := 1595) (by decide +kernel)⟩
theorem lw_p67 : lw_okq (⟨"PaneHouseModel", "offsetOf", "(I)I"⟩, 61) := ⟨⟨by decide +kernel, by decide +kernel⟩, List.mem_of_getElem? (i := 1227) (by decide +kernel), List.mem_of_getElem? (i := 1598) (by decide +kernel), List.mem_of_getElem? (i := 1599) (by decide +kernel)⟩
theorem lw_p68 : lw_okq (⟨"PaneHouseModel", "isIn", "(III)Z"⟩, 61) := ⟨⟨by decide +kernel, by decide +kernel⟩, List.mem_of_getElem? (i := 1227) (by decide +kernel), List.mem_of_getElem? (i := 1610) (by decide +kernel), List.mem_of_getElem? (i := 1611) (by decide +kernel)⟩
theorem lw_p69 : lw_okq (⟨"PaneHouseModel", "shows", "(IIIZ)I"⟩, 61) := ⟨⟨by decide +kernel, by decide +kernel⟩, List.mem_of_getElem? (i := 1227) (by decide +kernel), List.mem_of_getElem? (i := 1614) (by decide +kernel), List.mem_of_getElem? (i := 1615) (by decide +kernel)⟩
theorem lw_p70 : lw_okq (⟨"PaneHouseModel", "copyOne", "(I)V"⟩, 61) := ⟨⟨by decide +kernel, by decide +kernel⟩, List.mem_of_getElem? (i := 1227) (by decide +kernel), List.mem_of_getElem? (i := 1618) (by decide +kernel), List.mem_of_getElem? (i := 1619) (by decide +kernel)⟩
theorem lw_p71 : lw_okq (⟨"PaneHouseModel", "picture", "(IIZ)I"⟩, 61) := ⟨⟨by decide +kernel, by decide +kernel⟩, List.mem_of_getElem? (i := 1227) (by decide +kernel), List.mem_of_getElem? (i := 1626) (by decide +kernel), List.mem_of_getElem? (i := 1627) (by decide +kernel)⟩
theorem lw_p72 : lw_okq (⟨"PaneHouseModel", "goTo", "(II)V"⟩, 61) := ⟨⟨by decide +kernel, by decide +kernel⟩, List.mem_of_getElem? (i := 1227) (by decide +kernel), List.mem_of_getElem? (i := 1630) (by decide +kernel), List.mem_of_getElem? (i := 1631) (by decide +kernel)⟩
theorem lw_p73 : lw_okq (⟨"PaneHouseModel", "put", "(I)V"⟩, 61) := ⟨⟨by decide +kernel, by decide +kernel⟩, List.mem_of_getElem? (i := 1227) (by decide +kernel), List.mem_of_getElem? (i := 1634) (by decide +kernel), List.mem_of_getElem? (i := 1635) (by decide +kernel)⟩
theorem lw_p74 : lw_okq (⟨"PaneHouseModel", "number", "(I)V"⟩, 61) := ⟨⟨by decide +kernel, by decide +kernel⟩, List.mem_of_getElem? (i := 1227) (by decide +kernel), List.mem_of_getElem? (i := 1638) (by decide +kernel), List.mem_of_getElem? (i := 1639) (by decide +kernel)⟩
theorem lw_p75 : lw_okq (⟨"PaneHouseModel", "usePen", "(I)V"⟩, 61) := ⟨⟨by decide +kernel, by decide +kernel⟩, List.mem_of_getElem? (i := 1227) (by decide +kernel), List.mem_of_getElem? (i := 1642) (by decide +kernel), List.mem_of_getElem? (i := 1643) (by decide +kernel)⟩
theorem lw_p76 : lw_okq (⟨"PaneHouseModel", "isSeen", "()Z"⟩, 61) := ⟨⟨by decide +kernel, by decide +kernel⟩, List.mem_of_getElem? (i := 1227) (by decide +kernel), List.mem_of_getElem? (i := 1646) (by decide +kernel), List.mem_of_getElem? (i := 1647) (by decide +kernel)⟩
def lw_privs_5 : List (MethodName × Nat) := [(⟨"PaneHouseModel", "command", "(I)V"⟩, 61), (⟨"PaneHouseModel", "comesIn", "(II)V"⟩, 61), (⟨"PaneHouseModel", "goUp", "(II)V"⟩, 61), (⟨"PaneHouseModel", "offsetOf", "(I)I"⟩, 61), (⟨"PaneHouseModel", "isIn", "(III)Z"⟩, 61), (⟨"PaneHouseModel", "shows", "(IIIZ)I"⟩, 61), (⟨"PaneHouseModel", "copyOne", "(I)V"⟩, 61), (⟨"PaneHouseModel", "picture", "(IIZ)I"⟩, 61), (⟨"PaneHouseModel", "goTo", "(II)V"⟩, 61), (⟨"PaneHouseModel", "put", "(I)V"⟩, 61), (⟨"PaneHouseModel", "number", "(I)V"⟩, 61), (⟨"PaneHouseModel", "usePen", "(I)V"⟩, 61), (⟨"PaneHouseModel", "isSeen", "()Z"⟩, 61)]
theorem lw_r5 : ∀ q ∈ lw_privs_5, lw_okq q := List.forall_mem_cons.mpr ⟨lw_p64, List.forall_mem_cons.mpr ⟨lw_p65, List.forall_mem_cons.mpr ⟨lw_p66, List.forall_mem_cons.mpr ⟨lw_p67, List.forall_mem_cons.mpr ⟨lw_p68, List.forall_mem_cons.mpr ⟨lw_p69, List.forall_mem_cons.mpr ⟨lw_p70, List.forall_mem_cons.mpr ⟨lw_p71, List.forall_mem_cons.mpr ⟨lw_p72, List.forall_mem_cons.mpr ⟨lw_p73, List.forall_mem_cons.mpr ⟨lw_p74, List.forall_mem_cons.mpr ⟨lw_p75, List.forall_mem_cons.mpr ⟨lw_p76, fun _ h => absurd h List.not_mem_nil⟩⟩⟩⟩⟩⟩⟩⟩⟩⟩⟩⟩⟩
def lw_privs : List (MethodName × Nat) := lw_privs_1 ++ (lw_privs_2 ++ (lw_privs_3 ++ (lw_privs_4 ++ (lw_privs_5))))
def lw_tbl : List Cond := k2_sels lw_privs ++ tables_1
theorem lw_privs_ok : ∀ q ∈ lw_privs, lw_okq q := by
  show ∀ q ∈ lw_privs_1 ++ (lw_privs_2 ++ (lw_privs_3 ++ (lw_privs_4 ++ (lw_privs_5)))), lw_okq q
  exact List.forall_mem_append.mpr ⟨lw_r1, List.forall_mem_append.mpr ⟨lw_r2, List.forall_mem_append.mpr ⟨lw_r3, List.forall_mem_append.mpr ⟨lw_r4, lw_r5⟩⟩⟩⟩
end
section
/-! ===== BEGIN words of one list among another's, by their places ===== -/
theorem goodIn_r {big : List Cond} (ws : List Cond) (ps : List Nat) (hp : ws = ps.filterMap (fun i => big[i]?)) (h : ws.all goodWord = true) : GoodIn big ws := by
  intro w hw
  have h1 := List.all_eq_true.mp h w hw
  rw [hp] at hw
  obtain ⟨i, -, hi⟩ := List.mem_filterMap.mp hw
  have hm : w ∈ big := by first | exact List.mem_of_getElem? hi | exact List.getElem?_mem hi
  exact ⟨hm, good_of_word h1⟩
theorem goodIn_app {big a b : List Cond} (ha : GoodIn big a) (hb : GoodIn big b) : GoodIn big (a ++ b) := fun w h => (List.mem_append.mp h).elim (ha w) (hb w)
theorem goodIn_ca {big a b : List Cond} {c : Cond} (ha : GoodIn big (c :: a)) (hb : GoodIn big b) : GoodIn big (c :: (a ++ b)) := fun w h => (List.mem_cons.mp h).elim (fun e => ha w (List.mem_cons.mpr (Or.inl e))) (fun h => (List.mem_append.mp h).elim (fun h => ha w (List.mem_cons.mpr (Or.inr h))) (hb w))
theorem goodIn_sub {big ws : List Cond} (hm : ∀ w ∈ ws, w ∈ big) (h : ws.all goodWord = true) : GoodIn big ws := fun w hw => ⟨hm w hw, good_of_word (List.all_eq_true.mp h w hw)⟩
/-! ===== END ===== -/

/-! ===== BEGIN exceptions that leave a method, and their catching by the caller (launches without stack traces) ===== -/
section VXA
/-! The laws vx_back, vx_callV, vx_callS, vx_callSW, vx_throw0, vx_throwS follow proofs of the library, with one case more: JvmDerived/Free/Laws.lean (Back.of_free), Shelf42/LK1.lean (callV, callS), Shelf/KitTraced.lean (throwNew0V, throwNewS). -/
/-- where a method has thrown q: the class by its name, the cell, what was written, the world -/
def vx_T (XC : String → State → State → Prop) (st : State) (q : Addr) (t : State) (mc ms : Nat) (free : Addr → Prop) : Prop :=
  ∃ (E : String) (ce : Cell) (L : List Loc), XC E st t ∧ t.heap[q]? = some ce ∧ ce.vm = .none ∧ st.vm.findClass E = some ce.cls ∧ st.WarmedH t.vm ∧ st.sameButNew ({ t with vm := st.vm } : State) L mc ms ∧ ∀ z ∈ L, free z.base
def vx_Q (Qc : Array Value → State → Outcome → State → Prop) (XC : String → State → State → Prop) (mc ms : Nat) (free : Addr → Prop) : Array Value → State → Outcome → State → Prop := fun a st o t =>
  (Qc a st o t ∧ ∃ L, FrameEnd st o t L mc ms ∧ ∀ q ∈ L, free q.base) ∨ ∃ q, o = .threw q ∧ vx_T XC st q t mc ms free
/-- a callee that returns or throws -/
def vx_Met (l : Launch) (y : MethodName) (ws : List Cond) (rm : Room) (Pc : Array Value → State → Prop) (Qc : Array Value → State → Outcome → State → Prop) (XC : String → State → State → Prop) (mc ms : Nat) (free : Addr → Prop) : Prop :=
  MetFree l y (headSpec ws rm) Pc (fun _ _ _ _ _ => True) (vx_Q Qc XC mc ms free)
def vx_Post (XC : String → State → State → Prop) (mc ms : Nat) (free : Addr → Prop) : Pt → Array Value → Addr → Pt → Prop := fun A a q B =>
  ∃ (g : JFrame) (mk : MethodId) (t : State) (L : List Loc) (E : String) (ce : Cell), B.U.heap = t.heap ∧ B.U.vm = t.vm ∧ XC E (A.U.calling g mk a) t ∧ t.heap[q]? = some ce ∧ ce.vm = .none ∧ A.U.vm.findClass E = some ce.cls ∧ B.locs = A.locs ++ L ∧ (∀ z ∈ L, free z.base) ∧ B.cells = A.cells + mc ∧ B.slots = A.slots + ms
def vx_Back (l : Launch) (R : Room) (p : Program) (e : Env) (below : List Frame) (s : State) (sargs : Array Value) (y : MethodName) (len W9 : Nat)
    (Pre : Pt → Array Value → Prop) (Post : Pt → Array Value → Option Value → Pt → Prop) (PostX : Pt → Array Value → Addr → Pt → Prop) : Prop :=
  ∀ (m : MethodId) (meth : Method) (c : Code) (A : Pt) (g : JFrame) (ig : Instr) (mk : MethodId) (a : Array Value),
    Stand p l e R s m sargs below meth c A.U A.locs A.cells A.slots → g.method = m → g.locals.size = c.maxLocals → decode c.code g.pc = .ok (ig, len) →
    2 * g.monitorRoom + (g.stack.map fun v => v.category).sum ≤ W9 → A.U.methodNamed? y = some mk → Pre A a →
    (∃ (v : Option Value) (B : Pt), Stand p l e R s m sargs below meth c B.U B.locs B.cells B.slots ∧ Post A a v B ∧
      Steps p.tables e below (doInvoke e (A.U.setTop g) [] mk a).1 (B.U.setTop { g with pc := g.pc + len, stack := v.toList ++ g.stack })) ∨
    (∃ (q : Addr) (B : Pt), Stand p l e R s m sargs below meth c B.U B.locs B.cells B.slots ∧ PostX A a q B ∧
      Steps p.tables e below (doInvoke e (A.U.setTop g) [] mk a).1 ((B.U.setTop g).pushFrame (.throwing q)))
section Payer
variable {l : Launch} {R : Room} {p : Program} {e : Env} {below : List Frame} {s : State} {sargs : Array Value} {y : MethodName} {len W9 : Nat}
theorem vx_back {ws : List Cond} {rm : Room} {Pc : Array Value → State → Prop} {Qc : Array Value → State → Outcome → State → Prop} {XC : String → State → State → Prop} {mc ms : Nat} {free : Addr → Prop} {bytes : ByteArray} {maxL : Nat} {ret : Option FieldType}
    (hM : vx_Met l y ws rm Pc Qc XC mc ms free) (hblind : FrameBlind Pc) (hrc : rm.cells = mc) (hrs : rm.slots = ms)
    (hframes : rm.frames + 1 ≤ R.frames) (hlocals : W9 + (maxL + 11) + rm.locals ≤ R.locals)
    (hws : ∀ w ∈ ws, ∀ a' U, s.WarmedH U.vm → w.before a' U = true) (hcode : Cond.code y bytes maxL ret ∈ ws) (hinit : ∀ a' U, s.WarmedH U.vm → (Cond.initialized y.cls).before a' U = true) :
    vx_Back l R p e below s sargs y len W9 (PreOf R mc ms Pc) (PostOf Qc mc ms free) (vx_Post XC mc ms free) := by
  intro m meth c A g ig mk a X hg hsize hdg hW hn hp
  have h1 : (headSpec ws rm).pre.before a A.U = true := atoms_intro fun w hw => hws w hw _ _ X.warmed
  have h2 : (Cond.code y bytes maxL ret).before a A.U = true := hws _ hcode _ _ X.warmed
  have h3 : (Cond.initialized y.cls).before a A.U = true := hinit _ _ X.warmed
  have h4 : A.cells + (headSpec ws rm).room.cells ≤ R.cells := by rw [show (headSpec ws rm).room.cells = mc from hrc]; exact hp.1
  have h5 : A.slots + (headSpec ws rm).room.slots ≤ R.slots := by rw [show (headSpec ws rm).room.slots = ms from hrs]; exact hp.2.1
  have hPc : Pc a (A.U.calling g mk a) := hblind _ _ _ _ hp.2.2
  obtain ⟨U, Ls, c0, s0⟩ := A
  dsimp only [Pt.U, Pt.locs, Pt.cells, Pt.slots] at h1 h2 h3 h4 h5 X hn hPc ⊢
  obtain ⟨methY, cY, hmY, hcY, -, hlY, -, -, -, -⟩ := Cond.code_spec hn h2
  obtain ⟨kY, hkY, -⟩ := className_of_methodNamed hn
  have hinitY : kY.init = .initialized := Cond.initialized_spec (findClass_of_methodNamed hn) hkY h3
  have h : At U g.method c below := by rw [hg]; exact X.here
  have hlocals9 : W9 + (maxL + 11) + (headSpec ws rm).room.locals ≤ R.locals := hlocals
  have happ : (headSpec ws rm).appliesLoose y e.platform (U.calling g mk a) = true :=
    Spec.appliesLoose_calling (g := g) h hdg hn hkY hinitY
      (X.room_calling (g := g) (R' := (headSpec ws rm).room) hsize hmY hcY hframes (by rw [hlY]; omega) h4 h5) h1
  obtain ⟨mid, hmid⟩ := h.above
  have hfr : (U.setTop g).frames = (.java g :: mid) ++ below := by rw [State.frames_setTop' g h.top, hmid]; rfl
  obtain ⟨o, s₂, hsteps, -, hend, hq⟩ := Steps.callFree hM p X.admits X.cas X.clock (acts := []) hfr happ hPc trivial
  have hq' : vx_Q Qc XC mc ms free a (U.calling g mk a) o s₂ := hq
  rw [State.frames_setTop' g h.top] at hend
  obtain ⟨g₀, hg0⟩ := Option.isSome_iff_exists.mp h.top
  obtain ⟨r, hr⟩ := State.topJava?_eq_some.mp hg0
  have hr' : (({ U with heap := s₂.heap, slotsUsed := s₂.slotsUsed } : State).setVm s₂.vm).frames = .java g₀ :: r := hr
  rcases hq' with ⟨hqc, L, hfe, hL⟩ | ⟨q, rfl, E, ce, L, hx, hce, hcv, hcl, hW₂, hsm, hL⟩
  · obtain ⟨⟨v, rfl⟩, hW₂, e2, q2, q3, q4, q5, q6⟩ := id hfe
    have e3 : s₂ = ({ (U.calling g mk a).setFrames s₂.frames with heap := s₂.heap, slotsUsed := s₂.slotsUsed } : State).setVm s₂.vm := by
      have : s₂ = ({ s₂ with vm := (U.calling g mk a).vm } : State).setVm s₂.vm := rfl
      rw [e2] at this
      exact this
    obtain ⟨c₂, i₂, len₂, hc₂, hd₂, hf₂⟩ := hend
    have hW' : U.WarmedH s₂.vm := hW₂
    have hcc : c₂ = c := by
      have h1 : s₂.code? g.method = U.code? g.method := by
        rw [State.code?_eq, State.code?_eq, hW'.alike.method?]
      exact Option.some.inj (hc₂.symm.trans (h1.trans h.code))
    subst hcc
    have hlen : len₂ = len := by rw [hdg] at hd₂; cases hd₂; rfl
    subst hlen
    have hs₂ : s₂ = (({ U with heap := s₂.heap, slotsUsed := s₂.slotsUsed } : State).setVm s₂.vm).setTop { g with pc := g.pc + len₂, stack := v.toList ++ g.stack } := by
      refine e3.trans ?_
      rw [hf₂, State.calling_eq h.top, State.setFrames_setFrames, State.setTop_of_frames _ hr', hr]
      rfl
    have hsame : U.sameButNew ({ U with heap := s₂.heap, slotsUsed := s₂.slotsUsed } : State) L mc ms := by
      refine ⟨?_, q2, q3, q4, q5, q6⟩
      obtain ⟨t, ht, -⟩ := State.frames_cons hr
      show ({ U with heap := s₂.heap, slotsUsed := s₂.slotsUsed } : State) = { U.setFrames U.frames with heap := s₂.heap, slotsUsed := s₂.slotsUsed }
      rw [State.setFrames_self ht]
    subst hg
    refine Or.inl ⟨v, ⟨(({ U with heap := s₂.heap, slotsUsed := s₂.slotsUsed } : State).setVm s₂.vm), Ls ++ L, c0 + mc, s0 + ms⟩,
      ⟨X.admits, X.cas, X.clock, X.frames, X.room, X.hears, X.method, X.code, (X.here.setHeapUsed s₂.heap s₂.slotsUsed).setVm hW'.alike, X.tail, State.WarmedH.trans X.warmed hW', X.limits, X.bytes, X.same.trans (hsame.setVm s.vm)⟩,
      ⟨g, mk, s₂, L, rfl, rfl, hqc, rfl, hL, rfl, rfl⟩, ?_⟩
    show Steps p.tables e below _ ((({ U with heap := s₂.heap, slotsUsed := s₂.slotsUsed } : State).setVm s₂.vm).setTop { g with pc := g.pc + len₂, stack := v.toList ++ g.stack })
    rw [← hs₂]
    exact hsteps
  · obtain ⟨e2, q2, q3, q4, q5, q6⟩ := id hsm
    have e3 : s₂ = ({ (U.calling g mk a).setFrames s₂.frames with heap := s₂.heap, slotsUsed := s₂.slotsUsed } : State).setVm s₂.vm := by
      have : s₂ = ({ s₂ with vm := (U.calling g mk a).vm } : State).setVm s₂.vm := rfl
      rw [e2] at this
      exact this
    have hf₂ : s₂.frames = .throwing q :: .java g :: U.frames.tail := hend
    have hW' : U.WarmedH s₂.vm := hW₂
    have hs₂ : s₂ = ((({ U with heap := s₂.heap, slotsUsed := s₂.slotsUsed } : State).setVm s₂.vm).setTop g).pushFrame (.throwing q) := by
      refine e3.trans ?_
      rw [hf₂, State.calling_eq h.top, State.setFrames_setFrames, State.pushFrame, State.frames_setTop _ hr', State.setTop_of_frames _ hr', State.setFrames_setFrames, hr]
      rfl
    have hsame : U.sameButNew ({ U with heap := s₂.heap, slotsUsed := s₂.slotsUsed } : State) L mc ms := by
      refine ⟨?_, q2, q3, q4, q5, q6⟩
      obtain ⟨t, ht, -⟩ := State.frames_cons hr
      show ({ U with heap := s₂.heap, slotsUsed := s₂.slotsUsed } : State) = { U.setFrames U.frames with heap := s₂.heap, slotsUsed := s₂.slotsUsed }
      rw [State.setFrames_self ht]
    subst hg
    refine Or.inr ⟨q, ⟨(({ U with heap := s₂.heap, slotsUsed := s₂.slotsUsed } : State).setVm s₂.vm), Ls ++ L, c0 + mc, s0 + ms⟩,
      ⟨X.admits, X.cas, X.clock, X.frames, X.room, X.hears, X.method, X.code, (X.here.setHeapUsed s₂.heap s₂.slotsUsed).setVm hW'.alike, X.tail, State.WarmedH.trans X.warmed hW', X.limits, X.bytes, X.same.trans (hsame.setVm s.vm)⟩,
      ⟨g, mk, s₂, L, E, ce, rfl, rfl, hx, hce, hcv, hcl, rfl, hL, rfl, rfl⟩, ?_⟩
    show Steps p.tables e below _ (((({ U with heap := s₂.heap, slotsUsed := s₂.slotsUsed } : State).setVm s₂.vm).setTop g).pushFrame (.throwing q))
    rw [← hs₂]
    exact hsteps
end Payer
section Calls
variable {p : Program} {l : Launch} {e : Env} {R : Room} {s : State} {m : MethodId} {args : Array Value} {below : List Frame} {meth : Method} {c : Code} {T : State} {locs : List Loc} {cells slots : Nat}
theorem vx_callV (X : Stand p l e R s m args below meth c T locs cells slots) (hexec : p.tables.exec = Jvm.exec) {own C : String} {index : Nat} {y : MethodName} {bytes : ByteArray} {maxL : Nat} {ret : Option FieldType}
    (hown : s.vm.findClass own = some m.cls) (hlink : (Cond.methodLink own index y).before args s = true) (hinst : (Cond.instanceMethod y).before args s = true) (hsel : (Cond.selects C y y).before args s = true)
    (hcode : (Cond.code y bytes maxL ret).before args s = true) (hy : y.cls ≠ "java/lang/invoke/MethodHandle" ∧ y.cls ≠ "java/lang/invoke/VarHandle")
    {W9 : Nat} {Pre : Pt → Array Value → Prop} {Post : Pt → Array Value → Option Value → Pt → Prop} {PostX : Pt → Array Value → Addr → Pt → Prop} (hK : vx_Back l R p e below s args y 3 W9 Pre Post PostX)
    {b : Addr} {cellB : Cell} (hcell : T.heap[b]? = some cellB) (hobj : cellB.vm.isStatics = false) (hcls : s.vm.findClass C = some cellB.cls)
    {g : JFrame} (hg : g.method = m) (hsize : g.locals.size = c.maxLocals) {argsL rest : List Value} (hlen : ∀ sig, parseMethodDescriptor y.desc = some sig → argsL.length = sig.parameters.length)
    (hstack : g.stack = argsL.reverse ++ .ref b :: rest) (hW : 2 * g.monitorRoom + (rest.map fun v => v.category).sum ≤ W9) (hdg : decode c.code g.pc = .ok (.invokevirtual index, 3))
    (hpre : ∀ vm₁, s.WarmedH vm₁ → Pre ⟨T.setVm vm₁, locs, cells, slots⟩ (Value.ref b :: argsL).toArray) :
    (∃ (v : Option Value) (vm₁ : Vm) (B : Pt), s.WarmedH vm₁ ∧ Stand p l e R s m args below meth c B.U B.locs B.cells B.slots ∧ Post ⟨T.setVm vm₁, locs, cells, slots⟩ (Value.ref b :: argsL).toArray v B ∧
      ∀ target, Steps p.tables e below (B.U.setTop { g with pc := g.pc + 3, stack := v.toList ++ rest }) target → Steps p.tables e below (T.setTop g) target) ∨
    (∃ (q : Addr) (vm₁ : Vm) (B : Pt), s.WarmedH vm₁ ∧ Stand p l e R s m args below meth c B.U B.locs B.cells B.slots ∧ PostX ⟨T.setVm vm₁, locs, cells, slots⟩ (Value.ref b :: argsL).toArray q B ∧
      Steps p.tables e below (T.setTop g) ((B.U.setTop { g with stack := rest }).pushFrame (.throwing q))) := by
  obtain ⟨mk, methM, hnamed, hmethM, hstM, habM⟩ := Cond.instanceMethod_spec hinst
  obtain ⟨methM', cM, hmethM', -, -, -, -, -, -, hsigM⟩ := Cond.code_spec hnamed hcode
  cases hmethM.symm.trans hmethM'
  obtain ⟨c2, r2, m2, q1, q2, q3, q4, kP, hkP, hkPi⟩ := Cond.selects_spec hsel
  cases hcls.symm.trans q1
  cases (State.methodFound?_of_named hnamed hy).symm.trans q2
  cases hnamed.symm.trans q3
  have hselP : selectMethod e.platform s.vm cellB.cls mk = .method mk := by rw [Launch.admits_selectMethod X.admits]; exact q4
  obtain ⟨vm₁, X₁, hstep₁⟩ := X.invokevirtual hexec hown hlink hnamed hmethM hstM hkP hkPi hy (a := b) (cell := cellB) hcell
    (fun z h => by rw [h] at hobj; cases hobj) hselP hmethM habM hkP hkPi (g := g) hg (argsL := argsL) (rest := rest) (hlen _ hsigM) hstack hdg
  rcases hK m meth c ⟨T.setVm vm₁, locs, cells, slots⟩ { g with stack := rest } (.invokevirtual index) mk (Value.ref b :: argsL).toArray X₁ hg hsize hdg hW (X₁.named hnamed) (hpre vm₁ X₁.warmed) with ⟨v, B, X', hpost, hsteps⟩ | ⟨q, B, X', hpost, hsteps⟩
  · exact Or.inl ⟨v, vm₁, B, X₁.warmed, X', hpost, fun target h => hstep₁ _ fun acts => by rw [doInvoke_state]; exact hsteps.trans h⟩
  · exact Or.inr ⟨q, vm₁, B, X₁.warmed, X', hpost, hstep₁ _ fun acts => by rw [doInvoke_state]; exact hsteps⟩
theorem vx_callS (X : Stand p l e R s m args below meth c T locs cells slots) (hexec : p.tables.exec = Jvm.exec) {own : String} {index : Nat} {y : MethodName} {bytes : ByteArray} {maxL : Nat} {ret : Option FieldType}
    (hown : s.vm.findClass own = some m.cls) (hlink : (Cond.methodLink own index y).before args s = true) (hstat : (Cond.static y).before args s = true) (hinit : (Cond.initialized y.cls).before args s = true)
    (hcode : (Cond.code y bytes maxL ret).before args s = true) (hy : y.cls ≠ "java/lang/invoke/MethodHandle" ∧ y.cls ≠ "java/lang/invoke/VarHandle")
    {W9 : Nat} {Pre : Pt → Array Value → Prop} {Post : Pt → Array Value → Option Value → Pt → Prop} {PostX : Pt → Array Value → Addr → Pt → Prop} (hK : vx_Back l R p e below s args y 3 W9 Pre Post PostX)
    {g : JFrame} (hg : g.method = m) (hsize : g.locals.size = c.maxLocals) {argsL rest : List Value} (hlen : ∀ sig, parseMethodDescriptor y.desc = some sig → argsL.length = sig.parameters.length)
    (hstack : g.stack = argsL.reverse ++ rest) (hW : 2 * g.monitorRoom + (rest.map fun v => v.category).sum ≤ W9) (hdg : decode c.code g.pc = .ok (.invokestatic index, 3))
    (hpre : ∀ vm₁, s.WarmedH vm₁ → Pre ⟨T.setVm vm₁, locs, cells, slots⟩ argsL.toArray) :
    (∃ (v : Option Value) (vm₁ : Vm) (B : Pt), s.WarmedH vm₁ ∧ Stand p l e R s m args below meth c B.U B.locs B.cells B.slots ∧ Post ⟨T.setVm vm₁, locs, cells, slots⟩ argsL.toArray v B ∧
      ∀ target, Steps p.tables e below (B.U.setTop { g with pc := g.pc + 3, stack := v.toList ++ rest }) target → Steps p.tables e below (T.setTop g) target) ∨
    (∃ (q : Addr) (vm₁ : Vm) (B : Pt), s.WarmedH vm₁ ∧ Stand p l e R s m args below meth c B.U B.locs B.cells B.slots ∧ PostX ⟨T.setVm vm₁, locs, cells, slots⟩ argsL.toArray q B ∧
      Steps p.tables e below (T.setTop g) ((B.U.setTop { g with stack := rest }).pushFrame (.throwing q))) := by
  obtain ⟨mk, hnamed⟩ := Cond.code_named hcode
  obtain ⟨methM, cM, hmethM, -, -, -, -, -, -, hsigM⟩ := Cond.code_spec hnamed hcode
  have hstatic : methM.isStatic = true := Cond.static_spec hnamed hmethM hstat
  obtain ⟨kP, hkP, -⟩ := className_of_methodNamed hnamed
  have hinitP : kP.init = .initialized := Cond.initialized_spec (findClass_of_methodNamed hnamed) hkP hinit
  obtain ⟨vm₁, X₁, hstep₁⟩ := X.invokestatic hexec hown hlink hnamed hmethM hstatic hkP hinitP hy (g := g) hg (argsL := argsL) (rest := rest) (hlen _ hsigM) hstack hdg
  rcases hK m meth c ⟨T.setVm vm₁, locs, cells, slots⟩ { g with stack := rest } (.invokestatic index) mk argsL.toArray X₁ hg hsize hdg hW (X₁.named hnamed) (hpre vm₁ X₁.warmed) with ⟨v, B, X', hpost, hsteps⟩ | ⟨q, B, X', hpost, hsteps⟩
  · exact Or.inl ⟨v, vm₁, B, X₁.warmed, X', hpost, fun target h => hstep₁ _ fun acts => by rw [doInvoke_state]; exact hsteps.trans h⟩
  · exact Or.inr ⟨q, vm₁, B, X₁.warmed, X', hpost, hstep₁ _ fun acts => by rw [doInvoke_state]; exact hsteps⟩
end Calls
theorem vx_cls {s : State} {T : State} {vm₁ : Vm} {E : String} {k : ClassId} (hW : s.WarmedH vm₁) (h : (T.setVm vm₁).vm.findClass E = some k) : s.vm.findClass E = some k := by
  have h1 : vm₁.findClass E = some k := h
  rw [hW.alike.findClass] at h1
  exact h1
/-- the method's frame g, with q thrown over it -/
def vx_W (p : Program) (l : Launch) (e : Env) (R : Room) (s : State) (m : MethodId) (args : Array Value) (below : List Frame) (meth : Method) (c : Code) (H : Heap) (locs : List Loc) (cells slots : Nat) (Q : State → Prop) (g : JFrame) (q : Addr) : Prop :=
  ∀ T : State, T.heap = H → Stand p l e R s m args below meth c T locs cells slots → ∃ t, Steps p.tables e below ((T.setTop g).pushFrame (.throwing q)) t ∧ Q t
def vx_Run (p : Program) (l : Launch) (e : Env) (R : Room) (s : State) (m : MethodId) (args : Array Value) (below : List Frame) (meth : Method) (c : Code) (H : Heap) (locs : List Loc) (cells slots mc ms : Nat) (g : JFrame) (rest : List Value) (Qa : State → Outcome → State → Prop) (XC : String → State → State → Prop) (free : Addr → Prop) : Prop :=
  ∀ T : State, T.heap = H → Stand p l e R s m args below meth c T locs cells slots →
    (∃ (v : Option Value) (st₀ t T' : State) (L : List Loc), st₀.heap = H ∧ Stand p l e R s m args below meth c T' (locs ++ L) (cells + mc) (slots + ms) ∧ (∀ q ∈ L, free q.base) ∧ T'.heap = t.heap ∧ T'.vm = t.vm ∧ Qa st₀ (.returned v) t ∧
      Goes p e below T g T' { g with pc := g.pc + 3, stack := v.toList ++ rest }) ∨
    (∃ (q : Addr) (st₀ t T' : State) (L : List Loc) (E : String) (ce : Cell), st₀.heap = H ∧ Stand p l e R s m args below meth c T' (locs ++ L) (cells + mc) (slots + ms) ∧ (∀ z ∈ L, free z.base) ∧ T'.heap = t.heap ∧ T'.vm = t.vm ∧ XC E st₀ t ∧ t.heap[q]? = some ce ∧ ce.vm = .none ∧ s.vm.findClass E = some ce.cls ∧
      Steps p.tables e below (T.setTop g) ((T'.setTop { g with stack := rest }).pushFrame (.throwing q)))
def vx_X {S : Type} (px : S → Prop) (B : String → S → State → Prop) (A : Nat → Prop) : String → State → State → Prop := fun E st t => ∃ u : S, px u ∧ B E u t ∧ va_F A st t
section Runs
variable {p : Program} {l : Launch} {e : Env} {R : Room} {s : State} {m : MethodId} {args : Array Value} {below : List Frame} {meth : Method} {c : Code} {H : Heap} {locs : List Loc} {cells slots : Nat}
variable {y : MethodName} {bytes cc : ByteArray} {maxL nL mc ms n index : Nat} {ret : Option FieldType} {ws : List Cond} {rm : Room} {Pc : Array Value → State → Prop} {Qc : Array Value → State → Outcome → State → Prop} {XC : String → State → State → Prop} {free : Addr → Prop} {Ts : List Cond} {own C : String} {b : Addr} {As rest : List Value} {g : JFrame}
theorem vx_callBack (cb : CallB R s args own index y bytes maxL ret ws rm mc ms n) (hM : vx_Met l y ws rm Pc Qc XC mc ms free) (hbl : FrameBlind Pc) : vx_Back l R p e below s args y 3 8 (PreOf R mc ms Pc) (PostOf Qc mc ms free) (vx_Post XC mc ms free) := by
  obtain ⟨hrc, hrs, hfr, hlo, hws, hcw, -, hini, -⟩ := cb
  exact vx_back (bytes := bytes) (maxL := maxL) (ret := ret) hM hbl hrc hrs hfr hlo hws hcw (fun a' U hW => word_at hW (Or.inl (by first | rfl | simp [Cond.onTables, Cond.keeps, Cond.steady])) hini)
theorem vx_runV (S : CallFix p m c cc nL s args Ts own) (hM : vx_Met l y ws rm Pc Qc XC mc ms free) (cw : CallW R s args own C index y bytes maxL ret ws rm mc ms n) (hp : PreV s H C b Pc As)
    (hg : g.method = m) (hn : As.length = n) (hsize : g.locals.size = nL) (hstack : g.stack = As.reverse ++ .ref b :: rest) (hW : 2 * g.monitorRoom + (rest.map fun v => v.category).sum ≤ 8) (hdg : decode cc g.pc = .ok (.invokevirtual index, 3)) (hf : cells + mc ≤ R.cells ∧ slots + ms ≤ R.slots) :
    vx_Run p l e R s m args below meth c H locs cells slots mc ms g rest (Qc (Value.ref b :: As).toArray) XC free := by
  have hK : vx_Back l R p e below s args y 3 8 (PreOf R mc ms Pc) (PostOf Qc mc ms free) (vx_Post XC mc ms free) := vx_callBack cw.1 hM hp.1
  obtain ⟨⟨-, -, -, -, -, -, hcode, -, hy, hlen, hl⟩, hin, hse⟩ := cw
  obtain ⟨hx, hb, hml, ho, -⟩ := S
  obtain ⟨-, ⟨cellB, hcB, hoB, hclB⟩, hPc⟩ := hp
  intro T hT X
  rcases vx_callV X hx (C := C) (bytes := bytes) (maxL := maxL) (ret := ret) ho hl hin hse hcode hy hK (by rw [hT]; exact hcB) hoB hclB hg (hsize.trans hml.symm) (argsL := As) (rest := rest) (fun sig h => hn.trans (hlen sig h)) hstack hW (by rw [hb]; exact hdg)
    (fun vm₁ hW₁ => ⟨hf.1, hf.2, hPc (T.setVm vm₁) hT hW₁⟩) with ⟨v, vm₁, ⟨U', l2, c2, s2⟩, hW₁, X', ⟨g', mk, t, L, e1, e2, hq, h1, hL, h2, h3⟩, st⟩ | ⟨q, vm₁, ⟨U', l2, c2, s2⟩, hW₁, X', ⟨g', mk, t, L, E, ce, e1, e2, hq, hce, hcv, hcl, h1, hL, h2, h3⟩, st⟩
  · dsimp only [Pt.U, Pt.locs, Pt.cells, Pt.slots] at X' e1 e2 h1 h2 h3 st
    subst h1; subst h2; subst h3
    exact Or.inl ⟨v, (T.setVm vm₁).calling g' mk (Value.ref b :: As).toArray, t, U', L, hT, X', hL, e1, e2, hq, st⟩
  · dsimp only [Pt.U, Pt.locs, Pt.cells, Pt.slots] at X' e1 e2 h1 h2 h3 st hcl
    subst h1; subst h2; subst h3
    exact Or.inr ⟨q, (T.setVm vm₁).calling g' mk (Value.ref b :: As).toArray, t, U', L, E, ce, hT, X', hL, e1, e2, hq, hce, hcv, vx_cls hW₁ hcl, st⟩
theorem vx_runS (S : CallFix p m c cc nL s args Ts own) (hM : vx_Met l y ws rm Pc Qc XC mc ms free) (cw : CallB R s args own index y bytes maxL ret ws rm mc ms n ∧ (Cond.static y).before args s = true) (hp : PreS s H Pc As)
    (hg : g.method = m) (hn : As.length = n) (hsize : g.locals.size = nL) (hstack : g.stack = As.reverse ++ rest) (hW : 2 * g.monitorRoom + (rest.map fun v => v.category).sum ≤ 8) (hdg : decode cc g.pc = .ok (.invokestatic index, 3)) (hf : cells + mc ≤ R.cells ∧ slots + ms ≤ R.slots) :
    vx_Run p l e R s m args below meth c H locs cells slots mc ms g rest (Qc As.toArray) XC free := by
  have hK : vx_Back l R p e below s args y 3 8 (PreOf R mc ms Pc) (PostOf Qc mc ms free) (vx_Post XC mc ms free) := vx_callBack cw.1 hM hp.1
  obtain ⟨⟨-, -, -, -, -, -, hcode, hini, hy, hlen, hl⟩, hstt⟩ := cw
  obtain ⟨hx, hb, hml, ho, -⟩ := S
  intro T hT X
  rcases vx_callS X hx (bytes := bytes) (maxL := maxL) (ret := ret) ho hl hstt hini hcode hy hK hg (hsize.trans hml.symm) (argsL := As) (rest := rest) (fun sig h => hn.trans (hlen sig h)) hstack hW (by rw [hb]; exact hdg)
    (fun vm₁ hW₁ => ⟨hf.1, hf.2, hp.2 (T.setVm vm₁) hT hW₁⟩) with ⟨v, vm₁, ⟨U', l2, c2, s2⟩, hW₁, X', ⟨g', mk, t, L, e1, e2, hq, h1, hL, h2, h3⟩, st⟩ | ⟨q, vm₁, ⟨U', l2, c2, s2⟩, hW₁, X', ⟨g', mk, t, L, E, ce, e1, e2, hq, hce, hcv, hcl, h1, hL, h2, h3⟩, st⟩
  · dsimp only [Pt.U, Pt.locs, Pt.cells, Pt.slots] at X' e1 e2 h1 h2 h3 st
    subst h1; subst h2; subst h3
    exact Or.inl ⟨v, (T.setVm vm₁).calling g' mk As.toArray, t, U', L, hT, X', hL, e1, e2, hq, st⟩
  · dsimp only [Pt.U, Pt.locs, Pt.cells, Pt.slots] at X' e1 e2 h1 h2 h3 st hcl
    subst h1; subst h2; subst h3
    exact Or.inr ⟨q, (T.setVm vm₁).calling g' mk As.toArray, t, U', L, E, ce, hT, X', hL, e1, e2, hq, hce, hcv, vx_cls hW₁ hcl, st⟩
end Runs
section Rows
variable {p : Program} {l : Launch} {e : Env} {R : Room} {s : State} {m : MethodId} {args : Array Value} {below : List Frame} {meth : Method} {c : Code} {H : Heap} {locs : List Loc} {cells slots : Nat} {Q : State → Prop}
variable {mc ms : Nat} {free : Addr → Prop} {A0 A1 : Nat → Prop} {H0 : Heap} {a : Array Value} {pc : Nat} {ls : Array Slot} {st0 rest : List Value}
theorem vx_keep {st₀ t T' : State} {L : List Loc} (h0 : st₀.heap = H) (e1 : T'.heap = t.heap) (hS : va_S A0 H0 H locs) (hA : ∀ q, q < H.size → A1 q → A0 q) (hf : ∀ q, free q → A0 q) (hL : ∀ q ∈ L, free q.base) (hF : va_F A1 st₀ t) :
    H.size ≤ T'.heap.size ∧ (∀ q : Nat, q < H.size → ¬ A1 q → T'.heap[q]? = H[q]?) ∧ va_S A0 H0 T'.heap (locs ++ L) := by
  obtain ⟨hz, hk⟩ := hF
  rw [h0] at hz hk
  exact ⟨by rw [e1]; exact hz, fun q h1 h2 => by rw [e1]; exact hk q h1 h2,
    ⟨Nat.le_trans hS.1 (by rw [e1]; exact hz), fun q h1 h2 => by rw [e1, hk q (Nat.lt_of_lt_of_le h1 hS.1) (fun z => h2 (hA q (Nat.lt_of_lt_of_le h1 hS.1) z))]; exact hS.2.1 q h1 h2, fun q hq => by
      rcases List.mem_append.mp hq with h | h
      · exact hS.2.2 q h
      · exact hf _ (hL q h)⟩⟩
theorem vx_calli {S SX : Type} {post : Int32 → S → Prop} {px : SX → Prop} {B : S → State → Prop} {BX : String → SX → State → Prop} {AX : Nat → Prop} (hr : vx_Run p l e R s m args below meth c H locs cells slots mc ms (F0 m pc ls st0) rest (va_Qi post B A1 a) (vx_X px BX AX) free) (hS : va_S A0 H0 H locs) (hA : ∀ q, q < H.size → A1 q → A0 q) (hf : ∀ q, free q → A0 q) (hAX : ∀ q, q < H.size → AX q → A0 q)
    (kx : ∀ (E : String) (ce : Cell) (q9 : Addr) (u : SX) (t : State) (H1 : Heap) (locs1 : List Loc), t.heap = H1 → s.vm.Alike t.vm → px u → BX E u t → H.size ≤ H1.size → (∀ q : Nat, q < H.size → ¬ AX q → H1[q]? = H[q]?) → va_S A0 H0 H1 locs1 → H1[q9]? = some ce → ce.vm = .none → s.vm.findClass E = some ce.cls → vx_W p l e R s m args below meth c H1 locs1 (cells + mc) (slots + ms) Q (F0 m pc ls rest) q9)
    (kk : ∀ (r : Int32) (u : S) (t : State) (H1 : Heap) (locs1 : List Loc), t.heap = H1 → s.vm.Alike t.vm → post r u → B u t → H.size ≤ H1.size → (∀ q : Nat, q < H.size → ¬ A1 q → H1[q]? = H[q]?) → va_S A0 H0 H1 locs1 → W p l e R s m args below meth c H1 locs1 (cells + mc) (slots + ms) Q (F0 m (pc + 3) ls (.int r :: rest))) : W p l e R s m args below meth c H locs cells slots Q (F0 m pc ls st0) := by
  intro T hT X
  rcases hr T hT X with ⟨v, st₀, t, T', L, h0, X', hL, e1, e2, ⟨⟨r, u, hv, hp, hb⟩, hF⟩, st⟩ | ⟨q, st₀, t, T', L, E, ce, h0, X', hL, e1, e2, ⟨u, hp, hb, hF⟩, hce, hcv, hcl, st⟩
  · cases hv
    obtain ⟨k1, k2, k3⟩ := vx_keep h0 e1 hS hA hf hL hF
    obtain ⟨t2, a1, b1⟩ := kk r u t T'.heap (locs ++ L) e1.symm (by rw [← e2]; exact X'.warmed.alike) hp hb k1 k2 k3 T' rfl X'
    exact ⟨t2, st t2 a1, b1⟩
  · obtain ⟨k1, k2, k3⟩ := vx_keep h0 e1 hS hAX hf hL hF
    obtain ⟨t2, a1, b1⟩ := kx E ce q u t T'.heap (locs ++ L) e1.symm (by rw [← e2]; exact X'.warmed.alike) hp hb k1 k2 k3 (by rw [e1]; exact hce) hcv hcl T' rfl X'
    exact ⟨t2, st.trans a1, b1⟩
theorem vx_calll {S SX : Type} {post : Int64 → S → Prop} {px : SX → Prop} {B : S → State → Prop} {BX : String → SX → State → Prop} {AX : Nat → Prop} (hr : vx_Run p l e R s m args below meth c H locs cells slots mc ms (F0 m pc ls st0) rest (va_Ql post B A1 a) (vx_X px BX AX) free) (hS : va_S A0 H0 H locs) (hA : ∀ q, q < H.size → A1 q → A0 q) (hf : ∀ q, free q → A0 q) (hAX : ∀ q, q < H.size → AX q → A0 q)
    (kx : ∀ (E : String) (ce : Cell) (q9 : Addr) (u : SX) (t : State) (H1 : Heap) (locs1 : List Loc), t.heap = H1 → s.vm.Alike t.vm → px u → BX E u t → H.size ≤ H1.size → (∀ q : Nat, q < H.size → ¬ AX q → H1[q]? = H[q]?) → va_S A0 H0 H1 locs1 → H1[q9]? = some ce → ce.vm = .none → s.vm.findClass E = some ce.cls → vx_W p l e R s m args below meth c H1 locs1 (cells + mc) (slots + ms) Q (F0 m pc ls rest) q9)
    (kk : ∀ (r : Int64) (u : S) (t : State) (H1 : Heap) (locs1 : List Loc), t.heap = H1 → s.vm.Alike t.vm → post r u → B u t → H.size ≤ H1.size → (∀ q : Nat, q < H.size → ¬ A1 q → H1[q]? = H[q]?) → va_S A0 H0 H1 locs1 → W p l e R s m args below meth c H1 locs1 (cells + mc) (slots + ms) Q (F0 m (pc + 3) ls (.long r :: rest))) : W p l e R s m args below meth c H locs cells slots Q (F0 m pc ls st0) := by
  intro T hT X
  rcases hr T hT X with ⟨v, st₀, t, T', L, h0, X', hL, e1, e2, ⟨⟨r, u, hv, hp, hb⟩, hF⟩, st⟩ | ⟨q, st₀, t, T', L, E, ce, h0, X', hL, e1, e2, ⟨u, hp, hb, hF⟩, hce, hcv, hcl, st⟩
  · cases hv
    obtain ⟨k1, k2, k3⟩ := vx_keep h0 e1 hS hA hf hL hF
    obtain ⟨t2, a1, b1⟩ := kk r u t T'.heap (locs ++ L) e1.symm (by rw [← e2]; exact X'.warmed.alike) hp hb k1 k2 k3 T' rfl X'
    exact ⟨t2, st t2 a1, b1⟩
  · obtain ⟨k1, k2, k3⟩ := vx_keep h0 e1 hS hAX hf hL hF
    obtain ⟨t2, a1, b1⟩ := kx E ce q u t T'.heap (locs ++ L) e1.symm (by rw [← e2]; exact X'.warmed.alike) hp hb k1 k2 k3 (by rw [e1]; exact hce) hcv hcl T' rfl X'
    exact ⟨t2, st.trans a1, b1⟩
theorem vx_callf {S SX : Type} {post : UInt32 → S → Prop} {px : SX → Prop} {B : S → State → Prop} {BX : String → SX → State → Prop} {AX : Nat → Prop} (hr : vx_Run p l e R s m args below meth c H locs cells slots mc ms (F0 m pc ls st0) rest (va_Qf post B A1 a) (vx_X px BX AX) free) (hS : va_S A0 H0 H locs) (hA : ∀ q, q < H.size → A1 q → A0 q) (hf : ∀ q, free q → A0 q) (hAX : ∀ q, q < H.size → AX q → A0 q)
    (kx : ∀ (E : String) (ce : Cell) (q9 : Addr) (u : SX) (t : State) (H1 : Heap) (locs1 : List Loc), t.heap = H1 → s.vm.Alike t.vm → px u → BX E u t → H.size ≤ H1.size → (∀ q : Nat, q < H.size → ¬ AX q → H1[q]? = H[q]?) → va_S A0 H0 H1 locs1 → H1[q9]? = some ce → ce.vm = .none → s.vm.findClass E = some ce.cls → vx_W p l e R s m args below meth c H1 locs1 (cells + mc) (slots + ms) Q (F0 m pc ls rest) q9)
    (kk : ∀ (r : UInt32) (u : S) (t : State) (H1 : Heap) (locs1 : List Loc), t.heap = H1 → s.vm.Alike t.vm → post r u → B u t → H.size ≤ H1.size → (∀ q : Nat, q < H.size → ¬ A1 q → H1[q]? = H[q]?) → va_S A0 H0 H1 locs1 → W p l e R s m args below meth c H1 locs1 (cells + mc) (slots + ms) Q (F0 m (pc + 3) ls (.float r :: rest))) : W p l e R s m args below meth c H locs cells slots Q (F0 m pc ls st0) := by
  intro T hT X
  rcases hr T hT X with ⟨v, st₀, t, T', L, h0, X', hL, e1, e2, ⟨⟨r, u, hv, hp, hb⟩, hF⟩, st⟩ | ⟨q, st₀, t, T', L, E, ce, h0, X', hL, e1, e2, ⟨u, hp, hb, hF⟩, hce, hcv, hcl, st⟩
  · cases hv
    obtain ⟨k1, k2, k3⟩ := vx_keep h0 e1 hS hA hf hL hF
    obtain ⟨t2, a1, b1⟩ := kk r u t T'.heap (locs ++ L) e1.symm (by rw [← e2]; exact X'.warmed.alike) hp hb k1 k2 k3 T' rfl X'
    exact ⟨t2, st t2 a1, b1⟩
  · obtain ⟨k1, k2, k3⟩ := vx_keep h0 e1 hS hAX hf hL hF
    obtain ⟨t2, a1, b1⟩ := kx E ce q u t T'.heap (locs ++ L) e1.symm (by rw [← e2]; exact X'.warmed.alike) hp hb k1 k2 k3 (by rw [e1]; exact hce) hcv hcl T' rfl X'
    exact ⟨t2, st.trans a1, b1⟩
theorem vx_calld {S SX : Type} {post : UInt64 → S → Prop} {px : SX → Prop} {B : S → State → Prop} {BX : String → SX → State → Prop} {AX : Nat → Prop} (hr : vx_Run p l e R s m args below meth c H locs cells slots mc ms (F0 m pc ls st0) rest (va_Qd post B A1 a) (vx_X px BX AX) free) (hS : va_S A0 H0 H locs) (hA : ∀ q, q < H.size → A1 q → A0 q) (hf : ∀ q, free q → A0 q) (hAX : ∀ q, q < H.size → AX q → A0 q)
    (kx : ∀ (E : String) (ce : Cell) (q9 : Addr) (u : SX) (t : State) (H1 : Heap) (locs1 : List Loc), t.heap = H1 → s.vm.Alike t.vm → px u → BX E u t → H.size ≤ H1.size → (∀ q : Nat, q < H.size → ¬ AX q → H1[q]? = H[q]?) → va_S A0 H0 H1 locs1 → H1[q9]? = some ce → ce.vm = .none → s.vm.findClass E = some ce.cls → vx_W p l e R s m args below meth c H1 locs1 (cells + mc) (slots + ms) Q (F0 m pc ls rest) q9)
    (kk : ∀ (r : UInt64) (u : S) (t : State) (H1 : Heap) (locs1 : List Loc), t.heap = H1 → s.vm.Alike t.vm → post r u → B u t → H.size ≤ H1.size → (∀ q : Nat, q < H.size → ¬ A1 q → H1[q]? = H[q]?) → va_S A0 H0 H1 locs1 → W p l e R s m args below meth c H1 locs1 (cells + mc) (slots + ms) Q (F0 m (pc + 3) ls (.double r :: rest))) : W p l e R s m args below meth c H locs cells slots Q (F0 m pc ls st0) := by
  intro T hT X
  rcases hr T hT X with ⟨v, st₀, t, T', L, h0, X', hL, e1, e2, ⟨⟨r, u, hv, hp, hb⟩, hF⟩, st⟩ | ⟨q, st₀, t, T', L, E, ce, h0, X', hL, e1, e2, ⟨u, hp, hb, hF⟩, hce, hcv, hcl, st⟩
  · cases hv
    obtain ⟨k1, k2, k3⟩ := vx_keep h0 e1 hS hA hf hL hF
    obtain ⟨t2, a1, b1⟩ := kk r u t T'.heap (locs ++ L) e1.symm (by rw [← e2]; exact X'.warmed.alike) hp hb k1 k2 k3 T' rfl X'
    exact ⟨t2, st t2 a1, b1⟩
  · obtain ⟨k1, k2, k3⟩ := vx_keep h0 e1 hS hAX hf hL hF
    obtain ⟨t2, a1, b1⟩ := kx E ce q u t T'.heap (locs ++ L) e1.symm (by rw [← e2]; exact X'.warmed.alike) hp hb k1 k2 k3 (by rw [e1]; exact hce) hcv hcl T' rfl X'
    exact ⟨t2, st.trans a1, b1⟩
theorem vx_callv {S SX : Type} {post : S → Prop} {px : SX → Prop} {B : S → State → Prop} {BX : String → SX → State → Prop} {AX : Nat → Prop} (hr : vx_Run p l e R s m args below meth c H locs cells slots mc ms (F0 m pc ls st0) rest (va_Qv post B A1 a) (vx_X px BX AX) free) (hS : va_S A0 H0 H locs) (hA : ∀ q, q < H.size → A1 q → A0 q) (hf : ∀ q, free q → A0 q) (hAX : ∀ q, q < H.size → AX q → A0 q)
    (kx : ∀ (E : String) (ce : Cell) (q9 : Addr) (u : SX) (t : State) (H1 : Heap) (locs1 : List Loc), t.heap = H1 → s.vm.Alike t.vm → px u → BX E u t → H.size ≤ H1.size → (∀ q : Nat, q < H.size → ¬ AX q → H1[q]? = H[q]?) → va_S A0 H0 H1 locs1 → H1[q9]? = some ce → ce.vm = .none → s.vm.findClass E = some ce.cls → vx_W p l e R s m args below meth c H1 locs1 (cells + mc) (slots + ms) Q (F0 m pc ls rest) q9)
    (kk : ∀ (u : S) (t : State) (H1 : Heap) (locs1 : List Loc), t.heap = H1 → s.vm.Alike t.vm → post u → B u t → H.size ≤ H1.size → (∀ q : Nat, q < H.size → ¬ A1 q → H1[q]? = H[q]?) → va_S A0 H0 H1 locs1 → W p l e R s m args below meth c H1 locs1 (cells + mc) (slots + ms) Q (F0 m (pc + 3) ls (rest))) : W p l e R s m args below meth c H locs cells slots Q (F0 m pc ls st0) := by
  intro T hT X
  rcases hr T hT X with ⟨v, st₀, t, T', L, h0, X', hL, e1, e2, ⟨⟨u, hv, hp, hb⟩, hF⟩, st⟩ | ⟨q, st₀, t, T', L, E, ce, h0, X', hL, e1, e2, ⟨u, hp, hb, hF⟩, hce, hcv, hcl, st⟩
  · cases hv
    obtain ⟨k1, k2, k3⟩ := vx_keep h0 e1 hS hA hf hL hF
    obtain ⟨t2, a1, b1⟩ := kk u t T'.heap (locs ++ L) e1.symm (by rw [← e2]; exact X'.warmed.alike) hp hb k1 k2 k3 T' rfl X'
    exact ⟨t2, st t2 a1, b1⟩
  · obtain ⟨k1, k2, k3⟩ := vx_keep h0 e1 hS hAX hf hL hF
    obtain ⟨t2, a1, b1⟩ := kx E ce q u t T'.heap (locs ++ L) e1.symm (by rw [← e2]; exact X'.warmed.alike) hp hb k1 k2 k3 (by rw [e1]; exact hce) hcv hcl T' rfl X'
    exact ⟨t2, st.trans a1, b1⟩
end Rows
section Ends
variable {p : Program} {l : Launch} {e : Env} {R : Room} {s : State} {m : MethodId} {args : Array Value} {below : List Frame} {meth : Method} {c : Code} {H : Heap} {locs : List Loc} {cells slots : Nat} {Q : State → Prop}
variable {mc ms : Nat} {free : Addr → Prop} {A0 A1 : Nat → Prop} {H0 : Heap} {a : Array Value} {ls : Array Slot} {st0 rest : List Value}
variable {Qc : Array Value → State → Outcome → State → Prop} {XC : String → State → State → Prop}
/-- what a body that may throw owes at its end -/
def vx_MQ (below : List Frame) (Qc : Array Value → State → Outcome → State → Prop) (XC : String → State → State → Prop) (a : Array Value) (s : State) (mc ms : Nat) (free : Addr → Prop) : State → Prop := fun t =>
  ∃ o, t.status = .running ∧ Ended t below o ∧ vx_Q Qc XC mc ms free a s o t
theorem vx_ret {g : JFrame} {mc ms : Nat} (k : W p l e R s m args below meth c H locs cells slots (MQ below Qc args s mc ms free) g) : W p l e R s m args below meth c H locs cells slots (vx_MQ below Qc XC args s mc ms free) g := by
  intro T hT X
  obtain ⟨t, a1, o, b1, b2, b3, b4⟩ := k T hT X
  exact ⟨t, a1, o, b1, b2, Or.inl ⟨b3, b4⟩⟩
/-- not caught here: it goes on to the caller -/
theorem vx_widen {g : JFrame} {q : Addr} {k n : Nat} (h1 : cells ≤ k) (h2 : slots ≤ n) (kk : vx_W p l e R s m args below meth c H locs k n Q g q) : vx_W p l e R s m args below meth c H locs cells slots Q g q := fun T hT X => kk T hT (stand_widen X h1 h2)
theorem vx_out {pc : Nat} {E : String} {ce : Cell} {q : Addr} {mc ms : Nat} (hout : ∀ x ∈ c.exceptionTable.toList, covers x pc = false) (hlocks : meth.locks = false) (hcell : H[q]? = some ce) (hv : ce.vm = .none) (hcl : s.vm.findClass E = some ce.cls)
    (hx : ∀ t : State, t.heap = H → s.vm.Alike t.vm → XC E s t) (hf : ∀ z ∈ locs, free z.base) (hc : cells ≤ mc) (hs : slots ≤ ms) :
    vx_W p l e R s m args below meth c H locs cells slots (vx_MQ below Qc XC args s mc ms free) (F0 m pc ls rest) q := by
  intro T hT X
  obtain ⟨st1, hrun, hend, hW, hsm⟩ := X.leaveThrown q (g := F0 m pc ls rest) rfl rfl rfl hout hlocks
  have hcell9 : (T.setFrames (.throwing q :: below)).heap[q]? = some ce := by
    show T.heap[q]? = some ce
    rw [hT]; exact hcell
  exact ⟨_, st1, .threw q, hrun, hend, Or.inr ⟨q, rfl, E, ce, locs, hx _ hT hW.alike, hcell9, hv, hcl, hW, hsm.mono hc hs, hf⟩⟩
theorem vx_frame {U : State} {k n : Nat} (h : s.sameButNew ({ U with vm := s.vm } : State) locs k n) : s.heap.size ≤ U.heap.size ∧ ∀ q : Nat, q < s.heap.size → (∀ z ∈ locs, z.base ≠ q) → U.heap[q]? = s.heap[q]? := by
  obtain ⟨-, h2, -, -, -, h6⟩ := h
  refine ⟨h2, fun q hq hz => ?_⟩
  obtain ⟨c9, e1, e2, e3, e4⟩ := h6 q _ (Array.getElem?_eq_getElem hq)
  have hs : c9.slots = (s.heap[q]).slots := Array.ext_getElem? fun i => e4 i fun hm => hz _ hm rfl
  have h9 : c9 = s.heap[q] := by
    rw [hs] at e2
    exact e2
  have e5 : U.heap[q]? = some c9 := e1
  rw [e5, h9, Array.getElem?_eq_getElem hq]
/-- the words of a throw but the four that speak of the heap -/
def vx_no (w : Cond) : Bool := decide (w ≠ .isRef (.static Bundle.tN "UNASSIGNED_STACK" Bundle.steD)) && decide (w ≠ .isRef (.static Bundle.tN "SUPPRESSED_SENTINEL" Bundle.listD)) && decide (w ≠ .laysStatic Bundle.tN "UNASSIGNED_STACK" Bundle.steD) && decide (w ≠ .laysStatic Bundle.tN "SUPPRESSED_SENTINEL" Bundle.listD)
def vx_at0 (own : String) (ic : Nat) (X : String) (names : List String) : List Cond := (Bundle.ownAtoms0 own ic X names).filter vx_no
def vx_atS (own : String) (ic : Nat) (X : String) (names : List String) : List Cond := (Bundle.ownAtoms own ic X names).filter vx_no
/-- a word that the tables alone decide, or a good one -/
def vx_ot (w : Cond) : Bool := w.onTables || goodWord w
theorem vx_ot_at {args a' : Array Value} {s U : State} {w : Cond} (hW : s.WarmedH U.vm) (hvm : s.vm = U.vm) (hg : vx_ot w = true) (h : w.before args s = true) : w.before a' U = true := by
  simp only [vx_ot, Bool.or_eq_true] at hg
  rcases hg with hg | hg
  · exact va_tabs hg hvm h
  · exact word_at hW (good_of_word hg) h
/-- a list's words: the good ones out of the method's own list, the others by premises of their own -/
theorem vx_hat {args : Array Value} {s : State} {L B : List Cond} (h1 : ∀ w ∈ L.filter goodWord, w.before args s = true) (h2 : ∀ w ∈ L.filter (fun w => !goodWord w), w ∈ B) (h3 : ∀ w ∈ B, w.before args s = true) : ∀ w ∈ L, w.before args s = true := by
  intro w hw
  by_cases g : goodWord w = true
  · exact h1 w (List.mem_filter.mpr ⟨hw, g⟩)
  · refine h3 w (h2 w (List.mem_filter.mpr ⟨hw, ?_⟩))
    show (!goodWord w) = true
    cases hgw : goodWord w
    · rfl
    · exact absurd hgw g
theorem vx_c {args : Array Value} {s : State} {w : Cond} {B : List Cond} (h : w.before args s = true) (t : ∀ w ∈ B, w.before args s = true) : ∀ w' ∈ w :: B, w'.before args s = true := fun w' h' => (List.mem_cons.mp h').elim (fun e => by rw [e]; exact h) (t w')
theorem vx_n {args : Array Value} {s : State} : ∀ w ∈ ([] : List Cond), w.before args s = true := fun _ h => nomatch h
theorem vx_own {args : Array Value} {s : State} {L : List Cond} (h1 : ∀ w ∈ L.filter vx_no, w.before args s = true)
    (hU : (Cond.isRef (.static Bundle.tN "UNASSIGNED_STACK" Bundle.steD)).before args s = true) (hN : (Cond.isRef (.static Bundle.tN "SUPPRESSED_SENTINEL" Bundle.listD)).before args s = true)
    (lU : (Cond.laysStatic Bundle.tN "UNASSIGNED_STACK" Bundle.steD).before args s = true) (lN : (Cond.laysStatic Bundle.tN "SUPPRESSED_SENTINEL" Bundle.listD).before args s = true) : ∀ w ∈ L, w.before args s = true := by
  intro w hw
  by_cases e1 : w = .isRef (.static Bundle.tN "UNASSIGNED_STACK" Bundle.steD)
  · rw [e1]; exact hU
  · by_cases e2 : w = .isRef (.static Bundle.tN "SUPPRESSED_SENTINEL" Bundle.listD)
    · rw [e2]; exact hN
    · by_cases e3 : w = .laysStatic Bundle.tN "UNASSIGNED_STACK" Bundle.steD
      · rw [e3]; exact lU
      · by_cases e4 : w = .laysStatic Bundle.tN "SUPPRESSED_SENTINEL" Bundle.listD
        · rw [e4]; exact lN
        · exact h1 w (List.mem_filter.mpr ⟨hw, by unfold vx_no; rw [decide_eq_true e1, decide_eq_true e2, decide_eq_true e3, decide_eq_true e4]; rfl⟩)
/-- where a static field lies, its class's statics cell in H -/
def vx_L (C n d : String) (A : Nat → Prop) (U : State) (H : Heap) : Prop := ∃ (c : ClassId) (k : Class) (i : Nat) (f : Field) (a : Nat) (cell : Cell), U.vm.findClass C = some c ∧ U.fieldFound? C n d = some (c, k, i, f) ∧ f.isStatic = true ∧ k.statics = some a ∧ H[a]? = some cell ∧ cell.vm.isStatics = true ∧ cell.cls = c ∧ f.slot < cell.slots.size ∧ k.staticTypes[f.slot]? = some f.type ∧ ¬ A a
theorem vx_L.moved {C n d : String} {A : Nat → Prop} {u U : State} {H : Heap} (hvm : u.vm.Alike U.vm) (h : vx_L C n d A u H) : vx_L C n d A U H := by
  obtain ⟨c, k, i, f, a, cell, h1, h2, h3, h4, h5, h6, h7, h8, h9, h10⟩ := h
  obtain ⟨k', hi', he⟩ := State.fieldFound?_setVm hvm h2
  exact ⟨c, k', i, f, a, cell, by rw [hvm.findClass]; exact h1, hi', h3, by rw [he]; exact h4, h5, h6, h7, h8, by rw [he]; exact h9, h10⟩
theorem vx_L.kept {C n d : String} {A : Nat → Prop} {U : State} {H H1 : Heap} (h : vx_L C n d A U H) (hq : ∀ a : Nat, a < H.size → ¬ A a → H1[a]? = H[a]?) : vx_L C n d A U H1 := by
  obtain ⟨c, k, i, f, a, cell, h1, h2, h3, h4, h5, h6, h7, h8, h9, h10⟩ := h
  exact ⟨c, k, i, f, a, cell, h1, h2, h3, h4, by rw [hq a (Array.getElem?_eq_some_iff.mp h5).1 h10]; exact h5, h6, h7, h8, h9, h10⟩
theorem vx_L.narrow {C n d : String} {A B : Nat → Prop} {U : State} {H : Heap} (h : vx_L C n d A U H) (hAB : ∀ q, B q → A q) : vx_L C n d B U H := by
  obtain ⟨c, k, i, f, a, cell, h1, h2, h3, h4, h5, h6, h7, h8, h9, h10⟩ := h
  exact ⟨c, k, i, f, a, cell, h1, h2, h3, h4, h5, h6, h7, h8, h9, fun z => h10 (hAB _ z)⟩
theorem vx_L.word {C n d : String} {A : Nat → Prop} {s : State} {args : Array Value} (h : vx_L C n d A s s.heap) : (Cond.laysStatic C n d).before args s = true := by
  obtain ⟨c, k, i, f, a, cell, h1, h2, h3, h4, h5, h6, h7, h8, h9, -⟩ := h
  show (Cond.laysStatic C n d).holds args s none s [] = true
  exact Cond.laysStatic_of h1 h2 h3 h4 h5 h6 h7 h8 h9
/-- .. and what it holds: null or some reference -/
def vx_Zq (C n d : String) (A : Nat → Prop) (U : State) (H : Heap) : Prop := va_Zq C n d A U H ∧ vx_L C n d A U H
theorem vx_Zq.moved {C n d : String} {A : Nat → Prop} {u U : State} {H : Heap} (hvm : u.vm.Alike U.vm) (h : vx_Zq C n d A u H) : vx_Zq C n d A U H := ⟨va_Zq.moved hvm h.1, vx_L.moved hvm h.2⟩
theorem vx_Zq.kept {C n d : String} {A : Nat → Prop} {U : State} {H H1 : Heap} (h : vx_Zq C n d A U H) (hq : ∀ a : Nat, a < H.size → ¬ A a → H1[a]? = H[a]?) : vx_Zq C n d A U H1 := ⟨va_Zq.kept h.1 hq, vx_L.kept h.2 hq⟩
theorem vx_Zq.narrow {C n d : String} {A B : Nat → Prop} {U : State} {H : Heap} (h : vx_Zq C n d A U H) (hAB : ∀ q, B q → A q) : vx_Zq C n d B U H := ⟨va_Zq.narrow h.1 hAB, vx_L.narrow h.2 hAB⟩
theorem vx_Zqof {args : Array Value} {s : State} {C n d : String} {A : Nat → Prop} (hl : (Cond.laysStatic C n d).before args s = true) (hini : (Cond.initialized C).before args s = true) (h : (Cond.isRef (.static C n d)).before args s = true) (hA : ∀ a : Nat, a < s.heap.size → ¬ A a) : vx_Zq C n d A s s.heap := by
  refine ⟨va_Zqof hl hini h hA, ?_⟩
  obtain ⟨c, k, i, f, a, cell, h1, h2, h3, h4, h5, h6, h7, h8, h9⟩ := Cond.laysStatic_spec hl
  exact ⟨c, k, i, f, a, cell, h1, h2, h3, h4, h5, h6, h7, h8, h9, hA a (Array.getElem?_eq_some_iff.mp h5).1⟩
theorem vx_isRef {C n d : String} {v : Value} {A : Nat → Prop} {s : State} {args : Array Value} (h : va_Z C n d v A s s.heap) (hv : v.isRef = true) : (Cond.isRef (.static C n d)).before args s = true := by
  obtain ⟨cf, kf, fi, f, a, cell, h1, h2, h3, h4, h5, h6, h7, -⟩ := h
  have he : (Term.static C n d).eval args s none [] s = some v := by
    simp [Term.eval, State.fieldNamed?, h1, h2, h4, h5, h6, h7]
  simp only [Cond.before, Cond.holds, Cond.value, he]
  cases v <;> simp_all [Value.isRef]
theorem vx_isRefq {C n d : String} {A : Nat → Prop} {s : State} {args : Array Value} (h : va_Zq C n d A s s.heap) : (Cond.isRef (.static C n d)).before args s = true := by
  rcases h with h | ⟨t, h⟩
  · exact vx_isRef h rfl
  · exact vx_isRef h rfl
/-- the same frame, seen from here: as if the method were called anew in this heap -/
theorem vx_rebase {T : State} (X : Stand p l e R s m args below meth c T locs cells slots) {R' : Room} (hf : R'.frames ≤ R.frames) (hl : R'.locals ≤ R.locals) (hc : cells + R'.cells ≤ R.cells) (hs : slots + R'.slots ≤ R.slots) :
    Stand p l e R' ((T.setVm s.vm).setFrames (.invoking m args :: below)) m args below meth c T [] 0 0 := by
  have htop : (T.setVm s.vm).topJava?.isSome := X.here.top
  have hF : ((T.setVm s.vm).setFrames (.invoking m args :: below)).frames = .invoking m args :: below := State.frames_setFrames _ (State.cur_lt_of_top htop)
  obtain ⟨g₀, hg0⟩ := Option.isSome_iff_exists.mp htop
  obtain ⟨r, hr⟩ := State.topJava?_eq_some.mp hg0
  have hl9 : e.platform.stackLimits (T.setVm s.vm).me = e.platform.stackLimits s.me := X.limits
  have hb9 : (T.setVm s.vm).me.stackBytes = s.me.stackBytes := X.bytes
  refine ⟨X.admits, X.cas, X.clock, hF, ?_, X.hears, X.method, X.code, X.here, X.tail, X.warmed, ?_, ?_, ?_⟩
  · have h := X.room
    have hU : ((T.setVm s.vm).setFrames (.invoking m args :: below)).localsInUse = s.localsInUse := by
      rw [State.localsInUse_invoking hF (meth := meth) (c := c) X.method X.code, State.localsInUse_invoking X.frames X.method X.code]
    simp only [State.hasRoom, Bool.and_eq_true, decide_eq_true_eq] at h ⊢
    obtain ⟨⟨⟨⟨h1, h2, h3, h4, h5, h6⟩, h7⟩, h8⟩, h9⟩ := h
    rw [X.frames, List.length_cons] at h2 h3
    have q1 := X.heapSize
    have q2 := X.used
    simp only [hF, hU, List.length_cons, State.stackLimits_setFrames, State.stackBytes_setFrames, hl9, hb9]
    refine ⟨⟨⟨⟨by omega, by omega, by omega, by omega, by omega, h6⟩, ?_⟩, ?_⟩, X.book⟩
    · show T.heap.size + R'.cells ≤ e.platform.maxCells
      omega
    · show T.slotsUsed + R'.slots ≤ e.platform.maxSlots
      omega
  · rw [State.stackLimits_setFrames]; rfl
  · rw [State.stackBytes_setFrames]; rfl
  · refine ⟨?_, Nat.le_refl _, Nat.le_refl _, ?_, ?_, fun a c9 h9 => ⟨c9, h9, rfl, rfl, fun _ _ => rfl⟩⟩
    · obtain ⟨t, ht, -⟩ := State.frames_cons hr
      show T.setVm s.vm = { ((T.setVm s.vm).setFrames (.invoking m args :: below)).setFrames (T.setVm s.vm).frames with heap := T.heap, slotsUsed := T.slotsUsed }
      rw [State.setFrames_setFrames, State.setFrames_self ht]
      rfl
    · show T.slotsUsed = T.slotsUsed + ((T.heap.toList.drop T.heap.size).map (·.slots.size)).sum
      rw [List.drop_eq_nil_of_le (Nat.le_of_eq Array.length_toList)]
      rfl
    · show ((T.heap.toList.drop T.heap.size).map (·.slots.size)).sum ≤ 0
      rw [List.drop_eq_nil_of_le (Nat.le_of_eq Array.length_toList)]
      exact Nat.le_refl _
/-- 'throw new E()': new; dup; invokespecial; athrow -/
theorem vx_throw0 {cc : ByteArray} {pc : Nat} (hexec : p.tables.exec = Jvm.exec) (hb : c.code = cc) (hl : l.stackTraces = false) {own cls : String} {names : List String} {ik ic mc ms : Nat} {A : Nat → Prop}
    (hown : s.vm.findClass own = some m.cls) (hcls : Bundle.fit cls = true) (hnames : ∀ n ∈ names, Bundle.fit n = true)
    (hk : (Cond.classLink own ik cls).before args s = true) (hini : (Cond.initialized cls).before args s = true) (hat : ∀ w ∈ vx_at0 own ic cls names, w.before args s = true)
    (hgood : ∀ w ∈ Cond.classLink own ik cls :: Cond.initialized cls :: vx_at0 own ic cls names, vx_ot w = true)
    (hU : vx_Zq Bundle.tN "UNASSIGNED_STACK" Bundle.steD A s s.heap) (hN : vx_Zq Bundle.tN "SUPPRESSED_SENTINEL" Bundle.listD A s s.heap) (hS : va_S A s.heap H locs) (hsize : ls.size = c.maxLocals)
    (d0 : decode cc pc = .ok (.new ik, 3)) (d3 : decode cc (pc + 3) = .ok (.dup, 1)) (d4 : decode cc (pc + 4) = .ok (.invokespecial ic, 3)) (d7 : decode cc (pc + 7) = .ok (.athrow, 1))
    (hout : ∀ x ∈ c.exceptionTable.toList, covers x (pc + 7) = false)
    (hRframes : names.length + 3 < R.frames) (hRlocals : (rest.map fun v => v.category).sum + (13 * (names.length + 1) + 42) ≤ R.locals) (hRcells : cells + 1 ≤ R.cells) (hRslots : slots + 6 ≤ R.slots) (hlocks : meth.locks = false)
    (hx : ∀ t : State, s.vm.Alike t.vm → H.size ≤ t.heap.size → (∀ q : Nat, q < H.size → t.heap[q]? = H[q]?) → XC cls s t)
    (hf : ∀ z ∈ locs, free z.base) (hc : cells + 1 ≤ mc) (hs : slots + 6 ≤ ms) :
    W p l e R s m args below meth c H locs cells slots (vx_MQ below Qc XC args s mc ms free) (F0 m pc ls rest) := by
  intro T hT X
  have htr : e.platform.stackTraces = false := (show e.platform.stackTraces = l.stackTraces by rw [X.admits.platform]).trans hl
  have Y := vx_rebase X (R' := { frames := R.frames, locals := R.locals, cells := 1, slots := 6 }) (Nat.le_refl _) (Nat.le_refl _) hRcells hRslots
  obtain ⟨s', hA⟩ : ∃ z, z = (T.setVm s.vm).setFrames (.invoking m args :: below) := ⟨_, rfl⟩
  rw [← hA] at Y
  have hvm : s'.vm = s.vm := by rw [hA]; rfl
  have hhp : s'.heap = H := by rw [hA]; exact hT
  have hW0 : s.WarmedH s'.vm := by rw [hvm]; exact State.WarmedH.refl s
  have hat' : ∀ w ∈ vx_at0 own ic cls names, w.before args s' = true := fun w hw => vx_ot_at hW0 hvm.symm (hgood w (List.mem_cons_of_mem _ (List.mem_cons_of_mem _ hw))) (hat w hw)
  have hk' : (Cond.classLink own ik cls).before args s' = true := vx_ot_at hW0 hvm.symm (hgood _ List.mem_cons_self) hk
  have hini' : (Cond.initialized cls).before args s' = true := vx_ot_at hW0 hvm.symm (hgood _ (List.mem_cons_of_mem _ List.mem_cons_self)) hini
  have hU' : vx_Zq Bundle.tN "UNASSIGNED_STACK" Bundle.steD A s' s'.heap := by rw [hhp]; exact vx_Zq.moved hW0.alike (hU.kept hS.2.1)
  have hN' : vx_Zq Bundle.tN "SUPPRESSED_SENTINEL" Bundle.listD A s' s'.heap := by rw [hhp]; exact vx_Zq.moved hW0.alike (hN.kept hS.2.1)
  have h : ∀ w ∈ Bundle.ownAtoms0 own ic cls names, w.before args s' = true := vx_own hat' (vx_isRefq hU'.1) (vx_isRefq hN'.1) hU'.2.word hN'.2.word
  have hown' : s'.vm.findClass own = some m.cls := by rw [hvm]; exact hown
  have hins : (Cond.instantiable cls 6).before args s' = true := h _ (by simp [Bundle.ownAtoms0])
  obtain ⟨vm₁, cX, kX, hfX, hkX, -, -, X₁, st1⟩ := Y.newCold hexec (own := own) (C := cls) (index := ik) (n := 6) hown' hk' hins hini'
    (g := F0 m pc ls rest) rfl (by rw [hb]; exact d0) (Nat.le_refl _) (Nat.le_refl _)
  generalize hT1 : (T.setVm vm₁).pushCell { cls := cX, slots := kX.instanceTypes.map defaultValue, vm := .none } = T1 at X₁ st1
  have hcat : (Value.ref T.heap.size).category = 1 := rfl
  have hcellA : T1.heap[T.heap.size]? = some (freshCell cX kX) := by rw [← hT1]; exact State.heap_pushCell_size _ _
  have d3' : decode c.code (pc + 3) = .ok (.dup, 1) := by rw [hb]; exact d3
  obtain ⟨U, hsteps, hrun, hend, hW, hsame, ce, hce, hO⟩ := X₁.ctorThrow0 hexec htr (own := own) (cls := cls) (names := names) (ic := ic) hown' hcls hnames h (fun x hx => nomatch hx) hfX hkX hcellA (by rw [hhp, hT]; exact Nat.le_refl _)
    (g := { method := m, pc := pc + 4, locals := ls, stack := .ref T.heap.size :: .ref T.heap.size :: rest, locked := none }) rfl hsize rfl rfl (rest := rest) rfl
    (by rw [hb]; exact d4) (by rw [hb]; exact d7) hout hRframes (by simp only [List.map_cons, List.sum_cons, hcat]; omega) hlocks
  obtain ⟨f1, f2⟩ := vx_frame hsame
  rw [hhp] at f1 f2
  have hWs : s.WarmedH U.vm := State.WarmedH.trans hW0 hW
  have hcl : s.vm.findClass cls = some ce.cls := by
    have h9 := hO.cls
    rw [hvm] at h9
    exact h9
  have hall : s.sameButNew ({ U with vm := s.vm } : State) locs mc ms := by
    subst hA
    obtain ⟨e1, e2⟩ := hsame
    rw [State.setFrames_setFrames] at e1
    have h2 : (T.setVm s.vm).sameButNew ({ U with vm := s.vm } : State) [] (0 + 1) (0 + 6) := ⟨e1, e2⟩
    have h3 := X.same.trans h2
    rw [List.append_nil] at h3
    exact h3.mono hc hs
  refine ⟨U, ?_, .threw T.heap.size, hrun, hend, Or.inr ⟨T.heap.size, rfl, cls, ce, locs, hx U hWs.alike f1 (fun q hq => f2 q hq (fun z hz => nomatch hz)), hce, hO.vm, hcl, hWs, hall, hf⟩⟩
  refine st1 _ ?_
  show Steps p.tables e below (T1.setTop { method := m, pc := pc + 3, locals := ls, stack := .ref T.heap.size :: rest, locked := none }) _
  jvm_step X₁.here [X₁.here.top, hexec, d3', Value.category]
  exact hsteps
/-- 'throw new E("text")': new; dup; ldc; invokespecial; athrow -/
theorem vx_throwS {cc : ByteArray} {pc : Nat} (hexec : p.tables.exec = Jvm.exec) (hb : c.code = cc) (hl : l.stackTraces = false) {own cls text : String} {names : List String} {ik is ic mc ms sa : Nat} {A : Nat → Prop}
    (hown : s.vm.findClass own = some m.cls) (hcls : Bundle.fit cls = true) (hnames : ∀ n ∈ names, Bundle.fit n = true)
    (hk : (Cond.classLink own ik cls).before args s = true) (hini : (Cond.initialized cls).before args s = true) (hstr : vk_R own is text sa s) (hat : ∀ w ∈ vx_atS own ic cls names, w.before args s = true)
    (hgood : ∀ w ∈ Cond.classLink own ik cls :: Cond.initialized cls :: vx_atS own ic cls names, vx_ot w = true)
    (hU : vx_Zq Bundle.tN "UNASSIGNED_STACK" Bundle.steD A s s.heap) (hN : vx_Zq Bundle.tN "SUPPRESSED_SENTINEL" Bundle.listD A s s.heap) (hS : va_S A s.heap H locs) (hsize : ls.size = c.maxLocals)
    (d0 : decode cc pc = .ok (.new ik, 3)) (d3 : decode cc (pc + 3) = .ok (.dup, 1)) (d4 : decode cc (pc + 4) = .ok (.ldc is, 2)) (d6 : decode cc (pc + 6) = .ok (.invokespecial ic, 3)) (d9 : decode cc (pc + 9) = .ok (.athrow, 1))
    (hout : ∀ x ∈ c.exceptionTable.toList, covers x (pc + 9) = false)
    (hRframes : names.length + 3 < R.frames) (hRlocals : (rest.map fun v => v.category).sum + (13 * (names.length + 1) + 43) ≤ R.locals) (hRcells : cells + 1 ≤ R.cells) (hRslots : slots + 6 ≤ R.slots) (hlocks : meth.locks = false)
    (hx : ∀ t : State, s.vm.Alike t.vm → H.size ≤ t.heap.size → (∀ q : Nat, q < H.size → t.heap[q]? = H[q]?) → XC cls s t)
    (hf : ∀ z ∈ locs, free z.base) (hc : cells + 1 ≤ mc) (hs : slots + 6 ≤ ms) :
    W p l e R s m args below meth c H locs cells slots (vx_MQ below Qc XC args s mc ms free) (F0 m pc ls rest) := by
  intro T hT X
  have htr : e.platform.stackTraces = false := (show e.platform.stackTraces = l.stackTraces by rw [X.admits.platform]).trans hl
  have Y := vx_rebase X (R' := { frames := R.frames, locals := R.locals, cells := 1, slots := 6 }) (Nat.le_refl _) (Nat.le_refl _) hRcells hRslots
  obtain ⟨s', hA⟩ : ∃ z, z = (T.setVm s.vm).setFrames (.invoking m args :: below) := ⟨_, rfl⟩
  rw [← hA] at Y
  have hvm : s'.vm = s.vm := by rw [hA]; rfl
  have hhp : s'.heap = H := by rw [hA]; exact hT
  have hW0 : s.WarmedH s'.vm := by rw [hvm]; exact State.WarmedH.refl s
  have hat' : ∀ w ∈ vx_atS own ic cls names, w.before args s' = true := fun w hw => vx_ot_at hW0 hvm.symm (hgood w (List.mem_cons_of_mem _ (List.mem_cons_of_mem _ hw))) (hat w hw)
  have hk' : (Cond.classLink own ik cls).before args s' = true := vx_ot_at hW0 hvm.symm (hgood _ List.mem_cons_self) hk
  have hini' : (Cond.initialized cls).before args s' = true := vx_ot_at hW0 hvm.symm (hgood _ (List.mem_cons_of_mem _ List.mem_cons_self)) hini
  have hU' : vx_Zq Bundle.tN "UNASSIGNED_STACK" Bundle.steD A s' s'.heap := by rw [hhp]; exact vx_Zq.moved hW0.alike (hU.kept hS.2.1)
  have hN' : vx_Zq Bundle.tN "SUPPRESSED_SENTINEL" Bundle.listD A s' s'.heap := by rw [hhp]; exact vx_Zq.moved hW0.alike (hN.kept hS.2.1)
  have h : ∀ w ∈ Bundle.ownAtoms own ic cls names, w.before args s' = true := vx_own hat' (vx_isRefq hU'.1) (vx_isRefq hN'.1) hU'.2.word hN'.2.word
  have hown' : s'.vm.findClass own = some m.cls := by rw [hvm]; exact hown
  have hins : (Cond.instantiable cls 6).before args s' = true := h _ (by simp [Bundle.ownAtoms])
  obtain ⟨vm₁, cX, kX, hfX, hkX, -, -, X₁, st1⟩ := Y.newCold hexec (own := own) (C := cls) (index := ik) (n := 6) hown' hk' hins hini'
    (g := F0 m pc ls rest) rfl (by rw [hb]; exact d0) (Nat.le_refl _) (Nat.le_refl _)
  generalize hT1 : (T.setVm vm₁).pushCell { cls := cX, slots := kX.instanceTypes.map defaultValue, vm := .none } = T1 at X₁ st1
  have hcat : (Value.ref T.heap.size).category = 1 := rfl
  have hcellA : T1.heap[T.heap.size]? = some (freshCell cX kX) := by rw [← hT1]; exact State.heap_pushCell_size _ _
  have d3' : decode c.code (pc + 3) = .ok (.dup, 1) := by rw [hb]; exact d3
  have d4' : decode c.code (pc + 4) = .ok (.ldc is, 2) := by rw [hb]; exact d4
  have hstr' : vk_R own is text sa s' := vk_R.warm hW0 hstr
  obtain ⟨U, hsteps, hrun, hend, hW, hsame, ce, hce, hO⟩ := X₁.ctorThrowS hexec htr (own := own) (cls := cls) (names := names) (ic := ic) hown' hcls hnames h (fun x hx => nomatch hx) hfX hkX hcellA (by rw [hhp, hT]; exact Nat.le_refl _) (msg := .ref sa) rfl
    (g := { method := m, pc := pc + 6, locals := ls, stack := .ref sa :: .ref T.heap.size :: .ref T.heap.size :: rest, locked := none }) rfl hsize rfl rfl (rest := rest) rfl
    (by rw [hb]; exact d6) (by rw [hb]; exact d9) hout hRframes (by simp only [List.map_cons, List.sum_cons, hcat]; omega) hlocks
  obtain ⟨f1, f2⟩ := vx_frame hsame
  rw [hhp] at f1 f2
  have hWs : s.WarmedH U.vm := State.WarmedH.trans hW0 hW
  have hcl : s.vm.findClass cls = some ce.cls := by
    have h9 := hO.cls
    rw [hvm] at h9
    exact h9
  have hall : s.sameButNew ({ U with vm := s.vm } : State) locs mc ms := by
    subst hA
    obtain ⟨e1, e2⟩ := hsame
    rw [State.setFrames_setFrames] at e1
    have h2 : (T.setVm s.vm).sameButNew ({ U with vm := s.vm } : State) [] (0 + 1) (0 + 6) := ⟨e1, e2⟩
    have h3 := X.same.trans h2
    rw [List.append_nil] at h3
    exact h3.mono hc hs
  refine ⟨U, ?_, .threw T.heap.size, hrun, hend, Or.inr ⟨T.heap.size, rfl, cls, ce, locs, hx U hWs.alike f1 (fun q hq => f2 q hq (fun z hz => nomatch hz)), hce, hO.vm, hcl, hWs, hall, hf⟩⟩
  refine st1 _ ?_
  show Steps p.tables e below (T1.setTop { method := m, pc := pc + 3, locals := ls, stack := .ref T.heap.size :: rest, locked := none }) _
  jvm_step X₁.here [X₁.here.top, hexec, d3', Value.category]
  exact X₁.ldcString hexec (own := own) (text := text) (index := is) (a := sa) hown' hstr'.1 hstr'.2
    (g := { method := m, pc := pc + 4, locals := ls, stack := .ref T.heap.size :: .ref T.heap.size :: rest, locked := none }) rfl d4' _ hsteps
/-- 'throw new E("text")', the text by a wide index -/
theorem vx_throwSW {cc : ByteArray} {pc : Nat} (hexec : p.tables.exec = Jvm.exec) (hb : c.code = cc) (hl : l.stackTraces = false) {own cls text : String} {names : List String} {ik is ic mc ms sa : Nat} {A : Nat → Prop}
    (hown : s.vm.findClass own = some m.cls) (hcls : Bundle.fit cls = true) (hnames : ∀ n ∈ names, Bundle.fit n = true)
    (hk : (Cond.classLink own ik cls).before args s = true) (hini : (Cond.initialized cls).before args s = true) (hstr : vk_R own is text sa s) (hat : ∀ w ∈ vx_atS own ic cls names, w.before args s = true)
    (hgood : ∀ w ∈ Cond.classLink own ik cls :: Cond.initialized cls :: vx_atS own ic cls names, vx_ot w = true)
    (hU : vx_Zq Bundle.tN "UNASSIGNED_STACK" Bundle.steD A s s.heap) (hN : vx_Zq Bundle.tN "SUPPRESSED_SENTINEL" Bundle.listD A s s.heap) (hS : va_S A s.heap H locs) (hsize : ls.size = c.maxLocals)
    (d0 : decode cc pc = .ok (.new ik, 3)) (d3 : decode cc (pc + 3) = .ok (.dup, 1)) (d4 : decode cc (pc + 4) = .ok (.ldc_w is, 3)) (d7 : decode cc (pc + 7) = .ok (.invokespecial ic, 3)) (d10 : decode cc (pc + 10) = .ok (.athrow, 1))
    (hout : ∀ x ∈ c.exceptionTable.toList, covers x (pc + 10) = false)
    (hRframes : names.length + 3 < R.frames) (hRlocals : (rest.map fun v => v.category).sum + (13 * (names.length + 1) + 43) ≤ R.locals) (hRcells : cells + 1 ≤ R.cells) (hRslots : slots + 6 ≤ R.slots) (hlocks : meth.locks = false)
    (hx : ∀ t : State, s.vm.Alike t.vm → H.size ≤ t.heap.size → (∀ q : Nat, q < H.size → t.heap[q]? = H[q]?) → XC cls s t)
    (hf : ∀ z ∈ locs, free z.base) (hc : cells + 1 ≤ mc) (hs : slots + 6 ≤ ms) :
    W p l e R s m args below meth c H locs cells slots (vx_MQ below Qc XC args s mc ms free) (F0 m pc ls rest) := by
  intro T hT X
  have htr : e.platform.stackTraces = false := (show e.platform.stackTraces = l.stackTraces by rw [X.admits.platform]).trans hl
  have Y := vx_rebase X (R' := { frames := R.frames, locals := R.locals, cells := 1, slots := 6 }) (Nat.le_refl _) (Nat.le_refl _) hRcells hRslots
  obtain ⟨s', hA⟩ : ∃ z, z = (T.setVm s.vm).setFrames (.invoking m args :: below) := ⟨_, rfl⟩
  rw [← hA] at Y
  have hvm : s'.vm = s.vm := by rw [hA]; rfl
  have hhp : s'.heap = H := by rw [hA]; exact hT
  have hW0 : s.WarmedH s'.vm := by rw [hvm]; exact State.WarmedH.refl s
  have hat' : ∀ w ∈ vx_atS own ic cls names, w.before args s' = true := fun w hw => vx_ot_at hW0 hvm.symm (hgood w (List.mem_cons_of_mem _ (List.mem_cons_of_mem _ hw))) (hat w hw)
  have hk' : (Cond.classLink own ik cls).before args s' = true := vx_ot_at hW0 hvm.symm (hgood _ List.mem_cons_self) hk
  have hini' : (Cond.initialized cls).before args s' = true := vx_ot_at hW0 hvm.symm (hgood _ (List.mem_cons_of_mem _ List.mem_cons_self)) hini
  have hU' : vx_Zq Bundle.tN "UNASSIGNED_STACK" Bundle.steD A s' s'.heap := by rw [hhp]; exact vx_Zq.moved hW0.alike (hU.kept hS.2.1)
  have hN' : vx_Zq Bundle.tN "SUPPRESSED_SENTINEL" Bundle.listD A s' s'.heap := by rw [hhp]; exact vx_Zq.moved hW0.alike (hN.kept hS.2.1)
  have h : ∀ w ∈ Bundle.ownAtoms own ic cls names, w.before args s' = true := vx_own hat' (vx_isRefq hU'.1) (vx_isRefq hN'.1) hU'.2.word hN'.2.word
  have hown' : s'.vm.findClass own = some m.cls := by rw [hvm]; exact hown
  have hins : (Cond.instantiable cls 6).before args s' = true := h _ (by simp [Bundle.ownAtoms])
  obtain ⟨vm₁, cX, kX, hfX, hkX, -, -, X₁, st1⟩ := Y.newCold hexec (own := own) (C := cls) (index := ik) (n := 6) hown' hk' hins hini'
    (g := F0 m pc ls rest) rfl (by rw [hb]; exact d0) (Nat.le_refl _) (Nat.le_refl _)
  generalize hT1 : (T.setVm vm₁).pushCell { cls := cX, slots := kX.instanceTypes.map defaultValue, vm := .none } = T1 at X₁ st1
  have hcat : (Value.ref T.heap.size).category = 1 := rfl
  have hcellA : T1.heap[T.heap.size]? = some (freshCell cX kX) := by rw [← hT1]; exact State.heap_pushCell_size _ _
  have d3' : decode c.code (pc + 3) = .ok (.dup, 1) := by rw [hb]; exact d3
  have d4' : decode c.code (pc + 4) = .ok (.ldc_w is, 3) := by rw [hb]; exact d4
  have hstr' : vk_R own is text sa s' := vk_R.warm hW0 hstr
  obtain ⟨U, hsteps, hrun, hend, hW, hsame, ce, hce, hO⟩ := X₁.ctorThrowS hexec htr (own := own) (cls := cls) (names := names) (ic := ic) hown' hcls hnames h (fun x hx => nomatch hx) hfX hkX hcellA (by rw [hhp, hT]; exact Nat.le_refl _) (msg := .ref sa) rfl
    (g := { method := m, pc := pc + 7, locals := ls, stack := .ref sa :: .ref T.heap.size :: .ref T.heap.size :: rest, locked := none }) rfl hsize rfl rfl (rest := rest) rfl
    (by rw [hb]; exact d7) (by rw [hb]; exact d10) hout hRframes (by simp only [List.map_cons, List.sum_cons, hcat]; omega) hlocks
  obtain ⟨f1, f2⟩ := vx_frame hsame
  rw [hhp] at f1 f2
  have hWs : s.WarmedH U.vm := State.WarmedH.trans hW0 hW
  have hcl : s.vm.findClass cls = some ce.cls := by
    have h9 := hO.cls
    rw [hvm] at h9
    exact h9
  have hall : s.sameButNew ({ U with vm := s.vm } : State) locs mc ms := by
    subst hA
    obtain ⟨e1, e2⟩ := hsame
    rw [State.setFrames_setFrames] at e1
    have h2 : (T.setVm s.vm).sameButNew ({ U with vm := s.vm } : State) [] (0 + 1) (0 + 6) := ⟨e1, e2⟩
    have h3 := X.same.trans h2
    rw [List.append_nil] at h3
    exact h3.mono hc hs
  refine ⟨U, ?_, .threw T.heap.size, hrun, hend, Or.inr ⟨T.heap.size, rfl, cls, ce, locs, hx U hWs.alike f1 (fun q hq => f2 q hq (fun z hz => nomatch hz)), hce, hO.vm, hcl, hWs, hall, hf⟩⟩
  refine st1 _ ?_
  show Steps p.tables e below (T1.setTop { method := m, pc := pc + 3, locals := ls, stack := .ref T.heap.size :: rest, locked := none }) _
  jvm_step X₁.here [X₁.here.top, hexec, d3', Value.category]
  exact X₁.ldcStringW hexec (own := own) (text := text) (index := is) (a := sa) hown' hstr'.1 hstr'.2
    (g := { method := m, pc := pc + 4, locals := ls, stack := .ref T.heap.size :: .ref T.heap.size :: rest, locked := none }) rfl d4' _ hsteps
end Ends
section Bodies
variable {l : Launch}
theorem vx_ofW {y : MethodName} {ws ws' : List Cond} {rm : Room} {Pc : Array Value → State → Prop} {Qc : Array Value → State → Outcome → State → Prop} {XC : String → State → State → Prop} {mc ms : Nat} {free : Addr → Prop} {cc : ByteArray} {maxL : Nat} {ret : Option FieldType}
    (hy : plainName y.cls = true) (hw : ws = Cond.code y cc maxL ret :: ws')
    (body : ∀ p e s m args below meth c s₁, BodyLoose p l y (headSpec ws rm) cc maxL ret e s m args below meth c s₁ → c.maxLocals = maxL → (∀ x ∈ c.exceptionTable.toList, False) → Pc args s →
      W p l e (headSpec ws rm).room s m args below meth c s.heap [] 0 0 (vx_MQ below Qc XC args s mc ms free) (entryFrame m args maxL)) : vx_Met l y ws rm Pc Qc XC mc ms free := by
  refine MetFree.of_bodyS (code := cc) (maxLocals := maxL) (ret := ret) hy ?_ ?_
  · intro args s m h hn
    obtain ⟨meth, c, h1, h2, h3, h4, h5, h6, -, -⟩ := Cond.code_spec hn (atoms_spec (ws := ws) h _ (by rw [hw]; exact List.mem_cons_self))
    exact ⟨meth, c, h1, h2, h3, h4, h5, h6⟩
  · intro p e s m args below meth c s₁ B hml hP _
    have hh0 : s₁.heap = s.heap := by rw [B.state]; rfl
    have ht : ∀ x ∈ c.exceptionTable.toList, False := by
      obtain ⟨meth9, c9, h1, h2, -, -, -, -, h7, -⟩ := Cond.code_spec B.named (atoms_spec (ws := ws) B.pre _ (by rw [hw]; exact List.mem_cons_self))
      cases Option.some.inj (h1.symm.trans B.method)
      cases Option.some.inj (h2.symm.trans (Stand.of_body B).code)
      intro x hx
      rw [Array.isEmpty_iff.mp h7] at hx
      cases hx
    obtain ⟨t, a1, o, b1, b2, b3⟩ := body p e s m args below meth c s₁ B hml ht hP s₁ hh0 (Stand.of_body B)
    exact ⟨t, o, a1, b1, b2, b3⟩
/-- the table of a body with handlers -/
theorem vx_table {p : Program} {x y : MethodName} {S : Spec} {cc bytes : ByteArray} {maxL maxL' : Nat} {ret ret' : Option FieldType} {e : Env} {s s₁ : State} {m : MethodId} {args : Array Value} {below : List Frame} {meth : Method} {c : Code} {hh : List (Nat × Nat × Nat × Nat)}
    (B : BodyLoose p l y S cc maxL ret e s m args below meth c s₁) (h : (Cond.codeWith y bytes maxL' ret' hh).before args s = true) : c.exceptionTable.toList = tableOf hh := by
  obtain ⟨m9, meth9, c9, hn9, h1, h2, -, -, h6, -⟩ := Cond.codeWith_spec h
  cases Option.some.inj (hn9.symm.trans B.named)
  cases Option.some.inj (h1.symm.trans B.method)
  cases Option.some.inj (h2.symm.trans (Stand.of_body B).code)
  rw [← h6, table_eq]
end Bodies
end VXA
/-! ===== END ===== -/
/-! ===== BEGIN a static call of a method with an exception table ===== -/
section VXS
variable {p : Program} {l : Launch} {e : Env} {R : Room} {s : State} {m : MethodId} {args : Array Value} {below : List Frame} {meth : Method} {c : Code} {T : State} {H : Heap} {locs : List Loc} {cells slots : Nat}
abbrev vx_CSW (R : Room) (s : State) (args : Array Value) (own : String) (index : Nat) (y : MethodName) (bytes : ByteArray) (maxL : Nat) (ret : Option FieldType) (hh : List (Nat × Nat × Nat × Nat)) (ws : List Cond) (rm : Room) (mc ms n : Nat) : Prop :=
  (rm.cells = mc ∧ rm.slots = ms ∧ rm.frames + 1 ≤ R.frames ∧ 8 + (maxL + 11) + rm.locals ≤ R.locals ∧ (∀ w ∈ ws, ∀ (a' : Array Value) (U : State), s.WarmedH U.vm → w.before a' U = true) ∧ Cond.codeWith y bytes maxL ret hh ∈ ws) ∧
  (Cond.codeWith y bytes maxL ret hh).before args s = true ∧ (Cond.initialized y.cls).before args s = true ∧ (y.cls ≠ "java/lang/invoke/MethodHandle" ∧ y.cls ≠ "java/lang/invoke/VarHandle") ∧
  (∀ sig, parseMethodDescriptor y.desc = some sig → n = sig.parameters.length) ∧ (Cond.methodLink own index y).before args s = true ∧ (Cond.static y).before args s = true
theorem vx_cwSW {own : String} {index maxL mc ms : Nat} {y : MethodName} {bytes : ByteArray} {ret : Option FieldType} {hh : List (Nat × Nat × Nat × Nat)} {Ts ws ws' : List Cond} {rm : Room} (n : Nat) (ht : ∀ w ∈ Ts, w.before args s = true) (hT : GoodIn Ts (va_wsS own index y ws)) (hw : ws = Cond.codeWith y bytes maxL ret hh :: ws') (hrc : rm.cells = mc) (hrs : rm.slots = ms)
    (hd : y.cls ≠ "java/lang/invoke/MethodHandle" ∧ y.cls ≠ "java/lang/invoke/VarHandle" ∧ (parseMethodDescriptor y.desc).map (fun d => d.parameters.length) = some n) (hR : rm.frames + 1 ≤ R.frames ∧ 8 + (maxL + 11) + rm.locals ≤ R.locals) :
    vx_CSW R s args own index y bytes maxL ret hh ws rm mc ms n := by
  have ok : ∀ w ∈ va_wsS own index y ws, w.before args s = true := fun w h => ht w (hT w h).1
  have hG : GoodIn Ts ws := fun w h => hT w (by unfold va_wsS; exact List.mem_append_right _ h)
  have hc : Cond.codeWith y bytes maxL ret hh ∈ ws := by rw [hw]; exact List.mem_cons_self
  refine ⟨⟨hrc, hrs, hR.1, hR.2, pay_in ht hG, hc⟩, ht _ (hG _ hc).1, ok _ (by simp [va_wsS]), ⟨hd.1, hd.2.1⟩, fun sig h => ?_, ok _ (by simp [va_wsS]), ok _ (by simp [va_wsS])⟩
  have h2 := hd.2.2
  rw [h] at h2
  exact (Option.some.inj h2).symm
theorem vx_callSW (X : Stand p l e R s m args below meth c T locs cells slots) (hexec : p.tables.exec = Jvm.exec) {own : String} {index : Nat} {y : MethodName} {bytes : ByteArray} {maxL : Nat} {ret : Option FieldType} {hh : List (Nat × Nat × Nat × Nat)}
    (hown : s.vm.findClass own = some m.cls) (hlink : (Cond.methodLink own index y).before args s = true) (hstat : (Cond.static y).before args s = true) (hinit : (Cond.initialized y.cls).before args s = true)
    (hcode : (Cond.codeWith y bytes maxL ret hh).before args s = true) (hy : y.cls ≠ "java/lang/invoke/MethodHandle" ∧ y.cls ≠ "java/lang/invoke/VarHandle")
    {W9 : Nat} {Pre : Pt → Array Value → Prop} {Post : Pt → Array Value → Option Value → Pt → Prop} (hK : Back l R p e below s args y 3 W9 Pre Post)
    {g : JFrame} (hg : g.method = m) (hsize : g.locals.size = c.maxLocals) {argsL rest : List Value} (hlen : ∀ sig, parseMethodDescriptor y.desc = some sig → argsL.length = sig.parameters.length)
    (hstack : g.stack = argsL.reverse ++ rest) (hW : 2 * g.monitorRoom + (rest.map fun v => v.category).sum ≤ W9) (hdg : decode c.code g.pc = .ok (.invokestatic index, 3))
    (hpre : ∀ vm₁, s.WarmedH vm₁ → Pre ⟨T.setVm vm₁, locs, cells, slots⟩ argsL.toArray) :
    ∃ (v : Option Value) (vm₁ : Vm) (B : Pt), s.WarmedH vm₁ ∧ Stand p l e R s m args below meth c B.U B.locs B.cells B.slots ∧ Post ⟨T.setVm vm₁, locs, cells, slots⟩ argsL.toArray v B ∧
      ∀ target, Steps p.tables e below (B.U.setTop { g with pc := g.pc + 3, stack := v.toList ++ rest }) target → Steps p.tables e below (T.setTop g) target := by
  obtain ⟨mk, methM, cM, hnamed, hmethM, -, -, -, -, -, -, hsigM⟩ := Cond.codeWith_spec hcode
  have hstatic : methM.isStatic = true := Cond.static_spec hnamed hmethM hstat
  obtain ⟨kP, hkP, -⟩ := className_of_methodNamed hnamed
  have hinitP : kP.init = .initialized := Cond.initialized_spec (findClass_of_methodNamed hnamed) hkP hinit
  obtain ⟨vm₁, X₁, hstep₁⟩ := X.invokestatic hexec hown hlink hnamed hmethM hstatic hkP hinitP hy (g := g) hg (argsL := argsL) (rest := rest) (hlen _ hsigM) hstack hdg
  obtain ⟨v, B, X', hpost, hsteps⟩ := hK m meth c ⟨T.setVm vm₁, locs, cells, slots⟩ { g with stack := rest } (.invokestatic index) mk argsL.toArray X₁ hg hsize hdg hW (X₁.named hnamed) (hpre vm₁ X₁.warmed)
  exact ⟨v, vm₁, B, X₁.warmed, X', hpost, fun target h => hstep₁ _ fun acts => by rw [doInvoke_state]; exact hsteps.trans h⟩
theorem vx_runSW {y : MethodName} {bytes cc : ByteArray} {maxL nL mc ms n index : Nat} {ret : Option FieldType} {hh : List (Nat × Nat × Nat × Nat)} {ws : List Cond} {rm : Room} {Pc : Array Value → State → Prop} {Qc : Array Value → State → Outcome → State → Prop} {free : Addr → Prop} {Ts : List Cond} {own : String} {As rest : List Value} {g : JFrame}
    (S : CallFix p m c cc nL s args Ts own) (hM : Met l y ws rm Pc Qc mc ms free) (cw : vx_CSW R s args own index y bytes maxL ret hh ws rm mc ms n) (hp : PreS s H Pc As)
    (hg : g.method = m) (hn : As.length = n) (hsize : g.locals.size = nL) (hstack : g.stack = As.reverse ++ rest) (hW : 2 * g.monitorRoom + (rest.map fun v => v.category).sum ≤ 8) (hdg : decode cc g.pc = .ok (.invokestatic index, 3)) (hf : cells + mc ≤ R.cells ∧ slots + ms ≤ R.slots) :
    va_Run p l e R s m args below meth c H locs cells slots mc ms g rest (Qc As.toArray) (free) := by
  obtain ⟨⟨hrc, hrs, hfr, hlo, hws, hcw⟩, hcode, hini, hy, hlen, hl, hstt⟩ := cw
  have hK : Back l R p e below s args y 3 8 (PreOf R mc ms Pc) (PostOf Qc mc ms free) := va_backW (hh := hh) (bytes := bytes) (maxL := maxL) (ret := ret) hM hp.1 hrc hrs hfr hlo hws hcw (fun a' U hW => word_at hW (Or.inl (by first | rfl | simp [Cond.onTables, Cond.keeps, Cond.steady])) hini)
  obtain ⟨hx, hb, hml, ho, -⟩ := S
  intro T hT X
  obtain ⟨v, vm₁, ⟨U', l2, c2, s2⟩, hW₁, X', ⟨g', mk, t, L, e1, e2, hq, h1, hL, h2, h3⟩, st⟩ := vx_callSW X hx (hh := hh) (bytes := bytes) (maxL := maxL) (ret := ret) ho hl hstt hini hcode hy hK hg (hsize.trans hml.symm) (argsL := As) (rest := rest) (fun sig h => hn.trans (hlen sig h)) hstack hW (by rw [hb]; exact hdg)
    (fun vm₁ hW₁ => ⟨hf.1, hf.2, hp.2 (T.setVm vm₁) hT hW₁⟩)
  dsimp only [Pt.U, Pt.locs, Pt.cells, Pt.slots] at X' e1 e2 h1 h2 h3 st
  subst h1; subst h2; subst h3
  exact ⟨v, (T.setVm vm₁).calling g' mk As.toArray, t, U', L, hT, X', hL, e1, e2, hq, st⟩
/-- a thing of a world lies in the heap -/
theorem vx_lt {D : va_G} {cl : List vw_C} {ws : va_W} {H1 : Heap} (h : va_P D cl ws H1) {k : Nat} {q : Nat × va_E} (hk : ws[k]? = some q) : q.1 < H1.size := (h k q hk).lt
end VXS
/-! ===== END ===== -/
/-! ===== BEGIN methods with a table of their own: called by a name, returning or throwing ===== -/
section VXH
/-! vx_backW, vx_callVX, vx_callSX, vx_callVW, vx_runVW, vx_runVX, vx_runSX, vx_ofWH follow the same proofs as their sisters above (Free/Laws.lean, Shelf42/LK1.lean); vx_outP calls Shelf42/NT130.lean (outThrough). -/
section
variable {l : Launch} {R : Room} {p : Program} {e : Env} {below : List Frame} {s : State} {sargs : Array Value} {y : MethodName} {len W9 : Nat}
theorem vx_backW {ws : List Cond} {rm : Room} {Pc : Array Value → State → Prop} {Qc : Array Value → State → Outcome → State → Prop} {XC : String → State → State → Prop} {mc ms : Nat} {free : Addr → Prop} {bytes : ByteArray} {maxL : Nat} {ret : Option FieldType} {hh : List (Nat × Nat × Nat × Nat)}
    (hM : vx_Met l y ws rm Pc Qc XC mc ms free) (hblind : FrameBlind Pc) (hrc : rm.cells = mc) (hrs : rm.slots = ms)
    (hframes : rm.frames + 1 ≤ R.frames) (hlocals : W9 + (maxL + 11) + rm.locals ≤ R.locals)
    (hws : ∀ w ∈ ws, ∀ a' U, s.WarmedH U.vm → w.before a' U = true) (hcode : Cond.codeWith y bytes maxL ret hh ∈ ws) (hinit : ∀ a' U, s.WarmedH U.vm → (Cond.initialized y.cls).before a' U = true) :
    vx_Back l R p e below s sargs y len W9 (PreOf R mc ms Pc) (PostOf Qc mc ms free) (vx_Post XC mc ms free) := by
  intro m meth c A g ig mk a X hg hsize hdg hW hn hp
  have h1 : (headSpec ws rm).pre.before a A.U = true := atoms_intro fun w hw => hws w hw _ _ X.warmed
  have h2 : (Cond.codeWith y bytes maxL ret hh).before a A.U = true := hws _ hcode _ _ X.warmed
  have h3 : (Cond.initialized y.cls).before a A.U = true := hinit _ _ X.warmed
  have h4 : A.cells + (headSpec ws rm).room.cells ≤ R.cells := by rw [show (headSpec ws rm).room.cells = mc from hrc]; exact hp.1
  have h5 : A.slots + (headSpec ws rm).room.slots ≤ R.slots := by rw [show (headSpec ws rm).room.slots = ms from hrs]; exact hp.2.1
  have hPc : Pc a (A.U.calling g mk a) := hblind _ _ _ _ hp.2.2
  obtain ⟨U, Ls, c0, s0⟩ := A
  dsimp only [Pt.U, Pt.locs, Pt.cells, Pt.slots] at h1 h2 h3 h4 h5 X hn hPc ⊢
  obtain ⟨m9, methY, cY, hn9, hmY, hcY, -, hlY, -⟩ := Cond.codeWith_spec h2
  cases Option.some.inj (hn9.symm.trans hn)
  obtain ⟨kY, hkY, -⟩ := className_of_methodNamed hn
  have hinitY : kY.init = .initialized := Cond.initialized_spec (findClass_of_methodNamed hn) hkY h3
  have h : At U g.method c below := by rw [hg]; exact X.here
  have hlocals9 : W9 + (maxL + 11) + (headSpec ws rm).room.locals ≤ R.locals := hlocals
  have happ : (headSpec ws rm).appliesLoose y e.platform (U.calling g mk a) = true :=
    Spec.appliesLoose_calling (g := g) h hdg hn hkY hinitY
      (X.room_calling (g := g) (R' := (headSpec ws rm).room) hsize hmY hcY hframes (by rw [hlY]; omega) h4 h5) h1
  obtain ⟨mid, hmid⟩ := h.above
  have hfr : (U.setTop g).frames = (.java g :: mid) ++ below := by rw [State.frames_setTop' g h.top, hmid]; rfl
  obtain ⟨o, s₂, hsteps, -, hend, hq⟩ := Steps.callFree hM p X.admits X.cas X.clock (acts := []) hfr happ hPc trivial
  have hq' : vx_Q Qc XC mc ms free a (U.calling g mk a) o s₂ := hq
  rw [State.frames_setTop' g h.top] at hend
  obtain ⟨g₀, hg0⟩ := Option.isSome_iff_exists.mp h.top
  obtain ⟨r, hr⟩ := State.topJava?_eq_some.mp hg0
  have hr' : (({ U with heap := s₂.heap, slotsUsed := s₂.slotsUsed } : State).setVm s₂.vm).frames = .java g₀ :: r := hr
  rcases hq' with ⟨hqc, L, hfe, hL⟩ | ⟨q, rfl, E, ce, L, hx, hce, hcv, hcl, hW₂, hsm, hL⟩
  · obtain ⟨⟨v, rfl⟩, hW₂, e2, q2, q3, q4, q5, q6⟩ := id hfe
    have e3 : s₂ = ({ (U.calling g mk a).setFrames s₂.frames with heap := s₂.heap, slotsUsed := s₂.slotsUsed } : State).setVm s₂.vm := by
      have : s₂ = ({ s₂ with vm := (U.calling g mk a).vm } : State).setVm s₂.vm := rfl
      rw [e2] at this
      exact this
    obtain ⟨c₂, i₂, len₂, hc₂, hd₂, hf₂⟩ := hend
    have hW' : U.WarmedH s₂.vm := hW₂
    have hcc : c₂ = c := by
      have h1 : s₂.code? g.method = U.code? g.method := by
        rw [State.code?_eq, State.code?_eq, hW'.alike.method?]
      exact Option.some.inj (hc₂.symm.trans (h1.trans h.code))
    subst hcc
    have hlen : len₂ = len := by rw [hdg] at hd₂; cases hd₂; rfl
    subst hlen
    have hs₂ : s₂ = (({ U with heap := s₂.heap, slotsUsed := s₂.slotsUsed } : State).setVm s₂.vm).setTop { g with pc := g.pc + len₂, stack := v.toList ++ g.stack } := by
      refine e3.trans ?_
      rw [hf₂, State.calling_eq h.top, State.setFrames_setFrames, State.setTop_of_frames _ hr', hr]
      rfl
    have hsame : U.sameButNew ({ U with heap := s₂.heap, slotsUsed := s₂.slotsUsed } : State) L mc ms := by
      refine ⟨?_, q2, q3, q4, q5, q6⟩
      obtain ⟨t, ht, -⟩ := State.frames_cons hr
      show ({ U with heap := s₂.heap, slotsUsed := s₂.slotsUsed } : State) = { U.setFrames U.frames with heap := s₂.heap, slotsUsed := s₂.slotsUsed }
      rw [State.setFrames_self ht]
    subst hg
    refine Or.inl ⟨v, ⟨(({ U with heap := s₂.heap, slotsUsed := s₂.slotsUsed } : State).setVm s₂.vm), Ls ++ L, c0 + mc, s0 + ms⟩,
      ⟨X.admits, X.cas, X.clock, X.frames, X.room, X.hears, X.method, X.code, (X.here.setHeapUsed s₂.heap s₂.slotsUsed).setVm hW'.alike, X.tail, State.WarmedH.trans X.warmed hW', X.limits, X.bytes, X.same.trans (hsame.setVm s.vm)⟩,
      ⟨g, mk, s₂, L, rfl, rfl, hqc, rfl, hL, rfl, rfl⟩, ?_⟩
    show Steps p.tables e below _ ((({ U with heap := s₂.heap, slotsUsed := s₂.slotsUsed } : State).setVm s₂.vm).setTop { g with pc := g.pc + len₂, stack := v.toList ++ g.stack })
    rw [← hs₂]
    exact hsteps
  · obtain ⟨e2, q2, q3, q4, q5, q6⟩ := id hsm
    have e3 : s₂ = ({ (U.calling g mk a).setFrames s₂.frames with heap := s₂.heap, slotsUsed := s₂.slotsUsed } : State).setVm s₂.vm := by
      have : s₂ = ({ s₂ with vm := (U.calling g mk a).vm } : State).setVm s₂.vm := rfl
      rw [e2] at this
      exact this
    have hf₂ : s₂.frames = .throwing q :: .java g :: U.frames.tail := hend
    have hW' : U.WarmedH s₂.vm := hW₂
    have hs₂ : s₂ = ((({ U with heap := s₂.heap, slotsUsed := s₂.slotsUsed } : State).setVm s₂.vm).setTop g).pushFrame (.throwing q) := by
      refine e3.trans ?_
      rw [hf₂, State.calling_eq h.top, State.setFrames_setFrames, State.pushFrame, State.frames_setTop _ hr', State.setTop_of_frames _ hr', State.setFrames_setFrames, hr]
      rfl
    have hsame : U.sameButNew ({ U with heap := s₂.heap, slotsUsed := s₂.slotsUsed } : State) L mc ms := by
      refine ⟨?_, q2, q3, q4, q5, q6⟩
      obtain ⟨t, ht, -⟩ := State.frames_cons hr
      show ({ U with heap := s₂.heap, slotsUsed := s₂.slotsUsed } : State) = { U.setFrames U.frames with heap := s₂.heap, slotsUsed := s₂.slotsUsed }
      rw [State.setFrames_self ht]
    subst hg
    refine Or.inr ⟨q, ⟨(({ U with heap := s₂.heap, slotsUsed := s₂.slotsUsed } : State).setVm s₂.vm), Ls ++ L, c0 + mc, s0 + ms⟩,
      ⟨X.admits, X.cas, X.clock, X.frames, X.room, X.hears, X.method, X.code, (X.here.setHeapUsed s₂.heap s₂.slotsUsed).setVm hW'.alike, X.tail, State.WarmedH.trans X.warmed hW', X.limits, X.bytes, X.same.trans (hsame.setVm s.vm)⟩,
      ⟨g, mk, s₂, L, E, ce, rfl, rfl, hx, hce, hcv, hcl, rfl, hL, rfl, rfl⟩, ?_⟩
    show Steps p.tables e below _ (((({ U with heap := s₂.heap, slotsUsed := s₂.slotsUsed } : State).setVm s₂.vm).setTop g).pushFrame (.throwing q))
    rw [← hs₂]
    exact hsteps
end
variable {p : Program} {l : Launch} {e : Env} {R : Room} {s : State} {m : MethodId} {args : Array Value} {below : List Frame} {meth : Method} {c : Code} {T : State} {H : Heap} {locs : List Loc} {cells slots : Nat}
theorem vx_callVX (X : Stand p l e R s m args below meth c T locs cells slots) (hexec : p.tables.exec = Jvm.exec) {own C : String} {index : Nat} {y : MethodName} {bytes : ByteArray} {maxL : Nat} {ret : Option FieldType} {hh : List (Nat × Nat × Nat × Nat)}
    (hown : s.vm.findClass own = some m.cls) (hlink : (Cond.methodLink own index y).before args s = true) (hinst : (Cond.instanceMethod y).before args s = true) (hsel : (Cond.selects C y y).before args s = true)
    (hcode : (Cond.codeWith y bytes maxL ret hh).before args s = true) (hy : y.cls ≠ "java/lang/invoke/MethodHandle" ∧ y.cls ≠ "java/lang/invoke/VarHandle")
    {W9 : Nat} {Pre : Pt → Array Value → Prop} {Post : Pt → Array Value → Option Value → Pt → Prop} {PostX : Pt → Array Value → Addr → Pt → Prop} (hK : vx_Back l R p e below s args y 3 W9 Pre Post PostX)
    {b : Addr} {cellB : Cell} (hcell : T.heap[b]? = some cellB) (hobj : cellB.vm.isStatics = false) (hcls : s.vm.findClass C = some cellB.cls)
    {g : JFrame} (hg : g.method = m) (hsize : g.locals.size = c.maxLocals) {argsL rest : List Value} (hlen : ∀ sig, parseMethodDescriptor y.desc = some sig → argsL.length = sig.parameters.length)
    (hstack : g.stack = argsL.reverse ++ .ref b :: rest) (hW : 2 * g.monitorRoom + (rest.map fun v => v.category).sum ≤ W9) (hdg : decode c.code g.pc = .ok (.invokevirtual index, 3))
    (hpre : ∀ vm₁, s.WarmedH vm₁ → Pre ⟨T.setVm vm₁, locs, cells, slots⟩ (Value.ref b :: argsL).toArray) :
    (∃ (v : Option Value) (vm₁ : Vm) (B : Pt), s.WarmedH vm₁ ∧ Stand p l e R s m args below meth c B.U B.locs B.cells B.slots ∧ Post ⟨T.setVm vm₁, locs, cells, slots⟩ (Value.ref b :: argsL).toArray v B ∧
      ∀ target, Steps p.tables e below (B.U.setTop { g with pc := g.pc + 3, stack := v.toList ++ rest }) target → Steps p.tables e below (T.setTop g) target) ∨
    (∃ (q : Addr) (vm₁ : Vm) (B : Pt), s.WarmedH vm₁ ∧ Stand p l e R s m args below meth c B.U B.locs B.cells B.slots ∧ PostX ⟨T.setVm vm₁, locs, cells, slots⟩ (Value.ref b :: argsL).toArray q B ∧
      Steps p.tables e below (T.setTop g) ((B.U.setTop { g with stack := rest }).pushFrame (.throwing q))) := by
  obtain ⟨mk, methM, hnamed, hmethM, hstM, habM⟩ := Cond.instanceMethod_spec hinst
  obtain ⟨m8, methM', cM, hn8, hmethM', -, -, -, -, -, -, hsigM⟩ := Cond.codeWith_spec hcode
  cases Option.some.inj (hn8.symm.trans hnamed)
  cases hmethM.symm.trans hmethM'
  obtain ⟨c2, r2, m2, q1, q2, q3, q4, kP, hkP, hkPi⟩ := Cond.selects_spec hsel
  cases hcls.symm.trans q1
  cases (State.methodFound?_of_named hnamed hy).symm.trans q2
  cases hnamed.symm.trans q3
  have hselP : selectMethod e.platform s.vm cellB.cls mk = .method mk := by rw [Launch.admits_selectMethod X.admits]; exact q4
  obtain ⟨vm₁, X₁, hstep₁⟩ := X.invokevirtual hexec hown hlink hnamed hmethM hstM hkP hkPi hy (a := b) (cell := cellB) hcell
    (fun z h => by rw [h] at hobj; cases hobj) hselP hmethM habM hkP hkPi (g := g) hg (argsL := argsL) (rest := rest) (hlen _ hsigM) hstack hdg
  rcases hK m meth c ⟨T.setVm vm₁, locs, cells, slots⟩ { g with stack := rest } (.invokevirtual index) mk (Value.ref b :: argsL).toArray X₁ hg hsize hdg hW (X₁.named hnamed) (hpre vm₁ X₁.warmed) with ⟨v, B, X', hpost, hsteps⟩ | ⟨q, B, X', hpost, hsteps⟩
  · exact Or.inl ⟨v, vm₁, B, X₁.warmed, X', hpost, fun target h => hstep₁ _ fun acts => by rw [doInvoke_state]; exact hsteps.trans h⟩
  · exact Or.inr ⟨q, vm₁, B, X₁.warmed, X', hpost, hstep₁ _ fun acts => by rw [doInvoke_state]; exact hsteps⟩
theorem vx_callSX (X : Stand p l e R s m args below meth c T locs cells slots) (hexec : p.tables.exec = Jvm.exec) {own : String} {index : Nat} {y : MethodName} {bytes : ByteArray} {maxL : Nat} {ret : Option FieldType} {hh : List (Nat × Nat × Nat × Nat)}
    (hown : s.vm.findClass own = some m.cls) (hlink : (Cond.methodLink own index y).before args s = true) (hstat : (Cond.static y).before args s = true) (hinit : (Cond.initialized y.cls).before args s = true)
    (hcode : (Cond.codeWith y bytes maxL ret hh).before args s = true) (hy : y.cls ≠ "java/lang/invoke/MethodHandle" ∧ y.cls ≠ "java/lang/invoke/VarHandle")
    {W9 : Nat} {Pre : Pt → Array Value → Prop} {Post : Pt → Array Value → Option Value → Pt → Prop} {PostX : Pt → Array Value → Addr → Pt → Prop} (hK : vx_Back l R p e below s args y 3 W9 Pre Post PostX)
    {g : JFrame} (hg : g.method = m) (hsize : g.locals.size = c.maxLocals) {argsL rest : List Value} (hlen : ∀ sig, parseMethodDescriptor y.desc = some sig → argsL.length = sig.parameters.length)
    (hstack : g.stack = argsL.reverse ++ rest) (hW : 2 * g.monitorRoom + (rest.map fun v => v.category).sum ≤ W9) (hdg : decode c.code g.pc = .ok (.invokestatic index, 3))
    (hpre : ∀ vm₁, s.WarmedH vm₁ → Pre ⟨T.setVm vm₁, locs, cells, slots⟩ argsL.toArray) :
    (∃ (v : Option Value) (vm₁ : Vm) (B : Pt), s.WarmedH vm₁ ∧ Stand p l e R s m args below meth c B.U B.locs B.cells B.slots ∧ Post ⟨T.setVm vm₁, locs, cells, slots⟩ argsL.toArray v B ∧
      ∀ target, Steps p.tables e below (B.U.setTop { g with pc := g.pc + 3, stack := v.toList ++ rest }) target → Steps p.tables e below (T.setTop g) target) ∨
    (∃ (q : Addr) (vm₁ : Vm) (B : Pt), s.WarmedH vm₁ ∧ Stand p l e R s m args below meth c B.U B.locs B.cells B.slots ∧ PostX ⟨T.setVm vm₁, locs, cells, slots⟩ argsL.toArray q B ∧
      Steps p.tables e below (T.setTop g) ((B.U.setTop { g with stack := rest }).pushFrame (.throwing q))) := by
  obtain ⟨mk, methM, cM, hnamed, hmethM, -, -, -, -, -, -, hsigM⟩ := Cond.codeWith_spec hcode
  have hstatic : methM.isStatic = true := Cond.static_spec hnamed hmethM hstat
  obtain ⟨kP, hkP, -⟩ := className_of_methodNamed hnamed
  have hinitP : kP.init = .initialized := Cond.initialized_spec (findClass_of_methodNamed hnamed) hkP hinit
  obtain ⟨vm₁, X₁, hstep₁⟩ := X.invokestatic hexec hown hlink hnamed hmethM hstatic hkP hinitP hy (g := g) hg (argsL := argsL) (rest := rest) (hlen _ hsigM) hstack hdg
  rcases hK m meth c ⟨T.setVm vm₁, locs, cells, slots⟩ { g with stack := rest } (.invokestatic index) mk argsL.toArray X₁ hg hsize hdg hW (X₁.named hnamed) (hpre vm₁ X₁.warmed) with ⟨v, B, X', hpost, hsteps⟩ | ⟨q, B, X', hpost, hsteps⟩
  · exact Or.inl ⟨v, vm₁, B, X₁.warmed, X', hpost, fun target h => hstep₁ _ fun acts => by rw [doInvoke_state]; exact hsteps.trans h⟩
  · exact Or.inr ⟨q, vm₁, B, X₁.warmed, X', hpost, hstep₁ _ fun acts => by rw [doInvoke_state]; exact hsteps⟩
theorem vx_callVW (X : Stand p l e R s m args below meth c T locs cells slots) (hexec : p.tables.exec = Jvm.exec) {own C : String} {index : Nat} {y : MethodName} {bytes : ByteArray} {maxL : Nat} {ret : Option FieldType} {hh : List (Nat × Nat × Nat × Nat)}
    (hown : s.vm.findClass own = some m.cls) (hlink : (Cond.methodLink own index y).before args s = true) (hinst : (Cond.instanceMethod y).before args s = true) (hsel : (Cond.selects C y y).before args s = true)
    (hcode : (Cond.codeWith y bytes maxL ret hh).before args s = true) (hy : y.cls ≠ "java/lang/invoke/MethodHandle" ∧ y.cls ≠ "java/lang/invoke/VarHandle")
    {W9 : Nat} {Pre : Pt → Array Value → Prop} {Post : Pt → Array Value → Option Value → Pt → Prop} (hK : Back l R p e below s args y 3 W9 Pre Post)
    {b : Addr} {cellB : Cell} (hcell : T.heap[b]? = some cellB) (hobj : cellB.vm.isStatics = false) (hcls : s.vm.findClass C = some cellB.cls)
    {g : JFrame} (hg : g.method = m) (hsize : g.locals.size = c.maxLocals) {argsL rest : List Value} (hlen : ∀ sig, parseMethodDescriptor y.desc = some sig → argsL.length = sig.parameters.length)
    (hstack : g.stack = argsL.reverse ++ .ref b :: rest) (hW : 2 * g.monitorRoom + (rest.map fun v => v.category).sum ≤ W9) (hdg : decode c.code g.pc = .ok (.invokevirtual index, 3))
    (hpre : ∀ vm₁, s.WarmedH vm₁ → Pre ⟨T.setVm vm₁, locs, cells, slots⟩ (Value.ref b :: argsL).toArray) :
    ∃ (v : Option Value) (vm₁ : Vm) (B : Pt), s.WarmedH vm₁ ∧ Stand p l e R s m args below meth c B.U B.locs B.cells B.slots ∧ Post ⟨T.setVm vm₁, locs, cells, slots⟩ (Value.ref b :: argsL).toArray v B ∧
      ∀ target, Steps p.tables e below (B.U.setTop { g with pc := g.pc + 3, stack := v.toList ++ rest }) target → Steps p.tables e below (T.setTop g) target := by
  obtain ⟨mk, methM, hnamed, hmethM, hstM, habM⟩ := Cond.instanceMethod_spec hinst
  obtain ⟨m8, methM', cM, hn8, hmethM', -, -, -, -, -, -, hsigM⟩ := Cond.codeWith_spec hcode
  cases Option.some.inj (hn8.symm.trans hnamed)
  cases hmethM.symm.trans hmethM'
  obtain ⟨c2, r2, m2, q1, q2, q3, q4, kP, hkP, hkPi⟩ := Cond.selects_spec hsel
  cases hcls.symm.trans q1
  cases (State.methodFound?_of_named hnamed hy).symm.trans q2
  cases hnamed.symm.trans q3
  have hselP : selectMethod e.platform s.vm cellB.cls mk = .method mk := by rw [Launch.admits_selectMethod X.admits]; exact q4
  obtain ⟨vm₁, X₁, hstep₁⟩ := X.invokevirtual hexec hown hlink hnamed hmethM hstM hkP hkPi hy (a := b) (cell := cellB) hcell
    (fun z h => by rw [h] at hobj; cases hobj) hselP hmethM habM hkP hkPi (g := g) hg (argsL := argsL) (rest := rest) (hlen _ hsigM) hstack hdg
  obtain ⟨v, B, X', hpost, hsteps⟩ := hK m meth c ⟨T.setVm vm₁, locs, cells, slots⟩ { g with stack := rest } (.invokevirtual index) mk (Value.ref b :: argsL).toArray X₁ hg hsize hdg hW (X₁.named hnamed) (hpre vm₁ X₁.warmed)
  exact ⟨v, vm₁, B, X₁.warmed, X', hpost, fun target h => hstep₁ _ fun acts => by rw [doInvoke_state]; exact hsteps.trans h⟩
abbrev vx_CVW (R : Room) (s : State) (args : Array Value) (own C : String) (index : Nat) (y : MethodName) (bytes : ByteArray) (maxL : Nat) (ret : Option FieldType) (hh : List (Nat × Nat × Nat × Nat)) (ws : List Cond) (rm : Room) (mc ms n : Nat) : Prop :=
  (rm.cells = mc ∧ rm.slots = ms ∧ rm.frames + 1 ≤ R.frames ∧ 8 + (maxL + 11) + rm.locals ≤ R.locals ∧ (∀ w ∈ ws, ∀ (a' : Array Value) (U : State), s.WarmedH U.vm → w.before a' U = true) ∧ Cond.codeWith y bytes maxL ret hh ∈ ws) ∧
  (Cond.codeWith y bytes maxL ret hh).before args s = true ∧ (Cond.initialized y.cls).before args s = true ∧ (y.cls ≠ "java/lang/invoke/MethodHandle" ∧ y.cls ≠ "java/lang/invoke/VarHandle") ∧
  (∀ sig, parseMethodDescriptor y.desc = some sig → n = sig.parameters.length) ∧ (Cond.methodLink own index y).before args s = true ∧ (Cond.instanceMethod y).before args s = true ∧ (Cond.selects C y y).before args s = true
theorem vx_cwVW {own C : String} {index maxL mc ms : Nat} {y : MethodName} {bytes : ByteArray} {ret : Option FieldType} {hh : List (Nat × Nat × Nat × Nat)} {Ts ws ws' : List Cond} {rm : Room} (n : Nat) (ht : ∀ w ∈ Ts, w.before args s = true) (hT : GoodIn Ts (wsV own index C y ws)) (hw : ws = Cond.codeWith y bytes maxL ret hh :: ws') (hrc : rm.cells = mc) (hrs : rm.slots = ms)
    (hd : y.cls = C ∧ y.cls ≠ "java/lang/invoke/MethodHandle" ∧ y.cls ≠ "java/lang/invoke/VarHandle" ∧ (parseMethodDescriptor y.desc).map (fun d => d.parameters.length) = some n) (hR : rm.frames + 1 ≤ R.frames ∧ 8 + (maxL + 11) + rm.locals ≤ R.locals) :
    vx_CVW R s args own C index y bytes maxL ret hh ws rm mc ms n := by
  obtain ⟨hC, hd⟩ := hd
  subst hC
  have ok : ∀ w ∈ wsV own index y.cls y ws, w.before args s = true := fun w h => ht w (hT w h).1
  have hG : GoodIn Ts ws := fun w h => hT w (by unfold wsV; exact List.mem_append_right _ h)
  have hc : Cond.codeWith y bytes maxL ret hh ∈ ws := by rw [hw]; exact List.mem_cons_self
  refine ⟨⟨hrc, hrs, hR.1, hR.2, pay_in ht hG, hc⟩, ht _ (hG _ hc).1, ok _ (by simp [wsV]), ⟨hd.1, hd.2.1⟩, fun sig h => ?_, ok _ (by simp [wsV]), ok _ (by simp [wsV]), ok _ (by simp [wsV])⟩
  have h2 := hd.2.2
  rw [h] at h2
  exact (Option.some.inj h2).symm
theorem vx_runVW {y : MethodName} {bytes cc : ByteArray} {maxL nL mc ms n index : Nat} {ret : Option FieldType} {hh : List (Nat × Nat × Nat × Nat)} {ws : List Cond} {rm : Room} {Pc : Array Value → State → Prop} {Qc : Array Value → State → Outcome → State → Prop} {free : Addr → Prop} {Ts : List Cond} {own C : String} {b : Addr} {As rest : List Value} {g : JFrame}
    (S : CallFix p m c cc nL s args Ts own) (hM : Met l y ws rm Pc Qc mc ms free) (cw : vx_CVW R s args own C index y bytes maxL ret hh ws rm mc ms n) (hp : PreV s H C b Pc As)
    (hg : g.method = m) (hn : As.length = n) (hsize : g.locals.size = nL) (hstack : g.stack = As.reverse ++ .ref b :: rest) (hW : 2 * g.monitorRoom + (rest.map fun v => v.category).sum ≤ 8) (hdg : decode cc g.pc = .ok (.invokevirtual index, 3)) (hf : cells + mc ≤ R.cells ∧ slots + ms ≤ R.slots) :
    va_Run p l e R s m args below meth c H locs cells slots mc ms g rest (Qc (Value.ref b :: As).toArray) free := by
  obtain ⟨⟨hrc, hrs, hfr, hlo, hws, hcw⟩, hcode, hini, hy, hlen, hl, hin, hse⟩ := cw
  have hK : Back l R p e below s args y 3 8 (PreOf R mc ms Pc) (PostOf Qc mc ms free) := va_backW (hh := hh) (bytes := bytes) (maxL := maxL) (ret := ret) hM hp.1 hrc hrs hfr hlo hws hcw (fun a' U hW => word_at hW (Or.inl (by first | rfl | simp [Cond.onTables, Cond.keeps, Cond.steady])) hini)
  obtain ⟨hx, hb, hml, ho, -⟩ := S
  obtain ⟨-, ⟨cellB, hcB, hoB, hclB⟩, hPc⟩ := hp
  intro T hT X
  obtain ⟨v, vm₁, ⟨U', l2, c2, s2⟩, hW₁, X', ⟨g', mk, t, L, e1, e2, hq, h1, hL, h2, h3⟩, st⟩ := vx_callVW X hx (C := C) (hh := hh) (bytes := bytes) (maxL := maxL) (ret := ret) ho hl hin hse hcode hy hK (by rw [hT]; exact hcB) hoB hclB hg (hsize.trans hml.symm) (argsL := As) (rest := rest) (fun sig h => hn.trans (hlen sig h)) hstack hW (by rw [hb]; exact hdg)
    (fun vm₁ hW₁ => ⟨hf.1, hf.2, hPc (T.setVm vm₁) hT hW₁⟩)
  dsimp only [Pt.U, Pt.locs, Pt.cells, Pt.slots] at X' e1 e2 h1 h2 h3 st
  subst h1; subst h2; subst h3
  exact ⟨v, (T.setVm vm₁).calling g' mk (Value.ref b :: As).toArray, t, U', L, hT, X', hL, e1, e2, hq, st⟩
section
variable {y : MethodName} {bytes cc : ByteArray} {maxL nL mc ms n index : Nat} {ret : Option FieldType} {ws : List Cond} {rm : Room} {Pc : Array Value → State → Prop} {Qc : Array Value → State → Outcome → State → Prop} {XC : String → State → State → Prop} {free : Addr → Prop} {Ts : List Cond} {own C : String} {b : Addr} {As rest : List Value} {g : JFrame}
theorem vx_runVX {hh : List (Nat × Nat × Nat × Nat)} (S : CallFix p m c cc nL s args Ts own) (hM : vx_Met l y ws rm Pc Qc XC mc ms free) (cw : vx_CVW R s args own C index y bytes maxL ret hh ws rm mc ms n) (hp : PreV s H C b Pc As)
    (hg : g.method = m) (hn : As.length = n) (hsize : g.locals.size = nL) (hstack : g.stack = As.reverse ++ .ref b :: rest) (hW : 2 * g.monitorRoom + (rest.map fun v => v.category).sum ≤ 8) (hdg : decode cc g.pc = .ok (.invokevirtual index, 3)) (hf : cells + mc ≤ R.cells ∧ slots + ms ≤ R.slots) :
    vx_Run p l e R s m args below meth c H locs cells slots mc ms g rest (Qc (Value.ref b :: As).toArray) XC free := by
  obtain ⟨⟨hrc, hrs, hfr, hlo, hws, hcw⟩, hcode, hini, hy, hlen, hl, hin, hse⟩ := cw
  have hK : vx_Back l R p e below s args y 3 8 (PreOf R mc ms Pc) (PostOf Qc mc ms free) (vx_Post XC mc ms free) := vx_backW (hh := hh) (bytes := bytes) (maxL := maxL) (ret := ret) hM hp.1 hrc hrs hfr hlo hws hcw (fun a' U hW => word_at hW (Or.inl (by first | rfl | simp [Cond.onTables, Cond.keeps, Cond.steady])) hini)
  obtain ⟨hx, hb, hml, ho, -⟩ := S
  obtain ⟨-, ⟨cellB, hcB, hoB, hclB⟩, hPc⟩ := hp
  intro T hT X
  rcases vx_callVX X hx (C := C) (hh := hh) (bytes := bytes) (maxL := maxL) (ret := ret) ho hl hin hse hcode hy hK (by rw [hT]; exact hcB) hoB hclB hg (hsize.trans hml.symm) (argsL := As) (rest := rest) (fun sig h => hn.trans (hlen sig h)) hstack hW (by rw [hb]; exact hdg)
    (fun vm₁ hW₁ => ⟨hf.1, hf.2, hPc (T.setVm vm₁) hT hW₁⟩) with ⟨v, vm₁, ⟨U', l2, c2, s2⟩, hW₁, X', ⟨g', mk, t, L, e1, e2, hq, h1, hL, h2, h3⟩, st⟩ | ⟨q, vm₁, ⟨U', l2, c2, s2⟩, hW₁, X', ⟨g', mk, t, L, E, ce, e1, e2, hq, hce, hcv, hcl, h1, hL, h2, h3⟩, st⟩
  · dsimp only [Pt.U, Pt.locs, Pt.cells, Pt.slots] at X' e1 e2 h1 h2 h3 st
    subst h1; subst h2; subst h3
    exact Or.inl ⟨v, (T.setVm vm₁).calling g' mk (Value.ref b :: As).toArray, t, U', L, hT, X', hL, e1, e2, hq, st⟩
  · dsimp only [Pt.U, Pt.locs, Pt.cells, Pt.slots] at X' e1 e2 h1 h2 h3 st hcl
    subst h1; subst h2; subst h3
    exact Or.inr ⟨q, (T.setVm vm₁).calling g' mk (Value.ref b :: As).toArray, t, U', L, E, ce, hT, X', hL, e1, e2, hq, hce, hcv, vx_cls hW₁ hcl, st⟩
theorem vx_runSX {hh : List (Nat × Nat × Nat × Nat)} (S : CallFix p m c cc nL s args Ts own) (hM : vx_Met l y ws rm Pc Qc XC mc ms free) (cw : vx_CSW R s args own index y bytes maxL ret hh ws rm mc ms n) (hp : PreS s H Pc As)
    (hg : g.method = m) (hn : As.length = n) (hsize : g.locals.size = nL) (hstack : g.stack = As.reverse ++ rest) (hW : 2 * g.monitorRoom + (rest.map fun v => v.category).sum ≤ 8) (hdg : decode cc g.pc = .ok (.invokestatic index, 3)) (hf : cells + mc ≤ R.cells ∧ slots + ms ≤ R.slots) :
    vx_Run p l e R s m args below meth c H locs cells slots mc ms g rest (Qc As.toArray) XC free := by
  obtain ⟨⟨hrc, hrs, hfr, hlo, hws, hcw⟩, hcode, hini, hy, hlen, hl, hstt⟩ := cw
  have hK : vx_Back l R p e below s args y 3 8 (PreOf R mc ms Pc) (PostOf Qc mc ms free) (vx_Post XC mc ms free) := vx_backW (hh := hh) (bytes := bytes) (maxL := maxL) (ret := ret) hM hp.1 hrc hrs hfr hlo hws hcw (fun a' U hW => word_at hW (Or.inl (by first | rfl | simp [Cond.onTables, Cond.keeps, Cond.steady])) hini)
  obtain ⟨hx, hb, hml, ho, -⟩ := S
  intro T hT X
  rcases vx_callSX X hx (hh := hh) (bytes := bytes) (maxL := maxL) (ret := ret) ho hl hstt hini hcode hy hK hg (hsize.trans hml.symm) (argsL := As) (rest := rest) (fun sig h => hn.trans (hlen sig h)) hstack hW (by rw [hb]; exact hdg)
    (fun vm₁ hW₁ => ⟨hf.1, hf.2, hp.2 (T.setVm vm₁) hT hW₁⟩) with ⟨v, vm₁, ⟨U', l2, c2, s2⟩, hW₁, X', ⟨g', mk, t, L, e1, e2, hq, h1, hL, h2, h3⟩, st⟩ | ⟨q, vm₁, ⟨U', l2, c2, s2⟩, hW₁, X', ⟨g', mk, t, L, E, ce, e1, e2, hq, hce, hcv, hcl, h1, hL, h2, h3⟩, st⟩
  · dsimp only [Pt.U, Pt.locs, Pt.cells, Pt.slots] at X' e1 e2 h1 h2 h3 st
    subst h1; subst h2; subst h3
    exact Or.inl ⟨v, (T.setVm vm₁).calling g' mk As.toArray, t, U', L, hT, X', hL, e1, e2, hq, st⟩
  · dsimp only [Pt.U, Pt.locs, Pt.cells, Pt.slots] at X' e1 e2 h1 h2 h3 st hcl
    subst h1; subst h2; subst h3
    exact Or.inr ⟨q, (T.setVm vm₁).calling g' mk As.toArray, t, U', L, E, ce, hT, X', hL, e1, e2, hq, hce, hcv, vx_cls hW₁ hcl, st⟩
end
end VXH
theorem vx_ofWH {l : Launch} {y : MethodName} {ws ws' : List Cond} {rm : Room} {Pc : Array Value → State → Prop} {Qc : Array Value → State → Outcome → State → Prop} {XC : String → State → State → Prop} {mc ms : Nat} {free : Addr → Prop} {cc : ByteArray} {maxL : Nat} {ret : Option FieldType} {hh : List (Nat × Nat × Nat × Nat)}
    (hy : plainName y.cls = true) (hw : ws = Cond.codeWith y cc maxL ret hh :: ws')
    (body : ∀ p e s m args below meth c s₁, BodyLoose p l y (headSpec ws rm) cc maxL ret e s m args below meth c s₁ → c.maxLocals = maxL → Pc args s →
      W p l e (headSpec ws rm).room s m args below meth c s.heap [] 0 0 (vx_MQ below Qc XC args s mc ms free) (entryFrame m args maxL)) : vx_Met l y ws rm Pc Qc XC mc ms free := by
  refine MetFree.of_bodyS (code := cc) (maxLocals := maxL) (ret := ret) hy ?_ ?_
  · intro args s m h hn
    obtain ⟨m9, meth, c, hn9, h1, h2, h3, h4, -, h5, h6, -⟩ := Cond.codeWith_spec (atoms_spec (ws := ws) h _ (by rw [hw]; exact List.mem_cons_self))
    cases hn.symm.trans hn9
    exact ⟨meth, c, h1, h2, h3, h4, h5, h6⟩
  · intro p e s m args below meth c s₁ B hml hP _
    have hh0 : s₁.heap = s.heap := by rw [B.state]; rfl
    obtain ⟨t, a1, o, b1, b2, b3⟩ := body p e s m args below meth c s₁ B hml hP s₁ hh0 (Stand.of_body B)
    exact ⟨t, o, a1, b1, b2, b3⟩
/-! ===== END ===== -/

def vx_atM (X : String) (names : List String) : List Cond := (Bundle.messageArmAtoms X names).filter vx_no
end
section
def RX0 : String := "PaneHouse$Grid"
def TX0 : u_T := fun k => match k with
  | 0 => ("PaneHouse$Grid", "width", "I", true)
  | 1 => ("PaneHouse$Grid", "height", "I", true)
  | _ => ("PaneHouse$Grid", "cells", "[I", true)
def tyX0 : Nat → FieldType := fun k => match k with
  | 0 => .int
  | 1 => .int
  | _ => .array .int
abbrev wsX00 : List Cond := u_ws RX0 TX0 3
theorem nmX0 : ∀ a, a < 3 → ∀ b, b < 3 → a ≠ b → (TX0 a).2.1 ≠ (TX0 b).2.1 := by decide +kernel
theorem tyX0_ok : ∀ k, k < 3 → parseFieldDescriptor (TX0 k).2.2.1 = some (tyX0 k) := by decide +kernel
abbrev cX0_init : ByteArray := prog_2_method_1_code
def yX0_init : MethodName := ⟨RX0, "<init>", "(II)V"⟩
abbrev cX0_keep : ByteArray := prog_2_method_2_code
def yX0_keep : MethodName := ⟨RX0, "keep", "(II)V"⟩
abbrev cX0_set : ByteArray := prog_2_method_3_code
def yX0_set : MethodName := ⟨RX0, "set", "(III)V"⟩
abbrev cX0_fill : ByteArray := prog_2_method_4_code
def yX0_fill : MethodName := ⟨RX0, "fill", "(IIII)V"⟩
abbrev cX0_give : ByteArray := prog_2_method_5_code
def yX0_give : MethodName := ⟨RX0, "give", "(II[II)V"⟩
abbrev cX0_moveRow : ByteArray := prog_2_method_6_code
def yX0_moveRow : MethodName := ⟨RX0, "moveRow", "(II)V"⟩
abbrev cX0_moveCells : ByteArray := prog_2_method_7_code
def yX0_moveCells : MethodName := ⟨RX0, "moveCells", "(IIII)V"⟩
def RX1 : String := "PaneHouse$History"
def TX1 : u_T := fun k => match k with
  | 0 => ("PaneHouse$History", "width", "I", true)
  | 1 => ("PaneHouse$History", "cells", "[I", true)
  | 2 => ("PaneHouse$History", "lengths", "[I", true)
  | 3 => ("PaneHouse$History", "oldest", "I", false)
  | _ => ("PaneHouse$History", "size", "I", false)
def tyX1 : Nat → FieldType := fun k => match k with
  | 0 => .int
  | 1 => .array .int
  | 2 => .array .int
  | 3 => .int
  | _ => .int
abbrev wsX10 : List Cond := u_ws RX1 TX1 5
theorem nmX1 : ∀ a, a < 5 → ∀ b, b < 5 → a ≠ b → (TX1 a).2.1 ≠ (TX1 b).2.1 := by decide +kernel
theorem tyX1_ok : ∀ k, k < 5 → parseFieldDescriptor (TX1 k).2.2.1 = some (tyX1 k) := by decide +kernel
abbrev cX1_init : ByteArray := prog_3_method_1_code
def yX1_init : MethodName := ⟨RX1, "<init>", "(I)V"⟩
abbrev cX1_forget : ByteArray := prog_3_method_2_code
def yX1_forget : MethodName := ⟨RX1, "forget", "()V"⟩
abbrev cX1_add : ByteArray := prog_3_method_3_code
def yX1_add : MethodName := ⟨RX1, "add", "(LPaneHouse$Grid;II)V"⟩
abbrev cX1_give : ByteArray := prog_3_method_4_code
def yX1_give : MethodName := ⟨RX1, "give", "(II[II)V"⟩
def RX2 : String := "PaneHouse$Layout"
def TX2 : u_T := fun k => match k with
  | 0 => ("PaneHouse$Layout", "leaves", "[LPaneHouse$Part;", true)
  | _ => ("PaneHouse$Layout", "root", "LPaneHouse$Part;", false)
def tyX2 : Nat → FieldType := fun k => match k with
  | 0 => .array (.object "PaneHouse$Part")
  | _ => .object "PaneHouse$Part"
abbrev wsX20 : List Cond := u_ws RX2 TX2 2
theorem nmX2 : ∀ a, a < 2 → ∀ b, b < 2 → a ≠ b → (TX2 a).2.1 ≠ (TX2 b).2.1 := by decide +kernel
theorem tyX2_ok : ∀ k, k < 2 → parseFieldDescriptor (TX2 k).2.2.1 = some (tyX2 k) := by decide +kernel
abbrev cX2_init : ByteArray := prog_4_method_1_code
def yX2_init : MethodName := ⟨RX2, "<init>", "(II)V"⟩
abbrev cX2_has : ByteArray := prog_4_method_2_code
def yX2_has : MethodName := ⟨RX2, "has", "(I)Z"⟩
abbrev cX2_panes : ByteArray := prog_4_method_3_code
def yX2_panes : MethodName := ⟨RX2, "panes", "()I"⟩
abbrev cX2_least : ByteArray := prog_4_method_4_code
def yX2_least : MethodName := ⟨RX2, "least", "(Z)I"⟩
abbrev cX2_paneBehind : ByteArray := prog_4_method_5_code
def yX2_paneBehind : MethodName := ⟨RX2, "paneBehind", "(I)I"⟩
abbrev cX2_divide : ByteArray := prog_4_method_6_code
def yX2_divide : MethodName := ⟨RX2, "divide", "(IZ)I"⟩
abbrev cX2_remove : ByteArray := prog_4_method_7_code
def yX2_remove : MethodName := ⟨RX2, "remove", "(I)Z"⟩
abbrev cX2_drawBorders : ByteArray := prog_4_method_8_code
def yX2_drawBorders : MethodName := ⟨RX2, "drawBorders", "([II)V"⟩
abbrev cX2_exchange : ByteArray := prog_4_method_9_code
def yX2_exchange : MethodName := ⟨RX2, "exchange", "(LPaneHouse$Part;LPaneHouse$Part;)V"⟩
abbrev cX2_place : ByteArray := prog_4_method_10_code
def yX2_place : MethodName := ⟨RX2, "place", "(LPaneHouse$Part;IIIII)V"⟩
abbrev cX2_share : ByteArray := prog_4_method_11_code
def yX2_share : MethodName := ⟨RX2, "share", "(LPaneHouse$Part;II)V"⟩
abbrev cX2_drawBorders_ : ByteArray := prog_4_method_12_code
def yX2_drawBorders_ : MethodName := ⟨RX2, "drawBorders", "(LPaneHouse$Part;[III)V"⟩
def RX3 : String := "PaneHouse$Outer"
def TX3 : u_T := fun k => match k with
  | 0 => ("PaneHouse$Outer", "width", "I", true)
  | 1 => ("PaneHouse$Outer", "shown", "[I", true)
  | 2 => ("PaneHouse$Outer", "bytes", "[I", true)
  | 3 => ("PaneHouse$Outer", "size", "I", false)
  | 4 => ("PaneHouse$Outer", "column", "I", false)
  | 5 => ("PaneHouse$Outer", "row", "I", false)
  | 6 => ("PaneHouse$Outer", "pen", "I", false)
  | _ => ("PaneHouse$Outer", "seen", "Z", false)
def tyX3 : Nat → FieldType := fun k => match k with
  | 0 => .int
  | 1 => .array .int
  | 2 => .array .int
  | 3 => .int
  | 4 => .int
  | 5 => .int
  | 6 => .int
  | _ => .boolean
abbrev wsX30 : List Cond := u_ws RX3 TX3 8
theorem nmX3 : ∀ a, a < 8 → ∀ b, b < 8 → a ≠ b → (TX3 a).2.1 ≠ (TX3 b).2.1 := by decide +kernel
theorem tyX3_ok : ∀ k, k < 8 → parseFieldDescriptor (TX3 k).2.2.1 = some (tyX3 k) := by decide +kernel
abbrev cX3_init : ByteArray := prog_5_method_1_code
def yX3_init : MethodName := ⟨RX3, "<init>", "(II)V"⟩
abbrev cX3_begin : ByteArray := prog_5_method_2_code
def yX3_begin : MethodName := ⟨RX3, "begin", "()V"⟩
abbrev cX3_show : ByteArray := prog_5_method_3_code
def yX3_show : MethodName := ⟨RX3, "show", "(III)V"⟩
abbrev cX3_end : ByteArray := prog_5_method_4_code
def yX3_end : MethodName := ⟨RX3, "end", "(IIZ)V"⟩
abbrev cX3_moveTo : ByteArray := prog_5_method_5_code
def yX3_moveTo : MethodName := ⟨RX3, "moveTo", "(II)V"⟩
abbrev cX3_takePen : ByteArray := prog_5_method_6_code
def yX3_takePen : MethodName := ⟨RX3, "takePen", "(I)V"⟩
abbrev cX3_beginSequence : ByteArray := prog_5_method_7_code
def yX3_beginSequence : MethodName := ⟨RX3, "beginSequence", "(I)V"⟩
abbrev cX3_putPart : ByteArray := prog_5_method_8_code
def yX3_putPart : MethodName := ⟨RX3, "putPart", "(ZI)V"⟩
abbrev cX3_putNumber : ByteArray := prog_5_method_9_code
def yX3_putNumber : MethodName := ⟨RX3, "putNumber", "(I)V"⟩
abbrev cX3_put : ByteArray := prog_5_method_10_code
def yX3_put : MethodName := ⟨RX3, "put", "(I)V"⟩
def RX4 : String := "PaneHouse$Pane"
def TX4 : u_T := fun k => match k with
  | 0 => ("PaneHouse$Pane", "screen", "LPaneHouse$Screen;", true)
  | 1 => ("PaneHouse$Pane", "reader", "LPaneHouse$Reader;", true)
  | 2 => ("PaneHouse$Pane", "typed", "LPaneHouse$Typed;", true)
  | 3 => ("PaneHouse$Pane", "copyMode", "Z", false)
  | _ => ("PaneHouse$Pane", "offset", "I", false)
def tyX4 : Nat → FieldType := fun k => match k with
  | 0 => .object "PaneHouse$Screen"
  | 1 => .object "PaneHouse$Reader"
  | 2 => .object "PaneHouse$Typed"
  | 3 => .boolean
  | _ => .int
abbrev wsX40 : List Cond := u_ws RX4 TX4 5
theorem nmX4 : ∀ a, a < 5 → ∀ b, b < 5 → a ≠ b → (TX4 a).2.1 ≠ (TX4 b).2.1 := by decide +kernel
theorem tyX4_ok : ∀ k, k < 5 → parseFieldDescriptor (TX4 k).2.2.1 = some (tyX4 k) := by decide +kernel
abbrev cX4_init : ByteArray := prog_6_method_1_code
def yX4_init : MethodName := ⟨RX4, "<init>", "(II)V"⟩
abbrev cX4_begin : ByteArray := prog_6_method_2_code
def yX4_begin : MethodName := ⟨RX4, "begin", "()V"⟩
abbrev cX4_press : ByteArray := prog_6_method_3_code
def yX4_press : MethodName := ⟨RX4, "press", "(I)V"⟩
abbrev cX4_setCopyMode : ByteArray := prog_6_method_4_code
def yX4_setCopyMode : MethodName := ⟨RX4, "setCopyMode", "(Z)V"⟩
abbrev cX4_offsetNow : ByteArray := prog_6_method_5_code
def yX4_offsetNow : MethodName := ⟨RX4, "offsetNow", "()I"⟩
abbrev cX4_look : ByteArray := prog_6_method_6_code
def yX4_look : MethodName := ⟨RX4, "look", "(I)V"⟩
abbrev cX4_seesCursor : ByteArray := prog_6_method_7_code
def yX4_seesCursor : MethodName := ⟨RX4, "seesCursor", "()Z"⟩
abbrev cX4_viewRow : ByteArray := prog_6_method_8_code
def yX4_viewRow : MethodName := ⟨RX4, "viewRow", "(I[II)V"⟩
def RX5 : String := "PaneHouse$Part"
def TX5 : u_T := fun k => match k with
  | 0 => ("PaneHouse$Part", "column", "I", false)
  | 1 => ("PaneHouse$Part", "row", "I", false)
  | 2 => ("PaneHouse$Part", "columns", "I", false)
  | 3 => ("PaneHouse$Part", "rows", "I", false)
  | 4 => ("PaneHouse$Part", "down", "Z", false)
  | 5 => ("PaneHouse$Part", "first", "LPaneHouse$Part;", false)
  | 6 => ("PaneHouse$Part", "second", "LPaneHouse$Part;", false)
  | _ => ("PaneHouse$Part", "above", "LPaneHouse$Part;", false)
def tyX5 : Nat → FieldType := fun k => match k with
  | 0 => .int
  | 1 => .int
  | 2 => .int
  | 3 => .int
  | 4 => .boolean
  | 5 => .object "PaneHouse$Part"
  | 6 => .object "PaneHouse$Part"
  | _ => .object "PaneHouse$Part"
abbrev wsX50 : List Cond := u_ws RX5 TX5 8
theorem nmX5 : ∀ a, a < 8 → ∀ b, b < 8 → a ≠ b → (TX5 a).2.1 ≠ (TX5 b).2.1 := by decide +kernel
theorem tyX5_ok : ∀ k, k < 8 → parseFieldDescriptor (TX5 k).2.2.1 = some (tyX5 k) := by decide +kernel
abbrev cX5_init : ByteArray := prog_7_method_1_code
def yX5_init : MethodName := ⟨RX5, "<init>", "(LPaneHouse$Part;)V"⟩
abbrev cX5_length : ByteArray := prog_7_method_2_code
def yX5_length : MethodName := ⟨RX5, "length", "(Z)I"⟩
abbrev cX5_isSplit : ByteArray := prog_7_method_3_code
def yX5_isSplit : MethodName := ⟨RX5, "isSplit", "()Z"⟩
abbrev cX5_drawBorder : ByteArray := prog_7_method_4_code
def yX5_drawBorder : MethodName := ⟨RX5, "drawBorder", "([II)V"⟩
def RX6 : String := "PaneHouse$Reader"
def TX6 : u_T := fun k => match k with
  | 0 => ("PaneHouse$Reader", "screen", "LPaneHouse$Screen;", true)
  | 1 => ("PaneHouse$Reader", "numbers", "[I", true)
  | 2 => ("PaneHouse$Reader", "ended", "I", false)
  | 3 => ("PaneHouse$Reader", "digits", "Z", false)
  | 4 => ("PaneHouse$Reader", "asked", "Z", false)
  | _ => ("PaneHouse$Reader", "state", "I", false)
def tyX6 : Nat → FieldType := fun k => match k with
  | 0 => .object "PaneHouse$Screen"
  | 1 => .array .int
  | 2 => .int
  | 3 => .boolean
  | 4 => .boolean
  | _ => .int
abbrev wsX60 : List Cond := u_ws RX6 TX6 6
theorem nmX6 : ∀ a, a < 6 → ∀ b, b < 6 → a ≠ b → (TX6 a).2.1 ≠ (TX6 b).2.1 := by decide +kernel
theorem tyX6_ok : ∀ k, k < 6 → parseFieldDescriptor (TX6 k).2.2.1 = some (tyX6 k) := by decide +kernel
abbrev cX6_init : ByteArray := prog_8_method_1_code
def yX6_init : MethodName := ⟨RX6, "<init>", "(LPaneHouse$Screen;)V"⟩
abbrev cX6_reset : ByteArray := prog_8_method_2_code
def yX6_reset : MethodName := ⟨RX6, "reset", "()V"⟩
abbrev cX6_take : ByteArray := prog_8_method_3_code
def yX6_take : MethodName := ⟨RX6, "take", "(I)V"⟩
abbrev cX6_takeShort : ByteArray := prog_8_method_4_code
def yX6_takeShort : MethodName := ⟨RX6, "takeShort", "(I)V"⟩
abbrev cX6_beginLonger : ByteArray := prog_8_method_5_code
def yX6_beginLonger : MethodName := ⟨RX6, "beginLonger", "()V"⟩
abbrev cX6_takeLonger : ByteArray := prog_8_method_6_code
def yX6_takeLonger : MethodName := ⟨RX6, "takeLonger", "(I)V"⟩
abbrev cX6_takeDigit : ByteArray := prog_8_method_7_code
def yX6_takeDigit : MethodName := ⟨RX6, "takeDigit", "(I)V"⟩
abbrev cX6_doAsked : ByteArray := prog_8_method_8_code
def yX6_doAsked : MethodName := ⟨RX6, "doAsked", "(I)V"⟩
abbrev cX6_doLonger : ByteArray := prog_8_method_9_code
def yX6_doLonger : MethodName := ⟨RX6, "doLonger", "(I)V"⟩
abbrev cX6_setInsertMode : ByteArray := prog_8_method_10_code
def yX6_setInsertMode : MethodName := ⟨RX6, "setInsertMode", "(Z)V"⟩
abbrev cX6_setPen : ByteArray := prog_8_method_11_code
def yX6_setPen : MethodName := ⟨RX6, "setPen", "()V"⟩
abbrev cX6_changedPen : ByteArray := prog_8_method_12_code
def yX6_changedPen : MethodName := ⟨RX6, "changedPen", "(II)I"⟩
abbrev cX6_withColour : ByteArray := prog_8_method_13_code
def yX6_withColour : MethodName := ⟨RX6, "withColour", "(II)I"⟩
abbrev cX6_withGround : ByteArray := prog_8_method_14_code
def yX6_withGround : MethodName := ⟨RX6, "withGround", "(II)I"⟩
def RX7 : String := "PaneHouse$Screen"
def TX7 : u_T := fun k => match k with
  | 0 => ("PaneHouse$Screen", "main", "LPaneHouse$Grid;", true)
  | 1 => ("PaneHouse$Screen", "other", "LPaneHouse$Grid;", true)
  | 2 => ("PaneHouse$Screen", "history", "LPaneHouse$History;", true)
  | 3 => ("PaneHouse$Screen", "columns", "I", false)
  | 4 => ("PaneHouse$Screen", "rows", "I", false)
  | 5 => ("PaneHouse$Screen", "column", "I", false)
  | 6 => ("PaneHouse$Screen", "row", "I", false)
  | 7 => ("PaneHouse$Screen", "wrapWaits", "Z", false)
  | 8 => ("PaneHouse$Screen", "pen", "I", false)
  | 9 => ("PaneHouse$Screen", "savedColumn", "I", false)
  | 10 => ("PaneHouse$Screen", "savedRow", "I", false)
  | 11 => ("PaneHouse$Screen", "savedPen", "I", false)
  | 12 => ("PaneHouse$Screen", "top", "I", false)
  | 13 => ("PaneHouse$Screen", "bottom", "I", false)
  | 14 => ("PaneHouse$Screen", "insertMode", "Z", false)
  | 15 => ("PaneHouse$Screen", "wrapMode", "Z", false)
  | 16 => ("PaneHouse$Screen", "cursorSeen", "Z", false)
  | _ => ("PaneHouse$Screen", "otherShown", "Z", false)
def tyX7 : Nat → FieldType := fun k => match k with
  | 0 => .object "PaneHouse$Grid"
  | 1 => .object "PaneHouse$Grid"
  | 2 => .object "PaneHouse$History"
  | 3 => .int
  | 4 => .int
  | 5 => .int
  | 6 => .int
  | 7 => .boolean
  | 8 => .int
  | 9 => .int
  | 10 => .int
  | 11 => .int
  | 12 => .int
  | 13 => .int
  | 14 => .boolean
  | 15 => .boolean
  | 16 => .boolean
  | _ => .boolean
abbrev wsX70 : List Cond := u_ws RX7 TX7 18
theorem nmX7 : ∀ a, a < 18 → ∀ b, b < 18 → a ≠ b → (TX7 a).2.1 ≠ (TX7 b).2.1 := by decide +kernel
theorem tyX7_ok : ∀ k, k < 18 → parseFieldDescriptor (TX7 k).2.2.1 = some (tyX7 k) := by decide +kernel
abbrev cX7_init : ByteArray := prog_9_method_1_code
def yX7_init : MethodName := ⟨RX7, "<init>", "(II)V"⟩
abbrev cX7_shown : ByteArray := prog_9_method_2_code
def yX7_shown : MethodName := ⟨RX7, "shown", "()LPaneHouse$Grid;"⟩
abbrev cX7_reset : ByteArray := prog_9_method_3_code
def yX7_reset : MethodName := ⟨RX7, "reset", "()V"⟩
abbrev cX7_resize : ByteArray := prog_9_method_4_code
def yX7_resize : MethodName := ⟨RX7, "resize", "(II)V"⟩
abbrev cX7_write : ByteArray := prog_9_method_5_code
def yX7_write : MethodName := ⟨RX7, "write", "(I)V"⟩
abbrev cX7_moveTo : ByteArray := prog_9_method_6_code
def yX7_moveTo : MethodName := ⟨RX7, "moveTo", "(II)V"⟩
abbrev cX7_goToTab : ByteArray := prog_9_method_7_code
def yX7_goToTab : MethodName := ⟨RX7, "goToTab", "()V"⟩
abbrev cX7_goDown : ByteArray := prog_9_method_8_code
def yX7_goDown : MethodName := ⟨RX7, "goDown", "()V"⟩
abbrev cX7_goUp : ByteArray := prog_9_method_9_code
def yX7_goUp : MethodName := ⟨RX7, "goUp", "()V"⟩
abbrev cX7_savePlace : ByteArray := prog_9_method_10_code
def yX7_savePlace : MethodName := ⟨RX7, "savePlace", "()V"⟩
abbrev cX7_takePlace : ByteArray := prog_9_method_11_code
def yX7_takePlace : MethodName := ⟨RX7, "takePlace", "()V"⟩
abbrev cX7_scrollUp : ByteArray := prog_9_method_12_code
def yX7_scrollUp : MethodName := ⟨RX7, "scrollUp", "(I)V"⟩
abbrev cX7_scrollDown : ByteArray := prog_9_method_13_code
def yX7_scrollDown : MethodName := ⟨RX7, "scrollDown", "(I)V"⟩
abbrev cX7_insertRows : ByteArray := prog_9_method_14_code
def yX7_insertRows : MethodName := ⟨RX7, "insertRows", "(I)V"⟩
abbrev cX7_deleteRows : ByteArray := prog_9_method_15_code
def yX7_deleteRows : MethodName := ⟨RX7, "deleteRows", "(I)V"⟩
abbrev cX7_raiseRows : ByteArray := prog_9_method_16_code
def yX7_raiseRows : MethodName := ⟨RX7, "raiseRows", "(II)V"⟩
abbrev cX7_lowerRows : ByteArray := prog_9_method_17_code
def yX7_lowerRows : MethodName := ⟨RX7, "lowerRows", "(II)V"⟩
abbrev cX7_insertCells : ByteArray := prog_9_method_18_code
def yX7_insertCells : MethodName := ⟨RX7, "insertCells", "(I)V"⟩
abbrev cX7_deleteCells : ByteArray := prog_9_method_19_code
def yX7_deleteCells : MethodName := ⟨RX7, "deleteCells", "(I)V"⟩
abbrev cX7_eraseCells : ByteArray := prog_9_method_20_code
def yX7_eraseCells : MethodName := ⟨RX7, "eraseCells", "(I)V"⟩
abbrev cX7_eraseInRow : ByteArray := prog_9_method_21_code
def yX7_eraseInRow : MethodName := ⟨RX7, "eraseInRow", "(I)V"⟩
abbrev cX7_erase : ByteArray := prog_9_method_22_code
def yX7_erase : MethodName := ⟨RX7, "erase", "(I)V"⟩
abbrev cX7_setRegion : ByteArray := prog_9_method_23_code
def yX7_setRegion : MethodName := ⟨RX7, "setRegion", "(II)V"⟩
abbrev cX7_showOther : ByteArray := prog_9_method_24_code
def yX7_showOther : MethodName := ⟨RX7, "showOther", "(Z)V"⟩
abbrev cX7_blank : ByteArray := prog_9_method_25_code
def yX7_blank : MethodName := ⟨RX7, "blank", "()I"⟩
def RX8 : String := "PaneHouse$Typed"
def TX8 : u_T := fun k => match k with
  | 0 => ("PaneHouse$Typed", "latest", "[I", true)
  | _ => ("PaneHouse$Typed", "total", "I", false)
def tyX8 : Nat → FieldType := fun k => match k with
  | 0 => .array .int
  | _ => .int
abbrev wsX80 : List Cond := u_ws RX8 TX8 2
theorem nmX8 : ∀ a, a < 2 → ∀ b, b < 2 → a ≠ b → (TX8 a).2.1 ≠ (TX8 b).2.1 := by decide +kernel
theorem tyX8_ok : ∀ k, k < 2 → parseFieldDescriptor (TX8 k).2.2.1 = some (tyX8 k) := by decide +kernel
abbrev cX8_init : ByteArray := prog_10_method_1_code
def yX8_init : MethodName := ⟨RX8, "<init>", "()V"⟩
abbrev cX8_add : ByteArray := prog_10_method_2_code
def yX8_add : MethodName := ⟨RX8, "add", "(I)V"⟩
abbrev cX8_told : ByteArray := prog_10_method_3_code
def yX8_told : MethodName := ⟨RX8, "told", "()I"⟩
abbrev cX8_at : ByteArray := prog_10_method_4_code
def yX8_at : MethodName := ⟨RX8, "at", "(I)I"⟩
def RX9 : String := "PaneHouse"
def TX9 : u_T := fun k => match k with
  | 0 => ("PaneHouse", "width", "I", true)
  | 1 => ("PaneHouse", "height", "I", true)
  | 2 => ("PaneHouse", "panes", "[LPaneHouse$Pane;", true)
  | 3 => ("PaneHouse", "layout", "LPaneHouse$Layout;", true)
  | 4 => ("PaneHouse", "outer", "LPaneHouse$Outer;", true)
  | 5 => ("PaneHouse", "picture", "[I", true)
  | 6 => ("PaneHouse", "line", "[I", true)
  | 7 => ("PaneHouse", "clip", "[I", true)
  | 8 => ("PaneHouse", "clipSize", "I", false)
  | 9 => ("PaneHouse", "focused", "I", false)
  | _ => ("PaneHouse", "prefixed", "Z", false)
def tyX9 : Nat → FieldType := fun k => match k with
  | 0 => .int
  | 1 => .int
  | 2 => .array (.object "PaneHouse$Pane")
  | 3 => .object "PaneHouse$Layout"
  | 4 => .object "PaneHouse$Outer"
  | 5 => .array .int
  | 6 => .array .int
  | 7 => .array .int
  | 8 => .int
  | 9 => .int
  | _ => .boolean
abbrev wsX90 : List Cond := u_ws RX9 TX9 11
theorem nmX9 : ∀ a, a < 11 → ∀ b, b < 11 → a ≠ b → (TX9 a).2.1 ≠ (TX9 b).2.1 := by decide +kernel
theorem tyX9_ok : ∀ k, k < 11 → parseFieldDescriptor (TX9 k).2.2.1 = some (tyX9 k) := by decide +kernel
abbrev cX9_init : ByteArray := prog_1_method_1_code
def yX9_init : MethodName := ⟨RX9, "<init>", "(II)V"⟩
abbrev cX9_feed : ByteArray := prog_1_method_2_code
def yX9_feed : MethodName := ⟨RX9, "feed", "(IJI)V"⟩
abbrev cX9_key : ByteArray := prog_1_method_3_code
def yX9_key : MethodName := ⟨RX9, "key", "(I)I"⟩
abbrev cX9_split : ByteArray := prog_1_method_4_code
def yX9_split : MethodName := ⟨RX9, "split", "(IZ)I"⟩
abbrev cX9_close : ByteArray := prog_1_method_5_code
def yX9_close : MethodName := ⟨RX9, "close", "(I)I"⟩
abbrev cX9_focus : ByteArray := prog_1_method_6_code
def yX9_focus : MethodName := ⟨RX9, "focus", "(I)V"⟩
abbrev cX9_copy : ByteArray := prog_1_method_7_code
def yX9_copy : MethodName := ⟨RX9, "copy", "(IZI)I"⟩
abbrev cX9_select : ByteArray := prog_1_method_8_code
def yX9_select : MethodName := ⟨RX9, "select", "(IIIII)I"⟩
abbrev cX9_redraw : ByteArray := prog_1_method_9_code
def yX9_redraw : MethodName := ⟨RX9, "redraw", "()I"⟩
abbrev cX9_out : ByteArray := prog_1_method_10_code
def yX9_out : MethodName := ⟨RX9, "out", "(I)I"⟩
abbrev cX9_cell : ByteArray := prog_1_method_11_code
def yX9_cell : MethodName := ⟨RX9, "cell", "(IIZ)I"⟩
abbrev cX9_about : ByteArray := prog_1_method_12_code
def yX9_about : MethodName := ⟨RX9, "about", "(II)I"⟩
abbrev cX9_input : ByteArray := prog_1_method_13_code
def yX9_input : MethodName := ⟨RX9, "input", "(II)I"⟩
abbrev cX9_copied : ByteArray := prog_1_method_14_code
def yX9_copied : MethodName := ⟨RX9, "copied", "(I)I"⟩
abbrev cX9_count : ByteArray := prog_1_method_15_code
def yX9_count : MethodName := ⟨RX9, "count", "(I)I"⟩
abbrev cX9_nearest : ByteArray := prog_1_method_16_code
def yX9_nearest : MethodName := ⟨RX9, "nearest", "(III)I"⟩
abbrev cX9_checkPane : ByteArray := prog_1_method_17_code
def yX9_checkPane : MethodName := ⟨RX9, "checkPane", "(I)V"⟩
abbrev cX9_checkPlace : ByteArray := prog_1_method_18_code
def yX9_checkPlace : MethodName := ⟨RX9, "checkPlace", "(III)V"⟩
abbrev cX9_command : ByteArray := prog_1_method_19_code
def yX9_command : MethodName := ⟨RX9, "command", "(I)V"⟩
abbrev cX9_divide : ByteArray := prog_1_method_20_code
def yX9_divide : MethodName := ⟨RX9, "divide", "(IZ)I"⟩
abbrev cX9_remove : ByteArray := prog_1_method_21_code
def yX9_remove : MethodName := ⟨RX9, "remove", "(I)Z"⟩
abbrev cX9_fitPanes : ByteArray := prog_1_method_22_code
def yX9_fitPanes : MethodName := ⟨RX9, "fitPanes", "()V"⟩
abbrev cX9_paste : ByteArray := prog_1_method_23_code
def yX9_paste : MethodName := ⟨RX9, "paste", "()V"⟩
abbrev cX9_clipLine : ByteArray := prog_1_method_24_code
def yX9_clipLine : MethodName := ⟨RX9, "clipLine", "(II)V"⟩
abbrev cX9_clipByte : ByteArray := prog_1_method_25_code
def yX9_clipByte : MethodName := ⟨RX9, "clipByte", "(I)V"⟩
abbrev cX9_drawPicture : ByteArray := prog_1_method_26_code
def yX9_drawPicture : MethodName := ⟨RX9, "drawPicture", "()V"⟩
abbrev cX9_cursorColumn : ByteArray := prog_1_method_27_code
def yX9_cursorColumn : MethodName := ⟨RX9, "cursorColumn", "()I"⟩
abbrev cX9_cursorRow : ByteArray := prog_1_method_28_code
def yX9_cursorRow : MethodName := ⟨RX9, "cursorRow", "()I"⟩
def RX10 : String := "PaneHouseModel"
def TX10 : u_T := fun k => match k with
  | 0 => ("PaneHouseModel", "thrown", "I", false)
  | 1 => ("PaneHouseModel", "width", "I", false)
  | 2 => ("PaneHouseModel", "height", "I", false)
  | 3 => ("PaneHouseModel", "node", "[Z", true)
  | 4 => ("PaneHouseModel", "paneOf", "[I", true)
  | 5 => ("PaneHouseModel", "firstOf", "[I", true)
  | 6 => ("PaneHouseModel", "secondOf", "[I", true)
  | 7 => ("PaneHouseModel", "above", "[I", true)
  | 8 => ("PaneHouseModel", "goesDown", "[Z", true)
  | 9 => ("PaneHouseModel", "firstSize", "[I", true)
  | 10 => ("PaneHouseModel", "xs", "[I", true)
  | 11 => ("PaneHouseModel", "ys", "[I", true)
  | 12 => ("PaneHouseModel", "ws", "[I", true)
  | 13 => ("PaneHouseModel", "hs", "[I", true)
  | 14 => ("PaneHouseModel", "root", "I", false)
  | 15 => ("PaneHouseModel", "todo", "[I", true)
  | 16 => ("PaneHouseModel", "used", "[Z", true)
  | 17 => ("PaneHouseModel", "leaf", "[I", true)
  | 18 => ("PaneHouseModel", "wide", "[I", true)
  | 19 => ("PaneHouseModel", "high", "[I", true)
  | 20 => ("PaneHouseModel", "chars", "[I", true)
  | 21 => ("PaneHouseModel", "attrs", "[I", true)
  | 22 => ("PaneHouseModel", "other", "[Z", true)
  | 23 => ("PaneHouseModel", "row", "[I", true)
  | 24 => ("PaneHouseModel", "column", "[I", true)
  | 25 => ("PaneHouseModel", "pen", "[I", true)
  | 26 => ("PaneHouseModel", "savedRow", "[I", true)
  | 27 => ("PaneHouseModel", "savedColumn", "[I", true)
  | 28 => ("PaneHouseModel", "savedPen", "[I", true)
  | 29 => ("PaneHouseModel", "top", "[I", true)
  | 30 => ("PaneHouseModel", "bottom", "[I", true)
  | 31 => ("PaneHouseModel", "waits", "[Z", true)
  | 32 => ("PaneHouseModel", "inserts", "[Z", true)
  | 33 => ("PaneHouseModel", "wraps", "[Z", true)
  | 34 => ("PaneHouseModel", "hidden", "[Z", true)
  | 35 => ("PaneHouseModel", "reading", "[I", true)
  | 36 => ("PaneHouseModel", "numbers", "[I", true)
  | 37 => ("PaneHouseModel", "given", "[I", true)
  | 38 => ("PaneHouseModel", "asked", "[Z", true)
  | 39 => ("PaneHouseModel", "fresh", "[Z", true)
  | 40 => ("PaneHouseModel", "historyChars", "[I", true)
  | 41 => ("PaneHouseModel", "historyAttrs", "[I", true)
  | 42 => ("PaneHouseModel", "rowsAway", "[I", true)
  | 43 => ("PaneHouseModel", "copies", "[Z", true)
  | 44 => ("PaneHouseModel", "offset", "[I", true)
  | 45 => ("PaneHouseModel", "inputs", "[I", true)
  | 46 => ("PaneHouseModel", "input", "[I", true)
  | 47 => ("PaneHouseModel", "focus", "I", false)
  | 48 => ("PaneHouseModel", "prefixed", "Z", false)
  | 49 => ("PaneHouseModel", "copied", "I", false)
  | 50 => ("PaneHouseModel", "copy", "[I", true)
  | 51 => ("PaneHouseModel", "outerChars", "[I", true)
  | 52 => ("PaneHouseModel", "outerAttrs", "[I", true)
  | 53 => ("PaneHouseModel", "outerX", "I", false)
  | 54 => ("PaneHouseModel", "outerY", "I", false)
  | 55 => ("PaneHouseModel", "outerSeen", "Z", false)
  | 56 => ("PaneHouseModel", "outerPen", "I", false)
  | 57 => ("PaneHouseModel", "out", "I", false)
  | 58 => ("PaneHouseModel", "outs", "[I", true)
  | 59 => ("PaneHouseModel", "newW", "[I", true)
  | _ => ("PaneHouseModel", "newH", "[I", true)
def tyX10 : Nat → FieldType := fun k => match k with
  | 0 => .int
  | 1 => .int
  | 2 => .int
  | 3 => .array .boolean
  | 4 => .array .int
  | 5 => .array .int
  | 6 => .array .int
  | 7 => .array .int
  | 8 => .array .boolean
  | 9 => .array .int
  | 10 => .array .int
  | 11 => .array .int
  | 12 => .array .int
  | 13 => .array .int
  | 14 => .int
  | 15 => .array .int
  | 16 => .array .boolean
  | 17 => .array .int
  | 18 => .array .int
  | 19 => .array .int
  | 20 => .array .int
  | 21 => .array .int
  | 22 => .array .boolean
  | 23 => .array .int
  | 24 => .array .int
  | 25 => .array .int
  | 26 => .array .int
  | 27 => .array .int
  | 28 => .array .int
  | 29 => .array .int
  | 30 => .array .int
  | 31 => .array .boolean
  | 32 => .array .boolean
  | 33 => .array .boolean
  | 34 => .array .boolean
  | 35 => .array .int
  | 36 => .array .int
  | 37 => .array .int
  | 38 => .array .boolean
  | 39 => .array .boolean
  | 40 => .array .int
  | 41 => .array .int
  | 42 => .array .int
  | 43 => .array .boolean
  | 44 => .array .int
  | 45 => .array .int
  | 46 => .array .int
  | 47 => .int
  | 48 => .boolean
  | 49 => .int
  | 50 => .array .int
  | 51 => .array .int
  | 52 => .array .int
  | 53 => .int
  | 54 => .int
  | 55 => .boolean
  | 56 => .int
  | 57 => .int
  | 58 => .array .int
  | 59 => .array .int
  | _ => .array .int
abbrev wsX100 : List Cond := u_ws RX10 TX10 61
theorem nmX10 : ∀ a, a < 61 → ∀ b, b < 61 → a ≠ b → (TX10 a).2.1 ≠ (TX10 b).2.1 := by decide +kernel
theorem tyX10_ok : ∀ k, k < 61 → parseFieldDescriptor (TX10 k).2.2.1 = some (tyX10 k) := by decide +kernel
abbrev cX10_init : ByteArray := prog_12_method_1_code
def yX10_init : MethodName := ⟨RX10, "<init>", "(II)V"⟩
abbrev cX10_thrown : ByteArray := prog_12_method_2_code
def yX10_thrown : MethodName := ⟨RX10, "thrown", "()I"⟩
abbrev cX10_noPane : ByteArray := prog_12_method_3_code
def yX10_noPane : MethodName := ⟨RX10, "noPane", "(I)Z"⟩
abbrev cX10_cellOf : ByteArray := prog_12_method_4_code
def yX10_cellOf : MethodName := ⟨RX10, "cellOf", "(IIII)I"⟩
abbrev cX10_shown : ByteArray := prog_12_method_5_code
def yX10_shown : MethodName := ⟨RX10, "shown", "(I)I"⟩
abbrev cX10_at : ByteArray := prog_12_method_6_code
def yX10_at : MethodName := ⟨RX10, "at", "(III)I"⟩
abbrev cX10_blank : ByteArray := prog_12_method_7_code
def yX10_blank : MethodName := ⟨RX10, "blank", "(II)V"⟩
abbrev cX10_reset : ByteArray := prog_12_method_8_code
def yX10_reset : MethodName := ⟨RX10, "reset", "(I)V"⟩
abbrev cX10_begin : ByteArray := prog_12_method_9_code
def yX10_begin : MethodName := ⟨RX10, "begin", "(III)V"⟩
abbrev cX10_least : ByteArray := prog_12_method_10_code
def yX10_least : MethodName := ⟨RX10, "least", "(II)I"⟩
abbrev cX10_resize : ByteArray := prog_12_method_11_code
def yX10_resize : MethodName := ⟨RX10, "resize", "(III)V"⟩
abbrev cX10_freeNode : ByteArray := prog_12_method_12_code
def yX10_freeNode : MethodName := ⟨RX10, "freeNode", "()I"⟩
abbrev cX10_lay : ByteArray := prog_12_method_13_code
def yX10_lay : MethodName := ⟨RX10, "lay", "(IIIII)V"⟩
abbrev cX10_maySplit : ByteArray := prog_12_method_14_code
def yX10_maySplit : MethodName := ⟨RX10, "maySplit", "(IZ)Z"⟩
abbrev cX10_splitNow : ByteArray := prog_12_method_15_code
def yX10_splitNow : MethodName := ⟨RX10, "splitNow", "(IZ)I"⟩
abbrev cX10_panes : ByteArray := prog_12_method_16_code
def yX10_panes : MethodName := ⟨RX10, "panes", "()I"⟩
abbrev cX10_closeNow : ByteArray := prog_12_method_17_code
def yX10_closeNow : MethodName := ⟨RX10, "closeNow", "(I)V"⟩
abbrev cX10_split : ByteArray := prog_12_method_18_code
def yX10_split : MethodName := ⟨RX10, "split", "(IZ)I"⟩
abbrev cX10_close : ByteArray := prog_12_method_19_code
def yX10_close : MethodName := ⟨RX10, "close", "(I)I"⟩
abbrev cX10_focus : ByteArray := prog_12_method_20_code
def yX10_focus : MethodName := ⟨RX10, "focus", "(I)V"⟩
abbrev cX10_moveRow : ByteArray := prog_12_method_21_code
def yX10_moveRow : MethodName := ⟨RX10, "moveRow", "(III)V"⟩
abbrev cX10_blankRow : ByteArray := prog_12_method_22_code
def yX10_blankRow : MethodName := ⟨RX10, "blankRow", "(II)V"⟩
abbrev cX10_historyAt : ByteArray := prog_12_method_23_code
def yX10_historyAt : MethodName := ⟨RX10, "historyAt", "(III)I"⟩
abbrev cX10_keepRow : ByteArray := prog_12_method_24_code
def yX10_keepRow : MethodName := ⟨RX10, "keepRow", "(I)V"⟩
abbrev cX10_scrollUp : ByteArray := prog_12_method_25_code
def yX10_scrollUp : MethodName := ⟨RX10, "scrollUp", "(IIIIZ)V"⟩
abbrev cX10_scrollDown : ByteArray := prog_12_method_26_code
def yX10_scrollDown : MethodName := ⟨RX10, "scrollDown", "(IIII)V"⟩
abbrev cX10_down : ByteArray := prog_12_method_27_code
def yX10_down : MethodName := ⟨RX10, "down", "(I)V"⟩
abbrev cX10_up : ByteArray := prog_12_method_28_code
def yX10_up : MethodName := ⟨RX10, "up", "(I)V"⟩
abbrev cX10_push : ByteArray := prog_12_method_29_code
def yX10_push : MethodName := ⟨RX10, "push", "(IIII)V"⟩
abbrev cX10_write : ByteArray := prog_12_method_30_code
def yX10_write : MethodName := ⟨RX10, "write", "(II)V"⟩
abbrev cX10_moveTo : ByteArray := prog_12_method_31_code
def yX10_moveTo : MethodName := ⟨RX10, "moveTo", "(III)V"⟩
abbrev cX10_isPlain : ByteArray := prog_12_method_32_code
def yX10_isPlain : MethodName := ⟨RX10, "isPlain", "(II)Z"⟩
abbrev cX10_take : ByteArray := prog_12_method_33_code
def yX10_take : MethodName := ⟨RX10, "take", "(II)V"⟩
abbrev cX10_shortSequence : ByteArray := prog_12_method_34_code
def yX10_shortSequence : MethodName := ⟨RX10, "shortSequence", "(II)V"⟩
abbrev cX10_longSequence : ByteArray := prog_12_method_35_code
def yX10_longSequence : MethodName := ⟨RX10, "longSequence", "(II)V"⟩
abbrev cX10_question : ByteArray := prog_12_method_36_code
def yX10_question : MethodName := ⟨RX10, "question", "(II)V"⟩
abbrev cX10_erase : ByteArray := prog_12_method_37_code
def yX10_erase : MethodName := ⟨RX10, "erase", "(IIIII)V"⟩
abbrev cX10_endsWait : ByteArray := prog_12_method_38_code
def yX10_endsWait : MethodName := ⟨RX10, "endsWait", "(I)Z"⟩
abbrev cX10_act : ByteArray := prog_12_method_39_code
def yX10_act : MethodName := ⟨RX10, "act", "(II)V"⟩
abbrev cX10_lines : ByteArray := prog_12_method_40_code
def yX10_lines : MethodName := ⟨RX10, "lines", "(IZI)V"⟩
abbrev cX10_region : ByteArray := prog_12_method_41_code
def yX10_region : MethodName := ⟨RX10, "region", "(III)V"⟩
abbrev cX10_pens : ByteArray := prog_12_method_42_code
def yX10_pens : MethodName := ⟨RX10, "pens", "(I)V"⟩
abbrev cX10_feed : ByteArray := prog_12_method_43_code
def yX10_feed : MethodName := ⟨RX10, "feed", "(IJI)V"⟩
abbrev cX10_comesIn : ByteArray := prog_12_method_44_code
def yX10_comesIn : MethodName := ⟨RX10, "comesIn", "(II)V"⟩
abbrev cX10_offsetOf : ByteArray := prog_12_method_45_code
def yX10_offsetOf : MethodName := ⟨RX10, "offsetOf", "(I)I"⟩
abbrev cX10_goUp : ByteArray := prog_12_method_46_code
def yX10_goUp : MethodName := ⟨RX10, "goUp", "(II)V"⟩
abbrev cX10_command : ByteArray := prog_12_method_47_code
def yX10_command : MethodName := ⟨RX10, "command", "(I)V"⟩
abbrev cX10_key : ByteArray := prog_12_method_48_code
def yX10_key : MethodName := ⟨RX10, "key", "(I)I"⟩
abbrev cX10_copy : ByteArray := prog_12_method_49_code
def yX10_copy : MethodName := ⟨RX10, "copy", "(IZI)I"⟩
abbrev cX10_shows : ByteArray := prog_12_method_50_code
def yX10_shows : MethodName := ⟨RX10, "shows", "(IIIZ)I"⟩
abbrev cX10_copyOne : ByteArray := prog_12_method_51_code
def yX10_copyOne : MethodName := ⟨RX10, "copyOne", "(I)V"⟩
abbrev cX10_isIn : ByteArray := prog_12_method_52_code
def yX10_isIn : MethodName := ⟨RX10, "isIn", "(III)Z"⟩
abbrev cX10_select : ByteArray := prog_12_method_53_code
def yX10_select : MethodName := ⟨RX10, "select", "(IIIII)I"⟩
abbrev cX10_picture : ByteArray := prog_12_method_54_code
def yX10_picture : MethodName := ⟨RX10, "picture", "(IIZ)I"⟩
abbrev cX10_isSeen : ByteArray := prog_12_method_55_code
def yX10_isSeen : MethodName := ⟨RX10, "isSeen", "()Z"⟩
abbrev cX10_put : ByteArray := prog_12_method_56_code
def yX10_put : MethodName := ⟨RX10, "put", "(I)V"⟩
abbrev cX10_number : ByteArray := prog_12_method_57_code
def yX10_number : MethodName := ⟨RX10, "number", "(I)V"⟩
abbrev cX10_goTo : ByteArray := prog_12_method_58_code
def yX10_goTo : MethodName := ⟨RX10, "goTo", "(II)V"⟩
abbrev cX10_usePen : ByteArray := prog_12_method_59_code
def yX10_usePen : MethodName := ⟨RX10, "usePen", "(I)V"⟩
abbrev cX10_redraw : ByteArray := prog_12_method_60_code
def yX10_redraw : MethodName := ⟨RX10, "redraw", "()I"⟩
abbrev cX10_out : ByteArray := prog_12_method_61_code
def yX10_out : MethodName := ⟨RX10, "out", "(I)I"⟩
abbrev cX10_cell : ByteArray := prog_12_method_62_code
def yX10_cell : MethodName := ⟨RX10, "cell", "(IIZ)I"⟩
abbrev cX10_about : ByteArray := prog_12_method_63_code
def yX10_about : MethodName := ⟨RX10, "about", "(II)I"⟩
abbrev cX10_input : ByteArray := prog_12_method_64_code
def yX10_input : MethodName := ⟨RX10, "input", "(II)I"⟩
abbrev cX10_copied : ByteArray := prog_12_method_65_code
def yX10_copied : MethodName := ⟨RX10, "copied", "(I)I"⟩
abbrev cX10_count : ByteArray := prog_12_method_66_code
def yX10_count : MethodName := ⟨RX10, "count", "(I)I"⟩
def RJ5 : String := "java/lang/AbstractStringBuilder"
def TJ5 : u_T := fun k => match k with
  | _ => ("", "", "", false)
def tyJ5 : Nat → FieldType := fun k => match k with
  | _ => .int
abbrev wsJ50 : List Cond := u_ws RJ5 TJ5 0
theorem nmJ5 : ∀ a, a < 0 → ∀ b, b < 0 → a ≠ b → (TJ5 a).2.1 ≠ (TJ5 b).2.1 := by decide +kernel
theorem tyJ5_ok : ∀ k, k < 0 → parseFieldDescriptor (TJ5 k).2.2.1 = some (tyJ5 k) := by decide +kernel
abbrev cJ5_init_d00df : ByteArray := prog_13_method_2_code
def yJ5_init_d00df : MethodName := ⟨RJ5, "<init>", "(I)V"⟩
abbrev cJ5_length_8abf5 : ByteArray := prog_13_method_6_code
def yJ5_length_8abf5 : MethodName := ⟨RJ5, "length", "()I"⟩
abbrev cJ5_ensureCapacityInternal_d00df : ByteArray := prog_13_method_9_code
def yJ5_ensureCapacityInternal_d00df : MethodName := ⟨RJ5, "ensureCapacityInternal", "(I)V"⟩
abbrev cJ5_newCapacity_0f7a4 : ByteArray := prog_13_method_10_code
def yJ5_newCapacity_0f7a4 : MethodName := ⟨RJ5, "newCapacity", "(I)I"⟩
abbrev cJ5_inflate_da8c8 : ByteArray := prog_13_method_11_code
def yJ5_inflate_da8c8 : MethodName := ⟨RJ5, "inflate", "()V"⟩
abbrev cJ5_append_cf1ce : ByteArray := prog_13_method_22_code
def yJ5_append_cf1ce : MethodName := ⟨RJ5, "append", "(Ljava/lang/String;)Ljava/lang/AbstractStringBuilder;"⟩
abbrev cJ5_appendNull_278bc : ByteArray := prog_13_method_26_code
def yJ5_appendNull_278bc : MethodName := ⟨RJ5, "appendNull", "()Ljava/lang/AbstractStringBuilder;"⟩
abbrev cJ5_append_c97b9 : ByteArray := prog_13_method_32_code
def yJ5_append_c97b9 : MethodName := ⟨RJ5, "append", "(I)Ljava/lang/AbstractStringBuilder;"⟩
abbrev cJ5_getValue_6d5f1 : ByteArray := prog_13_method_64_code
def yJ5_getValue_6d5f1 : MethodName := ⟨RJ5, "getValue", "()[B"⟩
abbrev cJ5_isLatin1_aae02 : ByteArray := prog_13_method_68_code
def yJ5_isLatin1_aae02 : MethodName := ⟨RJ5, "isLatin1", "()Z"⟩
abbrev cJ5_inflateIfNeededFor_a7421 : ByteArray := prog_13_method_71_code
def yJ5_inflateIfNeededFor_a7421 : MethodName := ⟨RJ5, "inflateIfNeededFor", "(Ljava/lang/String;)V"⟩
abbrev cJ5_putStringAt_47b60 : ByteArray := prog_13_method_73_code
def yJ5_putStringAt_47b60 : MethodName := ⟨RJ5, "putStringAt", "(ILjava/lang/String;)V"⟩
def RJx00060 : String := "java/lang/ArrayIndexOutOfBoundsException"
def TJx00060 : u_T := fun k => match k with
  | 0 => ("java/lang/Throwable", "backtrace", "Ljava/lang/Object;", false)
  | 1 => ("java/lang/Throwable", "detailMessage", "Ljava/lang/String;", false)
  | 2 => ("java/lang/Throwable", "cause", "Ljava/lang/Throwable;", false)
  | 3 => ("java/lang/Throwable", "stackTrace", "[Ljava/lang/StackTraceElement;", false)
  | 4 => ("java/lang/Throwable", "depth", "I", false)
  | _ => ("java/lang/Throwable", "suppressedExceptions", "Ljava/util/List;", false)
def tyJx00060 : Nat → FieldType := fun k => match k with
  | 0 => .object "java/lang/Object"
  | 1 => .object "java/lang/String"
  | 2 => .object "java/lang/Throwable"
  | 3 => .array (.object "java/lang/StackTraceElement")
  | 4 => .int
  | _ => .object "java/util/List"
abbrev wsJx000600 : List Cond := u_ws RJx00060 TJx00060 6
theorem nmJx00060 : ∀ a, a < 6 → ∀ b, b < 6 → a ≠ b → (TJx00060 a).2.1 ≠ (TJx00060 b).2.1 := by decide +kernel
theorem tyJx00060_ok : ∀ k, k < 6 → parseFieldDescriptor (TJx00060 k).2.2.1 = some (tyJx00060 k) := by decide +kernel
abbrev cJx00060_init_d00df : ByteArray := prog_14_method_3_code
def yJx00060_init_d00df : MethodName := ⟨RJx00060, "<init>", "(I)V"⟩
def RJx8e188 : String := "java/lang/Cloneable"
def TJx8e188 : u_T := fun k => match k with
  | _ => ("", "", "", false)
def tyJx8e188 : Nat → FieldType := fun k => match k with
  | _ => .int
abbrev wsJx8e1880 : List Cond := u_ws RJx8e188 TJx8e188 0
theorem nmJx8e188 : ∀ a, a < 0 → ∀ b, b < 0 → a ≠ b → (TJx8e188 a).2.1 ≠ (TJx8e188 b).2.1 := by decide +kernel
theorem tyJx8e188_ok : ∀ k, k < 0 → parseFieldDescriptor (TJx8e188 k).2.2.1 = some (tyJx8e188 k) := by decide +kernel
def RJ6 : String := "java/lang/Integer"
def TJ6 : u_T := fun k => match k with
  | _ => ("", "", "", false)
def tyJ6 : Nat → FieldType := fun k => match k with
  | _ => .int
abbrev wsJ60 : List Cond := u_ws RJ6 TJ6 0
theorem nmJ6 : ∀ a, a < 0 → ∀ b, b < 0 → a ≠ b → (TJ6 a).2.1 ≠ (TJ6 b).2.1 := by decide +kernel
theorem tyJ6_ok : ∀ k, k < 0 → parseFieldDescriptor (TJ6 k).2.2.1 = some (tyJ6 k) := by decide +kernel
abbrev cJ6_getChars_ba4f3 : ByteArray := prog_20_method_12_code
def yJ6_getChars_ba4f3 : MethodName := ⟨RJ6, "getChars", "(II[B)I"⟩
abbrev cJ6_stringSize_0f7a4 : ByteArray := prog_20_method_13_code
def yJ6_stringSize_0f7a4 : MethodName := ⟨RJ6, "stringSize", "(I)I"⟩
def RJ9 : String := "java/lang/Math"
def TJ9 : u_T := fun k => match k with
  | _ => ("", "", "", false)
def tyJ9 : Nat → FieldType := fun k => match k with
  | _ => .int
abbrev wsJ90 : List Cond := u_ws RJ9 TJ9 0
theorem nmJ9 : ∀ a, a < 0 → ∀ b, b < 0 → a ≠ b → (TJ9 a).2.1 ≠ (TJ9 b).2.1 := by decide +kernel
theorem tyJ9_ok : ∀ k, k < 0 → parseFieldDescriptor (TJ9 k).2.2.1 = some (tyJ9 k) := by decide +kernel
abbrev cJ9_max_7cf53 : ByteArray := prog_21_method_65_code
def yJ9_max_7cf53 : MethodName := ⟨RJ9, "max", "(II)I"⟩
abbrev cJ9_min_7cf53 : ByteArray := prog_21_method_69_code
def yJ9_min_7cf53 : MethodName := ⟨RJ9, "min", "(II)I"⟩
def RJ0 : String := "java/lang/String"
def TJ0 : u_T := fun k => match k with
  | 0 => ("java/lang/String", "value", "[B", true)
  | 1 => ("java/lang/String", "coder", "B", true)
  | 2 => ("java/lang/String", "hash", "I", false)
  | _ => ("java/lang/String", "hashIsZero", "Z", false)
def tyJ0 : Nat → FieldType := fun k => match k with
  | 0 => .array .byte
  | 1 => .byte
  | 2 => .int
  | _ => .boolean
abbrev wsJ00 : List Cond := u_ws RJ0 TJ0 4
theorem nmJ0 : ∀ a, a < 4 → ∀ b, b < 4 → a ≠ b → (TJ0 a).2.1 ≠ (TJ0 b).2.1 := by decide +kernel
theorem tyJ0_ok : ∀ k, k < 4 → parseFieldDescriptor (TJ0 k).2.2.1 = some (tyJ0 k) := by decide +kernel
abbrev cJ0_init_81219 : ByteArray := prog_23_method_53_code
def yJ0_init_81219 : MethodName := ⟨RJ0, "<init>", "(Ljava/lang/StringBuilder;)V"⟩
abbrev cJ0_length_8abf5 : ByteArray := prog_23_method_54_code
def yJ0_length_8abf5 : MethodName := ⟨RJ0, "length", "()I"⟩
abbrev cJ0_getBytes_840e7 : ByteArray := prog_23_method_147_code
def yJ0_getBytes_840e7 : MethodName := ⟨RJ0, "getBytes", "([BIB)V"⟩
abbrev cJ0_init_db425 : ByteArray := prog_23_method_150_code
def yJ0_init_db425 : MethodName := ⟨RJ0, "<init>", "(Ljava/lang/AbstractStringBuilder;Ljava/lang/Void;)V"⟩
abbrev cJ0_coder_7d493 : ByteArray := prog_23_method_152_code
def yJ0_coder_7d493 : MethodName := ⟨RJ0, "coder", "()B"⟩
abbrev cJ0_checkBoundsOffCount_cabcc : ByteArray := prog_23_method_157_code
def yJ0_checkBoundsOffCount_cabcc : MethodName := ⟨RJ0, "checkBoundsOffCount", "(III)I"⟩
abbrev cJ0_checkBoundsBeginEnd_23922 : ByteArray := prog_23_method_158_code
def yJ0_checkBoundsBeginEnd_23922 : MethodName := ⟨RJ0, "checkBoundsBeginEnd", "(III)V"⟩
def RJ4 : String := "java/lang/StringBuilder"
def TJ4 : u_T := fun k => match k with
  | 0 => ("java/lang/AbstractStringBuilder", "value", "[B", false)
  | 1 => ("java/lang/AbstractStringBuilder", "coder", "B", false)
  | 2 => ("java/lang/AbstractStringBuilder", "maybeLatin1", "Z", false)
  | _ => ("java/lang/AbstractStringBuilder", "count", "I", false)
def tyJ4 : Nat → FieldType := fun k => match k with
  | 0 => .array .byte
  | 1 => .byte
  | 2 => .boolean
  | _ => .int
abbrev wsJ40 : List Cond := u_ws RJ4 TJ4 4
theorem nmJ4 : ∀ a, a < 4 → ∀ b, b < 4 → a ≠ b → (TJ4 a).2.1 ≠ (TJ4 b).2.1 := by decide +kernel
theorem tyJ4_ok : ∀ k, k < 4 → parseFieldDescriptor (TJ4 k).2.2.1 = some (tyJ4 k) := by decide +kernel
abbrev cJ4_init_da8c8 : ByteArray := prog_24_method_1_code
def yJ4_init_da8c8 : MethodName := ⟨RJ4, "<init>", "()V"⟩
abbrev cJ4_append_15ec4 : ByteArray := prog_24_method_7_code
def yJ4_append_15ec4 : MethodName := ⟨RJ4, "append", "(Ljava/lang/String;)Ljava/lang/StringBuilder;"⟩
abbrev cJ4_append_bf812 : ByteArray := prog_24_method_15_code
def yJ4_append_bf812 : MethodName := ⟨RJ4, "append", "(I)Ljava/lang/StringBuilder;"⟩
abbrev cJ4_toString_0e30d : ByteArray := prog_24_method_42_code
def yJ4_toString_0e30d : MethodName := ⟨RJ4, "toString", "()Ljava/lang/String;"⟩
abbrev cJ4_length_8abf5 : ByteArray := prog_24_method_93_code
def yJ4_length_8abf5 : MethodName := ⟨RJ4, "length", "()I"⟩
def RJ1 : String := "java/lang/StringLatin1"
def TJ1 : u_T := fun k => match k with
  | _ => ("", "", "", false)
def tyJ1 : Nat → FieldType := fun k => match k with
  | _ => .int
abbrev wsJ10 : List Cond := u_ws RJ1 TJ1 0
theorem nmJ1 : ∀ a, a < 0 → ∀ b, b < 0 → a ≠ b → (TJ1 a).2.1 ≠ (TJ1 b).2.1 := by decide +kernel
theorem tyJ1_ok : ∀ k, k < 0 → parseFieldDescriptor (TJ1 k).2.2.1 = some (tyJ1 k) := by decide +kernel
abbrev cJ1_inflate_0e8fd : ByteArray := prog_25_method_50_code
def yJ1_inflate_0e8fd : MethodName := ⟨RJ1, "inflate", "([BI[BII)V"⟩
def RJ2 : String := "java/lang/StringUTF16"
def TJ2 : u_T := fun k => match k with
  | _ => ("", "", "", false)
def tyJ2 : Nat → FieldType := fun k => match k with
  | _ => .int
abbrev wsJ20 : List Cond := u_ws RJ2 TJ2 0
theorem nmJ2 : ∀ a, a < 0 → ∀ b, b < 0 → a ≠ b → (TJ2 a).2.1 ≠ (TJ2 b).2.1 := by decide +kernel
theorem tyJ2_ok : ∀ k, k < 0 → parseFieldDescriptor (TJ2 k).2.2.1 = some (tyJ2 k) := by decide +kernel
abbrev cJ2_newBytesFor_77867 : ByteArray := prog_26_method_2_code
def yJ2_newBytesFor_77867 : MethodName := ⟨RJ2, "newBytesFor", "(I)[B"⟩
abbrev cJ2_newBytesLength_0f7a4 : ByteArray := prog_26_method_3_code
def yJ2_newBytesLength_0f7a4 : MethodName := ⟨RJ2, "newBytesLength", "(I)I"⟩
abbrev cJ2_putChar_b72d1 : ByteArray := prog_26_method_4_code
def yJ2_putChar_b72d1 : MethodName := ⟨RJ2, "putChar", "([BII)V"⟩
abbrev cJ2_getChar_3b067 : ByteArray := prog_26_method_5_code
def yJ2_getChar_3b067 : MethodName := ⟨RJ2, "getChar", "([BI)C"⟩
abbrev cJ2_length_9d52b : ByteArray := prog_26_method_6_code
def yJ2_length_9d52b : MethodName := ⟨RJ2, "length", "([B)I"⟩
abbrev cJ2_coderFromArrayLen_85cad : ByteArray := prog_26_method_15_code
def yJ2_coderFromArrayLen_85cad : MethodName := ⟨RJ2, "coderFromArrayLen", "([BI)B"⟩
abbrev cJ2_compress_39247 : ByteArray := prog_26_method_17_code
def yJ2_compress_39247 : MethodName := ⟨RJ2, "compress", "([BII)[B"⟩
abbrev cJ2_compress_5af95 : ByteArray := prog_26_method_22_code
def yJ2_compress_5af95 : MethodName := ⟨RJ2, "compress", "([BI[BII)I"⟩
abbrev cJ2_getChars_46870 : ByteArray := prog_26_method_77_code
def yJ2_getChars_46870 : MethodName := ⟨RJ2, "getChars", "(III[B)I"⟩
abbrev cJ2_putCharsAt_cd4e5 : ByteArray := prog_26_method_81_code
def yJ2_putCharsAt_cd4e5 : MethodName := ⟨RJ2, "putCharsAt", "([BICCCC)I"⟩
abbrev cJ2_inflate_0e8fd : ByteArray := prog_26_method_86_code
def yJ2_inflate_0e8fd : MethodName := ⟨RJ2, "inflate", "([BI[BII)V"⟩
abbrev cJ2_getChars_ba4f3 : ByteArray := prog_26_method_89_code
def yJ2_getChars_ba4f3 : MethodName := ⟨RJ2, "getChars", "(II[B)I"⟩
abbrev cJ2_checkBoundsBeginEnd_d044e : ByteArray := prog_26_method_93_code
def yJ2_checkBoundsBeginEnd_d044e : MethodName := ⟨RJ2, "checkBoundsBeginEnd", "(II[B)V"⟩
abbrev cJ2_checkBoundsOffCount_d044e : ByteArray := prog_26_method_94_code
def yJ2_checkBoundsOffCount_d044e : MethodName := ⟨RJ2, "checkBoundsOffCount", "(II[B)V"⟩
def RJ10 : String := "java/lang/System"
def TJ10 : u_T := fun k => match k with
  | _ => ("", "", "", false)
def tyJ10 : Nat → FieldType := fun k => match k with
  | _ => .int
abbrev wsJ100 : List Cond := u_ws RJ10 TJ10 0
theorem nmJ10 : ∀ a, a < 0 → ∀ b, b < 0 → a ≠ b → (TJ10 a).2.1 ≠ (TJ10 b).2.1 := by decide +kernel
theorem tyJ10_ok : ∀ k, k < 0 → parseFieldDescriptor (TJ10 k).2.2.1 = some (tyJ10 k) := by decide +kernel
def RJ7 : String := "java/util/Arrays"
def TJ7 : u_T := fun k => match k with
  | _ => ("", "", "", false)
def tyJ7 : Nat → FieldType := fun k => match k with
  | _ => .int
abbrev wsJ70 : List Cond := u_ws RJ7 TJ7 0
theorem nmJ7 : ∀ a, a < 0 → ∀ b, b < 0 → a ≠ b → (TJ7 a).2.1 ≠ (TJ7 b).2.1 := by decide +kernel
theorem tyJ7_ok : ∀ k, k < 0 → parseFieldDescriptor (TJ7 k).2.2.1 = some (tyJ7 k) := by decide +kernel
abbrev cJ7_rangeCheck_23922 : ByteArray := prog_29_method_30_code
def yJ7_rangeCheck_23922 : MethodName := ⟨RJ7, "rangeCheck", "(III)V"⟩
abbrev cJ7_fill_53178 : ByteArray := prog_29_method_103_code
def yJ7_fill_53178 : MethodName := ⟨RJ7, "fill", "([II)V"⟩
abbrev cJ7_fill_fda19 : ByteArray := prog_29_method_104_code
def yJ7_fill_fda19 : MethodName := ⟨RJ7, "fill", "([IIII)V"⟩
abbrev cJ7_copyOf_9075b : ByteArray := prog_29_method_121_code
def yJ7_copyOf_9075b : MethodName := ⟨RJ7, "copyOf", "([BI)[B"⟩
abbrev cJ7_checkLength_df160 : ByteArray := prog_29_method_131_code
def yJ7_checkLength_df160 : MethodName := ⟨RJ7, "checkLength", "(II)V"⟩
abbrev cJ7_copyOfRange_39247 : ByteArray := prog_29_method_132_code
def yJ7_copyOfRange_39247 : MethodName := ⟨RJ7, "copyOfRange", "([BII)[B"⟩
abbrev cJ7_copyOfRangeByte_39247 : ByteArray := prog_29_method_133_code
def yJ7_copyOfRangeByte_39247 : MethodName := ⟨RJ7, "copyOfRangeByte", "([BII)[B"⟩
def RJ8 : String := "jdk/internal/util/ArraysSupport"
def TJ8 : u_T := fun k => match k with
  | _ => ("", "", "", false)
def tyJ8 : Nat → FieldType := fun k => match k with
  | _ => .int
abbrev wsJ80 : List Cond := u_ws RJ8 TJ8 0
theorem nmJ8 : ∀ a, a < 0 → ∀ b, b < 0 → a ≠ b → (TJ8 a).2.1 ≠ (TJ8 b).2.1 := by decide +kernel
theorem tyJ8_ok : ∀ k, k < 0 → parseFieldDescriptor (TJ8 k).2.2.1 = some (tyJ8 k) := by decide +kernel
abbrev cJ8_newLength_cabcc : ByteArray := prog_30_method_27_code
def yJ8_newLength_cabcc : MethodName := ⟨RJ8, "newLength", "(III)I"⟩
abbrev cJ8_hugeLength_7cf53 : ByteArray := prog_30_method_28_code
def yJ8_hugeLength_7cf53 : MethodName := ⟨RJ8, "hugeLength", "(II)I"⟩
def RJ3 : String := "jdk/internal/util/Preconditions"
def TJ3 : u_T := fun k => match k with
  | _ => ("", "", "", false)
def tyJ3 : Nat → FieldType := fun k => match k with
  | _ => .int
abbrev wsJ30 : List Cond := u_ws RJ3 TJ3 0
theorem nmJ3 : ∀ a, a < 0 → ∀ b, b < 0 → a ≠ b → (TJ3 a).2.1 ≠ (TJ3 b).2.1 := by decide +kernel
theorem tyJ3_ok : ∀ k, k < 0 → parseFieldDescriptor (TJ3 k).2.2.1 = some (tyJ3 k) := by decide +kernel
abbrev cJ3_checkFromToIndex_8c36e : ByteArray := prog_31_method_12_code
def yJ3_checkFromToIndex_8c36e : MethodName := ⟨RJ3, "checkFromToIndex", "(IIILjava/util/function/BiFunction;)I"⟩
abbrev cJ3_checkFromIndexSize_8c36e : ByteArray := prog_31_method_13_code
def yJ3_checkFromIndexSize_8c36e : MethodName := ⟨RJ3, "checkFromIndexSize", "(IIILjava/util/function/BiFunction;)I"⟩
def RL : String := "PaneHouseLaw"
abbrev cL_cell : ByteArray := method_2_code
def yL_cell : MethodName := ⟨RL, "cell", "([II)I"⟩
abbrev cL_feed : ByteArray := method_3_code
def yL_feed : MethodName := ⟨RL, "feed", "(LPaneHouse;IJI)I"⟩
abbrev cL_key : ByteArray := method_4_code
def yL_key : MethodName := ⟨RL, "key", "(LPaneHouse;I[J)I"⟩
abbrev cL_split : ByteArray := method_5_code
def yL_split : MethodName := ⟨RL, "split", "(LPaneHouse;IZ[J)I"⟩
abbrev cL_close : ByteArray := method_6_code
def yL_close : MethodName := ⟨RL, "close", "(LPaneHouse;I[J)I"⟩
abbrev cL_focus : ByteArray := method_7_code
def yL_focus : MethodName := ⟨RL, "focus", "(LPaneHouse;I)I"⟩
abbrev cL_copy : ByteArray := method_8_code
def yL_copy : MethodName := ⟨RL, "copy", "(LPaneHouse;IZI[J)I"⟩
abbrev cL_select : ByteArray := method_9_code
def yL_select : MethodName := ⟨RL, "select", "(LPaneHouse;IIIII[J)I"⟩
abbrev cL_out : ByteArray := method_10_code
def yL_out : MethodName := ⟨RL, "out", "(LPaneHouse;I[J)I"⟩
abbrev cL_cell_ : ByteArray := method_11_code
def yL_cell_ : MethodName := ⟨RL, "cell", "(LPaneHouse;IIZ[J)I"⟩
abbrev cL_about : ByteArray := method_12_code
def yL_about : MethodName := ⟨RL, "about", "(LPaneHouse;II[J)I"⟩
abbrev cL_input : ByteArray := method_13_code
def yL_input : MethodName := ⟨RL, "input", "(LPaneHouse;II[J)I"⟩
abbrev cL_copied : ByteArray := method_14_code
def yL_copied : MethodName := ⟨RL, "copied", "(LPaneHouse;I[J)I"⟩
abbrev cL_count : ByteArray := method_15_code
def yL_count : MethodName := ⟨RL, "count", "(LPaneHouse;I[J)I"⟩
abbrev cL_law : ByteArray := code
def yL_law : MethodName := ⟨RL, "law", "([I)Z"⟩
abbrev vwCl : List vw_C := [(RJ0, TJ0, 4), (RJ4, TJ4, 4), (RJx00060, TJx00060, 6), (RX0, TX0, 3), (RX1, TX1, 5), (RX2, TX2, 2), (RX3, TX3, 8), (RX4, TX4, 5), (RX5, TX5, 8), (RX6, TX6, 6), (RX7, TX7, 18), (RX8, TX8, 2), (RX9, TX9, 11), (RX10, TX10, 61)]
end
section
theorem dX0_init_0 : decode cX0_init 0 = .ok (.aload_n 0, 1) := by decide +kernel
theorem dX0_init_1 : decode cX0_init 1 = .ok (.invokespecial 3, 3) := by decide +kernel
theorem dX0_init_4 : decode cX0_init 4 = .ok (.aload_n 0, 1) := by decide +kernel
theorem dX0_init_5 : decode cX0_init 5 = .ok (.iload_n 1, 1) := by decide +kernel
theorem dX0_init_6 : decode cX0_init 6 = .ok (.putfield 9, 3) := by decide +kernel
theorem dX0_init_9 : decode cX0_init 9 = .ok (.aload_n 0, 1) := by decide +kernel
theorem dX0_init_10 : decode cX0_init 10 = .ok (.iload_n 2, 1) := by decide +kernel
theorem dX0_init_11 : decode cX0_init 11 = .ok (.putfield 15, 3) := by decide +kernel
theorem dX0_init_14 : decode cX0_init 14 = .ok (.aload_n 0, 1) := by decide +kernel
theorem dX0_init_15 : decode cX0_init 15 = .ok (.iload_n 1, 1) := by decide +kernel
theorem dX0_init_16 : decode cX0_init 16 = .ok (.iload_n 2, 1) := by decide +kernel
theorem dX0_init_17 : decode cX0_init 17 = .ok (.imul, 1) := by decide +kernel
theorem dX0_init_18 : decode cX0_init 18 = .ok (.newarray .int, 2) := by decide +kernel
theorem dX0_init_20 : decode cX0_init 20 = .ok (.putfield 18, 3) := by decide +kernel
theorem dX0_init_23 : decode cX0_init 23 = .ok (.return_, 1) := by decide +kernel
theorem dX0_keep_0 : decode cX0_keep 0 = .ok (.iconst 0, 1) := by decide +kernel
theorem dX0_keep_1 : decode cX0_keep 1 = .ok (.istore_n 3, 1) := by decide +kernel
theorem dX0_keep_2 : decode cX0_keep 2 = .ok (.iload_n 3, 1) := by decide +kernel
theorem dX0_keep_3 : decode cX0_keep 3 = .ok (.aload_n 0, 1) := by decide +kernel
theorem dX0_keep_4 : decode cX0_keep 4 = .ok (.getfield 15, 3) := by decide +kernel
theorem dX0_keep_7 : decode cX0_keep 7 = .ok (.if_icmp .ge 30, 3) := by decide +kernel
theorem dX0_keep_10 : decode cX0_keep 10 = .ok (.aload_n 0, 1) := by decide +kernel
theorem dX0_keep_11 : decode cX0_keep 11 = .ok (.iload_n 3, 1) := by decide +kernel
theorem dX0_keep_12 : decode cX0_keep 12 = .ok (.iload_n 3, 1) := by decide +kernel
theorem dX0_keep_13 : decode cX0_keep 13 = .ok (.iload_n 2, 1) := by decide +kernel
theorem dX0_keep_14 : decode cX0_keep 14 = .ok (.if_icmp .ge 7, 3) := by decide +kernel
theorem dX0_keep_17 : decode cX0_keep 17 = .ok (.iload_n 1, 1) := by decide +kernel
theorem dX0_keep_18 : decode cX0_keep 18 = .ok (.goto 4, 3) := by decide +kernel
theorem dX0_keep_21 : decode cX0_keep 21 = .ok (.iconst 0, 1) := by decide +kernel
theorem dX0_keep_22 : decode cX0_keep 22 = .ok (.aload_n 0, 1) := by decide +kernel
theorem dX0_keep_23 : decode cX0_keep 23 = .ok (.getfield 9, 3) := by decide +kernel
theorem dX0_keep_26 : decode cX0_keep 26 = .ok (.bipush 32, 2) := by decide +kernel
theorem dX0_keep_28 : decode cX0_keep 28 = .ok (.invokevirtual 22, 3) := by decide +kernel
theorem dX0_keep_31 : decode cX0_keep 31 = .ok (.iinc 3 1, 3) := by decide +kernel
theorem dX0_keep_34 : decode cX0_keep 34 = .ok (.goto (-32), 3) := by decide +kernel
theorem dX0_keep_37 : decode cX0_keep 37 = .ok (.return_, 1) := by decide +kernel
theorem dX0_set_0 : decode cX0_set 0 = .ok (.iload_n 1, 1) := by decide +kernel
theorem dX0_set_1 : decode cX0_set 1 = .ok (.ifCond .lt 37, 3) := by decide +kernel
theorem dX0_set_4 : decode cX0_set 4 = .ok (.iload_n 1, 1) := by decide +kernel
theorem dX0_set_5 : decode cX0_set 5 = .ok (.aload_n 0, 1) := by decide +kernel
theorem dX0_set_6 : decode cX0_set 6 = .ok (.getfield 9, 3) := by decide +kernel
theorem dX0_set_9 : decode cX0_set 9 = .ok (.if_icmp .ge 29, 3) := by decide +kernel
theorem dX0_set_12 : decode cX0_set 12 = .ok (.iload_n 2, 1) := by decide +kernel
theorem dX0_set_13 : decode cX0_set 13 = .ok (.ifCond .lt 25, 3) := by decide +kernel
theorem dX0_set_16 : decode cX0_set 16 = .ok (.iload_n 2, 1) := by decide +kernel
theorem dX0_set_17 : decode cX0_set 17 = .ok (.aload_n 0, 1) := by decide +kernel
theorem dX0_set_18 : decode cX0_set 18 = .ok (.getfield 15, 3) := by decide +kernel
theorem dX0_set_21 : decode cX0_set 21 = .ok (.if_icmp .ge 17, 3) := by decide +kernel
theorem dX0_set_24 : decode cX0_set 24 = .ok (.aload_n 0, 1) := by decide +kernel
theorem dX0_set_25 : decode cX0_set 25 = .ok (.getfield 18, 3) := by decide +kernel
theorem dX0_set_28 : decode cX0_set 28 = .ok (.iload_n 2, 1) := by decide +kernel
theorem dX0_set_29 : decode cX0_set 29 = .ok (.aload_n 0, 1) := by decide +kernel
theorem dX0_set_30 : decode cX0_set 30 = .ok (.getfield 9, 3) := by decide +kernel
theorem dX0_set_33 : decode cX0_set 33 = .ok (.imul, 1) := by decide +kernel
theorem dX0_set_34 : decode cX0_set 34 = .ok (.iload_n 1, 1) := by decide +kernel
theorem dX0_set_35 : decode cX0_set 35 = .ok (.iadd, 1) := by decide +kernel
theorem dX0_set_36 : decode cX0_set 36 = .ok (.iload_n 3, 1) := by decide +kernel
theorem dX0_set_37 : decode cX0_set 37 = .ok (.iastore, 1) := by decide +kernel
theorem dX0_set_38 : decode cX0_set 38 = .ok (.return_, 1) := by decide +kernel
theorem dX0_fill_0 : decode cX0_fill 0 = .ok (.iload_n 1, 1) := by decide +kernel
theorem dX0_fill_1 : decode cX0_fill 1 = .ok (.ifCond .lt 53, 3) := by decide +kernel
theorem dX0_fill_4 : decode cX0_fill 4 = .ok (.iload_n 1, 1) := by decide +kernel
theorem dX0_fill_5 : decode cX0_fill 5 = .ok (.aload_n 0, 1) := by decide +kernel
theorem dX0_fill_6 : decode cX0_fill 6 = .ok (.getfield 15, 3) := by decide +kernel
theorem dX0_fill_9 : decode cX0_fill 9 = .ok (.if_icmp .ge 45, 3) := by decide +kernel
theorem dX0_fill_12 : decode cX0_fill 12 = .ok (.iload_n 2, 1) := by decide +kernel
theorem dX0_fill_13 : decode cX0_fill 13 = .ok (.ifCond .lt 41, 3) := by decide +kernel
theorem dX0_fill_16 : decode cX0_fill 16 = .ok (.iload_n 2, 1) := by decide +kernel
theorem dX0_fill_17 : decode cX0_fill 17 = .ok (.iload_n 3, 1) := by decide +kernel
theorem dX0_fill_18 : decode cX0_fill 18 = .ok (.if_icmp .ge 36, 3) := by decide +kernel
theorem dX0_fill_21 : decode cX0_fill 21 = .ok (.iload_n 3, 1) := by decide +kernel
theorem dX0_fill_22 : decode cX0_fill 22 = .ok (.aload_n 0, 1) := by decide +kernel
theorem dX0_fill_23 : decode cX0_fill 23 = .ok (.getfield 9, 3) := by decide +kernel
theorem dX0_fill_26 : decode cX0_fill 26 = .ok (.if_icmp .gt 28, 3) := by decide +kernel
theorem dX0_fill_29 : decode cX0_fill 29 = .ok (.aload_n 0, 1) := by decide +kernel
theorem dX0_fill_30 : decode cX0_fill 30 = .ok (.getfield 18, 3) := by decide +kernel
theorem dX0_fill_33 : decode cX0_fill 33 = .ok (.iload_n 1, 1) := by decide +kernel
theorem dX0_fill_34 : decode cX0_fill 34 = .ok (.aload_n 0, 1) := by decide +kernel
theorem dX0_fill_35 : decode cX0_fill 35 = .ok (.getfield 9, 3) := by decide +kernel
theorem dX0_fill_38 : decode cX0_fill 38 = .ok (.imul, 1) := by decide +kernel
theorem dX0_fill_39 : decode cX0_fill 39 = .ok (.iload_n 2, 1) := by decide +kernel
theorem dX0_fill_40 : decode cX0_fill 40 = .ok (.iadd, 1) := by decide +kernel
theorem dX0_fill_41 : decode cX0_fill 41 = .ok (.iload_n 1, 1) := by decide +kernel
theorem dX0_fill_42 : decode cX0_fill 42 = .ok (.aload_n 0, 1) := by decide +kernel
theorem dX0_fill_43 : decode cX0_fill 43 = .ok (.getfield 9, 3) := by decide +kernel
theorem dX0_fill_46 : decode cX0_fill 46 = .ok (.imul, 1) := by decide +kernel
theorem dX0_fill_47 : decode cX0_fill 47 = .ok (.iload_n 3, 1) := by decide +kernel
theorem dX0_fill_48 : decode cX0_fill 48 = .ok (.iadd, 1) := by decide +kernel
theorem dX0_fill_49 : decode cX0_fill 49 = .ok (.iload 4, 2) := by decide +kernel
theorem dX0_fill_51 : decode cX0_fill 51 = .ok (.invokestatic 26, 3) := by decide +kernel
theorem dX0_fill_54 : decode cX0_fill 54 = .ok (.return_, 1) := by decide +kernel
theorem dX0_give_0 : decode cX0_give 0 = .ok (.iload_n 1, 1) := by decide +kernel
theorem dX0_give_1 : decode cX0_give 1 = .ok (.ifCond .lt 54, 3) := by decide +kernel
theorem dX0_give_4 : decode cX0_give 4 = .ok (.iload_n 1, 1) := by decide +kernel
theorem dX0_give_5 : decode cX0_give 5 = .ok (.aload_n 0, 1) := by decide +kernel
theorem dX0_give_6 : decode cX0_give 6 = .ok (.getfield 15, 3) := by decide +kernel
theorem dX0_give_9 : decode cX0_give 9 = .ok (.if_icmp .ge 46, 3) := by decide +kernel
theorem dX0_give_12 : decode cX0_give 12 = .ok (.iload_n 2, 1) := by decide +kernel
theorem dX0_give_13 : decode cX0_give 13 = .ok (.ifCond .lt 42, 3) := by decide +kernel
theorem dX0_give_16 : decode cX0_give 16 = .ok (.iload_n 2, 1) := by decide +kernel
theorem dX0_give_17 : decode cX0_give 17 = .ok (.aload_n 0, 1) := by decide +kernel
theorem dX0_give_18 : decode cX0_give 18 = .ok (.getfield 9, 3) := by decide +kernel
theorem dX0_give_21 : decode cX0_give 21 = .ok (.if_icmp .gt 34, 3) := by decide +kernel
theorem dX0_give_24 : decode cX0_give 24 = .ok (.iload 4, 2) := by decide +kernel
theorem dX0_give_26 : decode cX0_give 26 = .ok (.ifCond .lt 29, 3) := by decide +kernel
theorem dX0_give_29 : decode cX0_give 29 = .ok (.iload 4, 2) := by decide +kernel
theorem dX0_give_31 : decode cX0_give 31 = .ok (.iload_n 2, 1) := by decide +kernel
theorem dX0_give_32 : decode cX0_give 32 = .ok (.iadd, 1) := by decide +kernel
theorem dX0_give_33 : decode cX0_give 33 = .ok (.aload_n 3, 1) := by decide +kernel
theorem dX0_give_34 : decode cX0_give 34 = .ok (.arraylength, 1) := by decide +kernel
theorem dX0_give_35 : decode cX0_give 35 = .ok (.if_icmp .gt 20, 3) := by decide +kernel
theorem dX0_give_38 : decode cX0_give 38 = .ok (.aload_n 0, 1) := by decide +kernel
theorem dX0_give_39 : decode cX0_give 39 = .ok (.getfield 18, 3) := by decide +kernel
theorem dX0_give_42 : decode cX0_give 42 = .ok (.iload_n 1, 1) := by decide +kernel
theorem dX0_give_43 : decode cX0_give 43 = .ok (.aload_n 0, 1) := by decide +kernel
theorem dX0_give_44 : decode cX0_give 44 = .ok (.getfield 9, 3) := by decide +kernel
theorem dX0_give_47 : decode cX0_give 47 = .ok (.imul, 1) := by decide +kernel
theorem dX0_give_48 : decode cX0_give 48 = .ok (.aload_n 3, 1) := by decide +kernel
theorem dX0_give_49 : decode cX0_give 49 = .ok (.iload 4, 2) := by decide +kernel
theorem dX0_give_51 : decode cX0_give 51 = .ok (.iload_n 2, 1) := by decide +kernel
theorem dX0_give_52 : decode cX0_give 52 = .ok (.invokestatic 31, 3) := by decide +kernel
theorem dX0_give_55 : decode cX0_give 55 = .ok (.return_, 1) := by decide +kernel
theorem dX0_moveRow_0 : decode cX0_moveRow 0 = .ok (.iload_n 1, 1) := by decide +kernel
theorem dX0_moveRow_1 : decode cX0_moveRow 1 = .ok (.ifCond .lt 50, 3) := by decide +kernel
theorem dX0_moveRow_4 : decode cX0_moveRow 4 = .ok (.iload_n 1, 1) := by decide +kernel
theorem dX0_moveRow_5 : decode cX0_moveRow 5 = .ok (.aload_n 0, 1) := by decide +kernel
theorem dX0_moveRow_6 : decode cX0_moveRow 6 = .ok (.getfield 15, 3) := by decide +kernel
theorem dX0_moveRow_9 : decode cX0_moveRow 9 = .ok (.if_icmp .ge 42, 3) := by decide +kernel
theorem dX0_moveRow_12 : decode cX0_moveRow 12 = .ok (.iload_n 2, 1) := by decide +kernel
theorem dX0_moveRow_13 : decode cX0_moveRow 13 = .ok (.ifCond .lt 38, 3) := by decide +kernel
theorem dX0_moveRow_16 : decode cX0_moveRow 16 = .ok (.iload_n 2, 1) := by decide +kernel
theorem dX0_moveRow_17 : decode cX0_moveRow 17 = .ok (.aload_n 0, 1) := by decide +kernel
theorem dX0_moveRow_18 : decode cX0_moveRow 18 = .ok (.getfield 15, 3) := by decide +kernel
theorem dX0_moveRow_21 : decode cX0_moveRow 21 = .ok (.if_icmp .ge 30, 3) := by decide +kernel
theorem dX0_moveRow_24 : decode cX0_moveRow 24 = .ok (.aload_n 0, 1) := by decide +kernel
theorem dX0_moveRow_25 : decode cX0_moveRow 25 = .ok (.getfield 18, 3) := by decide +kernel
theorem dX0_moveRow_28 : decode cX0_moveRow 28 = .ok (.iload_n 1, 1) := by decide +kernel
theorem dX0_moveRow_29 : decode cX0_moveRow 29 = .ok (.aload_n 0, 1) := by decide +kernel
theorem dX0_moveRow_30 : decode cX0_moveRow 30 = .ok (.getfield 9, 3) := by decide +kernel
theorem dX0_moveRow_33 : decode cX0_moveRow 33 = .ok (.imul, 1) := by decide +kernel
theorem dX0_moveRow_34 : decode cX0_moveRow 34 = .ok (.aload_n 0, 1) := by decide +kernel
theorem dX0_moveRow_35 : decode cX0_moveRow 35 = .ok (.getfield 18, 3) := by decide +kernel
theorem dX0_moveRow_38 : decode cX0_moveRow 38 = .ok (.iload_n 2, 1) := by decide +kernel
theorem dX0_moveRow_39 : decode cX0_moveRow 39 = .ok (.aload_n 0, 1) := by decide +kernel
theorem dX0_moveRow_40 : decode cX0_moveRow 40 = .ok (.getfield 9, 3) := by decide +kernel
theorem dX0_moveRow_43 : decode cX0_moveRow 43 = .ok (.imul, 1) := by decide +kernel
theorem dX0_moveRow_44 : decode cX0_moveRow 44 = .ok (.aload_n 0, 1) := by decide +kernel
theorem dX0_moveRow_45 : decode cX0_moveRow 45 = .ok (.getfield 9, 3) := by decide +kernel
theorem dX0_moveRow_48 : decode cX0_moveRow 48 = .ok (.invokestatic 31, 3) := by decide +kernel
theorem dX0_moveRow_51 : decode cX0_moveRow 51 = .ok (.return_, 1) := by decide +kernel
theorem dX0_moveCells_0 : decode cX0_moveCells 0 = .ok (.aload_n 0, 1) := by decide +kernel
theorem dX0_moveCells_1 : decode cX0_moveCells 1 = .ok (.getfield 9, 3) := by decide +kernel
theorem dX0_moveCells_4 : decode cX0_moveCells 4 = .ok (.iload_n 2, 1) := by decide +kernel
theorem dX0_moveCells_5 : decode cX0_moveCells 5 = .ok (.iload_n 3, 1) := by decide +kernel
theorem dX0_moveCells_6 : decode cX0_moveCells 6 = .ok (.invokestatic 37, 3) := by decide +kernel
theorem dX0_moveCells_9 : decode cX0_moveCells 9 = .ok (.isub, 1) := by decide +kernel
theorem dX0_moveCells_10 : decode cX0_moveCells 10 = .ok (.istore 5, 2) := by decide +kernel
theorem dX0_moveCells_12 : decode cX0_moveCells 12 = .ok (.iload_n 1, 1) := by decide +kernel
theorem dX0_moveCells_13 : decode cX0_moveCells 13 = .ok (.ifCond .lt 60, 3) := by decide +kernel
theorem dX0_moveCells_16 : decode cX0_moveCells 16 = .ok (.iload_n 1, 1) := by decide +kernel
theorem dX0_moveCells_17 : decode cX0_moveCells 17 = .ok (.aload_n 0, 1) := by decide +kernel
theorem dX0_moveCells_18 : decode cX0_moveCells 18 = .ok (.getfield 15, 3) := by decide +kernel
theorem dX0_moveCells_21 : decode cX0_moveCells 21 = .ok (.if_icmp .ge 52, 3) := by decide +kernel
theorem dX0_moveCells_24 : decode cX0_moveCells 24 = .ok (.iload_n 2, 1) := by decide +kernel
theorem dX0_moveCells_25 : decode cX0_moveCells 25 = .ok (.ifCond .lt 48, 3) := by decide +kernel
theorem dX0_moveCells_28 : decode cX0_moveCells 28 = .ok (.iload_n 3, 1) := by decide +kernel
theorem dX0_moveCells_29 : decode cX0_moveCells 29 = .ok (.ifCond .lt 44, 3) := by decide +kernel
theorem dX0_moveCells_32 : decode cX0_moveCells 32 = .ok (.iload 4, 2) := by decide +kernel
theorem dX0_moveCells_34 : decode cX0_moveCells 34 = .ok (.ifCond .lt 39, 3) := by decide +kernel
theorem dX0_moveCells_37 : decode cX0_moveCells 37 = .ok (.iload 4, 2) := by decide +kernel
theorem dX0_moveCells_39 : decode cX0_moveCells 39 = .ok (.iload 5, 2) := by decide +kernel
theorem dX0_moveCells_41 : decode cX0_moveCells 41 = .ok (.if_icmp .gt 32, 3) := by decide +kernel
theorem dX0_moveCells_44 : decode cX0_moveCells 44 = .ok (.aload_n 0, 1) := by decide +kernel
theorem dX0_moveCells_45 : decode cX0_moveCells 45 = .ok (.getfield 18, 3) := by decide +kernel
theorem dX0_moveCells_48 : decode cX0_moveCells 48 = .ok (.iload_n 1, 1) := by decide +kernel
theorem dX0_moveCells_49 : decode cX0_moveCells 49 = .ok (.aload_n 0, 1) := by decide +kernel
theorem dX0_moveCells_50 : decode cX0_moveCells 50 = .ok (.getfield 9, 3) := by decide +kernel
theorem dX0_moveCells_53 : decode cX0_moveCells 53 = .ok (.imul, 1) := by decide +kernel
theorem dX0_moveCells_54 : decode cX0_moveCells 54 = .ok (.iload_n 2, 1) := by decide +kernel
theorem dX0_moveCells_55 : decode cX0_moveCells 55 = .ok (.iadd, 1) := by decide +kernel
theorem dX0_moveCells_56 : decode cX0_moveCells 56 = .ok (.aload_n 0, 1) := by decide +kernel
theorem dX0_moveCells_57 : decode cX0_moveCells 57 = .ok (.getfield 18, 3) := by decide +kernel
theorem dX0_moveCells_60 : decode cX0_moveCells 60 = .ok (.iload_n 1, 1) := by decide +kernel
theorem dX0_moveCells_61 : decode cX0_moveCells 61 = .ok (.aload_n 0, 1) := by decide +kernel
theorem dX0_moveCells_62 : decode cX0_moveCells 62 = .ok (.getfield 9, 3) := by decide +kernel
theorem dX0_moveCells_65 : decode cX0_moveCells 65 = .ok (.imul, 1) := by decide +kernel
theorem dX0_moveCells_66 : decode cX0_moveCells 66 = .ok (.iload_n 3, 1) := by decide +kernel
theorem dX0_moveCells_67 : decode cX0_moveCells 67 = .ok (.iadd, 1) := by decide +kernel
theorem dX0_moveCells_68 : decode cX0_moveCells 68 = .ok (.iload 4, 2) := by decide +kernel
theorem dX0_moveCells_70 : decode cX0_moveCells 70 = .ok (.invokestatic 31, 3) := by decide +kernel
theorem dX0_moveCells_73 : decode cX0_moveCells 73 = .ok (.return_, 1) := by decide +kernel
theorem dX1_init_0 : decode cX1_init 0 = .ok (.aload_n 0, 1) := by decide +kernel
theorem dX1_init_1 : decode cX1_init 1 = .ok (.invokespecial 3, 3) := by decide +kernel
theorem dX1_init_4 : decode cX1_init 4 = .ok (.aload_n 0, 1) := by decide +kernel
theorem dX1_init_5 : decode cX1_init 5 = .ok (.bipush 30, 2) := by decide +kernel
theorem dX1_init_7 : decode cX1_init 7 = .ok (.newarray .int, 2) := by decide +kernel
theorem dX1_init_9 : decode cX1_init 9 = .ok (.putfield 11, 3) := by decide +kernel
theorem dX1_init_12 : decode cX1_init 12 = .ok (.aload_n 0, 1) := by decide +kernel
theorem dX1_init_13 : decode cX1_init 13 = .ok (.iload_n 1, 1) := by decide +kernel
theorem dX1_init_14 : decode cX1_init 14 = .ok (.putfield 15, 3) := by decide +kernel
theorem dX1_init_17 : decode cX1_init 17 = .ok (.aload_n 0, 1) := by decide +kernel
theorem dX1_init_18 : decode cX1_init 18 = .ok (.bipush 30, 2) := by decide +kernel
theorem dX1_init_20 : decode cX1_init 20 = .ok (.iload_n 1, 1) := by decide +kernel
theorem dX1_init_21 : decode cX1_init 21 = .ok (.imul, 1) := by decide +kernel
theorem dX1_init_22 : decode cX1_init 22 = .ok (.newarray .int, 2) := by decide +kernel
theorem dX1_init_24 : decode cX1_init 24 = .ok (.putfield 19, 3) := by decide +kernel
theorem dX1_init_27 : decode cX1_init 27 = .ok (.return_, 1) := by decide +kernel
theorem dX1_forget_0 : decode cX1_forget 0 = .ok (.aload_n 0, 1) := by decide +kernel
theorem dX1_forget_1 : decode cX1_forget 1 = .ok (.iconst 0, 1) := by decide +kernel
theorem dX1_forget_2 : decode cX1_forget 2 = .ok (.putfield 22, 3) := by decide +kernel
theorem dX1_forget_5 : decode cX1_forget 5 = .ok (.aload_n 0, 1) := by decide +kernel
theorem dX1_forget_6 : decode cX1_forget 6 = .ok (.iconst 0, 1) := by decide +kernel
theorem dX1_forget_7 : decode cX1_forget 7 = .ok (.putfield 25, 3) := by decide +kernel
theorem dX1_forget_10 : decode cX1_forget 10 = .ok (.return_, 1) := by decide +kernel
theorem dX1_add_0 : decode cX1_add 0 = .ok (.aload_n 0, 1) := by decide +kernel
theorem dX1_add_1 : decode cX1_add 1 = .ok (.getfield 22, 3) := by decide +kernel
theorem dX1_add_4 : decode cX1_add 4 = .ok (.aload_n 0, 1) := by decide +kernel
theorem dX1_add_5 : decode cX1_add 5 = .ok (.getfield 25, 3) := by decide +kernel
theorem dX1_add_8 : decode cX1_add 8 = .ok (.iadd, 1) := by decide +kernel
theorem dX1_add_9 : decode cX1_add 9 = .ok (.bipush 30, 2) := by decide +kernel
theorem dX1_add_11 : decode cX1_add 11 = .ok (.irem, 1) := by decide +kernel
theorem dX1_add_12 : decode cX1_add 12 = .ok (.istore 4, 2) := by decide +kernel
theorem dX1_add_14 : decode cX1_add 14 = .ok (.aload_n 0, 1) := by decide +kernel
theorem dX1_add_15 : decode cX1_add 15 = .ok (.getfield 25, 3) := by decide +kernel
theorem dX1_add_18 : decode cX1_add 18 = .ok (.bipush 30, 2) := by decide +kernel
theorem dX1_add_20 : decode cX1_add 20 = .ok (.if_icmp .ge 16, 3) := by decide +kernel
theorem dX1_add_23 : decode cX1_add 23 = .ok (.aload_n 0, 1) := by decide +kernel
theorem dX1_add_24 : decode cX1_add 24 = .ok (.dup, 1) := by decide +kernel
theorem dX1_add_25 : decode cX1_add 25 = .ok (.getfield 25, 3) := by decide +kernel
theorem dX1_add_28 : decode cX1_add 28 = .ok (.iconst 1, 1) := by decide +kernel
theorem dX1_add_29 : decode cX1_add 29 = .ok (.iadd, 1) := by decide +kernel
theorem dX1_add_30 : decode cX1_add 30 = .ok (.putfield 25, 3) := by decide +kernel
theorem dX1_add_33 : decode cX1_add 33 = .ok (.goto 16, 3) := by decide +kernel
theorem dX1_add_36 : decode cX1_add 36 = .ok (.aload_n 0, 1) := by decide +kernel
theorem dX1_add_37 : decode cX1_add 37 = .ok (.aload_n 0, 1) := by decide +kernel
theorem dX1_add_38 : decode cX1_add 38 = .ok (.getfield 22, 3) := by decide +kernel
theorem dX1_add_41 : decode cX1_add 41 = .ok (.iconst 1, 1) := by decide +kernel
theorem dX1_add_42 : decode cX1_add 42 = .ok (.iadd, 1) := by decide +kernel
theorem dX1_add_43 : decode cX1_add 43 = .ok (.bipush 30, 2) := by decide +kernel
theorem dX1_add_45 : decode cX1_add 45 = .ok (.irem, 1) := by decide +kernel
theorem dX1_add_46 : decode cX1_add 46 = .ok (.putfield 22, 3) := by decide +kernel
theorem dX1_add_49 : decode cX1_add 49 = .ok (.aload_n 0, 1) := by decide +kernel
theorem dX1_add_50 : decode cX1_add 50 = .ok (.getfield 11, 3) := by decide +kernel
theorem dX1_add_53 : decode cX1_add 53 = .ok (.iload 4, 2) := by decide +kernel
theorem dX1_add_55 : decode cX1_add 55 = .ok (.iload_n 3, 1) := by decide +kernel
theorem dX1_add_56 : decode cX1_add 56 = .ok (.iastore, 1) := by decide +kernel
theorem dX1_add_57 : decode cX1_add 57 = .ok (.aload_n 1, 1) := by decide +kernel
theorem dX1_add_58 : decode cX1_add 58 = .ok (.iload_n 2, 1) := by decide +kernel
theorem dX1_add_59 : decode cX1_add 59 = .ok (.iload_n 3, 1) := by decide +kernel
theorem dX1_add_60 : decode cX1_add 60 = .ok (.aload_n 0, 1) := by decide +kernel
theorem dX1_add_61 : decode cX1_add 61 = .ok (.getfield 19, 3) := by decide +kernel
theorem dX1_add_64 : decode cX1_add 64 = .ok (.iload 4, 2) := by decide +kernel
theorem dX1_add_66 : decode cX1_add 66 = .ok (.aload_n 0, 1) := by decide +kernel
theorem dX1_add_67 : decode cX1_add 67 = .ok (.getfield 15, 3) := by decide +kernel
theorem dX1_add_70 : decode cX1_add 70 = .ok (.imul, 1) := by decide +kernel
theorem dX1_add_71 : decode cX1_add 71 = .ok (.invokevirtual 28, 3) := by decide +kernel
theorem dX1_add_74 : decode cX1_add 74 = .ok (.return_, 1) := by decide +kernel
theorem dX1_give_0 : decode cX1_give 0 = .ok (.iload_n 1, 1) := by decide +kernel
theorem dX1_give_1 : decode cX1_give 1 = .ok (.ifCond .lt 29, 3) := by decide +kernel
theorem dX1_give_4 : decode cX1_give 4 = .ok (.iload_n 1, 1) := by decide +kernel
theorem dX1_give_5 : decode cX1_give 5 = .ok (.aload_n 0, 1) := by decide +kernel
theorem dX1_give_6 : decode cX1_give 6 = .ok (.getfield 25, 3) := by decide +kernel
theorem dX1_give_9 : decode cX1_give 9 = .ok (.if_icmp .ge 21, 3) := by decide +kernel
theorem dX1_give_12 : decode cX1_give 12 = .ok (.iload 4, 2) := by decide +kernel
theorem dX1_give_14 : decode cX1_give 14 = .ok (.ifCond .lt 16, 3) := by decide +kernel
theorem dX1_give_17 : decode cX1_give 17 = .ok (.iload_n 2, 1) := by decide +kernel
theorem dX1_give_18 : decode cX1_give 18 = .ok (.ifCond .lt 12, 3) := by decide +kernel
theorem dX1_give_21 : decode cX1_give 21 = .ok (.iload 4, 2) := by decide +kernel
theorem dX1_give_23 : decode cX1_give 23 = .ok (.iload_n 2, 1) := by decide +kernel
theorem dX1_give_24 : decode cX1_give 24 = .ok (.iadd, 1) := by decide +kernel
theorem dX1_give_25 : decode cX1_give 25 = .ok (.aload_n 3, 1) := by decide +kernel
theorem dX1_give_26 : decode cX1_give 26 = .ok (.arraylength, 1) := by decide +kernel
theorem dX1_give_27 : decode cX1_give 27 = .ok (.if_icmp .le 4, 3) := by decide +kernel
theorem dX1_give_30 : decode cX1_give 30 = .ok (.return_, 1) := by decide +kernel
theorem dX1_give_31 : decode cX1_give 31 = .ok (.aload_n 0, 1) := by decide +kernel
theorem dX1_give_32 : decode cX1_give 32 = .ok (.getfield 22, 3) := by decide +kernel
theorem dX1_give_35 : decode cX1_give 35 = .ok (.iload_n 1, 1) := by decide +kernel
theorem dX1_give_36 : decode cX1_give 36 = .ok (.iadd, 1) := by decide +kernel
theorem dX1_give_37 : decode cX1_give 37 = .ok (.bipush 30, 2) := by decide +kernel
theorem dX1_give_39 : decode cX1_give 39 = .ok (.irem, 1) := by decide +kernel
theorem dX1_give_40 : decode cX1_give 40 = .ok (.istore 5, 2) := by decide +kernel
theorem dX1_give_42 : decode cX1_give 42 = .ok (.iload_n 2, 1) := by decide +kernel
theorem dX1_give_43 : decode cX1_give 43 = .ok (.aload_n 0, 1) := by decide +kernel
theorem dX1_give_44 : decode cX1_give 44 = .ok (.getfield 11, 3) := by decide +kernel
theorem dX1_give_47 : decode cX1_give 47 = .ok (.iload 5, 2) := by decide +kernel
theorem dX1_give_49 : decode cX1_give 49 = .ok (.iaload, 1) := by decide +kernel
theorem dX1_give_50 : decode cX1_give 50 = .ok (.invokestatic 34, 3) := by decide +kernel
theorem dX1_give_53 : decode cX1_give 53 = .ok (.istore 6, 2) := by decide +kernel
theorem dX1_give_55 : decode cX1_give 55 = .ok (.aload_n 0, 1) := by decide +kernel
theorem dX1_give_56 : decode cX1_give 56 = .ok (.getfield 19, 3) := by decide +kernel
theorem dX1_give_59 : decode cX1_give 59 = .ok (.iload 5, 2) := by decide +kernel
theorem dX1_give_61 : decode cX1_give 61 = .ok (.aload_n 0, 1) := by decide +kernel
theorem dX1_give_62 : decode cX1_give 62 = .ok (.getfield 15, 3) := by decide +kernel
theorem dX1_give_65 : decode cX1_give 65 = .ok (.imul, 1) := by decide +kernel
theorem dX1_give_66 : decode cX1_give 66 = .ok (.aload_n 3, 1) := by decide +kernel
theorem dX1_give_67 : decode cX1_give 67 = .ok (.iload 4, 2) := by decide +kernel
theorem dX1_give_69 : decode cX1_give 69 = .ok (.iload 6, 2) := by decide +kernel
theorem dX1_give_71 : decode cX1_give 71 = .ok (.invokestatic 40, 3) := by decide +kernel
theorem dX1_give_74 : decode cX1_give 74 = .ok (.aload_n 3, 1) := by decide +kernel
theorem dX1_give_75 : decode cX1_give 75 = .ok (.iload 4, 2) := by decide +kernel
theorem dX1_give_77 : decode cX1_give 77 = .ok (.iload 6, 2) := by decide +kernel
theorem dX1_give_79 : decode cX1_give 79 = .ok (.iadd, 1) := by decide +kernel
theorem dX1_give_80 : decode cX1_give 80 = .ok (.iload 4, 2) := by decide +kernel
theorem dX1_give_82 : decode cX1_give 82 = .ok (.iload_n 2, 1) := by decide +kernel
theorem dX1_give_83 : decode cX1_give 83 = .ok (.iadd, 1) := by decide +kernel
theorem dX1_give_84 : decode cX1_give 84 = .ok (.bipush 32, 2) := by decide +kernel
theorem dX1_give_86 : decode cX1_give 86 = .ok (.invokestatic 46, 3) := by decide +kernel
theorem dX1_give_89 : decode cX1_give 89 = .ok (.return_, 1) := by decide +kernel
theorem dX2_init_0 : decode cX2_init 0 = .ok (.aload_n 0, 1) := by decide +kernel
theorem dX2_init_1 : decode cX2_init 1 = .ok (.invokespecial 3, 3) := by decide +kernel
theorem dX2_init_4 : decode cX2_init 4 = .ok (.aload_n 0, 1) := by decide +kernel
theorem dX2_init_5 : decode cX2_init 5 = .ok (.bipush 8, 2) := by decide +kernel
theorem dX2_init_7 : decode cX2_init 7 = .ok (.anewarray 9, 3) := by decide +kernel
theorem dX2_init_10 : decode cX2_init 10 = .ok (.putfield 11, 3) := by decide +kernel
theorem dX2_init_13 : decode cX2_init 13 = .ok (.aload_n 0, 1) := by decide +kernel
theorem dX2_init_14 : decode cX2_init 14 = .ok (.new 9, 3) := by decide +kernel
theorem dX2_init_17 : decode cX2_init 17 = .ok (.dup, 1) := by decide +kernel
theorem dX2_init_18 : decode cX2_init 18 = .ok (.aconst_null, 1) := by decide +kernel
theorem dX2_init_19 : decode cX2_init 19 = .ok (.invokespecial 17, 3) := by decide +kernel
theorem dX2_init_22 : decode cX2_init 22 = .ok (.putfield 20, 3) := by decide +kernel
theorem dX2_init_25 : decode cX2_init 25 = .ok (.aload_n 0, 1) := by decide +kernel
theorem dX2_init_26 : decode cX2_init 26 = .ok (.getfield 20, 3) := by decide +kernel
theorem dX2_init_29 : decode cX2_init 29 = .ok (.iload_n 1, 1) := by decide +kernel
theorem dX2_init_30 : decode cX2_init 30 = .ok (.putfield 24, 3) := by decide +kernel
theorem dX2_init_33 : decode cX2_init 33 = .ok (.aload_n 0, 1) := by decide +kernel
theorem dX2_init_34 : decode cX2_init 34 = .ok (.getfield 20, 3) := by decide +kernel
theorem dX2_init_37 : decode cX2_init 37 = .ok (.iload_n 2, 1) := by decide +kernel
theorem dX2_init_38 : decode cX2_init 38 = .ok (.putfield 28, 3) := by decide +kernel
theorem dX2_init_41 : decode cX2_init 41 = .ok (.aload_n 0, 1) := by decide +kernel
theorem dX2_init_42 : decode cX2_init 42 = .ok (.getfield 11, 3) := by decide +kernel
theorem dX2_init_45 : decode cX2_init 45 = .ok (.iconst 0, 1) := by decide +kernel
theorem dX2_init_46 : decode cX2_init 46 = .ok (.aload_n 0, 1) := by decide +kernel
theorem dX2_init_47 : decode cX2_init 47 = .ok (.getfield 20, 3) := by decide +kernel
theorem dX2_init_50 : decode cX2_init 50 = .ok (.aastore, 1) := by decide +kernel
theorem dX2_init_51 : decode cX2_init 51 = .ok (.return_, 1) := by decide +kernel
theorem dX2_has_0 : decode cX2_has 0 = .ok (.iload_n 1, 1) := by decide +kernel
theorem dX2_has_1 : decode cX2_has 1 = .ok (.ifCond .lt 22, 3) := by decide +kernel
theorem dX2_has_4 : decode cX2_has 4 = .ok (.iload_n 1, 1) := by decide +kernel
theorem dX2_has_5 : decode cX2_has 5 = .ok (.bipush 8, 2) := by decide +kernel
theorem dX2_has_7 : decode cX2_has 7 = .ok (.if_icmp .ge 16, 3) := by decide +kernel
theorem dX2_has_10 : decode cX2_has 10 = .ok (.aload_n 0, 1) := by decide +kernel
theorem dX2_has_11 : decode cX2_has 11 = .ok (.getfield 11, 3) := by decide +kernel
theorem dX2_has_14 : decode cX2_has 14 = .ok (.iload_n 1, 1) := by decide +kernel
theorem dX2_has_15 : decode cX2_has 15 = .ok (.aaload, 1) := by decide +kernel
theorem dX2_has_16 : decode cX2_has 16 = .ok (.ifnull 7, 3) := by decide +kernel
theorem dX2_has_19 : decode cX2_has 19 = .ok (.iconst 1, 1) := by decide +kernel
theorem dX2_has_20 : decode cX2_has 20 = .ok (.goto 4, 3) := by decide +kernel
theorem dX2_has_23 : decode cX2_has 23 = .ok (.iconst 0, 1) := by decide +kernel
theorem dX2_has_24 : decode cX2_has 24 = .ok (.ireturn, 1) := by decide +kernel
theorem dX2_panes_0 : decode cX2_panes 0 = .ok (.iconst 0, 1) := by decide +kernel
theorem dX2_panes_1 : decode cX2_panes 1 = .ok (.istore_n 1, 1) := by decide +kernel
theorem dX2_panes_2 : decode cX2_panes 2 = .ok (.iconst 0, 1) := by decide +kernel
theorem dX2_panes_3 : decode cX2_panes 3 = .ok (.istore_n 2, 1) := by decide +kernel
theorem dX2_panes_4 : decode cX2_panes 4 = .ok (.iload_n 2, 1) := by decide +kernel
theorem dX2_panes_5 : decode cX2_panes 5 = .ok (.bipush 8, 2) := by decide +kernel
theorem dX2_panes_7 : decode cX2_panes 7 = .ok (.if_icmp .ge 25, 3) := by decide +kernel
theorem dX2_panes_10 : decode cX2_panes 10 = .ok (.iload_n 1, 1) := by decide +kernel
theorem dX2_panes_11 : decode cX2_panes 11 = .ok (.aload_n 0, 1) := by decide +kernel
theorem dX2_panes_12 : decode cX2_panes 12 = .ok (.iload_n 2, 1) := by decide +kernel
theorem dX2_panes_13 : decode cX2_panes 13 = .ok (.invokevirtual 31, 3) := by decide +kernel
theorem dX2_panes_16 : decode cX2_panes 16 = .ok (.ifCond .eq 7, 3) := by decide +kernel
theorem dX2_panes_19 : decode cX2_panes 19 = .ok (.iconst 1, 1) := by decide +kernel
theorem dX2_panes_20 : decode cX2_panes 20 = .ok (.goto 4, 3) := by decide +kernel
theorem dX2_panes_23 : decode cX2_panes 23 = .ok (.iconst 0, 1) := by decide +kernel
theorem dX2_panes_24 : decode cX2_panes 24 = .ok (.iadd, 1) := by decide +kernel
theorem dX2_panes_25 : decode cX2_panes 25 = .ok (.istore_n 1, 1) := by decide +kernel
theorem dX2_panes_26 : decode cX2_panes 26 = .ok (.iinc 2 1, 3) := by decide +kernel
theorem dX2_panes_29 : decode cX2_panes 29 = .ok (.goto (-25), 3) := by decide +kernel
theorem dX2_panes_32 : decode cX2_panes 32 = .ok (.iload_n 1, 1) := by decide +kernel
theorem dX2_panes_33 : decode cX2_panes 33 = .ok (.ireturn, 1) := by decide +kernel
theorem dX2_least_0 : decode cX2_least 0 = .ok (.iconst 0, 1) := by decide +kernel
theorem dX2_least_1 : decode cX2_least 1 = .ok (.istore_n 2, 1) := by decide +kernel
theorem dX2_least_2 : decode cX2_least 2 = .ok (.iload_n 2, 1) := by decide +kernel
theorem dX2_least_3 : decode cX2_least 3 = .ok (.bipush 8, 2) := by decide +kernel
theorem dX2_least_5 : decode cX2_least 5 = .ok (.if_icmp .ge 20, 3) := by decide +kernel
theorem dX2_least_8 : decode cX2_least 8 = .ok (.aload_n 0, 1) := by decide +kernel
theorem dX2_least_9 : decode cX2_least 9 = .ok (.iload_n 2, 1) := by decide +kernel
theorem dX2_least_10 : decode cX2_least 10 = .ok (.invokevirtual 31, 3) := by decide +kernel
theorem dX2_least_13 : decode cX2_least 13 = .ok (.iload_n 1, 1) := by decide +kernel
theorem dX2_least_14 : decode cX2_least 14 = .ok (.if_icmp .ne 5, 3) := by decide +kernel
theorem dX2_least_17 : decode cX2_least 17 = .ok (.iload_n 2, 1) := by decide +kernel
theorem dX2_least_18 : decode cX2_least 18 = .ok (.ireturn, 1) := by decide +kernel
theorem dX2_least_19 : decode cX2_least 19 = .ok (.iinc 2 1, 3) := by decide +kernel
theorem dX2_least_22 : decode cX2_least 22 = .ok (.goto (-20), 3) := by decide +kernel
theorem dX2_least_25 : decode cX2_least 25 = .ok (.iconst (-1), 1) := by decide +kernel
theorem dX2_least_26 : decode cX2_least 26 = .ok (.ireturn, 1) := by decide +kernel
theorem dX2_paneBehind_0 : decode cX2_paneBehind 0 = .ok (.iconst 1, 1) := by decide +kernel
theorem dX2_paneBehind_1 : decode cX2_paneBehind 1 = .ok (.istore_n 2, 1) := by decide +kernel
theorem dX2_paneBehind_2 : decode cX2_paneBehind 2 = .ok (.iload_n 2, 1) := by decide +kernel
theorem dX2_paneBehind_3 : decode cX2_paneBehind 3 = .ok (.bipush 8, 2) := by decide +kernel
theorem dX2_paneBehind_5 : decode cX2_paneBehind 5 = .ok (.if_icmp .ge 26, 3) := by decide +kernel
theorem dX2_paneBehind_8 : decode cX2_paneBehind 8 = .ok (.iload_n 1, 1) := by decide +kernel
theorem dX2_paneBehind_9 : decode cX2_paneBehind 9 = .ok (.iload_n 2, 1) := by decide +kernel
theorem dX2_paneBehind_10 : decode cX2_paneBehind 10 = .ok (.iadd, 1) := by decide +kernel
theorem dX2_paneBehind_11 : decode cX2_paneBehind 11 = .ok (.bipush 8, 2) := by decide +kernel
theorem dX2_paneBehind_13 : decode cX2_paneBehind 13 = .ok (.irem, 1) := by decide +kernel
theorem dX2_paneBehind_14 : decode cX2_paneBehind 14 = .ok (.istore_n 3, 1) := by decide +kernel
theorem dX2_paneBehind_15 : decode cX2_paneBehind 15 = .ok (.aload_n 0, 1) := by decide +kernel
theorem dX2_paneBehind_16 : decode cX2_paneBehind 16 = .ok (.iload_n 3, 1) := by decide +kernel
theorem dX2_paneBehind_17 : decode cX2_paneBehind 17 = .ok (.invokevirtual 31, 3) := by decide +kernel
theorem dX2_paneBehind_20 : decode cX2_paneBehind 20 = .ok (.ifCond .eq 5, 3) := by decide +kernel
theorem dX2_paneBehind_23 : decode cX2_paneBehind 23 = .ok (.iload_n 3, 1) := by decide +kernel
theorem dX2_paneBehind_24 : decode cX2_paneBehind 24 = .ok (.ireturn, 1) := by decide +kernel
theorem dX2_paneBehind_25 : decode cX2_paneBehind 25 = .ok (.iinc 2 1, 3) := by decide +kernel
theorem dX2_paneBehind_28 : decode cX2_paneBehind 28 = .ok (.goto (-26), 3) := by decide +kernel
theorem dX2_paneBehind_31 : decode cX2_paneBehind 31 = .ok (.iload_n 1, 1) := by decide +kernel
theorem dX2_paneBehind_32 : decode cX2_paneBehind 32 = .ok (.ireturn, 1) := by decide +kernel
theorem dX2_divide_0 : decode cX2_divide 0 = .ok (.aload_n 0, 1) := by decide +kernel
theorem dX2_divide_1 : decode cX2_divide 1 = .ok (.iconst 0, 1) := by decide +kernel
theorem dX2_divide_2 : decode cX2_divide 2 = .ok (.invokevirtual 35, 3) := by decide +kernel
theorem dX2_divide_5 : decode cX2_divide 5 = .ok (.istore_n 3, 1) := by decide +kernel
theorem dX2_divide_6 : decode cX2_divide 6 = .ok (.iload_n 3, 1) := by decide +kernel
theorem dX2_divide_7 : decode cX2_divide 7 = .ok (.iconst (-1), 1) := by decide +kernel
theorem dX2_divide_8 : decode cX2_divide 8 = .ok (.if_icmp .eq 25, 3) := by decide +kernel
theorem dX2_divide_11 : decode cX2_divide 11 = .ok (.aload_n 0, 1) := by decide +kernel
theorem dX2_divide_12 : decode cX2_divide 12 = .ok (.iload_n 1, 1) := by decide +kernel
theorem dX2_divide_13 : decode cX2_divide 13 = .ok (.invokevirtual 31, 3) := by decide +kernel
theorem dX2_divide_16 : decode cX2_divide 16 = .ok (.ifCond .eq 17, 3) := by decide +kernel
theorem dX2_divide_19 : decode cX2_divide 19 = .ok (.aload_n 0, 1) := by decide +kernel
theorem dX2_divide_20 : decode cX2_divide 20 = .ok (.getfield 11, 3) := by decide +kernel
theorem dX2_divide_23 : decode cX2_divide 23 = .ok (.iload_n 1, 1) := by decide +kernel
theorem dX2_divide_24 : decode cX2_divide 24 = .ok (.aaload, 1) := by decide +kernel
theorem dX2_divide_25 : decode cX2_divide 25 = .ok (.iload_n 2, 1) := by decide +kernel
theorem dX2_divide_26 : decode cX2_divide 26 = .ok (.invokevirtual 39, 3) := by decide +kernel
theorem dX2_divide_29 : decode cX2_divide 29 = .ok (.iconst 2, 1) := by decide +kernel
theorem dX2_divide_30 : decode cX2_divide 30 = .ok (.if_icmp .gt 5, 3) := by decide +kernel
theorem dX2_divide_33 : decode cX2_divide 33 = .ok (.iconst (-1), 1) := by decide +kernel
theorem dX2_divide_34 : decode cX2_divide 34 = .ok (.ireturn, 1) := by decide +kernel
theorem dX2_divide_35 : decode cX2_divide 35 = .ok (.aload_n 0, 1) := by decide +kernel
theorem dX2_divide_36 : decode cX2_divide 36 = .ok (.getfield 11, 3) := by decide +kernel
theorem dX2_divide_39 : decode cX2_divide 39 = .ok (.iload_n 1, 1) := by decide +kernel
theorem dX2_divide_40 : decode cX2_divide 40 = .ok (.aaload, 1) := by decide +kernel
theorem dX2_divide_41 : decode cX2_divide 41 = .ok (.astore 4, 2) := by decide +kernel
theorem dX2_divide_43 : decode cX2_divide 43 = .ok (.new 9, 3) := by decide +kernel
theorem dX2_divide_46 : decode cX2_divide 46 = .ok (.dup, 1) := by decide +kernel
theorem dX2_divide_47 : decode cX2_divide 47 = .ok (.aload 4, 2) := by decide +kernel
theorem dX2_divide_49 : decode cX2_divide 49 = .ok (.getfield 42, 3) := by decide +kernel
theorem dX2_divide_52 : decode cX2_divide 52 = .ok (.invokespecial 17, 3) := by decide +kernel
theorem dX2_divide_55 : decode cX2_divide 55 = .ok (.astore 5, 2) := by decide +kernel
theorem dX2_divide_57 : decode cX2_divide 57 = .ok (.aload_n 0, 1) := by decide +kernel
theorem dX2_divide_58 : decode cX2_divide 58 = .ok (.aload 4, 2) := by decide +kernel
theorem dX2_divide_60 : decode cX2_divide 60 = .ok (.aload 5, 2) := by decide +kernel
theorem dX2_divide_62 : decode cX2_divide 62 = .ok (.invokevirtual 45, 3) := by decide +kernel
theorem dX2_divide_65 : decode cX2_divide 65 = .ok (.aload 4, 2) := by decide +kernel
theorem dX2_divide_67 : decode cX2_divide 67 = .ok (.aload 5, 2) := by decide +kernel
theorem dX2_divide_69 : decode cX2_divide 69 = .ok (.putfield 42, 3) := by decide +kernel
theorem dX2_divide_72 : decode cX2_divide 72 = .ok (.aload 5, 2) := by decide +kernel
theorem dX2_divide_74 : decode cX2_divide 74 = .ok (.aload 4, 2) := by decide +kernel
theorem dX2_divide_76 : decode cX2_divide 76 = .ok (.putfield 49, 3) := by decide +kernel
theorem dX2_divide_79 : decode cX2_divide 79 = .ok (.aload 5, 2) := by decide +kernel
theorem dX2_divide_81 : decode cX2_divide 81 = .ok (.new 9, 3) := by decide +kernel
theorem dX2_divide_84 : decode cX2_divide 84 = .ok (.dup, 1) := by decide +kernel
theorem dX2_divide_85 : decode cX2_divide 85 = .ok (.aload 5, 2) := by decide +kernel
theorem dX2_divide_87 : decode cX2_divide 87 = .ok (.invokespecial 17, 3) := by decide +kernel
theorem dX2_divide_90 : decode cX2_divide 90 = .ok (.putfield 52, 3) := by decide +kernel
theorem dX2_divide_93 : decode cX2_divide 93 = .ok (.aload 5, 2) := by decide +kernel
theorem dX2_divide_95 : decode cX2_divide 95 = .ok (.iload_n 2, 1) := by decide +kernel
theorem dX2_divide_96 : decode cX2_divide 96 = .ok (.putfield 55, 3) := by decide +kernel
theorem dX2_divide_99 : decode cX2_divide 99 = .ok (.aload 5, 2) := by decide +kernel
theorem dX2_divide_101 : decode cX2_divide 101 = .ok (.aload 4, 2) := by decide +kernel
theorem dX2_divide_103 : decode cX2_divide 103 = .ok (.getfield 59, 3) := by decide +kernel
theorem dX2_divide_106 : decode cX2_divide 106 = .ok (.putfield 59, 3) := by decide +kernel
theorem dX2_divide_109 : decode cX2_divide 109 = .ok (.aload 5, 2) := by decide +kernel
theorem dX2_divide_111 : decode cX2_divide 111 = .ok (.aload 4, 2) := by decide +kernel
theorem dX2_divide_113 : decode cX2_divide 113 = .ok (.getfield 62, 3) := by decide +kernel
theorem dX2_divide_116 : decode cX2_divide 116 = .ok (.putfield 62, 3) := by decide +kernel
theorem dX2_divide_119 : decode cX2_divide 119 = .ok (.aload 5, 2) := by decide +kernel
theorem dX2_divide_121 : decode cX2_divide 121 = .ok (.aload 4, 2) := by decide +kernel
theorem dX2_divide_123 : decode cX2_divide 123 = .ok (.getfield 24, 3) := by decide +kernel
theorem dX2_divide_126 : decode cX2_divide 126 = .ok (.putfield 24, 3) := by decide +kernel
theorem dX2_divide_129 : decode cX2_divide 129 = .ok (.aload 5, 2) := by decide +kernel
theorem dX2_divide_131 : decode cX2_divide 131 = .ok (.aload 4, 2) := by decide +kernel
theorem dX2_divide_133 : decode cX2_divide 133 = .ok (.getfield 28, 3) := by decide +kernel
theorem dX2_divide_136 : decode cX2_divide 136 = .ok (.putfield 28, 3) := by decide +kernel
theorem dX2_divide_139 : decode cX2_divide 139 = .ok (.aload_n 0, 1) := by decide +kernel
theorem dX2_divide_140 : decode cX2_divide 140 = .ok (.getfield 11, 3) := by decide +kernel
theorem dX2_divide_143 : decode cX2_divide 143 = .ok (.iload_n 3, 1) := by decide +kernel
theorem dX2_divide_144 : decode cX2_divide 144 = .ok (.aload 5, 2) := by decide +kernel
theorem dX2_divide_146 : decode cX2_divide 146 = .ok (.getfield 52, 3) := by decide +kernel
theorem dX2_divide_149 : decode cX2_divide 149 = .ok (.aastore, 1) := by decide +kernel
theorem dX2_divide_150 : decode cX2_divide 150 = .ok (.aload 5, 2) := by decide +kernel
theorem dX2_divide_152 : decode cX2_divide 152 = .ok (.aload 5, 2) := by decide +kernel
theorem dX2_divide_154 : decode cX2_divide 154 = .ok (.iload_n 2, 1) := by decide +kernel
theorem dX2_divide_155 : decode cX2_divide 155 = .ok (.invokevirtual 39, 3) := by decide +kernel
theorem dX2_divide_158 : decode cX2_divide 158 = .ok (.iconst 1, 1) := by decide +kernel
theorem dX2_divide_159 : decode cX2_divide 159 = .ok (.isub, 1) := by decide +kernel
theorem dX2_divide_160 : decode cX2_divide 160 = .ok (.iconst 2, 1) := by decide +kernel
theorem dX2_divide_161 : decode cX2_divide 161 = .ok (.idiv, 1) := by decide +kernel
theorem dX2_divide_162 : decode cX2_divide 162 = .ok (.iconst 0, 1) := by decide +kernel
theorem dX2_divide_163 : decode cX2_divide 163 = .ok (.invokestatic 65, 3) := by decide +kernel
theorem dX2_divide_166 : decode cX2_divide 166 = .ok (.iload_n 3, 1) := by decide +kernel
theorem dX2_divide_167 : decode cX2_divide 167 = .ok (.ireturn, 1) := by decide +kernel
theorem dX2_remove_0 : decode cX2_remove 0 = .ok (.aload_n 0, 1) := by decide +kernel
theorem dX2_remove_1 : decode cX2_remove 1 = .ok (.iload_n 1, 1) := by decide +kernel
theorem dX2_remove_2 : decode cX2_remove 2 = .ok (.invokevirtual 31, 3) := by decide +kernel
theorem dX2_remove_5 : decode cX2_remove 5 = .ok (.ifCond .eq 12, 3) := by decide +kernel
theorem dX2_remove_8 : decode cX2_remove 8 = .ok (.aload_n 0, 1) := by decide +kernel
theorem dX2_remove_9 : decode cX2_remove 9 = .ok (.getfield 11, 3) := by decide +kernel
theorem dX2_remove_12 : decode cX2_remove 12 = .ok (.iload_n 1, 1) := by decide +kernel
theorem dX2_remove_13 : decode cX2_remove 13 = .ok (.aaload, 1) := by decide +kernel
theorem dX2_remove_14 : decode cX2_remove 14 = .ok (.goto 4, 3) := by decide +kernel
theorem dX2_remove_17 : decode cX2_remove 17 = .ok (.aconst_null, 1) := by decide +kernel
theorem dX2_remove_18 : decode cX2_remove 18 = .ok (.astore_n 2, 1) := by decide +kernel
theorem dX2_remove_19 : decode cX2_remove 19 = .ok (.aload_n 2, 1) := by decide +kernel
theorem dX2_remove_20 : decode cX2_remove 20 = .ok (.ifnonnull 7, 3) := by decide +kernel
theorem dX2_remove_23 : decode cX2_remove 23 = .ok (.aconst_null, 1) := by decide +kernel
theorem dX2_remove_24 : decode cX2_remove 24 = .ok (.goto 7, 3) := by decide +kernel
theorem dX2_remove_27 : decode cX2_remove 27 = .ok (.aload_n 2, 1) := by decide +kernel
theorem dX2_remove_28 : decode cX2_remove 28 = .ok (.getfield 42, 3) := by decide +kernel
theorem dX2_remove_31 : decode cX2_remove 31 = .ok (.astore_n 3, 1) := by decide +kernel
theorem dX2_remove_32 : decode cX2_remove 32 = .ok (.aload_n 3, 1) := by decide +kernel
theorem dX2_remove_33 : decode cX2_remove 33 = .ok (.ifnull 10, 3) := by decide +kernel
theorem dX2_remove_36 : decode cX2_remove 36 = .ok (.aload_n 3, 1) := by decide +kernel
theorem dX2_remove_37 : decode cX2_remove 37 = .ok (.invokevirtual 69, 3) := by decide +kernel
theorem dX2_remove_40 : decode cX2_remove 40 = .ok (.ifCond .ne 5, 3) := by decide +kernel
theorem dX2_remove_43 : decode cX2_remove 43 = .ok (.iconst 0, 1) := by decide +kernel
theorem dX2_remove_44 : decode cX2_remove 44 = .ok (.ireturn, 1) := by decide +kernel
theorem dX2_remove_45 : decode cX2_remove 45 = .ok (.aload_n 3, 1) := by decide +kernel
theorem dX2_remove_46 : decode cX2_remove 46 = .ok (.getfield 49, 3) := by decide +kernel
theorem dX2_remove_49 : decode cX2_remove 49 = .ok (.aload_n 2, 1) := by decide +kernel
theorem dX2_remove_50 : decode cX2_remove 50 = .ok (.if_acmp .ne 10, 3) := by decide +kernel
theorem dX2_remove_53 : decode cX2_remove 53 = .ok (.aload_n 3, 1) := by decide +kernel
theorem dX2_remove_54 : decode cX2_remove 54 = .ok (.getfield 52, 3) := by decide +kernel
theorem dX2_remove_57 : decode cX2_remove 57 = .ok (.goto 7, 3) := by decide +kernel
theorem dX2_remove_60 : decode cX2_remove 60 = .ok (.aload_n 3, 1) := by decide +kernel
theorem dX2_remove_61 : decode cX2_remove 61 = .ok (.getfield 49, 3) := by decide +kernel
theorem dX2_remove_64 : decode cX2_remove 64 = .ok (.astore 4, 2) := by decide +kernel
theorem dX2_remove_66 : decode cX2_remove 66 = .ok (.aload_n 0, 1) := by decide +kernel
theorem dX2_remove_67 : decode cX2_remove 67 = .ok (.aload_n 3, 1) := by decide +kernel
theorem dX2_remove_68 : decode cX2_remove 68 = .ok (.aload 4, 2) := by decide +kernel
theorem dX2_remove_70 : decode cX2_remove 70 = .ok (.invokevirtual 45, 3) := by decide +kernel
theorem dX2_remove_73 : decode cX2_remove 73 = .ok (.aload_n 0, 1) := by decide +kernel
theorem dX2_remove_74 : decode cX2_remove 74 = .ok (.getfield 11, 3) := by decide +kernel
theorem dX2_remove_77 : decode cX2_remove 77 = .ok (.iload_n 1, 1) := by decide +kernel
theorem dX2_remove_78 : decode cX2_remove 78 = .ok (.aconst_null, 1) := by decide +kernel
theorem dX2_remove_79 : decode cX2_remove 79 = .ok (.aastore, 1) := by decide +kernel
theorem dX2_remove_80 : decode cX2_remove 80 = .ok (.aload 4, 2) := by decide +kernel
theorem dX2_remove_82 : decode cX2_remove 82 = .ok (.aload_n 3, 1) := by decide +kernel
theorem dX2_remove_83 : decode cX2_remove 83 = .ok (.getfield 59, 3) := by decide +kernel
theorem dX2_remove_86 : decode cX2_remove 86 = .ok (.aload_n 3, 1) := by decide +kernel
theorem dX2_remove_87 : decode cX2_remove 87 = .ok (.getfield 62, 3) := by decide +kernel
theorem dX2_remove_90 : decode cX2_remove 90 = .ok (.aload_n 3, 1) := by decide +kernel
theorem dX2_remove_91 : decode cX2_remove 91 = .ok (.getfield 24, 3) := by decide +kernel
theorem dX2_remove_94 : decode cX2_remove 94 = .ok (.aload_n 3, 1) := by decide +kernel
theorem dX2_remove_95 : decode cX2_remove 95 = .ok (.getfield 28, 3) := by decide +kernel
theorem dX2_remove_98 : decode cX2_remove 98 = .ok (.iconst 0, 1) := by decide +kernel
theorem dX2_remove_99 : decode cX2_remove 99 = .ok (.invokestatic 73, 3) := by decide +kernel
theorem dX2_remove_102 : decode cX2_remove 102 = .ok (.iconst 1, 1) := by decide +kernel
theorem dX2_remove_103 : decode cX2_remove 103 = .ok (.ireturn, 1) := by decide +kernel
theorem dX2_drawBorders_0 : decode cX2_drawBorders 0 = .ok (.aload_n 0, 1) := by decide +kernel
theorem dX2_drawBorders_1 : decode cX2_drawBorders 1 = .ok (.getfield 20, 3) := by decide +kernel
theorem dX2_drawBorders_4 : decode cX2_drawBorders 4 = .ok (.aload_n 1, 1) := by decide +kernel
theorem dX2_drawBorders_5 : decode cX2_drawBorders 5 = .ok (.iload_n 2, 1) := by decide +kernel
theorem dX2_drawBorders_6 : decode cX2_drawBorders 6 = .ok (.iconst 0, 1) := by decide +kernel
theorem dX2_drawBorders_7 : decode cX2_drawBorders 7 = .ok (.invokestatic 77, 3) := by decide +kernel
theorem dX2_drawBorders_10 : decode cX2_drawBorders 10 = .ok (.return_, 1) := by decide +kernel
theorem dX2_exchange_0 : decode cX2_exchange 0 = .ok (.aload_n 1, 1) := by decide +kernel
theorem dX2_exchange_1 : decode cX2_exchange 1 = .ok (.getfield 42, 3) := by decide +kernel
theorem dX2_exchange_4 : decode cX2_exchange 4 = .ok (.astore_n 3, 1) := by decide +kernel
theorem dX2_exchange_5 : decode cX2_exchange 5 = .ok (.aload_n 2, 1) := by decide +kernel
theorem dX2_exchange_6 : decode cX2_exchange 6 = .ok (.aload_n 3, 1) := by decide +kernel
theorem dX2_exchange_7 : decode cX2_exchange 7 = .ok (.putfield 42, 3) := by decide +kernel
theorem dX2_exchange_10 : decode cX2_exchange 10 = .ok (.aload_n 3, 1) := by decide +kernel
theorem dX2_exchange_11 : decode cX2_exchange 11 = .ok (.ifnonnull 11, 3) := by decide +kernel
theorem dX2_exchange_14 : decode cX2_exchange 14 = .ok (.aload_n 0, 1) := by decide +kernel
theorem dX2_exchange_15 : decode cX2_exchange 15 = .ok (.aload_n 2, 1) := by decide +kernel
theorem dX2_exchange_16 : decode cX2_exchange 16 = .ok (.putfield 20, 3) := by decide +kernel
theorem dX2_exchange_19 : decode cX2_exchange 19 = .ok (.goto 24, 3) := by decide +kernel
theorem dX2_exchange_22 : decode cX2_exchange 22 = .ok (.aload_n 3, 1) := by decide +kernel
theorem dX2_exchange_23 : decode cX2_exchange 23 = .ok (.getfield 49, 3) := by decide +kernel
theorem dX2_exchange_26 : decode cX2_exchange 26 = .ok (.aload_n 1, 1) := by decide +kernel
theorem dX2_exchange_27 : decode cX2_exchange 27 = .ok (.if_acmp .ne 11, 3) := by decide +kernel
theorem dX2_exchange_30 : decode cX2_exchange 30 = .ok (.aload_n 3, 1) := by decide +kernel
theorem dX2_exchange_31 : decode cX2_exchange 31 = .ok (.aload_n 2, 1) := by decide +kernel
theorem dX2_exchange_32 : decode cX2_exchange 32 = .ok (.putfield 49, 3) := by decide +kernel
theorem dX2_exchange_35 : decode cX2_exchange 35 = .ok (.goto 8, 3) := by decide +kernel
theorem dX2_exchange_38 : decode cX2_exchange 38 = .ok (.aload_n 3, 1) := by decide +kernel
theorem dX2_exchange_39 : decode cX2_exchange 39 = .ok (.aload_n 2, 1) := by decide +kernel
theorem dX2_exchange_40 : decode cX2_exchange 40 = .ok (.putfield 52, 3) := by decide +kernel
theorem dX2_exchange_43 : decode cX2_exchange 43 = .ok (.return_, 1) := by decide +kernel
theorem dX2_place_0 : decode cX2_place 0 = .ok (.aload_n 0, 1) := by decide +kernel
theorem dX2_place_1 : decode cX2_place 1 = .ok (.aload_n 0, 1) := by decide +kernel
theorem dX2_place_2 : decode cX2_place 2 = .ok (.getfield 55, 3) := by decide +kernel
theorem dX2_place_5 : decode cX2_place 5 = .ok (.invokevirtual 39, 3) := by decide +kernel
theorem dX2_place_8 : decode cX2_place 8 = .ok (.istore 6, 2) := by decide +kernel
theorem dX2_place_10 : decode cX2_place 10 = .ok (.aload_n 0, 1) := by decide +kernel
theorem dX2_place_11 : decode cX2_place 11 = .ok (.iload_n 1, 1) := by decide +kernel
theorem dX2_place_12 : decode cX2_place 12 = .ok (.putfield 59, 3) := by decide +kernel
theorem dX2_place_15 : decode cX2_place 15 = .ok (.aload_n 0, 1) := by decide +kernel
theorem dX2_place_16 : decode cX2_place 16 = .ok (.iload_n 2, 1) := by decide +kernel
theorem dX2_place_17 : decode cX2_place 17 = .ok (.putfield 62, 3) := by decide +kernel
theorem dX2_place_20 : decode cX2_place 20 = .ok (.aload_n 0, 1) := by decide +kernel
theorem dX2_place_21 : decode cX2_place 21 = .ok (.iload_n 3, 1) := by decide +kernel
theorem dX2_place_22 : decode cX2_place 22 = .ok (.putfield 24, 3) := by decide +kernel
theorem dX2_place_25 : decode cX2_place 25 = .ok (.aload_n 0, 1) := by decide +kernel
theorem dX2_place_26 : decode cX2_place 26 = .ok (.iload 4, 2) := by decide +kernel
theorem dX2_place_28 : decode cX2_place 28 = .ok (.putfield 28, 3) := by decide +kernel
theorem dX2_place_31 : decode cX2_place 31 = .ok (.aload_n 0, 1) := by decide +kernel
theorem dX2_place_32 : decode cX2_place 32 = .ok (.invokevirtual 69, 3) := by decide +kernel
theorem dX2_place_35 : decode cX2_place 35 = .ok (.ifCond .eq 71, 3) := by decide +kernel
theorem dX2_place_38 : decode cX2_place 38 = .ok (.aload_n 0, 1) := by decide +kernel
theorem dX2_place_39 : decode cX2_place 39 = .ok (.aload_n 0, 1) := by decide +kernel
theorem dX2_place_40 : decode cX2_place 40 = .ok (.getfield 55, 3) := by decide +kernel
theorem dX2_place_43 : decode cX2_place 43 = .ok (.invokevirtual 39, 3) := by decide +kernel
theorem dX2_place_46 : decode cX2_place 46 = .ok (.istore 7, 2) := by decide +kernel
theorem dX2_place_48 : decode cX2_place 48 = .ok (.aload_n 0, 1) := by decide +kernel
theorem dX2_place_49 : decode cX2_place 49 = .ok (.getfield 49, 3) := by decide +kernel
theorem dX2_place_52 : decode cX2_place 52 = .ok (.aload_n 0, 1) := by decide +kernel
theorem dX2_place_53 : decode cX2_place 53 = .ok (.getfield 55, 3) := by decide +kernel
theorem dX2_place_56 : decode cX2_place 56 = .ok (.invokevirtual 39, 3) := by decide +kernel
theorem dX2_place_59 : decode cX2_place 59 = .ok (.istore 8, 2) := by decide +kernel
theorem dX2_place_61 : decode cX2_place 61 = .ok (.iload 6, 2) := by decide +kernel
theorem dX2_place_63 : decode cX2_place 63 = .ok (.iconst 1, 1) := by decide +kernel
theorem dX2_place_64 : decode cX2_place 64 = .ok (.if_icmp .le 18, 3) := by decide +kernel
theorem dX2_place_67 : decode cX2_place 67 = .ok (.iload 7, 2) := by decide +kernel
theorem dX2_place_69 : decode cX2_place 69 = .ok (.iconst 1, 1) := by decide +kernel
theorem dX2_place_70 : decode cX2_place 70 = .ok (.isub, 1) := by decide +kernel
theorem dX2_place_71 : decode cX2_place 71 = .ok (.iload 8, 2) := by decide +kernel
theorem dX2_place_73 : decode cX2_place 73 = .ok (.imul, 1) := by decide +kernel
theorem dX2_place_74 : decode cX2_place 74 = .ok (.iload 6, 2) := by decide +kernel
theorem dX2_place_76 : decode cX2_place 76 = .ok (.iconst 1, 1) := by decide +kernel
theorem dX2_place_77 : decode cX2_place 77 = .ok (.isub, 1) := by decide +kernel
theorem dX2_place_78 : decode cX2_place 78 = .ok (.idiv, 1) := by decide +kernel
theorem dX2_place_79 : decode cX2_place 79 = .ok (.goto 4, 3) := by decide +kernel
theorem dX2_place_82 : decode cX2_place 82 = .ok (.iconst 1, 1) := by decide +kernel
theorem dX2_place_83 : decode cX2_place 83 = .ok (.istore 9, 2) := by decide +kernel
theorem dX2_place_85 : decode cX2_place 85 = .ok (.aload_n 0, 1) := by decide +kernel
theorem dX2_place_86 : decode cX2_place 86 = .ok (.iconst 1, 1) := by decide +kernel
theorem dX2_place_87 : decode cX2_place 87 = .ok (.iload 7, 2) := by decide +kernel
theorem dX2_place_89 : decode cX2_place 89 = .ok (.iconst 2, 1) := by decide +kernel
theorem dX2_place_90 : decode cX2_place 90 = .ok (.isub, 1) := by decide +kernel
theorem dX2_place_91 : decode cX2_place 91 = .ok (.iload 9, 2) := by decide +kernel
theorem dX2_place_93 : decode cX2_place 93 = .ok (.invokestatic 81, 3) := by decide +kernel
theorem dX2_place_96 : decode cX2_place 96 = .ok (.invokestatic 87, 3) := by decide +kernel
theorem dX2_place_99 : decode cX2_place 99 = .ok (.iload 5, 2) := by decide +kernel
theorem dX2_place_101 : decode cX2_place 101 = .ok (.iconst 1, 1) := by decide +kernel
theorem dX2_place_102 : decode cX2_place 102 = .ok (.iadd, 1) := by decide +kernel
theorem dX2_place_103 : decode cX2_place 103 = .ok (.invokestatic 65, 3) := by decide +kernel
theorem dX2_place_106 : decode cX2_place 106 = .ok (.return_, 1) := by decide +kernel
theorem dX2_share_0 : decode cX2_share 0 = .ok (.aload_n 0, 1) := by decide +kernel
theorem dX2_share_1 : decode cX2_share 1 = .ok (.invokevirtual 69, 3) := by decide +kernel
theorem dX2_share_4 : decode cX2_share 4 = .ok (.ifCond .eq 9, 3) := by decide +kernel
theorem dX2_share_7 : decode cX2_share 7 = .ok (.iload_n 2, 1) := by decide +kernel
theorem dX2_share_8 : decode cX2_share 8 = .ok (.bipush 8, 2) := by decide +kernel
theorem dX2_share_10 : decode cX2_share 10 = .ok (.if_icmp .le 4, 3) := by decide +kernel
theorem dX2_share_13 : decode cX2_share 13 = .ok (.return_, 1) := by decide +kernel
theorem dX2_share_14 : decode cX2_share 14 = .ok (.aload_n 0, 1) := by decide +kernel
theorem dX2_share_15 : decode cX2_share 15 = .ok (.aload_n 0, 1) := by decide +kernel
theorem dX2_share_16 : decode cX2_share 16 = .ok (.getfield 55, 3) := by decide +kernel
theorem dX2_share_19 : decode cX2_share 19 = .ok (.invokevirtual 39, 3) := by decide +kernel
theorem dX2_share_22 : decode cX2_share 22 = .ok (.iconst 1, 1) := by decide +kernel
theorem dX2_share_23 : decode cX2_share 23 = .ok (.isub, 1) := by decide +kernel
theorem dX2_share_24 : decode cX2_share 24 = .ok (.iload_n 1, 1) := by decide +kernel
theorem dX2_share_25 : decode cX2_share 25 = .ok (.isub, 1) := by decide +kernel
theorem dX2_share_26 : decode cX2_share 26 = .ok (.istore_n 3, 1) := by decide +kernel
theorem dX2_share_27 : decode cX2_share 27 = .ok (.iload_n 1, 1) := by decide +kernel
theorem dX2_share_28 : decode cX2_share 28 = .ok (.iconst 1, 1) := by decide +kernel
theorem dX2_share_29 : decode cX2_share 29 = .ok (.iadd, 1) := by decide +kernel
theorem dX2_share_30 : decode cX2_share 30 = .ok (.istore 4, 2) := by decide +kernel
theorem dX2_share_32 : decode cX2_share 32 = .ok (.aload_n 0, 1) := by decide +kernel
theorem dX2_share_33 : decode cX2_share 33 = .ok (.getfield 55, 3) := by decide +kernel
theorem dX2_share_36 : decode cX2_share 36 = .ok (.ifCond .eq 51, 3) := by decide +kernel
theorem dX2_share_39 : decode cX2_share 39 = .ok (.aload_n 0, 1) := by decide +kernel
theorem dX2_share_40 : decode cX2_share 40 = .ok (.getfield 49, 3) := by decide +kernel
theorem dX2_share_43 : decode cX2_share 43 = .ok (.aload_n 0, 1) := by decide +kernel
theorem dX2_share_44 : decode cX2_share 44 = .ok (.getfield 59, 3) := by decide +kernel
theorem dX2_share_47 : decode cX2_share 47 = .ok (.aload_n 0, 1) := by decide +kernel
theorem dX2_share_48 : decode cX2_share 48 = .ok (.getfield 62, 3) := by decide +kernel
theorem dX2_share_51 : decode cX2_share 51 = .ok (.aload_n 0, 1) := by decide +kernel
theorem dX2_share_52 : decode cX2_share 52 = .ok (.getfield 24, 3) := by decide +kernel
theorem dX2_share_55 : decode cX2_share 55 = .ok (.iload_n 1, 1) := by decide +kernel
theorem dX2_share_56 : decode cX2_share 56 = .ok (.iload_n 2, 1) := by decide +kernel
theorem dX2_share_57 : decode cX2_share 57 = .ok (.invokestatic 73, 3) := by decide +kernel
theorem dX2_share_60 : decode cX2_share 60 = .ok (.aload_n 0, 1) := by decide +kernel
theorem dX2_share_61 : decode cX2_share 61 = .ok (.getfield 52, 3) := by decide +kernel
theorem dX2_share_64 : decode cX2_share 64 = .ok (.aload_n 0, 1) := by decide +kernel
theorem dX2_share_65 : decode cX2_share 65 = .ok (.getfield 59, 3) := by decide +kernel
theorem dX2_share_68 : decode cX2_share 68 = .ok (.aload_n 0, 1) := by decide +kernel
theorem dX2_share_69 : decode cX2_share 69 = .ok (.getfield 62, 3) := by decide +kernel
theorem dX2_share_72 : decode cX2_share 72 = .ok (.iload 4, 2) := by decide +kernel
theorem dX2_share_74 : decode cX2_share 74 = .ok (.iadd, 1) := by decide +kernel
theorem dX2_share_75 : decode cX2_share 75 = .ok (.aload_n 0, 1) := by decide +kernel
theorem dX2_share_76 : decode cX2_share 76 = .ok (.getfield 24, 3) := by decide +kernel
theorem dX2_share_79 : decode cX2_share 79 = .ok (.iload_n 3, 1) := by decide +kernel
theorem dX2_share_80 : decode cX2_share 80 = .ok (.iload_n 2, 1) := by decide +kernel
theorem dX2_share_81 : decode cX2_share 81 = .ok (.invokestatic 73, 3) := by decide +kernel
theorem dX2_share_84 : decode cX2_share 84 = .ok (.goto 48, 3) := by decide +kernel
theorem dX2_share_87 : decode cX2_share 87 = .ok (.aload_n 0, 1) := by decide +kernel
theorem dX2_share_88 : decode cX2_share 88 = .ok (.getfield 49, 3) := by decide +kernel
theorem dX2_share_91 : decode cX2_share 91 = .ok (.aload_n 0, 1) := by decide +kernel
theorem dX2_share_92 : decode cX2_share 92 = .ok (.getfield 59, 3) := by decide +kernel
theorem dX2_share_95 : decode cX2_share 95 = .ok (.aload_n 0, 1) := by decide +kernel
theorem dX2_share_96 : decode cX2_share 96 = .ok (.getfield 62, 3) := by decide +kernel
theorem dX2_share_99 : decode cX2_share 99 = .ok (.iload_n 1, 1) := by decide +kernel
theorem dX2_share_100 : decode cX2_share 100 = .ok (.aload_n 0, 1) := by decide +kernel
theorem dX2_share_101 : decode cX2_share 101 = .ok (.getfield 28, 3) := by decide +kernel
theorem dX2_share_104 : decode cX2_share 104 = .ok (.iload_n 2, 1) := by decide +kernel
theorem dX2_share_105 : decode cX2_share 105 = .ok (.invokestatic 73, 3) := by decide +kernel
theorem dX2_share_108 : decode cX2_share 108 = .ok (.aload_n 0, 1) := by decide +kernel
theorem dX2_share_109 : decode cX2_share 109 = .ok (.getfield 52, 3) := by decide +kernel
theorem dX2_share_112 : decode cX2_share 112 = .ok (.aload_n 0, 1) := by decide +kernel
theorem dX2_share_113 : decode cX2_share 113 = .ok (.getfield 59, 3) := by decide +kernel
theorem dX2_share_116 : decode cX2_share 116 = .ok (.iload 4, 2) := by decide +kernel
theorem dX2_share_118 : decode cX2_share 118 = .ok (.iadd, 1) := by decide +kernel
theorem dX2_share_119 : decode cX2_share 119 = .ok (.aload_n 0, 1) := by decide +kernel
theorem dX2_share_120 : decode cX2_share 120 = .ok (.getfield 62, 3) := by decide +kernel
theorem dX2_share_123 : decode cX2_share 123 = .ok (.iload_n 3, 1) := by decide +kernel
theorem dX2_share_124 : decode cX2_share 124 = .ok (.aload_n 0, 1) := by decide +kernel
theorem dX2_share_125 : decode cX2_share 125 = .ok (.getfield 28, 3) := by decide +kernel
theorem dX2_share_128 : decode cX2_share 128 = .ok (.iload_n 2, 1) := by decide +kernel
theorem dX2_share_129 : decode cX2_share 129 = .ok (.invokestatic 73, 3) := by decide +kernel
theorem dX2_share_132 : decode cX2_share 132 = .ok (.return_, 1) := by decide +kernel
theorem dX2_drawBorders__0 : decode cX2_drawBorders_ 0 = .ok (.aload_n 0, 1) := by decide +kernel
theorem dX2_drawBorders__1 : decode cX2_drawBorders_ 1 = .ok (.invokevirtual 69, 3) := by decide +kernel
theorem dX2_drawBorders__4 : decode cX2_drawBorders_ 4 = .ok (.ifCond .eq 39, 3) := by decide +kernel
theorem dX2_drawBorders__7 : decode cX2_drawBorders_ 7 = .ok (.iload_n 3, 1) := by decide +kernel
theorem dX2_drawBorders__8 : decode cX2_drawBorders_ 8 = .ok (.bipush 8, 2) := by decide +kernel
theorem dX2_drawBorders__10 : decode cX2_drawBorders_ 10 = .ok (.if_icmp .gt 33, 3) := by decide +kernel
theorem dX2_drawBorders__13 : decode cX2_drawBorders_ 13 = .ok (.aload_n 0, 1) := by decide +kernel
theorem dX2_drawBorders__14 : decode cX2_drawBorders_ 14 = .ok (.aload_n 1, 1) := by decide +kernel
theorem dX2_drawBorders__15 : decode cX2_drawBorders_ 15 = .ok (.iload_n 2, 1) := by decide +kernel
theorem dX2_drawBorders__16 : decode cX2_drawBorders_ 16 = .ok (.invokevirtual 90, 3) := by decide +kernel
theorem dX2_drawBorders__19 : decode cX2_drawBorders_ 19 = .ok (.aload_n 0, 1) := by decide +kernel
theorem dX2_drawBorders__20 : decode cX2_drawBorders_ 20 = .ok (.getfield 49, 3) := by decide +kernel
theorem dX2_drawBorders__23 : decode cX2_drawBorders_ 23 = .ok (.aload_n 1, 1) := by decide +kernel
theorem dX2_drawBorders__24 : decode cX2_drawBorders_ 24 = .ok (.iload_n 2, 1) := by decide +kernel
theorem dX2_drawBorders__25 : decode cX2_drawBorders_ 25 = .ok (.iload_n 3, 1) := by decide +kernel
theorem dX2_drawBorders__26 : decode cX2_drawBorders_ 26 = .ok (.iconst 1, 1) := by decide +kernel
theorem dX2_drawBorders__27 : decode cX2_drawBorders_ 27 = .ok (.iadd, 1) := by decide +kernel
theorem dX2_drawBorders__28 : decode cX2_drawBorders_ 28 = .ok (.invokestatic 77, 3) := by decide +kernel
theorem dX2_drawBorders__31 : decode cX2_drawBorders_ 31 = .ok (.aload_n 0, 1) := by decide +kernel
theorem dX2_drawBorders__32 : decode cX2_drawBorders_ 32 = .ok (.getfield 52, 3) := by decide +kernel
theorem dX2_drawBorders__35 : decode cX2_drawBorders_ 35 = .ok (.aload_n 1, 1) := by decide +kernel
theorem dX2_drawBorders__36 : decode cX2_drawBorders_ 36 = .ok (.iload_n 2, 1) := by decide +kernel
theorem dX2_drawBorders__37 : decode cX2_drawBorders_ 37 = .ok (.iload_n 3, 1) := by decide +kernel
theorem dX2_drawBorders__38 : decode cX2_drawBorders_ 38 = .ok (.iconst 1, 1) := by decide +kernel
theorem dX2_drawBorders__39 : decode cX2_drawBorders_ 39 = .ok (.iadd, 1) := by decide +kernel
theorem dX2_drawBorders__40 : decode cX2_drawBorders_ 40 = .ok (.invokestatic 77, 3) := by decide +kernel
theorem dX2_drawBorders__43 : decode cX2_drawBorders_ 43 = .ok (.return_, 1) := by decide +kernel
theorem dX3_init_0 : decode cX3_init 0 = .ok (.aload_n 0, 1) := by decide +kernel
theorem dX3_init_1 : decode cX3_init 1 = .ok (.invokespecial 3, 3) := by decide +kernel
theorem dX3_init_4 : decode cX3_init 4 = .ok (.aload_n 0, 1) := by decide +kernel
theorem dX3_init_5 : decode cX3_init 5 = .ok (.iconst 1, 1) := by decide +kernel
theorem dX3_init_6 : decode cX3_init 6 = .ok (.putfield 9, 3) := by decide +kernel
theorem dX3_init_9 : decode cX3_init 9 = .ok (.aload_n 0, 1) := by decide +kernel
theorem dX3_init_10 : decode cX3_init 10 = .ok (.iload_n 1, 1) := by decide +kernel
theorem dX3_init_11 : decode cX3_init 11 = .ok (.putfield 15, 3) := by decide +kernel
theorem dX3_init_14 : decode cX3_init 14 = .ok (.aload_n 0, 1) := by decide +kernel
theorem dX3_init_15 : decode cX3_init 15 = .ok (.iload_n 1, 1) := by decide +kernel
theorem dX3_init_16 : decode cX3_init 16 = .ok (.iload_n 2, 1) := by decide +kernel
theorem dX3_init_17 : decode cX3_init 17 = .ok (.imul, 1) := by decide +kernel
theorem dX3_init_18 : decode cX3_init 18 = .ok (.newarray .int, 2) := by decide +kernel
theorem dX3_init_20 : decode cX3_init 20 = .ok (.putfield 19, 3) := by decide +kernel
theorem dX3_init_23 : decode cX3_init 23 = .ok (.aload_n 0, 1) := by decide +kernel
theorem dX3_init_24 : decode cX3_init 24 = .ok (.getfield 19, 3) := by decide +kernel
theorem dX3_init_27 : decode cX3_init 27 = .ok (.bipush 32, 2) := by decide +kernel
theorem dX3_init_29 : decode cX3_init 29 = .ok (.invokestatic 23, 3) := by decide +kernel
theorem dX3_init_32 : decode cX3_init 32 = .ok (.aload_n 0, 1) := by decide +kernel
theorem dX3_init_33 : decode cX3_init 33 = .ok (.iload_n 1, 1) := by decide +kernel
theorem dX3_init_34 : decode cX3_init 34 = .ok (.iload_n 2, 1) := by decide +kernel
theorem dX3_init_35 : decode cX3_init 35 = .ok (.imul, 1) := by decide +kernel
theorem dX3_init_36 : decode cX3_init 36 = .ok (.bipush 17, 2) := by decide +kernel
theorem dX3_init_38 : decode cX3_init 38 = .ok (.imul, 1) := by decide +kernel
theorem dX3_init_39 : decode cX3_init 39 = .ok (.iload_n 2, 1) := by decide +kernel
theorem dX3_init_40 : decode cX3_init 40 = .ok (.iconst 1, 1) := by decide +kernel
theorem dX3_init_41 : decode cX3_init 41 = .ok (.iadd, 1) := by decide +kernel
theorem dX3_init_42 : decode cX3_init 42 = .ok (.bipush 8, 2) := by decide +kernel
theorem dX3_init_44 : decode cX3_init 44 = .ok (.imul, 1) := by decide +kernel
theorem dX3_init_45 : decode cX3_init 45 = .ok (.iadd, 1) := by decide +kernel
theorem dX3_init_46 : decode cX3_init 46 = .ok (.bipush 6, 2) := by decide +kernel
theorem dX3_init_48 : decode cX3_init 48 = .ok (.iadd, 1) := by decide +kernel
theorem dX3_init_49 : decode cX3_init 49 = .ok (.newarray .int, 2) := by decide +kernel
theorem dX3_init_51 : decode cX3_init 51 = .ok (.putfield 29, 3) := by decide +kernel
theorem dX3_init_54 : decode cX3_init 54 = .ok (.return_, 1) := by decide +kernel
theorem dX3_begin_0 : decode cX3_begin 0 = .ok (.aload_n 0, 1) := by decide +kernel
theorem dX3_begin_1 : decode cX3_begin 1 = .ok (.iconst 0, 1) := by decide +kernel
theorem dX3_begin_2 : decode cX3_begin 2 = .ok (.putfield 32, 3) := by decide +kernel
theorem dX3_begin_5 : decode cX3_begin 5 = .ok (.return_, 1) := by decide +kernel
theorem dX3_show_0 : decode cX3_show 0 = .ok (.iload_n 2, 1) := by decide +kernel
theorem dX3_show_1 : decode cX3_show 1 = .ok (.aload_n 0, 1) := by decide +kernel
theorem dX3_show_2 : decode cX3_show 2 = .ok (.getfield 15, 3) := by decide +kernel
theorem dX3_show_5 : decode cX3_show 5 = .ok (.imul, 1) := by decide +kernel
theorem dX3_show_6 : decode cX3_show 6 = .ok (.iload_n 1, 1) := by decide +kernel
theorem dX3_show_7 : decode cX3_show 7 = .ok (.iadd, 1) := by decide +kernel
theorem dX3_show_8 : decode cX3_show 8 = .ok (.istore 4, 2) := by decide +kernel
theorem dX3_show_10 : decode cX3_show 10 = .ok (.iload 4, 2) := by decide +kernel
theorem dX3_show_12 : decode cX3_show 12 = .ok (.ifCond .lt 24, 3) := by decide +kernel
theorem dX3_show_15 : decode cX3_show 15 = .ok (.iload 4, 2) := by decide +kernel
theorem dX3_show_17 : decode cX3_show 17 = .ok (.aload_n 0, 1) := by decide +kernel
theorem dX3_show_18 : decode cX3_show 18 = .ok (.getfield 19, 3) := by decide +kernel
theorem dX3_show_21 : decode cX3_show 21 = .ok (.arraylength, 1) := by decide +kernel
theorem dX3_show_22 : decode cX3_show 22 = .ok (.if_icmp .ge 14, 3) := by decide +kernel
theorem dX3_show_25 : decode cX3_show 25 = .ok (.aload_n 0, 1) := by decide +kernel
theorem dX3_show_26 : decode cX3_show 26 = .ok (.getfield 19, 3) := by decide +kernel
theorem dX3_show_29 : decode cX3_show 29 = .ok (.iload 4, 2) := by decide +kernel
theorem dX3_show_31 : decode cX3_show 31 = .ok (.iaload, 1) := by decide +kernel
theorem dX3_show_32 : decode cX3_show 32 = .ok (.iload_n 3, 1) := by decide +kernel
theorem dX3_show_33 : decode cX3_show 33 = .ok (.if_icmp .ne 4, 3) := by decide +kernel
theorem dX3_show_36 : decode cX3_show 36 = .ok (.return_, 1) := by decide +kernel
theorem dX3_show_37 : decode cX3_show 37 = .ok (.aload_n 0, 1) := by decide +kernel
theorem dX3_show_38 : decode cX3_show 38 = .ok (.getfield 19, 3) := by decide +kernel
theorem dX3_show_41 : decode cX3_show 41 = .ok (.iload 4, 2) := by decide +kernel
theorem dX3_show_43 : decode cX3_show 43 = .ok (.iload_n 3, 1) := by decide +kernel
theorem dX3_show_44 : decode cX3_show 44 = .ok (.iastore, 1) := by decide +kernel
theorem dX3_show_45 : decode cX3_show 45 = .ok (.aload_n 0, 1) := by decide +kernel
theorem dX3_show_46 : decode cX3_show 46 = .ok (.iload_n 1, 1) := by decide +kernel
theorem dX3_show_47 : decode cX3_show 47 = .ok (.iload_n 2, 1) := by decide +kernel
theorem dX3_show_48 : decode cX3_show 48 = .ok (.invokevirtual 35, 3) := by decide +kernel
theorem dX3_show_51 : decode cX3_show 51 = .ok (.aload_n 0, 1) := by decide +kernel
theorem dX3_show_52 : decode cX3_show 52 = .ok (.iload_n 3, 1) := by decide +kernel
theorem dX3_show_53 : decode cX3_show 53 = .ok (.sipush 128, 3) := by decide +kernel
theorem dX3_show_56 : decode cX3_show 56 = .ok (.idiv, 1) := by decide +kernel
theorem dX3_show_57 : decode cX3_show 57 = .ok (.invokevirtual 39, 3) := by decide +kernel
theorem dX3_show_60 : decode cX3_show 60 = .ok (.aload_n 0, 1) := by decide +kernel
theorem dX3_show_61 : decode cX3_show 61 = .ok (.iload_n 3, 1) := by decide +kernel
theorem dX3_show_62 : decode cX3_show 62 = .ok (.sipush 128, 3) := by decide +kernel
theorem dX3_show_65 : decode cX3_show 65 = .ok (.irem, 1) := by decide +kernel
theorem dX3_show_66 : decode cX3_show 66 = .ok (.invokevirtual 43, 3) := by decide +kernel
theorem dX3_show_69 : decode cX3_show 69 = .ok (.aload_n 0, 1) := by decide +kernel
theorem dX3_show_70 : decode cX3_show 70 = .ok (.iload_n 1, 1) := by decide +kernel
theorem dX3_show_71 : decode cX3_show 71 = .ok (.aload_n 0, 1) := by decide +kernel
theorem dX3_show_72 : decode cX3_show 72 = .ok (.getfield 15, 3) := by decide +kernel
theorem dX3_show_75 : decode cX3_show 75 = .ok (.iconst 1, 1) := by decide +kernel
theorem dX3_show_76 : decode cX3_show 76 = .ok (.isub, 1) := by decide +kernel
theorem dX3_show_77 : decode cX3_show 77 = .ok (.if_icmp .ne 7, 3) := by decide +kernel
theorem dX3_show_80 : decode cX3_show 80 = .ok (.iconst (-1), 1) := by decide +kernel
theorem dX3_show_81 : decode cX3_show 81 = .ok (.goto 6, 3) := by decide +kernel
theorem dX3_show_84 : decode cX3_show 84 = .ok (.iload_n 1, 1) := by decide +kernel
theorem dX3_show_85 : decode cX3_show 85 = .ok (.iconst 1, 1) := by decide +kernel
theorem dX3_show_86 : decode cX3_show 86 = .ok (.iadd, 1) := by decide +kernel
theorem dX3_show_87 : decode cX3_show 87 = .ok (.putfield 46, 3) := by decide +kernel
theorem dX3_show_90 : decode cX3_show 90 = .ok (.return_, 1) := by decide +kernel
theorem dX3_end_0 : decode cX3_end 0 = .ok (.iload_n 3, 1) := by decide +kernel
theorem dX3_end_1 : decode cX3_end 1 = .ok (.ifCond .eq 9, 3) := by decide +kernel
theorem dX3_end_4 : decode cX3_end 4 = .ok (.aload_n 0, 1) := by decide +kernel
theorem dX3_end_5 : decode cX3_end 5 = .ok (.iload_n 1, 1) := by decide +kernel
theorem dX3_end_6 : decode cX3_end 6 = .ok (.iload_n 2, 1) := by decide +kernel
theorem dX3_end_7 : decode cX3_end 7 = .ok (.invokevirtual 35, 3) := by decide +kernel
theorem dX3_end_10 : decode cX3_end 10 = .ok (.iload_n 3, 1) := by decide +kernel
theorem dX3_end_11 : decode cX3_end 11 = .ok (.aload_n 0, 1) := by decide +kernel
theorem dX3_end_12 : decode cX3_end 12 = .ok (.getfield 9, 3) := by decide +kernel
theorem dX3_end_15 : decode cX3_end 15 = .ok (.if_icmp .eq 38, 3) := by decide +kernel
theorem dX3_end_18 : decode cX3_end 18 = .ok (.aload_n 0, 1) := by decide +kernel
theorem dX3_end_19 : decode cX3_end 19 = .ok (.iload_n 3, 1) := by decide +kernel
theorem dX3_end_20 : decode cX3_end 20 = .ok (.putfield 9, 3) := by decide +kernel
theorem dX3_end_23 : decode cX3_end 23 = .ok (.aload_n 0, 1) := by decide +kernel
theorem dX3_end_24 : decode cX3_end 24 = .ok (.bipush 63, 2) := by decide +kernel
theorem dX3_end_26 : decode cX3_end 26 = .ok (.invokevirtual 49, 3) := by decide +kernel
theorem dX3_end_29 : decode cX3_end 29 = .ok (.aload_n 0, 1) := by decide +kernel
theorem dX3_end_30 : decode cX3_end 30 = .ok (.bipush 25, 2) := by decide +kernel
theorem dX3_end_32 : decode cX3_end 32 = .ok (.invokevirtual 52, 3) := by decide +kernel
theorem dX3_end_35 : decode cX3_end 35 = .ok (.aload_n 0, 1) := by decide +kernel
theorem dX3_end_36 : decode cX3_end 36 = .ok (.aload_n 0, 1) := by decide +kernel
theorem dX3_end_37 : decode cX3_end 37 = .ok (.getfield 9, 3) := by decide +kernel
theorem dX3_end_40 : decode cX3_end 40 = .ok (.ifCond .eq 8, 3) := by decide +kernel
theorem dX3_end_43 : decode cX3_end 43 = .ok (.bipush 104, 2) := by decide +kernel
theorem dX3_end_45 : decode cX3_end 45 = .ok (.goto 5, 3) := by decide +kernel
theorem dX3_end_48 : decode cX3_end 48 = .ok (.bipush 108, 2) := by decide +kernel
theorem dX3_end_50 : decode cX3_end 50 = .ok (.invokevirtual 43, 3) := by decide +kernel
theorem dX3_end_53 : decode cX3_end 53 = .ok (.return_, 1) := by decide +kernel
theorem dX3_moveTo_0 : decode cX3_moveTo 0 = .ok (.aload_n 0, 1) := by decide +kernel
theorem dX3_moveTo_1 : decode cX3_moveTo 1 = .ok (.getfield 46, 3) := by decide +kernel
theorem dX3_moveTo_4 : decode cX3_moveTo 4 = .ok (.iload_n 1, 1) := by decide +kernel
theorem dX3_moveTo_5 : decode cX3_moveTo 5 = .ok (.if_icmp .ne 11, 3) := by decide +kernel
theorem dX3_moveTo_8 : decode cX3_moveTo 8 = .ok (.aload_n 0, 1) := by decide +kernel
theorem dX3_moveTo_9 : decode cX3_moveTo 9 = .ok (.getfield 55, 3) := by decide +kernel
theorem dX3_moveTo_12 : decode cX3_moveTo 12 = .ok (.iload_n 2, 1) := by decide +kernel
theorem dX3_moveTo_13 : decode cX3_moveTo 13 = .ok (.if_icmp .eq 57, 3) := by decide +kernel
theorem dX3_moveTo_16 : decode cX3_moveTo 16 = .ok (.aload_n 0, 1) := by decide +kernel
theorem dX3_moveTo_17 : decode cX3_moveTo 17 = .ok (.iload_n 1, 1) := by decide +kernel
theorem dX3_moveTo_18 : decode cX3_moveTo 18 = .ok (.putfield 46, 3) := by decide +kernel
theorem dX3_moveTo_21 : decode cX3_moveTo 21 = .ok (.aload_n 0, 1) := by decide +kernel
theorem dX3_moveTo_22 : decode cX3_moveTo 22 = .ok (.iload_n 2, 1) := by decide +kernel
theorem dX3_moveTo_23 : decode cX3_moveTo 23 = .ok (.putfield 55, 3) := by decide +kernel
theorem dX3_moveTo_26 : decode cX3_moveTo 26 = .ok (.aload_n 0, 1) := by decide +kernel
theorem dX3_moveTo_27 : decode cX3_moveTo 27 = .ok (.bipush 27, 2) := by decide +kernel
theorem dX3_moveTo_29 : decode cX3_moveTo 29 = .ok (.invokevirtual 43, 3) := by decide +kernel
theorem dX3_moveTo_32 : decode cX3_moveTo 32 = .ok (.aload_n 0, 1) := by decide +kernel
theorem dX3_moveTo_33 : decode cX3_moveTo 33 = .ok (.bipush 91, 2) := by decide +kernel
theorem dX3_moveTo_35 : decode cX3_moveTo 35 = .ok (.invokevirtual 43, 3) := by decide +kernel
theorem dX3_moveTo_38 : decode cX3_moveTo 38 = .ok (.aload_n 0, 1) := by decide +kernel
theorem dX3_moveTo_39 : decode cX3_moveTo 39 = .ok (.aload_n 0, 1) := by decide +kernel
theorem dX3_moveTo_40 : decode cX3_moveTo 40 = .ok (.getfield 55, 3) := by decide +kernel
theorem dX3_moveTo_43 : decode cX3_moveTo 43 = .ok (.iconst 1, 1) := by decide +kernel
theorem dX3_moveTo_44 : decode cX3_moveTo 44 = .ok (.iadd, 1) := by decide +kernel
theorem dX3_moveTo_45 : decode cX3_moveTo 45 = .ok (.invokevirtual 52, 3) := by decide +kernel
theorem dX3_moveTo_48 : decode cX3_moveTo 48 = .ok (.aload_n 0, 1) := by decide +kernel
theorem dX3_moveTo_49 : decode cX3_moveTo 49 = .ok (.bipush 59, 2) := by decide +kernel
theorem dX3_moveTo_51 : decode cX3_moveTo 51 = .ok (.invokevirtual 43, 3) := by decide +kernel
theorem dX3_moveTo_54 : decode cX3_moveTo 54 = .ok (.aload_n 0, 1) := by decide +kernel
theorem dX3_moveTo_55 : decode cX3_moveTo 55 = .ok (.aload_n 0, 1) := by decide +kernel
theorem dX3_moveTo_56 : decode cX3_moveTo 56 = .ok (.getfield 46, 3) := by decide +kernel
theorem dX3_moveTo_59 : decode cX3_moveTo 59 = .ok (.iconst 1, 1) := by decide +kernel
theorem dX3_moveTo_60 : decode cX3_moveTo 60 = .ok (.iadd, 1) := by decide +kernel
theorem dX3_moveTo_61 : decode cX3_moveTo 61 = .ok (.invokevirtual 52, 3) := by decide +kernel
theorem dX3_moveTo_64 : decode cX3_moveTo 64 = .ok (.aload_n 0, 1) := by decide +kernel
theorem dX3_moveTo_65 : decode cX3_moveTo 65 = .ok (.bipush 72, 2) := by decide +kernel
theorem dX3_moveTo_67 : decode cX3_moveTo 67 = .ok (.invokevirtual 43, 3) := by decide +kernel
theorem dX3_moveTo_70 : decode cX3_moveTo 70 = .ok (.return_, 1) := by decide +kernel
theorem dX3_takePen_0 : decode cX3_takePen 0 = .ok (.aload_n 0, 1) := by decide +kernel
theorem dX3_takePen_1 : decode cX3_takePen 1 = .ok (.getfield 58, 3) := by decide +kernel
theorem dX3_takePen_4 : decode cX3_takePen 4 = .ok (.iload_n 1, 1) := by decide +kernel
theorem dX3_takePen_5 : decode cX3_takePen 5 = .ok (.if_icmp .eq 133, 3) := by decide +kernel
theorem dX3_takePen_8 : decode cX3_takePen 8 = .ok (.aload_n 0, 1) := by decide +kernel
theorem dX3_takePen_9 : decode cX3_takePen 9 = .ok (.iload_n 1, 1) := by decide +kernel
theorem dX3_takePen_10 : decode cX3_takePen 10 = .ok (.putfield 58, 3) := by decide +kernel
theorem dX3_takePen_13 : decode cX3_takePen 13 = .ok (.aload_n 0, 1) := by decide +kernel
theorem dX3_takePen_14 : decode cX3_takePen 14 = .ok (.bipush 48, 2) := by decide +kernel
theorem dX3_takePen_16 : decode cX3_takePen 16 = .ok (.invokevirtual 49, 3) := by decide +kernel
theorem dX3_takePen_19 : decode cX3_takePen 19 = .ok (.aload_n 0, 1) := by decide +kernel
theorem dX3_takePen_20 : decode cX3_takePen 20 = .ok (.aload_n 0, 1) := by decide +kernel
theorem dX3_takePen_21 : decode cX3_takePen 21 = .ok (.getfield 58, 3) := by decide +kernel
theorem dX3_takePen_24 : decode cX3_takePen 24 = .ok (.iconst 1, 1) := by decide +kernel
theorem dX3_takePen_25 : decode cX3_takePen 25 = .ok (.iand, 1) := by decide +kernel
theorem dX3_takePen_26 : decode cX3_takePen 26 = .ok (.ifCond .eq 7, 3) := by decide +kernel
theorem dX3_takePen_29 : decode cX3_takePen 29 = .ok (.iconst 1, 1) := by decide +kernel
theorem dX3_takePen_30 : decode cX3_takePen 30 = .ok (.goto 4, 3) := by decide +kernel
theorem dX3_takePen_33 : decode cX3_takePen 33 = .ok (.iconst 0, 1) := by decide +kernel
theorem dX3_takePen_34 : decode cX3_takePen 34 = .ok (.iconst 1, 1) := by decide +kernel
theorem dX3_takePen_35 : decode cX3_takePen 35 = .ok (.invokevirtual 61, 3) := by decide +kernel
theorem dX3_takePen_38 : decode cX3_takePen 38 = .ok (.aload_n 0, 1) := by decide +kernel
theorem dX3_takePen_39 : decode cX3_takePen 39 = .ok (.aload_n 0, 1) := by decide +kernel
theorem dX3_takePen_40 : decode cX3_takePen 40 = .ok (.getfield 58, 3) := by decide +kernel
theorem dX3_takePen_43 : decode cX3_takePen 43 = .ok (.iconst 2, 1) := by decide +kernel
theorem dX3_takePen_44 : decode cX3_takePen 44 = .ok (.iand, 1) := by decide +kernel
theorem dX3_takePen_45 : decode cX3_takePen 45 = .ok (.ifCond .eq 7, 3) := by decide +kernel
theorem dX3_takePen_48 : decode cX3_takePen 48 = .ok (.iconst 1, 1) := by decide +kernel
theorem dX3_takePen_49 : decode cX3_takePen 49 = .ok (.goto 4, 3) := by decide +kernel
theorem dX3_takePen_52 : decode cX3_takePen 52 = .ok (.iconst 0, 1) := by decide +kernel
theorem dX3_takePen_53 : decode cX3_takePen 53 = .ok (.iconst 4, 1) := by decide +kernel
theorem dX3_takePen_54 : decode cX3_takePen 54 = .ok (.invokevirtual 61, 3) := by decide +kernel
theorem dX3_takePen_57 : decode cX3_takePen 57 = .ok (.aload_n 0, 1) := by decide +kernel
theorem dX3_takePen_58 : decode cX3_takePen 58 = .ok (.aload_n 0, 1) := by decide +kernel
theorem dX3_takePen_59 : decode cX3_takePen 59 = .ok (.getfield 58, 3) := by decide +kernel
theorem dX3_takePen_62 : decode cX3_takePen 62 = .ok (.iconst 4, 1) := by decide +kernel
theorem dX3_takePen_63 : decode cX3_takePen 63 = .ok (.iand, 1) := by decide +kernel
theorem dX3_takePen_64 : decode cX3_takePen 64 = .ok (.ifCond .eq 7, 3) := by decide +kernel
theorem dX3_takePen_67 : decode cX3_takePen 67 = .ok (.iconst 1, 1) := by decide +kernel
theorem dX3_takePen_68 : decode cX3_takePen 68 = .ok (.goto 4, 3) := by decide +kernel
theorem dX3_takePen_71 : decode cX3_takePen 71 = .ok (.iconst 0, 1) := by decide +kernel
theorem dX3_takePen_72 : decode cX3_takePen 72 = .ok (.bipush 7, 2) := by decide +kernel
theorem dX3_takePen_74 : decode cX3_takePen 74 = .ok (.invokevirtual 61, 3) := by decide +kernel
theorem dX3_takePen_77 : decode cX3_takePen 77 = .ok (.aload_n 0, 1) := by decide +kernel
theorem dX3_takePen_78 : decode cX3_takePen 78 = .ok (.getfield 58, 3) := by decide +kernel
theorem dX3_takePen_81 : decode cX3_takePen 81 = .ok (.iconst 4, 1) := by decide +kernel
theorem dX3_takePen_82 : decode cX3_takePen 82 = .ok (.ishr, 1) := by decide +kernel
theorem dX3_takePen_83 : decode cX3_takePen 83 = .ok (.bipush 15, 2) := by decide +kernel
theorem dX3_takePen_85 : decode cX3_takePen 85 = .ok (.iand, 1) := by decide +kernel
theorem dX3_takePen_86 : decode cX3_takePen 86 = .ok (.istore_n 2, 1) := by decide +kernel
theorem dX3_takePen_87 : decode cX3_takePen 87 = .ok (.aload_n 0, 1) := by decide +kernel
theorem dX3_takePen_88 : decode cX3_takePen 88 = .ok (.iload_n 2, 1) := by decide +kernel
theorem dX3_takePen_89 : decode cX3_takePen 89 = .ok (.ifCond .eq 7, 3) := by decide +kernel
theorem dX3_takePen_92 : decode cX3_takePen 92 = .ok (.iconst 1, 1) := by decide +kernel
theorem dX3_takePen_93 : decode cX3_takePen 93 = .ok (.goto 4, 3) := by decide +kernel
theorem dX3_takePen_96 : decode cX3_takePen 96 = .ok (.iconst 0, 1) := by decide +kernel
theorem dX3_takePen_97 : decode cX3_takePen 97 = .ok (.bipush 29, 2) := by decide +kernel
theorem dX3_takePen_99 : decode cX3_takePen 99 = .ok (.iload_n 2, 1) := by decide +kernel
theorem dX3_takePen_100 : decode cX3_takePen 100 = .ok (.iadd, 1) := by decide +kernel
theorem dX3_takePen_101 : decode cX3_takePen 101 = .ok (.invokevirtual 61, 3) := by decide +kernel
theorem dX3_takePen_104 : decode cX3_takePen 104 = .ok (.aload_n 0, 1) := by decide +kernel
theorem dX3_takePen_105 : decode cX3_takePen 105 = .ok (.getfield 58, 3) := by decide +kernel
theorem dX3_takePen_108 : decode cX3_takePen 108 = .ok (.bipush 8, 2) := by decide +kernel
theorem dX3_takePen_110 : decode cX3_takePen 110 = .ok (.ishr, 1) := by decide +kernel
theorem dX3_takePen_111 : decode cX3_takePen 111 = .ok (.bipush 15, 2) := by decide +kernel
theorem dX3_takePen_113 : decode cX3_takePen 113 = .ok (.iand, 1) := by decide +kernel
theorem dX3_takePen_114 : decode cX3_takePen 114 = .ok (.istore_n 3, 1) := by decide +kernel
theorem dX3_takePen_115 : decode cX3_takePen 115 = .ok (.aload_n 0, 1) := by decide +kernel
theorem dX3_takePen_116 : decode cX3_takePen 116 = .ok (.iload_n 3, 1) := by decide +kernel
theorem dX3_takePen_117 : decode cX3_takePen 117 = .ok (.ifCond .eq 7, 3) := by decide +kernel
theorem dX3_takePen_120 : decode cX3_takePen 120 = .ok (.iconst 1, 1) := by decide +kernel
theorem dX3_takePen_121 : decode cX3_takePen 121 = .ok (.goto 4, 3) := by decide +kernel
theorem dX3_takePen_124 : decode cX3_takePen 124 = .ok (.iconst 0, 1) := by decide +kernel
theorem dX3_takePen_125 : decode cX3_takePen 125 = .ok (.bipush 39, 2) := by decide +kernel
theorem dX3_takePen_127 : decode cX3_takePen 127 = .ok (.iload_n 3, 1) := by decide +kernel
theorem dX3_takePen_128 : decode cX3_takePen 128 = .ok (.iadd, 1) := by decide +kernel
theorem dX3_takePen_129 : decode cX3_takePen 129 = .ok (.invokevirtual 61, 3) := by decide +kernel
theorem dX3_takePen_132 : decode cX3_takePen 132 = .ok (.aload_n 0, 1) := by decide +kernel
theorem dX3_takePen_133 : decode cX3_takePen 133 = .ok (.bipush 109, 2) := by decide +kernel
theorem dX3_takePen_135 : decode cX3_takePen 135 = .ok (.invokevirtual 43, 3) := by decide +kernel
theorem dX3_takePen_138 : decode cX3_takePen 138 = .ok (.return_, 1) := by decide +kernel
theorem dX3_beginSequence_0 : decode cX3_beginSequence 0 = .ok (.aload_n 0, 1) := by decide +kernel
theorem dX3_beginSequence_1 : decode cX3_beginSequence 1 = .ok (.bipush 27, 2) := by decide +kernel
theorem dX3_beginSequence_3 : decode cX3_beginSequence 3 = .ok (.invokevirtual 43, 3) := by decide +kernel
theorem dX3_beginSequence_6 : decode cX3_beginSequence 6 = .ok (.aload_n 0, 1) := by decide +kernel
theorem dX3_beginSequence_7 : decode cX3_beginSequence 7 = .ok (.bipush 91, 2) := by decide +kernel
theorem dX3_beginSequence_9 : decode cX3_beginSequence 9 = .ok (.invokevirtual 43, 3) := by decide +kernel
theorem dX3_beginSequence_12 : decode cX3_beginSequence 12 = .ok (.aload_n 0, 1) := by decide +kernel
theorem dX3_beginSequence_13 : decode cX3_beginSequence 13 = .ok (.iload_n 1, 1) := by decide +kernel
theorem dX3_beginSequence_14 : decode cX3_beginSequence 14 = .ok (.invokevirtual 43, 3) := by decide +kernel
theorem dX3_beginSequence_17 : decode cX3_beginSequence 17 = .ok (.return_, 1) := by decide +kernel
theorem dX3_putPart_0 : decode cX3_putPart 0 = .ok (.iload_n 1, 1) := by decide +kernel
theorem dX3_putPart_1 : decode cX3_putPart 1 = .ok (.ifCond .eq 14, 3) := by decide +kernel
theorem dX3_putPart_4 : decode cX3_putPart 4 = .ok (.aload_n 0, 1) := by decide +kernel
theorem dX3_putPart_5 : decode cX3_putPart 5 = .ok (.bipush 59, 2) := by decide +kernel
theorem dX3_putPart_7 : decode cX3_putPart 7 = .ok (.invokevirtual 43, 3) := by decide +kernel
theorem dX3_putPart_10 : decode cX3_putPart 10 = .ok (.aload_n 0, 1) := by decide +kernel
theorem dX3_putPart_11 : decode cX3_putPart 11 = .ok (.iload_n 2, 1) := by decide +kernel
theorem dX3_putPart_12 : decode cX3_putPart 12 = .ok (.invokevirtual 52, 3) := by decide +kernel
theorem dX3_putPart_15 : decode cX3_putPart 15 = .ok (.return_, 1) := by decide +kernel
theorem dX3_putNumber_0 : decode cX3_putNumber 0 = .ok (.iload_n 1, 1) := by decide +kernel
theorem dX3_putNumber_1 : decode cX3_putNumber 1 = .ok (.bipush 10, 2) := by decide +kernel
theorem dX3_putNumber_3 : decode cX3_putNumber 3 = .ok (.if_icmp .lt 14, 3) := by decide +kernel
theorem dX3_putNumber_6 : decode cX3_putNumber 6 = .ok (.aload_n 0, 1) := by decide +kernel
theorem dX3_putNumber_7 : decode cX3_putNumber 7 = .ok (.bipush 48, 2) := by decide +kernel
theorem dX3_putNumber_9 : decode cX3_putNumber 9 = .ok (.iload_n 1, 1) := by decide +kernel
theorem dX3_putNumber_10 : decode cX3_putNumber 10 = .ok (.bipush 10, 2) := by decide +kernel
theorem dX3_putNumber_12 : decode cX3_putNumber 12 = .ok (.idiv, 1) := by decide +kernel
theorem dX3_putNumber_13 : decode cX3_putNumber 13 = .ok (.iadd, 1) := by decide +kernel
theorem dX3_putNumber_14 : decode cX3_putNumber 14 = .ok (.invokevirtual 43, 3) := by decide +kernel
theorem dX3_putNumber_17 : decode cX3_putNumber 17 = .ok (.aload_n 0, 1) := by decide +kernel
theorem dX3_putNumber_18 : decode cX3_putNumber 18 = .ok (.bipush 48, 2) := by decide +kernel
theorem dX3_putNumber_20 : decode cX3_putNumber 20 = .ok (.iload_n 1, 1) := by decide +kernel
theorem dX3_putNumber_21 : decode cX3_putNumber 21 = .ok (.bipush 10, 2) := by decide +kernel
theorem dX3_putNumber_23 : decode cX3_putNumber 23 = .ok (.irem, 1) := by decide +kernel
theorem dX3_putNumber_24 : decode cX3_putNumber 24 = .ok (.iadd, 1) := by decide +kernel
theorem dX3_putNumber_25 : decode cX3_putNumber 25 = .ok (.invokevirtual 43, 3) := by decide +kernel
theorem dX3_putNumber_28 : decode cX3_putNumber 28 = .ok (.return_, 1) := by decide +kernel
theorem dX3_put_0 : decode cX3_put 0 = .ok (.aload_n 0, 1) := by decide +kernel
theorem dX3_put_1 : decode cX3_put 1 = .ok (.getfield 32, 3) := by decide +kernel
theorem dX3_put_4 : decode cX3_put 4 = .ok (.aload_n 0, 1) := by decide +kernel
theorem dX3_put_5 : decode cX3_put 5 = .ok (.getfield 29, 3) := by decide +kernel
theorem dX3_put_8 : decode cX3_put 8 = .ok (.arraylength, 1) := by decide +kernel
theorem dX3_put_9 : decode cX3_put 9 = .ok (.if_icmp .ge 23, 3) := by decide +kernel
theorem dX3_put_12 : decode cX3_put 12 = .ok (.aload_n 0, 1) := by decide +kernel
theorem dX3_put_13 : decode cX3_put 13 = .ok (.getfield 29, 3) := by decide +kernel
theorem dX3_put_16 : decode cX3_put 16 = .ok (.aload_n 0, 1) := by decide +kernel
theorem dX3_put_17 : decode cX3_put 17 = .ok (.getfield 32, 3) := by decide +kernel
theorem dX3_put_20 : decode cX3_put 20 = .ok (.iload_n 1, 1) := by decide +kernel
theorem dX3_put_21 : decode cX3_put 21 = .ok (.iastore, 1) := by decide +kernel
theorem dX3_put_22 : decode cX3_put 22 = .ok (.aload_n 0, 1) := by decide +kernel
theorem dX3_put_23 : decode cX3_put 23 = .ok (.dup, 1) := by decide +kernel
theorem dX3_put_24 : decode cX3_put 24 = .ok (.getfield 32, 3) := by decide +kernel
theorem dX3_put_27 : decode cX3_put 27 = .ok (.iconst 1, 1) := by decide +kernel
theorem dX3_put_28 : decode cX3_put 28 = .ok (.iadd, 1) := by decide +kernel
theorem dX3_put_29 : decode cX3_put 29 = .ok (.putfield 32, 3) := by decide +kernel
theorem dX3_put_32 : decode cX3_put 32 = .ok (.return_, 1) := by decide +kernel
theorem dX4_init_0 : decode cX4_init 0 = .ok (.aload_n 0, 1) := by decide +kernel
theorem dX4_init_1 : decode cX4_init 1 = .ok (.invokespecial 1, 3) := by decide +kernel
theorem dX4_init_4 : decode cX4_init 4 = .ok (.aload_n 0, 1) := by decide +kernel
theorem dX4_init_5 : decode cX4_init 5 = .ok (.new 7, 3) := by decide +kernel
theorem dX4_init_8 : decode cX4_init 8 = .ok (.dup, 1) := by decide +kernel
theorem dX4_init_9 : decode cX4_init 9 = .ok (.invokespecial 9, 3) := by decide +kernel
theorem dX4_init_12 : decode cX4_init 12 = .ok (.putfield 10, 3) := by decide +kernel
theorem dX4_init_15 : decode cX4_init 15 = .ok (.aload_n 0, 1) := by decide +kernel
theorem dX4_init_16 : decode cX4_init 16 = .ok (.new 16, 3) := by decide +kernel
theorem dX4_init_19 : decode cX4_init 19 = .ok (.dup, 1) := by decide +kernel
theorem dX4_init_20 : decode cX4_init 20 = .ok (.iload_n 1, 1) := by decide +kernel
theorem dX4_init_21 : decode cX4_init 21 = .ok (.iload_n 2, 1) := by decide +kernel
theorem dX4_init_22 : decode cX4_init 22 = .ok (.invokespecial 18, 3) := by decide +kernel
theorem dX4_init_25 : decode cX4_init 25 = .ok (.putfield 21, 3) := by decide +kernel
theorem dX4_init_28 : decode cX4_init 28 = .ok (.aload_n 0, 1) := by decide +kernel
theorem dX4_init_29 : decode cX4_init 29 = .ok (.new 25, 3) := by decide +kernel
theorem dX4_init_32 : decode cX4_init 32 = .ok (.dup, 1) := by decide +kernel
theorem dX4_init_33 : decode cX4_init 33 = .ok (.aload_n 0, 1) := by decide +kernel
theorem dX4_init_34 : decode cX4_init 34 = .ok (.getfield 21, 3) := by decide +kernel
theorem dX4_init_37 : decode cX4_init 37 = .ok (.invokespecial 27, 3) := by decide +kernel
theorem dX4_init_40 : decode cX4_init 40 = .ok (.putfield 30, 3) := by decide +kernel
theorem dX4_init_43 : decode cX4_init 43 = .ok (.return_, 1) := by decide +kernel
theorem dX4_begin_0 : decode cX4_begin 0 = .ok (.aload_n 0, 1) := by decide +kernel
theorem dX4_begin_1 : decode cX4_begin 1 = .ok (.getfield 21, 3) := by decide +kernel
theorem dX4_begin_4 : decode cX4_begin 4 = .ok (.invokevirtual 34, 3) := by decide +kernel
theorem dX4_begin_7 : decode cX4_begin 7 = .ok (.aload_n 0, 1) := by decide +kernel
theorem dX4_begin_8 : decode cX4_begin 8 = .ok (.getfield 30, 3) := by decide +kernel
theorem dX4_begin_11 : decode cX4_begin 11 = .ok (.invokevirtual 37, 3) := by decide +kernel
theorem dX4_begin_14 : decode cX4_begin 14 = .ok (.aload_n 0, 1) := by decide +kernel
theorem dX4_begin_15 : decode cX4_begin 15 = .ok (.getfield 10, 3) := by decide +kernel
theorem dX4_begin_18 : decode cX4_begin 18 = .ok (.iconst 0, 1) := by decide +kernel
theorem dX4_begin_19 : decode cX4_begin 19 = .ok (.putfield 38, 3) := by decide +kernel
theorem dX4_begin_22 : decode cX4_begin 22 = .ok (.aload_n 0, 1) := by decide +kernel
theorem dX4_begin_23 : decode cX4_begin 23 = .ok (.iconst 0, 1) := by decide +kernel
theorem dX4_begin_24 : decode cX4_begin 24 = .ok (.invokevirtual 42, 3) := by decide +kernel
theorem dX4_begin_27 : decode cX4_begin 27 = .ok (.return_, 1) := by decide +kernel
theorem dX4_press_0 : decode cX4_press 0 = .ok (.aload_n 0, 1) := by decide +kernel
theorem dX4_press_1 : decode cX4_press 1 = .ok (.getfield 46, 3) := by decide +kernel
theorem dX4_press_4 : decode cX4_press 4 = .ok (.ifCond .ne 14, 3) := by decide +kernel
theorem dX4_press_7 : decode cX4_press 7 = .ok (.aload_n 0, 1) := by decide +kernel
theorem dX4_press_8 : decode cX4_press 8 = .ok (.getfield 10, 3) := by decide +kernel
theorem dX4_press_11 : decode cX4_press 11 = .ok (.iload_n 1, 1) := by decide +kernel
theorem dX4_press_12 : decode cX4_press 12 = .ok (.invokevirtual 50, 3) := by decide +kernel
theorem dX4_press_15 : decode cX4_press 15 = .ok (.goto 42, 3) := by decide +kernel
theorem dX4_press_18 : decode cX4_press 18 = .ok (.iload_n 1, 1) := by decide +kernel
theorem dX4_press_19 : decode cX4_press 19 = .ok (.bipush 107, 2) := by decide +kernel
theorem dX4_press_21 : decode cX4_press 21 = .ok (.if_icmp .ne 11, 3) := by decide +kernel
theorem dX4_press_24 : decode cX4_press 24 = .ok (.aload_n 0, 1) := by decide +kernel
theorem dX4_press_25 : decode cX4_press 25 = .ok (.iconst 1, 1) := by decide +kernel
theorem dX4_press_26 : decode cX4_press 26 = .ok (.invokevirtual 54, 3) := by decide +kernel
theorem dX4_press_29 : decode cX4_press 29 = .ok (.goto 28, 3) := by decide +kernel
theorem dX4_press_32 : decode cX4_press 32 = .ok (.iload_n 1, 1) := by decide +kernel
theorem dX4_press_33 : decode cX4_press 33 = .ok (.bipush 106, 2) := by decide +kernel
theorem dX4_press_35 : decode cX4_press 35 = .ok (.if_icmp .ne 11, 3) := by decide +kernel
theorem dX4_press_38 : decode cX4_press 38 = .ok (.aload_n 0, 1) := by decide +kernel
theorem dX4_press_39 : decode cX4_press 39 = .ok (.iconst (-1), 1) := by decide +kernel
theorem dX4_press_40 : decode cX4_press 40 = .ok (.invokevirtual 54, 3) := by decide +kernel
theorem dX4_press_43 : decode cX4_press 43 = .ok (.goto 14, 3) := by decide +kernel
theorem dX4_press_46 : decode cX4_press 46 = .ok (.iload_n 1, 1) := by decide +kernel
theorem dX4_press_47 : decode cX4_press 47 = .ok (.bipush 113, 2) := by decide +kernel
theorem dX4_press_49 : decode cX4_press 49 = .ok (.if_icmp .ne 8, 3) := by decide +kernel
theorem dX4_press_52 : decode cX4_press 52 = .ok (.aload_n 0, 1) := by decide +kernel
theorem dX4_press_53 : decode cX4_press 53 = .ok (.iconst 0, 1) := by decide +kernel
theorem dX4_press_54 : decode cX4_press 54 = .ok (.invokevirtual 42, 3) := by decide +kernel
theorem dX4_press_57 : decode cX4_press 57 = .ok (.return_, 1) := by decide +kernel
theorem dX4_setCopyMode_0 : decode cX4_setCopyMode 0 = .ok (.iload_n 1, 1) := by decide +kernel
theorem dX4_setCopyMode_1 : decode cX4_setCopyMode 1 = .ok (.aload_n 0, 1) := by decide +kernel
theorem dX4_setCopyMode_2 : decode cX4_setCopyMode 2 = .ok (.getfield 46, 3) := by decide +kernel
theorem dX4_setCopyMode_5 : decode cX4_setCopyMode 5 = .ok (.if_icmp .eq 13, 3) := by decide +kernel
theorem dX4_setCopyMode_8 : decode cX4_setCopyMode 8 = .ok (.aload_n 0, 1) := by decide +kernel
theorem dX4_setCopyMode_9 : decode cX4_setCopyMode 9 = .ok (.iload_n 1, 1) := by decide +kernel
theorem dX4_setCopyMode_10 : decode cX4_setCopyMode 10 = .ok (.putfield 46, 3) := by decide +kernel
theorem dX4_setCopyMode_13 : decode cX4_setCopyMode 13 = .ok (.aload_n 0, 1) := by decide +kernel
theorem dX4_setCopyMode_14 : decode cX4_setCopyMode 14 = .ok (.iconst 0, 1) := by decide +kernel
theorem dX4_setCopyMode_15 : decode cX4_setCopyMode 15 = .ok (.putfield 57, 3) := by decide +kernel
theorem dX4_setCopyMode_18 : decode cX4_setCopyMode 18 = .ok (.return_, 1) := by decide +kernel
theorem dX4_offsetNow_0 : decode cX4_offsetNow 0 = .ok (.aload_n 0, 1) := by decide +kernel
theorem dX4_offsetNow_1 : decode cX4_offsetNow 1 = .ok (.getfield 57, 3) := by decide +kernel
theorem dX4_offsetNow_4 : decode cX4_offsetNow 4 = .ok (.aload_n 0, 1) := by decide +kernel
theorem dX4_offsetNow_5 : decode cX4_offsetNow 5 = .ok (.getfield 21, 3) := by decide +kernel
theorem dX4_offsetNow_8 : decode cX4_offsetNow 8 = .ok (.getfield 60, 3) := by decide +kernel
theorem dX4_offsetNow_11 : decode cX4_offsetNow 11 = .ok (.getfield 64, 3) := by decide +kernel
theorem dX4_offsetNow_14 : decode cX4_offsetNow 14 = .ok (.invokestatic 69, 3) := by decide +kernel
theorem dX4_offsetNow_17 : decode cX4_offsetNow 17 = .ok (.ireturn, 1) := by decide +kernel
theorem dX4_look_0 : decode cX4_look 0 = .ok (.aload_n 0, 1) := by decide +kernel
theorem dX4_look_1 : decode cX4_look 1 = .ok (.getfield 46, 3) := by decide +kernel
theorem dX4_look_4 : decode cX4_look 4 = .ok (.ifCond .eq 34, 3) := by decide +kernel
theorem dX4_look_7 : decode cX4_look 7 = .ok (.aload_n 0, 1) := by decide +kernel
theorem dX4_look_8 : decode cX4_look 8 = .ok (.invokevirtual 75, 3) := by decide +kernel
theorem dX4_look_11 : decode cX4_look 11 = .ok (.istore_n 2, 1) := by decide +kernel
theorem dX4_look_12 : decode cX4_look 12 = .ok (.aload_n 0, 1) := by decide +kernel
theorem dX4_look_13 : decode cX4_look 13 = .ok (.getfield 21, 3) := by decide +kernel
theorem dX4_look_16 : decode cX4_look 16 = .ok (.getfield 60, 3) := by decide +kernel
theorem dX4_look_19 : decode cX4_look 19 = .ok (.getfield 64, 3) := by decide +kernel
theorem dX4_look_22 : decode cX4_look 22 = .ok (.istore_n 3, 1) := by decide +kernel
theorem dX4_look_23 : decode cX4_look 23 = .ok (.aload_n 0, 1) := by decide +kernel
theorem dX4_look_24 : decode cX4_look 24 = .ok (.iload_n 2, 1) := by decide +kernel
theorem dX4_look_25 : decode cX4_look 25 = .ok (.iload_n 1, 1) := by decide +kernel
theorem dX4_look_26 : decode cX4_look 26 = .ok (.iload_n 2, 1) := by decide +kernel
theorem dX4_look_27 : decode cX4_look 27 = .ok (.ineg, 1) := by decide +kernel
theorem dX4_look_28 : decode cX4_look 28 = .ok (.iload_n 3, 1) := by decide +kernel
theorem dX4_look_29 : decode cX4_look 29 = .ok (.iload_n 2, 1) := by decide +kernel
theorem dX4_look_30 : decode cX4_look 30 = .ok (.isub, 1) := by decide +kernel
theorem dX4_look_31 : decode cX4_look 31 = .ok (.invokestatic 79, 3) := by decide +kernel
theorem dX4_look_34 : decode cX4_look 34 = .ok (.iadd, 1) := by decide +kernel
theorem dX4_look_35 : decode cX4_look 35 = .ok (.putfield 57, 3) := by decide +kernel
theorem dX4_look_38 : decode cX4_look 38 = .ok (.return_, 1) := by decide +kernel
theorem dX4_seesCursor_0 : decode cX4_seesCursor 0 = .ok (.aload_n 0, 1) := by decide +kernel
theorem dX4_seesCursor_1 : decode cX4_seesCursor 1 = .ok (.getfield 21, 3) := by decide +kernel
theorem dX4_seesCursor_4 : decode cX4_seesCursor 4 = .ok (.getfield 85, 3) := by decide +kernel
theorem dX4_seesCursor_7 : decode cX4_seesCursor 7 = .ok (.ifCond .eq 14, 3) := by decide +kernel
theorem dX4_seesCursor_10 : decode cX4_seesCursor 10 = .ok (.aload_n 0, 1) := by decide +kernel
theorem dX4_seesCursor_11 : decode cX4_seesCursor 11 = .ok (.getfield 46, 3) := by decide +kernel
theorem dX4_seesCursor_14 : decode cX4_seesCursor 14 = .ok (.ifCond .ne 7, 3) := by decide +kernel
theorem dX4_seesCursor_17 : decode cX4_seesCursor 17 = .ok (.iconst 1, 1) := by decide +kernel
theorem dX4_seesCursor_18 : decode cX4_seesCursor 18 = .ok (.goto 4, 3) := by decide +kernel
theorem dX4_seesCursor_21 : decode cX4_seesCursor 21 = .ok (.iconst 0, 1) := by decide +kernel
theorem dX4_seesCursor_22 : decode cX4_seesCursor 22 = .ok (.ireturn, 1) := by decide +kernel
theorem dX4_viewRow_0 : decode cX4_viewRow 0 = .ok (.aload_n 0, 1) := by decide +kernel
theorem dX4_viewRow_1 : decode cX4_viewRow 1 = .ok (.invokevirtual 75, 3) := by decide +kernel
theorem dX4_viewRow_4 : decode cX4_viewRow 4 = .ok (.istore 4, 2) := by decide +kernel
theorem dX4_viewRow_6 : decode cX4_viewRow 6 = .ok (.iload_n 1, 1) := by decide +kernel
theorem dX4_viewRow_7 : decode cX4_viewRow 7 = .ok (.iload 4, 2) := by decide +kernel
theorem dX4_viewRow_9 : decode cX4_viewRow 9 = .ok (.if_icmp .ge 40, 3) := by decide +kernel
theorem dX4_viewRow_12 : decode cX4_viewRow 12 = .ok (.aload_n 0, 1) := by decide +kernel
theorem dX4_viewRow_13 : decode cX4_viewRow 13 = .ok (.getfield 21, 3) := by decide +kernel
theorem dX4_viewRow_16 : decode cX4_viewRow 16 = .ok (.getfield 60, 3) := by decide +kernel
theorem dX4_viewRow_19 : decode cX4_viewRow 19 = .ok (.aload_n 0, 1) := by decide +kernel
theorem dX4_viewRow_20 : decode cX4_viewRow 20 = .ok (.getfield 21, 3) := by decide +kernel
theorem dX4_viewRow_23 : decode cX4_viewRow 23 = .ok (.getfield 60, 3) := by decide +kernel
theorem dX4_viewRow_26 : decode cX4_viewRow 26 = .ok (.getfield 64, 3) := by decide +kernel
theorem dX4_viewRow_29 : decode cX4_viewRow 29 = .ok (.iload 4, 2) := by decide +kernel
theorem dX4_viewRow_31 : decode cX4_viewRow 31 = .ok (.isub, 1) := by decide +kernel
theorem dX4_viewRow_32 : decode cX4_viewRow 32 = .ok (.iload_n 1, 1) := by decide +kernel
theorem dX4_viewRow_33 : decode cX4_viewRow 33 = .ok (.iadd, 1) := by decide +kernel
theorem dX4_viewRow_34 : decode cX4_viewRow 34 = .ok (.aload_n 0, 1) := by decide +kernel
theorem dX4_viewRow_35 : decode cX4_viewRow 35 = .ok (.getfield 21, 3) := by decide +kernel
theorem dX4_viewRow_38 : decode cX4_viewRow 38 = .ok (.getfield 88, 3) := by decide +kernel
theorem dX4_viewRow_41 : decode cX4_viewRow 41 = .ok (.aload_n 2, 1) := by decide +kernel
theorem dX4_viewRow_42 : decode cX4_viewRow 42 = .ok (.iload_n 3, 1) := by decide +kernel
theorem dX4_viewRow_43 : decode cX4_viewRow 43 = .ok (.invokevirtual 91, 3) := by decide +kernel
theorem dX4_viewRow_46 : decode cX4_viewRow 46 = .ok (.goto 26, 3) := by decide +kernel
theorem dX4_viewRow_49 : decode cX4_viewRow 49 = .ok (.aload_n 0, 1) := by decide +kernel
theorem dX4_viewRow_50 : decode cX4_viewRow 50 = .ok (.getfield 21, 3) := by decide +kernel
theorem dX4_viewRow_53 : decode cX4_viewRow 53 = .ok (.invokevirtual 95, 3) := by decide +kernel
theorem dX4_viewRow_56 : decode cX4_viewRow 56 = .ok (.iload_n 1, 1) := by decide +kernel
theorem dX4_viewRow_57 : decode cX4_viewRow 57 = .ok (.iload 4, 2) := by decide +kernel
theorem dX4_viewRow_59 : decode cX4_viewRow 59 = .ok (.isub, 1) := by decide +kernel
theorem dX4_viewRow_60 : decode cX4_viewRow 60 = .ok (.aload_n 0, 1) := by decide +kernel
theorem dX4_viewRow_61 : decode cX4_viewRow 61 = .ok (.getfield 21, 3) := by decide +kernel
theorem dX4_viewRow_64 : decode cX4_viewRow 64 = .ok (.getfield 88, 3) := by decide +kernel
theorem dX4_viewRow_67 : decode cX4_viewRow 67 = .ok (.aload_n 2, 1) := by decide +kernel
theorem dX4_viewRow_68 : decode cX4_viewRow 68 = .ok (.iload_n 3, 1) := by decide +kernel
theorem dX4_viewRow_69 : decode cX4_viewRow 69 = .ok (.invokevirtual 99, 3) := by decide +kernel
theorem dX4_viewRow_72 : decode cX4_viewRow 72 = .ok (.return_, 1) := by decide +kernel
theorem dX5_init_0 : decode cX5_init 0 = .ok (.aload_n 0, 1) := by decide +kernel
theorem dX5_init_1 : decode cX5_init 1 = .ok (.invokespecial 1, 3) := by decide +kernel
theorem dX5_init_4 : decode cX5_init 4 = .ok (.aload_n 0, 1) := by decide +kernel
theorem dX5_init_5 : decode cX5_init 5 = .ok (.aload_n 1, 1) := by decide +kernel
theorem dX5_init_6 : decode cX5_init 6 = .ok (.putfield 7, 3) := by decide +kernel
theorem dX5_init_9 : decode cX5_init 9 = .ok (.return_, 1) := by decide +kernel
theorem dX5_length_0 : decode cX5_length 0 = .ok (.iload_n 1, 1) := by decide +kernel
theorem dX5_length_1 : decode cX5_length 1 = .ok (.ifCond .eq 10, 3) := by decide +kernel
theorem dX5_length_4 : decode cX5_length 4 = .ok (.aload_n 0, 1) := by decide +kernel
theorem dX5_length_5 : decode cX5_length 5 = .ok (.getfield 13, 3) := by decide +kernel
theorem dX5_length_8 : decode cX5_length 8 = .ok (.goto 7, 3) := by decide +kernel
theorem dX5_length_11 : decode cX5_length 11 = .ok (.aload_n 0, 1) := by decide +kernel
theorem dX5_length_12 : decode cX5_length 12 = .ok (.getfield 17, 3) := by decide +kernel
theorem dX5_length_15 : decode cX5_length 15 = .ok (.ireturn, 1) := by decide +kernel
theorem dX5_isSplit_0 : decode cX5_isSplit 0 = .ok (.aload_n 0, 1) := by decide +kernel
theorem dX5_isSplit_1 : decode cX5_isSplit 1 = .ok (.getfield 20, 3) := by decide +kernel
theorem dX5_isSplit_4 : decode cX5_isSplit 4 = .ok (.ifnull 14, 3) := by decide +kernel
theorem dX5_isSplit_7 : decode cX5_isSplit 7 = .ok (.aload_n 0, 1) := by decide +kernel
theorem dX5_isSplit_8 : decode cX5_isSplit 8 = .ok (.getfield 23, 3) := by decide +kernel
theorem dX5_isSplit_11 : decode cX5_isSplit 11 = .ok (.ifnull 7, 3) := by decide +kernel
theorem dX5_isSplit_14 : decode cX5_isSplit 14 = .ok (.iconst 1, 1) := by decide +kernel
theorem dX5_isSplit_15 : decode cX5_isSplit 15 = .ok (.goto 4, 3) := by decide +kernel
theorem dX5_isSplit_18 : decode cX5_isSplit 18 = .ok (.iconst 0, 1) := by decide +kernel
theorem dX5_isSplit_19 : decode cX5_isSplit 19 = .ok (.ireturn, 1) := by decide +kernel
theorem dX5_drawBorder_0 : decode cX5_drawBorder 0 = .ok (.aload_n 0, 1) := by decide +kernel
theorem dX5_drawBorder_1 : decode cX5_drawBorder 1 = .ok (.invokevirtual 26, 3) := by decide +kernel
theorem dX5_drawBorder_4 : decode cX5_drawBorder 4 = .ok (.ifCond .ne 4, 3) := by decide +kernel
theorem dX5_drawBorder_7 : decode cX5_drawBorder 7 = .ok (.return_, 1) := by decide +kernel
theorem dX5_drawBorder_8 : decode cX5_drawBorder 8 = .ok (.aload_n 0, 1) := by decide +kernel
theorem dX5_drawBorder_9 : decode cX5_drawBorder 9 = .ok (.getfield 30, 3) := by decide +kernel
theorem dX5_drawBorder_12 : decode cX5_drawBorder 12 = .ok (.ifCond .eq 7, 3) := by decide +kernel
theorem dX5_drawBorder_15 : decode cX5_drawBorder 15 = .ok (.iconst 1, 1) := by decide +kernel
theorem dX5_drawBorder_16 : decode cX5_drawBorder 16 = .ok (.goto 4, 3) := by decide +kernel
theorem dX5_drawBorder_19 : decode cX5_drawBorder 19 = .ok (.iload_n 2, 1) := by decide +kernel
theorem dX5_drawBorder_20 : decode cX5_drawBorder 20 = .ok (.istore_n 3, 1) := by decide +kernel
theorem dX5_drawBorder_21 : decode cX5_drawBorder 21 = .ok (.aload_n 0, 1) := by decide +kernel
theorem dX5_drawBorder_22 : decode cX5_drawBorder 22 = .ok (.getfield 30, 3) := by decide +kernel
theorem dX5_drawBorder_25 : decode cX5_drawBorder 25 = .ok (.ifCond .eq 10, 3) := by decide +kernel
theorem dX5_drawBorder_28 : decode cX5_drawBorder 28 = .ok (.aload_n 0, 1) := by decide +kernel
theorem dX5_drawBorder_29 : decode cX5_drawBorder 29 = .ok (.getfield 17, 3) := by decide +kernel
theorem dX5_drawBorder_32 : decode cX5_drawBorder 32 = .ok (.goto 7, 3) := by decide +kernel
theorem dX5_drawBorder_35 : decode cX5_drawBorder 35 = .ok (.aload_n 0, 1) := by decide +kernel
theorem dX5_drawBorder_36 : decode cX5_drawBorder 36 = .ok (.getfield 13, 3) := by decide +kernel
theorem dX5_drawBorder_39 : decode cX5_drawBorder 39 = .ok (.istore 4, 2) := by decide +kernel
theorem dX5_drawBorder_41 : decode cX5_drawBorder 41 = .ok (.aload_n 0, 1) := by decide +kernel
theorem dX5_drawBorder_42 : decode cX5_drawBorder 42 = .ok (.getfield 30, 3) := by decide +kernel
theorem dX5_drawBorder_45 : decode cX5_drawBorder 45 = .ok (.ifCond .eq 25, 3) := by decide +kernel
theorem dX5_drawBorder_48 : decode cX5_drawBorder 48 = .ok (.aload_n 0, 1) := by decide +kernel
theorem dX5_drawBorder_49 : decode cX5_drawBorder 49 = .ok (.getfield 34, 3) := by decide +kernel
theorem dX5_drawBorder_52 : decode cX5_drawBorder 52 = .ok (.aload_n 0, 1) := by decide +kernel
theorem dX5_drawBorder_53 : decode cX5_drawBorder 53 = .ok (.getfield 20, 3) := by decide +kernel
theorem dX5_drawBorder_56 : decode cX5_drawBorder 56 = .ok (.getfield 13, 3) := by decide +kernel
theorem dX5_drawBorder_59 : decode cX5_drawBorder 59 = .ok (.iadd, 1) := by decide +kernel
theorem dX5_drawBorder_60 : decode cX5_drawBorder 60 = .ok (.iload_n 2, 1) := by decide +kernel
theorem dX5_drawBorder_61 : decode cX5_drawBorder 61 = .ok (.imul, 1) := by decide +kernel
theorem dX5_drawBorder_62 : decode cX5_drawBorder 62 = .ok (.aload_n 0, 1) := by decide +kernel
theorem dX5_drawBorder_63 : decode cX5_drawBorder 63 = .ok (.getfield 37, 3) := by decide +kernel
theorem dX5_drawBorder_66 : decode cX5_drawBorder 66 = .ok (.iadd, 1) := by decide +kernel
theorem dX5_drawBorder_67 : decode cX5_drawBorder 67 = .ok (.goto 22, 3) := by decide +kernel
theorem dX5_drawBorder_70 : decode cX5_drawBorder 70 = .ok (.aload_n 0, 1) := by decide +kernel
theorem dX5_drawBorder_71 : decode cX5_drawBorder 71 = .ok (.getfield 34, 3) := by decide +kernel
theorem dX5_drawBorder_74 : decode cX5_drawBorder 74 = .ok (.iload_n 2, 1) := by decide +kernel
theorem dX5_drawBorder_75 : decode cX5_drawBorder 75 = .ok (.imul, 1) := by decide +kernel
theorem dX5_drawBorder_76 : decode cX5_drawBorder 76 = .ok (.aload_n 0, 1) := by decide +kernel
theorem dX5_drawBorder_77 : decode cX5_drawBorder 77 = .ok (.getfield 37, 3) := by decide +kernel
theorem dX5_drawBorder_80 : decode cX5_drawBorder 80 = .ok (.iadd, 1) := by decide +kernel
theorem dX5_drawBorder_81 : decode cX5_drawBorder 81 = .ok (.aload_n 0, 1) := by decide +kernel
theorem dX5_drawBorder_82 : decode cX5_drawBorder 82 = .ok (.getfield 20, 3) := by decide +kernel
theorem dX5_drawBorder_85 : decode cX5_drawBorder 85 = .ok (.getfield 17, 3) := by decide +kernel
theorem dX5_drawBorder_88 : decode cX5_drawBorder 88 = .ok (.iadd, 1) := by decide +kernel
theorem dX5_drawBorder_89 : decode cX5_drawBorder 89 = .ok (.istore 5, 2) := by decide +kernel
theorem dX5_drawBorder_91 : decode cX5_drawBorder 91 = .ok (.iconst 0, 1) := by decide +kernel
theorem dX5_drawBorder_92 : decode cX5_drawBorder 92 = .ok (.istore 6, 2) := by decide +kernel
theorem dX5_drawBorder_94 : decode cX5_drawBorder 94 = .ok (.iload 6, 2) := by decide +kernel
theorem dX5_drawBorder_96 : decode cX5_drawBorder 96 = .ok (.iload 4, 2) := by decide +kernel
theorem dX5_drawBorder_98 : decode cX5_drawBorder 98 = .ok (.if_icmp .ge 45, 3) := by decide +kernel
theorem dX5_drawBorder_101 : decode cX5_drawBorder 101 = .ok (.iload 5, 2) := by decide +kernel
theorem dX5_drawBorder_103 : decode cX5_drawBorder 103 = .ok (.ifCond .lt 40, 3) := by decide +kernel
theorem dX5_drawBorder_106 : decode cX5_drawBorder 106 = .ok (.iload 5, 2) := by decide +kernel
theorem dX5_drawBorder_108 : decode cX5_drawBorder 108 = .ok (.aload_n 1, 1) := by decide +kernel
theorem dX5_drawBorder_109 : decode cX5_drawBorder 109 = .ok (.arraylength, 1) := by decide +kernel
theorem dX5_drawBorder_110 : decode cX5_drawBorder 110 = .ok (.if_icmp .ge 33, 3) := by decide +kernel
theorem dX5_drawBorder_113 : decode cX5_drawBorder 113 = .ok (.aload_n 1, 1) := by decide +kernel
theorem dX5_drawBorder_114 : decode cX5_drawBorder 114 = .ok (.iload 5, 2) := by decide +kernel
theorem dX5_drawBorder_116 : decode cX5_drawBorder 116 = .ok (.aload_n 0, 1) := by decide +kernel
theorem dX5_drawBorder_117 : decode cX5_drawBorder 117 = .ok (.getfield 30, 3) := by decide +kernel
theorem dX5_drawBorder_120 : decode cX5_drawBorder 120 = .ok (.ifCond .eq 8, 3) := by decide +kernel
theorem dX5_drawBorder_123 : decode cX5_drawBorder 123 = .ok (.bipush 45, 2) := by decide +kernel
theorem dX5_drawBorder_125 : decode cX5_drawBorder 125 = .ok (.goto 5, 3) := by decide +kernel
theorem dX5_drawBorder_128 : decode cX5_drawBorder 128 = .ok (.bipush 124, 2) := by decide +kernel
theorem dX5_drawBorder_130 : decode cX5_drawBorder 130 = .ok (.iastore, 1) := by decide +kernel
theorem dX5_drawBorder_131 : decode cX5_drawBorder 131 = .ok (.iload 5, 2) := by decide +kernel
theorem dX5_drawBorder_133 : decode cX5_drawBorder 133 = .ok (.iload_n 3, 1) := by decide +kernel
theorem dX5_drawBorder_134 : decode cX5_drawBorder 134 = .ok (.iadd, 1) := by decide +kernel
theorem dX5_drawBorder_135 : decode cX5_drawBorder 135 = .ok (.istore 5, 2) := by decide +kernel
theorem dX5_drawBorder_137 : decode cX5_drawBorder 137 = .ok (.iinc 6 1, 3) := by decide +kernel
theorem dX5_drawBorder_140 : decode cX5_drawBorder 140 = .ok (.goto (-46), 3) := by decide +kernel
theorem dX5_drawBorder_143 : decode cX5_drawBorder 143 = .ok (.return_, 1) := by decide +kernel
theorem dX6_init_0 : decode cX6_init 0 = .ok (.aload_n 0, 1) := by decide +kernel
theorem dX6_init_1 : decode cX6_init 1 = .ok (.invokespecial 1, 3) := by decide +kernel
theorem dX6_init_4 : decode cX6_init 4 = .ok (.aload_n 0, 1) := by decide +kernel
theorem dX6_init_5 : decode cX6_init 5 = .ok (.iconst 4, 1) := by decide +kernel
theorem dX6_init_6 : decode cX6_init 6 = .ok (.newarray .int, 2) := by decide +kernel
theorem dX6_init_8 : decode cX6_init 8 = .ok (.putfield 9, 3) := by decide +kernel
theorem dX6_init_11 : decode cX6_init 11 = .ok (.aload_n 0, 1) := by decide +kernel
theorem dX6_init_12 : decode cX6_init 12 = .ok (.aload_n 1, 1) := by decide +kernel
theorem dX6_init_13 : decode cX6_init 13 = .ok (.putfield 13, 3) := by decide +kernel
theorem dX6_init_16 : decode cX6_init 16 = .ok (.return_, 1) := by decide +kernel
theorem dX6_reset_0 : decode cX6_reset 0 = .ok (.aload_n 0, 1) := by decide +kernel
theorem dX6_reset_1 : decode cX6_reset 1 = .ok (.iconst 0, 1) := by decide +kernel
theorem dX6_reset_2 : decode cX6_reset 2 = .ok (.putfield 17, 3) := by decide +kernel
theorem dX6_reset_5 : decode cX6_reset 5 = .ok (.return_, 1) := by decide +kernel
theorem dX6_take_0 : decode cX6_take 0 = .ok (.aload_n 0, 1) := by decide +kernel
theorem dX6_take_1 : decode cX6_take 1 = .ok (.getfield 17, 3) := by decide +kernel
theorem dX6_take_4 : decode cX6_take 4 = .ok (.iconst 2, 1) := by decide +kernel
theorem dX6_take_5 : decode cX6_take 5 = .ok (.if_icmp .ne 23, 3) := by decide +kernel
theorem dX6_take_8 : decode cX6_take 8 = .ok (.aload_n 0, 1) := by decide +kernel
theorem dX6_take_9 : decode cX6_take 9 = .ok (.iload_n 1, 1) := by decide +kernel
theorem dX6_take_10 : decode cX6_take 10 = .ok (.bipush 63, 2) := by decide +kernel
theorem dX6_take_12 : decode cX6_take 12 = .ok (.if_icmp .ne 7, 3) := by decide +kernel
theorem dX6_take_15 : decode cX6_take 15 = .ok (.iconst 1, 1) := by decide +kernel
theorem dX6_take_16 : decode cX6_take 16 = .ok (.goto 4, 3) := by decide +kernel
theorem dX6_take_19 : decode cX6_take 19 = .ok (.iconst 0, 1) := by decide +kernel
theorem dX6_take_20 : decode cX6_take 20 = .ok (.putfield 21, 3) := by decide +kernel
theorem dX6_take_23 : decode cX6_take 23 = .ok (.aload_n 0, 1) := by decide +kernel
theorem dX6_take_24 : decode cX6_take 24 = .ok (.iconst 3, 1) := by decide +kernel
theorem dX6_take_25 : decode cX6_take 25 = .ok (.putfield 17, 3) := by decide +kernel
theorem dX6_take_28 : decode cX6_take 28 = .ok (.iload_n 1, 1) := by decide +kernel
theorem dX6_take_29 : decode cX6_take 29 = .ok (.lookupswitch 123 #[(8, 51), (9, 77), (10, 87), (13, 97), (27, 115)], 51) := by decide +kernel
theorem dX6_take_80 : decode cX6_take 80 = .ok (.aload_n 0, 1) := by decide +kernel
theorem dX6_take_81 : decode cX6_take 81 = .ok (.getfield 13, 3) := by decide +kernel
theorem dX6_take_84 : decode cX6_take 84 = .ok (.aload_n 0, 1) := by decide +kernel
theorem dX6_take_85 : decode cX6_take 85 = .ok (.getfield 13, 3) := by decide +kernel
theorem dX6_take_88 : decode cX6_take 88 = .ok (.getfield 25, 3) := by decide +kernel
theorem dX6_take_91 : decode cX6_take 91 = .ok (.iconst 1, 1) := by decide +kernel
theorem dX6_take_92 : decode cX6_take 92 = .ok (.isub, 1) := by decide +kernel
theorem dX6_take_93 : decode cX6_take 93 = .ok (.aload_n 0, 1) := by decide +kernel
theorem dX6_take_94 : decode cX6_take 94 = .ok (.getfield 13, 3) := by decide +kernel
theorem dX6_take_97 : decode cX6_take 97 = .ok (.getfield 30, 3) := by decide +kernel
theorem dX6_take_100 : decode cX6_take 100 = .ok (.invokevirtual 33, 3) := by decide +kernel
theorem dX6_take_103 : decode cX6_take 103 = .ok (.goto 101, 3) := by decide +kernel
theorem dX6_take_106 : decode cX6_take 106 = .ok (.aload_n 0, 1) := by decide +kernel
theorem dX6_take_107 : decode cX6_take 107 = .ok (.getfield 13, 3) := by decide +kernel
theorem dX6_take_110 : decode cX6_take 110 = .ok (.invokevirtual 37, 3) := by decide +kernel
theorem dX6_take_113 : decode cX6_take 113 = .ok (.goto 91, 3) := by decide +kernel
theorem dX6_take_116 : decode cX6_take 116 = .ok (.aload_n 0, 1) := by decide +kernel
theorem dX6_take_117 : decode cX6_take 117 = .ok (.getfield 13, 3) := by decide +kernel
theorem dX6_take_120 : decode cX6_take 120 = .ok (.invokevirtual 40, 3) := by decide +kernel
theorem dX6_take_123 : decode cX6_take 123 = .ok (.goto 81, 3) := by decide +kernel
theorem dX6_take_126 : decode cX6_take 126 = .ok (.aload_n 0, 1) := by decide +kernel
theorem dX6_take_127 : decode cX6_take 127 = .ok (.getfield 13, 3) := by decide +kernel
theorem dX6_take_130 : decode cX6_take 130 = .ok (.iconst 0, 1) := by decide +kernel
theorem dX6_take_131 : decode cX6_take 131 = .ok (.aload_n 0, 1) := by decide +kernel
theorem dX6_take_132 : decode cX6_take 132 = .ok (.getfield 13, 3) := by decide +kernel
theorem dX6_take_135 : decode cX6_take 135 = .ok (.getfield 30, 3) := by decide +kernel
theorem dX6_take_138 : decode cX6_take 138 = .ok (.invokevirtual 33, 3) := by decide +kernel
theorem dX6_take_141 : decode cX6_take 141 = .ok (.goto 63, 3) := by decide +kernel
theorem dX6_take_144 : decode cX6_take 144 = .ok (.aload_n 0, 1) := by decide +kernel
theorem dX6_take_145 : decode cX6_take 145 = .ok (.iconst 1, 1) := by decide +kernel
theorem dX6_take_146 : decode cX6_take 146 = .ok (.putfield 17, 3) := by decide +kernel
theorem dX6_take_149 : decode cX6_take 149 = .ok (.goto 55, 3) := by decide +kernel
theorem dX6_take_152 : decode cX6_take 152 = .ok (.aload_n 0, 1) := by decide +kernel
theorem dX6_take_153 : decode cX6_take 153 = .ok (.getfield 17, 3) := by decide +kernel
theorem dX6_take_156 : decode cX6_take 156 = .ok (.iconst 3, 1) := by decide +kernel
theorem dX6_take_157 : decode cX6_take 157 = .ok (.if_icmp .ne 11, 3) := by decide +kernel
theorem dX6_take_160 : decode cX6_take 160 = .ok (.aload_n 0, 1) := by decide +kernel
theorem dX6_take_161 : decode cX6_take 161 = .ok (.iload_n 1, 1) := by decide +kernel
theorem dX6_take_162 : decode cX6_take 162 = .ok (.invokevirtual 43, 3) := by decide +kernel
theorem dX6_take_165 : decode cX6_take 165 = .ok (.goto 39, 3) := by decide +kernel
theorem dX6_take_168 : decode cX6_take 168 = .ok (.aload_n 0, 1) := by decide +kernel
theorem dX6_take_169 : decode cX6_take 169 = .ok (.getfield 17, 3) := by decide +kernel
theorem dX6_take_172 : decode cX6_take 172 = .ok (.iconst 1, 1) := by decide +kernel
theorem dX6_take_173 : decode cX6_take 173 = .ok (.if_icmp .ne 11, 3) := by decide +kernel
theorem dX6_take_176 : decode cX6_take 176 = .ok (.aload_n 0, 1) := by decide +kernel
theorem dX6_take_177 : decode cX6_take 177 = .ok (.iload_n 1, 1) := by decide +kernel
theorem dX6_take_178 : decode cX6_take 178 = .ok (.invokevirtual 47, 3) := by decide +kernel
theorem dX6_take_181 : decode cX6_take 181 = .ok (.goto 23, 3) := by decide +kernel
theorem dX6_take_184 : decode cX6_take 184 = .ok (.iload_n 1, 1) := by decide +kernel
theorem dX6_take_185 : decode cX6_take 185 = .ok (.bipush 32, 2) := by decide +kernel
theorem dX6_take_187 : decode cX6_take 187 = .ok (.if_icmp .lt 17, 3) := by decide +kernel
theorem dX6_take_190 : decode cX6_take 190 = .ok (.iload_n 1, 1) := by decide +kernel
theorem dX6_take_191 : decode cX6_take 191 = .ok (.bipush 126, 2) := by decide +kernel
theorem dX6_take_193 : decode cX6_take 193 = .ok (.if_icmp .gt 11, 3) := by decide +kernel
theorem dX6_take_196 : decode cX6_take 196 = .ok (.aload_n 0, 1) := by decide +kernel
theorem dX6_take_197 : decode cX6_take 197 = .ok (.getfield 13, 3) := by decide +kernel
theorem dX6_take_200 : decode cX6_take 200 = .ok (.iload_n 1, 1) := by decide +kernel
theorem dX6_take_201 : decode cX6_take 201 = .ok (.invokevirtual 50, 3) := by decide +kernel
theorem dX6_take_204 : decode cX6_take 204 = .ok (.return_, 1) := by decide +kernel
theorem dX6_takeShort_0 : decode cX6_takeShort 0 = .ok (.aload_n 0, 1) := by decide +kernel
theorem dX6_takeShort_1 : decode cX6_takeShort 1 = .ok (.iconst 0, 1) := by decide +kernel
theorem dX6_takeShort_2 : decode cX6_takeShort 2 = .ok (.putfield 17, 3) := by decide +kernel
theorem dX6_takeShort_5 : decode cX6_takeShort 5 = .ok (.iload_n 1, 1) := by decide +kernel
theorem dX6_takeShort_6 : decode cX6_takeShort 6 = .ok (.lookupswitch 115 #[(55, 58), (56, 68), (68, 78), (77, 88), (91, 108), (99, 98)], 58) := by decide +kernel
theorem dX6_takeShort_64 : decode cX6_takeShort 64 = .ok (.aload_n 0, 1) := by decide +kernel
theorem dX6_takeShort_65 : decode cX6_takeShort 65 = .ok (.getfield 13, 3) := by decide +kernel
theorem dX6_takeShort_68 : decode cX6_takeShort 68 = .ok (.invokevirtual 53, 3) := by decide +kernel
theorem dX6_takeShort_71 : decode cX6_takeShort 71 = .ok (.goto 50, 3) := by decide +kernel
theorem dX6_takeShort_74 : decode cX6_takeShort 74 = .ok (.aload_n 0, 1) := by decide +kernel
theorem dX6_takeShort_75 : decode cX6_takeShort 75 = .ok (.getfield 13, 3) := by decide +kernel
theorem dX6_takeShort_78 : decode cX6_takeShort 78 = .ok (.invokevirtual 56, 3) := by decide +kernel
theorem dX6_takeShort_81 : decode cX6_takeShort 81 = .ok (.goto 40, 3) := by decide +kernel
theorem dX6_takeShort_84 : decode cX6_takeShort 84 = .ok (.aload_n 0, 1) := by decide +kernel
theorem dX6_takeShort_85 : decode cX6_takeShort 85 = .ok (.getfield 13, 3) := by decide +kernel
theorem dX6_takeShort_88 : decode cX6_takeShort 88 = .ok (.invokevirtual 40, 3) := by decide +kernel
theorem dX6_takeShort_91 : decode cX6_takeShort 91 = .ok (.goto 30, 3) := by decide +kernel
theorem dX6_takeShort_94 : decode cX6_takeShort 94 = .ok (.aload_n 0, 1) := by decide +kernel
theorem dX6_takeShort_95 : decode cX6_takeShort 95 = .ok (.getfield 13, 3) := by decide +kernel
theorem dX6_takeShort_98 : decode cX6_takeShort 98 = .ok (.invokevirtual 59, 3) := by decide +kernel
theorem dX6_takeShort_101 : decode cX6_takeShort 101 = .ok (.goto 20, 3) := by decide +kernel
theorem dX6_takeShort_104 : decode cX6_takeShort 104 = .ok (.aload_n 0, 1) := by decide +kernel
theorem dX6_takeShort_105 : decode cX6_takeShort 105 = .ok (.getfield 13, 3) := by decide +kernel
theorem dX6_takeShort_108 : decode cX6_takeShort 108 = .ok (.invokevirtual 62, 3) := by decide +kernel
theorem dX6_takeShort_111 : decode cX6_takeShort 111 = .ok (.goto 10, 3) := by decide +kernel
theorem dX6_takeShort_114 : decode cX6_takeShort 114 = .ok (.aload_n 0, 1) := by decide +kernel
theorem dX6_takeShort_115 : decode cX6_takeShort 115 = .ok (.invokevirtual 65, 3) := by decide +kernel
theorem dX6_takeShort_118 : decode cX6_takeShort 118 = .ok (.goto 3, 3) := by decide +kernel
theorem dX6_takeShort_121 : decode cX6_takeShort 121 = .ok (.return_, 1) := by decide +kernel
theorem dX6_beginLonger_0 : decode cX6_beginLonger 0 = .ok (.aload_n 0, 1) := by decide +kernel
theorem dX6_beginLonger_1 : decode cX6_beginLonger 1 = .ok (.iconst 2, 1) := by decide +kernel
theorem dX6_beginLonger_2 : decode cX6_beginLonger 2 = .ok (.putfield 17, 3) := by decide +kernel
theorem dX6_beginLonger_5 : decode cX6_beginLonger 5 = .ok (.aload_n 0, 1) := by decide +kernel
theorem dX6_beginLonger_6 : decode cX6_beginLonger 6 = .ok (.getfield 9, 3) := by decide +kernel
theorem dX6_beginLonger_9 : decode cX6_beginLonger 9 = .ok (.iconst 0, 1) := by decide +kernel
theorem dX6_beginLonger_10 : decode cX6_beginLonger 10 = .ok (.invokestatic 68, 3) := by decide +kernel
theorem dX6_beginLonger_13 : decode cX6_beginLonger 13 = .ok (.aload_n 0, 1) := by decide +kernel
theorem dX6_beginLonger_14 : decode cX6_beginLonger 14 = .ok (.iconst 0, 1) := by decide +kernel
theorem dX6_beginLonger_15 : decode cX6_beginLonger 15 = .ok (.putfield 74, 3) := by decide +kernel
theorem dX6_beginLonger_18 : decode cX6_beginLonger 18 = .ok (.aload_n 0, 1) := by decide +kernel
theorem dX6_beginLonger_19 : decode cX6_beginLonger 19 = .ok (.iconst 0, 1) := by decide +kernel
theorem dX6_beginLonger_20 : decode cX6_beginLonger 20 = .ok (.putfield 77, 3) := by decide +kernel
theorem dX6_beginLonger_23 : decode cX6_beginLonger 23 = .ok (.return_, 1) := by decide +kernel
theorem dX6_takeLonger_0 : decode cX6_takeLonger 0 = .ok (.iload_n 1, 1) := by decide +kernel
theorem dX6_takeLonger_1 : decode cX6_takeLonger 1 = .ok (.bipush 48, 2) := by decide +kernel
theorem dX6_takeLonger_3 : decode cX6_takeLonger 3 = .ok (.if_icmp .lt 20, 3) := by decide +kernel
theorem dX6_takeLonger_6 : decode cX6_takeLonger 6 = .ok (.iload_n 1, 1) := by decide +kernel
theorem dX6_takeLonger_7 : decode cX6_takeLonger 7 = .ok (.bipush 57, 2) := by decide +kernel
theorem dX6_takeLonger_9 : decode cX6_takeLonger 9 = .ok (.if_icmp .gt 14, 3) := by decide +kernel
theorem dX6_takeLonger_12 : decode cX6_takeLonger 12 = .ok (.aload_n 0, 1) := by decide +kernel
theorem dX6_takeLonger_13 : decode cX6_takeLonger 13 = .ok (.iload_n 1, 1) := by decide +kernel
theorem dX6_takeLonger_14 : decode cX6_takeLonger 14 = .ok (.bipush 48, 2) := by decide +kernel
theorem dX6_takeLonger_16 : decode cX6_takeLonger 16 = .ok (.isub, 1) := by decide +kernel
theorem dX6_takeLonger_17 : decode cX6_takeLonger 17 = .ok (.invokevirtual 80, 3) := by decide +kernel
theorem dX6_takeLonger_20 : decode cX6_takeLonger 20 = .ok (.goto 68, 3) := by decide +kernel
theorem dX6_takeLonger_23 : decode cX6_takeLonger 23 = .ok (.iload_n 1, 1) := by decide +kernel
theorem dX6_takeLonger_24 : decode cX6_takeLonger 24 = .ok (.bipush 59, 2) := by decide +kernel
theorem dX6_takeLonger_26 : decode cX6_takeLonger 26 = .ok (.if_icmp .ne 25, 3) := by decide +kernel
theorem dX6_takeLonger_29 : decode cX6_takeLonger 29 = .ok (.aload_n 0, 1) := by decide +kernel
theorem dX6_takeLonger_30 : decode cX6_takeLonger 30 = .ok (.iconst 4, 1) := by decide +kernel
theorem dX6_takeLonger_31 : decode cX6_takeLonger 31 = .ok (.aload_n 0, 1) := by decide +kernel
theorem dX6_takeLonger_32 : decode cX6_takeLonger 32 = .ok (.getfield 74, 3) := by decide +kernel
theorem dX6_takeLonger_35 : decode cX6_takeLonger 35 = .ok (.iconst 1, 1) := by decide +kernel
theorem dX6_takeLonger_36 : decode cX6_takeLonger 36 = .ok (.iadd, 1) := by decide +kernel
theorem dX6_takeLonger_37 : decode cX6_takeLonger 37 = .ok (.invokestatic 83, 3) := by decide +kernel
theorem dX6_takeLonger_40 : decode cX6_takeLonger 40 = .ok (.putfield 74, 3) := by decide +kernel
theorem dX6_takeLonger_43 : decode cX6_takeLonger 43 = .ok (.aload_n 0, 1) := by decide +kernel
theorem dX6_takeLonger_44 : decode cX6_takeLonger 44 = .ok (.iconst 0, 1) := by decide +kernel
theorem dX6_takeLonger_45 : decode cX6_takeLonger 45 = .ok (.putfield 77, 3) := by decide +kernel
theorem dX6_takeLonger_48 : decode cX6_takeLonger 48 = .ok (.goto 40, 3) := by decide +kernel
theorem dX6_takeLonger_51 : decode cX6_takeLonger 51 = .ok (.iload_n 1, 1) := by decide +kernel
theorem dX6_takeLonger_52 : decode cX6_takeLonger 52 = .ok (.bipush 64, 2) := by decide +kernel
theorem dX6_takeLonger_54 : decode cX6_takeLonger 54 = .ok (.if_icmp .lt 34, 3) := by decide +kernel
theorem dX6_takeLonger_57 : decode cX6_takeLonger 57 = .ok (.iload_n 1, 1) := by decide +kernel
theorem dX6_takeLonger_58 : decode cX6_takeLonger 58 = .ok (.bipush 126, 2) := by decide +kernel
theorem dX6_takeLonger_60 : decode cX6_takeLonger 60 = .ok (.if_icmp .gt 28, 3) := by decide +kernel
theorem dX6_takeLonger_63 : decode cX6_takeLonger 63 = .ok (.aload_n 0, 1) := by decide +kernel
theorem dX6_takeLonger_64 : decode cX6_takeLonger 64 = .ok (.iconst 0, 1) := by decide +kernel
theorem dX6_takeLonger_65 : decode cX6_takeLonger 65 = .ok (.putfield 17, 3) := by decide +kernel
theorem dX6_takeLonger_68 : decode cX6_takeLonger 68 = .ok (.aload_n 0, 1) := by decide +kernel
theorem dX6_takeLonger_69 : decode cX6_takeLonger 69 = .ok (.getfield 21, 3) := by decide +kernel
theorem dX6_takeLonger_72 : decode cX6_takeLonger 72 = .ok (.ifCond .eq 11, 3) := by decide +kernel
theorem dX6_takeLonger_75 : decode cX6_takeLonger 75 = .ok (.aload_n 0, 1) := by decide +kernel
theorem dX6_takeLonger_76 : decode cX6_takeLonger 76 = .ok (.iload_n 1, 1) := by decide +kernel
theorem dX6_takeLonger_77 : decode cX6_takeLonger 77 = .ok (.invokevirtual 89, 3) := by decide +kernel
theorem dX6_takeLonger_80 : decode cX6_takeLonger 80 = .ok (.goto 8, 3) := by decide +kernel
theorem dX6_takeLonger_83 : decode cX6_takeLonger 83 = .ok (.aload_n 0, 1) := by decide +kernel
theorem dX6_takeLonger_84 : decode cX6_takeLonger 84 = .ok (.iload_n 1, 1) := by decide +kernel
theorem dX6_takeLonger_85 : decode cX6_takeLonger 85 = .ok (.invokevirtual 92, 3) := by decide +kernel
theorem dX6_takeLonger_88 : decode cX6_takeLonger 88 = .ok (.return_, 1) := by decide +kernel
theorem dX6_takeDigit_0 : decode cX6_takeDigit 0 = .ok (.aload_n 0, 1) := by decide +kernel
theorem dX6_takeDigit_1 : decode cX6_takeDigit 1 = .ok (.getfield 74, 3) := by decide +kernel
theorem dX6_takeDigit_4 : decode cX6_takeDigit 4 = .ok (.iconst 4, 1) := by decide +kernel
theorem dX6_takeDigit_5 : decode cX6_takeDigit 5 = .ok (.if_icmp .ge 37, 3) := by decide +kernel
theorem dX6_takeDigit_8 : decode cX6_takeDigit 8 = .ok (.aload_n 0, 1) := by decide +kernel
theorem dX6_takeDigit_9 : decode cX6_takeDigit 9 = .ok (.getfield 9, 3) := by decide +kernel
theorem dX6_takeDigit_12 : decode cX6_takeDigit 12 = .ok (.aload_n 0, 1) := by decide +kernel
theorem dX6_takeDigit_13 : decode cX6_takeDigit 13 = .ok (.getfield 74, 3) := by decide +kernel
theorem dX6_takeDigit_16 : decode cX6_takeDigit 16 = .ok (.sipush 999, 3) := by decide +kernel
theorem dX6_takeDigit_19 : decode cX6_takeDigit 19 = .ok (.aload_n 0, 1) := by decide +kernel
theorem dX6_takeDigit_20 : decode cX6_takeDigit 20 = .ok (.getfield 9, 3) := by decide +kernel
theorem dX6_takeDigit_23 : decode cX6_takeDigit 23 = .ok (.aload_n 0, 1) := by decide +kernel
theorem dX6_takeDigit_24 : decode cX6_takeDigit 24 = .ok (.getfield 74, 3) := by decide +kernel
theorem dX6_takeDigit_27 : decode cX6_takeDigit 27 = .ok (.iaload, 1) := by decide +kernel
theorem dX6_takeDigit_28 : decode cX6_takeDigit 28 = .ok (.bipush 10, 2) := by decide +kernel
theorem dX6_takeDigit_30 : decode cX6_takeDigit 30 = .ok (.imul, 1) := by decide +kernel
theorem dX6_takeDigit_31 : decode cX6_takeDigit 31 = .ok (.iload_n 1, 1) := by decide +kernel
theorem dX6_takeDigit_32 : decode cX6_takeDigit 32 = .ok (.iadd, 1) := by decide +kernel
theorem dX6_takeDigit_33 : decode cX6_takeDigit 33 = .ok (.invokestatic 83, 3) := by decide +kernel
theorem dX6_takeDigit_36 : decode cX6_takeDigit 36 = .ok (.iastore, 1) := by decide +kernel
theorem dX6_takeDigit_37 : decode cX6_takeDigit 37 = .ok (.aload_n 0, 1) := by decide +kernel
theorem dX6_takeDigit_38 : decode cX6_takeDigit 38 = .ok (.iconst 1, 1) := by decide +kernel
theorem dX6_takeDigit_39 : decode cX6_takeDigit 39 = .ok (.putfield 77, 3) := by decide +kernel
theorem dX6_takeDigit_42 : decode cX6_takeDigit 42 = .ok (.return_, 1) := by decide +kernel
theorem dX6_doAsked_0 : decode cX6_doAsked 0 = .ok (.iload_n 1, 1) := by decide +kernel
theorem dX6_doAsked_1 : decode cX6_doAsked 1 = .ok (.bipush 104, 2) := by decide +kernel
theorem dX6_doAsked_3 : decode cX6_doAsked 3 = .ok (.if_icmp .eq 10, 3) := by decide +kernel
theorem dX6_doAsked_6 : decode cX6_doAsked 6 = .ok (.iload_n 1, 1) := by decide +kernel
theorem dX6_doAsked_7 : decode cX6_doAsked 7 = .ok (.bipush 108, 2) := by decide +kernel
theorem dX6_doAsked_9 : decode cX6_doAsked 9 = .ok (.if_icmp .eq 4, 3) := by decide +kernel
theorem dX6_doAsked_12 : decode cX6_doAsked 12 = .ok (.return_, 1) := by decide +kernel
theorem dX6_doAsked_13 : decode cX6_doAsked 13 = .ok (.iload_n 1, 1) := by decide +kernel
theorem dX6_doAsked_14 : decode cX6_doAsked 14 = .ok (.bipush 104, 2) := by decide +kernel
theorem dX6_doAsked_16 : decode cX6_doAsked 16 = .ok (.if_icmp .ne 7, 3) := by decide +kernel
theorem dX6_doAsked_19 : decode cX6_doAsked 19 = .ok (.iconst 1, 1) := by decide +kernel
theorem dX6_doAsked_20 : decode cX6_doAsked 20 = .ok (.goto 4, 3) := by decide +kernel
theorem dX6_doAsked_23 : decode cX6_doAsked 23 = .ok (.iconst 0, 1) := by decide +kernel
theorem dX6_doAsked_24 : decode cX6_doAsked 24 = .ok (.istore_n 2, 1) := by decide +kernel
theorem dX6_doAsked_25 : decode cX6_doAsked 25 = .ok (.aload_n 0, 1) := by decide +kernel
theorem dX6_doAsked_26 : decode cX6_doAsked 26 = .ok (.getfield 9, 3) := by decide +kernel
theorem dX6_doAsked_29 : decode cX6_doAsked 29 = .ok (.iconst 0, 1) := by decide +kernel
theorem dX6_doAsked_30 : decode cX6_doAsked 30 = .ok (.iaload, 1) := by decide +kernel
theorem dX6_doAsked_31 : decode cX6_doAsked 31 = .ok (.lookupswitch 66 #[(7, 33), (25, 44), (47, 55)], 33) := by decide +kernel
theorem dX6_doAsked_64 : decode cX6_doAsked 64 = .ok (.aload_n 0, 1) := by decide +kernel
theorem dX6_doAsked_65 : decode cX6_doAsked 65 = .ok (.getfield 13, 3) := by decide +kernel
theorem dX6_doAsked_68 : decode cX6_doAsked 68 = .ok (.iload_n 2, 1) := by decide +kernel
theorem dX6_doAsked_69 : decode cX6_doAsked 69 = .ok (.putfield 95, 3) := by decide +kernel
theorem dX6_doAsked_72 : decode cX6_doAsked 72 = .ok (.goto 25, 3) := by decide +kernel
theorem dX6_doAsked_75 : decode cX6_doAsked 75 = .ok (.aload_n 0, 1) := by decide +kernel
theorem dX6_doAsked_76 : decode cX6_doAsked 76 = .ok (.getfield 13, 3) := by decide +kernel
theorem dX6_doAsked_79 : decode cX6_doAsked 79 = .ok (.iload_n 2, 1) := by decide +kernel
theorem dX6_doAsked_80 : decode cX6_doAsked 80 = .ok (.putfield 98, 3) := by decide +kernel
theorem dX6_doAsked_83 : decode cX6_doAsked 83 = .ok (.goto 14, 3) := by decide +kernel
theorem dX6_doAsked_86 : decode cX6_doAsked 86 = .ok (.aload_n 0, 1) := by decide +kernel
theorem dX6_doAsked_87 : decode cX6_doAsked 87 = .ok (.getfield 13, 3) := by decide +kernel
theorem dX6_doAsked_90 : decode cX6_doAsked 90 = .ok (.iload_n 2, 1) := by decide +kernel
theorem dX6_doAsked_91 : decode cX6_doAsked 91 = .ok (.invokevirtual 101, 3) := by decide +kernel
theorem dX6_doAsked_94 : decode cX6_doAsked 94 = .ok (.goto 3, 3) := by decide +kernel
theorem dX6_doAsked_97 : decode cX6_doAsked 97 = .ok (.return_, 1) := by decide +kernel
theorem dX6_doLonger_0 : decode cX6_doLonger 0 = .ok (.iconst 1, 1) := by decide +kernel
theorem dX6_doLonger_1 : decode cX6_doLonger 1 = .ok (.aload_n 0, 1) := by decide +kernel
theorem dX6_doLonger_2 : decode cX6_doLonger 2 = .ok (.getfield 9, 3) := by decide +kernel
theorem dX6_doLonger_5 : decode cX6_doLonger 5 = .ok (.iconst 0, 1) := by decide +kernel
theorem dX6_doLonger_6 : decode cX6_doLonger 6 = .ok (.iaload, 1) := by decide +kernel
theorem dX6_doLonger_7 : decode cX6_doLonger 7 = .ok (.invokestatic 105, 3) := by decide +kernel
theorem dX6_doLonger_10 : decode cX6_doLonger 10 = .ok (.istore_n 2, 1) := by decide +kernel
theorem dX6_doLonger_11 : decode cX6_doLonger 11 = .ok (.iload_n 1, 1) := by decide +kernel
theorem dX6_doLonger_12 : decode cX6_doLonger 12 = .ok (.tableswitch 540 64 114 #[443, 220, 246, 272, 298, 540, 540, 324, 364, 540, 389, 405, 421, 432, 540, 540, 454, 540, 540, 476, 487, 540, 540, 540, 465, 540, 540, 540, 540, 540, 540, 540, 540, 540, 540, 540, 344, 540, 364, 540, 522, 540, 540, 540, 522, 515, 540, 540, 540, 540, 498], 220) := by decide +kernel
theorem dX6_doLonger_232 : decode cX6_doLonger 232 = .ok (.aload_n 0, 1) := by decide +kernel
theorem dX6_doLonger_233 : decode cX6_doLonger 233 = .ok (.getfield 13, 3) := by decide +kernel
theorem dX6_doLonger_236 : decode cX6_doLonger 236 = .ok (.aload_n 0, 1) := by decide +kernel
theorem dX6_doLonger_237 : decode cX6_doLonger 237 = .ok (.getfield 13, 3) := by decide +kernel
theorem dX6_doLonger_240 : decode cX6_doLonger 240 = .ok (.getfield 25, 3) := by decide +kernel
theorem dX6_doLonger_243 : decode cX6_doLonger 243 = .ok (.aload_n 0, 1) := by decide +kernel
theorem dX6_doLonger_244 : decode cX6_doLonger 244 = .ok (.getfield 13, 3) := by decide +kernel
theorem dX6_doLonger_247 : decode cX6_doLonger 247 = .ok (.getfield 30, 3) := by decide +kernel
theorem dX6_doLonger_250 : decode cX6_doLonger 250 = .ok (.iload_n 2, 1) := by decide +kernel
theorem dX6_doLonger_251 : decode cX6_doLonger 251 = .ok (.isub, 1) := by decide +kernel
theorem dX6_doLonger_252 : decode cX6_doLonger 252 = .ok (.invokevirtual 33, 3) := by decide +kernel
theorem dX6_doLonger_255 : decode cX6_doLonger 255 = .ok (.goto 297, 3) := by decide +kernel
theorem dX6_doLonger_258 : decode cX6_doLonger 258 = .ok (.aload_n 0, 1) := by decide +kernel
theorem dX6_doLonger_259 : decode cX6_doLonger 259 = .ok (.getfield 13, 3) := by decide +kernel
theorem dX6_doLonger_262 : decode cX6_doLonger 262 = .ok (.aload_n 0, 1) := by decide +kernel
theorem dX6_doLonger_263 : decode cX6_doLonger 263 = .ok (.getfield 13, 3) := by decide +kernel
theorem dX6_doLonger_266 : decode cX6_doLonger 266 = .ok (.getfield 25, 3) := by decide +kernel
theorem dX6_doLonger_269 : decode cX6_doLonger 269 = .ok (.aload_n 0, 1) := by decide +kernel
theorem dX6_doLonger_270 : decode cX6_doLonger 270 = .ok (.getfield 13, 3) := by decide +kernel
theorem dX6_doLonger_273 : decode cX6_doLonger 273 = .ok (.getfield 30, 3) := by decide +kernel
theorem dX6_doLonger_276 : decode cX6_doLonger 276 = .ok (.iload_n 2, 1) := by decide +kernel
theorem dX6_doLonger_277 : decode cX6_doLonger 277 = .ok (.iadd, 1) := by decide +kernel
theorem dX6_doLonger_278 : decode cX6_doLonger 278 = .ok (.invokevirtual 33, 3) := by decide +kernel
theorem dX6_doLonger_281 : decode cX6_doLonger 281 = .ok (.goto 271, 3) := by decide +kernel
theorem dX6_doLonger_284 : decode cX6_doLonger 284 = .ok (.aload_n 0, 1) := by decide +kernel
theorem dX6_doLonger_285 : decode cX6_doLonger 285 = .ok (.getfield 13, 3) := by decide +kernel
theorem dX6_doLonger_288 : decode cX6_doLonger 288 = .ok (.aload_n 0, 1) := by decide +kernel
theorem dX6_doLonger_289 : decode cX6_doLonger 289 = .ok (.getfield 13, 3) := by decide +kernel
theorem dX6_doLonger_292 : decode cX6_doLonger 292 = .ok (.getfield 25, 3) := by decide +kernel
theorem dX6_doLonger_295 : decode cX6_doLonger 295 = .ok (.iload_n 2, 1) := by decide +kernel
theorem dX6_doLonger_296 : decode cX6_doLonger 296 = .ok (.iadd, 1) := by decide +kernel
theorem dX6_doLonger_297 : decode cX6_doLonger 297 = .ok (.aload_n 0, 1) := by decide +kernel
theorem dX6_doLonger_298 : decode cX6_doLonger 298 = .ok (.getfield 13, 3) := by decide +kernel
theorem dX6_doLonger_301 : decode cX6_doLonger 301 = .ok (.getfield 30, 3) := by decide +kernel
theorem dX6_doLonger_304 : decode cX6_doLonger 304 = .ok (.invokevirtual 33, 3) := by decide +kernel
theorem dX6_doLonger_307 : decode cX6_doLonger 307 = .ok (.goto 245, 3) := by decide +kernel
theorem dX6_doLonger_310 : decode cX6_doLonger 310 = .ok (.aload_n 0, 1) := by decide +kernel
theorem dX6_doLonger_311 : decode cX6_doLonger 311 = .ok (.getfield 13, 3) := by decide +kernel
theorem dX6_doLonger_314 : decode cX6_doLonger 314 = .ok (.aload_n 0, 1) := by decide +kernel
theorem dX6_doLonger_315 : decode cX6_doLonger 315 = .ok (.getfield 13, 3) := by decide +kernel
theorem dX6_doLonger_318 : decode cX6_doLonger 318 = .ok (.getfield 25, 3) := by decide +kernel
theorem dX6_doLonger_321 : decode cX6_doLonger 321 = .ok (.iload_n 2, 1) := by decide +kernel
theorem dX6_doLonger_322 : decode cX6_doLonger 322 = .ok (.isub, 1) := by decide +kernel
theorem dX6_doLonger_323 : decode cX6_doLonger 323 = .ok (.aload_n 0, 1) := by decide +kernel
theorem dX6_doLonger_324 : decode cX6_doLonger 324 = .ok (.getfield 13, 3) := by decide +kernel
theorem dX6_doLonger_327 : decode cX6_doLonger 327 = .ok (.getfield 30, 3) := by decide +kernel
theorem dX6_doLonger_330 : decode cX6_doLonger 330 = .ok (.invokevirtual 33, 3) := by decide +kernel
theorem dX6_doLonger_333 : decode cX6_doLonger 333 = .ok (.goto 219, 3) := by decide +kernel
theorem dX6_doLonger_336 : decode cX6_doLonger 336 = .ok (.aload_n 0, 1) := by decide +kernel
theorem dX6_doLonger_337 : decode cX6_doLonger 337 = .ok (.getfield 13, 3) := by decide +kernel
theorem dX6_doLonger_340 : decode cX6_doLonger 340 = .ok (.iload_n 2, 1) := by decide +kernel
theorem dX6_doLonger_341 : decode cX6_doLonger 341 = .ok (.iconst 1, 1) := by decide +kernel
theorem dX6_doLonger_342 : decode cX6_doLonger 342 = .ok (.isub, 1) := by decide +kernel
theorem dX6_doLonger_343 : decode cX6_doLonger 343 = .ok (.aload_n 0, 1) := by decide +kernel
theorem dX6_doLonger_344 : decode cX6_doLonger 344 = .ok (.getfield 13, 3) := by decide +kernel
theorem dX6_doLonger_347 : decode cX6_doLonger 347 = .ok (.getfield 30, 3) := by decide +kernel
theorem dX6_doLonger_350 : decode cX6_doLonger 350 = .ok (.invokevirtual 33, 3) := by decide +kernel
theorem dX6_doLonger_353 : decode cX6_doLonger 353 = .ok (.goto 199, 3) := by decide +kernel
theorem dX6_doLonger_356 : decode cX6_doLonger 356 = .ok (.aload_n 0, 1) := by decide +kernel
theorem dX6_doLonger_357 : decode cX6_doLonger 357 = .ok (.getfield 13, 3) := by decide +kernel
theorem dX6_doLonger_360 : decode cX6_doLonger 360 = .ok (.aload_n 0, 1) := by decide +kernel
theorem dX6_doLonger_361 : decode cX6_doLonger 361 = .ok (.getfield 13, 3) := by decide +kernel
theorem dX6_doLonger_364 : decode cX6_doLonger 364 = .ok (.getfield 25, 3) := by decide +kernel
theorem dX6_doLonger_367 : decode cX6_doLonger 367 = .ok (.iload_n 2, 1) := by decide +kernel
theorem dX6_doLonger_368 : decode cX6_doLonger 368 = .ok (.iconst 1, 1) := by decide +kernel
theorem dX6_doLonger_369 : decode cX6_doLonger 369 = .ok (.isub, 1) := by decide +kernel
theorem dX6_doLonger_370 : decode cX6_doLonger 370 = .ok (.invokevirtual 33, 3) := by decide +kernel
theorem dX6_doLonger_373 : decode cX6_doLonger 373 = .ok (.goto 179, 3) := by decide +kernel
theorem dX6_doLonger_376 : decode cX6_doLonger 376 = .ok (.aload_n 0, 1) := by decide +kernel
theorem dX6_doLonger_377 : decode cX6_doLonger 377 = .ok (.getfield 13, 3) := by decide +kernel
theorem dX6_doLonger_380 : decode cX6_doLonger 380 = .ok (.iconst 1, 1) := by decide +kernel
theorem dX6_doLonger_381 : decode cX6_doLonger 381 = .ok (.aload_n 0, 1) := by decide +kernel
theorem dX6_doLonger_382 : decode cX6_doLonger 382 = .ok (.getfield 9, 3) := by decide +kernel
theorem dX6_doLonger_385 : decode cX6_doLonger 385 = .ok (.iconst 1, 1) := by decide +kernel
theorem dX6_doLonger_386 : decode cX6_doLonger 386 = .ok (.iaload, 1) := by decide +kernel
theorem dX6_doLonger_387 : decode cX6_doLonger 387 = .ok (.invokestatic 105, 3) := by decide +kernel
theorem dX6_doLonger_390 : decode cX6_doLonger 390 = .ok (.iconst 1, 1) := by decide +kernel
theorem dX6_doLonger_391 : decode cX6_doLonger 391 = .ok (.isub, 1) := by decide +kernel
theorem dX6_doLonger_392 : decode cX6_doLonger 392 = .ok (.iload_n 2, 1) := by decide +kernel
theorem dX6_doLonger_393 : decode cX6_doLonger 393 = .ok (.iconst 1, 1) := by decide +kernel
theorem dX6_doLonger_394 : decode cX6_doLonger 394 = .ok (.isub, 1) := by decide +kernel
theorem dX6_doLonger_395 : decode cX6_doLonger 395 = .ok (.invokevirtual 33, 3) := by decide +kernel
theorem dX6_doLonger_398 : decode cX6_doLonger 398 = .ok (.goto 154, 3) := by decide +kernel
theorem dX6_doLonger_401 : decode cX6_doLonger 401 = .ok (.aload_n 0, 1) := by decide +kernel
theorem dX6_doLonger_402 : decode cX6_doLonger 402 = .ok (.getfield 13, 3) := by decide +kernel
theorem dX6_doLonger_405 : decode cX6_doLonger 405 = .ok (.aload_n 0, 1) := by decide +kernel
theorem dX6_doLonger_406 : decode cX6_doLonger 406 = .ok (.getfield 9, 3) := by decide +kernel
theorem dX6_doLonger_409 : decode cX6_doLonger 409 = .ok (.iconst 0, 1) := by decide +kernel
theorem dX6_doLonger_410 : decode cX6_doLonger 410 = .ok (.iaload, 1) := by decide +kernel
theorem dX6_doLonger_411 : decode cX6_doLonger 411 = .ok (.invokevirtual 108, 3) := by decide +kernel
theorem dX6_doLonger_414 : decode cX6_doLonger 414 = .ok (.goto 138, 3) := by decide +kernel
theorem dX6_doLonger_417 : decode cX6_doLonger 417 = .ok (.aload_n 0, 1) := by decide +kernel
theorem dX6_doLonger_418 : decode cX6_doLonger 418 = .ok (.getfield 13, 3) := by decide +kernel
theorem dX6_doLonger_421 : decode cX6_doLonger 421 = .ok (.aload_n 0, 1) := by decide +kernel
theorem dX6_doLonger_422 : decode cX6_doLonger 422 = .ok (.getfield 9, 3) := by decide +kernel
theorem dX6_doLonger_425 : decode cX6_doLonger 425 = .ok (.iconst 0, 1) := by decide +kernel
theorem dX6_doLonger_426 : decode cX6_doLonger 426 = .ok (.iaload, 1) := by decide +kernel
theorem dX6_doLonger_427 : decode cX6_doLonger 427 = .ok (.invokevirtual 111, 3) := by decide +kernel
theorem dX6_doLonger_430 : decode cX6_doLonger 430 = .ok (.goto 122, 3) := by decide +kernel
theorem dX6_doLonger_433 : decode cX6_doLonger 433 = .ok (.aload_n 0, 1) := by decide +kernel
theorem dX6_doLonger_434 : decode cX6_doLonger 434 = .ok (.getfield 13, 3) := by decide +kernel
theorem dX6_doLonger_437 : decode cX6_doLonger 437 = .ok (.iload_n 2, 1) := by decide +kernel
theorem dX6_doLonger_438 : decode cX6_doLonger 438 = .ok (.invokevirtual 114, 3) := by decide +kernel
theorem dX6_doLonger_441 : decode cX6_doLonger 441 = .ok (.goto 111, 3) := by decide +kernel
theorem dX6_doLonger_444 : decode cX6_doLonger 444 = .ok (.aload_n 0, 1) := by decide +kernel
theorem dX6_doLonger_445 : decode cX6_doLonger 445 = .ok (.getfield 13, 3) := by decide +kernel
theorem dX6_doLonger_448 : decode cX6_doLonger 448 = .ok (.iload_n 2, 1) := by decide +kernel
theorem dX6_doLonger_449 : decode cX6_doLonger 449 = .ok (.invokevirtual 117, 3) := by decide +kernel
theorem dX6_doLonger_452 : decode cX6_doLonger 452 = .ok (.goto 100, 3) := by decide +kernel
theorem dX6_doLonger_455 : decode cX6_doLonger 455 = .ok (.aload_n 0, 1) := by decide +kernel
theorem dX6_doLonger_456 : decode cX6_doLonger 456 = .ok (.getfield 13, 3) := by decide +kernel
theorem dX6_doLonger_459 : decode cX6_doLonger 459 = .ok (.iload_n 2, 1) := by decide +kernel
theorem dX6_doLonger_460 : decode cX6_doLonger 460 = .ok (.invokevirtual 120, 3) := by decide +kernel
theorem dX6_doLonger_463 : decode cX6_doLonger 463 = .ok (.goto 89, 3) := by decide +kernel
theorem dX6_doLonger_466 : decode cX6_doLonger 466 = .ok (.aload_n 0, 1) := by decide +kernel
theorem dX6_doLonger_467 : decode cX6_doLonger 467 = .ok (.getfield 13, 3) := by decide +kernel
theorem dX6_doLonger_470 : decode cX6_doLonger 470 = .ok (.iload_n 2, 1) := by decide +kernel
theorem dX6_doLonger_471 : decode cX6_doLonger 471 = .ok (.invokevirtual 123, 3) := by decide +kernel
theorem dX6_doLonger_474 : decode cX6_doLonger 474 = .ok (.goto 78, 3) := by decide +kernel
theorem dX6_doLonger_477 : decode cX6_doLonger 477 = .ok (.aload_n 0, 1) := by decide +kernel
theorem dX6_doLonger_478 : decode cX6_doLonger 478 = .ok (.getfield 13, 3) := by decide +kernel
theorem dX6_doLonger_481 : decode cX6_doLonger 481 = .ok (.iload_n 2, 1) := by decide +kernel
theorem dX6_doLonger_482 : decode cX6_doLonger 482 = .ok (.invokevirtual 126, 3) := by decide +kernel
theorem dX6_doLonger_485 : decode cX6_doLonger 485 = .ok (.goto 67, 3) := by decide +kernel
theorem dX6_doLonger_488 : decode cX6_doLonger 488 = .ok (.aload_n 0, 1) := by decide +kernel
theorem dX6_doLonger_489 : decode cX6_doLonger 489 = .ok (.getfield 13, 3) := by decide +kernel
theorem dX6_doLonger_492 : decode cX6_doLonger 492 = .ok (.iload_n 2, 1) := by decide +kernel
theorem dX6_doLonger_493 : decode cX6_doLonger 493 = .ok (.invokevirtual 129, 3) := by decide +kernel
theorem dX6_doLonger_496 : decode cX6_doLonger 496 = .ok (.goto 56, 3) := by decide +kernel
theorem dX6_doLonger_499 : decode cX6_doLonger 499 = .ok (.aload_n 0, 1) := by decide +kernel
theorem dX6_doLonger_500 : decode cX6_doLonger 500 = .ok (.getfield 13, 3) := by decide +kernel
theorem dX6_doLonger_503 : decode cX6_doLonger 503 = .ok (.iload_n 2, 1) := by decide +kernel
theorem dX6_doLonger_504 : decode cX6_doLonger 504 = .ok (.invokevirtual 132, 3) := by decide +kernel
theorem dX6_doLonger_507 : decode cX6_doLonger 507 = .ok (.goto 45, 3) := by decide +kernel
theorem dX6_doLonger_510 : decode cX6_doLonger 510 = .ok (.aload_n 0, 1) := by decide +kernel
theorem dX6_doLonger_511 : decode cX6_doLonger 511 = .ok (.getfield 13, 3) := by decide +kernel
theorem dX6_doLonger_514 : decode cX6_doLonger 514 = .ok (.iload_n 2, 1) := by decide +kernel
theorem dX6_doLonger_515 : decode cX6_doLonger 515 = .ok (.aload_n 0, 1) := by decide +kernel
theorem dX6_doLonger_516 : decode cX6_doLonger 516 = .ok (.getfield 9, 3) := by decide +kernel
theorem dX6_doLonger_519 : decode cX6_doLonger 519 = .ok (.iconst 1, 1) := by decide +kernel
theorem dX6_doLonger_520 : decode cX6_doLonger 520 = .ok (.iaload, 1) := by decide +kernel
theorem dX6_doLonger_521 : decode cX6_doLonger 521 = .ok (.invokevirtual 135, 3) := by decide +kernel
theorem dX6_doLonger_524 : decode cX6_doLonger 524 = .ok (.goto 28, 3) := by decide +kernel
theorem dX6_doLonger_527 : decode cX6_doLonger 527 = .ok (.aload_n 0, 1) := by decide +kernel
theorem dX6_doLonger_528 : decode cX6_doLonger 528 = .ok (.invokevirtual 138, 3) := by decide +kernel
theorem dX6_doLonger_531 : decode cX6_doLonger 531 = .ok (.goto 21, 3) := by decide +kernel
theorem dX6_doLonger_534 : decode cX6_doLonger 534 = .ok (.aload_n 0, 1) := by decide +kernel
theorem dX6_doLonger_535 : decode cX6_doLonger 535 = .ok (.iload_n 1, 1) := by decide +kernel
theorem dX6_doLonger_536 : decode cX6_doLonger 536 = .ok (.bipush 104, 2) := by decide +kernel
theorem dX6_doLonger_538 : decode cX6_doLonger 538 = .ok (.if_icmp .ne 7, 3) := by decide +kernel
theorem dX6_doLonger_541 : decode cX6_doLonger 541 = .ok (.iconst 1, 1) := by decide +kernel
theorem dX6_doLonger_542 : decode cX6_doLonger 542 = .ok (.goto 4, 3) := by decide +kernel
theorem dX6_doLonger_545 : decode cX6_doLonger 545 = .ok (.iconst 0, 1) := by decide +kernel
theorem dX6_doLonger_546 : decode cX6_doLonger 546 = .ok (.invokevirtual 141, 3) := by decide +kernel
theorem dX6_doLonger_549 : decode cX6_doLonger 549 = .ok (.goto 3, 3) := by decide +kernel
theorem dX6_doLonger_552 : decode cX6_doLonger 552 = .ok (.return_, 1) := by decide +kernel
theorem dX6_setInsertMode_0 : decode cX6_setInsertMode 0 = .ok (.aload_n 0, 1) := by decide +kernel
theorem dX6_setInsertMode_1 : decode cX6_setInsertMode 1 = .ok (.getfield 9, 3) := by decide +kernel
theorem dX6_setInsertMode_4 : decode cX6_setInsertMode 4 = .ok (.iconst 0, 1) := by decide +kernel
theorem dX6_setInsertMode_5 : decode cX6_setInsertMode 5 = .ok (.iaload, 1) := by decide +kernel
theorem dX6_setInsertMode_6 : decode cX6_setInsertMode 6 = .ok (.iconst 4, 1) := by decide +kernel
theorem dX6_setInsertMode_7 : decode cX6_setInsertMode 7 = .ok (.if_icmp .ne 11, 3) := by decide +kernel
theorem dX6_setInsertMode_10 : decode cX6_setInsertMode 10 = .ok (.aload_n 0, 1) := by decide +kernel
theorem dX6_setInsertMode_11 : decode cX6_setInsertMode 11 = .ok (.getfield 13, 3) := by decide +kernel
theorem dX6_setInsertMode_14 : decode cX6_setInsertMode 14 = .ok (.iload_n 1, 1) := by decide +kernel
theorem dX6_setInsertMode_15 : decode cX6_setInsertMode 15 = .ok (.putfield 144, 3) := by decide +kernel
theorem dX6_setInsertMode_18 : decode cX6_setInsertMode 18 = .ok (.return_, 1) := by decide +kernel
theorem dX6_setPen_0 : decode cX6_setPen 0 = .ok (.aload_n 0, 1) := by decide +kernel
theorem dX6_setPen_1 : decode cX6_setPen 1 = .ok (.getfield 77, 3) := by decide +kernel
theorem dX6_setPen_4 : decode cX6_setPen 4 = .ok (.ifCond .eq 12, 3) := by decide +kernel
theorem dX6_setPen_7 : decode cX6_setPen 7 = .ok (.aload_n 0, 1) := by decide +kernel
theorem dX6_setPen_8 : decode cX6_setPen 8 = .ok (.getfield 74, 3) := by decide +kernel
theorem dX6_setPen_11 : decode cX6_setPen 11 = .ok (.iconst 1, 1) := by decide +kernel
theorem dX6_setPen_12 : decode cX6_setPen 12 = .ok (.iadd, 1) := by decide +kernel
theorem dX6_setPen_13 : decode cX6_setPen 13 = .ok (.goto 7, 3) := by decide +kernel
theorem dX6_setPen_16 : decode cX6_setPen 16 = .ok (.aload_n 0, 1) := by decide +kernel
theorem dX6_setPen_17 : decode cX6_setPen 17 = .ok (.getfield 74, 3) := by decide +kernel
theorem dX6_setPen_20 : decode cX6_setPen 20 = .ok (.istore_n 1, 1) := by decide +kernel
theorem dX6_setPen_21 : decode cX6_setPen 21 = .ok (.iload_n 1, 1) := by decide +kernel
theorem dX6_setPen_22 : decode cX6_setPen 22 = .ok (.ifCond .ne 7, 3) := by decide +kernel
theorem dX6_setPen_25 : decode cX6_setPen 25 = .ok (.iconst 0, 1) := by decide +kernel
theorem dX6_setPen_26 : decode cX6_setPen 26 = .ok (.goto 10, 3) := by decide +kernel
theorem dX6_setPen_29 : decode cX6_setPen 29 = .ok (.aload_n 0, 1) := by decide +kernel
theorem dX6_setPen_30 : decode cX6_setPen 30 = .ok (.getfield 13, 3) := by decide +kernel
theorem dX6_setPen_33 : decode cX6_setPen 33 = .ok (.getfield 147, 3) := by decide +kernel
theorem dX6_setPen_36 : decode cX6_setPen 36 = .ok (.istore_n 2, 1) := by decide +kernel
theorem dX6_setPen_37 : decode cX6_setPen 37 = .ok (.iconst 0, 1) := by decide +kernel
theorem dX6_setPen_38 : decode cX6_setPen 38 = .ok (.istore_n 3, 1) := by decide +kernel
theorem dX6_setPen_39 : decode cX6_setPen 39 = .ok (.iload_n 3, 1) := by decide +kernel
theorem dX6_setPen_40 : decode cX6_setPen 40 = .ok (.iconst 4, 1) := by decide +kernel
theorem dX6_setPen_41 : decode cX6_setPen 41 = .ok (.if_icmp .ge 25, 3) := by decide +kernel
theorem dX6_setPen_44 : decode cX6_setPen 44 = .ok (.iload_n 3, 1) := by decide +kernel
theorem dX6_setPen_45 : decode cX6_setPen 45 = .ok (.iload_n 1, 1) := by decide +kernel
theorem dX6_setPen_46 : decode cX6_setPen 46 = .ok (.if_icmp .ge 20, 3) := by decide +kernel
theorem dX6_setPen_49 : decode cX6_setPen 49 = .ok (.iload_n 2, 1) := by decide +kernel
theorem dX6_setPen_50 : decode cX6_setPen 50 = .ok (.aload_n 0, 1) := by decide +kernel
theorem dX6_setPen_51 : decode cX6_setPen 51 = .ok (.getfield 9, 3) := by decide +kernel
theorem dX6_setPen_54 : decode cX6_setPen 54 = .ok (.iload_n 3, 1) := by decide +kernel
theorem dX6_setPen_55 : decode cX6_setPen 55 = .ok (.iaload, 1) := by decide +kernel
theorem dX6_setPen_56 : decode cX6_setPen 56 = .ok (.invokestatic 150, 3) := by decide +kernel
theorem dX6_setPen_59 : decode cX6_setPen 59 = .ok (.istore_n 2, 1) := by decide +kernel
theorem dX6_setPen_60 : decode cX6_setPen 60 = .ok (.iinc 3 1, 3) := by decide +kernel
theorem dX6_setPen_63 : decode cX6_setPen 63 = .ok (.goto (-24), 3) := by decide +kernel
theorem dX6_setPen_66 : decode cX6_setPen 66 = .ok (.aload_n 0, 1) := by decide +kernel
theorem dX6_setPen_67 : decode cX6_setPen 67 = .ok (.getfield 13, 3) := by decide +kernel
theorem dX6_setPen_70 : decode cX6_setPen 70 = .ok (.iload_n 2, 1) := by decide +kernel
theorem dX6_setPen_71 : decode cX6_setPen 71 = .ok (.putfield 147, 3) := by decide +kernel
theorem dX6_setPen_74 : decode cX6_setPen 74 = .ok (.return_, 1) := by decide +kernel
theorem dX6_changedPen_0 : decode cX6_changedPen 0 = .ok (.iload_n 1, 1) := by decide +kernel
theorem dX6_changedPen_1 : decode cX6_changedPen 1 = .ok (.bipush 30, 2) := by decide +kernel
theorem dX6_changedPen_3 : decode cX6_changedPen 3 = .ok (.if_icmp .lt 18, 3) := by decide +kernel
theorem dX6_changedPen_6 : decode cX6_changedPen 6 = .ok (.iload_n 1, 1) := by decide +kernel
theorem dX6_changedPen_7 : decode cX6_changedPen 7 = .ok (.bipush 37, 2) := by decide +kernel
theorem dX6_changedPen_9 : decode cX6_changedPen 9 = .ok (.if_icmp .gt 12, 3) := by decide +kernel
theorem dX6_changedPen_12 : decode cX6_changedPen 12 = .ok (.iload_n 0, 1) := by decide +kernel
theorem dX6_changedPen_13 : decode cX6_changedPen 13 = .ok (.iload_n 1, 1) := by decide +kernel
theorem dX6_changedPen_14 : decode cX6_changedPen 14 = .ok (.bipush 29, 2) := by decide +kernel
theorem dX6_changedPen_16 : decode cX6_changedPen 16 = .ok (.isub, 1) := by decide +kernel
theorem dX6_changedPen_17 : decode cX6_changedPen 17 = .ok (.invokestatic 153, 3) := by decide +kernel
theorem dX6_changedPen_20 : decode cX6_changedPen 20 = .ok (.ireturn, 1) := by decide +kernel
theorem dX6_changedPen_21 : decode cX6_changedPen 21 = .ok (.iload_n 1, 1) := by decide +kernel
theorem dX6_changedPen_22 : decode cX6_changedPen 22 = .ok (.bipush 40, 2) := by decide +kernel
theorem dX6_changedPen_24 : decode cX6_changedPen 24 = .ok (.if_icmp .lt 18, 3) := by decide +kernel
theorem dX6_changedPen_27 : decode cX6_changedPen 27 = .ok (.iload_n 1, 1) := by decide +kernel
theorem dX6_changedPen_28 : decode cX6_changedPen 28 = .ok (.bipush 47, 2) := by decide +kernel
theorem dX6_changedPen_30 : decode cX6_changedPen 30 = .ok (.if_icmp .gt 12, 3) := by decide +kernel
theorem dX6_changedPen_33 : decode cX6_changedPen 33 = .ok (.iload_n 0, 1) := by decide +kernel
theorem dX6_changedPen_34 : decode cX6_changedPen 34 = .ok (.iload_n 1, 1) := by decide +kernel
theorem dX6_changedPen_35 : decode cX6_changedPen 35 = .ok (.bipush 39, 2) := by decide +kernel
theorem dX6_changedPen_37 : decode cX6_changedPen 37 = .ok (.isub, 1) := by decide +kernel
theorem dX6_changedPen_38 : decode cX6_changedPen 38 = .ok (.invokestatic 156, 3) := by decide +kernel
theorem dX6_changedPen_41 : decode cX6_changedPen 41 = .ok (.ireturn, 1) := by decide +kernel
theorem dX6_changedPen_42 : decode cX6_changedPen 42 = .ok (.iload_n 1, 1) := by decide +kernel
theorem dX6_changedPen_43 : decode cX6_changedPen 43 = .ok (.lookupswitch 140 #[(0, 81), (1, 85), (4, 91), (7, 97), (22, 103), (24, 110), (27, 117), (39, 124), (49, 132)], 81) := by decide +kernel
theorem dX6_changedPen_124 : decode cX6_changedPen 124 = .ok (.iconst 0, 1) := by decide +kernel
theorem dX6_changedPen_125 : decode cX6_changedPen 125 = .ok (.goto 59, 3) := by decide +kernel
theorem dX6_changedPen_128 : decode cX6_changedPen 128 = .ok (.iload_n 0, 1) := by decide +kernel
theorem dX6_changedPen_129 : decode cX6_changedPen 129 = .ok (.iconst 1, 1) := by decide +kernel
theorem dX6_changedPen_130 : decode cX6_changedPen 130 = .ok (.ior, 1) := by decide +kernel
theorem dX6_changedPen_131 : decode cX6_changedPen 131 = .ok (.goto 53, 3) := by decide +kernel
theorem dX6_changedPen_134 : decode cX6_changedPen 134 = .ok (.iload_n 0, 1) := by decide +kernel
theorem dX6_changedPen_135 : decode cX6_changedPen 135 = .ok (.iconst 2, 1) := by decide +kernel
theorem dX6_changedPen_136 : decode cX6_changedPen 136 = .ok (.ior, 1) := by decide +kernel
theorem dX6_changedPen_137 : decode cX6_changedPen 137 = .ok (.goto 47, 3) := by decide +kernel
theorem dX6_changedPen_140 : decode cX6_changedPen 140 = .ok (.iload_n 0, 1) := by decide +kernel
theorem dX6_changedPen_141 : decode cX6_changedPen 141 = .ok (.iconst 4, 1) := by decide +kernel
theorem dX6_changedPen_142 : decode cX6_changedPen 142 = .ok (.ior, 1) := by decide +kernel
theorem dX6_changedPen_143 : decode cX6_changedPen 143 = .ok (.goto 41, 3) := by decide +kernel
theorem dX6_changedPen_146 : decode cX6_changedPen 146 = .ok (.iload_n 0, 1) := by decide +kernel
theorem dX6_changedPen_147 : decode cX6_changedPen 147 = .ok (.bipush (-2), 2) := by decide +kernel
theorem dX6_changedPen_149 : decode cX6_changedPen 149 = .ok (.iand, 1) := by decide +kernel
theorem dX6_changedPen_150 : decode cX6_changedPen 150 = .ok (.goto 34, 3) := by decide +kernel
theorem dX6_changedPen_153 : decode cX6_changedPen 153 = .ok (.iload_n 0, 1) := by decide +kernel
theorem dX6_changedPen_154 : decode cX6_changedPen 154 = .ok (.bipush (-3), 2) := by decide +kernel
theorem dX6_changedPen_156 : decode cX6_changedPen 156 = .ok (.iand, 1) := by decide +kernel
theorem dX6_changedPen_157 : decode cX6_changedPen 157 = .ok (.goto 27, 3) := by decide +kernel
theorem dX6_changedPen_160 : decode cX6_changedPen 160 = .ok (.iload_n 0, 1) := by decide +kernel
theorem dX6_changedPen_161 : decode cX6_changedPen 161 = .ok (.bipush (-5), 2) := by decide +kernel
theorem dX6_changedPen_163 : decode cX6_changedPen 163 = .ok (.iand, 1) := by decide +kernel
theorem dX6_changedPen_164 : decode cX6_changedPen 164 = .ok (.goto 20, 3) := by decide +kernel
theorem dX6_changedPen_167 : decode cX6_changedPen 167 = .ok (.iload_n 0, 1) := by decide +kernel
theorem dX6_changedPen_168 : decode cX6_changedPen 168 = .ok (.iconst 0, 1) := by decide +kernel
theorem dX6_changedPen_169 : decode cX6_changedPen 169 = .ok (.invokestatic 153, 3) := by decide +kernel
theorem dX6_changedPen_172 : decode cX6_changedPen 172 = .ok (.goto 12, 3) := by decide +kernel
theorem dX6_changedPen_175 : decode cX6_changedPen 175 = .ok (.iload_n 0, 1) := by decide +kernel
theorem dX6_changedPen_176 : decode cX6_changedPen 176 = .ok (.iconst 0, 1) := by decide +kernel
theorem dX6_changedPen_177 : decode cX6_changedPen 177 = .ok (.invokestatic 156, 3) := by decide +kernel
theorem dX6_changedPen_180 : decode cX6_changedPen 180 = .ok (.goto 4, 3) := by decide +kernel
theorem dX6_changedPen_183 : decode cX6_changedPen 183 = .ok (.iload_n 0, 1) := by decide +kernel
theorem dX6_changedPen_184 : decode cX6_changedPen 184 = .ok (.ireturn, 1) := by decide +kernel
theorem dX6_withColour_0 : decode cX6_withColour 0 = .ok (.iload_n 0, 1) := by decide +kernel
theorem dX6_withColour_1 : decode cX6_withColour 1 = .ok (.sipush (-241), 3) := by decide +kernel
theorem dX6_withColour_4 : decode cX6_withColour 4 = .ok (.iand, 1) := by decide +kernel
theorem dX6_withColour_5 : decode cX6_withColour 5 = .ok (.iload_n 1, 1) := by decide +kernel
theorem dX6_withColour_6 : decode cX6_withColour 6 = .ok (.iconst 4, 1) := by decide +kernel
theorem dX6_withColour_7 : decode cX6_withColour 7 = .ok (.ishl, 1) := by decide +kernel
theorem dX6_withColour_8 : decode cX6_withColour 8 = .ok (.ior, 1) := by decide +kernel
theorem dX6_withColour_9 : decode cX6_withColour 9 = .ok (.ireturn, 1) := by decide +kernel
theorem dX6_withGround_0 : decode cX6_withGround 0 = .ok (.iload_n 0, 1) := by decide +kernel
theorem dX6_withGround_1 : decode cX6_withGround 1 = .ok (.sipush (-3841), 3) := by decide +kernel
theorem dX6_withGround_4 : decode cX6_withGround 4 = .ok (.iand, 1) := by decide +kernel
theorem dX6_withGround_5 : decode cX6_withGround 5 = .ok (.iload_n 1, 1) := by decide +kernel
theorem dX6_withGround_6 : decode cX6_withGround 6 = .ok (.bipush 8, 2) := by decide +kernel
theorem dX6_withGround_8 : decode cX6_withGround 8 = .ok (.ishl, 1) := by decide +kernel
theorem dX6_withGround_9 : decode cX6_withGround 9 = .ok (.ior, 1) := by decide +kernel
theorem dX6_withGround_10 : decode cX6_withGround 10 = .ok (.ireturn, 1) := by decide +kernel
theorem dX7_init_0 : decode cX7_init 0 = .ok (.aload_n 0, 1) := by decide +kernel
theorem dX7_init_1 : decode cX7_init 1 = .ok (.invokespecial 3, 3) := by decide +kernel
theorem dX7_init_4 : decode cX7_init 4 = .ok (.aload_n 0, 1) := by decide +kernel
theorem dX7_init_5 : decode cX7_init 5 = .ok (.new 9, 3) := by decide +kernel
theorem dX7_init_8 : decode cX7_init 8 = .ok (.dup, 1) := by decide +kernel
theorem dX7_init_9 : decode cX7_init 9 = .ok (.iload_n 1, 1) := by decide +kernel
theorem dX7_init_10 : decode cX7_init 10 = .ok (.iload_n 2, 1) := by decide +kernel
theorem dX7_init_11 : decode cX7_init 11 = .ok (.invokespecial 11, 3) := by decide +kernel
theorem dX7_init_14 : decode cX7_init 14 = .ok (.putfield 14, 3) := by decide +kernel
theorem dX7_init_17 : decode cX7_init 17 = .ok (.aload_n 0, 1) := by decide +kernel
theorem dX7_init_18 : decode cX7_init 18 = .ok (.new 9, 3) := by decide +kernel
theorem dX7_init_21 : decode cX7_init 21 = .ok (.dup, 1) := by decide +kernel
theorem dX7_init_22 : decode cX7_init 22 = .ok (.iload_n 1, 1) := by decide +kernel
theorem dX7_init_23 : decode cX7_init 23 = .ok (.iload_n 2, 1) := by decide +kernel
theorem dX7_init_24 : decode cX7_init 24 = .ok (.invokespecial 11, 3) := by decide +kernel
theorem dX7_init_27 : decode cX7_init 27 = .ok (.putfield 20, 3) := by decide +kernel
theorem dX7_init_30 : decode cX7_init 30 = .ok (.aload_n 0, 1) := by decide +kernel
theorem dX7_init_31 : decode cX7_init 31 = .ok (.new 23, 3) := by decide +kernel
theorem dX7_init_34 : decode cX7_init 34 = .ok (.dup, 1) := by decide +kernel
theorem dX7_init_35 : decode cX7_init 35 = .ok (.iload_n 1, 1) := by decide +kernel
theorem dX7_init_36 : decode cX7_init 36 = .ok (.invokespecial 25, 3) := by decide +kernel
theorem dX7_init_39 : decode cX7_init 39 = .ok (.putfield 28, 3) := by decide +kernel
theorem dX7_init_42 : decode cX7_init 42 = .ok (.return_, 1) := by decide +kernel
theorem dX7_shown_0 : decode cX7_shown 0 = .ok (.aload_n 0, 1) := by decide +kernel
theorem dX7_shown_1 : decode cX7_shown 1 = .ok (.getfield 32, 3) := by decide +kernel
theorem dX7_shown_4 : decode cX7_shown 4 = .ok (.ifCond .eq 10, 3) := by decide +kernel
theorem dX7_shown_7 : decode cX7_shown 7 = .ok (.aload_n 0, 1) := by decide +kernel
theorem dX7_shown_8 : decode cX7_shown 8 = .ok (.getfield 20, 3) := by decide +kernel
theorem dX7_shown_11 : decode cX7_shown 11 = .ok (.goto 7, 3) := by decide +kernel
theorem dX7_shown_14 : decode cX7_shown 14 = .ok (.aload_n 0, 1) := by decide +kernel
theorem dX7_shown_15 : decode cX7_shown 15 = .ok (.getfield 14, 3) := by decide +kernel
theorem dX7_shown_18 : decode cX7_shown 18 = .ok (.areturn, 1) := by decide +kernel
theorem dX7_reset_0 : decode cX7_reset 0 = .ok (.aload_n 0, 1) := by decide +kernel
theorem dX7_reset_1 : decode cX7_reset 1 = .ok (.getfield 14, 3) := by decide +kernel
theorem dX7_reset_4 : decode cX7_reset 4 = .ok (.iconst 0, 1) := by decide +kernel
theorem dX7_reset_5 : decode cX7_reset 5 = .ok (.iconst 0, 1) := by decide +kernel
theorem dX7_reset_6 : decode cX7_reset 6 = .ok (.invokevirtual 36, 3) := by decide +kernel
theorem dX7_reset_9 : decode cX7_reset 9 = .ok (.aload_n 0, 1) := by decide +kernel
theorem dX7_reset_10 : decode cX7_reset 10 = .ok (.getfield 28, 3) := by decide +kernel
theorem dX7_reset_13 : decode cX7_reset 13 = .ok (.invokevirtual 39, 3) := by decide +kernel
theorem dX7_reset_16 : decode cX7_reset 16 = .ok (.aload_n 0, 1) := by decide +kernel
theorem dX7_reset_17 : decode cX7_reset 17 = .ok (.iconst 0, 1) := by decide +kernel
theorem dX7_reset_18 : decode cX7_reset 18 = .ok (.putfield 42, 3) := by decide +kernel
theorem dX7_reset_21 : decode cX7_reset 21 = .ok (.aload_n 0, 1) := by decide +kernel
theorem dX7_reset_22 : decode cX7_reset 22 = .ok (.iconst 0, 1) := by decide +kernel
theorem dX7_reset_23 : decode cX7_reset 23 = .ok (.putfield 46, 3) := by decide +kernel
theorem dX7_reset_26 : decode cX7_reset 26 = .ok (.aload_n 0, 1) := by decide +kernel
theorem dX7_reset_27 : decode cX7_reset 27 = .ok (.iconst 0, 1) := by decide +kernel
theorem dX7_reset_28 : decode cX7_reset 28 = .ok (.putfield 49, 3) := by decide +kernel
theorem dX7_reset_31 : decode cX7_reset 31 = .ok (.aload_n 0, 1) := by decide +kernel
theorem dX7_reset_32 : decode cX7_reset 32 = .ok (.iconst 0, 1) := by decide +kernel
theorem dX7_reset_33 : decode cX7_reset 33 = .ok (.putfield 52, 3) := by decide +kernel
theorem dX7_reset_36 : decode cX7_reset 36 = .ok (.aload_n 0, 1) := by decide +kernel
theorem dX7_reset_37 : decode cX7_reset 37 = .ok (.invokevirtual 55, 3) := by decide +kernel
theorem dX7_reset_40 : decode cX7_reset 40 = .ok (.aload_n 0, 1) := by decide +kernel
theorem dX7_reset_41 : decode cX7_reset 41 = .ok (.iconst 0, 1) := by decide +kernel
theorem dX7_reset_42 : decode cX7_reset 42 = .ok (.putfield 58, 3) := by decide +kernel
theorem dX7_reset_45 : decode cX7_reset 45 = .ok (.aload_n 0, 1) := by decide +kernel
theorem dX7_reset_46 : decode cX7_reset 46 = .ok (.aload_n 0, 1) := by decide +kernel
theorem dX7_reset_47 : decode cX7_reset 47 = .ok (.getfield 61, 3) := by decide +kernel
theorem dX7_reset_50 : decode cX7_reset 50 = .ok (.iconst 1, 1) := by decide +kernel
theorem dX7_reset_51 : decode cX7_reset 51 = .ok (.isub, 1) := by decide +kernel
theorem dX7_reset_52 : decode cX7_reset 52 = .ok (.putfield 64, 3) := by decide +kernel
theorem dX7_reset_55 : decode cX7_reset 55 = .ok (.aload_n 0, 1) := by decide +kernel
theorem dX7_reset_56 : decode cX7_reset 56 = .ok (.iconst 0, 1) := by decide +kernel
theorem dX7_reset_57 : decode cX7_reset 57 = .ok (.putfield 67, 3) := by decide +kernel
theorem dX7_reset_60 : decode cX7_reset 60 = .ok (.aload_n 0, 1) := by decide +kernel
theorem dX7_reset_61 : decode cX7_reset 61 = .ok (.iconst 1, 1) := by decide +kernel
theorem dX7_reset_62 : decode cX7_reset 62 = .ok (.putfield 70, 3) := by decide +kernel
theorem dX7_reset_65 : decode cX7_reset 65 = .ok (.aload_n 0, 1) := by decide +kernel
theorem dX7_reset_66 : decode cX7_reset 66 = .ok (.iconst 1, 1) := by decide +kernel
theorem dX7_reset_67 : decode cX7_reset 67 = .ok (.putfield 73, 3) := by decide +kernel
theorem dX7_reset_70 : decode cX7_reset 70 = .ok (.aload_n 0, 1) := by decide +kernel
theorem dX7_reset_71 : decode cX7_reset 71 = .ok (.iconst 0, 1) := by decide +kernel
theorem dX7_reset_72 : decode cX7_reset 72 = .ok (.putfield 32, 3) := by decide +kernel
theorem dX7_reset_75 : decode cX7_reset 75 = .ok (.return_, 1) := by decide +kernel
theorem dX7_resize_0 : decode cX7_resize 0 = .ok (.iload_n 1, 1) := by decide +kernel
theorem dX7_resize_1 : decode cX7_resize 1 = .ok (.aload_n 0, 1) := by decide +kernel
theorem dX7_resize_2 : decode cX7_resize 2 = .ok (.getfield 76, 3) := by decide +kernel
theorem dX7_resize_5 : decode cX7_resize 5 = .ok (.if_icmp .ne 12, 3) := by decide +kernel
theorem dX7_resize_8 : decode cX7_resize 8 = .ok (.iload_n 2, 1) := by decide +kernel
theorem dX7_resize_9 : decode cX7_resize 9 = .ok (.aload_n 0, 1) := by decide +kernel
theorem dX7_resize_10 : decode cX7_resize 10 = .ok (.getfield 61, 3) := by decide +kernel
theorem dX7_resize_13 : decode cX7_resize 13 = .ok (.if_icmp .ne 4, 3) := by decide +kernel
theorem dX7_resize_16 : decode cX7_resize 16 = .ok (.return_, 1) := by decide +kernel
theorem dX7_resize_17 : decode cX7_resize 17 = .ok (.aload_n 0, 1) := by decide +kernel
theorem dX7_resize_18 : decode cX7_resize 18 = .ok (.iload_n 1, 1) := by decide +kernel
theorem dX7_resize_19 : decode cX7_resize 19 = .ok (.putfield 76, 3) := by decide +kernel
theorem dX7_resize_22 : decode cX7_resize 22 = .ok (.aload_n 0, 1) := by decide +kernel
theorem dX7_resize_23 : decode cX7_resize 23 = .ok (.iload_n 2, 1) := by decide +kernel
theorem dX7_resize_24 : decode cX7_resize 24 = .ok (.putfield 61, 3) := by decide +kernel
theorem dX7_resize_27 : decode cX7_resize 27 = .ok (.aload_n 0, 1) := by decide +kernel
theorem dX7_resize_28 : decode cX7_resize 28 = .ok (.getfield 14, 3) := by decide +kernel
theorem dX7_resize_31 : decode cX7_resize 31 = .ok (.aload_n 0, 1) := by decide +kernel
theorem dX7_resize_32 : decode cX7_resize 32 = .ok (.getfield 76, 3) := by decide +kernel
theorem dX7_resize_35 : decode cX7_resize 35 = .ok (.aload_n 0, 1) := by decide +kernel
theorem dX7_resize_36 : decode cX7_resize 36 = .ok (.getfield 61, 3) := by decide +kernel
theorem dX7_resize_39 : decode cX7_resize 39 = .ok (.invokevirtual 36, 3) := by decide +kernel
theorem dX7_resize_42 : decode cX7_resize 42 = .ok (.aload_n 0, 1) := by decide +kernel
theorem dX7_resize_43 : decode cX7_resize 43 = .ok (.getfield 20, 3) := by decide +kernel
theorem dX7_resize_46 : decode cX7_resize 46 = .ok (.aload_n 0, 1) := by decide +kernel
theorem dX7_resize_47 : decode cX7_resize 47 = .ok (.getfield 76, 3) := by decide +kernel
theorem dX7_resize_50 : decode cX7_resize 50 = .ok (.aload_n 0, 1) := by decide +kernel
theorem dX7_resize_51 : decode cX7_resize 51 = .ok (.getfield 61, 3) := by decide +kernel
theorem dX7_resize_54 : decode cX7_resize 54 = .ok (.invokevirtual 36, 3) := by decide +kernel
theorem dX7_resize_57 : decode cX7_resize 57 = .ok (.aload_n 0, 1) := by decide +kernel
theorem dX7_resize_58 : decode cX7_resize 58 = .ok (.aload_n 0, 1) := by decide +kernel
theorem dX7_resize_59 : decode cX7_resize 59 = .ok (.getfield 42, 3) := by decide +kernel
theorem dX7_resize_62 : decode cX7_resize 62 = .ok (.aload_n 0, 1) := by decide +kernel
theorem dX7_resize_63 : decode cX7_resize 63 = .ok (.getfield 46, 3) := by decide +kernel
theorem dX7_resize_66 : decode cX7_resize 66 = .ok (.invokevirtual 79, 3) := by decide +kernel
theorem dX7_resize_69 : decode cX7_resize 69 = .ok (.aload_n 0, 1) := by decide +kernel
theorem dX7_resize_70 : decode cX7_resize 70 = .ok (.aload_n 0, 1) := by decide +kernel
theorem dX7_resize_71 : decode cX7_resize 71 = .ok (.getfield 82, 3) := by decide +kernel
theorem dX7_resize_74 : decode cX7_resize 74 = .ok (.iconst 0, 1) := by decide +kernel
theorem dX7_resize_75 : decode cX7_resize 75 = .ok (.aload_n 0, 1) := by decide +kernel
theorem dX7_resize_76 : decode cX7_resize 76 = .ok (.getfield 76, 3) := by decide +kernel
theorem dX7_resize_79 : decode cX7_resize 79 = .ok (.iconst 1, 1) := by decide +kernel
theorem dX7_resize_80 : decode cX7_resize 80 = .ok (.isub, 1) := by decide +kernel
theorem dX7_resize_81 : decode cX7_resize 81 = .ok (.invokestatic 85, 3) := by decide +kernel
theorem dX7_resize_84 : decode cX7_resize 84 = .ok (.putfield 82, 3) := by decide +kernel
theorem dX7_resize_87 : decode cX7_resize 87 = .ok (.aload_n 0, 1) := by decide +kernel
theorem dX7_resize_88 : decode cX7_resize 88 = .ok (.aload_n 0, 1) := by decide +kernel
theorem dX7_resize_89 : decode cX7_resize 89 = .ok (.getfield 89, 3) := by decide +kernel
theorem dX7_resize_92 : decode cX7_resize 92 = .ok (.iconst 0, 1) := by decide +kernel
theorem dX7_resize_93 : decode cX7_resize 93 = .ok (.aload_n 0, 1) := by decide +kernel
theorem dX7_resize_94 : decode cX7_resize 94 = .ok (.getfield 61, 3) := by decide +kernel
theorem dX7_resize_97 : decode cX7_resize 97 = .ok (.iconst 1, 1) := by decide +kernel
theorem dX7_resize_98 : decode cX7_resize 98 = .ok (.isub, 1) := by decide +kernel
theorem dX7_resize_99 : decode cX7_resize 99 = .ok (.invokestatic 85, 3) := by decide +kernel
theorem dX7_resize_102 : decode cX7_resize 102 = .ok (.putfield 89, 3) := by decide +kernel
theorem dX7_resize_105 : decode cX7_resize 105 = .ok (.aload_n 0, 1) := by decide +kernel
theorem dX7_resize_106 : decode cX7_resize 106 = .ok (.iconst 0, 1) := by decide +kernel
theorem dX7_resize_107 : decode cX7_resize 107 = .ok (.putfield 58, 3) := by decide +kernel
theorem dX7_resize_110 : decode cX7_resize 110 = .ok (.aload_n 0, 1) := by decide +kernel
theorem dX7_resize_111 : decode cX7_resize 111 = .ok (.aload_n 0, 1) := by decide +kernel
theorem dX7_resize_112 : decode cX7_resize 112 = .ok (.getfield 61, 3) := by decide +kernel
theorem dX7_resize_115 : decode cX7_resize 115 = .ok (.iconst 1, 1) := by decide +kernel
theorem dX7_resize_116 : decode cX7_resize 116 = .ok (.isub, 1) := by decide +kernel
theorem dX7_resize_117 : decode cX7_resize 117 = .ok (.putfield 64, 3) := by decide +kernel
theorem dX7_resize_120 : decode cX7_resize 120 = .ok (.return_, 1) := by decide +kernel
theorem dX7_write_0 : decode cX7_write 0 = .ok (.aload_n 0, 1) := by decide +kernel
theorem dX7_write_1 : decode cX7_write 1 = .ok (.getfield 49, 3) := by decide +kernel
theorem dX7_write_4 : decode cX7_write 4 = .ok (.ifCond .eq 12, 3) := by decide +kernel
theorem dX7_write_7 : decode cX7_write 7 = .ok (.aload_n 0, 1) := by decide +kernel
theorem dX7_write_8 : decode cX7_write 8 = .ok (.iconst 0, 1) := by decide +kernel
theorem dX7_write_9 : decode cX7_write 9 = .ok (.putfield 42, 3) := by decide +kernel
theorem dX7_write_12 : decode cX7_write 12 = .ok (.aload_n 0, 1) := by decide +kernel
theorem dX7_write_13 : decode cX7_write 13 = .ok (.invokevirtual 92, 3) := by decide +kernel
theorem dX7_write_16 : decode cX7_write 16 = .ok (.aload_n 0, 1) := by decide +kernel
theorem dX7_write_17 : decode cX7_write 17 = .ok (.getfield 67, 3) := by decide +kernel
theorem dX7_write_20 : decode cX7_write 20 = .ok (.ifCond .eq 35, 3) := by decide +kernel
theorem dX7_write_23 : decode cX7_write 23 = .ok (.aload_n 0, 1) := by decide +kernel
theorem dX7_write_24 : decode cX7_write 24 = .ok (.invokevirtual 95, 3) := by decide +kernel
theorem dX7_write_27 : decode cX7_write 27 = .ok (.aload_n 0, 1) := by decide +kernel
theorem dX7_write_28 : decode cX7_write 28 = .ok (.getfield 46, 3) := by decide +kernel
theorem dX7_write_31 : decode cX7_write 31 = .ok (.aload_n 0, 1) := by decide +kernel
theorem dX7_write_32 : decode cX7_write 32 = .ok (.getfield 42, 3) := by decide +kernel
theorem dX7_write_35 : decode cX7_write 35 = .ok (.aload_n 0, 1) := by decide +kernel
theorem dX7_write_36 : decode cX7_write 36 = .ok (.getfield 42, 3) := by decide +kernel
theorem dX7_write_39 : decode cX7_write 39 = .ok (.iconst 1, 1) := by decide +kernel
theorem dX7_write_40 : decode cX7_write 40 = .ok (.iadd, 1) := by decide +kernel
theorem dX7_write_41 : decode cX7_write 41 = .ok (.aload_n 0, 1) := by decide +kernel
theorem dX7_write_42 : decode cX7_write 42 = .ok (.getfield 76, 3) := by decide +kernel
theorem dX7_write_45 : decode cX7_write 45 = .ok (.iconst 1, 1) := by decide +kernel
theorem dX7_write_46 : decode cX7_write 46 = .ok (.isub, 1) := by decide +kernel
theorem dX7_write_47 : decode cX7_write 47 = .ok (.aload_n 0, 1) := by decide +kernel
theorem dX7_write_48 : decode cX7_write 48 = .ok (.getfield 42, 3) := by decide +kernel
theorem dX7_write_51 : decode cX7_write 51 = .ok (.isub, 1) := by decide +kernel
theorem dX7_write_52 : decode cX7_write 52 = .ok (.invokevirtual 99, 3) := by decide +kernel
theorem dX7_write_55 : decode cX7_write 55 = .ok (.aload_n 0, 1) := by decide +kernel
theorem dX7_write_56 : decode cX7_write 56 = .ok (.invokevirtual 95, 3) := by decide +kernel
theorem dX7_write_59 : decode cX7_write 59 = .ok (.aload_n 0, 1) := by decide +kernel
theorem dX7_write_60 : decode cX7_write 60 = .ok (.getfield 42, 3) := by decide +kernel
theorem dX7_write_63 : decode cX7_write 63 = .ok (.aload_n 0, 1) := by decide +kernel
theorem dX7_write_64 : decode cX7_write 64 = .ok (.getfield 46, 3) := by decide +kernel
theorem dX7_write_67 : decode cX7_write 67 = .ok (.aload_n 0, 1) := by decide +kernel
theorem dX7_write_68 : decode cX7_write 68 = .ok (.getfield 52, 3) := by decide +kernel
theorem dX7_write_71 : decode cX7_write 71 = .ok (.sipush 128, 3) := by decide +kernel
theorem dX7_write_74 : decode cX7_write 74 = .ok (.imul, 1) := by decide +kernel
theorem dX7_write_75 : decode cX7_write 75 = .ok (.iload_n 1, 1) := by decide +kernel
theorem dX7_write_76 : decode cX7_write 76 = .ok (.iadd, 1) := by decide +kernel
theorem dX7_write_77 : decode cX7_write 77 = .ok (.invokevirtual 103, 3) := by decide +kernel
theorem dX7_write_80 : decode cX7_write 80 = .ok (.aload_n 0, 1) := by decide +kernel
theorem dX7_write_81 : decode cX7_write 81 = .ok (.getfield 42, 3) := by decide +kernel
theorem dX7_write_84 : decode cX7_write 84 = .ok (.aload_n 0, 1) := by decide +kernel
theorem dX7_write_85 : decode cX7_write 85 = .ok (.getfield 76, 3) := by decide +kernel
theorem dX7_write_88 : decode cX7_write 88 = .ok (.iconst 1, 1) := by decide +kernel
theorem dX7_write_89 : decode cX7_write 89 = .ok (.isub, 1) := by decide +kernel
theorem dX7_write_90 : decode cX7_write 90 = .ok (.if_icmp .ge 16, 3) := by decide +kernel
theorem dX7_write_93 : decode cX7_write 93 = .ok (.aload_n 0, 1) := by decide +kernel
theorem dX7_write_94 : decode cX7_write 94 = .ok (.dup, 1) := by decide +kernel
theorem dX7_write_95 : decode cX7_write 95 = .ok (.getfield 42, 3) := by decide +kernel
theorem dX7_write_98 : decode cX7_write 98 = .ok (.iconst 1, 1) := by decide +kernel
theorem dX7_write_99 : decode cX7_write 99 = .ok (.iadd, 1) := by decide +kernel
theorem dX7_write_100 : decode cX7_write 100 = .ok (.putfield 42, 3) := by decide +kernel
theorem dX7_write_103 : decode cX7_write 103 = .ok (.goto 11, 3) := by decide +kernel
theorem dX7_write_106 : decode cX7_write 106 = .ok (.aload_n 0, 1) := by decide +kernel
theorem dX7_write_107 : decode cX7_write 107 = .ok (.aload_n 0, 1) := by decide +kernel
theorem dX7_write_108 : decode cX7_write 108 = .ok (.getfield 70, 3) := by decide +kernel
theorem dX7_write_111 : decode cX7_write 111 = .ok (.putfield 49, 3) := by decide +kernel
theorem dX7_write_114 : decode cX7_write 114 = .ok (.return_, 1) := by decide +kernel
theorem dX7_moveTo_0 : decode cX7_moveTo 0 = .ok (.aload_n 0, 1) := by decide +kernel
theorem dX7_moveTo_1 : decode cX7_moveTo 1 = .ok (.iload_n 1, 1) := by decide +kernel
theorem dX7_moveTo_2 : decode cX7_moveTo 2 = .ok (.iconst 0, 1) := by decide +kernel
theorem dX7_moveTo_3 : decode cX7_moveTo 3 = .ok (.aload_n 0, 1) := by decide +kernel
theorem dX7_moveTo_4 : decode cX7_moveTo 4 = .ok (.getfield 76, 3) := by decide +kernel
theorem dX7_moveTo_7 : decode cX7_moveTo 7 = .ok (.iconst 1, 1) := by decide +kernel
theorem dX7_moveTo_8 : decode cX7_moveTo 8 = .ok (.isub, 1) := by decide +kernel
theorem dX7_moveTo_9 : decode cX7_moveTo 9 = .ok (.invokestatic 85, 3) := by decide +kernel
theorem dX7_moveTo_12 : decode cX7_moveTo 12 = .ok (.putfield 42, 3) := by decide +kernel
theorem dX7_moveTo_15 : decode cX7_moveTo 15 = .ok (.aload_n 0, 1) := by decide +kernel
theorem dX7_moveTo_16 : decode cX7_moveTo 16 = .ok (.iload_n 2, 1) := by decide +kernel
theorem dX7_moveTo_17 : decode cX7_moveTo 17 = .ok (.iconst 0, 1) := by decide +kernel
theorem dX7_moveTo_18 : decode cX7_moveTo 18 = .ok (.aload_n 0, 1) := by decide +kernel
theorem dX7_moveTo_19 : decode cX7_moveTo 19 = .ok (.getfield 61, 3) := by decide +kernel
theorem dX7_moveTo_22 : decode cX7_moveTo 22 = .ok (.iconst 1, 1) := by decide +kernel
theorem dX7_moveTo_23 : decode cX7_moveTo 23 = .ok (.isub, 1) := by decide +kernel
theorem dX7_moveTo_24 : decode cX7_moveTo 24 = .ok (.invokestatic 85, 3) := by decide +kernel
theorem dX7_moveTo_27 : decode cX7_moveTo 27 = .ok (.putfield 46, 3) := by decide +kernel
theorem dX7_moveTo_30 : decode cX7_moveTo 30 = .ok (.aload_n 0, 1) := by decide +kernel
theorem dX7_moveTo_31 : decode cX7_moveTo 31 = .ok (.iconst 0, 1) := by decide +kernel
theorem dX7_moveTo_32 : decode cX7_moveTo 32 = .ok (.putfield 49, 3) := by decide +kernel
theorem dX7_moveTo_35 : decode cX7_moveTo 35 = .ok (.return_, 1) := by decide +kernel
theorem dX7_goToTab_0 : decode cX7_goToTab 0 = .ok (.aload_n 0, 1) := by decide +kernel
theorem dX7_goToTab_1 : decode cX7_goToTab 1 = .ok (.aload_n 0, 1) := by decide +kernel
theorem dX7_goToTab_2 : decode cX7_goToTab 2 = .ok (.getfield 42, 3) := by decide +kernel
theorem dX7_goToTab_5 : decode cX7_goToTab 5 = .ok (.bipush 8, 2) := by decide +kernel
theorem dX7_goToTab_7 : decode cX7_goToTab 7 = .ok (.idiv, 1) := by decide +kernel
theorem dX7_goToTab_8 : decode cX7_goToTab 8 = .ok (.iconst 1, 1) := by decide +kernel
theorem dX7_goToTab_9 : decode cX7_goToTab 9 = .ok (.iadd, 1) := by decide +kernel
theorem dX7_goToTab_10 : decode cX7_goToTab 10 = .ok (.bipush 8, 2) := by decide +kernel
theorem dX7_goToTab_12 : decode cX7_goToTab 12 = .ok (.imul, 1) := by decide +kernel
theorem dX7_goToTab_13 : decode cX7_goToTab 13 = .ok (.aload_n 0, 1) := by decide +kernel
theorem dX7_goToTab_14 : decode cX7_goToTab 14 = .ok (.getfield 46, 3) := by decide +kernel
theorem dX7_goToTab_17 : decode cX7_goToTab 17 = .ok (.invokevirtual 79, 3) := by decide +kernel
theorem dX7_goToTab_20 : decode cX7_goToTab 20 = .ok (.return_, 1) := by decide +kernel
theorem dX7_goDown_0 : decode cX7_goDown 0 = .ok (.aload_n 0, 1) := by decide +kernel
theorem dX7_goDown_1 : decode cX7_goDown 1 = .ok (.getfield 46, 3) := by decide +kernel
theorem dX7_goDown_4 : decode cX7_goDown 4 = .ok (.aload_n 0, 1) := by decide +kernel
theorem dX7_goDown_5 : decode cX7_goDown 5 = .ok (.getfield 64, 3) := by decide +kernel
theorem dX7_goDown_8 : decode cX7_goDown 8 = .ok (.if_icmp .ne 11, 3) := by decide +kernel
theorem dX7_goDown_11 : decode cX7_goDown 11 = .ok (.aload_n 0, 1) := by decide +kernel
theorem dX7_goDown_12 : decode cX7_goDown 12 = .ok (.iconst 1, 1) := by decide +kernel
theorem dX7_goDown_13 : decode cX7_goDown 13 = .ok (.invokevirtual 107, 3) := by decide +kernel
theorem dX7_goDown_16 : decode cX7_goDown 16 = .ok (.goto 17, 3) := by decide +kernel
theorem dX7_goDown_19 : decode cX7_goDown 19 = .ok (.aload_n 0, 1) := by decide +kernel
theorem dX7_goDown_20 : decode cX7_goDown 20 = .ok (.aload_n 0, 1) := by decide +kernel
theorem dX7_goDown_21 : decode cX7_goDown 21 = .ok (.getfield 42, 3) := by decide +kernel
theorem dX7_goDown_24 : decode cX7_goDown 24 = .ok (.aload_n 0, 1) := by decide +kernel
theorem dX7_goDown_25 : decode cX7_goDown 25 = .ok (.getfield 46, 3) := by decide +kernel
theorem dX7_goDown_28 : decode cX7_goDown 28 = .ok (.iconst 1, 1) := by decide +kernel
theorem dX7_goDown_29 : decode cX7_goDown 29 = .ok (.iadd, 1) := by decide +kernel
theorem dX7_goDown_30 : decode cX7_goDown 30 = .ok (.invokevirtual 79, 3) := by decide +kernel
theorem dX7_goDown_33 : decode cX7_goDown 33 = .ok (.return_, 1) := by decide +kernel
theorem dX7_goUp_0 : decode cX7_goUp 0 = .ok (.aload_n 0, 1) := by decide +kernel
theorem dX7_goUp_1 : decode cX7_goUp 1 = .ok (.getfield 46, 3) := by decide +kernel
theorem dX7_goUp_4 : decode cX7_goUp 4 = .ok (.aload_n 0, 1) := by decide +kernel
theorem dX7_goUp_5 : decode cX7_goUp 5 = .ok (.getfield 58, 3) := by decide +kernel
theorem dX7_goUp_8 : decode cX7_goUp 8 = .ok (.if_icmp .ne 11, 3) := by decide +kernel
theorem dX7_goUp_11 : decode cX7_goUp 11 = .ok (.aload_n 0, 1) := by decide +kernel
theorem dX7_goUp_12 : decode cX7_goUp 12 = .ok (.iconst 1, 1) := by decide +kernel
theorem dX7_goUp_13 : decode cX7_goUp 13 = .ok (.invokevirtual 110, 3) := by decide +kernel
theorem dX7_goUp_16 : decode cX7_goUp 16 = .ok (.goto 17, 3) := by decide +kernel
theorem dX7_goUp_19 : decode cX7_goUp 19 = .ok (.aload_n 0, 1) := by decide +kernel
theorem dX7_goUp_20 : decode cX7_goUp 20 = .ok (.aload_n 0, 1) := by decide +kernel
theorem dX7_goUp_21 : decode cX7_goUp 21 = .ok (.getfield 42, 3) := by decide +kernel
theorem dX7_goUp_24 : decode cX7_goUp 24 = .ok (.aload_n 0, 1) := by decide +kernel
theorem dX7_goUp_25 : decode cX7_goUp 25 = .ok (.getfield 46, 3) := by decide +kernel
theorem dX7_goUp_28 : decode cX7_goUp 28 = .ok (.iconst 1, 1) := by decide +kernel
theorem dX7_goUp_29 : decode cX7_goUp 29 = .ok (.isub, 1) := by decide +kernel
theorem dX7_goUp_30 : decode cX7_goUp 30 = .ok (.invokevirtual 79, 3) := by decide +kernel
theorem dX7_goUp_33 : decode cX7_goUp 33 = .ok (.return_, 1) := by decide +kernel
theorem dX7_savePlace_0 : decode cX7_savePlace 0 = .ok (.aload_n 0, 1) := by decide +kernel
theorem dX7_savePlace_1 : decode cX7_savePlace 1 = .ok (.aload_n 0, 1) := by decide +kernel
theorem dX7_savePlace_2 : decode cX7_savePlace 2 = .ok (.getfield 42, 3) := by decide +kernel
theorem dX7_savePlace_5 : decode cX7_savePlace 5 = .ok (.putfield 82, 3) := by decide +kernel
theorem dX7_savePlace_8 : decode cX7_savePlace 8 = .ok (.aload_n 0, 1) := by decide +kernel
theorem dX7_savePlace_9 : decode cX7_savePlace 9 = .ok (.aload_n 0, 1) := by decide +kernel
theorem dX7_savePlace_10 : decode cX7_savePlace 10 = .ok (.getfield 46, 3) := by decide +kernel
theorem dX7_savePlace_13 : decode cX7_savePlace 13 = .ok (.putfield 89, 3) := by decide +kernel
theorem dX7_savePlace_16 : decode cX7_savePlace 16 = .ok (.aload_n 0, 1) := by decide +kernel
theorem dX7_savePlace_17 : decode cX7_savePlace 17 = .ok (.aload_n 0, 1) := by decide +kernel
theorem dX7_savePlace_18 : decode cX7_savePlace 18 = .ok (.getfield 52, 3) := by decide +kernel
theorem dX7_savePlace_21 : decode cX7_savePlace 21 = .ok (.putfield 113, 3) := by decide +kernel
theorem dX7_savePlace_24 : decode cX7_savePlace 24 = .ok (.return_, 1) := by decide +kernel
theorem dX7_takePlace_0 : decode cX7_takePlace 0 = .ok (.aload_n 0, 1) := by decide +kernel
theorem dX7_takePlace_1 : decode cX7_takePlace 1 = .ok (.aload_n 0, 1) := by decide +kernel
theorem dX7_takePlace_2 : decode cX7_takePlace 2 = .ok (.getfield 82, 3) := by decide +kernel
theorem dX7_takePlace_5 : decode cX7_takePlace 5 = .ok (.aload_n 0, 1) := by decide +kernel
theorem dX7_takePlace_6 : decode cX7_takePlace 6 = .ok (.getfield 89, 3) := by decide +kernel
theorem dX7_takePlace_9 : decode cX7_takePlace 9 = .ok (.invokevirtual 79, 3) := by decide +kernel
theorem dX7_takePlace_12 : decode cX7_takePlace 12 = .ok (.aload_n 0, 1) := by decide +kernel
theorem dX7_takePlace_13 : decode cX7_takePlace 13 = .ok (.aload_n 0, 1) := by decide +kernel
theorem dX7_takePlace_14 : decode cX7_takePlace 14 = .ok (.getfield 113, 3) := by decide +kernel
theorem dX7_takePlace_17 : decode cX7_takePlace 17 = .ok (.putfield 52, 3) := by decide +kernel
theorem dX7_takePlace_20 : decode cX7_takePlace 20 = .ok (.return_, 1) := by decide +kernel
theorem dX7_scrollUp_0 : decode cX7_scrollUp 0 = .ok (.aload_n 0, 1) := by decide +kernel
theorem dX7_scrollUp_1 : decode cX7_scrollUp 1 = .ok (.iconst 0, 1) := by decide +kernel
theorem dX7_scrollUp_2 : decode cX7_scrollUp 2 = .ok (.putfield 49, 3) := by decide +kernel
theorem dX7_scrollUp_5 : decode cX7_scrollUp 5 = .ok (.aload_n 0, 1) := by decide +kernel
theorem dX7_scrollUp_6 : decode cX7_scrollUp 6 = .ok (.getfield 58, 3) := by decide +kernel
theorem dX7_scrollUp_9 : decode cX7_scrollUp 9 = .ok (.ifCond .ne 50, 3) := by decide +kernel
theorem dX7_scrollUp_12 : decode cX7_scrollUp 12 = .ok (.aload_n 0, 1) := by decide +kernel
theorem dX7_scrollUp_13 : decode cX7_scrollUp 13 = .ok (.getfield 32, 3) := by decide +kernel
theorem dX7_scrollUp_16 : decode cX7_scrollUp 16 = .ok (.ifCond .ne 43, 3) := by decide +kernel
theorem dX7_scrollUp_19 : decode cX7_scrollUp 19 = .ok (.iload_n 1, 1) := by decide +kernel
theorem dX7_scrollUp_20 : decode cX7_scrollUp 20 = .ok (.aload_n 0, 1) := by decide +kernel
theorem dX7_scrollUp_21 : decode cX7_scrollUp 21 = .ok (.getfield 64, 3) := by decide +kernel
theorem dX7_scrollUp_24 : decode cX7_scrollUp 24 = .ok (.iconst 1, 1) := by decide +kernel
theorem dX7_scrollUp_25 : decode cX7_scrollUp 25 = .ok (.iadd, 1) := by decide +kernel
theorem dX7_scrollUp_26 : decode cX7_scrollUp 26 = .ok (.invokestatic 116, 3) := by decide +kernel
theorem dX7_scrollUp_29 : decode cX7_scrollUp 29 = .ok (.istore_n 2, 1) := by decide +kernel
theorem dX7_scrollUp_30 : decode cX7_scrollUp 30 = .ok (.iconst 0, 1) := by decide +kernel
theorem dX7_scrollUp_31 : decode cX7_scrollUp 31 = .ok (.istore_n 3, 1) := by decide +kernel
theorem dX7_scrollUp_32 : decode cX7_scrollUp 32 = .ok (.iload_n 3, 1) := by decide +kernel
theorem dX7_scrollUp_33 : decode cX7_scrollUp 33 = .ok (.iload_n 2, 1) := by decide +kernel
theorem dX7_scrollUp_34 : decode cX7_scrollUp 34 = .ok (.if_icmp .ge 25, 3) := by decide +kernel
theorem dX7_scrollUp_37 : decode cX7_scrollUp 37 = .ok (.aload_n 0, 1) := by decide +kernel
theorem dX7_scrollUp_38 : decode cX7_scrollUp 38 = .ok (.getfield 28, 3) := by decide +kernel
theorem dX7_scrollUp_41 : decode cX7_scrollUp 41 = .ok (.aload_n 0, 1) := by decide +kernel
theorem dX7_scrollUp_42 : decode cX7_scrollUp 42 = .ok (.getfield 14, 3) := by decide +kernel
theorem dX7_scrollUp_45 : decode cX7_scrollUp 45 = .ok (.iload_n 3, 1) := by decide +kernel
theorem dX7_scrollUp_46 : decode cX7_scrollUp 46 = .ok (.aload_n 0, 1) := by decide +kernel
theorem dX7_scrollUp_47 : decode cX7_scrollUp 47 = .ok (.getfield 76, 3) := by decide +kernel
theorem dX7_scrollUp_50 : decode cX7_scrollUp 50 = .ok (.invokevirtual 122, 3) := by decide +kernel
theorem dX7_scrollUp_53 : decode cX7_scrollUp 53 = .ok (.iinc 3 1, 3) := by decide +kernel
theorem dX7_scrollUp_56 : decode cX7_scrollUp 56 = .ok (.goto (-24), 3) := by decide +kernel
theorem dX7_scrollUp_59 : decode cX7_scrollUp 59 = .ok (.aload_n 0, 1) := by decide +kernel
theorem dX7_scrollUp_60 : decode cX7_scrollUp 60 = .ok (.aload_n 0, 1) := by decide +kernel
theorem dX7_scrollUp_61 : decode cX7_scrollUp 61 = .ok (.getfield 58, 3) := by decide +kernel
theorem dX7_scrollUp_64 : decode cX7_scrollUp 64 = .ok (.iload_n 1, 1) := by decide +kernel
theorem dX7_scrollUp_65 : decode cX7_scrollUp 65 = .ok (.invokevirtual 126, 3) := by decide +kernel
theorem dX7_scrollUp_68 : decode cX7_scrollUp 68 = .ok (.return_, 1) := by decide +kernel
theorem dX7_scrollDown_0 : decode cX7_scrollDown 0 = .ok (.aload_n 0, 1) := by decide +kernel
theorem dX7_scrollDown_1 : decode cX7_scrollDown 1 = .ok (.iconst 0, 1) := by decide +kernel
theorem dX7_scrollDown_2 : decode cX7_scrollDown 2 = .ok (.putfield 49, 3) := by decide +kernel
theorem dX7_scrollDown_5 : decode cX7_scrollDown 5 = .ok (.aload_n 0, 1) := by decide +kernel
theorem dX7_scrollDown_6 : decode cX7_scrollDown 6 = .ok (.aload_n 0, 1) := by decide +kernel
theorem dX7_scrollDown_7 : decode cX7_scrollDown 7 = .ok (.getfield 58, 3) := by decide +kernel
theorem dX7_scrollDown_10 : decode cX7_scrollDown 10 = .ok (.iload_n 1, 1) := by decide +kernel
theorem dX7_scrollDown_11 : decode cX7_scrollDown 11 = .ok (.invokevirtual 129, 3) := by decide +kernel
theorem dX7_scrollDown_14 : decode cX7_scrollDown 14 = .ok (.return_, 1) := by decide +kernel
theorem dX7_insertRows_0 : decode cX7_insertRows 0 = .ok (.aload_n 0, 1) := by decide +kernel
theorem dX7_insertRows_1 : decode cX7_insertRows 1 = .ok (.iconst 0, 1) := by decide +kernel
theorem dX7_insertRows_2 : decode cX7_insertRows 2 = .ok (.putfield 49, 3) := by decide +kernel
theorem dX7_insertRows_5 : decode cX7_insertRows 5 = .ok (.aload_n 0, 1) := by decide +kernel
theorem dX7_insertRows_6 : decode cX7_insertRows 6 = .ok (.getfield 46, 3) := by decide +kernel
theorem dX7_insertRows_9 : decode cX7_insertRows 9 = .ok (.aload_n 0, 1) := by decide +kernel
theorem dX7_insertRows_10 : decode cX7_insertRows 10 = .ok (.getfield 58, 3) := by decide +kernel
theorem dX7_insertRows_13 : decode cX7_insertRows 13 = .ok (.if_icmp .lt 28, 3) := by decide +kernel
theorem dX7_insertRows_16 : decode cX7_insertRows 16 = .ok (.aload_n 0, 1) := by decide +kernel
theorem dX7_insertRows_17 : decode cX7_insertRows 17 = .ok (.getfield 46, 3) := by decide +kernel
theorem dX7_insertRows_20 : decode cX7_insertRows 20 = .ok (.aload_n 0, 1) := by decide +kernel
theorem dX7_insertRows_21 : decode cX7_insertRows 21 = .ok (.getfield 64, 3) := by decide +kernel
theorem dX7_insertRows_24 : decode cX7_insertRows 24 = .ok (.if_icmp .gt 17, 3) := by decide +kernel
theorem dX7_insertRows_27 : decode cX7_insertRows 27 = .ok (.aload_n 0, 1) := by decide +kernel
theorem dX7_insertRows_28 : decode cX7_insertRows 28 = .ok (.aload_n 0, 1) := by decide +kernel
theorem dX7_insertRows_29 : decode cX7_insertRows 29 = .ok (.getfield 46, 3) := by decide +kernel
theorem dX7_insertRows_32 : decode cX7_insertRows 32 = .ok (.iload_n 1, 1) := by decide +kernel
theorem dX7_insertRows_33 : decode cX7_insertRows 33 = .ok (.invokevirtual 129, 3) := by decide +kernel
theorem dX7_insertRows_36 : decode cX7_insertRows 36 = .ok (.aload_n 0, 1) := by decide +kernel
theorem dX7_insertRows_37 : decode cX7_insertRows 37 = .ok (.iconst 0, 1) := by decide +kernel
theorem dX7_insertRows_38 : decode cX7_insertRows 38 = .ok (.putfield 42, 3) := by decide +kernel
theorem dX7_insertRows_41 : decode cX7_insertRows 41 = .ok (.return_, 1) := by decide +kernel
theorem dX7_deleteRows_0 : decode cX7_deleteRows 0 = .ok (.aload_n 0, 1) := by decide +kernel
theorem dX7_deleteRows_1 : decode cX7_deleteRows 1 = .ok (.iconst 0, 1) := by decide +kernel
theorem dX7_deleteRows_2 : decode cX7_deleteRows 2 = .ok (.putfield 49, 3) := by decide +kernel
theorem dX7_deleteRows_5 : decode cX7_deleteRows 5 = .ok (.aload_n 0, 1) := by decide +kernel
theorem dX7_deleteRows_6 : decode cX7_deleteRows 6 = .ok (.getfield 46, 3) := by decide +kernel
theorem dX7_deleteRows_9 : decode cX7_deleteRows 9 = .ok (.aload_n 0, 1) := by decide +kernel
theorem dX7_deleteRows_10 : decode cX7_deleteRows 10 = .ok (.getfield 58, 3) := by decide +kernel
theorem dX7_deleteRows_13 : decode cX7_deleteRows 13 = .ok (.if_icmp .lt 28, 3) := by decide +kernel
theorem dX7_deleteRows_16 : decode cX7_deleteRows 16 = .ok (.aload_n 0, 1) := by decide +kernel
theorem dX7_deleteRows_17 : decode cX7_deleteRows 17 = .ok (.getfield 46, 3) := by decide +kernel
theorem dX7_deleteRows_20 : decode cX7_deleteRows 20 = .ok (.aload_n 0, 1) := by decide +kernel
theorem dX7_deleteRows_21 : decode cX7_deleteRows 21 = .ok (.getfield 64, 3) := by decide +kernel
theorem dX7_deleteRows_24 : decode cX7_deleteRows 24 = .ok (.if_icmp .gt 17, 3) := by decide +kernel
theorem dX7_deleteRows_27 : decode cX7_deleteRows 27 = .ok (.aload_n 0, 1) := by decide +kernel
theorem dX7_deleteRows_28 : decode cX7_deleteRows 28 = .ok (.aload_n 0, 1) := by decide +kernel
theorem dX7_deleteRows_29 : decode cX7_deleteRows 29 = .ok (.getfield 46, 3) := by decide +kernel
theorem dX7_deleteRows_32 : decode cX7_deleteRows 32 = .ok (.iload_n 1, 1) := by decide +kernel
theorem dX7_deleteRows_33 : decode cX7_deleteRows 33 = .ok (.invokevirtual 126, 3) := by decide +kernel
theorem dX7_deleteRows_36 : decode cX7_deleteRows 36 = .ok (.aload_n 0, 1) := by decide +kernel
theorem dX7_deleteRows_37 : decode cX7_deleteRows 37 = .ok (.iconst 0, 1) := by decide +kernel
theorem dX7_deleteRows_38 : decode cX7_deleteRows 38 = .ok (.putfield 42, 3) := by decide +kernel
theorem dX7_deleteRows_41 : decode cX7_deleteRows 41 = .ok (.return_, 1) := by decide +kernel
theorem dX7_raiseRows_0 : decode cX7_raiseRows 0 = .ok (.aload_n 0, 1) := by decide +kernel
theorem dX7_raiseRows_1 : decode cX7_raiseRows 1 = .ok (.invokevirtual 95, 3) := by decide +kernel
theorem dX7_raiseRows_4 : decode cX7_raiseRows 4 = .ok (.astore_n 3, 1) := by decide +kernel
theorem dX7_raiseRows_5 : decode cX7_raiseRows 5 = .ok (.iload_n 1, 1) := by decide +kernel
theorem dX7_raiseRows_6 : decode cX7_raiseRows 6 = .ok (.istore 4, 2) := by decide +kernel
theorem dX7_raiseRows_8 : decode cX7_raiseRows 8 = .ok (.iload 4, 2) := by decide +kernel
theorem dX7_raiseRows_10 : decode cX7_raiseRows 10 = .ok (.aload_n 0, 1) := by decide +kernel
theorem dX7_raiseRows_11 : decode cX7_raiseRows 11 = .ok (.getfield 64, 3) := by decide +kernel
theorem dX7_raiseRows_14 : decode cX7_raiseRows 14 = .ok (.if_icmp .gt 48, 3) := by decide +kernel
theorem dX7_raiseRows_17 : decode cX7_raiseRows 17 = .ok (.iload 4, 2) := by decide +kernel
theorem dX7_raiseRows_19 : decode cX7_raiseRows 19 = .ok (.iload_n 2, 1) := by decide +kernel
theorem dX7_raiseRows_20 : decode cX7_raiseRows 20 = .ok (.iadd, 1) := by decide +kernel
theorem dX7_raiseRows_21 : decode cX7_raiseRows 21 = .ok (.aload_n 0, 1) := by decide +kernel
theorem dX7_raiseRows_22 : decode cX7_raiseRows 22 = .ok (.getfield 64, 3) := by decide +kernel
theorem dX7_raiseRows_25 : decode cX7_raiseRows 25 = .ok (.if_icmp .gt 16, 3) := by decide +kernel
theorem dX7_raiseRows_28 : decode cX7_raiseRows 28 = .ok (.aload_n 3, 1) := by decide +kernel
theorem dX7_raiseRows_29 : decode cX7_raiseRows 29 = .ok (.iload 4, 2) := by decide +kernel
theorem dX7_raiseRows_31 : decode cX7_raiseRows 31 = .ok (.iload_n 2, 1) := by decide +kernel
theorem dX7_raiseRows_32 : decode cX7_raiseRows 32 = .ok (.iadd, 1) := by decide +kernel
theorem dX7_raiseRows_33 : decode cX7_raiseRows 33 = .ok (.iload 4, 2) := by decide +kernel
theorem dX7_raiseRows_35 : decode cX7_raiseRows 35 = .ok (.invokevirtual 132, 3) := by decide +kernel
theorem dX7_raiseRows_38 : decode cX7_raiseRows 38 = .ok (.goto 18, 3) := by decide +kernel
theorem dX7_raiseRows_41 : decode cX7_raiseRows 41 = .ok (.aload_n 3, 1) := by decide +kernel
theorem dX7_raiseRows_42 : decode cX7_raiseRows 42 = .ok (.iload 4, 2) := by decide +kernel
theorem dX7_raiseRows_44 : decode cX7_raiseRows 44 = .ok (.iconst 0, 1) := by decide +kernel
theorem dX7_raiseRows_45 : decode cX7_raiseRows 45 = .ok (.aload_n 0, 1) := by decide +kernel
theorem dX7_raiseRows_46 : decode cX7_raiseRows 46 = .ok (.getfield 76, 3) := by decide +kernel
theorem dX7_raiseRows_49 : decode cX7_raiseRows 49 = .ok (.aload_n 0, 1) := by decide +kernel
theorem dX7_raiseRows_50 : decode cX7_raiseRows 50 = .ok (.invokevirtual 135, 3) := by decide +kernel
theorem dX7_raiseRows_53 : decode cX7_raiseRows 53 = .ok (.invokevirtual 139, 3) := by decide +kernel
theorem dX7_raiseRows_56 : decode cX7_raiseRows 56 = .ok (.iinc 4 1, 3) := by decide +kernel
theorem dX7_raiseRows_59 : decode cX7_raiseRows 59 = .ok (.goto (-51), 3) := by decide +kernel
theorem dX7_raiseRows_62 : decode cX7_raiseRows 62 = .ok (.return_, 1) := by decide +kernel
theorem dX7_lowerRows_0 : decode cX7_lowerRows 0 = .ok (.aload_n 0, 1) := by decide +kernel
theorem dX7_lowerRows_1 : decode cX7_lowerRows 1 = .ok (.invokevirtual 95, 3) := by decide +kernel
theorem dX7_lowerRows_4 : decode cX7_lowerRows 4 = .ok (.astore_n 3, 1) := by decide +kernel
theorem dX7_lowerRows_5 : decode cX7_lowerRows 5 = .ok (.aload_n 0, 1) := by decide +kernel
theorem dX7_lowerRows_6 : decode cX7_lowerRows 6 = .ok (.getfield 64, 3) := by decide +kernel
theorem dX7_lowerRows_9 : decode cX7_lowerRows 9 = .ok (.istore 4, 2) := by decide +kernel
theorem dX7_lowerRows_11 : decode cX7_lowerRows 11 = .ok (.iload 4, 2) := by decide +kernel
theorem dX7_lowerRows_13 : decode cX7_lowerRows 13 = .ok (.iload_n 1, 1) := by decide +kernel
theorem dX7_lowerRows_14 : decode cX7_lowerRows 14 = .ok (.if_icmp .lt 45, 3) := by decide +kernel
theorem dX7_lowerRows_17 : decode cX7_lowerRows 17 = .ok (.iload 4, 2) := by decide +kernel
theorem dX7_lowerRows_19 : decode cX7_lowerRows 19 = .ok (.iload_n 2, 1) := by decide +kernel
theorem dX7_lowerRows_20 : decode cX7_lowerRows 20 = .ok (.isub, 1) := by decide +kernel
theorem dX7_lowerRows_21 : decode cX7_lowerRows 21 = .ok (.iload_n 1, 1) := by decide +kernel
theorem dX7_lowerRows_22 : decode cX7_lowerRows 22 = .ok (.if_icmp .lt 16, 3) := by decide +kernel
theorem dX7_lowerRows_25 : decode cX7_lowerRows 25 = .ok (.aload_n 3, 1) := by decide +kernel
theorem dX7_lowerRows_26 : decode cX7_lowerRows 26 = .ok (.iload 4, 2) := by decide +kernel
theorem dX7_lowerRows_28 : decode cX7_lowerRows 28 = .ok (.iload_n 2, 1) := by decide +kernel
theorem dX7_lowerRows_29 : decode cX7_lowerRows 29 = .ok (.isub, 1) := by decide +kernel
theorem dX7_lowerRows_30 : decode cX7_lowerRows 30 = .ok (.iload 4, 2) := by decide +kernel
theorem dX7_lowerRows_32 : decode cX7_lowerRows 32 = .ok (.invokevirtual 132, 3) := by decide +kernel
theorem dX7_lowerRows_35 : decode cX7_lowerRows 35 = .ok (.goto 18, 3) := by decide +kernel
theorem dX7_lowerRows_38 : decode cX7_lowerRows 38 = .ok (.aload_n 3, 1) := by decide +kernel
theorem dX7_lowerRows_39 : decode cX7_lowerRows 39 = .ok (.iload 4, 2) := by decide +kernel
theorem dX7_lowerRows_41 : decode cX7_lowerRows 41 = .ok (.iconst 0, 1) := by decide +kernel
theorem dX7_lowerRows_42 : decode cX7_lowerRows 42 = .ok (.aload_n 0, 1) := by decide +kernel
theorem dX7_lowerRows_43 : decode cX7_lowerRows 43 = .ok (.getfield 76, 3) := by decide +kernel
theorem dX7_lowerRows_46 : decode cX7_lowerRows 46 = .ok (.aload_n 0, 1) := by decide +kernel
theorem dX7_lowerRows_47 : decode cX7_lowerRows 47 = .ok (.invokevirtual 135, 3) := by decide +kernel
theorem dX7_lowerRows_50 : decode cX7_lowerRows 50 = .ok (.invokevirtual 139, 3) := by decide +kernel
theorem dX7_lowerRows_53 : decode cX7_lowerRows 53 = .ok (.iinc 4 (-1), 3) := by decide +kernel
theorem dX7_lowerRows_56 : decode cX7_lowerRows 56 = .ok (.goto (-45), 3) := by decide +kernel
theorem dX7_lowerRows_59 : decode cX7_lowerRows 59 = .ok (.return_, 1) := by decide +kernel
theorem dX7_insertCells_0 : decode cX7_insertCells 0 = .ok (.aload_n 0, 1) := by decide +kernel
theorem dX7_insertCells_1 : decode cX7_insertCells 1 = .ok (.iconst 0, 1) := by decide +kernel
theorem dX7_insertCells_2 : decode cX7_insertCells 2 = .ok (.putfield 49, 3) := by decide +kernel
theorem dX7_insertCells_5 : decode cX7_insertCells 5 = .ok (.iload_n 1, 1) := by decide +kernel
theorem dX7_insertCells_6 : decode cX7_insertCells 6 = .ok (.aload_n 0, 1) := by decide +kernel
theorem dX7_insertCells_7 : decode cX7_insertCells 7 = .ok (.getfield 76, 3) := by decide +kernel
theorem dX7_insertCells_10 : decode cX7_insertCells 10 = .ok (.aload_n 0, 1) := by decide +kernel
theorem dX7_insertCells_11 : decode cX7_insertCells 11 = .ok (.getfield 42, 3) := by decide +kernel
theorem dX7_insertCells_14 : decode cX7_insertCells 14 = .ok (.isub, 1) := by decide +kernel
theorem dX7_insertCells_15 : decode cX7_insertCells 15 = .ok (.invokestatic 116, 3) := by decide +kernel
theorem dX7_insertCells_18 : decode cX7_insertCells 18 = .ok (.istore_n 2, 1) := by decide +kernel
theorem dX7_insertCells_19 : decode cX7_insertCells 19 = .ok (.aload_n 0, 1) := by decide +kernel
theorem dX7_insertCells_20 : decode cX7_insertCells 20 = .ok (.invokevirtual 95, 3) := by decide +kernel
theorem dX7_insertCells_23 : decode cX7_insertCells 23 = .ok (.aload_n 0, 1) := by decide +kernel
theorem dX7_insertCells_24 : decode cX7_insertCells 24 = .ok (.getfield 46, 3) := by decide +kernel
theorem dX7_insertCells_27 : decode cX7_insertCells 27 = .ok (.aload_n 0, 1) := by decide +kernel
theorem dX7_insertCells_28 : decode cX7_insertCells 28 = .ok (.getfield 42, 3) := by decide +kernel
theorem dX7_insertCells_31 : decode cX7_insertCells 31 = .ok (.aload_n 0, 1) := by decide +kernel
theorem dX7_insertCells_32 : decode cX7_insertCells 32 = .ok (.getfield 42, 3) := by decide +kernel
theorem dX7_insertCells_35 : decode cX7_insertCells 35 = .ok (.iload_n 2, 1) := by decide +kernel
theorem dX7_insertCells_36 : decode cX7_insertCells 36 = .ok (.iadd, 1) := by decide +kernel
theorem dX7_insertCells_37 : decode cX7_insertCells 37 = .ok (.aload_n 0, 1) := by decide +kernel
theorem dX7_insertCells_38 : decode cX7_insertCells 38 = .ok (.getfield 76, 3) := by decide +kernel
theorem dX7_insertCells_41 : decode cX7_insertCells 41 = .ok (.aload_n 0, 1) := by decide +kernel
theorem dX7_insertCells_42 : decode cX7_insertCells 42 = .ok (.getfield 42, 3) := by decide +kernel
theorem dX7_insertCells_45 : decode cX7_insertCells 45 = .ok (.isub, 1) := by decide +kernel
theorem dX7_insertCells_46 : decode cX7_insertCells 46 = .ok (.iload_n 2, 1) := by decide +kernel
theorem dX7_insertCells_47 : decode cX7_insertCells 47 = .ok (.isub, 1) := by decide +kernel
theorem dX7_insertCells_48 : decode cX7_insertCells 48 = .ok (.invokevirtual 99, 3) := by decide +kernel
theorem dX7_insertCells_51 : decode cX7_insertCells 51 = .ok (.aload_n 0, 1) := by decide +kernel
theorem dX7_insertCells_52 : decode cX7_insertCells 52 = .ok (.invokevirtual 95, 3) := by decide +kernel
theorem dX7_insertCells_55 : decode cX7_insertCells 55 = .ok (.aload_n 0, 1) := by decide +kernel
theorem dX7_insertCells_56 : decode cX7_insertCells 56 = .ok (.getfield 46, 3) := by decide +kernel
theorem dX7_insertCells_59 : decode cX7_insertCells 59 = .ok (.aload_n 0, 1) := by decide +kernel
theorem dX7_insertCells_60 : decode cX7_insertCells 60 = .ok (.getfield 42, 3) := by decide +kernel
theorem dX7_insertCells_63 : decode cX7_insertCells 63 = .ok (.aload_n 0, 1) := by decide +kernel
theorem dX7_insertCells_64 : decode cX7_insertCells 64 = .ok (.getfield 42, 3) := by decide +kernel
theorem dX7_insertCells_67 : decode cX7_insertCells 67 = .ok (.iload_n 2, 1) := by decide +kernel
theorem dX7_insertCells_68 : decode cX7_insertCells 68 = .ok (.iadd, 1) := by decide +kernel
theorem dX7_insertCells_69 : decode cX7_insertCells 69 = .ok (.aload_n 0, 1) := by decide +kernel
theorem dX7_insertCells_70 : decode cX7_insertCells 70 = .ok (.invokevirtual 135, 3) := by decide +kernel
theorem dX7_insertCells_73 : decode cX7_insertCells 73 = .ok (.invokevirtual 139, 3) := by decide +kernel
theorem dX7_insertCells_76 : decode cX7_insertCells 76 = .ok (.return_, 1) := by decide +kernel
theorem dX7_deleteCells_0 : decode cX7_deleteCells 0 = .ok (.aload_n 0, 1) := by decide +kernel
theorem dX7_deleteCells_1 : decode cX7_deleteCells 1 = .ok (.iconst 0, 1) := by decide +kernel
theorem dX7_deleteCells_2 : decode cX7_deleteCells 2 = .ok (.putfield 49, 3) := by decide +kernel
theorem dX7_deleteCells_5 : decode cX7_deleteCells 5 = .ok (.iload_n 1, 1) := by decide +kernel
theorem dX7_deleteCells_6 : decode cX7_deleteCells 6 = .ok (.aload_n 0, 1) := by decide +kernel
theorem dX7_deleteCells_7 : decode cX7_deleteCells 7 = .ok (.getfield 76, 3) := by decide +kernel
theorem dX7_deleteCells_10 : decode cX7_deleteCells 10 = .ok (.aload_n 0, 1) := by decide +kernel
theorem dX7_deleteCells_11 : decode cX7_deleteCells 11 = .ok (.getfield 42, 3) := by decide +kernel
theorem dX7_deleteCells_14 : decode cX7_deleteCells 14 = .ok (.isub, 1) := by decide +kernel
theorem dX7_deleteCells_15 : decode cX7_deleteCells 15 = .ok (.invokestatic 116, 3) := by decide +kernel
theorem dX7_deleteCells_18 : decode cX7_deleteCells 18 = .ok (.istore_n 2, 1) := by decide +kernel
theorem dX7_deleteCells_19 : decode cX7_deleteCells 19 = .ok (.aload_n 0, 1) := by decide +kernel
theorem dX7_deleteCells_20 : decode cX7_deleteCells 20 = .ok (.invokevirtual 95, 3) := by decide +kernel
theorem dX7_deleteCells_23 : decode cX7_deleteCells 23 = .ok (.aload_n 0, 1) := by decide +kernel
theorem dX7_deleteCells_24 : decode cX7_deleteCells 24 = .ok (.getfield 46, 3) := by decide +kernel
theorem dX7_deleteCells_27 : decode cX7_deleteCells 27 = .ok (.aload_n 0, 1) := by decide +kernel
theorem dX7_deleteCells_28 : decode cX7_deleteCells 28 = .ok (.getfield 42, 3) := by decide +kernel
theorem dX7_deleteCells_31 : decode cX7_deleteCells 31 = .ok (.iload_n 2, 1) := by decide +kernel
theorem dX7_deleteCells_32 : decode cX7_deleteCells 32 = .ok (.iadd, 1) := by decide +kernel
theorem dX7_deleteCells_33 : decode cX7_deleteCells 33 = .ok (.aload_n 0, 1) := by decide +kernel
theorem dX7_deleteCells_34 : decode cX7_deleteCells 34 = .ok (.getfield 42, 3) := by decide +kernel
theorem dX7_deleteCells_37 : decode cX7_deleteCells 37 = .ok (.aload_n 0, 1) := by decide +kernel
theorem dX7_deleteCells_38 : decode cX7_deleteCells 38 = .ok (.getfield 76, 3) := by decide +kernel
theorem dX7_deleteCells_41 : decode cX7_deleteCells 41 = .ok (.aload_n 0, 1) := by decide +kernel
theorem dX7_deleteCells_42 : decode cX7_deleteCells 42 = .ok (.getfield 42, 3) := by decide +kernel
theorem dX7_deleteCells_45 : decode cX7_deleteCells 45 = .ok (.isub, 1) := by decide +kernel
theorem dX7_deleteCells_46 : decode cX7_deleteCells 46 = .ok (.iload_n 2, 1) := by decide +kernel
theorem dX7_deleteCells_47 : decode cX7_deleteCells 47 = .ok (.isub, 1) := by decide +kernel
theorem dX7_deleteCells_48 : decode cX7_deleteCells 48 = .ok (.invokevirtual 99, 3) := by decide +kernel
theorem dX7_deleteCells_51 : decode cX7_deleteCells 51 = .ok (.aload_n 0, 1) := by decide +kernel
theorem dX7_deleteCells_52 : decode cX7_deleteCells 52 = .ok (.invokevirtual 95, 3) := by decide +kernel
theorem dX7_deleteCells_55 : decode cX7_deleteCells 55 = .ok (.aload_n 0, 1) := by decide +kernel
theorem dX7_deleteCells_56 : decode cX7_deleteCells 56 = .ok (.getfield 46, 3) := by decide +kernel
theorem dX7_deleteCells_59 : decode cX7_deleteCells 59 = .ok (.aload_n 0, 1) := by decide +kernel
theorem dX7_deleteCells_60 : decode cX7_deleteCells 60 = .ok (.getfield 76, 3) := by decide +kernel
theorem dX7_deleteCells_63 : decode cX7_deleteCells 63 = .ok (.iload_n 2, 1) := by decide +kernel
theorem dX7_deleteCells_64 : decode cX7_deleteCells 64 = .ok (.isub, 1) := by decide +kernel
theorem dX7_deleteCells_65 : decode cX7_deleteCells 65 = .ok (.aload_n 0, 1) := by decide +kernel
theorem dX7_deleteCells_66 : decode cX7_deleteCells 66 = .ok (.getfield 76, 3) := by decide +kernel
theorem dX7_deleteCells_69 : decode cX7_deleteCells 69 = .ok (.aload_n 0, 1) := by decide +kernel
theorem dX7_deleteCells_70 : decode cX7_deleteCells 70 = .ok (.invokevirtual 135, 3) := by decide +kernel
theorem dX7_deleteCells_73 : decode cX7_deleteCells 73 = .ok (.invokevirtual 139, 3) := by decide +kernel
theorem dX7_deleteCells_76 : decode cX7_deleteCells 76 = .ok (.return_, 1) := by decide +kernel
theorem dX7_eraseCells_0 : decode cX7_eraseCells 0 = .ok (.aload_n 0, 1) := by decide +kernel
theorem dX7_eraseCells_1 : decode cX7_eraseCells 1 = .ok (.iconst 0, 1) := by decide +kernel
theorem dX7_eraseCells_2 : decode cX7_eraseCells 2 = .ok (.putfield 49, 3) := by decide +kernel
theorem dX7_eraseCells_5 : decode cX7_eraseCells 5 = .ok (.aload_n 0, 1) := by decide +kernel
theorem dX7_eraseCells_6 : decode cX7_eraseCells 6 = .ok (.invokevirtual 95, 3) := by decide +kernel
theorem dX7_eraseCells_9 : decode cX7_eraseCells 9 = .ok (.aload_n 0, 1) := by decide +kernel
theorem dX7_eraseCells_10 : decode cX7_eraseCells 10 = .ok (.getfield 46, 3) := by decide +kernel
theorem dX7_eraseCells_13 : decode cX7_eraseCells 13 = .ok (.aload_n 0, 1) := by decide +kernel
theorem dX7_eraseCells_14 : decode cX7_eraseCells 14 = .ok (.getfield 42, 3) := by decide +kernel
theorem dX7_eraseCells_17 : decode cX7_eraseCells 17 = .ok (.aload_n 0, 1) := by decide +kernel
theorem dX7_eraseCells_18 : decode cX7_eraseCells 18 = .ok (.getfield 76, 3) := by decide +kernel
theorem dX7_eraseCells_21 : decode cX7_eraseCells 21 = .ok (.aload_n 0, 1) := by decide +kernel
theorem dX7_eraseCells_22 : decode cX7_eraseCells 22 = .ok (.getfield 42, 3) := by decide +kernel
theorem dX7_eraseCells_25 : decode cX7_eraseCells 25 = .ok (.iload_n 1, 1) := by decide +kernel
theorem dX7_eraseCells_26 : decode cX7_eraseCells 26 = .ok (.iadd, 1) := by decide +kernel
theorem dX7_eraseCells_27 : decode cX7_eraseCells 27 = .ok (.invokestatic 116, 3) := by decide +kernel
theorem dX7_eraseCells_30 : decode cX7_eraseCells 30 = .ok (.aload_n 0, 1) := by decide +kernel
theorem dX7_eraseCells_31 : decode cX7_eraseCells 31 = .ok (.invokevirtual 135, 3) := by decide +kernel
theorem dX7_eraseCells_34 : decode cX7_eraseCells 34 = .ok (.invokevirtual 139, 3) := by decide +kernel
theorem dX7_eraseCells_37 : decode cX7_eraseCells 37 = .ok (.return_, 1) := by decide +kernel
theorem dX7_eraseInRow_0 : decode cX7_eraseInRow 0 = .ok (.aload_n 0, 1) := by decide +kernel
theorem dX7_eraseInRow_1 : decode cX7_eraseInRow 1 = .ok (.iconst 0, 1) := by decide +kernel
theorem dX7_eraseInRow_2 : decode cX7_eraseInRow 2 = .ok (.putfield 49, 3) := by decide +kernel
theorem dX7_eraseInRow_5 : decode cX7_eraseInRow 5 = .ok (.iload_n 1, 1) := by decide +kernel
theorem dX7_eraseInRow_6 : decode cX7_eraseInRow 6 = .ok (.ifCond .lt 57, 3) := by decide +kernel
theorem dX7_eraseInRow_9 : decode cX7_eraseInRow 9 = .ok (.iload_n 1, 1) := by decide +kernel
theorem dX7_eraseInRow_10 : decode cX7_eraseInRow 10 = .ok (.iconst 2, 1) := by decide +kernel
theorem dX7_eraseInRow_11 : decode cX7_eraseInRow 11 = .ok (.if_icmp .gt 52, 3) := by decide +kernel
theorem dX7_eraseInRow_14 : decode cX7_eraseInRow 14 = .ok (.iload_n 1, 1) := by decide +kernel
theorem dX7_eraseInRow_15 : decode cX7_eraseInRow 15 = .ok (.ifCond .ne 10, 3) := by decide +kernel
theorem dX7_eraseInRow_18 : decode cX7_eraseInRow 18 = .ok (.aload_n 0, 1) := by decide +kernel
theorem dX7_eraseInRow_19 : decode cX7_eraseInRow 19 = .ok (.getfield 42, 3) := by decide +kernel
theorem dX7_eraseInRow_22 : decode cX7_eraseInRow 22 = .ok (.goto 4, 3) := by decide +kernel
theorem dX7_eraseInRow_25 : decode cX7_eraseInRow 25 = .ok (.iconst 0, 1) := by decide +kernel
theorem dX7_eraseInRow_26 : decode cX7_eraseInRow 26 = .ok (.istore_n 2, 1) := by decide +kernel
theorem dX7_eraseInRow_27 : decode cX7_eraseInRow 27 = .ok (.iload_n 1, 1) := by decide +kernel
theorem dX7_eraseInRow_28 : decode cX7_eraseInRow 28 = .ok (.iconst 1, 1) := by decide +kernel
theorem dX7_eraseInRow_29 : decode cX7_eraseInRow 29 = .ok (.if_icmp .ne 12, 3) := by decide +kernel
theorem dX7_eraseInRow_32 : decode cX7_eraseInRow 32 = .ok (.aload_n 0, 1) := by decide +kernel
theorem dX7_eraseInRow_33 : decode cX7_eraseInRow 33 = .ok (.getfield 42, 3) := by decide +kernel
theorem dX7_eraseInRow_36 : decode cX7_eraseInRow 36 = .ok (.iconst 1, 1) := by decide +kernel
theorem dX7_eraseInRow_37 : decode cX7_eraseInRow 37 = .ok (.iadd, 1) := by decide +kernel
theorem dX7_eraseInRow_38 : decode cX7_eraseInRow 38 = .ok (.goto 7, 3) := by decide +kernel
theorem dX7_eraseInRow_41 : decode cX7_eraseInRow 41 = .ok (.aload_n 0, 1) := by decide +kernel
theorem dX7_eraseInRow_42 : decode cX7_eraseInRow 42 = .ok (.getfield 76, 3) := by decide +kernel
theorem dX7_eraseInRow_45 : decode cX7_eraseInRow 45 = .ok (.istore_n 3, 1) := by decide +kernel
theorem dX7_eraseInRow_46 : decode cX7_eraseInRow 46 = .ok (.aload_n 0, 1) := by decide +kernel
theorem dX7_eraseInRow_47 : decode cX7_eraseInRow 47 = .ok (.invokevirtual 95, 3) := by decide +kernel
theorem dX7_eraseInRow_50 : decode cX7_eraseInRow 50 = .ok (.aload_n 0, 1) := by decide +kernel
theorem dX7_eraseInRow_51 : decode cX7_eraseInRow 51 = .ok (.getfield 46, 3) := by decide +kernel
theorem dX7_eraseInRow_54 : decode cX7_eraseInRow 54 = .ok (.iload_n 2, 1) := by decide +kernel
theorem dX7_eraseInRow_55 : decode cX7_eraseInRow 55 = .ok (.iload_n 3, 1) := by decide +kernel
theorem dX7_eraseInRow_56 : decode cX7_eraseInRow 56 = .ok (.aload_n 0, 1) := by decide +kernel
theorem dX7_eraseInRow_57 : decode cX7_eraseInRow 57 = .ok (.invokevirtual 135, 3) := by decide +kernel
theorem dX7_eraseInRow_60 : decode cX7_eraseInRow 60 = .ok (.invokevirtual 139, 3) := by decide +kernel
theorem dX7_eraseInRow_63 : decode cX7_eraseInRow 63 = .ok (.return_, 1) := by decide +kernel
theorem dX7_erase_0 : decode cX7_erase 0 = .ok (.aload_n 0, 1) := by decide +kernel
theorem dX7_erase_1 : decode cX7_erase 1 = .ok (.iload_n 1, 1) := by decide +kernel
theorem dX7_erase_2 : decode cX7_erase 2 = .ok (.invokevirtual 142, 3) := by decide +kernel
theorem dX7_erase_5 : decode cX7_erase 5 = .ok (.iconst 0, 1) := by decide +kernel
theorem dX7_erase_6 : decode cX7_erase 6 = .ok (.istore_n 2, 1) := by decide +kernel
theorem dX7_erase_7 : decode cX7_erase 7 = .ok (.iload_n 2, 1) := by decide +kernel
theorem dX7_erase_8 : decode cX7_erase 8 = .ok (.aload_n 0, 1) := by decide +kernel
theorem dX7_erase_9 : decode cX7_erase 9 = .ok (.getfield 61, 3) := by decide +kernel
theorem dX7_erase_12 : decode cX7_erase 12 = .ok (.if_icmp .ge 66, 3) := by decide +kernel
theorem dX7_erase_15 : decode cX7_erase 15 = .ok (.iload_n 1, 1) := by decide +kernel
theorem dX7_erase_16 : decode cX7_erase 16 = .ok (.ifCond .ne 11, 3) := by decide +kernel
theorem dX7_erase_19 : decode cX7_erase 19 = .ok (.iload_n 2, 1) := by decide +kernel
theorem dX7_erase_20 : decode cX7_erase 20 = .ok (.aload_n 0, 1) := by decide +kernel
theorem dX7_erase_21 : decode cX7_erase 21 = .ok (.getfield 46, 3) := by decide +kernel
theorem dX7_erase_24 : decode cX7_erase 24 = .ok (.if_icmp .gt 21, 3) := by decide +kernel
theorem dX7_erase_27 : decode cX7_erase 27 = .ok (.iload_n 1, 1) := by decide +kernel
theorem dX7_erase_28 : decode cX7_erase 28 = .ok (.iconst 1, 1) := by decide +kernel
theorem dX7_erase_29 : decode cX7_erase 29 = .ok (.if_icmp .ne 11, 3) := by decide +kernel
theorem dX7_erase_32 : decode cX7_erase 32 = .ok (.iload_n 2, 1) := by decide +kernel
theorem dX7_erase_33 : decode cX7_erase 33 = .ok (.aload_n 0, 1) := by decide +kernel
theorem dX7_erase_34 : decode cX7_erase 34 = .ok (.getfield 46, 3) := by decide +kernel
theorem dX7_erase_37 : decode cX7_erase 37 = .ok (.if_icmp .lt 8, 3) := by decide +kernel
theorem dX7_erase_40 : decode cX7_erase 40 = .ok (.iload_n 1, 1) := by decide +kernel
theorem dX7_erase_41 : decode cX7_erase 41 = .ok (.iconst 2, 1) := by decide +kernel
theorem dX7_erase_42 : decode cX7_erase 42 = .ok (.if_icmp .ne 7, 3) := by decide +kernel
theorem dX7_erase_45 : decode cX7_erase 45 = .ok (.iconst 1, 1) := by decide +kernel
theorem dX7_erase_46 : decode cX7_erase 46 = .ok (.goto 4, 3) := by decide +kernel
theorem dX7_erase_49 : decode cX7_erase 49 = .ok (.iconst 0, 1) := by decide +kernel
theorem dX7_erase_50 : decode cX7_erase 50 = .ok (.istore_n 3, 1) := by decide +kernel
theorem dX7_erase_51 : decode cX7_erase 51 = .ok (.iload_n 3, 1) := by decide +kernel
theorem dX7_erase_52 : decode cX7_erase 52 = .ok (.ifCond .eq 20, 3) := by decide +kernel
theorem dX7_erase_55 : decode cX7_erase 55 = .ok (.aload_n 0, 1) := by decide +kernel
theorem dX7_erase_56 : decode cX7_erase 56 = .ok (.invokevirtual 95, 3) := by decide +kernel
theorem dX7_erase_59 : decode cX7_erase 59 = .ok (.iload_n 2, 1) := by decide +kernel
theorem dX7_erase_60 : decode cX7_erase 60 = .ok (.iconst 0, 1) := by decide +kernel
theorem dX7_erase_61 : decode cX7_erase 61 = .ok (.aload_n 0, 1) := by decide +kernel
theorem dX7_erase_62 : decode cX7_erase 62 = .ok (.getfield 76, 3) := by decide +kernel
theorem dX7_erase_65 : decode cX7_erase 65 = .ok (.aload_n 0, 1) := by decide +kernel
theorem dX7_erase_66 : decode cX7_erase 66 = .ok (.invokevirtual 135, 3) := by decide +kernel
theorem dX7_erase_69 : decode cX7_erase 69 = .ok (.invokevirtual 139, 3) := by decide +kernel
theorem dX7_erase_72 : decode cX7_erase 72 = .ok (.iinc 2 1, 3) := by decide +kernel
theorem dX7_erase_75 : decode cX7_erase 75 = .ok (.goto (-68), 3) := by decide +kernel
theorem dX7_erase_78 : decode cX7_erase 78 = .ok (.return_, 1) := by decide +kernel
theorem dX7_setRegion_0 : decode cX7_setRegion 0 = .ok (.aload_n 0, 1) := by decide +kernel
theorem dX7_setRegion_1 : decode cX7_setRegion 1 = .ok (.iconst 0, 1) := by decide +kernel
theorem dX7_setRegion_2 : decode cX7_setRegion 2 = .ok (.putfield 49, 3) := by decide +kernel
theorem dX7_setRegion_5 : decode cX7_setRegion 5 = .ok (.iload_n 2, 1) := by decide +kernel
theorem dX7_setRegion_6 : decode cX7_setRegion 6 = .ok (.ifCond .ne 10, 3) := by decide +kernel
theorem dX7_setRegion_9 : decode cX7_setRegion 9 = .ok (.aload_n 0, 1) := by decide +kernel
theorem dX7_setRegion_10 : decode cX7_setRegion 10 = .ok (.getfield 61, 3) := by decide +kernel
theorem dX7_setRegion_13 : decode cX7_setRegion 13 = .ok (.goto 11, 3) := by decide +kernel
theorem dX7_setRegion_16 : decode cX7_setRegion 16 = .ok (.iload_n 2, 1) := by decide +kernel
theorem dX7_setRegion_17 : decode cX7_setRegion 17 = .ok (.aload_n 0, 1) := by decide +kernel
theorem dX7_setRegion_18 : decode cX7_setRegion 18 = .ok (.getfield 61, 3) := by decide +kernel
theorem dX7_setRegion_21 : decode cX7_setRegion 21 = .ok (.invokestatic 116, 3) := by decide +kernel
theorem dX7_setRegion_24 : decode cX7_setRegion 24 = .ok (.istore_n 3, 1) := by decide +kernel
theorem dX7_setRegion_25 : decode cX7_setRegion 25 = .ok (.iload_n 3, 1) := by decide +kernel
theorem dX7_setRegion_26 : decode cX7_setRegion 26 = .ok (.iload_n 1, 1) := by decide +kernel
theorem dX7_setRegion_27 : decode cX7_setRegion 27 = .ok (.if_icmp .le 23, 3) := by decide +kernel
theorem dX7_setRegion_30 : decode cX7_setRegion 30 = .ok (.aload_n 0, 1) := by decide +kernel
theorem dX7_setRegion_31 : decode cX7_setRegion 31 = .ok (.iload_n 1, 1) := by decide +kernel
theorem dX7_setRegion_32 : decode cX7_setRegion 32 = .ok (.iconst 1, 1) := by decide +kernel
theorem dX7_setRegion_33 : decode cX7_setRegion 33 = .ok (.isub, 1) := by decide +kernel
theorem dX7_setRegion_34 : decode cX7_setRegion 34 = .ok (.putfield 58, 3) := by decide +kernel
theorem dX7_setRegion_37 : decode cX7_setRegion 37 = .ok (.aload_n 0, 1) := by decide +kernel
theorem dX7_setRegion_38 : decode cX7_setRegion 38 = .ok (.iload_n 3, 1) := by decide +kernel
theorem dX7_setRegion_39 : decode cX7_setRegion 39 = .ok (.iconst 1, 1) := by decide +kernel
theorem dX7_setRegion_40 : decode cX7_setRegion 40 = .ok (.isub, 1) := by decide +kernel
theorem dX7_setRegion_41 : decode cX7_setRegion 41 = .ok (.putfield 64, 3) := by decide +kernel
theorem dX7_setRegion_44 : decode cX7_setRegion 44 = .ok (.aload_n 0, 1) := by decide +kernel
theorem dX7_setRegion_45 : decode cX7_setRegion 45 = .ok (.iconst 0, 1) := by decide +kernel
theorem dX7_setRegion_46 : decode cX7_setRegion 46 = .ok (.iconst 0, 1) := by decide +kernel
theorem dX7_setRegion_47 : decode cX7_setRegion 47 = .ok (.invokevirtual 79, 3) := by decide +kernel
theorem dX7_setRegion_50 : decode cX7_setRegion 50 = .ok (.return_, 1) := by decide +kernel
theorem dX7_showOther_0 : decode cX7_showOther 0 = .ok (.iload_n 1, 1) := by decide +kernel
theorem dX7_showOther_1 : decode cX7_showOther 1 = .ok (.ifCond .eq 19, 3) := by decide +kernel
theorem dX7_showOther_4 : decode cX7_showOther 4 = .ok (.aload_n 0, 1) := by decide +kernel
theorem dX7_showOther_5 : decode cX7_showOther 5 = .ok (.getfield 32, 3) := by decide +kernel
theorem dX7_showOther_8 : decode cX7_showOther 8 = .ok (.ifCond .ne 12, 3) := by decide +kernel
theorem dX7_showOther_11 : decode cX7_showOther 11 = .ok (.aload_n 0, 1) := by decide +kernel
theorem dX7_showOther_12 : decode cX7_showOther 12 = .ok (.getfield 20, 3) := by decide +kernel
theorem dX7_showOther_15 : decode cX7_showOther 15 = .ok (.iconst 0, 1) := by decide +kernel
theorem dX7_showOther_16 : decode cX7_showOther 16 = .ok (.iconst 0, 1) := by decide +kernel
theorem dX7_showOther_17 : decode cX7_showOther 17 = .ok (.invokevirtual 36, 3) := by decide +kernel
theorem dX7_showOther_20 : decode cX7_showOther 20 = .ok (.aload_n 0, 1) := by decide +kernel
theorem dX7_showOther_21 : decode cX7_showOther 21 = .ok (.iload_n 1, 1) := by decide +kernel
theorem dX7_showOther_22 : decode cX7_showOther 22 = .ok (.putfield 32, 3) := by decide +kernel
theorem dX7_showOther_25 : decode cX7_showOther 25 = .ok (.return_, 1) := by decide +kernel
theorem dX7_blank_0 : decode cX7_blank 0 = .ok (.aload_n 0, 1) := by decide +kernel
theorem dX7_blank_1 : decode cX7_blank 1 = .ok (.getfield 52, 3) := by decide +kernel
theorem dX7_blank_4 : decode cX7_blank 4 = .ok (.sipush 128, 3) := by decide +kernel
theorem dX7_blank_7 : decode cX7_blank 7 = .ok (.imul, 1) := by decide +kernel
theorem dX7_blank_8 : decode cX7_blank 8 = .ok (.bipush 32, 2) := by decide +kernel
theorem dX7_blank_10 : decode cX7_blank 10 = .ok (.iadd, 1) := by decide +kernel
theorem dX7_blank_11 : decode cX7_blank 11 = .ok (.ireturn, 1) := by decide +kernel
theorem dX8_init_0 : decode cX8_init 0 = .ok (.aload_n 0, 1) := by decide +kernel
theorem dX8_init_1 : decode cX8_init 1 = .ok (.invokespecial 1, 3) := by decide +kernel
theorem dX8_init_4 : decode cX8_init 4 = .ok (.aload_n 0, 1) := by decide +kernel
theorem dX8_init_5 : decode cX8_init 5 = .ok (.bipush 64, 2) := by decide +kernel
theorem dX8_init_7 : decode cX8_init 7 = .ok (.newarray .int, 2) := by decide +kernel
theorem dX8_init_9 : decode cX8_init 9 = .ok (.putfield 9, 3) := by decide +kernel
theorem dX8_init_12 : decode cX8_init 12 = .ok (.return_, 1) := by decide +kernel
theorem dX8_add_0 : decode cX8_add 0 = .ok (.aload_n 0, 1) := by decide +kernel
theorem dX8_add_1 : decode cX8_add 1 = .ok (.getfield 9, 3) := by decide +kernel
theorem dX8_add_4 : decode cX8_add 4 = .ok (.aload_n 0, 1) := by decide +kernel
theorem dX8_add_5 : decode cX8_add 5 = .ok (.getfield 13, 3) := by decide +kernel
theorem dX8_add_8 : decode cX8_add 8 = .ok (.bipush 63, 2) := by decide +kernel
theorem dX8_add_10 : decode cX8_add 10 = .ok (.iand, 1) := by decide +kernel
theorem dX8_add_11 : decode cX8_add 11 = .ok (.iload_n 1, 1) := by decide +kernel
theorem dX8_add_12 : decode cX8_add 12 = .ok (.iastore, 1) := by decide +kernel
theorem dX8_add_13 : decode cX8_add 13 = .ok (.aload_n 0, 1) := by decide +kernel
theorem dX8_add_14 : decode cX8_add 14 = .ok (.dup, 1) := by decide +kernel
theorem dX8_add_15 : decode cX8_add 15 = .ok (.getfield 13, 3) := by decide +kernel
theorem dX8_add_18 : decode cX8_add 18 = .ok (.iconst 1, 1) := by decide +kernel
theorem dX8_add_19 : decode cX8_add 19 = .ok (.iadd, 1) := by decide +kernel
theorem dX8_add_20 : decode cX8_add 20 = .ok (.putfield 13, 3) := by decide +kernel
theorem dX8_add_23 : decode cX8_add 23 = .ok (.return_, 1) := by decide +kernel
theorem dX8_told_0 : decode cX8_told 0 = .ok (.aload_n 0, 1) := by decide +kernel
theorem dX8_told_1 : decode cX8_told 1 = .ok (.getfield 13, 3) := by decide +kernel
theorem dX8_told_4 : decode cX8_told 4 = .ok (.bipush 64, 2) := by decide +kernel
theorem dX8_told_6 : decode cX8_told 6 = .ok (.invokestatic 17, 3) := by decide +kernel
theorem dX8_told_9 : decode cX8_told 9 = .ok (.ireturn, 1) := by decide +kernel
theorem dX8_at_0 : decode cX8_at 0 = .ok (.aload_n 0, 1) := by decide +kernel
theorem dX8_at_1 : decode cX8_at 1 = .ok (.getfield 9, 3) := by decide +kernel
theorem dX8_at_4 : decode cX8_at 4 = .ok (.aload_n 0, 1) := by decide +kernel
theorem dX8_at_5 : decode cX8_at 5 = .ok (.getfield 13, 3) := by decide +kernel
theorem dX8_at_8 : decode cX8_at 8 = .ok (.aload_n 0, 1) := by decide +kernel
theorem dX8_at_9 : decode cX8_at 9 = .ok (.invokevirtual 23, 3) := by decide +kernel
theorem dX8_at_12 : decode cX8_at 12 = .ok (.isub, 1) := by decide +kernel
theorem dX8_at_13 : decode cX8_at 13 = .ok (.iload_n 1, 1) := by decide +kernel
theorem dX8_at_14 : decode cX8_at 14 = .ok (.iadd, 1) := by decide +kernel
theorem dX8_at_15 : decode cX8_at 15 = .ok (.bipush 63, 2) := by decide +kernel
theorem dX8_at_17 : decode cX8_at 17 = .ok (.iand, 1) := by decide +kernel
theorem dX8_at_18 : decode cX8_at 18 = .ok (.iaload, 1) := by decide +kernel
theorem dX8_at_19 : decode cX8_at 19 = .ok (.ireturn, 1) := by decide +kernel
theorem dX9_init_0 : decode cX9_init 0 = .ok (.aload_n 0, 1) := by decide +kernel
theorem dX9_init_1 : decode cX9_init 1 = .ok (.invokespecial 1, 3) := by decide +kernel
theorem dX9_init_4 : decode cX9_init 4 = .ok (.aload_n 0, 1) := by decide +kernel
theorem dX9_init_5 : decode cX9_init 5 = .ok (.bipush 8, 2) := by decide +kernel
theorem dX9_init_7 : decode cX9_init 7 = .ok (.anewarray 9, 3) := by decide +kernel
theorem dX9_init_10 : decode cX9_init 10 = .ok (.putfield 11, 3) := by decide +kernel
theorem dX9_init_13 : decode cX9_init 13 = .ok (.aload_n 0, 1) := by decide +kernel
theorem dX9_init_14 : decode cX9_init 14 = .ok (.sipush 400, 3) := by decide +kernel
theorem dX9_init_17 : decode cX9_init 17 = .ok (.newarray .int, 2) := by decide +kernel
theorem dX9_init_19 : decode cX9_init 19 = .ok (.putfield 15, 3) := by decide +kernel
theorem dX9_init_22 : decode cX9_init 22 = .ok (.aload_n 0, 1) := by decide +kernel
theorem dX9_init_23 : decode cX9_init 23 = .ok (.iload_n 1, 1) := by decide +kernel
theorem dX9_init_24 : decode cX9_init 24 = .ok (.bipush 8, 2) := by decide +kernel
theorem dX9_init_26 : decode cX9_init 26 = .ok (.bipush 40, 2) := by decide +kernel
theorem dX9_init_28 : decode cX9_init 28 = .ok (.invokestatic 19, 3) := by decide +kernel
theorem dX9_init_31 : decode cX9_init 31 = .ok (.putfield 23, 3) := by decide +kernel
theorem dX9_init_34 : decode cX9_init 34 = .ok (.aload_n 0, 1) := by decide +kernel
theorem dX9_init_35 : decode cX9_init 35 = .ok (.iload_n 2, 1) := by decide +kernel
theorem dX9_init_36 : decode cX9_init 36 = .ok (.iconst 4, 1) := by decide +kernel
theorem dX9_init_37 : decode cX9_init 37 = .ok (.bipush 16, 2) := by decide +kernel
theorem dX9_init_39 : decode cX9_init 39 = .ok (.invokestatic 19, 3) := by decide +kernel
theorem dX9_init_42 : decode cX9_init 42 = .ok (.putfield 27, 3) := by decide +kernel
theorem dX9_init_45 : decode cX9_init 45 = .ok (.iconst 0, 1) := by decide +kernel
theorem dX9_init_46 : decode cX9_init 46 = .ok (.istore_n 3, 1) := by decide +kernel
theorem dX9_init_47 : decode cX9_init 47 = .ok (.iload_n 3, 1) := by decide +kernel
theorem dX9_init_48 : decode cX9_init 48 = .ok (.bipush 8, 2) := by decide +kernel
theorem dX9_init_50 : decode cX9_init 50 = .ok (.if_icmp .ge 30, 3) := by decide +kernel
theorem dX9_init_53 : decode cX9_init 53 = .ok (.aload_n 0, 1) := by decide +kernel
theorem dX9_init_54 : decode cX9_init 54 = .ok (.getfield 11, 3) := by decide +kernel
theorem dX9_init_57 : decode cX9_init 57 = .ok (.iload_n 3, 1) := by decide +kernel
theorem dX9_init_58 : decode cX9_init 58 = .ok (.new 9, 3) := by decide +kernel
theorem dX9_init_61 : decode cX9_init 61 = .ok (.dup, 1) := by decide +kernel
theorem dX9_init_62 : decode cX9_init 62 = .ok (.aload_n 0, 1) := by decide +kernel
theorem dX9_init_63 : decode cX9_init 63 = .ok (.getfield 23, 3) := by decide +kernel
theorem dX9_init_66 : decode cX9_init 66 = .ok (.aload_n 0, 1) := by decide +kernel
theorem dX9_init_67 : decode cX9_init 67 = .ok (.getfield 27, 3) := by decide +kernel
theorem dX9_init_70 : decode cX9_init 70 = .ok (.invokespecial 30, 3) := by decide +kernel
theorem dX9_init_73 : decode cX9_init 73 = .ok (.aastore, 1) := by decide +kernel
theorem dX9_init_74 : decode cX9_init 74 = .ok (.iinc 3 1, 3) := by decide +kernel
theorem dX9_init_77 : decode cX9_init 77 = .ok (.goto (-30), 3) := by decide +kernel
theorem dX9_init_80 : decode cX9_init 80 = .ok (.aload_n 0, 1) := by decide +kernel
theorem dX9_init_81 : decode cX9_init 81 = .ok (.new 33, 3) := by decide +kernel
theorem dX9_init_84 : decode cX9_init 84 = .ok (.dup, 1) := by decide +kernel
theorem dX9_init_85 : decode cX9_init 85 = .ok (.aload_n 0, 1) := by decide +kernel
theorem dX9_init_86 : decode cX9_init 86 = .ok (.getfield 23, 3) := by decide +kernel
theorem dX9_init_89 : decode cX9_init 89 = .ok (.aload_n 0, 1) := by decide +kernel
theorem dX9_init_90 : decode cX9_init 90 = .ok (.getfield 27, 3) := by decide +kernel
theorem dX9_init_93 : decode cX9_init 93 = .ok (.invokespecial 35, 3) := by decide +kernel
theorem dX9_init_96 : decode cX9_init 96 = .ok (.putfield 36, 3) := by decide +kernel
theorem dX9_init_99 : decode cX9_init 99 = .ok (.aload_n 0, 1) := by decide +kernel
theorem dX9_init_100 : decode cX9_init 100 = .ok (.new 40, 3) := by decide +kernel
theorem dX9_init_103 : decode cX9_init 103 = .ok (.dup, 1) := by decide +kernel
theorem dX9_init_104 : decode cX9_init 104 = .ok (.aload_n 0, 1) := by decide +kernel
theorem dX9_init_105 : decode cX9_init 105 = .ok (.getfield 23, 3) := by decide +kernel
theorem dX9_init_108 : decode cX9_init 108 = .ok (.aload_n 0, 1) := by decide +kernel
theorem dX9_init_109 : decode cX9_init 109 = .ok (.getfield 27, 3) := by decide +kernel
theorem dX9_init_112 : decode cX9_init 112 = .ok (.invokespecial 42, 3) := by decide +kernel
theorem dX9_init_115 : decode cX9_init 115 = .ok (.putfield 43, 3) := by decide +kernel
theorem dX9_init_118 : decode cX9_init 118 = .ok (.aload_n 0, 1) := by decide +kernel
theorem dX9_init_119 : decode cX9_init 119 = .ok (.aload_n 0, 1) := by decide +kernel
theorem dX9_init_120 : decode cX9_init 120 = .ok (.getfield 23, 3) := by decide +kernel
theorem dX9_init_123 : decode cX9_init 123 = .ok (.aload_n 0, 1) := by decide +kernel
theorem dX9_init_124 : decode cX9_init 124 = .ok (.getfield 27, 3) := by decide +kernel
theorem dX9_init_127 : decode cX9_init 127 = .ok (.imul, 1) := by decide +kernel
theorem dX9_init_128 : decode cX9_init 128 = .ok (.newarray .int, 2) := by decide +kernel
theorem dX9_init_130 : decode cX9_init 130 = .ok (.putfield 47, 3) := by decide +kernel
theorem dX9_init_133 : decode cX9_init 133 = .ok (.aload_n 0, 1) := by decide +kernel
theorem dX9_init_134 : decode cX9_init 134 = .ok (.aload_n 0, 1) := by decide +kernel
theorem dX9_init_135 : decode cX9_init 135 = .ok (.getfield 23, 3) := by decide +kernel
theorem dX9_init_138 : decode cX9_init 138 = .ok (.newarray .int, 2) := by decide +kernel
theorem dX9_init_140 : decode cX9_init 140 = .ok (.putfield 50, 3) := by decide +kernel
theorem dX9_init_143 : decode cX9_init 143 = .ok (.aload_n 0, 1) := by decide +kernel
theorem dX9_init_144 : decode cX9_init 144 = .ok (.invokevirtual 53, 3) := by decide +kernel
theorem dX9_init_147 : decode cX9_init 147 = .ok (.aload_n 0, 1) := by decide +kernel
theorem dX9_init_148 : decode cX9_init 148 = .ok (.getfield 11, 3) := by decide +kernel
theorem dX9_init_151 : decode cX9_init 151 = .ok (.iconst 0, 1) := by decide +kernel
theorem dX9_init_152 : decode cX9_init 152 = .ok (.aaload, 1) := by decide +kernel
theorem dX9_init_153 : decode cX9_init 153 = .ok (.invokevirtual 56, 3) := by decide +kernel
theorem dX9_init_156 : decode cX9_init 156 = .ok (.return_, 1) := by decide +kernel
theorem dX9_feed_0 : decode cX9_feed 0 = .ok (.aload_n 0, 1) := by decide +kernel
theorem dX9_feed_1 : decode cX9_feed 1 = .ok (.iload_n 1, 1) := by decide +kernel
theorem dX9_feed_2 : decode cX9_feed 2 = .ok (.invokevirtual 59, 3) := by decide +kernel
theorem dX9_feed_5 : decode cX9_feed 5 = .ok (.iload 4, 2) := by decide +kernel
theorem dX9_feed_7 : decode cX9_feed 7 = .ok (.iconst 1, 1) := by decide +kernel
theorem dX9_feed_8 : decode cX9_feed 8 = .ok (.if_icmp .lt 10, 3) := by decide +kernel
theorem dX9_feed_11 : decode cX9_feed 11 = .ok (.iload 4, 2) := by decide +kernel
theorem dX9_feed_13 : decode cX9_feed 13 = .ok (.bipush 8, 2) := by decide +kernel
theorem dX9_feed_15 : decode cX9_feed 15 = .ok (.if_icmp .le 13, 3) := by decide +kernel
theorem dX9_feed_18 : decode cX9_feed 18 = .ok (.new 63, 3) := by decide +kernel
theorem dX9_feed_21 : decode cX9_feed 21 = .ok (.dup, 1) := by decide +kernel
theorem dX9_feed_22 : decode cX9_feed 22 = .ok (.ldc 65, 2) := by decide +kernel
theorem dX9_feed_24 : decode cX9_feed 24 = .ok (.invokespecial 67, 3) := by decide +kernel
theorem dX9_feed_27 : decode cX9_feed 27 = .ok (.athrow, 1) := by decide +kernel
theorem dX9_feed_28 : decode cX9_feed 28 = .ok (.iconst 0, 1) := by decide +kernel
theorem dX9_feed_29 : decode cX9_feed 29 = .ok (.istore 5, 2) := by decide +kernel
theorem dX9_feed_31 : decode cX9_feed 31 = .ok (.iload 5, 2) := by decide +kernel
theorem dX9_feed_33 : decode cX9_feed 33 = .ok (.iload 4, 2) := by decide +kernel
theorem dX9_feed_35 : decode cX9_feed 35 = .ok (.if_icmp .ge 33, 3) := by decide +kernel
theorem dX9_feed_38 : decode cX9_feed 38 = .ok (.aload_n 0, 1) := by decide +kernel
theorem dX9_feed_39 : decode cX9_feed 39 = .ok (.getfield 11, 3) := by decide +kernel
theorem dX9_feed_42 : decode cX9_feed 42 = .ok (.iload_n 1, 1) := by decide +kernel
theorem dX9_feed_43 : decode cX9_feed 43 = .ok (.aaload, 1) := by decide +kernel
theorem dX9_feed_44 : decode cX9_feed 44 = .ok (.getfield 70, 3) := by decide +kernel
theorem dX9_feed_47 : decode cX9_feed 47 = .ok (.lload_n 2, 1) := by decide +kernel
theorem dX9_feed_48 : decode cX9_feed 48 = .ok (.bipush 8, 2) := by decide +kernel
theorem dX9_feed_50 : decode cX9_feed 50 = .ok (.iload 5, 2) := by decide +kernel
theorem dX9_feed_52 : decode cX9_feed 52 = .ok (.imul, 1) := by decide +kernel
theorem dX9_feed_53 : decode cX9_feed 53 = .ok (.lshr, 1) := by decide +kernel
theorem dX9_feed_54 : decode cX9_feed 54 = .ok (.l2i, 1) := by decide +kernel
theorem dX9_feed_55 : decode cX9_feed 55 = .ok (.sipush 255, 3) := by decide +kernel
theorem dX9_feed_58 : decode cX9_feed 58 = .ok (.iand, 1) := by decide +kernel
theorem dX9_feed_59 : decode cX9_feed 59 = .ok (.invokevirtual 74, 3) := by decide +kernel
theorem dX9_feed_62 : decode cX9_feed 62 = .ok (.iinc 5 1, 3) := by decide +kernel
theorem dX9_feed_65 : decode cX9_feed 65 = .ok (.goto (-34), 3) := by decide +kernel
theorem dX9_feed_68 : decode cX9_feed 68 = .ok (.return_, 1) := by decide +kernel
theorem dX9_key_0 : decode cX9_key 0 = .ok (.iload_n 1, 1) := by decide +kernel
theorem dX9_key_1 : decode cX9_key 1 = .ok (.ifCond .lt 10, 3) := by decide +kernel
theorem dX9_key_4 : decode cX9_key 4 = .ok (.iload_n 1, 1) := by decide +kernel
theorem dX9_key_5 : decode cX9_key 5 = .ok (.sipush 255, 3) := by decide +kernel
theorem dX9_key_8 : decode cX9_key 8 = .ok (.if_icmp .le 13, 3) := by decide +kernel
theorem dX9_key_11 : decode cX9_key 11 = .ok (.new 63, 3) := by decide +kernel
theorem dX9_key_14 : decode cX9_key 14 = .ok (.dup, 1) := by decide +kernel
theorem dX9_key_15 : decode cX9_key 15 = .ok (.ldc 79, 2) := by decide +kernel
theorem dX9_key_17 : decode cX9_key 17 = .ok (.invokespecial 67, 3) := by decide +kernel
theorem dX9_key_20 : decode cX9_key 20 = .ok (.athrow, 1) := by decide +kernel
theorem dX9_key_21 : decode cX9_key 21 = .ok (.aload_n 0, 1) := by decide +kernel
theorem dX9_key_22 : decode cX9_key 22 = .ok (.getfield 81, 3) := by decide +kernel
theorem dX9_key_25 : decode cX9_key 25 = .ok (.ifCond .eq 16, 3) := by decide +kernel
theorem dX9_key_28 : decode cX9_key 28 = .ok (.aload_n 0, 1) := by decide +kernel
theorem dX9_key_29 : decode cX9_key 29 = .ok (.iconst 0, 1) := by decide +kernel
theorem dX9_key_30 : decode cX9_key 30 = .ok (.putfield 81, 3) := by decide +kernel
theorem dX9_key_33 : decode cX9_key 33 = .ok (.aload_n 0, 1) := by decide +kernel
theorem dX9_key_34 : decode cX9_key 34 = .ok (.iload_n 1, 1) := by decide +kernel
theorem dX9_key_35 : decode cX9_key 35 = .ok (.invokevirtual 85, 3) := by decide +kernel
theorem dX9_key_38 : decode cX9_key 38 = .ok (.goto 29, 3) := by decide +kernel
theorem dX9_key_41 : decode cX9_key 41 = .ok (.iload_n 1, 1) := by decide +kernel
theorem dX9_key_42 : decode cX9_key 42 = .ok (.iconst 2, 1) := by decide +kernel
theorem dX9_key_43 : decode cX9_key 43 = .ok (.if_icmp .ne 11, 3) := by decide +kernel
theorem dX9_key_46 : decode cX9_key 46 = .ok (.aload_n 0, 1) := by decide +kernel
theorem dX9_key_47 : decode cX9_key 47 = .ok (.iconst 1, 1) := by decide +kernel
theorem dX9_key_48 : decode cX9_key 48 = .ok (.putfield 81, 3) := by decide +kernel
theorem dX9_key_51 : decode cX9_key 51 = .ok (.goto 16, 3) := by decide +kernel
theorem dX9_key_54 : decode cX9_key 54 = .ok (.aload_n 0, 1) := by decide +kernel
theorem dX9_key_55 : decode cX9_key 55 = .ok (.getfield 11, 3) := by decide +kernel
theorem dX9_key_58 : decode cX9_key 58 = .ok (.aload_n 0, 1) := by decide +kernel
theorem dX9_key_59 : decode cX9_key 59 = .ok (.getfield 88, 3) := by decide +kernel
theorem dX9_key_62 : decode cX9_key 62 = .ok (.aaload, 1) := by decide +kernel
theorem dX9_key_63 : decode cX9_key 63 = .ok (.iload_n 1, 1) := by decide +kernel
theorem dX9_key_64 : decode cX9_key 64 = .ok (.invokevirtual 91, 3) := by decide +kernel
theorem dX9_key_67 : decode cX9_key 67 = .ok (.aload_n 0, 1) := by decide +kernel
theorem dX9_key_68 : decode cX9_key 68 = .ok (.getfield 88, 3) := by decide +kernel
theorem dX9_key_71 : decode cX9_key 71 = .ok (.ireturn, 1) := by decide +kernel
theorem dX9_split_0 : decode cX9_split 0 = .ok (.aload_n 0, 1) := by decide +kernel
theorem dX9_split_1 : decode cX9_split 1 = .ok (.iload_n 1, 1) := by decide +kernel
theorem dX9_split_2 : decode cX9_split 2 = .ok (.invokevirtual 59, 3) := by decide +kernel
theorem dX9_split_5 : decode cX9_split 5 = .ok (.aload_n 0, 1) := by decide +kernel
theorem dX9_split_6 : decode cX9_split 6 = .ok (.iload_n 1, 1) := by decide +kernel
theorem dX9_split_7 : decode cX9_split 7 = .ok (.iload_n 2, 1) := by decide +kernel
theorem dX9_split_8 : decode cX9_split 8 = .ok (.invokevirtual 94, 3) := by decide +kernel
theorem dX9_split_11 : decode cX9_split 11 = .ok (.istore_n 3, 1) := by decide +kernel
theorem dX9_split_12 : decode cX9_split 12 = .ok (.iload_n 3, 1) := by decide +kernel
theorem dX9_split_13 : decode cX9_split 13 = .ok (.iconst (-1), 1) := by decide +kernel
theorem dX9_split_14 : decode cX9_split 14 = .ok (.if_icmp .ne 13, 3) := by decide +kernel
theorem dX9_split_17 : decode cX9_split 17 = .ok (.new 98, 3) := by decide +kernel
theorem dX9_split_20 : decode cX9_split 20 = .ok (.dup, 1) := by decide +kernel
theorem dX9_split_21 : decode cX9_split 21 = .ok (.ldc 100, 2) := by decide +kernel
theorem dX9_split_23 : decode cX9_split 23 = .ok (.invokespecial 102, 3) := by decide +kernel
theorem dX9_split_26 : decode cX9_split 26 = .ok (.athrow, 1) := by decide +kernel
theorem dX9_split_27 : decode cX9_split 27 = .ok (.iload_n 3, 1) := by decide +kernel
theorem dX9_split_28 : decode cX9_split 28 = .ok (.ireturn, 1) := by decide +kernel
theorem dX9_close_0 : decode cX9_close 0 = .ok (.aload_n 0, 1) := by decide +kernel
theorem dX9_close_1 : decode cX9_close 1 = .ok (.iload_n 1, 1) := by decide +kernel
theorem dX9_close_2 : decode cX9_close 2 = .ok (.invokevirtual 59, 3) := by decide +kernel
theorem dX9_close_5 : decode cX9_close 5 = .ok (.aload_n 0, 1) := by decide +kernel
theorem dX9_close_6 : decode cX9_close 6 = .ok (.iload_n 1, 1) := by decide +kernel
theorem dX9_close_7 : decode cX9_close 7 = .ok (.invokevirtual 103, 3) := by decide +kernel
theorem dX9_close_10 : decode cX9_close 10 = .ok (.ifCond .ne 13, 3) := by decide +kernel
theorem dX9_close_13 : decode cX9_close 13 = .ok (.new 98, 3) := by decide +kernel
theorem dX9_close_16 : decode cX9_close 16 = .ok (.dup, 1) := by decide +kernel
theorem dX9_close_17 : decode cX9_close 17 = .ok (.ldc 107, 2) := by decide +kernel
theorem dX9_close_19 : decode cX9_close 19 = .ok (.invokespecial 102, 3) := by decide +kernel
theorem dX9_close_22 : decode cX9_close 22 = .ok (.athrow, 1) := by decide +kernel
theorem dX9_close_23 : decode cX9_close 23 = .ok (.aload_n 0, 1) := by decide +kernel
theorem dX9_close_24 : decode cX9_close 24 = .ok (.getfield 88, 3) := by decide +kernel
theorem dX9_close_27 : decode cX9_close 27 = .ok (.ireturn, 1) := by decide +kernel
theorem dX9_focus_0 : decode cX9_focus 0 = .ok (.aload_n 0, 1) := by decide +kernel
theorem dX9_focus_1 : decode cX9_focus 1 = .ok (.iload_n 1, 1) := by decide +kernel
theorem dX9_focus_2 : decode cX9_focus 2 = .ok (.invokevirtual 59, 3) := by decide +kernel
theorem dX9_focus_5 : decode cX9_focus 5 = .ok (.aload_n 0, 1) := by decide +kernel
theorem dX9_focus_6 : decode cX9_focus 6 = .ok (.iload_n 1, 1) := by decide +kernel
theorem dX9_focus_7 : decode cX9_focus 7 = .ok (.putfield 88, 3) := by decide +kernel
theorem dX9_focus_10 : decode cX9_focus 10 = .ok (.return_, 1) := by decide +kernel
theorem dX9_copy_0 : decode cX9_copy 0 = .ok (.aload_n 0, 1) := by decide +kernel
theorem dX9_copy_1 : decode cX9_copy 1 = .ok (.iload_n 1, 1) := by decide +kernel
theorem dX9_copy_2 : decode cX9_copy 2 = .ok (.invokevirtual 59, 3) := by decide +kernel
theorem dX9_copy_5 : decode cX9_copy 5 = .ok (.aload_n 0, 1) := by decide +kernel
theorem dX9_copy_6 : decode cX9_copy 6 = .ok (.getfield 11, 3) := by decide +kernel
theorem dX9_copy_9 : decode cX9_copy 9 = .ok (.iload_n 1, 1) := by decide +kernel
theorem dX9_copy_10 : decode cX9_copy 10 = .ok (.aaload, 1) := by decide +kernel
theorem dX9_copy_11 : decode cX9_copy 11 = .ok (.iload_n 2, 1) := by decide +kernel
theorem dX9_copy_12 : decode cX9_copy 12 = .ok (.invokevirtual 109, 3) := by decide +kernel
theorem dX9_copy_15 : decode cX9_copy 15 = .ok (.aload_n 0, 1) := by decide +kernel
theorem dX9_copy_16 : decode cX9_copy 16 = .ok (.getfield 11, 3) := by decide +kernel
theorem dX9_copy_19 : decode cX9_copy 19 = .ok (.iload_n 1, 1) := by decide +kernel
theorem dX9_copy_20 : decode cX9_copy 20 = .ok (.aaload, 1) := by decide +kernel
theorem dX9_copy_21 : decode cX9_copy 21 = .ok (.iload_n 3, 1) := by decide +kernel
theorem dX9_copy_22 : decode cX9_copy 22 = .ok (.invokevirtual 113, 3) := by decide +kernel
theorem dX9_copy_25 : decode cX9_copy 25 = .ok (.aload_n 0, 1) := by decide +kernel
theorem dX9_copy_26 : decode cX9_copy 26 = .ok (.getfield 11, 3) := by decide +kernel
theorem dX9_copy_29 : decode cX9_copy 29 = .ok (.iload_n 1, 1) := by decide +kernel
theorem dX9_copy_30 : decode cX9_copy 30 = .ok (.aaload, 1) := by decide +kernel
theorem dX9_copy_31 : decode cX9_copy 31 = .ok (.invokevirtual 116, 3) := by decide +kernel
theorem dX9_copy_34 : decode cX9_copy 34 = .ok (.ireturn, 1) := by decide +kernel
theorem dX9_select_0 : decode cX9_select 0 = .ok (.aload_n 0, 1) := by decide +kernel
theorem dX9_select_1 : decode cX9_select 1 = .ok (.iload_n 1, 1) := by decide +kernel
theorem dX9_select_2 : decode cX9_select 2 = .ok (.invokevirtual 59, 3) := by decide +kernel
theorem dX9_select_5 : decode cX9_select 5 = .ok (.aload_n 0, 1) := by decide +kernel
theorem dX9_select_6 : decode cX9_select 6 = .ok (.iload_n 1, 1) := by decide +kernel
theorem dX9_select_7 : decode cX9_select 7 = .ok (.iload_n 2, 1) := by decide +kernel
theorem dX9_select_8 : decode cX9_select 8 = .ok (.iload_n 3, 1) := by decide +kernel
theorem dX9_select_9 : decode cX9_select 9 = .ok (.invokevirtual 120, 3) := by decide +kernel
theorem dX9_select_12 : decode cX9_select 12 = .ok (.aload_n 0, 1) := by decide +kernel
theorem dX9_select_13 : decode cX9_select 13 = .ok (.iload_n 1, 1) := by decide +kernel
theorem dX9_select_14 : decode cX9_select 14 = .ok (.iload 4, 2) := by decide +kernel
theorem dX9_select_16 : decode cX9_select 16 = .ok (.iload 5, 2) := by decide +kernel
theorem dX9_select_18 : decode cX9_select 18 = .ok (.invokevirtual 120, 3) := by decide +kernel
theorem dX9_select_21 : decode cX9_select 21 = .ok (.iload 4, 2) := by decide +kernel
theorem dX9_select_23 : decode cX9_select 23 = .ok (.iload_n 2, 1) := by decide +kernel
theorem dX9_select_24 : decode cX9_select 24 = .ok (.if_icmp .lt 15, 3) := by decide +kernel
theorem dX9_select_27 : decode cX9_select 27 = .ok (.iload 4, 2) := by decide +kernel
theorem dX9_select_29 : decode cX9_select 29 = .ok (.iload_n 2, 1) := by decide +kernel
theorem dX9_select_30 : decode cX9_select 30 = .ok (.if_icmp .ne 19, 3) := by decide +kernel
theorem dX9_select_33 : decode cX9_select 33 = .ok (.iload 5, 2) := by decide +kernel
theorem dX9_select_35 : decode cX9_select 35 = .ok (.iload_n 3, 1) := by decide +kernel
theorem dX9_select_36 : decode cX9_select 36 = .ok (.if_icmp .ge 13, 3) := by decide +kernel
theorem dX9_select_39 : decode cX9_select 39 = .ok (.new 63, 3) := by decide +kernel
theorem dX9_select_42 : decode cX9_select 42 = .ok (.dup, 1) := by decide +kernel
theorem dX9_select_43 : decode cX9_select 43 = .ok (.ldc 124, 2) := by decide +kernel
theorem dX9_select_45 : decode cX9_select 45 = .ok (.invokespecial 67, 3) := by decide +kernel
theorem dX9_select_48 : decode cX9_select 48 = .ok (.athrow, 1) := by decide +kernel
theorem dX9_select_49 : decode cX9_select 49 = .ok (.aload_n 0, 1) := by decide +kernel
theorem dX9_select_50 : decode cX9_select 50 = .ok (.iconst 0, 1) := by decide +kernel
theorem dX9_select_51 : decode cX9_select 51 = .ok (.putfield 126, 3) := by decide +kernel
theorem dX9_select_54 : decode cX9_select 54 = .ok (.aload_n 0, 1) := by decide +kernel
theorem dX9_select_55 : decode cX9_select 55 = .ok (.getfield 11, 3) := by decide +kernel
theorem dX9_select_58 : decode cX9_select 58 = .ok (.iload_n 1, 1) := by decide +kernel
theorem dX9_select_59 : decode cX9_select 59 = .ok (.aaload, 1) := by decide +kernel
theorem dX9_select_60 : decode cX9_select 60 = .ok (.getfield 129, 3) := by decide +kernel
theorem dX9_select_63 : decode cX9_select 63 = .ok (.getfield 133, 3) := by decide +kernel
theorem dX9_select_66 : decode cX9_select 66 = .ok (.iconst 1, 1) := by decide +kernel
theorem dX9_select_67 : decode cX9_select 67 = .ok (.isub, 1) := by decide +kernel
theorem dX9_select_68 : decode cX9_select 68 = .ok (.istore 6, 2) := by decide +kernel
theorem dX9_select_70 : decode cX9_select 70 = .ok (.iload_n 2, 1) := by decide +kernel
theorem dX9_select_71 : decode cX9_select 71 = .ok (.istore 7, 2) := by decide +kernel
theorem dX9_select_73 : decode cX9_select 73 = .ok (.iload 7, 2) := by decide +kernel
theorem dX9_select_75 : decode cX9_select 75 = .ok (.iload 4, 2) := by decide +kernel
theorem dX9_select_77 : decode cX9_select 77 = .ok (.if_icmp .gt 66, 3) := by decide +kernel
theorem dX9_select_80 : decode cX9_select 80 = .ok (.iload 7, 2) := by decide +kernel
theorem dX9_select_82 : decode cX9_select 82 = .ok (.iload_n 2, 1) := by decide +kernel
theorem dX9_select_83 : decode cX9_select 83 = .ok (.if_icmp .le 9, 3) := by decide +kernel
theorem dX9_select_86 : decode cX9_select 86 = .ok (.aload_n 0, 1) := by decide +kernel
theorem dX9_select_87 : decode cX9_select 87 = .ok (.bipush 10, 2) := by decide +kernel
theorem dX9_select_89 : decode cX9_select 89 = .ok (.invokevirtual 138, 3) := by decide +kernel
theorem dX9_select_92 : decode cX9_select 92 = .ok (.aload_n 0, 1) := by decide +kernel
theorem dX9_select_93 : decode cX9_select 93 = .ok (.getfield 11, 3) := by decide +kernel
theorem dX9_select_96 : decode cX9_select 96 = .ok (.iload_n 1, 1) := by decide +kernel
theorem dX9_select_97 : decode cX9_select 97 = .ok (.aaload, 1) := by decide +kernel
theorem dX9_select_98 : decode cX9_select 98 = .ok (.iload 7, 2) := by decide +kernel
theorem dX9_select_100 : decode cX9_select 100 = .ok (.aload_n 0, 1) := by decide +kernel
theorem dX9_select_101 : decode cX9_select 101 = .ok (.getfield 50, 3) := by decide +kernel
theorem dX9_select_104 : decode cX9_select 104 = .ok (.iconst 0, 1) := by decide +kernel
theorem dX9_select_105 : decode cX9_select 105 = .ok (.invokevirtual 141, 3) := by decide +kernel
theorem dX9_select_108 : decode cX9_select 108 = .ok (.aload_n 0, 1) := by decide +kernel
theorem dX9_select_109 : decode cX9_select 109 = .ok (.iload 7, 2) := by decide +kernel
theorem dX9_select_111 : decode cX9_select 111 = .ok (.iload_n 2, 1) := by decide +kernel
theorem dX9_select_112 : decode cX9_select 112 = .ok (.if_icmp .ne 7, 3) := by decide +kernel
theorem dX9_select_115 : decode cX9_select 115 = .ok (.iload_n 3, 1) := by decide +kernel
theorem dX9_select_116 : decode cX9_select 116 = .ok (.goto 4, 3) := by decide +kernel
theorem dX9_select_119 : decode cX9_select 119 = .ok (.iconst 0, 1) := by decide +kernel
theorem dX9_select_120 : decode cX9_select 120 = .ok (.iload 7, 2) := by decide +kernel
theorem dX9_select_122 : decode cX9_select 122 = .ok (.iload 4, 2) := by decide +kernel
theorem dX9_select_124 : decode cX9_select 124 = .ok (.if_icmp .ne 8, 3) := by decide +kernel
theorem dX9_select_127 : decode cX9_select 127 = .ok (.iload 5, 2) := by decide +kernel
theorem dX9_select_129 : decode cX9_select 129 = .ok (.goto 5, 3) := by decide +kernel
theorem dX9_select_132 : decode cX9_select 132 = .ok (.iload 6, 2) := by decide +kernel
theorem dX9_select_134 : decode cX9_select 134 = .ok (.invokevirtual 145, 3) := by decide +kernel
theorem dX9_select_137 : decode cX9_select 137 = .ok (.iinc 7 1, 3) := by decide +kernel
theorem dX9_select_140 : decode cX9_select 140 = .ok (.goto (-67), 3) := by decide +kernel
theorem dX9_select_143 : decode cX9_select 143 = .ok (.aload_n 0, 1) := by decide +kernel
theorem dX9_select_144 : decode cX9_select 144 = .ok (.getfield 126, 3) := by decide +kernel
theorem dX9_select_147 : decode cX9_select 147 = .ok (.ireturn, 1) := by decide +kernel
theorem dX9_redraw_0 : decode cX9_redraw 0 = .ok (.aload_n 0, 1) := by decide +kernel
theorem dX9_redraw_1 : decode cX9_redraw 1 = .ok (.invokevirtual 148, 3) := by decide +kernel
theorem dX9_redraw_4 : decode cX9_redraw 4 = .ok (.aload_n 0, 1) := by decide +kernel
theorem dX9_redraw_5 : decode cX9_redraw 5 = .ok (.getfield 43, 3) := by decide +kernel
theorem dX9_redraw_8 : decode cX9_redraw 8 = .ok (.invokevirtual 151, 3) := by decide +kernel
theorem dX9_redraw_11 : decode cX9_redraw 11 = .ok (.iconst 0, 1) := by decide +kernel
theorem dX9_redraw_12 : decode cX9_redraw 12 = .ok (.istore_n 1, 1) := by decide +kernel
theorem dX9_redraw_13 : decode cX9_redraw 13 = .ok (.iload_n 1, 1) := by decide +kernel
theorem dX9_redraw_14 : decode cX9_redraw 14 = .ok (.aload_n 0, 1) := by decide +kernel
theorem dX9_redraw_15 : decode cX9_redraw 15 = .ok (.getfield 27, 3) := by decide +kernel
theorem dX9_redraw_18 : decode cX9_redraw 18 = .ok (.if_icmp .ge 47, 3) := by decide +kernel
theorem dX9_redraw_21 : decode cX9_redraw 21 = .ok (.iconst 0, 1) := by decide +kernel
theorem dX9_redraw_22 : decode cX9_redraw 22 = .ok (.istore_n 2, 1) := by decide +kernel
theorem dX9_redraw_23 : decode cX9_redraw 23 = .ok (.iload_n 2, 1) := by decide +kernel
theorem dX9_redraw_24 : decode cX9_redraw 24 = .ok (.aload_n 0, 1) := by decide +kernel
theorem dX9_redraw_25 : decode cX9_redraw 25 = .ok (.getfield 23, 3) := by decide +kernel
theorem dX9_redraw_28 : decode cX9_redraw 28 = .ok (.if_icmp .ge 31, 3) := by decide +kernel
theorem dX9_redraw_31 : decode cX9_redraw 31 = .ok (.aload_n 0, 1) := by decide +kernel
theorem dX9_redraw_32 : decode cX9_redraw 32 = .ok (.getfield 43, 3) := by decide +kernel
theorem dX9_redraw_35 : decode cX9_redraw 35 = .ok (.iload_n 2, 1) := by decide +kernel
theorem dX9_redraw_36 : decode cX9_redraw 36 = .ok (.iload_n 1, 1) := by decide +kernel
theorem dX9_redraw_37 : decode cX9_redraw 37 = .ok (.aload_n 0, 1) := by decide +kernel
theorem dX9_redraw_38 : decode cX9_redraw 38 = .ok (.getfield 47, 3) := by decide +kernel
theorem dX9_redraw_41 : decode cX9_redraw 41 = .ok (.iload_n 1, 1) := by decide +kernel
theorem dX9_redraw_42 : decode cX9_redraw 42 = .ok (.aload_n 0, 1) := by decide +kernel
theorem dX9_redraw_43 : decode cX9_redraw 43 = .ok (.getfield 23, 3) := by decide +kernel
theorem dX9_redraw_46 : decode cX9_redraw 46 = .ok (.imul, 1) := by decide +kernel
theorem dX9_redraw_47 : decode cX9_redraw 47 = .ok (.iload_n 2, 1) := by decide +kernel
theorem dX9_redraw_48 : decode cX9_redraw 48 = .ok (.iadd, 1) := by decide +kernel
theorem dX9_redraw_49 : decode cX9_redraw 49 = .ok (.iaload, 1) := by decide +kernel
theorem dX9_redraw_50 : decode cX9_redraw 50 = .ok (.invokevirtual 152, 3) := by decide +kernel
theorem dX9_redraw_53 : decode cX9_redraw 53 = .ok (.iinc 2 1, 3) := by decide +kernel
theorem dX9_redraw_56 : decode cX9_redraw 56 = .ok (.goto (-33), 3) := by decide +kernel
theorem dX9_redraw_59 : decode cX9_redraw 59 = .ok (.iinc 1 1, 3) := by decide +kernel
theorem dX9_redraw_62 : decode cX9_redraw 62 = .ok (.goto (-49), 3) := by decide +kernel
theorem dX9_redraw_65 : decode cX9_redraw 65 = .ok (.aload_n 0, 1) := by decide +kernel
theorem dX9_redraw_66 : decode cX9_redraw 66 = .ok (.getfield 43, 3) := by decide +kernel
theorem dX9_redraw_69 : decode cX9_redraw 69 = .ok (.aload_n 0, 1) := by decide +kernel
theorem dX9_redraw_70 : decode cX9_redraw 70 = .ok (.invokevirtual 155, 3) := by decide +kernel
theorem dX9_redraw_73 : decode cX9_redraw 73 = .ok (.aload_n 0, 1) := by decide +kernel
theorem dX9_redraw_74 : decode cX9_redraw 74 = .ok (.invokevirtual 158, 3) := by decide +kernel
theorem dX9_redraw_77 : decode cX9_redraw 77 = .ok (.aload_n 0, 1) := by decide +kernel
theorem dX9_redraw_78 : decode cX9_redraw 78 = .ok (.getfield 11, 3) := by decide +kernel
theorem dX9_redraw_81 : decode cX9_redraw 81 = .ok (.aload_n 0, 1) := by decide +kernel
theorem dX9_redraw_82 : decode cX9_redraw 82 = .ok (.getfield 88, 3) := by decide +kernel
theorem dX9_redraw_85 : decode cX9_redraw 85 = .ok (.aaload, 1) := by decide +kernel
theorem dX9_redraw_86 : decode cX9_redraw 86 = .ok (.invokevirtual 161, 3) := by decide +kernel
theorem dX9_redraw_89 : decode cX9_redraw 89 = .ok (.invokevirtual 165, 3) := by decide +kernel
theorem dX9_redraw_92 : decode cX9_redraw 92 = .ok (.aload_n 0, 1) := by decide +kernel
theorem dX9_redraw_93 : decode cX9_redraw 93 = .ok (.getfield 43, 3) := by decide +kernel
theorem dX9_redraw_96 : decode cX9_redraw 96 = .ok (.getfield 169, 3) := by decide +kernel
theorem dX9_redraw_99 : decode cX9_redraw 99 = .ok (.ireturn, 1) := by decide +kernel
theorem dX9_out_0 : decode cX9_out 0 = .ok (.iload_n 1, 1) := by decide +kernel
theorem dX9_out_1 : decode cX9_out 1 = .ok (.ifCond .lt 14, 3) := by decide +kernel
theorem dX9_out_4 : decode cX9_out 4 = .ok (.iload_n 1, 1) := by decide +kernel
theorem dX9_out_5 : decode cX9_out 5 = .ok (.aload_n 0, 1) := by decide +kernel
theorem dX9_out_6 : decode cX9_out 6 = .ok (.getfield 43, 3) := by decide +kernel
theorem dX9_out_9 : decode cX9_out 9 = .ok (.getfield 169, 3) := by decide +kernel
theorem dX9_out_12 : decode cX9_out 12 = .ok (.if_icmp .lt 13, 3) := by decide +kernel
theorem dX9_out_15 : decode cX9_out 15 = .ok (.new 172, 3) := by decide +kernel
theorem dX9_out_18 : decode cX9_out 18 = .ok (.dup, 1) := by decide +kernel
theorem dX9_out_19 : decode cX9_out 19 = .ok (.ldc 174, 2) := by decide +kernel
theorem dX9_out_21 : decode cX9_out 21 = .ok (.invokespecial 176, 3) := by decide +kernel
theorem dX9_out_24 : decode cX9_out 24 = .ok (.athrow, 1) := by decide +kernel
theorem dX9_out_25 : decode cX9_out 25 = .ok (.aload_n 0, 1) := by decide +kernel
theorem dX9_out_26 : decode cX9_out 26 = .ok (.getfield 43, 3) := by decide +kernel
theorem dX9_out_29 : decode cX9_out 29 = .ok (.getfield 177, 3) := by decide +kernel
theorem dX9_out_32 : decode cX9_out 32 = .ok (.iload_n 1, 1) := by decide +kernel
theorem dX9_out_33 : decode cX9_out 33 = .ok (.iaload, 1) := by decide +kernel
theorem dX9_out_34 : decode cX9_out 34 = .ok (.ireturn, 1) := by decide +kernel
theorem dX9_cell_0 : decode cX9_cell 0 = .ok (.iload_n 1, 1) := by decide +kernel
theorem dX9_cell_1 : decode cX9_cell 1 = .ok (.ifCond .lt 23, 3) := by decide +kernel
theorem dX9_cell_4 : decode cX9_cell 4 = .ok (.iload_n 1, 1) := by decide +kernel
theorem dX9_cell_5 : decode cX9_cell 5 = .ok (.aload_n 0, 1) := by decide +kernel
theorem dX9_cell_6 : decode cX9_cell 6 = .ok (.getfield 23, 3) := by decide +kernel
theorem dX9_cell_9 : decode cX9_cell 9 = .ok (.if_icmp .ge 15, 3) := by decide +kernel
theorem dX9_cell_12 : decode cX9_cell 12 = .ok (.iload_n 2, 1) := by decide +kernel
theorem dX9_cell_13 : decode cX9_cell 13 = .ok (.ifCond .lt 11, 3) := by decide +kernel
theorem dX9_cell_16 : decode cX9_cell 16 = .ok (.iload_n 2, 1) := by decide +kernel
theorem dX9_cell_17 : decode cX9_cell 17 = .ok (.aload_n 0, 1) := by decide +kernel
theorem dX9_cell_18 : decode cX9_cell 18 = .ok (.getfield 27, 3) := by decide +kernel
theorem dX9_cell_21 : decode cX9_cell 21 = .ok (.if_icmp .lt 13, 3) := by decide +kernel
theorem dX9_cell_24 : decode cX9_cell 24 = .ok (.new 172, 3) := by decide +kernel
theorem dX9_cell_27 : decode cX9_cell 27 = .ok (.dup, 1) := by decide +kernel
theorem dX9_cell_28 : decode cX9_cell 28 = .ok (.ldc 180, 2) := by decide +kernel
theorem dX9_cell_30 : decode cX9_cell 30 = .ok (.invokespecial 176, 3) := by decide +kernel
theorem dX9_cell_33 : decode cX9_cell 33 = .ok (.athrow, 1) := by decide +kernel
theorem dX9_cell_34 : decode cX9_cell 34 = .ok (.aload_n 0, 1) := by decide +kernel
theorem dX9_cell_35 : decode cX9_cell 35 = .ok (.invokevirtual 148, 3) := by decide +kernel
theorem dX9_cell_38 : decode cX9_cell 38 = .ok (.aload_n 0, 1) := by decide +kernel
theorem dX9_cell_39 : decode cX9_cell 39 = .ok (.getfield 47, 3) := by decide +kernel
theorem dX9_cell_42 : decode cX9_cell 42 = .ok (.iload_n 2, 1) := by decide +kernel
theorem dX9_cell_43 : decode cX9_cell 43 = .ok (.aload_n 0, 1) := by decide +kernel
theorem dX9_cell_44 : decode cX9_cell 44 = .ok (.getfield 23, 3) := by decide +kernel
theorem dX9_cell_47 : decode cX9_cell 47 = .ok (.imul, 1) := by decide +kernel
theorem dX9_cell_48 : decode cX9_cell 48 = .ok (.iload_n 1, 1) := by decide +kernel
theorem dX9_cell_49 : decode cX9_cell 49 = .ok (.iadd, 1) := by decide +kernel
theorem dX9_cell_50 : decode cX9_cell 50 = .ok (.iaload, 1) := by decide +kernel
theorem dX9_cell_51 : decode cX9_cell 51 = .ok (.istore 4, 2) := by decide +kernel
theorem dX9_cell_53 : decode cX9_cell 53 = .ok (.iload_n 3, 1) := by decide +kernel
theorem dX9_cell_54 : decode cX9_cell 54 = .ok (.ifCond .eq 12, 3) := by decide +kernel
theorem dX9_cell_57 : decode cX9_cell 57 = .ok (.iload 4, 2) := by decide +kernel
theorem dX9_cell_59 : decode cX9_cell 59 = .ok (.sipush 128, 3) := by decide +kernel
theorem dX9_cell_62 : decode cX9_cell 62 = .ok (.idiv, 1) := by decide +kernel
theorem dX9_cell_63 : decode cX9_cell 63 = .ok (.goto 9, 3) := by decide +kernel
theorem dX9_cell_66 : decode cX9_cell 66 = .ok (.iload 4, 2) := by decide +kernel
theorem dX9_cell_68 : decode cX9_cell 68 = .ok (.sipush 128, 3) := by decide +kernel
theorem dX9_cell_71 : decode cX9_cell 71 = .ok (.irem, 1) := by decide +kernel
theorem dX9_cell_72 : decode cX9_cell 72 = .ok (.ireturn, 1) := by decide +kernel
theorem dX9_about_0 : decode cX9_about 0 = .ok (.aload_n 0, 1) := by decide +kernel
theorem dX9_about_1 : decode cX9_about 1 = .ok (.iload_n 1, 1) := by decide +kernel
theorem dX9_about_2 : decode cX9_about 2 = .ok (.invokevirtual 59, 3) := by decide +kernel
theorem dX9_about_5 : decode cX9_about 5 = .ok (.aload_n 0, 1) := by decide +kernel
theorem dX9_about_6 : decode cX9_about 6 = .ok (.getfield 36, 3) := by decide +kernel
theorem dX9_about_9 : decode cX9_about 9 = .ok (.getfield 182, 3) := by decide +kernel
theorem dX9_about_12 : decode cX9_about 12 = .ok (.iload_n 1, 1) := by decide +kernel
theorem dX9_about_13 : decode cX9_about 13 = .ok (.aaload, 1) := by decide +kernel
theorem dX9_about_14 : decode cX9_about 14 = .ok (.astore_n 3, 1) := by decide +kernel
theorem dX9_about_15 : decode cX9_about 15 = .ok (.aload_n 0, 1) := by decide +kernel
theorem dX9_about_16 : decode cX9_about 16 = .ok (.getfield 11, 3) := by decide +kernel
theorem dX9_about_19 : decode cX9_about 19 = .ok (.iload_n 1, 1) := by decide +kernel
theorem dX9_about_20 : decode cX9_about 20 = .ok (.aaload, 1) := by decide +kernel
theorem dX9_about_21 : decode cX9_about 21 = .ok (.getfield 129, 3) := by decide +kernel
theorem dX9_about_24 : decode cX9_about 24 = .ok (.astore 4, 2) := by decide +kernel
theorem dX9_about_26 : decode cX9_about 26 = .ok (.iload_n 2, 1) := by decide +kernel
theorem dX9_about_27 : decode cX9_about 27 = .ok (.tableswitch 189 0 10 #[57, 72, 87, 95, 103, 111, 119, 135, 146, 154, 174], 57) := by decide +kernel
theorem dX9_about_84 : decode cX9_about 84 = .ok (.aload_n 3, 1) := by decide +kernel
theorem dX9_about_85 : decode cX9_about 85 = .ok (.ifnonnull 7, 3) := by decide +kernel
theorem dX9_about_88 : decode cX9_about 88 = .ok (.iconst 0, 1) := by decide +kernel
theorem dX9_about_89 : decode cX9_about 89 = .ok (.goto 137, 3) := by decide +kernel
theorem dX9_about_92 : decode cX9_about 92 = .ok (.aload_n 3, 1) := by decide +kernel
theorem dX9_about_93 : decode cX9_about 93 = .ok (.getfield 186, 3) := by decide +kernel
theorem dX9_about_96 : decode cX9_about 96 = .ok (.goto 130, 3) := by decide +kernel
theorem dX9_about_99 : decode cX9_about 99 = .ok (.aload_n 3, 1) := by decide +kernel
theorem dX9_about_100 : decode cX9_about 100 = .ok (.ifnonnull 7, 3) := by decide +kernel
theorem dX9_about_103 : decode cX9_about 103 = .ok (.iconst 0, 1) := by decide +kernel
theorem dX9_about_104 : decode cX9_about 104 = .ok (.goto 122, 3) := by decide +kernel
theorem dX9_about_107 : decode cX9_about 107 = .ok (.aload_n 3, 1) := by decide +kernel
theorem dX9_about_108 : decode cX9_about 108 = .ok (.getfield 191, 3) := by decide +kernel
theorem dX9_about_111 : decode cX9_about 111 = .ok (.goto 115, 3) := by decide +kernel
theorem dX9_about_114 : decode cX9_about 114 = .ok (.aload 4, 2) := by decide +kernel
theorem dX9_about_116 : decode cX9_about 116 = .ok (.getfield 133, 3) := by decide +kernel
theorem dX9_about_119 : decode cX9_about 119 = .ok (.goto 107, 3) := by decide +kernel
theorem dX9_about_122 : decode cX9_about 122 = .ok (.aload 4, 2) := by decide +kernel
theorem dX9_about_124 : decode cX9_about 124 = .ok (.getfield 194, 3) := by decide +kernel
theorem dX9_about_127 : decode cX9_about 127 = .ok (.goto 99, 3) := by decide +kernel
theorem dX9_about_130 : decode cX9_about 130 = .ok (.aload 4, 2) := by decide +kernel
theorem dX9_about_132 : decode cX9_about 132 = .ok (.getfield 197, 3) := by decide +kernel
theorem dX9_about_135 : decode cX9_about 135 = .ok (.goto 91, 3) := by decide +kernel
theorem dX9_about_138 : decode cX9_about 138 = .ok (.aload 4, 2) := by decide +kernel
theorem dX9_about_140 : decode cX9_about 140 = .ok (.getfield 198, 3) := by decide +kernel
theorem dX9_about_143 : decode cX9_about 143 = .ok (.goto 83, 3) := by decide +kernel
theorem dX9_about_146 : decode cX9_about 146 = .ok (.aload 4, 2) := by decide +kernel
theorem dX9_about_148 : decode cX9_about 148 = .ok (.getfield 199, 3) := by decide +kernel
theorem dX9_about_151 : decode cX9_about 151 = .ok (.ifCond .eq 7, 3) := by decide +kernel
theorem dX9_about_154 : decode cX9_about 154 = .ok (.iconst 1, 1) := by decide +kernel
theorem dX9_about_155 : decode cX9_about 155 = .ok (.goto 71, 3) := by decide +kernel
theorem dX9_about_158 : decode cX9_about 158 = .ok (.iconst 0, 1) := by decide +kernel
theorem dX9_about_159 : decode cX9_about 159 = .ok (.goto 67, 3) := by decide +kernel
theorem dX9_about_162 : decode cX9_about 162 = .ok (.aload 4, 2) := by decide +kernel
theorem dX9_about_164 : decode cX9_about 164 = .ok (.getfield 202, 3) := by decide +kernel
theorem dX9_about_167 : decode cX9_about 167 = .ok (.getfield 206, 3) := by decide +kernel
theorem dX9_about_170 : decode cX9_about 170 = .ok (.goto 56, 3) := by decide +kernel
theorem dX9_about_173 : decode cX9_about 173 = .ok (.aload 4, 2) := by decide +kernel
theorem dX9_about_175 : decode cX9_about 175 = .ok (.getfield 209, 3) := by decide +kernel
theorem dX9_about_178 : decode cX9_about 178 = .ok (.goto 48, 3) := by decide +kernel
theorem dX9_about_181 : decode cX9_about 181 = .ok (.aload_n 0, 1) := by decide +kernel
theorem dX9_about_182 : decode cX9_about 182 = .ok (.getfield 11, 3) := by decide +kernel
theorem dX9_about_185 : decode cX9_about 185 = .ok (.iload_n 1, 1) := by decide +kernel
theorem dX9_about_186 : decode cX9_about 186 = .ok (.aaload, 1) := by decide +kernel
theorem dX9_about_187 : decode cX9_about 187 = .ok (.getfield 212, 3) := by decide +kernel
theorem dX9_about_190 : decode cX9_about 190 = .ok (.ifCond .eq 7, 3) := by decide +kernel
theorem dX9_about_193 : decode cX9_about 193 = .ok (.iconst 1, 1) := by decide +kernel
theorem dX9_about_194 : decode cX9_about 194 = .ok (.goto 32, 3) := by decide +kernel
theorem dX9_about_197 : decode cX9_about 197 = .ok (.iconst 0, 1) := by decide +kernel
theorem dX9_about_198 : decode cX9_about 198 = .ok (.goto 28, 3) := by decide +kernel
theorem dX9_about_201 : decode cX9_about 201 = .ok (.aload_n 0, 1) := by decide +kernel
theorem dX9_about_202 : decode cX9_about 202 = .ok (.getfield 11, 3) := by decide +kernel
theorem dX9_about_205 : decode cX9_about 205 = .ok (.iload_n 1, 1) := by decide +kernel
theorem dX9_about_206 : decode cX9_about 206 = .ok (.aaload, 1) := by decide +kernel
theorem dX9_about_207 : decode cX9_about 207 = .ok (.getfield 215, 3) := by decide +kernel
theorem dX9_about_210 : decode cX9_about 210 = .ok (.getfield 219, 3) := by decide +kernel
theorem dX9_about_213 : decode cX9_about 213 = .ok (.goto 13, 3) := by decide +kernel
theorem dX9_about_216 : decode cX9_about 216 = .ok (.new 63, 3) := by decide +kernel
theorem dX9_about_219 : decode cX9_about 219 = .ok (.dup, 1) := by decide +kernel
theorem dX9_about_220 : decode cX9_about 220 = .ok (.ldc 224, 2) := by decide +kernel
theorem dX9_about_222 : decode cX9_about 222 = .ok (.invokespecial 67, 3) := by decide +kernel
theorem dX9_about_225 : decode cX9_about 225 = .ok (.athrow, 1) := by decide +kernel
theorem dX9_about_226 : decode cX9_about 226 = .ok (.ireturn, 1) := by decide +kernel
theorem dX9_input_0 : decode cX9_input 0 = .ok (.aload_n 0, 1) := by decide +kernel
theorem dX9_input_1 : decode cX9_input 1 = .ok (.iload_n 1, 1) := by decide +kernel
theorem dX9_input_2 : decode cX9_input 2 = .ok (.invokevirtual 59, 3) := by decide +kernel
theorem dX9_input_5 : decode cX9_input 5 = .ok (.aload_n 0, 1) := by decide +kernel
theorem dX9_input_6 : decode cX9_input 6 = .ok (.getfield 11, 3) := by decide +kernel
theorem dX9_input_9 : decode cX9_input 9 = .ok (.iload_n 1, 1) := by decide +kernel
theorem dX9_input_10 : decode cX9_input 10 = .ok (.aaload, 1) := by decide +kernel
theorem dX9_input_11 : decode cX9_input 11 = .ok (.getfield 215, 3) := by decide +kernel
theorem dX9_input_14 : decode cX9_input 14 = .ok (.astore_n 3, 1) := by decide +kernel
theorem dX9_input_15 : decode cX9_input 15 = .ok (.iload_n 2, 1) := by decide +kernel
theorem dX9_input_16 : decode cX9_input 16 = .ok (.ifCond .lt 11, 3) := by decide +kernel
theorem dX9_input_19 : decode cX9_input 19 = .ok (.iload_n 2, 1) := by decide +kernel
theorem dX9_input_20 : decode cX9_input 20 = .ok (.aload_n 3, 1) := by decide +kernel
theorem dX9_input_21 : decode cX9_input 21 = .ok (.invokevirtual 226, 3) := by decide +kernel
theorem dX9_input_24 : decode cX9_input 24 = .ok (.if_icmp .lt 13, 3) := by decide +kernel
theorem dX9_input_27 : decode cX9_input 27 = .ok (.new 172, 3) := by decide +kernel
theorem dX9_input_30 : decode cX9_input 30 = .ok (.dup, 1) := by decide +kernel
theorem dX9_input_31 : decode cX9_input 31 = .ok (.ldc 229, 2) := by decide +kernel
theorem dX9_input_33 : decode cX9_input 33 = .ok (.invokespecial 176, 3) := by decide +kernel
theorem dX9_input_36 : decode cX9_input 36 = .ok (.athrow, 1) := by decide +kernel
theorem dX9_input_37 : decode cX9_input 37 = .ok (.aload_n 3, 1) := by decide +kernel
theorem dX9_input_38 : decode cX9_input 38 = .ok (.iload_n 2, 1) := by decide +kernel
theorem dX9_input_39 : decode cX9_input 39 = .ok (.invokevirtual 231, 3) := by decide +kernel
theorem dX9_input_42 : decode cX9_input 42 = .ok (.ireturn, 1) := by decide +kernel
theorem dX9_copied_0 : decode cX9_copied 0 = .ok (.iload_n 1, 1) := by decide +kernel
theorem dX9_copied_1 : decode cX9_copied 1 = .ok (.ifCond .lt 11, 3) := by decide +kernel
theorem dX9_copied_4 : decode cX9_copied 4 = .ok (.iload_n 1, 1) := by decide +kernel
theorem dX9_copied_5 : decode cX9_copied 5 = .ok (.aload_n 0, 1) := by decide +kernel
theorem dX9_copied_6 : decode cX9_copied 6 = .ok (.getfield 126, 3) := by decide +kernel
theorem dX9_copied_9 : decode cX9_copied 9 = .ok (.if_icmp .lt 13, 3) := by decide +kernel
theorem dX9_copied_12 : decode cX9_copied 12 = .ok (.new 172, 3) := by decide +kernel
theorem dX9_copied_15 : decode cX9_copied 15 = .ok (.dup, 1) := by decide +kernel
theorem dX9_copied_16 : decode cX9_copied 16 = .ok (.ldc 235, 2) := by decide +kernel
theorem dX9_copied_18 : decode cX9_copied 18 = .ok (.invokespecial 176, 3) := by decide +kernel
theorem dX9_copied_21 : decode cX9_copied 21 = .ok (.athrow, 1) := by decide +kernel
theorem dX9_copied_22 : decode cX9_copied 22 = .ok (.aload_n 0, 1) := by decide +kernel
theorem dX9_copied_23 : decode cX9_copied 23 = .ok (.getfield 15, 3) := by decide +kernel
theorem dX9_copied_26 : decode cX9_copied 26 = .ok (.iload_n 1, 1) := by decide +kernel
theorem dX9_copied_27 : decode cX9_copied 27 = .ok (.iaload, 1) := by decide +kernel
theorem dX9_copied_28 : decode cX9_copied 28 = .ok (.ireturn, 1) := by decide +kernel
theorem dX9_count_0 : decode cX9_count 0 = .ok (.iload_n 1, 1) := by decide +kernel
theorem dX9_count_1 : decode cX9_count 1 = .ok (.tableswitch 100 0 5 #[39, 49, 56, 63, 70, 93], 39) := by decide +kernel
theorem dX9_count_40 : decode cX9_count 40 = .ok (.aload_n 0, 1) := by decide +kernel
theorem dX9_count_41 : decode cX9_count 41 = .ok (.getfield 36, 3) := by decide +kernel
theorem dX9_count_44 : decode cX9_count 44 = .ok (.invokevirtual 237, 3) := by decide +kernel
theorem dX9_count_47 : decode cX9_count 47 = .ok (.goto 64, 3) := by decide +kernel
theorem dX9_count_50 : decode cX9_count 50 = .ok (.aload_n 0, 1) := by decide +kernel
theorem dX9_count_51 : decode cX9_count 51 = .ok (.getfield 88, 3) := by decide +kernel
theorem dX9_count_54 : decode cX9_count 54 = .ok (.goto 57, 3) := by decide +kernel
theorem dX9_count_57 : decode cX9_count 57 = .ok (.aload_n 0, 1) := by decide +kernel
theorem dX9_count_58 : decode cX9_count 58 = .ok (.invokevirtual 155, 3) := by decide +kernel
theorem dX9_count_61 : decode cX9_count 61 = .ok (.goto 50, 3) := by decide +kernel
theorem dX9_count_64 : decode cX9_count 64 = .ok (.aload_n 0, 1) := by decide +kernel
theorem dX9_count_65 : decode cX9_count 65 = .ok (.invokevirtual 158, 3) := by decide +kernel
theorem dX9_count_68 : decode cX9_count 68 = .ok (.goto 43, 3) := by decide +kernel
theorem dX9_count_71 : decode cX9_count 71 = .ok (.aload_n 0, 1) := by decide +kernel
theorem dX9_count_72 : decode cX9_count 72 = .ok (.getfield 11, 3) := by decide +kernel
theorem dX9_count_75 : decode cX9_count 75 = .ok (.aload_n 0, 1) := by decide +kernel
theorem dX9_count_76 : decode cX9_count 76 = .ok (.getfield 88, 3) := by decide +kernel
theorem dX9_count_79 : decode cX9_count 79 = .ok (.aaload, 1) := by decide +kernel
theorem dX9_count_80 : decode cX9_count 80 = .ok (.invokevirtual 161, 3) := by decide +kernel
theorem dX9_count_83 : decode cX9_count 83 = .ok (.ifCond .eq 7, 3) := by decide +kernel
theorem dX9_count_86 : decode cX9_count 86 = .ok (.iconst 1, 1) := by decide +kernel
theorem dX9_count_87 : decode cX9_count 87 = .ok (.goto 24, 3) := by decide +kernel
theorem dX9_count_90 : decode cX9_count 90 = .ok (.iconst 0, 1) := by decide +kernel
theorem dX9_count_91 : decode cX9_count 91 = .ok (.goto 20, 3) := by decide +kernel
theorem dX9_count_94 : decode cX9_count 94 = .ok (.aload_n 0, 1) := by decide +kernel
theorem dX9_count_95 : decode cX9_count 95 = .ok (.getfield 126, 3) := by decide +kernel
theorem dX9_count_98 : decode cX9_count 98 = .ok (.goto 13, 3) := by decide +kernel
theorem dX9_count_101 : decode cX9_count 101 = .ok (.new 63, 3) := by decide +kernel
theorem dX9_count_104 : decode cX9_count 104 = .ok (.dup, 1) := by decide +kernel
theorem dX9_count_105 : decode cX9_count 105 = .ok (.ldc 239, 2) := by decide +kernel
theorem dX9_count_107 : decode cX9_count 107 = .ok (.invokespecial 67, 3) := by decide +kernel
theorem dX9_count_110 : decode cX9_count 110 = .ok (.athrow, 1) := by decide +kernel
theorem dX9_count_111 : decode cX9_count 111 = .ok (.ireturn, 1) := by decide +kernel
theorem dX9_nearest_0 : decode cX9_nearest 0 = .ok (.iload_n 1, 1) := by decide +kernel
theorem dX9_nearest_1 : decode cX9_nearest 1 = .ok (.iload_n 2, 1) := by decide +kernel
theorem dX9_nearest_2 : decode cX9_nearest 2 = .ok (.iload_n 0, 1) := by decide +kernel
theorem dX9_nearest_3 : decode cX9_nearest 3 = .ok (.invokestatic 241, 3) := by decide +kernel
theorem dX9_nearest_6 : decode cX9_nearest 6 = .ok (.invokestatic 247, 3) := by decide +kernel
theorem dX9_nearest_9 : decode cX9_nearest 9 = .ok (.ireturn, 1) := by decide +kernel
theorem dX9_checkPane_0 : decode cX9_checkPane 0 = .ok (.aload_n 0, 1) := by decide +kernel
theorem dX9_checkPane_1 : decode cX9_checkPane 1 = .ok (.getfield 36, 3) := by decide +kernel
theorem dX9_checkPane_4 : decode cX9_checkPane 4 = .ok (.iload_n 1, 1) := by decide +kernel
theorem dX9_checkPane_5 : decode cX9_checkPane 5 = .ok (.invokevirtual 250, 3) := by decide +kernel
theorem dX9_checkPane_8 : decode cX9_checkPane 8 = .ok (.ifCond .ne 13, 3) := by decide +kernel
theorem dX9_checkPane_11 : decode cX9_checkPane 11 = .ok (.new 172, 3) := by decide +kernel
theorem dX9_checkPane_14 : decode cX9_checkPane 14 = .ok (.dup, 1) := by decide +kernel
theorem dX9_checkPane_15 : decode cX9_checkPane 15 = .ok (.ldc 253, 2) := by decide +kernel
theorem dX9_checkPane_17 : decode cX9_checkPane 17 = .ok (.invokespecial 176, 3) := by decide +kernel
theorem dX9_checkPane_20 : decode cX9_checkPane 20 = .ok (.athrow, 1) := by decide +kernel
theorem dX9_checkPane_21 : decode cX9_checkPane 21 = .ok (.return_, 1) := by decide +kernel
theorem dX9_checkPlace_0 : decode cX9_checkPlace 0 = .ok (.aload_n 0, 1) := by decide +kernel
theorem dX9_checkPlace_1 : decode cX9_checkPlace 1 = .ok (.getfield 11, 3) := by decide +kernel
theorem dX9_checkPlace_4 : decode cX9_checkPlace 4 = .ok (.iload_n 1, 1) := by decide +kernel
theorem dX9_checkPlace_5 : decode cX9_checkPlace 5 = .ok (.aaload, 1) := by decide +kernel
theorem dX9_checkPlace_6 : decode cX9_checkPlace 6 = .ok (.getfield 129, 3) := by decide +kernel
theorem dX9_checkPlace_9 : decode cX9_checkPlace 9 = .ok (.astore 4, 2) := by decide +kernel
theorem dX9_checkPlace_11 : decode cX9_checkPlace 11 = .ok (.iload_n 2, 1) := by decide +kernel
theorem dX9_checkPlace_12 : decode cX9_checkPlace 12 = .ok (.ifCond .lt 25, 3) := by decide +kernel
theorem dX9_checkPlace_15 : decode cX9_checkPlace 15 = .ok (.iload_n 2, 1) := by decide +kernel
theorem dX9_checkPlace_16 : decode cX9_checkPlace 16 = .ok (.aload 4, 2) := by decide +kernel
theorem dX9_checkPlace_18 : decode cX9_checkPlace 18 = .ok (.getfield 194, 3) := by decide +kernel
theorem dX9_checkPlace_21 : decode cX9_checkPlace 21 = .ok (.if_icmp .ge 16, 3) := by decide +kernel
theorem dX9_checkPlace_24 : decode cX9_checkPlace 24 = .ok (.iload_n 3, 1) := by decide +kernel
theorem dX9_checkPlace_25 : decode cX9_checkPlace 25 = .ok (.ifCond .lt 12, 3) := by decide +kernel
theorem dX9_checkPlace_28 : decode cX9_checkPlace 28 = .ok (.iload_n 3, 1) := by decide +kernel
theorem dX9_checkPlace_29 : decode cX9_checkPlace 29 = .ok (.aload 4, 2) := by decide +kernel
theorem dX9_checkPlace_31 : decode cX9_checkPlace 31 = .ok (.getfield 133, 3) := by decide +kernel
theorem dX9_checkPlace_34 : decode cX9_checkPlace 34 = .ok (.if_icmp .lt 13, 3) := by decide +kernel
theorem dX9_checkPlace_37 : decode cX9_checkPlace 37 = .ok (.new 172, 3) := by decide +kernel
theorem dX9_checkPlace_40 : decode cX9_checkPlace 40 = .ok (.dup, 1) := by decide +kernel
theorem dX9_checkPlace_41 : decode cX9_checkPlace 41 = .ok (.ldc 255, 2) := by decide +kernel
theorem dX9_checkPlace_43 : decode cX9_checkPlace 43 = .ok (.invokespecial 176, 3) := by decide +kernel
theorem dX9_checkPlace_46 : decode cX9_checkPlace 46 = .ok (.athrow, 1) := by decide +kernel
theorem dX9_checkPlace_47 : decode cX9_checkPlace 47 = .ok (.return_, 1) := by decide +kernel
theorem dX9_command_0 : decode cX9_command 0 = .ok (.iload_n 1, 1) := by decide +kernel
theorem dX9_command_1 : decode cX9_command 1 = .ok (.lookupswitch 184 #[(2, 165), (34, 67), (37, 80), (91, 123), (93, 158), (111, 93), (120, 111)], 67) := by decide +kernel
theorem dX9_command_68 : decode cX9_command 68 = .ok (.aload_n 0, 1) := by decide +kernel
theorem dX9_command_69 : decode cX9_command 69 = .ok (.aload_n 0, 1) := by decide +kernel
theorem dX9_command_70 : decode cX9_command 70 = .ok (.getfield 88, 3) := by decide +kernel
theorem dX9_command_73 : decode cX9_command 73 = .ok (.iconst 1, 1) := by decide +kernel
theorem dX9_command_74 : decode cX9_command 74 = .ok (.invokevirtual 94, 3) := by decide +kernel
theorem dX9_command_77 : decode cX9_command 77 = .ok (.pop, 1) := by decide +kernel
theorem dX9_command_78 : decode cX9_command 78 = .ok (.goto 107, 3) := by decide +kernel
theorem dX9_command_81 : decode cX9_command 81 = .ok (.aload_n 0, 1) := by decide +kernel
theorem dX9_command_82 : decode cX9_command 82 = .ok (.aload_n 0, 1) := by decide +kernel
theorem dX9_command_83 : decode cX9_command 83 = .ok (.getfield 88, 3) := by decide +kernel
theorem dX9_command_86 : decode cX9_command 86 = .ok (.iconst 0, 1) := by decide +kernel
theorem dX9_command_87 : decode cX9_command 87 = .ok (.invokevirtual 94, 3) := by decide +kernel
theorem dX9_command_90 : decode cX9_command 90 = .ok (.pop, 1) := by decide +kernel
theorem dX9_command_91 : decode cX9_command 91 = .ok (.goto 94, 3) := by decide +kernel
theorem dX9_command_94 : decode cX9_command 94 = .ok (.aload_n 0, 1) := by decide +kernel
theorem dX9_command_95 : decode cX9_command 95 = .ok (.aload_n 0, 1) := by decide +kernel
theorem dX9_command_96 : decode cX9_command 96 = .ok (.getfield 36, 3) := by decide +kernel
theorem dX9_command_99 : decode cX9_command 99 = .ok (.aload_n 0, 1) := by decide +kernel
theorem dX9_command_100 : decode cX9_command 100 = .ok (.getfield 88, 3) := by decide +kernel
theorem dX9_command_103 : decode cX9_command 103 = .ok (.invokevirtual 257, 3) := by decide +kernel
theorem dX9_command_106 : decode cX9_command 106 = .ok (.putfield 88, 3) := by decide +kernel
theorem dX9_command_109 : decode cX9_command 109 = .ok (.goto 76, 3) := by decide +kernel
theorem dX9_command_112 : decode cX9_command 112 = .ok (.aload_n 0, 1) := by decide +kernel
theorem dX9_command_113 : decode cX9_command 113 = .ok (.aload_n 0, 1) := by decide +kernel
theorem dX9_command_114 : decode cX9_command 114 = .ok (.getfield 88, 3) := by decide +kernel
theorem dX9_command_117 : decode cX9_command 117 = .ok (.invokevirtual 103, 3) := by decide +kernel
theorem dX9_command_120 : decode cX9_command 120 = .ok (.pop, 1) := by decide +kernel
theorem dX9_command_121 : decode cX9_command 121 = .ok (.goto 64, 3) := by decide +kernel
theorem dX9_command_124 : decode cX9_command 124 = .ok (.aload_n 0, 1) := by decide +kernel
theorem dX9_command_125 : decode cX9_command 125 = .ok (.getfield 11, 3) := by decide +kernel
theorem dX9_command_128 : decode cX9_command 128 = .ok (.aload_n 0, 1) := by decide +kernel
theorem dX9_command_129 : decode cX9_command 129 = .ok (.getfield 88, 3) := by decide +kernel
theorem dX9_command_132 : decode cX9_command 132 = .ok (.aaload, 1) := by decide +kernel
theorem dX9_command_133 : decode cX9_command 133 = .ok (.aload_n 0, 1) := by decide +kernel
theorem dX9_command_134 : decode cX9_command 134 = .ok (.getfield 11, 3) := by decide +kernel
theorem dX9_command_137 : decode cX9_command 137 = .ok (.aload_n 0, 1) := by decide +kernel
theorem dX9_command_138 : decode cX9_command 138 = .ok (.getfield 88, 3) := by decide +kernel
theorem dX9_command_141 : decode cX9_command 141 = .ok (.aaload, 1) := by decide +kernel
theorem dX9_command_142 : decode cX9_command 142 = .ok (.getfield 212, 3) := by decide +kernel
theorem dX9_command_145 : decode cX9_command 145 = .ok (.ifCond .ne 7, 3) := by decide +kernel
theorem dX9_command_148 : decode cX9_command 148 = .ok (.iconst 1, 1) := by decide +kernel
theorem dX9_command_149 : decode cX9_command 149 = .ok (.goto 4, 3) := by decide +kernel
theorem dX9_command_152 : decode cX9_command 152 = .ok (.iconst 0, 1) := by decide +kernel
theorem dX9_command_153 : decode cX9_command 153 = .ok (.invokevirtual 109, 3) := by decide +kernel
theorem dX9_command_156 : decode cX9_command 156 = .ok (.goto 29, 3) := by decide +kernel
theorem dX9_command_159 : decode cX9_command 159 = .ok (.aload_n 0, 1) := by decide +kernel
theorem dX9_command_160 : decode cX9_command 160 = .ok (.invokevirtual 260, 3) := by decide +kernel
theorem dX9_command_163 : decode cX9_command 163 = .ok (.goto 22, 3) := by decide +kernel
theorem dX9_command_166 : decode cX9_command 166 = .ok (.aload_n 0, 1) := by decide +kernel
theorem dX9_command_167 : decode cX9_command 167 = .ok (.getfield 11, 3) := by decide +kernel
theorem dX9_command_170 : decode cX9_command 170 = .ok (.aload_n 0, 1) := by decide +kernel
theorem dX9_command_171 : decode cX9_command 171 = .ok (.getfield 88, 3) := by decide +kernel
theorem dX9_command_174 : decode cX9_command 174 = .ok (.aaload, 1) := by decide +kernel
theorem dX9_command_175 : decode cX9_command 175 = .ok (.getfield 215, 3) := by decide +kernel
theorem dX9_command_178 : decode cX9_command 178 = .ok (.iconst 2, 1) := by decide +kernel
theorem dX9_command_179 : decode cX9_command 179 = .ok (.invokevirtual 263, 3) := by decide +kernel
theorem dX9_command_182 : decode cX9_command 182 = .ok (.goto 3, 3) := by decide +kernel
theorem dX9_command_185 : decode cX9_command 185 = .ok (.return_, 1) := by decide +kernel
theorem dX9_divide_0 : decode cX9_divide 0 = .ok (.aload_n 0, 1) := by decide +kernel
theorem dX9_divide_1 : decode cX9_divide 1 = .ok (.getfield 36, 3) := by decide +kernel
theorem dX9_divide_4 : decode cX9_divide 4 = .ok (.iload_n 1, 1) := by decide +kernel
theorem dX9_divide_5 : decode cX9_divide 5 = .ok (.iload_n 2, 1) := by decide +kernel
theorem dX9_divide_6 : decode cX9_divide 6 = .ok (.invokevirtual 266, 3) := by decide +kernel
theorem dX9_divide_9 : decode cX9_divide 9 = .ok (.istore_n 3, 1) := by decide +kernel
theorem dX9_divide_10 : decode cX9_divide 10 = .ok (.iload_n 3, 1) := by decide +kernel
theorem dX9_divide_11 : decode cX9_divide 11 = .ok (.iconst (-1), 1) := by decide +kernel
theorem dX9_divide_12 : decode cX9_divide 12 = .ok (.if_icmp .eq 21, 3) := by decide +kernel
theorem dX9_divide_15 : decode cX9_divide 15 = .ok (.aload_n 0, 1) := by decide +kernel
theorem dX9_divide_16 : decode cX9_divide 16 = .ok (.invokevirtual 53, 3) := by decide +kernel
theorem dX9_divide_19 : decode cX9_divide 19 = .ok (.aload_n 0, 1) := by decide +kernel
theorem dX9_divide_20 : decode cX9_divide 20 = .ok (.getfield 11, 3) := by decide +kernel
theorem dX9_divide_23 : decode cX9_divide 23 = .ok (.iload_n 3, 1) := by decide +kernel
theorem dX9_divide_24 : decode cX9_divide 24 = .ok (.aaload, 1) := by decide +kernel
theorem dX9_divide_25 : decode cX9_divide 25 = .ok (.invokevirtual 56, 3) := by decide +kernel
theorem dX9_divide_28 : decode cX9_divide 28 = .ok (.aload_n 0, 1) := by decide +kernel
theorem dX9_divide_29 : decode cX9_divide 29 = .ok (.iload_n 3, 1) := by decide +kernel
theorem dX9_divide_30 : decode cX9_divide 30 = .ok (.putfield 88, 3) := by decide +kernel
theorem dX9_divide_33 : decode cX9_divide 33 = .ok (.iload_n 3, 1) := by decide +kernel
theorem dX9_divide_34 : decode cX9_divide 34 = .ok (.ireturn, 1) := by decide +kernel
theorem dX9_remove_0 : decode cX9_remove 0 = .ok (.aload_n 0, 1) := by decide +kernel
theorem dX9_remove_1 : decode cX9_remove 1 = .ok (.getfield 36, 3) := by decide +kernel
theorem dX9_remove_4 : decode cX9_remove 4 = .ok (.iload_n 1, 1) := by decide +kernel
theorem dX9_remove_5 : decode cX9_remove 5 = .ok (.invokevirtual 267, 3) := by decide +kernel
theorem dX9_remove_8 : decode cX9_remove 8 = .ok (.istore_n 2, 1) := by decide +kernel
theorem dX9_remove_9 : decode cX9_remove 9 = .ok (.iload_n 2, 1) := by decide +kernel
theorem dX9_remove_10 : decode cX9_remove 10 = .ok (.ifCond .eq 27, 3) := by decide +kernel
theorem dX9_remove_13 : decode cX9_remove 13 = .ok (.aload_n 0, 1) := by decide +kernel
theorem dX9_remove_14 : decode cX9_remove 14 = .ok (.invokevirtual 53, 3) := by decide +kernel
theorem dX9_remove_17 : decode cX9_remove 17 = .ok (.aload_n 0, 1) := by decide +kernel
theorem dX9_remove_18 : decode cX9_remove 18 = .ok (.getfield 88, 3) := by decide +kernel
theorem dX9_remove_21 : decode cX9_remove 21 = .ok (.iload_n 1, 1) := by decide +kernel
theorem dX9_remove_22 : decode cX9_remove 22 = .ok (.if_icmp .ne 15, 3) := by decide +kernel
theorem dX9_remove_25 : decode cX9_remove 25 = .ok (.aload_n 0, 1) := by decide +kernel
theorem dX9_remove_26 : decode cX9_remove 26 = .ok (.aload_n 0, 1) := by decide +kernel
theorem dX9_remove_27 : decode cX9_remove 27 = .ok (.getfield 36, 3) := by decide +kernel
theorem dX9_remove_30 : decode cX9_remove 30 = .ok (.iconst 1, 1) := by decide +kernel
theorem dX9_remove_31 : decode cX9_remove 31 = .ok (.invokevirtual 268, 3) := by decide +kernel
theorem dX9_remove_34 : decode cX9_remove 34 = .ok (.putfield 88, 3) := by decide +kernel
theorem dX9_remove_37 : decode cX9_remove 37 = .ok (.iload_n 2, 1) := by decide +kernel
theorem dX9_remove_38 : decode cX9_remove 38 = .ok (.ireturn, 1) := by decide +kernel
theorem dX9_fitPanes_0 : decode cX9_fitPanes 0 = .ok (.iconst 0, 1) := by decide +kernel
theorem dX9_fitPanes_1 : decode cX9_fitPanes 1 = .ok (.istore_n 1, 1) := by decide +kernel
theorem dX9_fitPanes_2 : decode cX9_fitPanes 2 = .ok (.iload_n 1, 1) := by decide +kernel
theorem dX9_fitPanes_3 : decode cX9_fitPanes 3 = .ok (.bipush 8, 2) := by decide +kernel
theorem dX9_fitPanes_5 : decode cX9_fitPanes 5 = .ok (.if_icmp .ge 43, 3) := by decide +kernel
theorem dX9_fitPanes_8 : decode cX9_fitPanes 8 = .ok (.aload_n 0, 1) := by decide +kernel
theorem dX9_fitPanes_9 : decode cX9_fitPanes 9 = .ok (.getfield 36, 3) := by decide +kernel
theorem dX9_fitPanes_12 : decode cX9_fitPanes 12 = .ok (.getfield 182, 3) := by decide +kernel
theorem dX9_fitPanes_15 : decode cX9_fitPanes 15 = .ok (.iload_n 1, 1) := by decide +kernel
theorem dX9_fitPanes_16 : decode cX9_fitPanes 16 = .ok (.aaload, 1) := by decide +kernel
theorem dX9_fitPanes_17 : decode cX9_fitPanes 17 = .ok (.astore_n 2, 1) := by decide +kernel
theorem dX9_fitPanes_18 : decode cX9_fitPanes 18 = .ok (.aload_n 2, 1) := by decide +kernel
theorem dX9_fitPanes_19 : decode cX9_fitPanes 19 = .ok (.ifnull 23, 3) := by decide +kernel
theorem dX9_fitPanes_22 : decode cX9_fitPanes 22 = .ok (.aload_n 0, 1) := by decide +kernel
theorem dX9_fitPanes_23 : decode cX9_fitPanes 23 = .ok (.getfield 11, 3) := by decide +kernel
theorem dX9_fitPanes_26 : decode cX9_fitPanes 26 = .ok (.iload_n 1, 1) := by decide +kernel
theorem dX9_fitPanes_27 : decode cX9_fitPanes 27 = .ok (.aaload, 1) := by decide +kernel
theorem dX9_fitPanes_28 : decode cX9_fitPanes 28 = .ok (.getfield 129, 3) := by decide +kernel
theorem dX9_fitPanes_31 : decode cX9_fitPanes 31 = .ok (.aload_n 2, 1) := by decide +kernel
theorem dX9_fitPanes_32 : decode cX9_fitPanes 32 = .ok (.getfield 272, 3) := by decide +kernel
theorem dX9_fitPanes_35 : decode cX9_fitPanes 35 = .ok (.aload_n 2, 1) := by decide +kernel
theorem dX9_fitPanes_36 : decode cX9_fitPanes 36 = .ok (.getfield 273, 3) := by decide +kernel
theorem dX9_fitPanes_39 : decode cX9_fitPanes 39 = .ok (.invokevirtual 274, 3) := by decide +kernel
theorem dX9_fitPanes_42 : decode cX9_fitPanes 42 = .ok (.iinc 1 1, 3) := by decide +kernel
theorem dX9_fitPanes_45 : decode cX9_fitPanes 45 = .ok (.goto (-43), 3) := by decide +kernel
theorem dX9_fitPanes_48 : decode cX9_fitPanes 48 = .ok (.return_, 1) := by decide +kernel
theorem dX9_paste_0 : decode cX9_paste 0 = .ok (.iconst 0, 1) := by decide +kernel
theorem dX9_paste_1 : decode cX9_paste 1 = .ok (.istore_n 1, 1) := by decide +kernel
theorem dX9_paste_2 : decode cX9_paste 2 = .ok (.iload_n 1, 1) := by decide +kernel
theorem dX9_paste_3 : decode cX9_paste 3 = .ok (.aload_n 0, 1) := by decide +kernel
theorem dX9_paste_4 : decode cX9_paste 4 = .ok (.getfield 126, 3) := by decide +kernel
theorem dX9_paste_7 : decode cX9_paste 7 = .ok (.if_icmp .ge 30, 3) := by decide +kernel
theorem dX9_paste_10 : decode cX9_paste 10 = .ok (.aload_n 0, 1) := by decide +kernel
theorem dX9_paste_11 : decode cX9_paste 11 = .ok (.getfield 11, 3) := by decide +kernel
theorem dX9_paste_14 : decode cX9_paste 14 = .ok (.aload_n 0, 1) := by decide +kernel
theorem dX9_paste_15 : decode cX9_paste 15 = .ok (.getfield 88, 3) := by decide +kernel
theorem dX9_paste_18 : decode cX9_paste 18 = .ok (.aaload, 1) := by decide +kernel
theorem dX9_paste_19 : decode cX9_paste 19 = .ok (.getfield 215, 3) := by decide +kernel
theorem dX9_paste_22 : decode cX9_paste 22 = .ok (.aload_n 0, 1) := by decide +kernel
theorem dX9_paste_23 : decode cX9_paste 23 = .ok (.getfield 15, 3) := by decide +kernel
theorem dX9_paste_26 : decode cX9_paste 26 = .ok (.iload_n 1, 1) := by decide +kernel
theorem dX9_paste_27 : decode cX9_paste 27 = .ok (.iaload, 1) := by decide +kernel
theorem dX9_paste_28 : decode cX9_paste 28 = .ok (.invokevirtual 263, 3) := by decide +kernel
theorem dX9_paste_31 : decode cX9_paste 31 = .ok (.iinc 1 1, 3) := by decide +kernel
theorem dX9_paste_34 : decode cX9_paste 34 = .ok (.goto (-32), 3) := by decide +kernel
theorem dX9_paste_37 : decode cX9_paste 37 = .ok (.return_, 1) := by decide +kernel
theorem dX9_clipLine_0 : decode cX9_clipLine 0 = .ok (.iload_n 2, 1) := by decide +kernel
theorem dX9_clipLine_1 : decode cX9_clipLine 1 = .ok (.istore_n 3, 1) := by decide +kernel
theorem dX9_clipLine_2 : decode cX9_clipLine 2 = .ok (.iload_n 3, 1) := by decide +kernel
theorem dX9_clipLine_3 : decode cX9_clipLine 3 = .ok (.iload_n 1, 1) := by decide +kernel
theorem dX9_clipLine_4 : decode cX9_clipLine 4 = .ok (.if_icmp .lt 24, 3) := by decide +kernel
theorem dX9_clipLine_7 : decode cX9_clipLine 7 = .ok (.aload_n 0, 1) := by decide +kernel
theorem dX9_clipLine_8 : decode cX9_clipLine 8 = .ok (.getfield 50, 3) := by decide +kernel
theorem dX9_clipLine_11 : decode cX9_clipLine 11 = .ok (.iload_n 3, 1) := by decide +kernel
theorem dX9_clipLine_12 : decode cX9_clipLine 12 = .ok (.iaload, 1) := by decide +kernel
theorem dX9_clipLine_13 : decode cX9_clipLine 13 = .ok (.sipush 128, 3) := by decide +kernel
theorem dX9_clipLine_16 : decode cX9_clipLine 16 = .ok (.irem, 1) := by decide +kernel
theorem dX9_clipLine_17 : decode cX9_clipLine 17 = .ok (.bipush 32, 2) := by decide +kernel
theorem dX9_clipLine_19 : decode cX9_clipLine 19 = .ok (.if_icmp .ne 9, 3) := by decide +kernel
theorem dX9_clipLine_22 : decode cX9_clipLine 22 = .ok (.iinc 3 (-1), 3) := by decide +kernel
theorem dX9_clipLine_25 : decode cX9_clipLine 25 = .ok (.goto (-23), 3) := by decide +kernel
theorem dX9_clipLine_28 : decode cX9_clipLine 28 = .ok (.iload_n 1, 1) := by decide +kernel
theorem dX9_clipLine_29 : decode cX9_clipLine 29 = .ok (.istore 4, 2) := by decide +kernel
theorem dX9_clipLine_31 : decode cX9_clipLine 31 = .ok (.iload 4, 2) := by decide +kernel
theorem dX9_clipLine_33 : decode cX9_clipLine 33 = .ok (.iload_n 3, 1) := by decide +kernel
theorem dX9_clipLine_34 : decode cX9_clipLine 34 = .ok (.if_icmp .gt 24, 3) := by decide +kernel
theorem dX9_clipLine_37 : decode cX9_clipLine 37 = .ok (.aload_n 0, 1) := by decide +kernel
theorem dX9_clipLine_38 : decode cX9_clipLine 38 = .ok (.aload_n 0, 1) := by decide +kernel
theorem dX9_clipLine_39 : decode cX9_clipLine 39 = .ok (.getfield 50, 3) := by decide +kernel
theorem dX9_clipLine_42 : decode cX9_clipLine 42 = .ok (.iload 4, 2) := by decide +kernel
theorem dX9_clipLine_44 : decode cX9_clipLine 44 = .ok (.iaload, 1) := by decide +kernel
theorem dX9_clipLine_45 : decode cX9_clipLine 45 = .ok (.sipush 128, 3) := by decide +kernel
theorem dX9_clipLine_48 : decode cX9_clipLine 48 = .ok (.irem, 1) := by decide +kernel
theorem dX9_clipLine_49 : decode cX9_clipLine 49 = .ok (.invokevirtual 138, 3) := by decide +kernel
theorem dX9_clipLine_52 : decode cX9_clipLine 52 = .ok (.iinc 4 1, 3) := by decide +kernel
theorem dX9_clipLine_55 : decode cX9_clipLine 55 = .ok (.goto (-24), 3) := by decide +kernel
theorem dX9_clipLine_58 : decode cX9_clipLine 58 = .ok (.return_, 1) := by decide +kernel
theorem dX9_clipByte_0 : decode cX9_clipByte 0 = .ok (.aload_n 0, 1) := by decide +kernel
theorem dX9_clipByte_1 : decode cX9_clipByte 1 = .ok (.getfield 126, 3) := by decide +kernel
theorem dX9_clipByte_4 : decode cX9_clipByte 4 = .ok (.sipush 400, 3) := by decide +kernel
theorem dX9_clipByte_7 : decode cX9_clipByte 7 = .ok (.if_icmp .ge 23, 3) := by decide +kernel
theorem dX9_clipByte_10 : decode cX9_clipByte 10 = .ok (.aload_n 0, 1) := by decide +kernel
theorem dX9_clipByte_11 : decode cX9_clipByte 11 = .ok (.getfield 15, 3) := by decide +kernel
theorem dX9_clipByte_14 : decode cX9_clipByte 14 = .ok (.aload_n 0, 1) := by decide +kernel
theorem dX9_clipByte_15 : decode cX9_clipByte 15 = .ok (.getfield 126, 3) := by decide +kernel
theorem dX9_clipByte_18 : decode cX9_clipByte 18 = .ok (.iload_n 1, 1) := by decide +kernel
theorem dX9_clipByte_19 : decode cX9_clipByte 19 = .ok (.iastore, 1) := by decide +kernel
theorem dX9_clipByte_20 : decode cX9_clipByte 20 = .ok (.aload_n 0, 1) := by decide +kernel
theorem dX9_clipByte_21 : decode cX9_clipByte 21 = .ok (.dup, 1) := by decide +kernel
theorem dX9_clipByte_22 : decode cX9_clipByte 22 = .ok (.getfield 126, 3) := by decide +kernel
theorem dX9_clipByte_25 : decode cX9_clipByte 25 = .ok (.iconst 1, 1) := by decide +kernel
theorem dX9_clipByte_26 : decode cX9_clipByte 26 = .ok (.iadd, 1) := by decide +kernel
theorem dX9_clipByte_27 : decode cX9_clipByte 27 = .ok (.putfield 126, 3) := by decide +kernel
theorem dX9_clipByte_30 : decode cX9_clipByte 30 = .ok (.return_, 1) := by decide +kernel
theorem dX9_drawPicture_0 : decode cX9_drawPicture 0 = .ok (.aload_n 0, 1) := by decide +kernel
theorem dX9_drawPicture_1 : decode cX9_drawPicture 1 = .ok (.getfield 36, 3) := by decide +kernel
theorem dX9_drawPicture_4 : decode cX9_drawPicture 4 = .ok (.aload_n 0, 1) := by decide +kernel
theorem dX9_drawPicture_5 : decode cX9_drawPicture 5 = .ok (.getfield 47, 3) := by decide +kernel
theorem dX9_drawPicture_8 : decode cX9_drawPicture 8 = .ok (.aload_n 0, 1) := by decide +kernel
theorem dX9_drawPicture_9 : decode cX9_drawPicture 9 = .ok (.getfield 23, 3) := by decide +kernel
theorem dX9_drawPicture_12 : decode cX9_drawPicture 12 = .ok (.invokevirtual 277, 3) := by decide +kernel
theorem dX9_drawPicture_15 : decode cX9_drawPicture 15 = .ok (.iconst 0, 1) := by decide +kernel
theorem dX9_drawPicture_16 : decode cX9_drawPicture 16 = .ok (.istore_n 1, 1) := by decide +kernel
theorem dX9_drawPicture_17 : decode cX9_drawPicture 17 = .ok (.iload_n 1, 1) := by decide +kernel
theorem dX9_drawPicture_18 : decode cX9_drawPicture 18 = .ok (.bipush 8, 2) := by decide +kernel
theorem dX9_drawPicture_20 : decode cX9_drawPicture 20 = .ok (.if_icmp .ge 69, 3) := by decide +kernel
theorem dX9_drawPicture_23 : decode cX9_drawPicture 23 = .ok (.aload_n 0, 1) := by decide +kernel
theorem dX9_drawPicture_24 : decode cX9_drawPicture 24 = .ok (.getfield 36, 3) := by decide +kernel
theorem dX9_drawPicture_27 : decode cX9_drawPicture 27 = .ok (.getfield 182, 3) := by decide +kernel
theorem dX9_drawPicture_30 : decode cX9_drawPicture 30 = .ok (.iload_n 1, 1) := by decide +kernel
theorem dX9_drawPicture_31 : decode cX9_drawPicture 31 = .ok (.aaload, 1) := by decide +kernel
theorem dX9_drawPicture_32 : decode cX9_drawPicture 32 = .ok (.astore_n 2, 1) := by decide +kernel
theorem dX9_drawPicture_33 : decode cX9_drawPicture 33 = .ok (.aload_n 2, 1) := by decide +kernel
theorem dX9_drawPicture_34 : decode cX9_drawPicture 34 = .ok (.ifnull 49, 3) := by decide +kernel
theorem dX9_drawPicture_37 : decode cX9_drawPicture 37 = .ok (.iconst 0, 1) := by decide +kernel
theorem dX9_drawPicture_38 : decode cX9_drawPicture 38 = .ok (.istore_n 3, 1) := by decide +kernel
theorem dX9_drawPicture_39 : decode cX9_drawPicture 39 = .ok (.iload_n 3, 1) := by decide +kernel
theorem dX9_drawPicture_40 : decode cX9_drawPicture 40 = .ok (.aload_n 2, 1) := by decide +kernel
theorem dX9_drawPicture_41 : decode cX9_drawPicture 41 = .ok (.getfield 273, 3) := by decide +kernel
theorem dX9_drawPicture_44 : decode cX9_drawPicture 44 = .ok (.if_icmp .ge 39, 3) := by decide +kernel
theorem dX9_drawPicture_47 : decode cX9_drawPicture 47 = .ok (.aload_n 0, 1) := by decide +kernel
theorem dX9_drawPicture_48 : decode cX9_drawPicture 48 = .ok (.getfield 11, 3) := by decide +kernel
theorem dX9_drawPicture_51 : decode cX9_drawPicture 51 = .ok (.iload_n 1, 1) := by decide +kernel
theorem dX9_drawPicture_52 : decode cX9_drawPicture 52 = .ok (.aaload, 1) := by decide +kernel
theorem dX9_drawPicture_53 : decode cX9_drawPicture 53 = .ok (.iload_n 3, 1) := by decide +kernel
theorem dX9_drawPicture_54 : decode cX9_drawPicture 54 = .ok (.aload_n 0, 1) := by decide +kernel
theorem dX9_drawPicture_55 : decode cX9_drawPicture 55 = .ok (.getfield 47, 3) := by decide +kernel
theorem dX9_drawPicture_58 : decode cX9_drawPicture 58 = .ok (.aload_n 2, 1) := by decide +kernel
theorem dX9_drawPicture_59 : decode cX9_drawPicture 59 = .ok (.getfield 191, 3) := by decide +kernel
theorem dX9_drawPicture_62 : decode cX9_drawPicture 62 = .ok (.iload_n 3, 1) := by decide +kernel
theorem dX9_drawPicture_63 : decode cX9_drawPicture 63 = .ok (.iadd, 1) := by decide +kernel
theorem dX9_drawPicture_64 : decode cX9_drawPicture 64 = .ok (.aload_n 0, 1) := by decide +kernel
theorem dX9_drawPicture_65 : decode cX9_drawPicture 65 = .ok (.getfield 23, 3) := by decide +kernel
theorem dX9_drawPicture_68 : decode cX9_drawPicture 68 = .ok (.imul, 1) := by decide +kernel
theorem dX9_drawPicture_69 : decode cX9_drawPicture 69 = .ok (.aload_n 2, 1) := by decide +kernel
theorem dX9_drawPicture_70 : decode cX9_drawPicture 70 = .ok (.getfield 186, 3) := by decide +kernel
theorem dX9_drawPicture_73 : decode cX9_drawPicture 73 = .ok (.iadd, 1) := by decide +kernel
theorem dX9_drawPicture_74 : decode cX9_drawPicture 74 = .ok (.invokevirtual 141, 3) := by decide +kernel
theorem dX9_drawPicture_77 : decode cX9_drawPicture 77 = .ok (.iinc 3 1, 3) := by decide +kernel
theorem dX9_drawPicture_80 : decode cX9_drawPicture 80 = .ok (.goto (-41), 3) := by decide +kernel
theorem dX9_drawPicture_83 : decode cX9_drawPicture 83 = .ok (.iinc 1 1, 3) := by decide +kernel
theorem dX9_drawPicture_86 : decode cX9_drawPicture 86 = .ok (.goto (-69), 3) := by decide +kernel
theorem dX9_drawPicture_89 : decode cX9_drawPicture 89 = .ok (.return_, 1) := by decide +kernel
theorem dX9_cursorColumn_0 : decode cX9_cursorColumn 0 = .ok (.aload_n 0, 1) := by decide +kernel
theorem dX9_cursorColumn_1 : decode cX9_cursorColumn 1 = .ok (.getfield 36, 3) := by decide +kernel
theorem dX9_cursorColumn_4 : decode cX9_cursorColumn 4 = .ok (.getfield 182, 3) := by decide +kernel
theorem dX9_cursorColumn_7 : decode cX9_cursorColumn 7 = .ok (.aload_n 0, 1) := by decide +kernel
theorem dX9_cursorColumn_8 : decode cX9_cursorColumn 8 = .ok (.getfield 88, 3) := by decide +kernel
theorem dX9_cursorColumn_11 : decode cX9_cursorColumn 11 = .ok (.aaload, 1) := by decide +kernel
theorem dX9_cursorColumn_12 : decode cX9_cursorColumn 12 = .ok (.astore_n 1, 1) := by decide +kernel
theorem dX9_cursorColumn_13 : decode cX9_cursorColumn 13 = .ok (.aload_n 1, 1) := by decide +kernel
theorem dX9_cursorColumn_14 : decode cX9_cursorColumn 14 = .ok (.ifnonnull 7, 3) := by decide +kernel
theorem dX9_cursorColumn_17 : decode cX9_cursorColumn 17 = .ok (.iconst 0, 1) := by decide +kernel
theorem dX9_cursorColumn_18 : decode cX9_cursorColumn 18 = .ok (.goto 7, 3) := by decide +kernel
theorem dX9_cursorColumn_21 : decode cX9_cursorColumn 21 = .ok (.aload_n 1, 1) := by decide +kernel
theorem dX9_cursorColumn_22 : decode cX9_cursorColumn 22 = .ok (.getfield 186, 3) := by decide +kernel
theorem dX9_cursorColumn_25 : decode cX9_cursorColumn 25 = .ok (.aload_n 0, 1) := by decide +kernel
theorem dX9_cursorColumn_26 : decode cX9_cursorColumn 26 = .ok (.getfield 11, 3) := by decide +kernel
theorem dX9_cursorColumn_29 : decode cX9_cursorColumn 29 = .ok (.aload_n 0, 1) := by decide +kernel
theorem dX9_cursorColumn_30 : decode cX9_cursorColumn 30 = .ok (.getfield 88, 3) := by decide +kernel
theorem dX9_cursorColumn_33 : decode cX9_cursorColumn 33 = .ok (.aaload, 1) := by decide +kernel
theorem dX9_cursorColumn_34 : decode cX9_cursorColumn 34 = .ok (.getfield 129, 3) := by decide +kernel
theorem dX9_cursorColumn_37 : decode cX9_cursorColumn 37 = .ok (.getfield 197, 3) := by decide +kernel
theorem dX9_cursorColumn_40 : decode cX9_cursorColumn 40 = .ok (.iadd, 1) := by decide +kernel
theorem dX9_cursorColumn_41 : decode cX9_cursorColumn 41 = .ok (.ireturn, 1) := by decide +kernel
theorem dX9_cursorRow_0 : decode cX9_cursorRow 0 = .ok (.aload_n 0, 1) := by decide +kernel
theorem dX9_cursorRow_1 : decode cX9_cursorRow 1 = .ok (.getfield 36, 3) := by decide +kernel
theorem dX9_cursorRow_4 : decode cX9_cursorRow 4 = .ok (.getfield 182, 3) := by decide +kernel
theorem dX9_cursorRow_7 : decode cX9_cursorRow 7 = .ok (.aload_n 0, 1) := by decide +kernel
theorem dX9_cursorRow_8 : decode cX9_cursorRow 8 = .ok (.getfield 88, 3) := by decide +kernel
theorem dX9_cursorRow_11 : decode cX9_cursorRow 11 = .ok (.aaload, 1) := by decide +kernel
theorem dX9_cursorRow_12 : decode cX9_cursorRow 12 = .ok (.astore_n 1, 1) := by decide +kernel
theorem dX9_cursorRow_13 : decode cX9_cursorRow 13 = .ok (.aload_n 1, 1) := by decide +kernel
theorem dX9_cursorRow_14 : decode cX9_cursorRow 14 = .ok (.ifnonnull 7, 3) := by decide +kernel
theorem dX9_cursorRow_17 : decode cX9_cursorRow 17 = .ok (.iconst 0, 1) := by decide +kernel
theorem dX9_cursorRow_18 : decode cX9_cursorRow 18 = .ok (.goto 7, 3) := by decide +kernel
theorem dX9_cursorRow_21 : decode cX9_cursorRow 21 = .ok (.aload_n 1, 1) := by decide +kernel
theorem dX9_cursorRow_22 : decode cX9_cursorRow 22 = .ok (.getfield 191, 3) := by decide +kernel
theorem dX9_cursorRow_25 : decode cX9_cursorRow 25 = .ok (.aload_n 0, 1) := by decide +kernel
theorem dX9_cursorRow_26 : decode cX9_cursorRow 26 = .ok (.getfield 11, 3) := by decide +kernel
theorem dX9_cursorRow_29 : decode cX9_cursorRow 29 = .ok (.aload_n 0, 1) := by decide +kernel
theorem dX9_cursorRow_30 : decode cX9_cursorRow 30 = .ok (.getfield 88, 3) := by decide +kernel
theorem dX9_cursorRow_33 : decode cX9_cursorRow 33 = .ok (.aaload, 1) := by decide +kernel
theorem dX9_cursorRow_34 : decode cX9_cursorRow 34 = .ok (.getfield 129, 3) := by decide +kernel
theorem dX9_cursorRow_37 : decode cX9_cursorRow 37 = .ok (.getfield 198, 3) := by decide +kernel
theorem dX9_cursorRow_40 : decode cX9_cursorRow 40 = .ok (.iadd, 1) := by decide +kernel
theorem dX9_cursorRow_41 : decode cX9_cursorRow 41 = .ok (.ireturn, 1) := by decide +kernel
theorem dJ7_rangeCheck_23922_0 : decode cJ7_rangeCheck_23922 0 = .ok (.iload_n 1, 1) := by decide +kernel
theorem dJ7_rangeCheck_23922_1 : decode cJ7_rangeCheck_23922 1 = .ok (.iload_n 2, 1) := by decide +kernel
theorem dJ7_rangeCheck_23922_2 : decode cJ7_rangeCheck_23922 2 = .ok (.if_icmp .le 44, 3) := by decide +kernel
theorem dJ7_rangeCheck_23922_5 : decode cJ7_rangeCheck_23922 5 = .ok (.new 43, 3) := by decide +kernel
theorem dJ7_rangeCheck_23922_8 : decode cJ7_rangeCheck_23922 8 = .ok (.dup, 1) := by decide +kernel
theorem dJ7_rangeCheck_23922_9 : decode cJ7_rangeCheck_23922 9 = .ok (.new 45, 3) := by decide +kernel
theorem dJ7_rangeCheck_23922_12 : decode cJ7_rangeCheck_23922 12 = .ok (.dup, 1) := by decide +kernel
theorem dJ7_rangeCheck_23922_13 : decode cJ7_rangeCheck_23922 13 = .ok (.invokespecial 47, 3) := by decide +kernel
theorem dJ7_rangeCheck_23922_16 : decode cJ7_rangeCheck_23922 16 = .ok (.ldc 48, 2) := by decide +kernel
theorem dJ7_rangeCheck_23922_18 : decode cJ7_rangeCheck_23922 18 = .ok (.invokevirtual 50, 3) := by decide +kernel
theorem dJ7_rangeCheck_23922_21 : decode cJ7_rangeCheck_23922 21 = .ok (.iload_n 1, 1) := by decide +kernel
theorem dJ7_rangeCheck_23922_22 : decode cJ7_rangeCheck_23922 22 = .ok (.invokevirtual 54, 3) := by decide +kernel
theorem dJ7_rangeCheck_23922_25 : decode cJ7_rangeCheck_23922 25 = .ok (.ldc 57, 2) := by decide +kernel
theorem dJ7_rangeCheck_23922_27 : decode cJ7_rangeCheck_23922 27 = .ok (.invokevirtual 50, 3) := by decide +kernel
theorem dJ7_rangeCheck_23922_30 : decode cJ7_rangeCheck_23922 30 = .ok (.iload_n 2, 1) := by decide +kernel
theorem dJ7_rangeCheck_23922_31 : decode cJ7_rangeCheck_23922 31 = .ok (.invokevirtual 54, 3) := by decide +kernel
theorem dJ7_rangeCheck_23922_34 : decode cJ7_rangeCheck_23922 34 = .ok (.ldc 59, 2) := by decide +kernel
theorem dJ7_rangeCheck_23922_36 : decode cJ7_rangeCheck_23922 36 = .ok (.invokevirtual 50, 3) := by decide +kernel
theorem dJ7_rangeCheck_23922_39 : decode cJ7_rangeCheck_23922 39 = .ok (.invokevirtual 61, 3) := by decide +kernel
theorem dJ7_rangeCheck_23922_42 : decode cJ7_rangeCheck_23922 42 = .ok (.invokespecial 65, 3) := by decide +kernel
theorem dJ7_rangeCheck_23922_45 : decode cJ7_rangeCheck_23922 45 = .ok (.athrow, 1) := by decide +kernel
theorem dJ7_rangeCheck_23922_46 : decode cJ7_rangeCheck_23922 46 = .ok (.iload_n 1, 1) := by decide +kernel
theorem dJ7_rangeCheck_23922_47 : decode cJ7_rangeCheck_23922 47 = .ok (.ifCond .ge 12, 3) := by decide +kernel
theorem dJ7_rangeCheck_23922_50 : decode cJ7_rangeCheck_23922 50 = .ok (.new 68, 3) := by decide +kernel
theorem dJ7_rangeCheck_23922_53 : decode cJ7_rangeCheck_23922 53 = .ok (.dup, 1) := by decide +kernel
theorem dJ7_rangeCheck_23922_54 : decode cJ7_rangeCheck_23922 54 = .ok (.iload_n 1, 1) := by decide +kernel
theorem dJ7_rangeCheck_23922_55 : decode cJ7_rangeCheck_23922 55 = .ok (.invokespecial 70, 3) := by decide +kernel
theorem dJ7_rangeCheck_23922_58 : decode cJ7_rangeCheck_23922 58 = .ok (.athrow, 1) := by decide +kernel
theorem dJ7_rangeCheck_23922_59 : decode cJ7_rangeCheck_23922 59 = .ok (.iload_n 2, 1) := by decide +kernel
theorem dJ7_rangeCheck_23922_60 : decode cJ7_rangeCheck_23922 60 = .ok (.iload_n 0, 1) := by decide +kernel
theorem dJ7_rangeCheck_23922_61 : decode cJ7_rangeCheck_23922 61 = .ok (.if_icmp .le 12, 3) := by decide +kernel
theorem dJ7_rangeCheck_23922_64 : decode cJ7_rangeCheck_23922 64 = .ok (.new 68, 3) := by decide +kernel
theorem dJ7_rangeCheck_23922_67 : decode cJ7_rangeCheck_23922 67 = .ok (.dup, 1) := by decide +kernel
theorem dJ7_rangeCheck_23922_68 : decode cJ7_rangeCheck_23922 68 = .ok (.iload_n 2, 1) := by decide +kernel
theorem dJ7_rangeCheck_23922_69 : decode cJ7_rangeCheck_23922 69 = .ok (.invokespecial 70, 3) := by decide +kernel
theorem dJ7_rangeCheck_23922_72 : decode cJ7_rangeCheck_23922 72 = .ok (.athrow, 1) := by decide +kernel
theorem dJ7_rangeCheck_23922_73 : decode cJ7_rangeCheck_23922 73 = .ok (.return_, 1) := by decide +kernel
theorem dJ7_fill_53178_0 : decode cJ7_fill_53178 0 = .ok (.iconst 0, 1) := by decide +kernel
theorem dJ7_fill_53178_1 : decode cJ7_fill_53178 1 = .ok (.istore_n 2, 1) := by decide +kernel
theorem dJ7_fill_53178_2 : decode cJ7_fill_53178 2 = .ok (.aload_n 0, 1) := by decide +kernel
theorem dJ7_fill_53178_3 : decode cJ7_fill_53178 3 = .ok (.arraylength, 1) := by decide +kernel
theorem dJ7_fill_53178_4 : decode cJ7_fill_53178 4 = .ok (.istore_n 3, 1) := by decide +kernel
theorem dJ7_fill_53178_5 : decode cJ7_fill_53178 5 = .ok (.iload_n 2, 1) := by decide +kernel
theorem dJ7_fill_53178_6 : decode cJ7_fill_53178 6 = .ok (.iload_n 3, 1) := by decide +kernel
theorem dJ7_fill_53178_7 : decode cJ7_fill_53178 7 = .ok (.if_icmp .ge 13, 3) := by decide +kernel
theorem dJ7_fill_53178_10 : decode cJ7_fill_53178 10 = .ok (.aload_n 0, 1) := by decide +kernel
theorem dJ7_fill_53178_11 : decode cJ7_fill_53178 11 = .ok (.iload_n 2, 1) := by decide +kernel
theorem dJ7_fill_53178_12 : decode cJ7_fill_53178 12 = .ok (.iload_n 1, 1) := by decide +kernel
theorem dJ7_fill_53178_13 : decode cJ7_fill_53178 13 = .ok (.iastore, 1) := by decide +kernel
theorem dJ7_fill_53178_14 : decode cJ7_fill_53178 14 = .ok (.iinc 2 1, 3) := by decide +kernel
theorem dJ7_fill_53178_17 : decode cJ7_fill_53178 17 = .ok (.goto (-12), 3) := by decide +kernel
theorem dJ7_fill_53178_20 : decode cJ7_fill_53178 20 = .ok (.return_, 1) := by decide +kernel
theorem dJ7_fill_fda19_0 : decode cJ7_fill_fda19 0 = .ok (.aload_n 0, 1) := by decide +kernel
theorem dJ7_fill_fda19_1 : decode cJ7_fill_fda19 1 = .ok (.arraylength, 1) := by decide +kernel
theorem dJ7_fill_fda19_2 : decode cJ7_fill_fda19 2 = .ok (.iload_n 1, 1) := by decide +kernel
theorem dJ7_fill_fda19_3 : decode cJ7_fill_fda19 3 = .ok (.iload_n 2, 1) := by decide +kernel
theorem dJ7_fill_fda19_4 : decode cJ7_fill_fda19 4 = .ok (.invokestatic 13, 3) := by decide +kernel
theorem dJ7_fill_fda19_7 : decode cJ7_fill_fda19 7 = .ok (.iload_n 1, 1) := by decide +kernel
theorem dJ7_fill_fda19_8 : decode cJ7_fill_fda19 8 = .ok (.istore 4, 2) := by decide +kernel
theorem dJ7_fill_fda19_10 : decode cJ7_fill_fda19 10 = .ok (.iload 4, 2) := by decide +kernel
theorem dJ7_fill_fda19_12 : decode cJ7_fill_fda19 12 = .ok (.iload_n 2, 1) := by decide +kernel
theorem dJ7_fill_fda19_13 : decode cJ7_fill_fda19 13 = .ok (.if_icmp .ge 14, 3) := by decide +kernel
theorem dJ7_fill_fda19_16 : decode cJ7_fill_fda19 16 = .ok (.aload_n 0, 1) := by decide +kernel
theorem dJ7_fill_fda19_17 : decode cJ7_fill_fda19 17 = .ok (.iload 4, 2) := by decide +kernel
theorem dJ7_fill_fda19_19 : decode cJ7_fill_fda19 19 = .ok (.iload_n 3, 1) := by decide +kernel
theorem dJ7_fill_fda19_20 : decode cJ7_fill_fda19 20 = .ok (.iastore, 1) := by decide +kernel
theorem dJ7_fill_fda19_21 : decode cJ7_fill_fda19 21 = .ok (.iinc 4 1, 3) := by decide +kernel
theorem dJ7_fill_fda19_24 : decode cJ7_fill_fda19 24 = .ok (.goto (-14), 3) := by decide +kernel
theorem dJ7_fill_fda19_27 : decode cJ7_fill_fda19 27 = .ok (.return_, 1) := by decide +kernel
end
section
/-! ===== what is the same for every method: words, classes, array types, nest words, strings ===== -/
def pw_G : List Cond := lw_tbl.filter goodWord
theorem pw_good : ∀ w ∈ pw_G, goodWord w = true := fun _ h => (List.mem_filter.mp h).2
theorem pw_in {w : Cond} (i : Nat) (h : lw_tbl[i]? = some w) (g : goodWord w = true) : w ∈ pw_G := List.mem_filter.mpr ⟨List.mem_of_getElem? h, g⟩
theorem pw_ins {ws : List Cond} (ps : List Nat) (hp : ws = ps.filterMap (fun i => lw_tbl[i]?)) (g : ws.all goodWord = true) : ∀ w ∈ ws, w ∈ pw_G := fun w hw => by
  have h1 := List.all_eq_true.mp g w hw
  rw [hp] at hw
  obtain ⟨i, -, hi⟩ := List.mem_filterMap.mp hw
  exact pw_in i hi h1
abbrev pw_cl : List vw_C := vwCl
abbrev pw_T : List FieldType := [.int, .boolean, .long, .object "PaneHouse$Pane", .object "PaneHouse$Part"]
def pw_N : List Cond := [.fieldLinkNest RX4 38 "PaneHouse$Typed" "total" "I" "PaneHouse", .fieldLinkNest RX9 219 "PaneHouse$Typed" "total" "I" "PaneHouse", .fieldLinkNest RX4 64 "PaneHouse$History" "size" "I" "PaneHouse", .fieldLinkNest RX9 206 "PaneHouse$History" "size" "I" "PaneHouse", .fieldLinkNest RX4 60 "PaneHouse$Screen" "history" "LPaneHouse$History;" "PaneHouse", .fieldLinkNest RX9 202 "PaneHouse$Screen" "history" "LPaneHouse$History;" "PaneHouse", .fieldLinkNest RX4 88 "PaneHouse$Screen" "columns" "I" "PaneHouse", .fieldLinkNest RX9 133 "PaneHouse$Screen" "columns" "I" "PaneHouse", .fieldLinkNest RX9 194 "PaneHouse$Screen" "rows" "I" "PaneHouse", .fieldLinkNest RX6 25 "PaneHouse$Screen" "column" "I" "PaneHouse", .fieldLinkNest RX9 197 "PaneHouse$Screen" "column" "I" "PaneHouse", .fieldLinkNest RX6 30 "PaneHouse$Screen" "row" "I" "PaneHouse", .fieldLinkNest RX9 198 "PaneHouse$Screen" "row" "I" "PaneHouse", .fieldLinkNest RX9 199 "PaneHouse$Screen" "wrapWaits" "Z" "PaneHouse", .fieldLinkNest RX6 147 "PaneHouse$Screen" "pen" "I" "PaneHouse", .fieldLinkNest RX9 209 "PaneHouse$Screen" "pen" "I" "PaneHouse", .fieldLinkNest RX6 144 "PaneHouse$Screen" "insertMode" "Z" "PaneHouse", .fieldLinkNest RX6 95 "PaneHouse$Screen" "wrapMode" "Z" "PaneHouse", .fieldLinkNest RX4 85 "PaneHouse$Screen" "cursorSeen" "Z" "PaneHouse", .fieldLinkNest RX6 98 "PaneHouse$Screen" "cursorSeen" "Z" "PaneHouse", .fieldLinkNest RX9 129 "PaneHouse$Pane" "screen" "LPaneHouse$Screen;" "PaneHouse", .fieldLinkNest RX9 70 "PaneHouse$Pane" "reader" "LPaneHouse$Reader;" "PaneHouse", .fieldLinkNest RX9 215 "PaneHouse$Pane" "typed" "LPaneHouse$Typed;" "PaneHouse", .fieldLinkNest RX9 212 "PaneHouse$Pane" "copyMode" "Z" "PaneHouse", .fieldLinkNest RX2 59 "PaneHouse$Part" "column" "I" "PaneHouse", .fieldLinkNest RX9 186 "PaneHouse$Part" "column" "I" "PaneHouse", .fieldLinkNest RX2 62 "PaneHouse$Part" "row" "I" "PaneHouse", .fieldLinkNest RX9 191 "PaneHouse$Part" "row" "I" "PaneHouse", .fieldLinkNest RX2 24 "PaneHouse$Part" "columns" "I" "PaneHouse", .fieldLinkNest RX9 272 "PaneHouse$Part" "columns" "I" "PaneHouse", .fieldLinkNest RX2 28 "PaneHouse$Part" "rows" "I" "PaneHouse", .fieldLinkNest RX9 273 "PaneHouse$Part" "rows" "I" "PaneHouse", .fieldLinkNest RX2 55 "PaneHouse$Part" "down" "Z" "PaneHouse", .fieldLinkNest RX2 49 "PaneHouse$Part" "first" "LPaneHouse$Part;" "PaneHouse", .fieldLinkNest RX2 52 "PaneHouse$Part" "second" "LPaneHouse$Part;" "PaneHouse", .fieldLinkNest RX2 42 "PaneHouse$Part" "above" "LPaneHouse$Part;" "PaneHouse", .fieldLinkNest RX9 182 "PaneHouse$Layout" "leaves" "[LPaneHouse$Part;" "PaneHouse", .fieldLinkNest RX9 177 "PaneHouse$Outer" "bytes" "[I" "PaneHouse", .fieldLinkNest RX9 169 "PaneHouse$Outer" "size" "I" "PaneHouse", .methodLinkNest RX4 9 ⟨RX8, "<init>", "()V"⟩ "PaneHouse", .methodLinkNest RX7 85 ⟨RX9, "nearest", "(III)I"⟩ "PaneHouse", .methodLinkNest RX4 79 ⟨RX9, "nearest", "(III)I"⟩ "PaneHouse"]
def pw_S : List (String × Nat × String) := [(RX9, 253, "no such pane"), (RX9, 65, "n is not 1 .. 8"), (RX9, 79, "a key is 0 .. 255"), (RX9, 100, "there are 8 panes, or its area is too small"), (RX9, 107, "it is the only pane"), (RX9, 255, "no such place in the pane"), (RX9, 124, "the second place is before the first one"), (RX9, 174, "no such byte of OUT"), (RX9, 180, "no such cell"), (RX9, 224, "what is not 0 .. 10"), (RX9, 229, "no such byte of the INPUT"), (RX9, 235, "no such byte of what is COPIED"), (RX9, 239, "what is not 0 .. 5")]
def pw_isN (w : Cond) : Bool := match w with
  | .fieldLinkNest _ _ _ _ _ _ => true
  | .methodLinkNest _ _ _ _ => true
  | .castable _ _ => true
  | _ => false
theorem pw_N_ok : ∀ w ∈ pw_N, pw_isN w = true := List.all_eq_true.mp (by decide +kernel)
theorem pw_N_tab : ∀ w ∈ pw_N, w.onTables = true := List.all_eq_true.mp (by decide +kernel)
theorem pw_N_warm {w : Cond} {s U : State} (hW : s.WarmedH U.vm) (hw : pw_isN w = true) (hZ : va_Nw w s) : va_Nw w U := by
  unfold pw_isN at hw
  split at hw
  · exact va_Nw.warmF hW hZ
  · exact va_Nw.warmM hW hZ
  · exact va_Nw.warmC hW hZ
  · cases hw
end
section
/-! ===== INTS: every int of the walks is zI of a whole number ===== -/
def zI (z : Int) : Int32 := Int32.ofInt z
theorem zI_toInt {z : Int} (h1 : -2147483648 ≤ z) (h2 : z < 2147483648) : (zI z).toInt = z := Int32.toInt_ofInt_of_le (by simpa using h1) (by simpa using h2)
theorem zI_of (x : Int32) : x = zI x.toInt := (Int32.ofInt_toInt x).symm
theorem zI_add (a b : Int) : zI a + zI b = zI (a + b) := (Int32.ofInt_add a b).symm
theorem zI_sub (a b : Int) : zI a - zI b = zI (a - b) := (Int32.ofInt_sub a b).symm
theorem zI_mul (a b : Int) : zI a * zI b = zI (a * b) := (Int32.ofInt_mul a b).symm
theorem zI_neg (a : Int) : - zI a = zI (-a) := (Int32.ofInt_neg a).symm
theorem zI_lt {a b : Int} (ha : -2147483648 ≤ a ∧ a < 2147483648) (hb : -2147483648 ≤ b ∧ b < 2147483648) : zI a < zI b ↔ a < b := by
  rw [Int32.lt_iff_toInt_lt, zI_toInt ha.1 ha.2, zI_toInt hb.1 hb.2]
theorem zI_le {a b : Int} (ha : -2147483648 ≤ a ∧ a < 2147483648) (hb : -2147483648 ≤ b ∧ b < 2147483648) : zI a ≤ zI b ↔ a ≤ b := by
  rw [Int32.le_iff_toInt_le, zI_toInt ha.1 ha.2, zI_toInt hb.1 hb.2]
theorem zI_eq {a b : Int} (ha : -2147483648 ≤ a ∧ a < 2147483648) (hb : -2147483648 ≤ b ∧ b < 2147483648) : zI a = zI b ↔ a = b := by
  rw [← Int32.toInt_inj, zI_toInt ha.1 ha.2, zI_toInt hb.1 hb.2]
theorem zI_0 : (0 : Int32) = zI 0 := rfl
theorem zI_div {a b : Int} (ha : 0 ≤ a) (ha2 : a < 2147483648) (hb : 0 < b) (hb2 : b < 2147483648) : zI a / zI b = zI (a / b) := by
  have h1 := Int.ediv_nonneg ha (Int.le_of_lt hb)
  have h2 : a / b ≤ a := Int.ediv_le_self b ha
  rw [← Int32.toInt_inj, Int32.toInt_div, zI_toInt (by omega) ha2, zI_toInt (by omega) hb2, zI_toInt (by omega) (by omega), Int.tdiv_eq_ediv_of_nonneg ha, Int.bmod_eq_of_le (by simp; omega) (by simp; omega)]
theorem zI_rem {a b : Int} (ha : 0 ≤ a) (ha2 : a < 2147483648) (hb : 0 < b) (hb2 : b < 2147483648) : zI a - zI a / zI b * zI b = zI (a % b) := by
  rw [zI_div ha ha2 hb hb2, zI_mul, zI_sub, Int.emod_def, Int.mul_comm]
theorem zI_cl {a : Int} (h0 : 0 ≤ a) (h : a < 2147483648) : (zI a).toNatClampNeg = a.toNat := by
  show (zI a).toInt.toNat = a.toNat
  rw [zI_toInt (by omega) h]
theorem zI_in {a : Int} {n : Nat} (h0 : 0 ≤ a) (h : a < n) (hn : n < 2147483648) : vp_in (zI a) n := by
  rw [vp_in_iff, zI_toInt (by omega) (by omega)]
  exact ⟨h0, h⟩
theorem zI_nat (k : Nat) : Int32.ofNat k = zI (k : Int) := rfl
/-- an array's ints, one changed -/
theorem zI_upd (g : Nat → Int) (k : Nat) (v : Int) : upd (fun j => zI (g j)) k (zI v) = fun j => zI (va_up g k v j) := by
  funext j
  by_cases e : j = k
  · subst e; rw [va_up_self]; simp [upd]
  · rw [va_up_ne _ _ e]; simp [upd, e]
theorem zI_cpy (f g : Nat → Int) (sp dp n : Nat) : va_cpy (fun j => zI (f j)) (fun j => zI (g j)) sp dp n = fun j => zI (va_cpy f g sp dp n j) := by
  funext j
  unfold va_cpy
  split <;> rfl
end
section
/-! ===== IDS: the cells made since the law began have the ids 0, 1, 2 ..; L gives each id its address ===== -/
abbrev pz_C : Type := (Nat × List Value) ⊕ ((Nat × Nat × (Nat → Int32)) ⊕ ((Nat × Nat × (Nat → Int64)) ⊕ (Nat × Nat × (Nat → Option Nat))))
abbrev pz_H : Type := Nat → pz_C
/-- an object of class ci; ints, longs, references in an array of the type t -/
abbrev pz_o (ci : Nat) (fs : List Value) : pz_C := .inl (ci, fs)
abbrev pz_i (t n : Nat) (f : Nat → Int32) : pz_C := .inr (.inl (t, n, f))
abbrev pz_j (t n : Nat) (f : Nat → Int64) : pz_C := .inr (.inr (.inl (t, n, f)))
abbrev pz_r (t n : Nat) (g : Nat → Option Nat) : pz_C := .inr (.inr (.inr (t, n, g)))
def pz_v (L : Nat → Nat) (v : Value) : Value := match v with
  | .ref k => .ref (L k)
  | .int x => .int x
  | .long x => .long x
  | .float x => .float x
  | .double x => .double x
  | .null => .null
  | .retAddr x => .retAddr x
def pz_e (cA : Nat → ClassId) (L : Nat → Nat) (c : pz_C) : va_E := match c with
  | .inl o => .inr (o.1, o.2.map (pz_v L))
  | .inr (.inl a) => .inl (cA a.1, a.2.1, .inl a.2.2)
  | .inr (.inr (.inl a)) => .inl (cA a.1, a.2.1, .inr (.inl a.2.2))
  | .inr (.inr (.inr a)) => .inl (cA a.1, a.2.1, .inr (.inr (.inr (.inr (fun j => (a.2.2 j).map L)))))
def pz_w (cA : Nat → ClassId) (L : Nat → Nat) (n : Nat) (h : pz_H) : va_W := (List.range n).map (fun k => (L k, pz_e cA L (h k)))
theorem pz_w_get {cA : Nat → ClassId} {L : Nat → Nat} {n k : Nat} {h : pz_H} (hk : k < n) : (pz_w cA L n h)[k]? = some (L k, pz_e cA L (h k)) := by
  simp [pz_w, hk]
theorem pz_w_out {cA : Nat → ClassId} {L : Nat → Nat} {n k : Nat} {h : pz_H} (hk : n ≤ k) : (pz_w cA L n h)[k]? = none := by
  simp [pz_w, hk]
theorem pz_w_len {cA : Nat → ClassId} {L : Nat → Nat} {n : Nat} {h : pz_H} : (pz_w cA L n h).length = n := by
  simp [pz_w]
theorem pz_w_set {cA : Nat → ClassId} {L : Nat → Nat} {n k : Nat} {h : pz_H} {c : pz_C} (hk : k < n) : (pz_w cA L n h).set k (L k, pz_e cA L c) = pz_w cA L n (va_up h k c) := by
  apply List.ext_getElem?
  intro j
  by_cases hj : j = k
  · subst hj
    rw [List.getElem?_set_self (by rw [pz_w_len]; exact hk), pz_w_get hk, va_up_self]
  · rw [List.getElem?_set_ne (Ne.symm hj)]
    by_cases hn : j < n
    · rw [pz_w_get hn, pz_w_get hn, va_up_ne _ _ hj]
    · rw [pz_w_out (by omega), pz_w_out (by omega)]
/-- nothing there names an id that isn't made yet -/
def pz_k (n : Nat) (v : Value) : Prop := match v with
  | .ref k => k < n
  | _ => True
def pz_ks (n : Nat) (st : List Value) : Prop := match st with
  | [] => True
  | v :: r => pz_k n v ∧ pz_ks n r
def pz_kc (n : Nat) (c : pz_C) : Prop := match c with
  | .inl o => pz_ks n o.2
  | .inr (.inr (.inr a)) => ∀ j b, a.2.2 j = some b → b < n
  | _ => True
def pz_kh (n : Nat) (h : pz_H) : Prop := ∀ k, k < n → pz_kc n (h k)
def pz_ag (n : Nat) (L L' : Nat → Nat) : Prop := ∀ k, k < n → L' k = L k
theorem pz_ag_rf {n : Nat} {L : Nat → Nat} : pz_ag n L L := fun _ _ => rfl
theorem pz_ag_tr {n n' : Nat} {L L' L2 : Nat → Nat} (h1 : pz_ag n L L') (h2 : pz_ag n' L' L2) (hn : n ≤ n') : pz_ag n L L2 := fun k hk => (h2 k (Nat.lt_of_lt_of_le hk hn)).trans (h1 k hk)
theorem pz_ag_up {n q : Nat} {L : Nat → Nat} : pz_ag n L (va_up L n q) := fun k hk => va_up_ne L q (Nat.ne_of_lt hk)
theorem pz_k_le {n n' : Nat} {v : Value} (hn : n ≤ n') (h : pz_k n v) : pz_k n' v := by
  cases v <;> first | exact trivial | exact Nat.lt_of_lt_of_le h hn
theorem pz_ks_le {n n' : Nat} (hn : n ≤ n') : ∀ {st : List Value}, pz_ks n st → pz_ks n' st
  | [], _ => trivial
  | _ :: _, h => ⟨pz_k_le hn h.1, pz_ks_le hn h.2⟩
theorem pz_ks_mem {n : Nat} : ∀ {st : List Value}, pz_ks n st → ∀ v ∈ st, pz_k n v
  | [], _, v, hv => absurd hv List.not_mem_nil
  | a :: r, h, v, hv => by
    rcases List.mem_cons.mp hv with e | e
    · rw [e]; exact h.1
    · exact pz_ks_mem h.2 v e
theorem pz_ks_of {n : Nat} : ∀ {st : List Value}, (∀ v ∈ st, pz_k n v) → pz_ks n st
  | [], _ => trivial
  | a :: r, h => ⟨h a List.mem_cons_self, pz_ks_of (fun v hv => h v (List.mem_cons_of_mem _ hv))⟩
theorem pz_kc_le {n n' : Nat} {c : pz_C} (hn : n ≤ n') (h : pz_kc n c) : pz_kc n' c := by
  rcases c with o | a | a | a
  · exact pz_ks_le hn h
  · trivial
  · trivial
  · exact fun j b e => Nat.lt_of_lt_of_le (h j b e) hn
theorem pz_kh_up {n k : Nat} {h : pz_H} {c : pz_C} (hh : pz_kh n h) (hc : pz_kc n c) : pz_kh n (va_up h k c) := fun j hj => by
  by_cases e : j = k
  · subst e; rw [va_up_self]; exact hc
  · rw [va_up_ne _ _ e]; exact hh j hj
theorem pz_kh_push {n : Nat} {h : pz_H} {c : pz_C} (hh : pz_kh n h) (hc : pz_kc (n + 1) c) : pz_kh (n + 1) (va_up h n c) := fun j hj => by
  by_cases e : j = n
  · subst e; rw [va_up_self]; exact hc
  · rw [va_up_ne _ _ e]; exact pz_kc_le (Nat.le_succ n) (hh j (by omega))
theorem pz_v_ag {n : Nat} {L L' : Nat → Nat} {v : Value} (ha : pz_ag n L L') (hv : pz_k n v) : pz_v L' v = pz_v L v := by
  cases v <;> first | rfl | exact congrArg Value.ref (ha _ hv)
theorem pz_vs_ag {n : Nat} {L L' : Nat → Nat} (ha : pz_ag n L L') : ∀ {st : List Value}, pz_ks n st → st.map (pz_v L') = st.map (pz_v L)
  | [], _ => rfl
  | v :: r, h => by
    show pz_v L' v :: r.map (pz_v L') = pz_v L v :: r.map (pz_v L)
    rw [pz_v_ag ha h.1, pz_vs_ag ha h.2]
theorem pz_e_ag {n : Nat} {cA : Nat → ClassId} {L L' : Nat → Nat} {c : pz_C} (ha : pz_ag n L L') (hc : pz_kc n c) : pz_e cA L' c = pz_e cA L c := by
  rcases c with o | a | a | a
  · show Sum.inr (o.1, o.2.map (pz_v L')) = Sum.inr (o.1, o.2.map (pz_v L))
    rw [pz_vs_ag ha hc]
  · rfl
  · rfl
  · show Sum.inl (cA a.1, a.2.1, Sum.inr (Sum.inr (Sum.inr (Sum.inr (fun j => (a.2.2 j).map L'))))) = Sum.inl (cA a.1, a.2.1, Sum.inr (Sum.inr (Sum.inr (Sum.inr (fun j => (a.2.2 j).map L)))))
    have e : (fun j => (a.2.2 j).map L') = (fun j => (a.2.2 j).map L) := by
      funext j
      cases hb : a.2.2 j with
      | none => rfl
      | some b => exact congrArg some (ha b (hc j b hb))
    rw [e]
theorem pz_w_ag {n : Nat} {cA : Nat → ClassId} {L L' : Nat → Nat} {h : pz_H} (ha : pz_ag n L L') (hh : pz_kh n h) : pz_w cA L' n h = pz_w cA L n h := by
  apply List.map_congr_left
  intro k hk
  have hk : k < n := List.mem_range.mp hk
  rw [ha k hk, pz_e_ag ha (hh k hk)]
theorem pz_w_push {n q : Nat} {cA : Nat → ClassId} {L : Nat → Nat} {h : pz_H} {c : pz_C} (hh : pz_kh n h) : pz_w cA L n h ++ [(q, pz_e cA (va_up L n q) c)] = pz_w cA (va_up L n q) (n + 1) (va_up h n c) := by
  have e : pz_w cA (va_up L n q) (n + 1) (va_up h n c) = pz_w cA (va_up L n q) n (va_up h n c) ++ [(va_up L n q n, pz_e cA (va_up L n q) (va_up h n c n))] := by
    simp only [pz_w, List.range_succ, List.map_append, List.map_cons, List.map_nil]
  rw [e, va_up_self, va_up_self, ← pz_w_ag pz_ag_up hh]
  congr 1
  apply List.map_congr_left
  intro k hk
  have hk : k < n := List.mem_range.mp hk
  rw [va_up_ne h c (Nat.ne_of_lt hk)]
/-- the heap holds the cells of the ids below n -/
def pz_R (D : va_G) (cl : List vw_C) (cA : Nat → ClassId) (A : Nat → Prop) (L : Nat → Nat) (n : Nat) (h : pz_H) (H : Heap) : Prop := va_P D cl (pz_w cA L n h) H ∧ va_D A (pz_w cA L n h) ∧ pz_kh n h
theorem pz_inj {A : Nat → Prop} {cA : Nat → ClassId} {L : Nat → Nat} {n : Nat} {h : pz_H} (hD : va_D A (pz_w cA L n h)) {i j : Nat} (hi : i < n) (hj : j < n) (e : L i = L j) : i = j := hD.1 i j _ _ (pz_w_get hi) (pz_w_get hj) e
/-- locals by their places -/
def pz_al (L : Nat → Nat) (lv : List (Option Value)) : List (Nat × Value) := (List.range lv.length).filterMap (fun i => (lv[i]?).bind (fun o => o.map (fun v => (i, pz_v L v))))
theorem pz_al_mem {L : Nat → Nat} {lv : List (Option Value)} {q : Nat × Value} : q ∈ pz_al L lv ↔ ∃ v, lv[q.1]? = some (some v) ∧ q.2 = pz_v L v := by
  unfold pz_al
  rw [List.mem_filterMap]
  constructor
  · rintro ⟨i, hi, e⟩
    cases hb : lv[i]? with
    | none => rw [hb] at e; cases e
    | some o =>
      cases o with
      | none => rw [hb] at e; cases e
      | some v =>
        rw [hb] at e
        have e2 : (i, pz_v L v) = q := Option.some.inj e
        subst e2
        exact ⟨v, hb, rfl⟩
  · rintro ⟨v, hv, e⟩
    refine ⟨q.1, List.mem_range.mpr (List.getElem?_eq_some_iff.mp hv).1, ?_⟩
    rw [hv]
    show some (q.1, pz_v L v) = some q
    rw [← e]
def pz_kl (n : Nat) (lv : List (Option Value)) : Prop := ∀ (i : Nat) (v : Value), lv[i]? = some (some v) → pz_k n v
def pz_lv (L : Nat → Nat) (n nL : Nat) (ls : Array Slot) (lv : List (Option Value)) : Prop := lv_has ls nL (pz_al L lv) ∧ pz_kl n lv
theorem pz_lv_at {L : Nat → Nat} {n nL i : Nat} {ls : Array Slot} {lv : List (Option Value)} {v : Value} (h : pz_lv L n nL ls lv) (hv : lv[i]? = some (some v)) : ls[i]? = some (.val (pz_v L v)) :=
  h.1.2.2 (i, pz_v L v) (pz_al_mem.mpr ⟨v, hv, rfl⟩)
theorem pz_lv_ag {L L' : Nat → Nat} {n n' nL : Nat} {ls : Array Slot} {lv : List (Option Value)} (h : pz_lv L n nL ls lv) (ha : pz_ag n L L') (hn : n ≤ n') : pz_lv L' n' nL ls lv := by
  refine ⟨⟨h.1.1, h.1.2.1, fun q hq => ?_⟩, fun i v hv => pz_k_le hn (h.2 i v hv)⟩
  obtain ⟨v, hv, e⟩ := pz_al_mem.mp hq
  rw [e, pz_v_ag ha (h.2 _ v hv)]
  exact pz_lv_at h hv
/-- no long, no double ends at the place i -/
def pz_c1 (lv : List (Option Value)) (i : Nat) : Bool := match i with
  | 0 => true
  | j + 1 => match lv[j]? with
    | some (some (.long _)) => false
    | some (some (.double _)) => false
    | _ => true
theorem pz_lv_set {L : Nat → Nat} {n nL i : Nat} {ls ls' : Array Slot} {lv : List (Option Value)} {v : Value} (h : pz_lv L n nL ls lv) (hc : pz_c1 lv i = true) (hv : pz_k n v) (h' : lv_has ls' nL ((i, pz_v L v) :: (pz_al L lv).filter (fun q => !(q.1 == i) && !(q.1 + 1 == i && q.2.category == 2)))) : pz_lv L n nL ls' (lv.set i (some v)) := by
  refine ⟨⟨h'.1, h'.2.1, fun q hq => h'.2.2 q ?_⟩, fun j w hw => ?_⟩
  · obtain ⟨w, hw, e⟩ := pz_al_mem.mp hq
    by_cases hj : q.1 = i
    · have hlt : i < lv.length := by
        have := (List.getElem?_eq_some_iff.mp hw).1
        rw [List.length_set, hj] at this
        exact this
      rw [hj, List.getElem?_set_self hlt] at hw
      have ew : v = w := Option.some.inj (Option.some.inj hw)
      refine List.mem_cons.mpr (Or.inl ?_)
      rw [ew, ← e, ← hj]
    · rw [List.getElem?_set_ne (fun z => hj z.symm)] at hw
      refine List.mem_cons_of_mem _ (List.mem_filter.mpr ⟨pz_al_mem.mpr ⟨w, hw, e⟩, ?_⟩)
      have h1 : (q.1 == i) = false := by simpa using hj
      rw [h1]
      by_cases h2 : q.1 + 1 = i
      · have h3 : (q.2.category == 2) = false := by
          rw [e]
          subst h2
          unfold pz_c1 at hc
          simp only [hw] at hc
          cases w <;> first | rfl | cases hc
        simp [h3]
      · have h3 : (q.1 + 1 == i) = false := by simpa using h2
        simp [h3]
  · by_cases hj : j = i
    · subst hj
      by_cases hlt : j < lv.length
      · rw [List.getElem?_set_self hlt] at hw
        have ew : v = w := Option.some.inj (Option.some.inj hw)
        rw [← ew]; exact hv
      · rw [List.getElem?_eq_none (by rw [List.length_set]; omega)] at hw
        cases hw
    · rw [List.getElem?_set_ne (fun z => hj z.symm)] at hw
      exact h.2 j w hw
end
section
/-! ===== A METHOD'S RUN over ids: what is fixed, what moves, what it owes; a row an instruction ===== -/
/-- launch, numbers of the classes and their slots, numbers of the array classes, the heap's size when the law began -/
abbrev pw_E : Type := Launch × va_G × (Nat → ClassId) × Nat
/-- own class, name, bytes, locals, answer's type -/
abbrev pw_Y : Type := String × String × ByteArray × Nat × Option FieldType
/-- addresses of the first ids, how many, what is owed of an answer, of a throw -/
abbrev pw_K : Type := (Nat → Nat) × Nat × (Option Value → pz_H → Nat → Prop) × (String → pz_H → Nat → Prop)
def pw_A (E : pw_E) : Nat → Prop := fun q => E.2.2.2 ≤ q
def pw_tys (E : pw_E) : List (ClassId × FieldType) := (List.range pw_T.length).map (fun t => (E.2.2.1 t, pw_T.getD t .int))
theorem pw_tys_get {E : pw_E} {t : Nat} {ty : FieldType} (h : pw_T[t]? = some ty) : (pw_tys E)[t]? = some (E.2.2.1 t, ty) := by
  have hl := (List.getElem?_eq_some_iff.mp h).1
  unfold pw_tys
  rw [List.getElem?_map, List.getElem?_range hl]
  show some (E.2.2.1 t, pw_T.getD t .int) = _
  rw [List.getD_eq_getElem?_getD, h]
  rfl
/-- what every method finds: sizes, tables, statics and strings that a throw reads -/
def pw_U (E : pw_E) (U : State) : Prop := E.2.2.2 ≤ U.heap.size ∧ va_K E.2.1 pw_cl (pw_tys E) U ∧ vx_Zq Bundle.tN "UNASSIGNED_STACK" Bundle.steD (pw_A E) U U.heap ∧ vx_Zq Bundle.tN "SUPPRESSED_SENTINEL" Bundle.listD (pw_A E) U U.heap ∧ (∀ w ∈ pw_N, va_Nw w U) ∧ ∀ z ∈ pw_S, ∃ sa, vk_R z.1 z.2.1 z.2.2 sa U
def pw_F (E : pw_E) (Y : pw_Y) (p : Program) (s : State) (m : MethodId) (args : Array Value) (meth : Method) (c : Code) : Prop :=
  p.tables.exec = Jvm.exec ∧ c.code = Y.2.2.1 ∧ c.maxLocals = Y.2.2.2.1 ∧ meth.sig.returnType = Y.2.2.2.2 ∧ meth.locks = false ∧ meth.name = Y.2.1 ∧ s.vm.findClass Y.1 = some m.cls ∧ (∀ w ∈ pw_G, w.before args s = true) ∧ pw_U E s ∧ E.1.stackTraces = false ∧ ∀ x ∈ c.exceptionTable.toList, False
def pw_D (E : pw_E) (Y : pw_Y) (K : pw_K) (s : State) (H : Heap) (locs : List Loc) (L : Nat → Nat) (ls : Array Slot) (lv : List (Option Value)) (h : pz_H) (n : Nat) : Prop :=
  K.2.1 ≤ n ∧ pz_ag K.2.1 K.1 L ∧ pz_R E.2.1 pw_cl E.2.2.1 (pw_A E) L n h H ∧ va_S (pw_A E) s.heap H locs ∧ pz_lv L n Y.2.2.2.1 ls lv
def pw_Q (E : pw_E) (L0 : Nat → Nat) (n0 : Nat) (Q : Option Value → pz_H → Nat → Prop) : Array Value → State → Outcome → State → Prop := fun _ st o t =>
  ∃ (L : Nat → Nat) (r : Option Value) (h : pz_H) (n : Nat), o = .returned (r.map (pz_v L)) ∧ n0 ≤ n ∧ pz_ag n0 L0 L ∧ pz_ks n r.toList ∧ pz_R E.2.1 pw_cl E.2.2.1 (pw_A E) L n h t.heap ∧ Q r h n ∧ va_F (pw_A E) st t
def pw_X (E : pw_E) (L0 : Nat → Nat) (n0 : Nat) (X : String → pz_H → Nat → Prop) : String → State → State → Prop := fun C st t =>
  ∃ (L : Nat → Nat) (h : pz_H) (n : Nat), n0 ≤ n ∧ pz_ag n0 L0 L ∧ pz_R E.2.1 pw_cl E.2.2.1 (pw_A E) L n h t.heap ∧ X C h n ∧ va_F (pw_A E) st t
/-- the run, from here on: locals lv, stack st, cells h with n ids; uc cells of us slots are made since the method began -/
def pw (E : pw_E) (Y : pw_Y) (R : Room) (K : pw_K) (uc us pc : Nat) (lv : List (Option Value)) (st : List Value) (h : pz_H) (n : Nat) : Prop :=
  ∀ (p : Program) (e : Env) (s : State) (m : MethodId) (args : Array Value) (below : List Frame) (meth : Method) (c : Code) (H : Heap) (locs : List Loc) (L : Nat → Nat) (ls : Array Slot),
    pw_F E Y p s m args meth c → pw_D E Y K s H locs L ls lv h n → pz_ks n st →
    W p E.1 e R s m args below meth c H locs uc us (vx_MQ below (pw_Q E K.1 K.2.1 K.2.2.1) (pw_X E K.1 K.2.1 K.2.2.2) args s R.cells R.slots (pw_A E)) (F0 m pc ls (st.map (pz_v L)))
section PW
variable {E : pw_E} {Y : pw_Y} {R : Room} {K : pw_K} {uc us pc : Nat} {lv : List (Option Value)} {st : List Value} {h : pz_H} {n : Nat}
theorem pw_iconst {k : Int} {v : Int32} (hd : decode Y.2.2.1 pc = .ok (.iconst k, 1)) (hv : Int32.ofInt k = v) (kk : pw E Y R K uc us (pc + 1) lv (.int v :: st) h n) : pw E Y R K uc us pc lv st h n :=
  fun p e s m args below meth c H locs L ls F d ks => lv_iconst F.1 F.2.1 hd hv (kk p e s m args below meth c H locs L ls F d ⟨trivial, ks⟩)
theorem pw_bipush {k : Int} {v : Int32} (hd : decode Y.2.2.1 pc = .ok (.bipush k, 2)) (hv : (Int8.ofInt k).toInt32 = v) (kk : pw E Y R K uc us (pc + 2) lv (.int v :: st) h n) : pw E Y R K uc us pc lv st h n :=
  fun p e s m args below meth c H locs L ls F d ks => lv_bipush F.1 F.2.1 hd hv (kk p e s m args below meth c H locs L ls F d ⟨trivial, ks⟩)
theorem pw_sipush {k : Int} {v : Int32} (hd : decode Y.2.2.1 pc = .ok (.sipush k, 3)) (hv : (Int16.ofInt k).toInt32 = v) (kk : pw E Y R K uc us (pc + 3) lv (.int v :: st) h n) : pw E Y R K uc us pc lv st h n :=
  fun p e s m args below meth c H locs L ls F d ks => lv_sipush F.1 F.2.1 hd hv (kk p e s m args below meth c H locs L ls F d ⟨trivial, ks⟩)
theorem pw_null (hd : decode Y.2.2.1 pc = .ok (.aconst_null, 1)) (kk : pw E Y R K uc us (pc + 1) lv (.null :: st) h n) : pw E Y R K uc us pc lv st h n :=
  fun p e s m args below meth c H locs L ls F d ks => lv_null F.1 F.2.1 hd (kk p e s m args below meth c H locs L ls F d ⟨trivial, ks⟩)
theorem pw_iload_n {k : Fin 4} {x : Int32} (hd : decode Y.2.2.1 pc = .ok (.iload_n k, 1)) (hv : lv[(k : Nat)]? = some (some (.int x))) (kk : pw E Y R K uc us (pc + 1) lv (.int x :: st) h n) : pw E Y R K uc us pc lv st h n :=
  fun p e s m args below meth c H locs L ls F d ks => lv_iload_n F.1 F.2.1 hd rfl (pz_lv_at d.2.2.2.2 hv) (kk p e s m args below meth c H locs L ls F d ⟨trivial, ks⟩)
theorem pw_iload {i : Nat} {x : Int32} (hd : decode Y.2.2.1 pc = .ok (.iload i, 2)) (hv : lv[i]? = some (some (.int x))) (kk : pw E Y R K uc us (pc + 2) lv (.int x :: st) h n) : pw E Y R K uc us pc lv st h n :=
  fun p e s m args below meth c H locs L ls F d ks => lv_iload F.1 F.2.1 hd (pz_lv_at d.2.2.2.2 hv) (kk p e s m args below meth c H locs L ls F d ⟨trivial, ks⟩)
theorem pw_lload_n {k : Fin 4} {x : Int64} (hd : decode Y.2.2.1 pc = .ok (.lload_n k, 1)) (hv : lv[(k : Nat)]? = some (some (.long x))) (kk : pw E Y R K uc us (pc + 1) lv (.long x :: st) h n) : pw E Y R K uc us pc lv st h n :=
  fun p e s m args below meth c H locs L ls F d ks => lv_lload_n F.1 F.2.1 hd rfl (pz_lv_at d.2.2.2.2 hv) (kk p e s m args below meth c H locs L ls F d ⟨trivial, ks⟩)
theorem pw_aload_n {k : Fin 4} {x : Nat} (hd : decode Y.2.2.1 pc = .ok (.aload_n k, 1)) (hv : lv[(k : Nat)]? = some (some (.ref x))) (kk : pw E Y R K uc us (pc + 1) lv (.ref x :: st) h n) : pw E Y R K uc us pc lv st h n :=
  fun p e s m args below meth c H locs L ls F d ks => lv_aload_n F.1 F.2.1 hd rfl (pz_lv_at d.2.2.2.2 hv) (kk p e s m args below meth c H locs L ls F d ⟨d.2.2.2.2.2 _ _ hv, ks⟩)
theorem pw_aload {i : Nat} {x : Nat} (hd : decode Y.2.2.1 pc = .ok (.aload i, 2)) (hv : lv[i]? = some (some (.ref x))) (kk : pw E Y R K uc us (pc + 2) lv (.ref x :: st) h n) : pw E Y R K uc us pc lv st h n :=
  fun p e s m args below meth c H locs L ls F d ks => lv_aload F.1 F.2.1 hd (pz_lv_at d.2.2.2.2 hv) (kk p e s m args below meth c H locs L ls F d ⟨d.2.2.2.2.2 _ _ hv, ks⟩)
theorem pw_aload_nN {k : Fin 4} (hd : decode Y.2.2.1 pc = .ok (.aload_n k, 1)) (hv : lv[(k : Nat)]? = some (some .null)) (kk : pw E Y R K uc us (pc + 1) lv (.null :: st) h n) : pw E Y R K uc us pc lv st h n :=
  fun p e s m args below meth c H locs L ls F d ks => lv_aload_nN F.1 F.2.1 hd rfl (pz_lv_at d.2.2.2.2 hv) (kk p e s m args below meth c H locs L ls F d ⟨trivial, ks⟩)
theorem pw_aloadN {i : Nat} (hd : decode Y.2.2.1 pc = .ok (.aload i, 2)) (hv : lv[i]? = some (some .null)) (kk : pw E Y R K uc us (pc + 2) lv (.null :: st) h n) : pw E Y R K uc us pc lv st h n :=
  fun p e s m args below meth c H locs L ls F d ks => lv_aloadN F.1 F.2.1 hd (pz_lv_at d.2.2.2.2 hv) (kk p e s m args below meth c H locs L ls F d ⟨trivial, ks⟩)
theorem pw_d_set {s : State} {H : Heap} {locs : List Loc} {L : Nat → Nat} {ls ls' : Array Slot} {i : Nat} {v : Value} (d : pw_D E Y K s H locs L ls lv h n) (hc : pz_c1 lv i = true) (hv : pz_k n v) (h' : lv_has ls' Y.2.2.2.1 ((i, pz_v L v) :: (pz_al L lv).filter (fun q => !(q.1 == i) && !(q.1 + 1 == i && q.2.category == 2)))) : pw_D E Y K s H locs L ls' (lv.set i (some v)) h n :=
  ⟨d.1, d.2.1, d.2.2.1, d.2.2.2.1, pz_lv_set d.2.2.2.2 hc hv h'⟩
theorem pw_istore_n {k : Fin 4} {x : Int32} {lv' : List (Option Value)} (hd : decode Y.2.2.1 pc = .ok (.istore_n k, 1)) (hi : (k : Nat) < Y.2.2.2.1) (hc : pz_c1 lv k = true) (hl : lv.set k (some (.int x)) = lv') (kk : pw E Y R K uc us (pc + 1) lv' st h n) : pw E Y R K uc us pc lv (.int x :: st) h n :=
  fun p e s m args below meth c H locs L ls F d ks => lv_istore_n F.1 F.2.1 hd rfl d.2.2.2.2.1 hi rfl (fun ls' h' => kk p e s m args below meth c H locs L ls' F (hl ▸ pw_d_set (v := .int x) d hc trivial h') ks.2)
theorem pw_istore {i : Nat} {x : Int32} {lv' : List (Option Value)} (hd : decode Y.2.2.1 pc = .ok (.istore i, 2)) (hi : i < Y.2.2.2.1) (hc : pz_c1 lv i = true) (hl : lv.set i (some (.int x)) = lv') (kk : pw E Y R K uc us (pc + 2) lv' st h n) : pw E Y R K uc us pc lv (.int x :: st) h n :=
  fun p e s m args below meth c H locs L ls F d ks => lv_istore F.1 F.2.1 hd d.2.2.2.2.1 hi rfl (fun ls' h' => kk p e s m args below meth c H locs L ls' F (hl ▸ pw_d_set (v := .int x) d hc trivial h') ks.2)
theorem pw_astore_n {k : Fin 4} {x : Nat} {lv' : List (Option Value)} (hd : decode Y.2.2.1 pc = .ok (.astore_n k, 1)) (hi : (k : Nat) < Y.2.2.2.1) (hc : pz_c1 lv k = true) (hl : lv.set k (some (.ref x)) = lv') (kk : pw E Y R K uc us (pc + 1) lv' st h n) : pw E Y R K uc us pc lv (.ref x :: st) h n :=
  fun p e s m args below meth c H locs L ls F d ks => lv_astore_n F.1 F.2.1 hd rfl d.2.2.2.2.1 hi rfl (fun ls' h' => kk p e s m args below meth c H locs L ls' F (hl ▸ pw_d_set (v := .ref x) d hc ks.1 h') ks.2)
theorem pw_astore {i : Nat} {x : Nat} {lv' : List (Option Value)} (hd : decode Y.2.2.1 pc = .ok (.astore i, 2)) (hi : i < Y.2.2.2.1) (hc : pz_c1 lv i = true) (hl : lv.set i (some (.ref x)) = lv') (kk : pw E Y R K uc us (pc + 2) lv' st h n) : pw E Y R K uc us pc lv (.ref x :: st) h n :=
  fun p e s m args below meth c H locs L ls F d ks => lv_astore F.1 F.2.1 hd d.2.2.2.2.1 hi rfl (fun ls' h' => kk p e s m args below meth c H locs L ls' F (hl ▸ pw_d_set (v := .ref x) d hc ks.1 h') ks.2)
theorem pw_astore_nN {k : Fin 4} {lv' : List (Option Value)} (hd : decode Y.2.2.1 pc = .ok (.astore_n k, 1)) (hi : (k : Nat) < Y.2.2.2.1) (hc : pz_c1 lv k = true) (hl : lv.set k (some .null) = lv') (kk : pw E Y R K uc us (pc + 1) lv' st h n) : pw E Y R K uc us pc lv (.null :: st) h n :=
  fun p e s m args below meth c H locs L ls F d ks => lv_astore_nN F.1 F.2.1 hd rfl d.2.2.2.2.1 hi rfl (fun ls' h' => kk p e s m args below meth c H locs L ls' F (hl ▸ pw_d_set (v := .null) d hc trivial h') ks.2)
theorem pw_astoreN {i : Nat} {lv' : List (Option Value)} (hd : decode Y.2.2.1 pc = .ok (.astore i, 2)) (hi : i < Y.2.2.2.1) (hc : pz_c1 lv i = true) (hl : lv.set i (some .null) = lv') (kk : pw E Y R K uc us (pc + 2) lv' st h n) : pw E Y R K uc us pc lv (.null :: st) h n :=
  fun p e s m args below meth c H locs L ls F d ks => lv_astoreN F.1 F.2.1 hd d.2.2.2.2.1 hi rfl (fun ls' h' => kk p e s m args below meth c H locs L ls' F (hl ▸ pw_d_set (v := .null) d hc trivial h') ks.2)
theorem pw_iinc {i : Nat} {k : Int} {x v : Int32} {lv' : List (Option Value)} (hd : decode Y.2.2.1 pc = .ok (.iinc i k, 3)) (hx : lv[i]? = some (some (.int x))) (hv : x + Int32.ofInt k = v) (hi : i < Y.2.2.2.1) (hc : pz_c1 lv i = true) (hl : lv.set i (some (.int v)) = lv') (kk : pw E Y R K uc us (pc + 3) lv' st h n) : pw E Y R K uc us pc lv st h n :=
  fun p e s m args below meth c H locs L ls F d ks => by
    obtain ⟨j, hj⟩ := List.getElem?_of_mem (pz_al_mem (L := L) (q := (i, .int x)) |>.mpr ⟨_, hx, rfl⟩)
    exact lv_iinc (k := j) F.1 F.2.1 hd d.2.2.2.2.1 hj hv hi rfl (fun ls' h' => kk p e s m args below meth c H locs L ls' F (hl ▸ pw_d_set (v := .int v) d hc trivial h') ks)
theorem pw_iadd {x y : Int32} (hd : decode Y.2.2.1 pc = .ok (.iadd, 1)) (kk : pw E Y R K uc us (pc + 1) lv (.int (x + y) :: st) h n) : pw E Y R K uc us pc lv (.int y :: .int x :: st) h n :=
  fun p e s m args below meth c H locs L ls F d ks => lv_iadd F.1 F.2.1 hd (kk p e s m args below meth c H locs L ls F d ⟨trivial, ks.2.2⟩)
theorem pw_isub {x y : Int32} (hd : decode Y.2.2.1 pc = .ok (.isub, 1)) (kk : pw E Y R K uc us (pc + 1) lv (.int (x - y) :: st) h n) : pw E Y R K uc us pc lv (.int y :: .int x :: st) h n :=
  fun p e s m args below meth c H locs L ls F d ks => lv_isub F.1 F.2.1 hd (kk p e s m args below meth c H locs L ls F d ⟨trivial, ks.2.2⟩)
theorem pw_imul {x y : Int32} (hd : decode Y.2.2.1 pc = .ok (.imul, 1)) (kk : pw E Y R K uc us (pc + 1) lv (.int (x * y) :: st) h n) : pw E Y R K uc us pc lv (.int y :: .int x :: st) h n :=
  fun p e s m args below meth c H locs L ls F d ks => lv_imul F.1 F.2.1 hd (kk p e s m args below meth c H locs L ls F d ⟨trivial, ks.2.2⟩)
theorem pw_iand {x y : Int32} (hd : decode Y.2.2.1 pc = .ok (.iand, 1)) (kk : pw E Y R K uc us (pc + 1) lv (.int (x &&& y) :: st) h n) : pw E Y R K uc us pc lv (.int y :: .int x :: st) h n :=
  fun p e s m args below meth c H locs L ls F d ks => lv_iand F.1 F.2.1 hd (kk p e s m args below meth c H locs L ls F d ⟨trivial, ks.2.2⟩)
theorem pw_ior {x y : Int32} (hd : decode Y.2.2.1 pc = .ok (.ior, 1)) (kk : pw E Y R K uc us (pc + 1) lv (.int (x ||| y) :: st) h n) : pw E Y R K uc us pc lv (.int y :: .int x :: st) h n :=
  fun p e s m args below meth c H locs L ls F d ks => lv_ior F.1 F.2.1 hd (kk p e s m args below meth c H locs L ls F d ⟨trivial, ks.2.2⟩)
theorem pw_ixor {x y : Int32} (hd : decode Y.2.2.1 pc = .ok (.ixor, 1)) (kk : pw E Y R K uc us (pc + 1) lv (.int (x ^^^ y) :: st) h n) : pw E Y R K uc us pc lv (.int y :: .int x :: st) h n :=
  fun p e s m args below meth c H locs L ls F d ks => lv_ixor F.1 F.2.1 hd (kk p e s m args below meth c H locs L ls F d ⟨trivial, ks.2.2⟩)
theorem pw_ishl {x y : Int32} (hd : decode Y.2.2.1 pc = .ok (.ishl, 1)) (kk : pw E Y R K uc us (pc + 1) lv (.int (x <<< (y &&& 31)) :: st) h n) : pw E Y R K uc us pc lv (.int y :: .int x :: st) h n :=
  fun p e s m args below meth c H locs L ls F d ks => lv_ishl F.1 F.2.1 hd (kk p e s m args below meth c H locs L ls F d ⟨trivial, ks.2.2⟩)
theorem pw_ishr {x y : Int32} (hd : decode Y.2.2.1 pc = .ok (.ishr, 1)) (kk : pw E Y R K uc us (pc + 1) lv (.int (x >>> (y &&& 31)) :: st) h n) : pw E Y R K uc us pc lv (.int y :: .int x :: st) h n :=
  fun p e s m args below meth c H locs L ls F d ks => lv_ishr F.1 F.2.1 hd (kk p e s m args below meth c H locs L ls F d ⟨trivial, ks.2.2⟩)
theorem pw_idiv {x y : Int32} (hd : decode Y.2.2.1 pc = .ok (.idiv, 1)) (hne : ¬ y = 0) (kk : pw E Y R K uc us (pc + 1) lv (.int (x / y) :: st) h n) : pw E Y R K uc us pc lv (.int y :: .int x :: st) h n :=
  fun p e s m args below meth c H locs L ls F d ks => lv_idiv F.1 F.2.1 hd hne (kk p e s m args below meth c H locs L ls F d ⟨trivial, ks.2.2⟩)
theorem pw_irem {x y : Int32} (hd : decode Y.2.2.1 pc = .ok (.irem, 1)) (hne : ¬ y = 0) (kk : pw E Y R K uc us (pc + 1) lv (.int (x - x / y * y) :: st) h n) : pw E Y R K uc us pc lv (.int y :: .int x :: st) h n :=
  fun p e s m args below meth c H locs L ls F d ks => lv_irem F.1 F.2.1 hd hne (kk p e s m args below meth c H locs L ls F d ⟨trivial, ks.2.2⟩)
theorem pw_ineg {x : Int32} (hd : decode Y.2.2.1 pc = .ok (.ineg, 1)) (kk : pw E Y R K uc us (pc + 1) lv (.int (-x) :: st) h n) : pw E Y R K uc us pc lv (.int x :: st) h n :=
  fun p e s m args below meth c H locs L ls F d ks => lv_ineg F.1 F.2.1 hd (kk p e s m args below meth c H locs L ls F d ⟨trivial, ks.2⟩)
theorem pw_l2i {x : Int64} (hd : decode Y.2.2.1 pc = .ok (.l2i, 1)) (kk : pw E Y R K uc us (pc + 1) lv (.int x.toInt32 :: st) h n) : pw E Y R K uc us pc lv (.long x :: st) h n :=
  fun p e s m args below meth c H locs L ls F d ks => lv_l2i F.1 F.2.1 hd rfl (kk p e s m args below meth c H locs L ls F d ⟨trivial, ks.2⟩)
theorem pw_i2l {x : Int32} (hd : decode Y.2.2.1 pc = .ok (.i2l, 1)) (kk : pw E Y R K uc us (pc + 1) lv (.long x.toInt64 :: st) h n) : pw E Y R K uc us pc lv (.int x :: st) h n :=
  fun p e s m args below meth c H locs L ls F d ks => lv_i2l F.1 F.2.1 hd rfl (kk p e s m args below meth c H locs L ls F d ⟨trivial, ks.2⟩)
theorem pw_lshr {x : Int64} {y : Int32} (hd : decode Y.2.2.1 pc = .ok (.lshr, 1)) (kk : pw E Y R K uc us (pc + 1) lv (.long (x >>> (y.toInt64 &&& 63)) :: st) h n) : pw E Y R K uc us pc lv (.int y :: .long x :: st) h n :=
  fun p e s m args below meth c H locs L ls F d ks => lv_lshr F.1 F.2.1 hd rfl (kk p e s m args below meth c H locs L ls F d ⟨trivial, ks.2.2⟩)
theorem pw_lcmp {x y : Int64} (hd : decode Y.2.2.1 pc = .ok (.lcmp, 1)) (kk : pw E Y R K uc us (pc + 1) lv (.int (lg_cmp x y) :: st) h n) : pw E Y R K uc us pc lv (.long y :: .long x :: st) h n :=
  fun p e s m args below meth c H locs L ls F d ks => W.lcmp F.1 F.2.1 hd (kk p e s m args below meth c H locs L ls F d ⟨trivial, ks.2.2⟩)
theorem pz_cat (L : Nat → Nat) (v : Value) : (pz_v L v).category = v.category := by cases v <;> rfl
theorem pw_dup {v : Value} (hd : decode Y.2.2.1 pc = .ok (.dup, 1)) (hv : v.category = 1) (kk : pw E Y R K uc us (pc + 1) lv (v :: v :: st) h n) : pw E Y R K uc us pc lv (v :: st) h n :=
  fun p e s m args below meth c H locs L ls F d ks => lv_dup F.1 F.2.1 hd ((pz_cat L v).trans hv) (kk p e s m args below meth c H locs L ls F d ⟨ks.1, ks.1, ks.2⟩)
theorem pw_pop {v : Value} (hd : decode Y.2.2.1 pc = .ok (.pop, 1)) (hv : v.category = 1) (kk : pw E Y R K uc us (pc + 1) lv st h n) : pw E Y R K uc us pc lv (v :: st) h n :=
  fun p e s m args below meth c H locs L ls F d ks => lv_pop F.1 F.2.1 hd ((pz_cat L v).trans hv) (kk p e s m args below meth c H locs L ls F d ks.2)
theorem pw_dup_x1 {v w : Value} (hd : decode Y.2.2.1 pc = .ok (.dup_x1, 1)) (hv : v.category = 1) (hw : w.category = 1) (kk : pw E Y R K uc us (pc + 1) lv (v :: w :: v :: st) h n) : pw E Y R K uc us pc lv (v :: w :: st) h n :=
  fun p e s m args below meth c H locs L ls F d ks => lv_dup_x1 F.1 F.2.1 hd ((pz_cat L v).trans hv) ((pz_cat L w).trans hw) (kk p e s m args below meth c H locs L ls F d ⟨ks.1, ks.2.1, ks.1, ks.2.2⟩)
theorem pw_dup2 {v w : Value} (hd : decode Y.2.2.1 pc = .ok (.dup2, 1)) (hv : v.category = 1) (hw : w.category = 1) (kk : pw E Y R K uc us (pc + 1) lv (v :: w :: v :: w :: st) h n) : pw E Y R K uc us pc lv (v :: w :: st) h n :=
  fun p e s m args below meth c H locs L ls F d ks => lv_dup2_11 F.1 F.2.1 hd ((pz_cat L v).trans hv) ((pz_cat L w).trans hw) (kk p e s m args below meth c H locs L ls F d ⟨ks.1, ks.2.1, ks.1, ks.2.1, ks.2.2⟩)
theorem pw_ziadd {a b : Int} (hd : decode Y.2.2.1 pc = .ok (.iadd, 1)) (kk : pw E Y R K uc us (pc + 1) lv (.int (zI (a + b)) :: st) h n) : pw E Y R K uc us pc lv (.int (zI b) :: .int (zI a) :: st) h n :=
  pw_iadd hd (by rw [zI_add]; exact kk)
theorem pw_zisub {a b : Int} (hd : decode Y.2.2.1 pc = .ok (.isub, 1)) (kk : pw E Y R K uc us (pc + 1) lv (.int (zI (a - b)) :: st) h n) : pw E Y R K uc us pc lv (.int (zI b) :: .int (zI a) :: st) h n :=
  pw_isub hd (by rw [zI_sub]; exact kk)
theorem pw_zimul {a b : Int} (hd : decode Y.2.2.1 pc = .ok (.imul, 1)) (kk : pw E Y R K uc us (pc + 1) lv (.int (zI (a * b)) :: st) h n) : pw E Y R K uc us pc lv (.int (zI b) :: .int (zI a) :: st) h n :=
  pw_imul hd (by rw [zI_mul]; exact kk)
theorem pw_zineg {a : Int} (hd : decode Y.2.2.1 pc = .ok (.ineg, 1)) (kk : pw E Y R K uc us (pc + 1) lv (.int (zI (-a)) :: st) h n) : pw E Y R K uc us pc lv (.int (zI a) :: st) h n :=
  pw_ineg hd (by rw [zI_neg]; exact kk)
theorem pw_zidiv {a b : Int} (hd : decode Y.2.2.1 pc = .ok (.idiv, 1)) (ha : 0 ≤ a ∧ a < 2147483648) (hb : 0 < b ∧ b < 2147483648) (kk : pw E Y R K uc us (pc + 1) lv (.int (zI (a / b)) :: st) h n) : pw E Y R K uc us pc lv (.int (zI b) :: .int (zI a) :: st) h n :=
  pw_idiv hd (fun z => by rw [zI_0, zI_eq (by omega) (by omega)] at z; omega) (by rw [zI_div ha.1 ha.2 hb.1 hb.2]; exact kk)
theorem pw_zirem {a b : Int} (hd : decode Y.2.2.1 pc = .ok (.irem, 1)) (ha : 0 ≤ a ∧ a < 2147483648) (hb : 0 < b ∧ b < 2147483648) (kk : pw E Y R K uc us (pc + 1) lv (.int (zI (a % b)) :: st) h n) : pw E Y R K uc us pc lv (.int (zI b) :: .int (zI a) :: st) h n :=
  pw_irem hd (fun z => by rw [zI_0, zI_eq (by omega) (by omega)] at z; omega) (by rw [zI_rem ha.1 ha.2 hb.1 hb.2]; exact kk)
theorem pw_ziinc {i : Nat} {k a : Int} {lv' : List (Option Value)} (hd : decode Y.2.2.1 pc = .ok (.iinc i k, 3)) (hx : lv[i]? = some (some (.int (zI a)))) (hi : i < Y.2.2.2.1) (hc : pz_c1 lv i = true) (hl : lv.set i (some (.int (zI (a + k)))) = lv') (kk : pw E Y R K uc us (pc + 3) lv' st h n) : pw E Y R K uc us pc lv st h n :=
  pw_iinc hd hx (zI_add a k) hi hc hl kk
theorem pw_icmp_eq {a b off : Int} {tgt : Nat} (hd : decode Y.2.2.1 pc = .ok (.if_icmp .eq off, 3)) (ht : (pc : Int) + off = (tgt : Int)) (ha : -2147483648 ≤ a ∧ a < 2147483648) (hb : -2147483648 ≤ b ∧ b < 2147483648) (kt : a = b → pw E Y R K uc us tgt lv st h n) (kf : ¬ a = b → pw E Y R K uc us (pc + 3) lv st h n) : pw E Y R K uc us pc lv (.int (zI b) :: .int (zI a) :: st) h n :=
  fun p e s m args below meth c H locs L ls F d ks => lv_icmp_eq F.1 F.2.1 hd ht (fun z => kt ((zI_eq ha hb).mp z) p e s m args below meth c H locs L ls F d ks.2.2) (fun z => kf (fun q => z ((zI_eq ha hb).mpr q)) p e s m args below meth c H locs L ls F d ks.2.2)
theorem pw_if_eq {a off : Int} {tgt : Nat} (hd : decode Y.2.2.1 pc = .ok (.ifCond .eq off, 3)) (ht : (pc : Int) + off = (tgt : Int)) (ha : -2147483648 ≤ a ∧ a < 2147483648) (kt : a = 0 → pw E Y R K uc us tgt lv st h n) (kf : ¬ a = 0 → pw E Y R K uc us (pc + 3) lv st h n) : pw E Y R K uc us pc lv (.int (zI a) :: st) h n :=
  fun p e s m args below meth c H locs L ls F d ks => by
    have hb : -2147483648 ≤ (0 : Int) ∧ (0 : Int) < 2147483648 := by omega
    exact lv_if_eq F.1 F.2.1 hd ht (fun z => kt ((zI_eq ha hb).mp z) p e s m args below meth c H locs L ls F d ks.2) (fun z => kf (fun q => z ((zI_eq ha hb).mpr q)) p e s m args below meth c H locs L ls F d ks.2)
theorem pw_icmp_ne {a b off : Int} {tgt : Nat} (hd : decode Y.2.2.1 pc = .ok (.if_icmp .ne off, 3)) (ht : (pc : Int) + off = (tgt : Int)) (ha : -2147483648 ≤ a ∧ a < 2147483648) (hb : -2147483648 ≤ b ∧ b < 2147483648) (kt : ¬ a = b → pw E Y R K uc us tgt lv st h n) (kf : a = b → pw E Y R K uc us (pc + 3) lv st h n) : pw E Y R K uc us pc lv (.int (zI b) :: .int (zI a) :: st) h n :=
  fun p e s m args below meth c H locs L ls F d ks => lv_icmp_ne F.1 F.2.1 hd ht (fun z => kt (fun q => z ((zI_eq ha hb).mpr q)) p e s m args below meth c H locs L ls F d ks.2.2) (fun z => kf ((zI_eq ha hb).mp z) p e s m args below meth c H locs L ls F d ks.2.2)
theorem pw_if_ne {a off : Int} {tgt : Nat} (hd : decode Y.2.2.1 pc = .ok (.ifCond .ne off, 3)) (ht : (pc : Int) + off = (tgt : Int)) (ha : -2147483648 ≤ a ∧ a < 2147483648) (kt : ¬ a = 0 → pw E Y R K uc us tgt lv st h n) (kf : a = 0 → pw E Y R K uc us (pc + 3) lv st h n) : pw E Y R K uc us pc lv (.int (zI a) :: st) h n :=
  fun p e s m args below meth c H locs L ls F d ks => by
    have hb : -2147483648 ≤ (0 : Int) ∧ (0 : Int) < 2147483648 := by omega
    exact lv_if_ne F.1 F.2.1 hd ht (fun z => kt (fun q => z ((zI_eq ha hb).mpr q)) p e s m args below meth c H locs L ls F d ks.2) (fun z => kf ((zI_eq ha hb).mp z) p e s m args below meth c H locs L ls F d ks.2)
theorem pw_icmp_lt {a b off : Int} {tgt : Nat} (hd : decode Y.2.2.1 pc = .ok (.if_icmp .lt off, 3)) (ht : (pc : Int) + off = (tgt : Int)) (ha : -2147483648 ≤ a ∧ a < 2147483648) (hb : -2147483648 ≤ b ∧ b < 2147483648) (kt : a < b → pw E Y R K uc us tgt lv st h n) (kf : b ≤ a → pw E Y R K uc us (pc + 3) lv st h n) : pw E Y R K uc us pc lv (.int (zI b) :: .int (zI a) :: st) h n :=
  fun p e s m args below meth c H locs L ls F d ks => lv_icmp_lt F.1 F.2.1 hd ht (fun z => kt ((zI_lt ha hb).mp z) p e s m args below meth c H locs L ls F d ks.2.2) (fun z => kf (Int.not_lt.mp (fun q => z ((zI_lt ha hb).mpr q))) p e s m args below meth c H locs L ls F d ks.2.2)
theorem pw_if_lt {a off : Int} {tgt : Nat} (hd : decode Y.2.2.1 pc = .ok (.ifCond .lt off, 3)) (ht : (pc : Int) + off = (tgt : Int)) (ha : -2147483648 ≤ a ∧ a < 2147483648) (kt : a < 0 → pw E Y R K uc us tgt lv st h n) (kf : 0 ≤ a → pw E Y R K uc us (pc + 3) lv st h n) : pw E Y R K uc us pc lv (.int (zI a) :: st) h n :=
  fun p e s m args below meth c H locs L ls F d ks => by
    have hb : -2147483648 ≤ (0 : Int) ∧ (0 : Int) < 2147483648 := by omega
    exact lv_if_lt F.1 F.2.1 hd ht (fun z => kt ((zI_lt ha hb).mp z) p e s m args below meth c H locs L ls F d ks.2) (fun z => kf (Int.not_lt.mp (fun q => z ((zI_lt ha hb).mpr q))) p e s m args below meth c H locs L ls F d ks.2)
theorem pw_icmp_ge {a b off : Int} {tgt : Nat} (hd : decode Y.2.2.1 pc = .ok (.if_icmp .ge off, 3)) (ht : (pc : Int) + off = (tgt : Int)) (ha : -2147483648 ≤ a ∧ a < 2147483648) (hb : -2147483648 ≤ b ∧ b < 2147483648) (kt : b ≤ a → pw E Y R K uc us tgt lv st h n) (kf : a < b → pw E Y R K uc us (pc + 3) lv st h n) : pw E Y R K uc us pc lv (.int (zI b) :: .int (zI a) :: st) h n :=
  fun p e s m args below meth c H locs L ls F d ks => lv_icmp_ge F.1 F.2.1 hd ht (fun z => kt ((zI_le hb ha).mp z) p e s m args below meth c H locs L ls F d ks.2.2) (fun z => kf (Int.not_le.mp (fun q => z ((zI_le hb ha).mpr q))) p e s m args below meth c H locs L ls F d ks.2.2)
theorem pw_if_ge {a off : Int} {tgt : Nat} (hd : decode Y.2.2.1 pc = .ok (.ifCond .ge off, 3)) (ht : (pc : Int) + off = (tgt : Int)) (ha : -2147483648 ≤ a ∧ a < 2147483648) (kt : 0 ≤ a → pw E Y R K uc us tgt lv st h n) (kf : a < 0 → pw E Y R K uc us (pc + 3) lv st h n) : pw E Y R K uc us pc lv (.int (zI a) :: st) h n :=
  fun p e s m args below meth c H locs L ls F d ks => by
    have hb : -2147483648 ≤ (0 : Int) ∧ (0 : Int) < 2147483648 := by omega
    exact lv_if_ge F.1 F.2.1 hd ht (fun z => kt ((zI_le hb ha).mp z) p e s m args below meth c H locs L ls F d ks.2) (fun z => kf (Int.not_le.mp (fun q => z ((zI_le hb ha).mpr q))) p e s m args below meth c H locs L ls F d ks.2)
theorem pw_icmp_gt {a b off : Int} {tgt : Nat} (hd : decode Y.2.2.1 pc = .ok (.if_icmp .gt off, 3)) (ht : (pc : Int) + off = (tgt : Int)) (ha : -2147483648 ≤ a ∧ a < 2147483648) (hb : -2147483648 ≤ b ∧ b < 2147483648) (kt : b < a → pw E Y R K uc us tgt lv st h n) (kf : a ≤ b → pw E Y R K uc us (pc + 3) lv st h n) : pw E Y R K uc us pc lv (.int (zI b) :: .int (zI a) :: st) h n :=
  fun p e s m args below meth c H locs L ls F d ks => lv_icmp_gt F.1 F.2.1 hd ht (fun z => kt ((zI_lt hb ha).mp z) p e s m args below meth c H locs L ls F d ks.2.2) (fun z => kf (Int.not_lt.mp (fun q => z ((zI_lt hb ha).mpr q))) p e s m args below meth c H locs L ls F d ks.2.2)
theorem pw_if_gt {a off : Int} {tgt : Nat} (hd : decode Y.2.2.1 pc = .ok (.ifCond .gt off, 3)) (ht : (pc : Int) + off = (tgt : Int)) (ha : -2147483648 ≤ a ∧ a < 2147483648) (kt : 0 < a → pw E Y R K uc us tgt lv st h n) (kf : a ≤ 0 → pw E Y R K uc us (pc + 3) lv st h n) : pw E Y R K uc us pc lv (.int (zI a) :: st) h n :=
  fun p e s m args below meth c H locs L ls F d ks => by
    have hb : -2147483648 ≤ (0 : Int) ∧ (0 : Int) < 2147483648 := by omega
    exact lv_if_gt F.1 F.2.1 hd ht (fun z => kt ((zI_lt hb ha).mp z) p e s m args below meth c H locs L ls F d ks.2) (fun z => kf (Int.not_lt.mp (fun q => z ((zI_lt hb ha).mpr q))) p e s m args below meth c H locs L ls F d ks.2)
theorem pw_icmp_le {a b off : Int} {tgt : Nat} (hd : decode Y.2.2.1 pc = .ok (.if_icmp .le off, 3)) (ht : (pc : Int) + off = (tgt : Int)) (ha : -2147483648 ≤ a ∧ a < 2147483648) (hb : -2147483648 ≤ b ∧ b < 2147483648) (kt : a ≤ b → pw E Y R K uc us tgt lv st h n) (kf : b < a → pw E Y R K uc us (pc + 3) lv st h n) : pw E Y R K uc us pc lv (.int (zI b) :: .int (zI a) :: st) h n :=
  fun p e s m args below meth c H locs L ls F d ks => lv_icmp_le F.1 F.2.1 hd ht (fun z => kt ((zI_le ha hb).mp z) p e s m args below meth c H locs L ls F d ks.2.2) (fun z => kf (Int.not_le.mp (fun q => z ((zI_le ha hb).mpr q))) p e s m args below meth c H locs L ls F d ks.2.2)
theorem pw_if_le {a off : Int} {tgt : Nat} (hd : decode Y.2.2.1 pc = .ok (.ifCond .le off, 3)) (ht : (pc : Int) + off = (tgt : Int)) (ha : -2147483648 ≤ a ∧ a < 2147483648) (kt : a ≤ 0 → pw E Y R K uc us tgt lv st h n) (kf : 0 < a → pw E Y R K uc us (pc + 3) lv st h n) : pw E Y R K uc us pc lv (.int (zI a) :: st) h n :=
  fun p e s m args below meth c H locs L ls F d ks => by
    have hb : -2147483648 ≤ (0 : Int) ∧ (0 : Int) < 2147483648 := by omega
    exact lv_if_le F.1 F.2.1 hd ht (fun z => kt ((zI_le ha hb).mp z) p e s m args below meth c H locs L ls F d ks.2) (fun z => kf (Int.not_le.mp (fun q => z ((zI_le ha hb).mpr q))) p e s m args below meth c H locs L ls F d ks.2)
theorem pw_goto {off : Int} {tgt : Nat} (hd : decode Y.2.2.1 pc = .ok (.goto off, 3)) (ht : (pc : Int) + off = (tgt : Int)) (kk : pw E Y R K uc us tgt lv st h n) : pw E Y R K uc us pc lv st h n :=
  fun p e s m args below meth c H locs L ls F d ks => lv_goto F.1 F.2.1 hd ht (kk p e s m args below meth c H locs L ls F d ks)
theorem pw_ifnonnull {x : Nat} {off : Int} {tgt : Nat} (hd : decode Y.2.2.1 pc = .ok (.ifnonnull off, 3)) (ht : (pc : Int) + off = (tgt : Int)) (kk : pw E Y R K uc us tgt lv st h n) : pw E Y R K uc us pc lv (.ref x :: st) h n :=
  fun p e s m args below meth c H locs L ls F d ks => lv_ifnonnull F.1 F.2.1 hd ht (kk p e s m args below meth c H locs L ls F d ks.2)
theorem pw_ifnonnullN {off : Int} (hd : decode Y.2.2.1 pc = .ok (.ifnonnull off, 3)) (kk : pw E Y R K uc us (pc + 3) lv st h n) : pw E Y R K uc us pc lv (.null :: st) h n :=
  fun p e s m args below meth c H locs L ls F d ks => lv_ifnonnullN F.1 F.2.1 hd (kk p e s m args below meth c H locs L ls F d ks.2)
theorem pw_ifnull {x : Nat} {off : Int} (hd : decode Y.2.2.1 pc = .ok (.ifnull off, 3)) (kk : pw E Y R K uc us (pc + 3) lv st h n) : pw E Y R K uc us pc lv (.ref x :: st) h n :=
  fun p e s m args below meth c H locs L ls F d ks => lv_ifnull F.1 F.2.1 hd (kk p e s m args below meth c H locs L ls F d ks.2)
theorem pw_ifnullN {off : Int} {tgt : Nat} (hd : decode Y.2.2.1 pc = .ok (.ifnull off, 3)) (ht : (pc : Int) + off = (tgt : Int)) (kk : pw E Y R K uc us tgt lv st h n) : pw E Y R K uc us pc lv (.null :: st) h n :=
  fun p e s m args below meth c H locs L ls F d ks => lv_ifnullN F.1 F.2.1 hd ht (kk p e s m args below meth c H locs L ls F d ks.2)
theorem pw_acmp_eq {x y : Nat} {off : Int} {tgt : Nat} (hd : decode Y.2.2.1 pc = .ok (.if_acmp .eq off, 3)) (ht : (pc : Int) + off = (tgt : Int)) (kt : x = y → pw E Y R K uc us tgt lv st h n) (kf : ¬ x = y → pw E Y R K uc us (pc + 3) lv st h n) : pw E Y R K uc us pc lv (.ref y :: .ref x :: st) h n :=
  fun p e s m args below meth c H locs L ls F d ks => lv_acmp_eq (rx := some (L x)) (ry := some (L y)) F.1 F.2.1 hd ht (fun z => kt (pz_inj d.2.2.1.2.1 ks.2.1 ks.1 (Option.some.inj z)) p e s m args below meth c H locs L ls F d ks.2.2) (fun z => kf (fun q => z (by rw [q])) p e s m args below meth c H locs L ls F d ks.2.2)
theorem pw_acmp_ne {x y : Nat} {off : Int} {tgt : Nat} (hd : decode Y.2.2.1 pc = .ok (.if_acmp .ne off, 3)) (ht : (pc : Int) + off = (tgt : Int)) (kt : ¬ x = y → pw E Y R K uc us tgt lv st h n) (kf : x = y → pw E Y R K uc us (pc + 3) lv st h n) : pw E Y R K uc us pc lv (.ref y :: .ref x :: st) h n :=
  fun p e s m args below meth c H locs L ls F d ks => lv_acmp_ne (rx := some (L x)) (ry := some (L y)) F.1 F.2.1 hd ht (fun z => kt (fun q => z (by rw [q])) p e s m args below meth c H locs L ls F d ks.2.2) (fun z => kf (pz_inj d.2.2.1.2.1 ks.2.1 ks.1 (Option.some.inj z)) p e s m args below meth c H locs L ls F d ks.2.2)
theorem pw_lookup {dflt : Int} {ps : Array (Int × Int)} {len : Nat} {a off : Int} {tgt : Nat} (hd : decode Y.2.2.1 pc = .ok (.lookupswitch dflt ps, len)) (hp : (ps.toList.zip (ps.toList.drop 1)).all (fun (a, next) => a.1 < next.1) = true) (ha : -2147483648 ≤ a ∧ a < 2147483648) (ho : Op.lookupswitch.offset ps.toList dflt a = off) (ht : (pc : Int) + off = (tgt : Int)) (kk : pw E Y R K uc us tgt lv st h n) : pw E Y R K uc us pc lv (.int (zI a) :: st) h n :=
  fun p e s m args below meth c H locs L ls F d ks => lv_lookup F.1 F.2.1 hd hp (by rw [zI_toInt ha.1 ha.2]; exact ho) ht (kk p e s m args below meth c H locs L ls F d ks.2)
theorem pw_tableOut {dflt lo hi : Int} {offs : Array Int} {len : Nat} {a : Int} {tgt : Nat} (hd : decode Y.2.2.1 pc = .ok (.tableswitch dflt lo hi offs, len)) (ha : -2147483648 ≤ a ∧ a < 2147483648) (hx : a < lo ∨ hi < a) (ht : (pc : Int) + dflt = (tgt : Int)) (kk : pw E Y R K uc us tgt lv st h n) : pw E Y R K uc us pc lv (.int (zI a) :: st) h n :=
  fun p e s m args below meth c H locs L ls F d ks => lv_tableOut F.1 F.2.1 hd (by rw [zI_toInt ha.1 ha.2]; exact hx) ht (kk p e s m args below meth c H locs L ls F d ks.2)
theorem pw_tableIn {dflt lo hi : Int} {offs : Array Int} {len : Nat} {a off : Int} {tgt : Nat} (hd : decode Y.2.2.1 pc = .ok (.tableswitch dflt lo hi offs, len)) (ha : -2147483648 ≤ a ∧ a < 2147483648) (h1 : lo ≤ a) (h2 : a ≤ hi) (ho : offs[(a - lo).toNat]? = some off) (ht : (pc : Int) + off = (tgt : Int)) (kk : pw E Y R K uc us tgt lv st h n) : pw E Y R K uc us pc lv (.int (zI a) :: st) h n :=
  fun p e s m args below meth c H locs L ls F d ks => lv_tableIn F.1 F.2.1 hd (by rw [zI_toInt ha.1 ha.2]; omega) (by rw [zI_toInt ha.1 ha.2]; omega) (by rw [zI_toInt ha.1 ha.2]; exact ho) ht (kk p e s m args below meth c H locs L ls F d ks.2)
theorem pwF_own {p : Program} {s : State} {m : MethodId} {args : Array Value} {meth : Method} {c : Code} (F : pw_F E Y p s m args meth c) : s.vm.findClass Y.1 = some m.cls := F.2.2.2.2.2.2.1
theorem pwF_w {p : Program} {s : State} {m : MethodId} {args : Array Value} {meth : Method} {c : Code} (F : pw_F E Y p s m args meth c) : ∀ w ∈ pw_G, w.before args s = true := F.2.2.2.2.2.2.2.1
theorem pwF_U {p : Program} {s : State} {m : MethodId} {args : Array Value} {meth : Method} {c : Code} (F : pw_F E Y p s m args meth c) : pw_U E s := F.2.2.2.2.2.2.2.2.1
theorem pwF_K {p : Program} {s : State} {m : MethodId} {args : Array Value} {meth : Method} {c : Code} (F : pw_F E Y p s m args meth c) : va_K E.2.1 pw_cl (pw_tys E) s := (pwF_U F).2.1
theorem pwF_N {p : Program} {s : State} {m : MethodId} {args : Array Value} {meth : Method} {c : Code} (F : pw_F E Y p s m args meth c) : ∀ w ∈ pw_N, va_Nw w s := (pwF_U F).2.2.2.2.1
theorem pwF_A {p : Program} {s : State} {m : MethodId} {args : Array Value} {meth : Method} {c : Code} (F : pw_F E Y p s m args meth c) : ∀ q : Nat, s.heap.size ≤ q → pw_A E q := fun _ hq => Nat.le_trans (pwF_U F).1 hq
/-- a class of the worlds: its number, name, fields, how many, their types -/
def pw_ok (ci : Nat) (C : String) (T : u_T) (N : Nat) (ty : Nat → FieldType) : Prop := pw_cl[ci]? = some (C, T, N) ∧ (∀ w ∈ u_ws C T N, w ∈ pw_G) ∧ (∀ k, k < N → parseFieldDescriptor (T k).2.2.1 = some (ty k)) ∧ ∀ a, a < N → ∀ b, b < N → a ≠ b → (T a).2.1 ≠ (T b).2.1
theorem pz_ks_set {n k : Nat} {v : Value} : ∀ {fs : List Value}, pz_ks n fs → pz_k n v → ∀ k, pz_ks n (fs.set k v)
  | [], _, _, _ => trivial
  | _ :: _, h, hv, 0 => ⟨hv, h.2⟩
  | _ :: _, h, hv, k + 1 => ⟨h.1, pz_ks_set (k := 0) (v := v) h.2 hv k⟩
theorem pz_nar {ty : FieldType} {v : Value} {L : Nat → Nat} (h : narrow ty v = v) : narrow ty (pz_v L v) = pz_v L v := by
  cases v <;> first | exact h | (cases ty <;> rfl)
theorem pz_fit {ty : FieldType} {v : Value} {L : Nat → Nat} (h : fits ty v = true) : fits ty (pz_v L v) = true := by
  cases v <;> first | exact h | (cases ty <;> first | rfl | cases h)
theorem pz_obj {cA : Nat → ClassId} {L : Nat → Nat} {a ci : Nat} {fs : List Value} (ha : a < n) (ho : h a = pz_o ci fs) : (pz_w cA L n h)[a]? = some (L a, .inr (ci, fs.map (pz_v L))) := by
  rw [pz_w_get ha, ho]; rfl
theorem pz_ints {cA : Nat → ClassId} {L : Nat → Nat} {a t N : Nat} {f : Nat → Int32} (ha : a < n) (ho : h a = pz_i t N f) : (pz_w cA L n h)[a]? = some (L a, .inl (cA t, N, .inl f)) := by
  rw [pz_w_get ha, ho]; rfl
theorem pz_longs {cA : Nat → ClassId} {L : Nat → Nat} {a t N : Nat} {f : Nat → Int64} (ha : a < n) (ho : h a = pz_j t N f) : (pz_w cA L n h)[a]? = some (L a, .inl (cA t, N, .inr (.inl f))) := by
  rw [pz_w_get ha, ho]; rfl
theorem pz_refs {cA : Nat → ClassId} {L : Nat → Nat} {a t N : Nat} {g : Nat → Option Nat} (ha : a < n) (ho : h a = pz_r t N g) : (pz_w cA L n h)[a]? = some (L a, .inl (cA t, N, .inr (.inr (.inr (.inr (fun j => (g j).map L)))))) := by
  rw [pz_w_get ha, ho]; rfl
theorem pz_of_obj {a ci : Nat} {fs : List Value} (hh : pz_kh n h) (ha : a < n) (ho : h a = pz_o ci fs) : pz_ks n fs := by
  have := hh a ha
  rw [ho] at this
  exact this
theorem pw_get {ci N k index a : Nat} {C : String} {T : u_T} {ty : Nat → FieldType} {fs : List Value} {v : Value} (hc : pw_ok ci C T N ty) (hk : k < N) (hlink : Cond.fieldLink Y.1 index (T k).1 (T k).2.1 (T k).2.2.1 ∈ pw_G) (ho : h a = pz_o ci fs) (hv : fs[k]? = some v) (hd : decode Y.2.2.1 pc = .ok (.getfield index, 3)) (kk : pw E Y R K uc us (pc + 3) lv (v :: st) h n) : pw E Y R K uc us pc lv (.ref a :: st) h n :=
  fun p e s m args below meth c H locs L ls F d ks => va_get (D := E.2.1) (v := pz_v L v) F.1 F.2.1 (pwF_w F) hc.2.1 (pwF_own F) (pwF_K F) d.2.2.1.1 a (pz_obj ks.1 ho) hc.1 k hk (pwF_w F _ hlink) (fun _ z => z) (by rw [List.getElem?_map, hv]; rfl) hd (kk p e s m args below meth c H locs L ls F d ⟨pz_ks_mem (pz_of_obj d.2.2.1.2.2 ks.1 ho) v (List.mem_of_getElem? hv), ks.2⟩)
theorem pw_getN {ci N k index a : Nat} {C host : String} {T : u_T} {ty : Nat → FieldType} {fs : List Value} {v : Value} (hc : pw_ok ci C T N ty) (hk : k < N) (hlink : Cond.fieldLinkNest Y.1 index (T k).1 (T k).2.1 (T k).2.2.1 host ∈ pw_N) (ho : h a = pz_o ci fs) (hv : fs[k]? = some v) (hd : decode Y.2.2.1 pc = .ok (.getfield index, 3)) (kk : pw E Y R K uc us (pc + 3) lv (v :: st) h n) : pw E Y R K uc us pc lv (.ref a :: st) h n :=
  fun p e s m args below meth c H locs L ls F d ks => va_getN (D := E.2.1) (v := pz_v L v) F.1 F.2.1 (pwF_w F) hc.2.1 (pwF_own F) (pwF_K F) d.2.2.1.1 a (pz_obj ks.1 ho) hc.1 k hk (va_Nw.use rfl (pwF_N F _ hlink)) (fun _ z => z) (by rw [List.getElem?_map, hv]; rfl) hd (kk p e s m args below meth c H locs L ls F d ⟨pz_ks_mem (pz_of_obj d.2.2.1.2.2 ks.1 ho) v (List.mem_of_getElem? hv), ks.2⟩)
theorem pw_d_up {s : State} {H H1 : Heap} {locs locs1 : List Loc} {L : Nat → Nat} {ls : Array Slot} {a : Nat} {x : pz_C} {e : va_E} (d : pw_D E Y K s H locs L ls lv h n) (ha : a < n) (he : pz_e E.2.2.1 L x = e) (hx : pz_kc n x) (hP : va_P E.2.1 pw_cl ((pz_w E.2.2.1 L n h).set a (L a, e)) H1) (hD : va_D (pw_A E) ((pz_w E.2.2.1 L n h).set a (L a, e))) (hS : va_S (pw_A E) s.heap H1 locs1) : pw_D E Y K s H1 locs1 L ls lv (va_up h a x) n := by
  rw [← he, pz_w_set ha] at hP hD
  exact ⟨d.1, d.2.1, ⟨hP, hD, pz_kh_up d.2.2.1.2.2 hx⟩, hS, d.2.2.2.2⟩
theorem pz_e_obj {cA : Nat → ClassId} {L : Nat → Nat} {ci k : Nat} {fs : List Value} {v : Value} : pz_e cA L (pz_o ci (fs.set k v)) = .inr (ci, (fs.map (pz_v L)).set k (pz_v L v)) := by
  show Sum.inr (ci, (fs.set k v).map (pz_v L)) = _
  rw [List.map_set]
theorem pw_put {ci N k index a : Nat} {C : String} {T : u_T} {ty : Nat → FieldType} {fs fs' : List Value} {v : Value} (hc : pw_ok ci C T N ty) (hk : k < N) (hlink : Cond.fieldLink Y.1 index (T k).1 (T k).2.1 (T k).2.2.1 ∈ pw_G) (hfin : (T k).2.2.2 = false) (hn : narrow (ty k) v = v) (hfit : fits (ty k) v = true) (ho : h a = pz_o ci fs) (hl : k < fs.length) (hf : fs.set k v = fs') (hd : decode Y.2.2.1 pc = .ok (.putfield index, 3)) (kk : pw E Y R K uc us (pc + 3) lv st (va_up h a (pz_o ci fs')) n) : pw E Y R K uc us pc lv (v :: .ref a :: st) h n := by
  subst hf
  intro p e s m args below meth c H locs L ls F d ks
  exact va_put (D := E.2.1) (v := pz_v L v) F.1 F.2.1 (pwF_w F) hc.2.1 ty hc.2.2.1 hc.2.2.2 (pwF_own F) (pwF_K F) d.2.2.1.1 d.2.2.1.2.1 d.2.2.2.1 a (pz_obj ks.2.1 ho) hc.1 k hk (pwF_w F _ hlink) (fun _ z => z) hfin (hc.2.2.1 k hk) (pz_nar hn) (pz_fit hfit) (by rw [List.length_map]; exact hl) hd
    (fun H1 locs1 hP hD hS => kk p e s m args below meth c H1 locs1 L ls F (pw_d_up d ks.2.1 pz_e_obj (pz_ks_set (k := 0) (v := v) (pz_of_obj d.2.2.1.2.2 ks.2.1 ho) ks.1 k) hP hD hS) ks.2.2)
theorem pw_putN {ci N k index a : Nat} {C host : String} {T : u_T} {ty : Nat → FieldType} {fs fs' : List Value} {v : Value} (hc : pw_ok ci C T N ty) (hk : k < N) (hlink : Cond.fieldLinkNest Y.1 index (T k).1 (T k).2.1 (T k).2.2.1 host ∈ pw_N) (hfin : (T k).2.2.2 = false) (hn : narrow (ty k) v = v) (hfit : fits (ty k) v = true) (ho : h a = pz_o ci fs) (hl : k < fs.length) (hf : fs.set k v = fs') (hd : decode Y.2.2.1 pc = .ok (.putfield index, 3)) (kk : pw E Y R K uc us (pc + 3) lv st (va_up h a (pz_o ci fs')) n) : pw E Y R K uc us pc lv (v :: .ref a :: st) h n := by
  subst hf
  intro p e s m args below meth c H locs L ls F d ks
  exact va_putN (D := E.2.1) (v := pz_v L v) F.1 F.2.1 (pwF_w F) hc.2.1 ty hc.2.2.1 hc.2.2.2 (pwF_own F) (pwF_K F) d.2.2.1.1 d.2.2.1.2.1 d.2.2.2.1 a (pz_obj ks.2.1 ho) hc.1 k hk (va_Nw.use rfl (pwF_N F _ hlink)) (fun _ z => z) hfin (hc.2.2.1 k hk) (pz_nar hn) (pz_fit hfit) (by rw [List.length_map]; exact hl) hd
    (fun H1 locs1 hP hD hS => kk p e s m args below meth c H1 locs1 L ls F (pw_d_up d ks.2.1 pz_e_obj (pz_ks_set (k := 0) (v := v) (pz_of_obj d.2.2.1.2.2 ks.2.1 ho) ks.1 k) hP hD hS) ks.2.2)
/-- a final field, in its own constructor -/
theorem pw_putF {ci N k index a : Nat} {C : String} {T : u_T} {ty : Nat → FieldType} {fs fs' : List Value} {v : Value} (hc : pw_ok ci C T N ty) (hk : k < N) (hlink : Cond.fieldLink Y.1 index (T k).1 (T k).2.1 (T k).2.2.1 ∈ pw_G) (hfin : (T k).2.2.2 = true) (hi : Y.2.1 = "<init>") (hdecl : (T k).1 = Y.1) (hn : narrow (ty k) v = v) (hfit : fits (ty k) v = true) (ho : h a = pz_o ci fs) (hl : k < fs.length) (hf : fs.set k v = fs') (hd : decode Y.2.2.1 pc = .ok (.putfield index, 3)) (kk : pw E Y R K uc us (pc + 3) lv st (va_up h a (pz_o ci fs')) n) : pw E Y R K uc us pc lv (v :: .ref a :: st) h n := by
  subst hf
  intro p e s m args below meth c H locs L ls F d ks
  exact va_putF (D := E.2.1) (v := pz_v L v) F.1 F.2.1 (pwF_w F) hc.2.1 ty hc.2.2.1 hc.2.2.2 (pwF_own F) (pwF_K F) d.2.2.1.1 d.2.2.1.2.1 d.2.2.2.1 a (pz_obj ks.2.1 ho) hc.1 k hk (pwF_w F _ hlink) (fun _ z => z) hfin (F.2.2.2.2.2.1.trans hi) hdecl (hc.2.2.1 k hk) (pz_nar hn) (pz_fit hfit) (by rw [List.length_map]; exact hl) hd
    (fun H1 locs1 hP hD hS => kk p e s m args below meth c H1 locs1 L ls F (pw_d_up d ks.2.1 pz_e_obj (pz_ks_set (k := 0) (v := v) (pz_of_obj d.2.2.1.2.2 ks.2.1 ho) ks.1 k) hP hD hS) ks.2.2)
/-- an array of ints, all zI -/
abbrev pz_z (t N : Nat) (g : Nat → Int) : pz_C := pz_i t N (fun j => zI (g j))
theorem pw_iald {t N a : Nat} {i : Int} {g : Nat → Int} (ht : pw_T[t]? = some .int) (ho : h a = pz_z t N g) (hi : 0 ≤ i ∧ i < N) (hN : N < 2147483648) (hd : decode Y.2.2.1 pc = .ok (.iaload, 1)) (kk : pw E Y R K uc us (pc + 1) lv (.int (zI (g i.toNat)) :: st) h n) : pw E Y R K uc us pc lv (.int (zI i) :: .ref a :: st) h n :=
  fun p e s m args below meth c H locs L ls F d ks => va_iald (D := E.2.1) F.1 F.2.1 (pwF_K F) d.2.2.1.1 a t (pz_ints ks.2.1 ho) (pw_tys_get ht) (zI_in hi.1 hi.2 hN) hd (by
    rw [zI_cl hi.1 (by omega)]
    exact kk p e s m args below meth c H locs L ls F d ⟨trivial, ks.2.2⟩)
theorem pw_iast {t N a : Nat} {i v : Int} {g : Nat → Int} (ht : pw_T[t]? = some .int) (ho : h a = pz_z t N g) (hi : 0 ≤ i ∧ i < N) (hN : N < 2147483648) (hd : decode Y.2.2.1 pc = .ok (.iastore, 1)) (kk : pw E Y R K uc us (pc + 1) lv st (va_up h a (pz_z t N (va_up g i.toNat v))) n) : pw E Y R K uc us pc lv (.int (zI v) :: .int (zI i) :: .ref a :: st) h n :=
  fun p e s m args below meth c H locs L ls F d ks => va_iast (D := E.2.1) F.1 F.2.1 (pwF_K F) d.2.2.1.1 d.2.2.1.2.1 d.2.2.2.1 a t (pz_ints ks.2.2.1 ho) (pw_tys_get ht) (zI_in hi.1 hi.2 hN) hd (fun H1 locs1 hP hD hS => by
    rw [zI_cl hi.1 (by omega), zI_upd] at hP hD
    exact kk p e s m args below meth c H1 locs1 L ls F (pw_d_up d ks.2.2.1 rfl trivial hP hD hS) ks.2.2.2)
theorem pw_lald {t N a : Nat} {i : Int} {f : Nat → Int64} (ht : pw_T[t]? = some .long) (ho : h a = pz_j t N f) (hi : 0 ≤ i ∧ i < N) (hN : N < 2147483648) (hd : decode Y.2.2.1 pc = .ok (.laload, 1)) (kk : pw E Y R K uc us (pc + 1) lv (.long (f i.toNat) :: st) h n) : pw E Y R K uc us pc lv (.int (zI i) :: .ref a :: st) h n :=
  fun p e s m args below meth c H locs L ls F d ks => va_lald (D := E.2.1) F.1 F.2.1 (pwF_K F) d.2.2.1.1 a t (pz_longs ks.2.1 ho) (pw_tys_get ht) (zI_in hi.1 hi.2 hN) hd (by
    rw [zI_cl hi.1 (by omega)]
    exact kk p e s m args below meth c H locs L ls F d ⟨trivial, ks.2.2⟩)
theorem pw_last {t N a : Nat} {i : Int} {v : Int64} {f : Nat → Int64} (ht : pw_T[t]? = some .long) (ho : h a = pz_j t N f) (hi : 0 ≤ i ∧ i < N) (hN : N < 2147483648) (hd : decode Y.2.2.1 pc = .ok (.lastore, 1)) (kk : pw E Y R K uc us (pc + 1) lv st (va_up h a (pz_j t N (vp_updL f i.toNat v))) n) : pw E Y R K uc us pc lv (.long v :: .int (zI i) :: .ref a :: st) h n :=
  fun p e s m args below meth c H locs L ls F d ks => va_last (D := E.2.1) F.1 F.2.1 (pwF_K F) d.2.2.1.1 d.2.2.1.2.1 d.2.2.2.1 a t (pz_longs ks.2.2.1 ho) (pw_tys_get ht) (zI_in hi.1 hi.2 hN) hd (fun H1 locs1 hP hD hS => by
    rw [zI_cl hi.1 (by omega)] at hP hD
    exact kk p e s m args below meth c H1 locs1 L ls F (pw_d_up d ks.2.2.1 rfl trivial hP hD hS) ks.2.2.2)
theorem pw_aald {t N a b : Nat} {C : String} {i : Int} {g : Nat → Option Nat} (ht : pw_T[t]? = some (.object C)) (ho : h a = pz_r t N g) (hi : 0 ≤ i ∧ i < N) (hN : N < 2147483648) (hb : g i.toNat = some b) (hd : decode Y.2.2.1 pc = .ok (.aaload, 1)) (kk : pw E Y R K uc us (pc + 1) lv (.ref b :: st) h n) : pw E Y R K uc us pc lv (.int (zI i) :: .ref a :: st) h n :=
  fun p e s m args below meth c H locs L ls F d ks => va_aldq (D := E.2.1) F.1 F.2.1 (pwF_K F) d.2.2.1.1 a t (pz_refs ks.2.1 ho) (pw_tys_get ht) (zI_in hi.1 hi.2 hN) hd (by
    have hk : pz_k n (.ref b) := by
      have h2 := d.2.2.1.2.2 a ks.2.1
      rw [ho] at h2
      exact h2 _ b hb
    rw [zI_cl hi.1 (by omega), hb]
    exact kk p e s m args below meth c H locs L ls F d ⟨hk, ks.2.2⟩)
theorem pw_aaldN {t N a : Nat} {C : String} {i : Int} {g : Nat → Option Nat} (ht : pw_T[t]? = some (.object C)) (ho : h a = pz_r t N g) (hi : 0 ≤ i ∧ i < N) (hN : N < 2147483648) (hb : g i.toNat = none) (hd : decode Y.2.2.1 pc = .ok (.aaload, 1)) (kk : pw E Y R K uc us (pc + 1) lv (.null :: st) h n) : pw E Y R K uc us pc lv (.int (zI i) :: .ref a :: st) h n :=
  fun p e s m args below meth c H locs L ls F d ks => va_aldq (D := E.2.1) F.1 F.2.1 (pwF_K F) d.2.2.1.1 a t (pz_refs ks.2.1 ho) (pw_tys_get ht) (zI_in hi.1 hi.2 hN) hd (by
    rw [zI_cl hi.1 (by omega), hb]
    exact kk p e s m args below meth c H locs L ls F d ⟨trivial, ks.2.2⟩)
theorem pz_e_ref {cA : Nat → ClassId} {L : Nat → Nat} {t N k : Nat} {g : Nat → Option Nat} {o : Option Nat} : pz_e cA L (pz_r t N (va_up g k o)) = .inl (cA t, N, .inr (.inr (.inr (.inr (va_up (fun j => (g j).map L) k (o.map L)))))) := by
  show Sum.inl (cA t, N, Sum.inr (Sum.inr (Sum.inr (Sum.inr (fun j => (va_up g k o j).map L))))) = _
  have e : (fun j => (va_up g k o j).map L) = va_up (fun j => (g j).map L) k (o.map L) := by
    funext j
    by_cases e : j = k
    · subst e; rw [va_up_self, va_up_self]
    · rw [va_up_ne _ _ e, va_up_ne _ _ e]
  rw [e]
theorem pz_kr {n t N k : Nat} {g : Nat → Option Nat} {o : Option Nat} (hg : pz_kc n (pz_r t N g)) (ho : ∀ b, o = some b → b < n) : pz_kc n (pz_r t N (va_up g k o)) := fun j b e => by
  by_cases ej : j = k
  · subst ej
    have e : va_up g j o j = some b := e
    rw [va_up_self] at e
    exact ho b e
  · have e : va_up g k o j = some b := e
    rw [va_up_ne _ _ ej] at e
    exact hg j b e
theorem pw_aast {t N a b ci : Nat} {r : vw_C} {vs : List Value} {i : Int} {g : Nat → Option Nat} (ht : pw_T[t]? = some (.object r.1)) (ho : h a = pz_r t N g) (hi : 0 ≤ i ∧ i < N) (hN : N < 2147483648) (hb : h b = pz_o ci vs) (hr : pw_cl[ci]? = some r) (hd : decode Y.2.2.1 pc = .ok (.aastore, 1)) (kk : pw E Y R K uc us (pc + 1) lv st (va_up h a (pz_r t N (va_up g i.toNat (some b)))) n) : pw E Y R K uc us pc lv (.ref b :: .int (zI i) :: .ref a :: st) h n :=
  fun p e s m args below meth c H locs L ls F d ks => va_astq (D := E.2.1) F.1 F.2.1 (pwF_K F) d.2.2.1.1 d.2.2.1.2.1 d.2.2.2.1 a t b ci (pz_refs ks.2.2.1 ho) (pw_tys_get ht) (pz_obj ks.1 hb) hr (zI_in hi.1 hi.2 hN) hd (fun H1 locs1 hP hD hS => by
    rw [zI_cl hi.1 (by omega)] at hP hD
    have h2 := d.2.2.1.2.2 a ks.2.2.1
    rw [ho] at h2
    exact kk p e s m args below meth c H1 locs1 L ls F (pw_d_up d ks.2.2.1 (pz_e_ref (o := some b)) (pz_kr h2 (fun x e => by cases e; exact ks.1)) hP hD hS) ks.2.2.2)
theorem pw_aastN {t N a : Nat} {C : String} {i : Int} {g : Nat → Option Nat} (ht : pw_T[t]? = some (.object C)) (ho : h a = pz_r t N g) (hi : 0 ≤ i ∧ i < N) (hN : N < 2147483648) (hd : decode Y.2.2.1 pc = .ok (.aastore, 1)) (kk : pw E Y R K uc us (pc + 1) lv st (va_up h a (pz_r t N (va_up g i.toNat none))) n) : pw E Y R K uc us pc lv (.null :: .int (zI i) :: .ref a :: st) h n :=
  fun p e s m args below meth c H locs L ls F d ks => va_astqN (D := E.2.1) F.1 F.2.1 (pwF_K F) d.2.2.1.1 d.2.2.1.2.1 d.2.2.2.1 a t (pz_refs ks.2.2.1 ho) (pw_tys_get ht) (zI_in hi.1 hi.2 hN) hd (fun H1 locs1 hP hD hS => by
    rw [zI_cl hi.1 (by omega)] at hP hD
    have h2 := d.2.2.1.2.2 a ks.2.2.1
    rw [ho] at h2
    exact kk p e s m args below meth c H1 locs1 L ls F (pw_d_up d ks.2.2.1 (pz_e_ref (o := none)) (pz_kr h2 (fun x e => by cases e)) hP hD hS) ks.2.2.2)
theorem pw_alenI {t N a : Nat} {f : Nat → Int32} (ht : pw_T[t]? = some .int) (ho : h a = pz_i t N f) (hd : decode Y.2.2.1 pc = .ok (.arraylength, 1)) (kk : pw E Y R K uc us (pc + 1) lv (.int (zI N) :: st) h n) : pw E Y R K uc us pc lv (.ref a :: st) h n :=
  fun p e s m args below meth c H locs L ls F d ks => va_alen (D := E.2.1) F.1 F.2.1 (pwF_K F) d.2.2.1.1 a t (pz_ints ks.1 ho) (pw_tys_get ht) rfl hd (kk p e s m args below meth c H locs L ls F d ⟨trivial, ks.2⟩)
/-- one id more -/
theorem pw_d_push {s : State} {H H1 : Heap} {locs : List Loc} {L : Nat → Nat} {ls : Array Slot} {q : Nat} {x : pz_C} {e : va_E} (d : pw_D E Y K s H locs L ls lv h n) (he : pz_e E.2.2.1 (va_up L n q) x = e) (hx : pz_kc (n + 1) x) (hP : va_P E.2.1 pw_cl (pz_w E.2.2.1 L n h ++ [(q, e)]) H1) (hD : va_D (pw_A E) (pz_w E.2.2.1 L n h ++ [(q, e)])) (hS : va_S (pw_A E) s.heap H1 locs) : pw_D E Y K s H1 locs (va_up L n q) ls lv (va_up h n x) (n + 1) := by
  rw [← he, pz_w_push d.2.2.1.2.2] at hP hD
  exact ⟨Nat.le_succ_of_le d.1, pz_ag_tr d.2.1 pz_ag_up d.1, ⟨hP, hD, pz_kh_push d.2.2.1.2.2 hx⟩, hS, pz_lv_ag d.2.2.2.2 pz_ag_up (Nat.le_succ n)⟩
theorem pz_ks0 {L : Nat → Nat} : ∀ {fs : List Value}, pz_ks 0 fs → fs.map (pz_v L) = fs
  | [], _ => rfl
  | v :: r, hk => by
    show pz_v L v :: r.map (pz_v L) = v :: r
    rw [pz_ks0 hk.2]
    cases v <;> first | rfl | exact absurd hk.1 (Nat.not_lt_zero _)
theorem pz_st_push {q : Nat} {L : Nat → Nat} (ks : pz_ks n st) : (Value.ref n :: st).map (pz_v (va_up L n q)) = .ref q :: st.map (pz_v L) := by
  show Value.ref (va_up L n q n) :: st.map (pz_v (va_up L n q)) = _
  rw [va_up_self, pz_vs_ag pz_ag_up ks]
theorem pw_new {ci N index : Nat} {C : String} {T : u_T} {ty : Nat → FieldType} {fs : List Value} (hc : pw_ok ci C T N ty) (hcl : Cond.classLink Y.1 index C ∈ pw_G) (hin : Cond.instantiable C N ∈ pw_G) (hini : Cond.initialized C ∈ pw_G) (hfs : ∀ j, j < N → defaultValue (ty j) = vp_V fs j) (hk0 : pz_ks 0 fs) (hcs : uc + 1 ≤ R.cells) (hss : us + N ≤ R.slots) (hd : decode Y.2.2.1 pc = .ok (.new index, 3)) (kk : pw E Y R K (uc + 1) (us + N) (pc + 3) lv (.ref n :: st) (va_up h n (pz_o ci fs)) (n + 1)) : pw E Y R K uc us pc lv st h n :=
  fun p e s m args below meth c H locs L ls F d ks => va_new (D := E.2.1) (fs := fs) F.1 F.2.1 (pwF_w F) hc.2.1 ty hc.2.2.1 (pwF_own F) (pwF_w F _ hcl) (pwF_w F _ hin) (pwF_w F _ hini) (pwF_K F) d.2.2.1.1 d.2.2.1.2.1 d.2.2.2.1 (pwF_A F) hc.1 hfs hcs hss hd (fun q H1 hP hD hS => by
    have d1 := pw_d_push (q := q) (x := pz_o ci fs) d (show pz_e E.2.2.1 (va_up L n q) (pz_o ci fs) = .inr (ci, fs) by show Sum.inr (ci, fs.map (pz_v (va_up L n q))) = _; rw [pz_ks0 hk0]) (pz_ks_le (Nat.zero_le _) hk0) hP hD hS
    have k1 := kk p e s m args below meth c H1 locs (va_up L n q) ls F d1 ⟨Nat.lt_succ_self n, pz_ks_le (Nat.le_succ n) ks⟩
    rw [pz_st_push ks] at k1
    exact k1)
theorem pw_newi {t : Nat} {a : Int} (ht : pw_T[t]? = some .int) (harr : Cond.arrayClass .int ∈ pw_G) (ha : 0 ≤ a ∧ a ≤ 100000000) (hcs : uc + 1 ≤ R.cells) (hss : us + a.toNat ≤ R.slots) (hd : decode Y.2.2.1 pc = .ok (.newarray .int, 2)) (kk : pw E Y R K (uc + 1) (us + a.toNat) (pc + 2) lv (.ref n :: st) (va_up h n (pz_z t a.toNat (fun _ => 0))) (n + 1)) : pw E Y R K uc us pc lv (.int (zI a) :: st) h n :=
  fun p e s m args below meth c H locs L ls F d ks => va_newa (D := E.2.1) (atype := .int) (a0 := (a.toNat, .inl (fun _ => zI 0))) (N' := a.toNat) (ty := .int) F.1 F.2.1 (pwF_w F _ harr) rfl (pwF_K F) d.2.2.1.1 d.2.2.1.2.1 d.2.2.2.1 (pwF_A F) (fun _ => rfl) (fun z => by rw [zI_0, zI_lt (by omega) (by omega)] at z; omega) (zI_cl ha.1 (by omega)) (by show a.toNat * 4 ≤ 536870912; omega) hcs hss hd (fun q cA H1 hK hP hD hS => by
    have e1 : s.vm.findClass ("[" ++ FieldType.int.toString) = some (E.2.2.1 t) := ((pwF_K F).2 t _ (pw_tys_get ht)).2
    have e2 : s.vm.findClass ("[" ++ FieldType.int.toString) = some cA := (hK.2 (pw_tys E).length (cA, .int) (by rw [List.getElem?_append_right (Nat.le_refl _), Nat.sub_self]; rfl)).2
    have e3 : E.2.2.1 t = cA := Option.some.inj (e1.symm.trans e2)
    subst e3
    have d1 := pw_d_push (q := q) (x := pz_z t a.toNat (fun _ => 0)) d rfl trivial hP hD hS
    have k1 := kk p e s m args below meth c H1 locs (va_up L n q) ls F d1 ⟨Nat.lt_succ_self n, pz_ks_le (Nat.le_succ n) ks.2⟩
    rw [pz_st_push ks.2] at k1
    exact k1)
theorem pw_newl {t : Nat} {a : Int} (ht : pw_T[t]? = some .long) (harr : Cond.arrayClass .long ∈ pw_G) (ha : 0 ≤ a ∧ a ≤ 10000000) (hcs : uc + 1 ≤ R.cells) (hss : us + a.toNat ≤ R.slots) (hd : decode Y.2.2.1 pc = .ok (.newarray .long, 2)) (kk : pw E Y R K (uc + 1) (us + a.toNat) (pc + 2) lv (.ref n :: st) (va_up h n (pz_j t a.toNat (fun _ => 0))) (n + 1)) : pw E Y R K uc us pc lv (.int (zI a) :: st) h n :=
  fun p e s m args below meth c H locs L ls F d ks => va_newa (D := E.2.1) (atype := .long) (a0 := (a.toNat, .inr (.inl (fun _ => 0)))) (N' := a.toNat) (ty := .long) F.1 F.2.1 (pwF_w F _ harr) rfl (pwF_K F) d.2.2.1.1 d.2.2.1.2.1 d.2.2.2.1 (pwF_A F) (fun _ => rfl) (fun z => by rw [zI_0, zI_lt (by omega) (by omega)] at z; omega) (zI_cl ha.1 (by omega)) (by show a.toNat * 8 ≤ 536870912; omega) hcs hss hd (fun q cA H1 hK hP hD hS => by
    have e1 : s.vm.findClass ("[" ++ FieldType.long.toString) = some (E.2.2.1 t) := ((pwF_K F).2 t _ (pw_tys_get ht)).2
    have e2 : s.vm.findClass ("[" ++ FieldType.long.toString) = some cA := (hK.2 (pw_tys E).length (cA, .long) (by rw [List.getElem?_append_right (Nat.le_refl _), Nat.sub_self]; rfl)).2
    have e3 : E.2.2.1 t = cA := Option.some.inj (e1.symm.trans e2)
    subst e3
    have d1 := pw_d_push (q := q) (x := pz_j t a.toNat (fun _ => 0)) d rfl trivial hP hD hS
    have k1 := kk p e s m args below meth c H1 locs (va_up L n q) ls F d1 ⟨Nat.lt_succ_self n, pz_ks_le (Nat.le_succ n) ks.2⟩
    rw [pz_st_push ks.2] at k1
    exact k1)
theorem pw_newr {t index : Nat} {C : String} {a : Int} (ht : pw_T[t]? = some (.object C)) (hcl : Cond.classLink Y.1 index C ∈ pw_G) (hover : Cond.arrayOver (.object C) ∈ pw_G) (ha : 0 ≤ a ∧ a ≤ 100000000) (hcs : uc + 1 ≤ R.cells) (hss : us + a.toNat ≤ R.slots) (hd : decode Y.2.2.1 pc = .ok (.anewarray index, 3)) (kk : pw E Y R K (uc + 1) (us + a.toNat) (pc + 3) lv (.ref n :: st) (va_up h n (pz_r t a.toNat (fun _ => none))) (n + 1)) : pw E Y R K uc us pc lv (.int (zI a) :: st) h n :=
  fun p e s m args below meth c H locs L ls F d ks => va_newq (D := E.2.1) (C := C) (N' := a.toNat) F.1 F.2.1 (pwF_own F) (pwF_w F _ hcl) (va_AO.of (A := args) (pwF_w F _ hover)) (pwF_K F) d.2.2.1.1 d.2.2.1.2.1 d.2.2.2.1 (pwF_A F) (fun z => by rw [zI_0, zI_lt (by omega) (by omega)] at z; omega) (zI_cl ha.1 (by omega)) (by omega) hcs hss hd (fun q cA H1 hK hP hD hS => by
    obtain ⟨_, _, _, _, _, e1⟩ := ((pwF_K F).2 t _ (pw_tys_get ht)).2
    obtain ⟨_, _, _, _, _, e2⟩ := (hK.2 (pw_tys E).length (cA, .object C) (by rw [List.getElem?_append_right (Nat.le_refl _), Nat.sub_self]; rfl)).2
    have e3 : E.2.2.1 t = cA := Option.some.inj (e1.symm.trans e2)
    subst e3
    have d1 := pw_d_push (q := q) (x := pz_r t a.toNat (fun _ => none)) d rfl (fun j b e => by cases e) hP hD hS
    have k1 := kk p e s m args below meth c H1 locs (va_up L n q) ls F d1 ⟨Nat.lt_succ_self n, pz_ks_le (Nat.le_succ n) ks.2⟩
    rw [pz_st_push ks.2] at k1
    exact k1)
end PW
end
section
/-! ===== CONTRACTS over ids, and calls ===== -/
def pw_P (E : pw_E) (L : Nat → Nat) (av : List Value) (h : pz_H) (n : Nat) : Array Value → State → Prop := va_Pc (av.map (pz_v L)) (fun U => pw_U E U ∧ pz_R E.2.1 pw_cl E.2.2.1 (pw_A E) L n h U.heap ∧ pz_ks n av)
def pw_ws (y : MethodName) (Y : pw_Y) : List Cond := Cond.code y Y.2.2.1 Y.2.2.2.1 Y.2.2.2.2 :: pw_G
/-- method y, from the arguments av and the cells h with n ids: it returns with Q, or throws with X -/
def pw_M (E : pw_E) (y : MethodName) (Y : pw_Y) (rm : Room) (av : List Value) (h : pz_H) (n : Nat) (Q : Option Value → pz_H → Nat → Prop) (X : String → pz_H → Nat → Prop) : Prop :=
  ∀ L : Nat → Nat, vx_Met E.1 y (pw_ws y Y) rm (pw_P E L av h n) (pw_Q E L n Q) (pw_X E L n X) rm.cells rm.slots (pw_A E)
theorem pw_U_same {E : pw_E} {U T : State} (hh : T.heap = U.heap) (hv : T.vm = U.vm) (h : pw_U E U) : pw_U E T := by
  have ha : U.vm.Alike T.vm := by rw [hv]; exact Vm.Alike.refl U.vm
  refine ⟨by rw [hh]; exact h.1, va_K.moved ha h.2.1, by rw [hh]; exact vx_Zq.moved ha h.2.2.1, by rw [hh]; exact vx_Zq.moved ha h.2.2.2.1, fun w hw => ?_, fun z hz => ?_⟩
  · exact va_Nw.same (pw_N_tab w hw) hv.symm (h.2.2.2.2.1 w hw)
  · obtain ⟨sa, hs⟩ := h.2.2.2.2.2 z hz
    exact ⟨sa, vk_R.same hv hs⟩
theorem pw_U_at {E : pw_E} {s U : State} {H : Heap} {locs : List Loc} (hU : pw_U E s) (hS : va_S (pw_A E) s.heap H locs) (hu : U.heap = H) (hW : s.WarmedH U.vm) : pw_U E U := by
  refine ⟨by rw [hu]; exact Nat.le_trans hU.1 hS.1, va_K.moved hW.alike hU.2.1, by rw [hu]; exact vx_Zq.moved hW.alike (hU.2.2.1.kept hS.2.1), by rw [hu]; exact vx_Zq.moved hW.alike (hU.2.2.2.1.kept hS.2.1), fun w hw => ?_, fun z hz => ?_⟩
  · exact pw_N_warm hW (pw_N_ok w hw) (hU.2.2.2.2.1 w hw)
  · obtain ⟨sa, hs⟩ := hU.2.2.2.2.2 z hz
    exact ⟨sa, vk_R.warm hW hs⟩
theorem pw_blind {E : pw_E} {L : Nat → Nat} {av : List Value} {h : pz_H} {n : Nat} : FrameBlind (pw_P E L av h n) := fun a U g mk q => ⟨q.1, pw_U_same (U := U) (T := U.calling g mk a) rfl rfl q.2.1, q.2.2.1, q.2.2.2⟩
/-- a method's locals at its start -/
def pz_ent : List Value → List (Option Value)
  | [] => []
  | v :: r => if v.category = 2 then some v :: none :: pz_ent r else some v :: pz_ent r
theorem pz_ent_at {L : Nat → Nat} : ∀ (av : List Value) (i j : Nat) (v : Value), (pz_ent av)[j]? = some (some v) → (i + j, pz_v L v) ∈ lv_args i (av.map (pz_v L))
  | [], i, j, v, hv => by cases hv
  | a :: r, i, j, v, hv => by
    show (i + j, pz_v L v) ∈ (i, pz_v L a) :: lv_args (if (pz_v L a).category = 2 then i + 2 else i + 1) (r.map (pz_v L))
    rw [pz_cat]
    unfold pz_ent at hv
    by_cases hc : a.category = 2
    · rw [if_pos hc] at hv ⊢
      match j, hv with
      | 0, hv =>
        have e : a = v := Option.some.inj (Option.some.inj hv)
        rw [e]; exact List.mem_cons_self
      | 1, hv => cases hv
      | j + 2, hv =>
        have h2 := pz_ent_at (L := L) r (i + 2) j v hv
        rw [show i + (j + 2) = i + 2 + j by omega]
        exact List.mem_cons_of_mem _ h2
    · rw [if_neg hc] at hv ⊢
      match j, hv with
      | 0, hv =>
        have e : a = v := Option.some.inj (Option.some.inj hv)
        rw [e]; exact List.mem_cons_self
      | j + 1, hv =>
        have h2 := pz_ent_at (L := L) r (i + 1) j v hv
        rw [show i + (j + 1) = i + 1 + j by omega]
        exact List.mem_cons_of_mem _ h2
theorem pz_ent_k {n : Nat} : ∀ (av : List Value), pz_ks n av → ∀ (j : Nat) (v : Value), (pz_ent av)[j]? = some (some v) → pz_k n v
  | [], _, j, v, hv => by cases hv
  | a :: r, hk, j, v, hv => by
    unfold pz_ent at hv
    by_cases hc : a.category = 2
    · rw [if_pos hc] at hv
      match j, hv with
      | 0, hv =>
        have e : a = v := Option.some.inj (Option.some.inj hv)
        rw [← e]; exact hk.1
      | 1, hv => cases hv
      | j + 2, hv => exact pz_ent_k r hk.2 j v hv
    · rw [if_neg hc] at hv
      match j, hv with
      | 0, hv =>
        have e : a = v := Option.some.inj (Option.some.inj hv)
        rw [← e]; exact hk.1
      | j + 1, hv => exact pz_ent_k r hk.2 j v hv
theorem pz_sl_len {L : Nat → Nat} : ∀ av : List Value, (lg_sl (av.map (pz_v L))).length = (pz_ent av).length
  | [] => rfl
  | a :: r => by
    show ((if (pz_v L a).category = 2 then [Slot.val (pz_v L a), .second] else [.val (pz_v L a)]) ++ lg_sl (r.map (pz_v L))).length = (if a.category = 2 then some a :: none :: pz_ent r else some a :: pz_ent r).length
    rw [List.length_append, pz_sl_len r, pz_cat]
    by_cases hc : a.category = 2
    · rw [if_pos hc, if_pos hc]; simp; omega
    · rw [if_neg hc, if_neg hc]; simp; omega
theorem pz_ent_pad {l : List (Option Value)} {k j : Nat} {v : Value} (hv : (l ++ List.replicate k none)[j]? = some (some v)) : l[j]? = some (some v) := by
  by_cases hj : j < l.length
  · rw [List.getElem?_append_left hj] at hv; exact hv
  · rw [List.getElem?_append_right (by omega), List.getElem?_replicate] at hv
    split at hv <;> cases hv
theorem pw_M_of {E : pw_E} {y : MethodName} {Y : pw_Y} {rm : Room} {av : List Value} {h : pz_H} {n : Nat} {Q : Option Value → pz_H → Nat → Prop} {X : String → pz_H → Nat → Prop} {lv : List (Option Value)} (hy : plainName y.cls = true) (h1 : Y.1 = y.cls) (h2 : Y.2.1 = y.name) (htr : E.1.stackTraces = false) (hlen : (pz_ent av).length ≤ Y.2.2.2.1) (hlv : pz_ent av ++ List.replicate (Y.2.2.2.1 - (pz_ent av).length) none = lv)
    (body : ∀ L : Nat → Nat, pw E Y rm (L, n, Q, X) 0 0 0 lv [] h n) : pw_M E y Y rm av h n Q X := by
  intro L
  refine vx_ofW (cc := Y.2.2.1) (maxL := Y.2.2.2.1) (ret := Y.2.2.2.2) hy rfl ?_
  intro p e s m args below meth c s₁ B hml hxt hP
  obtain ⟨rfl, hU, hR, hk⟩ := hP
  have hts := atoms_spec (ws := pw_ws y Y) B.pre
  have hown : s.vm.findClass y.cls = some m.cls := findClass_of_methodNamed B.named
  have hnm : meth.name = y.name := (name_of_methodNamed B.named B.method).1
  have hl := lv_entry (av.map (pz_v L)) (n := Y.2.2.2.1) (by rw [pz_sl_len]; exact hlen)
  rw [lg_entry_eq]
  generalize (lg_sl (av.map (pz_v L)) ++ List.replicate (Y.2.2.2.1 - (lg_sl (av.map (pz_v L))).length) Slot.unset).toArray = ls at hl ⊢
  have hlv2 : pz_lv L n Y.2.2.2.1 ls lv := by
    subst hlv
    refine ⟨⟨hl.1, hl.2.1, fun q hq => hl.2.2 q ?_⟩, fun i v hv => pz_ent_k av hk i v (pz_ent_pad hv)⟩
    obtain ⟨v, hv, e⟩ := pz_al_mem.mp hq
    have h3 := pz_ent_at (L := L) av 0 q.1 v (pz_ent_pad hv)
    rw [Nat.zero_add, ← e] at h3
    exact h3
  exact body L p e s m _ below meth c s.heap [] L ls ⟨B.exec, B.bytes, hml, B.returns, B.notSynchronized, hnm.trans h2.symm, by rw [h1]; exact hown, fun w hw => hts w (List.mem_cons_of_mem _ hw), hU, htr, hxt⟩ ⟨Nat.le_refl _, pz_ag_rf, hR, va_S.rf, hlv2⟩ trivial
section PWC
variable {E : pw_E} {Y : pw_Y} {R : Room} {K : pw_K} {uc us pc : Nat} {lv : List (Option Value)} {st : List Value} {h : pz_H} {n : Nat}
theorem pw_run {rm : Room} {Q : Option Value → pz_H → Nat → Prop} {X : String → pz_H → Nat → Prop} {p : Program} {e : Env} {s : State} {m : MethodId} {args a : Array Value} {below : List Frame} {meth : Method} {c : Code} {H : Heap} {locs : List Loc} {L : Nat → Nat} {ls : Array Slot} {st0 : List Value} (F : pw_F E Y p s m args meth c) (d : pw_D E Y K s H locs L ls lv h n) (ks : pz_ks n st)
    (hr : vx_Run p E.1 e R s m args below meth c H locs uc us rm.cells rm.slots (F0 m pc ls st0) (st.map (pz_v L)) (pw_Q E L n Q a) (pw_X E L n X) (pw_A E)) (hcs : uc + rm.cells ≤ R.cells) (hss : us + rm.slots ≤ R.slots)
    (kk : ∀ (r : Option Value) (h' : pz_H) (n' : Nat), Q r h' n' → n ≤ n' → pw E Y R K (uc + rm.cells) (us + rm.slots) (pc + 3) lv (r.toList ++ st) h' n') (kx : ∀ (C : String) (h' : pz_H) (n' : Nat), X C h' n' → K.2.2.2 C h' n') :
    W p E.1 e R s m args below meth c H locs uc us (vx_MQ below (pw_Q E K.1 K.2.1 K.2.2.1) (pw_X E K.1 K.2.1 K.2.2.2) args s R.cells R.slots (pw_A E)) (F0 m pc ls st0) := by
  intro T hT X0
  rcases hr T hT X0 with ⟨v, st₀, t, T', Ls, h0, X', hL, e1, e2, ⟨L', r, h', n', ho, hn, hag, hks, hR, hQ, hF⟩, go⟩ | ⟨q, st₀, t, T', Ls, Cx, ce, h0, X', hL, e1, e2, ⟨L', h', n', hn, hag, hR, hX, hF⟩, hce, hcv, hcl, go⟩
  · obtain ⟨k1, k2, k3⟩ := vx_keep h0 e1 d.2.2.2.1 (fun _ _ z => z) (fun _ z => z) hL hF
    have ev : v = r.map (pz_v L') := by cases ho; rfl
    subst ev
    have d' : pw_D E Y K s T'.heap (locs ++ Ls) L' ls lv h' n' := ⟨Nat.le_trans d.1 hn, pz_ag_tr d.2.1 hag d.1, by rw [e1]; exact hR, k3, pz_lv_ag d.2.2.2.2 hag hn⟩
    have ks' : pz_ks n' (r.toList ++ st) := by
      cases r with
      | none => exact pz_ks_le hn ks
      | some w => exact ⟨hks.1, pz_ks_le hn ks⟩
    obtain ⟨t2, a1, b1⟩ := kk r h' n' hQ hn p e s m args below meth c T'.heap (locs ++ Ls) L' ls F d' ks' T' rfl X'
    refine ⟨t2, go t2 ?_, b1⟩
    have es : (r.toList ++ st).map (pz_v L') = (r.map (pz_v L')).toList ++ st.map (pz_v L) := by
      rw [List.map_append, pz_vs_ag hag ks]
      cases r <;> rfl
    rw [es] at a1
    exact a1
  · obtain ⟨k1, k2, k3⟩ := vx_keep h0 e1 d.2.2.2.1 (fun _ _ z => z) (fun _ z => z) hL hF
    have ho : vx_W p E.1 e R s m args below meth c T'.heap (locs ++ Ls) (uc + rm.cells) (us + rm.slots) (vx_MQ below (pw_Q E K.1 K.2.1 K.2.2.1) (pw_X E K.1 K.2.1 K.2.2.2) args s R.cells R.slots (pw_A E)) (F0 m pc ls (st.map (pz_v L))) q :=
      vx_out (fun x hx => (F.2.2.2.2.2.2.2.2.2.2 x hx).elim) F.2.2.2.2.1 (by rw [e1]; exact hce) hcv hcl (fun t3 ht3 _ => ⟨L', h', n', Nat.le_trans d.1 hn, pz_ag_tr d.2.1 hag d.1, by rw [ht3, e1]; exact hR, kx Cx h' n' hX, k3.F ht3⟩) k3.2.2 hcs hss
    obtain ⟨t2, a1, b1⟩ := ho T' rfl X'
    exact ⟨t2, go.trans a1, b1⟩
/-- a callee's words and its descriptor -/
def pw_y (y : MethodName) (Yc : pw_Y) (k : Nat) : Prop := y.cls ≠ "java/lang/invoke/MethodHandle" ∧ y.cls ≠ "java/lang/invoke/VarHandle" ∧ (parseMethodDescriptor y.desc).map (fun d => d.parameters.length) = some k ∧ Cond.code y Yc.2.2.1 Yc.2.2.2.1 Yc.2.2.2.2 ∈ pw_G ∧ Cond.initialized y.cls ∈ pw_G
theorem pw_good_ws {y : MethodName} {Yc : pw_Y} {k : Nat} (hy : pw_y y Yc k) : GoodIn pw_G (pw_ws y Yc) := fun w hw => by
  have hm : w ∈ pw_G := by
    rcases List.mem_cons.mp hw with e | e
    · rw [e]; exact hy.2.2.2.1
    · exact e
  exact ⟨hm, good_of_word (pw_good w hm)⟩
theorem pw_cats {L : Nat → Nat} (hc : (st.map fun v => v.category).sum ≤ 8) : ((st.map (pz_v L)).map fun v => v.category).sum ≤ 8 := by
  rw [List.map_map]
  have e : ((fun v : Value => v.category) ∘ pz_v L) = fun v => v.category := by
    funext v; exact pz_cat L v
  rw [e]; exact hc
theorem pw_pre {p : Program} {s : State} {m : MethodId} {args : Array Value} {meth : Method} {c : Code} {H : Heap} {locs : List Loc} {L : Nat → Nat} {ls : Array Slot} {av : List Value} (F : pw_F E Y p s m args meth c) (d : pw_D E Y K s H locs L ls lv h n) (ka : pz_ks n av) : ∀ U : State, U.heap = H → s.WarmedH U.vm → pw_P E L av h n (av.map (pz_v L)).toArray U :=
  fun U hU hW => ⟨rfl, pw_U_at (pwF_U F) d.2.2.2.1 hU hW, by rw [hU]; exact d.2.2.1, ka⟩
theorem pz_ks_app {k : Nat} : ∀ {a b : List Value}, pz_ks k (a ++ b) → pz_ks k a ∧ pz_ks k b
  | [], _, hk => ⟨trivial, hk⟩
  | _ :: _, _, hk => ⟨⟨hk.1, (pz_ks_app hk.2).1⟩, (pz_ks_app hk.2).2⟩
theorem pz_ks_rev {k : Nat} {a : List Value} (hk : pz_ks k a.reverse) : pz_ks k a := pz_ks_of (fun v hv => pz_ks_mem hk v (List.mem_reverse.mpr hv))
/-- invokevirtual on an object of class ci -/
theorem pw_callV {y : MethodName} {Yc : pw_Y} {rm : Room} {index k b ci : Nat} {r : vw_C} {fs As st0 : List Value} {Q : Option Value → pz_H → Nat → Prop} {X : String → pz_H → Nat → Prop} (hM : pw_M E y Yc rm (.ref b :: As) h n Q X) (hst : st0 = As.reverse ++ .ref b :: st) (hb : h b = pz_o ci fs) (hr : pw_cl[ci]? = some r) (hC : y.cls = r.1) (hy : pw_y y Yc k) (hk : As.length = k)
    (hw : Cond.methodLink Y.1 index y ∈ pw_G ∧ Cond.instanceMethod y ∈ pw_G ∧ Cond.selects r.1 y y ∈ pw_G) (hR : rm.frames + 1 ≤ R.frames ∧ 8 + (Yc.2.2.2.1 + 11) + rm.locals ≤ R.locals) (hcat : (st.map fun v => v.category).sum ≤ 8) (hcs : uc + rm.cells ≤ R.cells ∧ us + rm.slots ≤ R.slots) (hd : decode Y.2.2.1 pc = .ok (.invokevirtual index, 3))
    (kk : ∀ (r : Option Value) (h' : pz_H) (n' : Nat), Q r h' n' → n ≤ n' → pw E Y R K (uc + rm.cells) (us + rm.slots) (pc + 3) lv (r.toList ++ st) h' n') (kx : ∀ (C : String) (h' : pz_H) (n' : Nat), X C h' n' → K.2.2.2 C h' n') : pw E Y R K uc us pc lv st0 h n := by
  intro p e s m args below meth c H locs L ls F d ks
  subst hst
  have ks2 := pz_ks_app ks
  have es : (As.reverse ++ Value.ref b :: st).map (pz_v L) = (As.map (pz_v L)).reverse ++ .ref (L b) :: st.map (pz_v L) := by
    rw [List.map_append, List.map_reverse]; rfl
  rw [es]
  have hG : GoodIn pw_G (wsV Y.1 index r.1 y (pw_ws y Yc)) := goodIn_app (fun w hw9 => by
    have hm : w ∈ pw_G := by
      rcases List.mem_cons.mp hw9 with e1 | e1
      · rw [e1]; exact hw.1
      · rcases List.mem_cons.mp e1 with e1 | e1
        · rw [e1]; exact hw.2.1
        · rcases List.mem_cons.mp e1 with e1 | e1
          · rw [e1]; exact hw.2.2
          · rcases List.mem_cons.mp e1 with e1 | e1
            · rw [e1, ← hC]; exact hy.2.2.2.2
            · cases e1
    exact ⟨hm, good_of_word (pw_good w hm)⟩) (pw_good_ws hy)
  refine pw_run (rm := rm) (Q := Q) (X := X) (a := (Value.ref (L b) :: As.map (pz_v L)).toArray) F d ks2.2.2 ?_ hcs.1 hcs.2 kk kx
  exact vx_runV (As := As.map (pz_v L)) (n := k) ⟨F.1, F.2.1, F.2.2.1, pwF_own F, pwF_w F⟩ (hM L) (cwV k (pwF_w F) hG rfl rfl rfl ⟨hC, hy.1, hy.2.1, hy.2.2.1⟩ hR) ⟨pw_blind, va_recv (pwF_K F) d.2.2.1.1 hr (pz_obj ks2.2.1 hb), pw_pre (av := .ref b :: As) F d ⟨ks2.2.1, pz_ks_rev ks2.1⟩⟩ rfl (by rw [List.length_map]; exact hk) d.2.2.2.2.1.1 rfl (lv_room (pw_cats hcat)) hd hcs
/-- invokestatic of a method of the own class -/
theorem pw_callS {y : MethodName} {Yc : pw_Y} {rm : Room} {index k : Nat} {As st0 : List Value} {Q : Option Value → pz_H → Nat → Prop} {X : String → pz_H → Nat → Prop} (hM : pw_M E y Yc rm As h n Q X) (hst : st0 = As.reverse ++ st) (hy : pw_y y Yc k) (hk : As.length = k)
    (hw : Cond.methodLink Y.1 index y ∈ pw_G ∧ Cond.static y ∈ pw_G) (hR : rm.frames + 1 ≤ R.frames ∧ 8 + (Yc.2.2.2.1 + 11) + rm.locals ≤ R.locals) (hcat : (st.map fun v => v.category).sum ≤ 8) (hcs : uc + rm.cells ≤ R.cells ∧ us + rm.slots ≤ R.slots) (hd : decode Y.2.2.1 pc = .ok (.invokestatic index, 3))
    (kk : ∀ (r : Option Value) (h' : pz_H) (n' : Nat), Q r h' n' → n ≤ n' → pw E Y R K (uc + rm.cells) (us + rm.slots) (pc + 3) lv (r.toList ++ st) h' n') (kx : ∀ (C : String) (h' : pz_H) (n' : Nat), X C h' n' → K.2.2.2 C h' n') : pw E Y R K uc us pc lv st0 h n := by
  intro p e s m args below meth c H locs L ls F d ks
  subst hst
  have ks2 := pz_ks_app ks
  have es : (As.reverse ++ st).map (pz_v L) = (As.map (pz_v L)).reverse ++ st.map (pz_v L) := by
    rw [List.map_append, List.map_reverse]
  rw [es]
  refine pw_run (rm := rm) (Q := Q) (X := X) (a := (As.map (pz_v L)).toArray) F d ks2.2 ?_ hcs.1 hcs.2 kk kx
  exact vx_runS (As := As.map (pz_v L)) (n := k) ⟨F.1, F.2.1, F.2.2.1, pwF_own F, pwF_w F⟩ (hM L) ⟨callB_of k (pwF_w F) (pw_good_ws hy) rfl rfl rfl (pwF_w F _ hy.2.2.2.2) (pwF_w F _ hw.1) ⟨hy.1, hy.2.1, hy.2.2.1⟩ hR, pwF_w F _ hw.2⟩ ⟨pw_blind, pw_pre (av := As) F d (pz_ks_rev ks2.1)⟩ rfl (by rw [List.length_map]; exact hk) d.2.2.2.2.1.1 rfl (lv_room (pw_cats hcat)) hd hcs
end PWC
end
section
theorem okX0 : pw_ok 3 RX0 TX0 3 tyX0 := ⟨rfl, pw_ins [162, 164, 166] (by decide +kernel) (by decide +kernel), tyX0_ok, nmX0⟩
theorem okX1 : pw_ok 4 RX1 TX1 5 tyX1 := ⟨rfl, pw_ins [182, 184, 186, 188, 190] (by decide +kernel) (by decide +kernel), tyX1_ok, nmX1⟩
theorem okX2 : pw_ok 5 RX2 TX2 2 tyX2 := ⟨rfl, pw_ins [362, 364] (by decide +kernel) (by decide +kernel), tyX2_ok, nmX2⟩
theorem okX3 : pw_ok 6 RX3 TX3 8 tyX3 := ⟨rfl, pw_ins [386, 388, 390, 392, 394, 396, 398, 400] (by decide +kernel) (by decide +kernel), tyX3_ok, nmX3⟩
theorem okX4 : pw_ok 7 RX4 TX4 5 tyX4 := ⟨rfl, pw_ins [298, 300, 302, 304, 306] (by decide +kernel) (by decide +kernel), tyX4_ok, nmX4⟩
theorem okX5 : pw_ok 8 RX5 TX5 8 tyX5 := ⟨rfl, pw_ins [342, 344, 346, 348, 350, 352, 354, 356] (by decide +kernel) (by decide +kernel), tyX5_ok, nmX5⟩
theorem okX6 : pw_ok 9 RX6 TX6 6 tyX6 := ⟨rfl, pw_ins [276, 278, 280, 282, 284, 286] (by decide +kernel) (by decide +kernel), tyX6_ok, nmX6⟩
theorem okX7 : pw_ok 10 RX7 TX7 18 tyX7 := ⟨rfl, pw_ins [227, 229, 231, 233, 235, 237, 239, 241, 243, 245, 247, 249, 251, 253, 255, 257, 259, 261] (by decide +kernel) (by decide +kernel), tyX7_ok, nmX7⟩
theorem okX8 : pw_ok 11 RX8 TX8 2 tyX8 := ⟨rfl, pw_ins [141, 143] (by decide +kernel) (by decide +kernel), tyX8_ok, nmX8⟩
theorem okX9 : pw_ok 12 RX9 TX9 11 tyX9 := ⟨rfl, pw_ins [791, 793, 795, 797, 799, 801, 803, 805, 807, 809, 811] (by decide +kernel) (by decide +kernel), tyX9_ok, nmX9⟩
theorem okX10 : pw_ok 13 RX10 TX10 61 tyX10 := ⟨rfl, pw_ins [1385, 1387, 1389, 1391, 1393, 1395, 1397, 1399, 1401, 1403, 1405, 1407, 1409, 1411, 1413, 1415, 1417, 1419, 1421, 1423, 1425, 1427, 1429, 1431, 1433, 1435, 1437, 1439, 1441, 1443, 1445, 1447, 1449, 1451, 1453, 1455, 1457, 1459, 1461, 1463, 1465, 1467, 1469, 1471, 1473, 1475, 1477, 1479, 1481, 1483, 1485, 1487, 1489, 1491, 1493, 1495, 1497, 1499, 1501, 1503, 1505] (by decide +kernel) (by decide +kernel), tyX10_ok, nmX10⟩
theorem pw_maxw : Cond.static Lib.Math.max.name ∈ pw_G ∧ Cond.initialized "java/lang/Math" ∈ pw_G ∧ Cond.code Lib.Math.max.name Lib.Math.max.code 2 (some .int) ∈ pw_G := ⟨pw_in 124 (by decide +kernel) (by decide +kernel), pw_in 79 (by decide +kernel) (by decide +kernel), pw_in 125 (by decide +kernel) (by decide +kernel)⟩
theorem pw_minw : Cond.static Lib.Math.min.name ∈ pw_G ∧ Cond.initialized "java/lang/Math" ∈ pw_G ∧ Cond.code Lib.Math.min.name Lib.Math.min.code 2 (some .int) ∈ pw_G := ⟨pw_in 121 (by decide +kernel) (by decide +kernel), pw_in 79 (by decide +kernel) (by decide +kernel), pw_in 122 (by decide +kernel) (by decide +kernel)⟩
theorem pw_cpyw : Cond.native arraycopyName ∈ pw_G ∧ Cond.static arraycopyName ∈ pw_G ∧ Cond.initialized "java/lang/System" ∈ pw_G := ⟨pw_in 541 (by decide +kernel) (by decide +kernel), pw_in 540 (by decide +kernel) (by decide +kernel), pw_in 99 (by decide +kernel) (by decide +kernel)⟩
theorem pw_objw : Cond.instanceMethod objectInit ∈ pw_G ∧ Cond.code objectInit ⟨#[0xb1]⟩ 1 none ∈ pw_G := ⟨pw_in 113 (by decide +kernel) (by decide +kernel), pw_in 114 (by decide +kernel) (by decide +kernel)⟩
end
section
/-! ===== more rows: answers, Math, arraycopy, constructors, calls to a nest mate, throws ===== -/
section PW2
variable {E : pw_E} {Y : pw_Y} {R : Room} {K : pw_K} {uc us pc : Nat} {lv : List (Option Value)} {st : List Value} {h : pz_H} {n : Nat}
theorem pw_iret {v : Int32} (hd : decode Y.2.2.1 pc = .ok (.ireturn, 1)) (hr : Y.2.2.2.2 = some .int) (hc : uc ≤ R.cells) (hs : us ≤ R.slots) (hq : K.2.2.1 (some (.int v)) h n) : pw E Y R K uc us pc lv [.int v] h n :=
  fun p e s m args below meth c H locs L ls F d ks => W.widen hc hs (vx_ret (W.iret F.1 F.2.1 (F.2.2.2.1.trans hr) (fun t ht hW => ⟨L, some (.int v), h, n, rfl, d.1, d.2.1, ⟨trivial, trivial⟩, by rw [ht]; exact d.2.2.1, hq, d.2.2.2.1.F ht⟩) d.2.2.2.1.2.2 hd F.2.2.2.2.1))
theorem pw_zret {v : Int32} (hd : decode Y.2.2.1 pc = .ok (.ireturn, 1)) (hr : Y.2.2.2.2 = some .boolean) (hn : narrow .boolean (.int v) = .int v) (hc : uc ≤ R.cells) (hs : us ≤ R.slots) (hq : K.2.2.1 (some (.int v)) h n) : pw E Y R K uc us pc lv [.int v] h n :=
  fun p e s m args below meth c H locs L ls F d ks => W.widen hc hs (vx_ret (W.zret F.1 F.2.1 (F.2.2.2.1.trans hr) hn (fun t ht hW => ⟨L, some (.int v), h, n, rfl, d.1, d.2.1, ⟨trivial, trivial⟩, by rw [ht]; exact d.2.2.1, hq, d.2.2.2.1.F ht⟩) d.2.2.2.1.2.2 hd F.2.2.2.2.1))
theorem pw_vret (hd : decode Y.2.2.1 pc = .ok (.return_, 1)) (hr : Y.2.2.2.2 = none) (hc : uc ≤ R.cells) (hs : us ≤ R.slots) (hq : K.2.2.1 none h n) : pw E Y R K uc us pc lv [] h n :=
  fun p e s m args below meth c H locs L ls F d ks => W.widen hc hs (vx_ret (W.vret F.1 F.2.1 (F.2.2.2.1.trans hr) (fun t ht hW => ⟨L, none, h, n, rfl, d.1, d.2.1, trivial, by rw [ht]; exact d.2.2.1, hq, d.2.2.2.1.F ht⟩) d.2.2.2.1.2.2 hd F.2.2.2.2.1))
theorem pw_aret {a : Nat} {rt : FieldType} (hd : decode Y.2.2.1 pc = .ok (.areturn, 1)) (hr : Y.2.2.2.2 = some rt) (hrt : (∃ C, rt = .object C) ∨ ∃ t, rt = .array t) (hc : uc ≤ R.cells) (hs : us ≤ R.slots) (hq : K.2.2.1 (some (.ref a)) h n) : pw E Y R K uc us pc lv [.ref a] h n :=
  fun p e s m args below meth c H locs L ls F d ks => W.widen hc hs (vx_ret (W.aret (v := .ref (L a)) F.1 F.2.1 (F.2.2.2.1.trans hr) hrt (Or.inr ⟨L a, rfl⟩) (fun t ht hW => ⟨L, some (.ref a), h, n, rfl, d.1, d.2.1, ⟨ks.1, trivial⟩, by rw [ht]; exact d.2.2.1, hq, d.2.2.2.1.F ht⟩) d.2.2.2.1.2.2 hd F.2.2.2.2.1))
theorem zI_max {a b : Int} (ha : -2147483648 ≤ a ∧ a < 2147483648) (hb : -2147483648 ≤ b ∧ b < 2147483648) : (if zI a < zI b then zI b else zI a) = zI (max a b) := by
  by_cases hc : a < b
  · rw [if_pos ((zI_lt ha hb).mpr hc)]
    rw [show max a b = b by omega]
  · rw [if_neg (fun z => hc ((zI_lt ha hb).mp z))]
    rw [show max a b = a by omega]
theorem pw_cats2 {L : Nat → Nat} : ((st.map (pz_v L)).map fun v => v.category).sum = (st.map fun v => v.category).sum := by
  rw [List.map_map]
  have e : ((fun v : Value => v.category) ∘ pz_v L) = fun v => v.category := by
    funext v; exact pz_cat L v
  rw [e]
theorem pw_max {a b : Int} {index : Nat} (hw : Cond.methodLink Y.1 index Lib.Math.max.name ∈ pw_G) (hd : decode Y.2.2.1 pc = .ok (.invokestatic index, 3)) (ha : -2147483648 ≤ a ∧ a < 2147483648) (hb : -2147483648 ≤ b ∧ b < 2147483648) (hR : 1 ≤ R.frames ∧ (st.map fun v => v.category).sum + 13 ≤ R.locals) (hcs : uc ≤ R.cells ∧ us ≤ R.slots) (kk : pw E Y R K uc us (pc + 3) lv (.int (zI (max a b)) :: st) h n) : pw E Y R K uc us pc lv (.int (zI b) :: .int (zI a) :: st) h n :=
  fun p e s m args below meth c H locs L ls F d ks => va_mmax F.1 F.2.1 (F.2.2.1.trans d.2.2.2.2.1.1.symm) (pwF_own F) (pwF_w F _ hw) (pwF_w F _ pw_maxw.1) (pwF_w F _ pw_maxw.2.1) (pwF_w F _ pw_maxw.2.2) hR.1 (by rw [pw_cats2]; exact hR.2) hcs.1 hcs.2 hd (by
    rw [zI_max ha hb]
    exact kk p e s m args below meth c H locs L ls F d ⟨trivial, ks.2.2⟩)
theorem zI_min {a b : Int} (ha : -2147483648 ≤ a ∧ a < 2147483648) (hb : -2147483648 ≤ b ∧ b < 2147483648) : (if zI b < zI a then zI b else zI a) = zI (min a b) := by
  by_cases hc : b < a
  · rw [if_pos ((zI_lt hb ha).mpr hc)]
    rw [show min a b = b by omega]
  · rw [if_neg (fun z => hc ((zI_lt hb ha).mp z))]
    rw [show min a b = a by omega]
theorem pw_min {a b : Int} {index : Nat} (hw : Cond.methodLink Y.1 index Lib.Math.min.name ∈ pw_G) (hd : decode Y.2.2.1 pc = .ok (.invokestatic index, 3)) (ha : -2147483648 ≤ a ∧ a < 2147483648) (hb : -2147483648 ≤ b ∧ b < 2147483648) (hR : 1 ≤ R.frames ∧ (st.map fun v => v.category).sum + 13 ≤ R.locals) (hcs : uc ≤ R.cells ∧ us ≤ R.slots) (kk : pw E Y R K uc us (pc + 3) lv (.int (zI (min a b)) :: st) h n) : pw E Y R K uc us pc lv (.int (zI b) :: .int (zI a) :: st) h n :=
  fun p e s m args below meth c H locs L ls F d ks => va_mmin F.1 F.2.1 (F.2.2.1.trans d.2.2.2.2.1.1.symm) (pwF_own F) (pwF_w F _ hw) (pwF_w F _ pw_minw.1) (pwF_w F _ pw_minw.2.1) (pwF_w F _ pw_minw.2.2) hR.1 (by rw [pw_cats2]; exact hR.2) hcs.1 hcs.2 hd (by
    rw [zI_min ha hb]
    exact kk p e s m args below meth c H locs L ls F d ⟨trivial, ks.2.2⟩)
theorem pw_copyi {a0 a1 n0 n1 index : Nat} {f g : Nat → Int} {sp dp k : Int} (hw : Cond.methodLink Y.1 index arraycopyName ∈ pw_G) (h0 : h a0 = pz_z 0 n0 f) (h1 : h a1 = pz_z 0 n1 g) (hsp : 0 ≤ sp ∧ sp < 2147483648) (hdp : 0 ≤ dp ∧ dp < 2147483648) (hk : 0 ≤ k ∧ k < 2147483648) (hs : sp + k ≤ n0) (hdd : dp + k ≤ n1) (hR : 1 ≤ R.frames ∧ (st.map fun v => v.category).sum + 18 ≤ R.locals) (hd : decode Y.2.2.1 pc = .ok (.invokestatic index, 3))
    (kk : pw E Y R K uc us (pc + 3) lv st (va_up h a1 (pz_z 0 n1 (va_cpy f g sp.toNat dp.toNat k.toNat))) n) : pw E Y R K uc us pc lv (.int (zI k) :: .int (zI dp) :: .ref a1 :: .int (zI sp) :: .ref a0 :: st) h n :=
  fun p e s m args below meth c H locs L ls F d ks => va_copyi (D := E.2.1) (ty := .int) F.1 F.2.1 (F.2.2.1.trans d.2.2.2.2.1.1.symm) (pwF_own F) (pwF_w F _ hw) (pwF_w F _ pw_cpyw.1) (pwF_w F _ pw_cpyw.2.1) (pwF_w F _ pw_cpyw.2.2) (pwF_K F) d.2.2.1.1 d.2.2.1.2.1 d.2.2.2.1 a0 a1 0 0 (pz_ints ks.2.2.2.2.1 h0) (pz_ints ks.2.2.1 h1) (pw_tys_get rfl) (pw_tys_get rfl) rfl
    (fun z => by rw [zI_0, zI_lt (by omega) (by omega)] at z; omega) (fun z => by rw [zI_0, zI_lt (by omega) (by omega)] at z; omega) (fun z => by rw [zI_0, zI_lt (by omega) (by omega)] at z; omega) (by rw [zI_cl hsp.1 hsp.2, zI_cl hk.1 hk.2]; omega) (by rw [zI_cl hdp.1 hdp.2, zI_cl hk.1 hk.2]; omega) (fun _ _ => rfl) hR.1 (by rw [pw_cats2]; exact hR.2) hd (fun H1 locs1 hP hD hS => by
      rw [zI_cl hsp.1 hsp.2, zI_cl hdp.1 hdp.2, zI_cl hk.1 hk.2, zI_cpy] at hP hD
      exact kk p e s m args below meth c H1 locs1 L ls F (pw_d_up d ks.2.2.1 rfl trivial hP hD hS) ks.2.2.2.2.2)
theorem pw_objInit {a index : Nat} (hw : Cond.methodLink Y.1 index objectInit ∈ pw_G) (hd : decode Y.2.2.1 pc = .ok (.invokespecial index, 3)) (hR : 1 ≤ R.frames ∧ (st.map fun v => v.category).sum + 12 ≤ R.locals) (kk : pw E Y R K uc us (pc + 3) lv st h n) : pw E Y R K uc us pc lv (.ref a :: st) h n :=
  fun p e s m args below meth c H locs L ls F d ks => W.objInit (g := F0 m pc ls (.ref (L a) :: st.map (pz_v L))) F.1 F.2.1 (pwF_own F) (pwF_w F _ hw) (pwF_w F _ pw_objw.1) (pwF_w F _ pw_objw.2) rfl (d.2.2.2.2.1.1.trans F.2.2.1.symm) rfl hd hR.1 (by
    show 2 * 0 + ((st.map (pz_v L)).map fun v => v.category).sum + 12 ≤ R.locals
    rw [pw_cats2, Nat.mul_zero, Nat.zero_add]; exact hR.2) (kk p e s m args below meth c H locs L ls F d ks.2)
/-- a contract that never throws -/
theorem pw_Met {y : MethodName} {Yc : pw_Y} {rm : Room} {av : List Value} {Q : Option Value → pz_H → Nat → Prop} (hM : pw_M E y Yc rm av h n Q (fun _ _ _ => False)) (L : Nat → Nat) : Met E.1 y (pw_ws y Yc) rm (pw_P E L av h n) (pw_Q E L n Q) rm.cells rm.slots (pw_A E) :=
  Jvm.Free.MetFree.mono (hM L) (fun _ _ z => z) (fun _ _ _ _ _ _ => trivial) (fun a s o t _ hq => by
    rcases hq with hq | ⟨q, -, C, ce, Ls, ⟨L', h', n', -, -, -, hx, -⟩, -⟩
    · exact hq
    · exact hx.elim)
theorem pw_runM {rm : Room} {Q : Option Value → pz_H → Nat → Prop} {p : Program} {e : Env} {s : State} {m : MethodId} {args a : Array Value} {below : List Frame} {meth : Method} {c : Code} {H : Heap} {locs : List Loc} {L : Nat → Nat} {ls : Array Slot} {st0 : List Value} (F : pw_F E Y p s m args meth c) (d : pw_D E Y K s H locs L ls lv h n) (ks : pz_ks n st)
    (hr : va_Run p E.1 e R s m args below meth c H locs uc us rm.cells rm.slots (F0 m pc ls st0) (st.map (pz_v L)) (pw_Q E L n Q a) (pw_A E))
    (kk : ∀ (r : Option Value) (h' : pz_H) (n' : Nat), Q r h' n' → n ≤ n' → pw E Y R K (uc + rm.cells) (us + rm.slots) (pc + 3) lv (r.toList ++ st) h' n') :
    W p E.1 e R s m args below meth c H locs uc us (vx_MQ below (pw_Q E K.1 K.2.1 K.2.2.1) (pw_X E K.1 K.2.1 K.2.2.2) args s R.cells R.slots (pw_A E)) (F0 m pc ls st0) := by
  intro T hT X0
  obtain ⟨v, st₀, t, T', Ls, h0, X', hL, e1, e2, ⟨L', r, h', n', ho, hn, hag, hks, hR, hQ, hF⟩, go⟩ := hr T hT X0
  obtain ⟨k1, k2, k3⟩ := vx_keep h0 e1 d.2.2.2.1 (fun _ _ z => z) (fun _ z => z) hL hF
  have ev : v = r.map (pz_v L') := by cases ho; rfl
  subst ev
  have d' : pw_D E Y K s T'.heap (locs ++ Ls) L' ls lv h' n' := ⟨Nat.le_trans d.1 hn, pz_ag_tr d.2.1 hag d.1, by rw [e1]; exact hR, k3, pz_lv_ag d.2.2.2.2 hag hn⟩
  have ks' : pz_ks n' (r.toList ++ st) := by
    cases r with
    | none => exact pz_ks_le hn ks
    | some w => exact ⟨hks.1, pz_ks_le hn ks⟩
  obtain ⟨t2, a1, b1⟩ := kk r h' n' hQ hn p e s m args below meth c T'.heap (locs ++ Ls) L' ls F d' ks' T' rfl X'
  refine ⟨t2, go t2 ?_, b1⟩
  have es : (r.toList ++ st).map (pz_v L') = (r.map (pz_v L')).toList ++ st.map (pz_v L) := by
    rw [List.map_append, pz_vs_ag hag ks]
    cases r <;> rfl
  rw [es] at a1
  exact a1
/-- invokespecial of a constructor -/
theorem pw_callI {y : MethodName} {Yc : pw_Y} {rm : Room} {index k b : Nat} {As st0 : List Value} {Q : Option Value → pz_H → Nat → Prop} (hM : pw_M E y Yc rm (.ref b :: As) h n Q (fun _ _ _ => False)) (hst : st0 = As.reverse ++ .ref b :: st) (hy : pw_y y Yc k) (hk : As.length = k) (hi : y.name = "<init>" ∧ Yc.2.2.2.2 = none)
    (hw : Cond.methodLink Y.1 index y ∈ pw_G ∧ Cond.instanceMethod y ∈ pw_G) (hR : rm.frames + 1 ≤ R.frames ∧ 8 + (Yc.2.2.2.1 + 11) + rm.locals ≤ R.locals) (hcat : (st.map fun v => v.category).sum ≤ 8) (hcs : uc + rm.cells ≤ R.cells ∧ us + rm.slots ≤ R.slots) (hd : decode Y.2.2.1 pc = .ok (.invokespecial index, 3))
    (kk : ∀ (r : Option Value) (h' : pz_H) (n' : Nat), Q r h' n' → n ≤ n' → pw E Y R K (uc + rm.cells) (us + rm.slots) (pc + 3) lv (r.toList ++ st) h' n') : pw E Y R K uc us pc lv st0 h n := by
  intro p e s m args below meth c H locs L ls F d ks
  subst hst
  have ks2 := pz_ks_app ks
  have es : (As.reverse ++ Value.ref b :: st).map (pz_v L) = (As.map (pz_v L)).reverse ++ .ref (L b) :: st.map (pz_v L) := by
    rw [List.map_append, List.map_reverse]; rfl
  rw [es]
  refine pw_runM (rm := rm) (Q := Q) (a := (Value.ref (L b) :: As.map (pz_v L)).toArray) F d ks2.2.2 ?_ kk
  have hG := pw_good_ws hy
  have hMet := pw_Met hM L
  unfold pw_ws at hG hMet
  rw [hi.2] at hG hMet
  exact va_runI (As := As.map (pz_v L)) (n := k) ⟨F.1, F.2.1, F.2.2.1, pwF_own F, pwF_w F⟩ hMet ⟨callB_of k (pwF_w F) hG rfl rfl rfl (pwF_w F _ hy.2.2.2.2) (pwF_w F _ hw.1) ⟨hy.1, hy.2.1, hy.2.2.1⟩ hR, hi.1, pwF_w F _ hw.2⟩ ⟨pw_blind, pw_pre (av := .ref b :: As) F d ⟨ks2.2.1, pz_ks_rev ks2.1⟩⟩ rfl (by rw [List.length_map]; exact hk) d.2.2.2.2.1.1 rfl (lv_room (pw_cats hcat)) hd hcs
/-- invokestatic of a nest mate's private method -/
theorem pw_callSN {y : MethodName} {Yc : pw_Y} {rm : Room} {index k : Nat} {host : String} {As st0 : List Value} {Q : Option Value → pz_H → Nat → Prop} (hM : pw_M E y Yc rm As h n Q (fun _ _ _ => False)) (hst : st0 = As.reverse ++ st) (hy : pw_y y Yc k) (hk : As.length = k)
    (hw : Cond.methodLinkNest Y.1 index y host ∈ pw_N ∧ Cond.static y ∈ pw_G) (hR : rm.frames + 1 ≤ R.frames ∧ 8 + (Yc.2.2.2.1 + 11) + rm.locals ≤ R.locals) (hcat : (st.map fun v => v.category).sum ≤ 8) (hcs : uc + rm.cells ≤ R.cells ∧ us + rm.slots ≤ R.slots) (hd : decode Y.2.2.1 pc = .ok (.invokestatic index, 3))
    (kk : ∀ (r : Option Value) (h' : pz_H) (n' : Nat), Q r h' n' → n ≤ n' → pw E Y R K (uc + rm.cells) (us + rm.slots) (pc + 3) lv (r.toList ++ st) h' n') : pw E Y R K uc us pc lv st0 h n := by
  intro p e s m args below meth c H locs L ls F d ks
  subst hst
  have ks2 := pz_ks_app ks
  have es : (As.reverse ++ st).map (pz_v L) = (As.map (pz_v L)).reverse ++ st.map (pz_v L) := by
    rw [List.map_append, List.map_reverse]
  rw [es]
  refine pw_runM (rm := rm) (Q := Q) (a := (As.map (pz_v L)).toArray) F d ks2.2 ?_ kk
  exact va_runSN (As := As.map (pz_v L)) (n := k) ⟨F.1, F.2.1, F.2.2.1, pwF_own F, pwF_w F⟩ (pw_Met hM L) ⟨va_cnB k (pwF_w F) (pw_good_ws hy) rfl rfl rfl (pwF_N F _ hw.1) (pwF_w F _ hy.2.2.2.2) ⟨hy.1, hy.2.1, hy.2.2.1⟩ hR, pwF_w F _ hw.2, trivial⟩ ⟨pw_blind, pw_pre (av := As) F d (pz_ks_rev ks2.1)⟩ rfl (by rw [List.length_map]; exact hk) d.2.2.2.2.1.1 rfl (lv_room (pw_cats hcat)) hd hcs
/-- invokespecial of a nest mate's private constructor -/
theorem pw_callIN {y : MethodName} {Yc : pw_Y} {rm : Room} {index k b : Nat} {host : String} {As st0 : List Value} {Q : Option Value → pz_H → Nat → Prop} (hM : pw_M E y Yc rm (.ref b :: As) h n Q (fun _ _ _ => False)) (hst : st0 = As.reverse ++ .ref b :: st) (hy : pw_y y Yc k) (hk : As.length = k) (hi : y.name = "<init>" ∧ Yc.2.2.2.2 = none)
    (hw : Cond.methodLinkNest Y.1 index y host ∈ pw_N ∧ Cond.instanceMethod y ∈ pw_G) (hR : rm.frames + 1 ≤ R.frames ∧ 8 + (Yc.2.2.2.1 + 11) + rm.locals ≤ R.locals) (hcat : (st.map fun v => v.category).sum ≤ 8) (hcs : uc + rm.cells ≤ R.cells ∧ us + rm.slots ≤ R.slots) (hd : decode Y.2.2.1 pc = .ok (.invokespecial index, 3))
    (kk : ∀ (r : Option Value) (h' : pz_H) (n' : Nat), Q r h' n' → n ≤ n' → pw E Y R K (uc + rm.cells) (us + rm.slots) (pc + 3) lv (r.toList ++ st) h' n') : pw E Y R K uc us pc lv st0 h n := by
  intro p e s m args below meth c H locs L ls F d ks
  subst hst
  have ks2 := pz_ks_app ks
  have es : (As.reverse ++ Value.ref b :: st).map (pz_v L) = (As.map (pz_v L)).reverse ++ .ref (L b) :: st.map (pz_v L) := by
    rw [List.map_append, List.map_reverse]; rfl
  rw [es]
  refine pw_runM (rm := rm) (Q := Q) (a := (Value.ref (L b) :: As.map (pz_v L)).toArray) F d ks2.2.2 ?_ kk
  have hG := pw_good_ws hy
  have hMet := pw_Met hM L
  unfold pw_ws at hG hMet
  rw [hi.2] at hG hMet
  exact va_runIN (As := As.map (pz_v L)) (n := k) ⟨F.1, F.2.1, F.2.2.1, pwF_own F, pwF_w F⟩ hMet ⟨va_cnB k (pwF_w F) hG rfl rfl rfl (pwF_N F _ hw.1) (pwF_w F _ hy.2.2.2.2) ⟨hy.1, hy.2.1, hy.2.2.1⟩ hR, hi.1, pwF_w F _ hw.2⟩ ⟨pw_blind, pw_pre (av := .ref b :: As) F d ⟨ks2.2.1, pz_ks_rev ks2.1⟩⟩ rfl (by rw [List.length_map]; exact hk) d.2.2.2.2.1.1 rfl (lv_room (pw_cats hcat)) hd hcs
end PW2
end
section
/-- d frames deep, mc cells of ms slots -/
abbrev rmD (d mc ms : Nat) : Room := { frames := d, cells := mc, slots := ms, locals := 64 * d }
theorem pz_up_id {h : pz_H} {a : Nat} {x : pz_C} (e : h a = x) : va_up h a x = h := by
  funext j
  by_cases hj : j = a
  · subst hj; rw [va_up_self, e]
  · rw [va_up_ne _ _ hj]
theorem pz_up_up {h : pz_H} {a : Nat} {x y : pz_C} : va_up (va_up h a x) a y = va_up h a y := by
  funext j
  by_cases hj : j = a
  · subst hj; rw [va_up_self, va_up_self]
  · rw [va_up_ne _ _ hj, va_up_ne _ _ hj, va_up_ne _ _ hj]
theorem nle {a b : Nat} (h : Nat.ble a b = true) : a ≤ b := Nat.le_of_ble_eq_true h
theorem nlt {a b : Nat} (h : Nat.ble (a + 1) b = true) : a < b := Nat.le_of_ble_eq_true h
end
section
theorem cwX9_241 : Cond.methodLink RX9 241 Lib.Math.min.name ∈ pw_G := pw_in 120 (by decide +kernel) (by decide +kernel)
theorem cwX9_247 : Cond.methodLink RX9 247 Lib.Math.max.name ∈ pw_G := pw_in 123 (by decide +kernel) (by decide +kernel)
def YX9_nearest : pw_Y := (RX9, "nearest", cX9_nearest, 3, (some .int))
theorem ywX9_nearest : pw_y yX9_nearest YX9_nearest 3 := ⟨by decide +kernel, by decide +kernel, by decide +kernel, pw_in 119 (by decide +kernel) (by decide +kernel), pw_in 78 (by decide +kernel) (by decide +kernel)⟩
def YJ7_rangeCheck_23922 : pw_Y := (RJ7, "rangeCheck", cJ7_rangeCheck_23922, 3, none)
theorem ywJ7_rangeCheck_23922 : pw_y yJ7_rangeCheck_23922 YJ7_rangeCheck_23922 3 := ⟨by decide +kernel, by decide +kernel, by decide +kernel, pw_in 424 (by decide +kernel) (by decide +kernel), pw_in 89 (by decide +kernel) (by decide +kernel)⟩
def YJ7_fill_fda19 : pw_Y := (RJ7, "fill", cJ7_fill_fda19, 5, none)
theorem ywJ7_fill_fda19 : pw_y yJ7_fill_fda19 YJ7_fill_fda19 4 := ⟨by decide +kernel, by decide +kernel, by decide +kernel, pw_in 421 (by decide +kernel) (by decide +kernel), pw_in 89 (by decide +kernel) (by decide +kernel)⟩
theorem cwJ7_13 : Cond.methodLink RJ7 13 yJ7_rangeCheck_23922 ∈ pw_G ∧ Cond.static yJ7_rangeCheck_23922 ∈ pw_G := ⟨pw_in 422 (by decide +kernel) (by decide +kernel), pw_in 423 (by decide +kernel) (by decide +kernel)⟩
def YJ7_fill_53178 : pw_Y := (RJ7, "fill", cJ7_fill_53178, 4, none)
theorem ywJ7_fill_53178 : pw_y yJ7_fill_53178 YJ7_fill_53178 2 := ⟨by decide +kernel, by decide +kernel, by decide +kernel, pw_in 375 (by decide +kernel) (by decide +kernel), pw_in 89 (by decide +kernel) (by decide +kernel)⟩
def YX0_fill : pw_Y := (RX0, "fill", cX0_fill, 5, none)
theorem ywX0_fill : pw_y yX0_fill YX0_fill 4 := ⟨by decide +kernel, by decide +kernel, by decide +kernel, pw_in 418 (by decide +kernel) (by decide +kernel), pw_in 83 (by decide +kernel) (by decide +kernel)⟩
theorem lkX0_15 : Cond.fieldLink RX0 15 (TX0 1).1 (TX0 1).2.1 (TX0 1).2.2.1 ∈ pw_G := pw_in 160 (by decide +kernel) (by decide +kernel)
theorem lkX0_9 : Cond.fieldLink RX0 9 (TX0 0).1 (TX0 0).2.1 (TX0 0).2.2.1 ∈ pw_G := pw_in 159 (by decide +kernel) (by decide +kernel)
theorem lkX0_18 : Cond.fieldLink RX0 18 (TX0 2).1 (TX0 2).2.1 (TX0 2).2.2.1 ∈ pw_G := pw_in 161 (by decide +kernel) (by decide +kernel)
theorem cwX0_26 : Cond.methodLink RX0 26 yJ7_fill_fda19 ∈ pw_G ∧ Cond.static yJ7_fill_fda19 ∈ pw_G := ⟨pw_in 419 (by decide +kernel) (by decide +kernel), pw_in 420 (by decide +kernel) (by decide +kernel)⟩
def YX0_set : pw_Y := (RX0, "set", cX0_set, 4, none)
theorem ywX0_set : pw_y yX0_set YX0_set 3 := ⟨by decide +kernel, by decide +kernel, by decide +kernel, pw_in 1098 (by decide +kernel) (by decide +kernel), pw_in 83 (by decide +kernel) (by decide +kernel)⟩
def YX0_give : pw_Y := (RX0, "give", cX0_give, 5, none)
theorem ywX0_give : pw_y yX0_give YX0_give 4 := ⟨by decide +kernel, by decide +kernel, by decide +kernel, pw_in 861 (by decide +kernel) (by decide +kernel), pw_in 83 (by decide +kernel) (by decide +kernel)⟩
theorem cwX0_31 : Cond.methodLink RX0 31 arraycopyName ∈ pw_G := pw_in 862 (by decide +kernel) (by decide +kernel)
def YX0_moveRow : pw_Y := (RX0, "moveRow", cX0_moveRow, 3, none)
theorem ywX0_moveRow : pw_y yX0_moveRow YX0_moveRow 2 := ⟨by decide +kernel, by decide +kernel, by decide +kernel, pw_in 978 (by decide +kernel) (by decide +kernel), pw_in 83 (by decide +kernel) (by decide +kernel)⟩
def YX0_moveCells : pw_Y := (RX0, "moveCells", cX0_moveCells, 6, none)
theorem ywX0_moveCells : pw_y yX0_moveCells YX0_moveCells 4 := ⟨by decide +kernel, by decide +kernel, by decide +kernel, pw_in 1034 (by decide +kernel) (by decide +kernel), pw_in 83 (by decide +kernel) (by decide +kernel)⟩
theorem cwX0_37 : Cond.methodLink RX0 37 Lib.Math.max.name ∈ pw_G := pw_in 1035 (by decide +kernel) (by decide +kernel)
/-- the places from a up to b hold v -/
def zfill (g : Nat → Int) (a b v : Int) : Nat → Int := fun k => if a ≤ (k : Int) ∧ (k : Int) < b then v else g k
theorem zfill_e {g : Nat → Int} {a b v : Int} (hc : b ≤ a) : zfill g a b v = g := by
  funext k; unfold zfill; rw [if_neg (by omega)]
theorem zfill_s {g : Nat → Int} {i b v : Int} (h0 : 0 ≤ i) (hi : i < b) : zfill (va_up g i.toNat v) (i + 1) b v = zfill g i b v := by
  funext k
  unfold zfill
  by_cases e : k = i.toNat
  · subst e; rw [va_up_self, if_neg (by omega), if_pos (by omega)]
  · rw [va_up_ne _ _ e]
    by_cases hk : i + 1 ≤ (k : Int) ∧ (k : Int) < b
    · rw [if_pos hk, if_pos (by omega)]
    · rw [if_neg hk, if_neg (by omega)]
theorem zrow {row w H : Int} (h0 : 0 ≤ row) (h1 : row < H) (hw : 0 ≤ w) : 0 ≤ row * w ∧ row * w + w ≤ w * H := by
  refine ⟨Int.mul_nonneg h0 hw, ?_⟩
  have h2 := Int.mul_le_mul_of_nonneg_right (show row + 1 ≤ H by omega) hw
  rw [Int.add_mul, Int.one_mul] at h2
  rw [Int.mul_comm w H]
  exact h2
/-- what Grid's methods do to its cells -/
def gfill (w H row a b v : Int) (f : Nat → Int) : Nat → Int := if 0 ≤ row ∧ row < H ∧ 0 ≤ a ∧ a < b ∧ b ≤ w then zfill f (row * w + a) (row * w + b) v else f
def gset (w H c row v : Int) (f : Nat → Int) : Nat → Int := if 0 ≤ c ∧ c < w ∧ 0 ≤ row ∧ row < H then va_up f (row * w + c).toNat v else f
def ggive (w H row k at_ M : Int) (f g : Nat → Int) : Nat → Int := if 0 ≤ row ∧ row < H ∧ 0 ≤ k ∧ k ≤ w ∧ 0 ≤ at_ ∧ at_ + k ≤ M then va_cpy f g (row * w).toNat at_.toNat k.toNat else g
def gmoveRow (w H a b : Int) (f : Nat → Int) : Nat → Int := if 0 ≤ a ∧ a < H ∧ 0 ≤ b ∧ b < H then va_cpy f f (a * w).toNat (b * w).toNat w.toNat else f
def gmoveCells (w H row a b k : Int) (f : Nat → Int) : Nat → Int := if 0 ≤ row ∧ row < H ∧ 0 ≤ a ∧ 0 ≤ b ∧ 0 ≤ k ∧ k ≤ w - max a b then va_cpy f f (row * w + a).toNat (row * w + b).toNat k.toNat else f
def gkeepF (w H c rows : Int) : Nat → Int → (Nat → Int) → Nat → Int
  | 0, _, f => f
  | j + 1, i, f => gkeepF w H c rows j (i + 1) (gfill w H i (if i < rows then c else 0) w 32 f)
def gkeep (w H c rows : Int) (f : Nat → Int) : Nat → Int := gkeepF w H c rows H.toNat 0 f
set_option maxHeartbeats 4000000 in
set_option maxRecDepth 100000 in
/-- nearest(v, lo, hi): of lo and (of hi and v the least) the greatest -/
theorem mX9_nearest {E : pw_E} (htr : E.1.stackTraces = false) {h : pz_H} {n : Nat} {v lo hi : Int} (h_v : -2147483648 ≤ v ∧ v < 2147483648) (h_lo : -2147483648 ≤ lo ∧ lo < 2147483648) (h_hi : -2147483648 ≤ hi ∧ hi < 2147483648) : pw_M E yX9_nearest YX9_nearest (rmD 1 0 0) [.int (zI v), .int (zI lo), .int (zI hi)] h n (fun r h' n' => r = some (.int (zI (max lo (min hi v)))) ∧ h' = h ∧ n' = n) (fun _ _ _ => False) := by
  refine pw_M_of (lv := [some (.int (zI (v))), some (.int (zI (lo))), some (.int (zI (hi)))]) (by decide) rfl rfl htr (nle rfl) rfl (fun L => ?_)
  refine pw_iload_n dX9_nearest_0 rfl ?_
  refine pw_iload_n dX9_nearest_1 rfl ?_
  refine pw_iload_n dX9_nearest_2 rfl ?_
  refine pw_min cwX9_241 dX9_nearest_3 (by omega) (by omega) ⟨nle rfl, nle rfl⟩ ⟨nle rfl, nle rfl⟩ ?_
  refine pw_max cwX9_247 dX9_nearest_6 (by omega) (by omega) ⟨nle rfl, nle rfl⟩ ⟨nle rfl, nle rfl⟩ ?_
  exact pw_iret dX9_nearest_9 rfl (nle rfl) (nle rfl) ⟨rfl, rfl, rfl⟩
set_option maxHeartbeats 4000000 in
set_option maxRecDepth 100000 in
/-- Arrays.rangeCheck(N, a, b) where it is fine -/
theorem mJ7_rangeCheck {E : pw_E} (htr : E.1.stackTraces = false) {h : pz_H} {n : Nat} {N a b : Int} (ha : 0 ≤ a ∧ a ≤ b) (hb : b ≤ N ∧ N < 2147483648) : pw_M E yJ7_rangeCheck_23922 YJ7_rangeCheck_23922 (rmD 0 0 0) [.int (zI N), .int (zI a), .int (zI b)] h n (fun r h' n' => r = none ∧ h' = h ∧ n' = n) (fun _ _ _ => False) := by
  refine pw_M_of (lv := [some (.int (zI (N))), some (.int (zI (a))), some (.int (zI (b)))]) (by decide) rfl rfl htr (nle rfl) rfl (fun L => ?_)
  refine pw_iload_n dJ7_rangeCheck_23922_0 rfl ?_
  refine pw_iload_n dJ7_rangeCheck_23922_1 rfl ?_
  refine pw_icmp_le (tgt := 46) dJ7_rangeCheck_23922_2 rfl (by omega) (by omega) (fun c2 => ?_) (fun c2 => ?_)
  ·
    refine pw_iload_n dJ7_rangeCheck_23922_46 rfl ?_
    refine pw_if_ge (tgt := 59) dJ7_rangeCheck_23922_47 rfl (by omega) (fun c47 => ?_) (fun c47 => ?_)
    ·
      refine pw_iload_n dJ7_rangeCheck_23922_59 rfl ?_
      refine pw_iload_n dJ7_rangeCheck_23922_60 rfl ?_
      refine pw_icmp_le (tgt := 73) dJ7_rangeCheck_23922_61 rfl (by omega) (by omega) (fun c61 => ?_) (fun c61 => ?_)
      ·
        exact pw_vret dJ7_rangeCheck_23922_73 rfl (nle rfl) (nle rfl) ⟨rfl, rfl, rfl⟩
      · exfalso; omega
    · exfalso; omega
  · exfalso; omega
set_option maxHeartbeats 4000000 in
set_option maxRecDepth 100000 in
theorem lJ7_fill {E : pw_E} {R : Room} {K : pw_K} {n ar N : Nat} {a b v : Int} (ha : 0 ≤ a) (hb : b ≤ N) (hN : N < 2147483648) : ∀ (j : Nat) (i : Int) (h : pz_H) (g : Nat → Int), (b - i).toNat = j → a ≤ i → i ≤ b → h ar = pz_z 0 N g → K.2.2.1 none (va_up h ar (pz_z 0 N (zfill g i b v))) n → pw E YJ7_fill_fda19 R K 0 0 10 [some (.ref ar), some (.int (zI (a))), some (.int (zI (b))), some (.int (zI (v))), some (.int (zI (i)))] [] h n := by
  intro j
  induction j with
  | zero =>
    intro i h g hj h1 h2 hg hQ
    refine pw_iload dJ7_fill_fda19_10 rfl ?_
    refine pw_iload_n dJ7_fill_fda19_12 rfl ?_
    refine pw_icmp_ge (tgt := 27) dJ7_fill_fda19_13 rfl (by omega) (by omega) (fun c13 => ?_) (fun c13 => ?_)
    ·
      exact pw_vret dJ7_fill_fda19_27 rfl (Nat.zero_le _) (Nat.zero_le _) (by rw [zfill_e (by omega), pz_up_id hg] at hQ; exact hQ)
    · exfalso; omega
  | succ j ih =>
    intro i h g hj h1 h2 hg hQ
    refine pw_iload dJ7_fill_fda19_10 rfl ?_
    refine pw_iload_n dJ7_fill_fda19_12 rfl ?_
    refine pw_icmp_ge (tgt := 27) dJ7_fill_fda19_13 rfl (by omega) (by omega) (fun c13 => ?_) (fun c13 => ?_)
    · exfalso; omega
    ·
      refine pw_aload_n dJ7_fill_fda19_16 rfl ?_
      refine pw_iload dJ7_fill_fda19_17 rfl ?_
      refine pw_iload_n dJ7_fill_fda19_19 rfl ?_
      refine pw_iast (t := 0) rfl hg (by omega) (by omega) dJ7_fill_fda19_20 ?_
      refine pw_ziinc (lv' := [some (.ref ar), some (.int (zI (a))), some (.int (zI (b))), some (.int (zI (v))), some (.int (zI (i + 1)))]) dJ7_fill_fda19_21 rfl (by decide) rfl rfl ?_
      refine pw_goto (tgt := 10) dJ7_fill_fda19_24 rfl ?_
      exact ih (i + 1) _ _ (by omega) (by omega) (by omega) (va_up_self _ _ _) (by rw [pz_up_up, zfill_s (by omega) (by omega)]; exact hQ)
set_option maxHeartbeats 4000000 in
set_option maxRecDepth 100000 in
/-- Arrays.fill(ar, a, b, v) where it is fine -/
theorem mJ7_fill4 {E : pw_E} (htr : E.1.stackTraces = false) {h : pz_H} {n : Nat} {ar N : Nat} {a b v : Int} {g : Nat → Int} (hg : h ar = pz_z 0 N g) (ha : 0 ≤ a ∧ a ≤ b) (hb : b ≤ N) (hN : N < 2147483648) : pw_M E yJ7_fill_fda19 YJ7_fill_fda19 (rmD 1 0 0) [.ref ar, .int (zI a), .int (zI b), .int (zI v)] h n (fun r h' n' => r = none ∧ h' = va_up h ar (pz_z 0 N (zfill g a b v)) ∧ n' = n) (fun _ _ _ => False) := by
  refine pw_M_of (lv := [some (.ref ar), some (.int (zI (a))), some (.int (zI (b))), some (.int (zI (v))), none]) (by decide) rfl rfl htr (nle rfl) rfl (fun L => ?_)
  refine pw_aload_n dJ7_fill_fda19_0 rfl ?_
  refine pw_alenI (t := 0) rfl hg dJ7_fill_fda19_1 ?_
  refine pw_iload_n dJ7_fill_fda19_2 rfl ?_
  refine pw_iload_n dJ7_fill_fda19_3 rfl ?_
  refine pw_callS (As := [.int (zI (N)), .int (zI (a)), .int (zI (b))]) (rm := rmD 0 0 0) (mJ7_rangeCheck htr (by omega) (by omega)) rfl ywJ7_rangeCheck_23922 rfl cwJ7_13 ⟨nle rfl, nle rfl⟩ (nle rfl) ⟨nle rfl, nle rfl⟩ dJ7_fill_fda19_4 ?_ (fun _ _ _ z => z.elim)
  intro r2 h2 n2 hq _
  rw [hq.1, hq.2.1, hq.2.2]
  show pw E YJ7_fill_fda19 _ _ 0 0 7 [some (.ref ar), some (.int (zI (a))), some (.int (zI (b))), some (.int (zI (v))), none] [] h n
  refine pw_iload_n dJ7_fill_fda19_7 rfl ?_
  refine pw_istore (lv' := [some (.ref ar), some (.int (zI (a))), some (.int (zI (b))), some (.int (zI (v))), some (.int (zI (a)))]) dJ7_fill_fda19_8 (by decide) rfl rfl ?_
  exact lJ7_fill (by omega) (by omega) hN _ _ _ _ rfl (by omega) (by omega) hg ⟨rfl, rfl, rfl⟩
set_option maxHeartbeats 4000000 in
set_option maxRecDepth 100000 in
theorem lJ7_fill2 {E : pw_E} {R : Room} {K : pw_K} {n ar N : Nat} {v : Int} (hN : N < 2147483648) : ∀ (j : Nat) (i : Int) (h : pz_H) (g : Nat → Int), ((N : Int) - i).toNat = j → 0 ≤ i → i ≤ N → h ar = pz_z 0 N g → K.2.2.1 none (va_up h ar (pz_z 0 N (zfill g i N v))) n → pw E YJ7_fill_53178 R K 0 0 5 [some (.ref ar), some (.int (zI (v))), some (.int (zI (i))), some (.int (zI (N)))] [] h n := by
  intro j
  induction j with
  | zero =>
    intro i h g hj h1 h2 hg hQ
    refine pw_iload_n dJ7_fill_53178_5 rfl ?_
    refine pw_iload_n dJ7_fill_53178_6 rfl ?_
    refine pw_icmp_ge (tgt := 20) dJ7_fill_53178_7 rfl (by omega) (by omega) (fun c7 => ?_) (fun c7 => ?_)
    ·
      exact pw_vret dJ7_fill_53178_20 rfl (Nat.zero_le _) (Nat.zero_le _) (by rw [zfill_e (by omega), pz_up_id hg] at hQ; exact hQ)
    · exfalso; omega
  | succ j ih =>
    intro i h g hj h1 h2 hg hQ
    refine pw_iload_n dJ7_fill_53178_5 rfl ?_
    refine pw_iload_n dJ7_fill_53178_6 rfl ?_
    refine pw_icmp_ge (tgt := 20) dJ7_fill_53178_7 rfl (by omega) (by omega) (fun c7 => ?_) (fun c7 => ?_)
    · exfalso; omega
    ·
      refine pw_aload_n dJ7_fill_53178_10 rfl ?_
      refine pw_iload_n dJ7_fill_53178_11 rfl ?_
      refine pw_iload_n dJ7_fill_53178_12 rfl ?_
      refine pw_iast (t := 0) rfl hg (by omega) (by omega) dJ7_fill_53178_13 ?_
      refine pw_ziinc (lv' := [some (.ref ar), some (.int (zI (v))), some (.int (zI (i + 1))), some (.int (zI (N)))]) dJ7_fill_53178_14 rfl (by decide) rfl rfl ?_
      refine pw_goto (tgt := 5) dJ7_fill_53178_17 rfl ?_
      exact ih (i + 1) _ _ (by omega) (by omega) (by omega) (va_up_self _ _ _) (by rw [pz_up_up, zfill_s (by omega) (by omega)]; exact hQ)
set_option maxHeartbeats 4000000 in
set_option maxRecDepth 100000 in
/-- Arrays.fill(ar, v) -/
theorem mJ7_fill2 {E : pw_E} (htr : E.1.stackTraces = false) {h : pz_H} {n : Nat} {ar N : Nat} {v : Int} {g : Nat → Int} (hg : h ar = pz_z 0 N g) (hN : N < 2147483648) : pw_M E yJ7_fill_53178 YJ7_fill_53178 (rmD 0 0 0) [.ref ar, .int (zI v)] h n (fun r h' n' => r = none ∧ h' = va_up h ar (pz_z 0 N (zfill g 0 N v)) ∧ n' = n) (fun _ _ _ => False) := by
  refine pw_M_of (lv := [some (.ref ar), some (.int (zI (v))), none, none]) (by decide) rfl rfl htr (nle rfl) rfl (fun L => ?_)
  refine pw_iconst (v := zI (0)) dJ7_fill_53178_0 (by decide) ?_
  refine pw_istore_n (lv' := [some (.ref ar), some (.int (zI (v))), some (.int (zI (0))), none]) dJ7_fill_53178_1 (by decide) rfl rfl ?_
  refine pw_aload_n dJ7_fill_53178_2 rfl ?_
  refine pw_alenI (t := 0) rfl hg dJ7_fill_53178_3 ?_
  refine pw_istore_n (lv' := [some (.ref ar), some (.int (zI (v))), some (.int (zI (0))), some (.int (zI (N)))]) dJ7_fill_53178_4 (by decide) rfl rfl ?_
  exact lJ7_fill2 hN _ _ _ _ rfl (by omega) (by omega) hg ⟨rfl, rfl, rfl⟩
set_option maxHeartbeats 4000000 in
set_option maxRecDepth 100000 in
/-- Grid.fill(row, a, b, v) -/
theorem mX0_fill {E : pw_E} (htr : E.1.stackTraces = false) {h : pz_H} {n : Nat} {g ca N : Nat} {w H : Int} {f : Nat → Int} (hg : h g = pz_o 3 [.int (zI w), .int (zI H), .ref ca]) (hc : h ca = pz_z 0 N f) (hne : g ≠ ca) (hw : 0 ≤ w ∧ w ≤ 40) (hH : 0 ≤ H ∧ H ≤ 16) (hN : (N : Int) = w * H) (hN2 : N ≤ 640) {row a b v : Int} (h_row : -2147483648 ≤ row ∧ row < 2147483648) (h_a : -2147483648 ≤ a ∧ a < 2147483648) (h_b : -2147483648 ≤ b ∧ b < 2147483648) (h_v : -2147483648 ≤ v ∧ v < 2147483648)  : pw_M E yX0_fill YX0_fill (rmD 2 0 0) [.ref g, .int (zI (row)), .int (zI (a)), .int (zI (b)), .int (zI (v))] h n (fun r h' n' => r = none ∧ h' = va_up h ca (pz_z 0 N (gfill w H row a b v f)) ∧ n' = n) (fun _ _ _ => False) := by
  refine pw_M_of (lv := [some (.ref g), some (.int (zI (row))), some (.int (zI (a))), some (.int (zI (b))), some (.int (zI (v)))]) (by decide) rfl rfl htr (nle rfl) rfl (fun L => ?_)
  refine pw_iload_n dX0_fill_0 rfl ?_
  refine pw_if_lt (tgt := 54) dX0_fill_1 rfl (by omega) (fun c1 => ?_) (fun c1 => ?_)
  ·
    exact pw_vret dX0_fill_54 rfl (nle rfl) (nle rfl) ⟨rfl, by unfold gfill; rw [if_neg (by omega), pz_up_id hc], rfl⟩
  ·
    refine pw_iload_n dX0_fill_4 rfl ?_
    refine pw_aload_n dX0_fill_5 rfl ?_
    refine pw_get (v := .int (zI (H))) okX0 (k := 1) (by decide) lkX0_15 hg rfl dX0_fill_6 ?_
    refine pw_icmp_ge (tgt := 54) dX0_fill_9 rfl (by omega) (by omega) (fun c9 => ?_) (fun c9 => ?_)
    ·
      exact pw_vret dX0_fill_54 rfl (nle rfl) (nle rfl) ⟨rfl, by unfold gfill; rw [if_neg (by omega), pz_up_id hc], rfl⟩
    ·
      refine pw_iload_n dX0_fill_12 rfl ?_
      refine pw_if_lt (tgt := 54) dX0_fill_13 rfl (by omega) (fun c13 => ?_) (fun c13 => ?_)
      ·
        exact pw_vret dX0_fill_54 rfl (nle rfl) (nle rfl) ⟨rfl, by unfold gfill; rw [if_neg (by omega), pz_up_id hc], rfl⟩
      ·
        refine pw_iload_n dX0_fill_16 rfl ?_
        refine pw_iload_n dX0_fill_17 rfl ?_
        refine pw_icmp_ge (tgt := 54) dX0_fill_18 rfl (by omega) (by omega) (fun c18 => ?_) (fun c18 => ?_)
        ·
          exact pw_vret dX0_fill_54 rfl (nle rfl) (nle rfl) ⟨rfl, by unfold gfill; rw [if_neg (by omega), pz_up_id hc], rfl⟩
        ·
          refine pw_iload_n dX0_fill_21 rfl ?_
          refine pw_aload_n dX0_fill_22 rfl ?_
          refine pw_get (v := .int (zI (w))) okX0 (k := 0) (by decide) lkX0_9 hg rfl dX0_fill_23 ?_
          refine pw_icmp_gt (tgt := 54) dX0_fill_26 rfl (by omega) (by omega) (fun c26 => ?_) (fun c26 => ?_)
          ·
            exact pw_vret dX0_fill_54 rfl (nle rfl) (nle rfl) ⟨rfl, by unfold gfill; rw [if_neg (by omega), pz_up_id hc], rfl⟩
          ·
            have hzrow := zrow (row := row) (w := w) (H := H) (by omega) (by omega) hw.1
            refine pw_aload_n dX0_fill_29 rfl ?_
            refine pw_get (v := .ref ca) okX0 (k := 2) (by decide) lkX0_18 hg rfl dX0_fill_30 ?_
            refine pw_iload_n dX0_fill_33 rfl ?_
            refine pw_aload_n dX0_fill_34 rfl ?_
            refine pw_get (v := .int (zI (w))) okX0 (k := 0) (by decide) lkX0_9 hg rfl dX0_fill_35 ?_
            refine pw_zimul dX0_fill_38 ?_
            refine pw_iload_n dX0_fill_39 rfl ?_
            refine pw_ziadd dX0_fill_40 ?_
            refine pw_iload_n dX0_fill_41 rfl ?_
            refine pw_aload_n dX0_fill_42 rfl ?_
            refine pw_get (v := .int (zI (w))) okX0 (k := 0) (by decide) lkX0_9 hg rfl dX0_fill_43 ?_
            refine pw_zimul dX0_fill_46 ?_
            refine pw_iload_n dX0_fill_47 rfl ?_
            refine pw_ziadd dX0_fill_48 ?_
            refine pw_iload dX0_fill_49 rfl ?_
            refine pw_callS (As := [.ref ca, .int (zI ((row * w) + (a))), .int (zI ((row * w) + (b))), .int (zI (v))]) (rm := rmD 1 0 0) (mJ7_fill4 htr hc (by omega) (by omega) (by omega)) rfl ywJ7_fill_fda19 rfl cwX0_26 ⟨nle rfl, nle rfl⟩ (nle rfl) ⟨nle rfl, nle rfl⟩ dX0_fill_51 ?_ (fun _ _ _ z => z.elim)
            intro r2 h2 n2 hq _
            rw [hq.1, hq.2.1, hq.2.2]
            show pw E YX0_fill _ _ 0 0 54 [some (.ref g), some (.int (zI (row))), some (.int (zI (a))), some (.int (zI (b))), some (.int (zI (v)))] [] (va_up h ca (pz_z 0 N (zfill f (row * w + a) (row * w + b) v))) n
            exact pw_vret dX0_fill_54 rfl (nle rfl) (nle rfl) ⟨rfl, by unfold gfill; rw [if_pos (by omega)], rfl⟩
set_option maxHeartbeats 4000000 in
set_option maxRecDepth 100000 in
/-- Grid.set(c, row, v) -/
theorem mX0_set {E : pw_E} (htr : E.1.stackTraces = false) {h : pz_H} {n : Nat} {g ca N : Nat} {w H : Int} {f : Nat → Int} (hg : h g = pz_o 3 [.int (zI w), .int (zI H), .ref ca]) (hc : h ca = pz_z 0 N f) (hne : g ≠ ca) (hw : 0 ≤ w ∧ w ≤ 40) (hH : 0 ≤ H ∧ H ≤ 16) (hN : (N : Int) = w * H) (hN2 : N ≤ 640) {c row v : Int} (h_c : -2147483648 ≤ c ∧ c < 2147483648) (h_row : -2147483648 ≤ row ∧ row < 2147483648) (h_v : -2147483648 ≤ v ∧ v < 2147483648)  : pw_M E yX0_set YX0_set (rmD 0 0 0) [.ref g, .int (zI (c)), .int (zI (row)), .int (zI (v))] h n (fun r h' n' => r = none ∧ h' = va_up h ca (pz_z 0 N (gset w H c row v f)) ∧ n' = n) (fun _ _ _ => False) := by
  refine pw_M_of (lv := [some (.ref g), some (.int (zI (c))), some (.int (zI (row))), some (.int (zI (v)))]) (by decide) rfl rfl htr (nle rfl) rfl (fun L => ?_)
  refine pw_iload_n dX0_set_0 rfl ?_
  refine pw_if_lt (tgt := 38) dX0_set_1 rfl (by omega) (fun c1 => ?_) (fun c1 => ?_)
  ·
    exact pw_vret dX0_set_38 rfl (nle rfl) (nle rfl) ⟨rfl, by unfold gset; rw [if_neg (by omega), pz_up_id hc], rfl⟩
  ·
    refine pw_iload_n dX0_set_4 rfl ?_
    refine pw_aload_n dX0_set_5 rfl ?_
    refine pw_get (v := .int (zI (w))) okX0 (k := 0) (by decide) lkX0_9 hg rfl dX0_set_6 ?_
    refine pw_icmp_ge (tgt := 38) dX0_set_9 rfl (by omega) (by omega) (fun c9 => ?_) (fun c9 => ?_)
    ·
      exact pw_vret dX0_set_38 rfl (nle rfl) (nle rfl) ⟨rfl, by unfold gset; rw [if_neg (by omega), pz_up_id hc], rfl⟩
    ·
      refine pw_iload_n dX0_set_12 rfl ?_
      refine pw_if_lt (tgt := 38) dX0_set_13 rfl (by omega) (fun c13 => ?_) (fun c13 => ?_)
      ·
        exact pw_vret dX0_set_38 rfl (nle rfl) (nle rfl) ⟨rfl, by unfold gset; rw [if_neg (by omega), pz_up_id hc], rfl⟩
      ·
        refine pw_iload_n dX0_set_16 rfl ?_
        refine pw_aload_n dX0_set_17 rfl ?_
        refine pw_get (v := .int (zI (H))) okX0 (k := 1) (by decide) lkX0_15 hg rfl dX0_set_18 ?_
        refine pw_icmp_ge (tgt := 38) dX0_set_21 rfl (by omega) (by omega) (fun c21 => ?_) (fun c21 => ?_)
        ·
          exact pw_vret dX0_set_38 rfl (nle rfl) (nle rfl) ⟨rfl, by unfold gset; rw [if_neg (by omega), pz_up_id hc], rfl⟩
        ·
          have hzrow := zrow (row := row) (w := w) (H := H) (by omega) (by omega) hw.1
          refine pw_aload_n dX0_set_24 rfl ?_
          refine pw_get (v := .ref ca) okX0 (k := 2) (by decide) lkX0_18 hg rfl dX0_set_25 ?_
          refine pw_iload_n dX0_set_28 rfl ?_
          refine pw_aload_n dX0_set_29 rfl ?_
          refine pw_get (v := .int (zI (w))) okX0 (k := 0) (by decide) lkX0_9 hg rfl dX0_set_30 ?_
          refine pw_zimul dX0_set_33 ?_
          refine pw_iload_n dX0_set_34 rfl ?_
          refine pw_ziadd dX0_set_35 ?_
          refine pw_iload_n dX0_set_36 rfl ?_
          refine pw_iast (t := 0) rfl hc (by omega) (by omega) dX0_set_37 ?_
          exact pw_vret dX0_set_38 rfl (nle rfl) (nle rfl) ⟨rfl, by unfold gset; rw [if_pos (by omega)], rfl⟩
set_option maxHeartbeats 4000000 in
set_option maxRecDepth 100000 in
/-- Grid.give(row, k, target, at) -/
theorem mX0_give {E : pw_E} (htr : E.1.stackTraces = false) {h : pz_H} {n : Nat} {g ca N : Nat} {w H : Int} {f : Nat → Int} (hg : h g = pz_o 3 [.int (zI w), .int (zI H), .ref ca]) (hc : h ca = pz_z 0 N f) (hne : g ≠ ca) (hw : 0 ≤ w ∧ w ≤ 40) (hH : 0 ≤ H ∧ H ≤ 16) (hN : (N : Int) = w * H) (hN2 : N ≤ 640) {row k at_ : Int} (h_row : -2147483648 ≤ row ∧ row < 2147483648) (h_k : -2147483648 ≤ k ∧ k < 2147483648) (h_at_ : -2147483648 ≤ at_ ∧ at_ < 2147483648) {ta M : Nat} {q : Nat → Int} (ht : h ta = pz_z 0 M q) (hM : M ≤ 100000) (hat : at_ ≤ 100000) : pw_M E yX0_give YX0_give (rmD 1 0 0) [.ref g, .int (zI (row)), .int (zI (k)), .ref ta, .int (zI (at_))] h n (fun r h' n' => r = none ∧ h' = va_up h ta (pz_z 0 M (ggive w H row k at_ M f q)) ∧ n' = n) (fun _ _ _ => False) := by
  refine pw_M_of (lv := [some (.ref g), some (.int (zI (row))), some (.int (zI (k))), some (.ref ta), some (.int (zI (at_)))]) (by decide) rfl rfl htr (nle rfl) rfl (fun L => ?_)
  refine pw_iload_n dX0_give_0 rfl ?_
  refine pw_if_lt (tgt := 55) dX0_give_1 rfl (by omega) (fun c1 => ?_) (fun c1 => ?_)
  ·
    exact pw_vret dX0_give_55 rfl (nle rfl) (nle rfl) ⟨rfl, by unfold ggive; rw [if_neg (by omega), pz_up_id ht], rfl⟩
  ·
    refine pw_iload_n dX0_give_4 rfl ?_
    refine pw_aload_n dX0_give_5 rfl ?_
    refine pw_get (v := .int (zI (H))) okX0 (k := 1) (by decide) lkX0_15 hg rfl dX0_give_6 ?_
    refine pw_icmp_ge (tgt := 55) dX0_give_9 rfl (by omega) (by omega) (fun c9 => ?_) (fun c9 => ?_)
    ·
      exact pw_vret dX0_give_55 rfl (nle rfl) (nle rfl) ⟨rfl, by unfold ggive; rw [if_neg (by omega), pz_up_id ht], rfl⟩
    ·
      refine pw_iload_n dX0_give_12 rfl ?_
      refine pw_if_lt (tgt := 55) dX0_give_13 rfl (by omega) (fun c13 => ?_) (fun c13 => ?_)
      ·
        exact pw_vret dX0_give_55 rfl (nle rfl) (nle rfl) ⟨rfl, by unfold ggive; rw [if_neg (by omega), pz_up_id ht], rfl⟩
      ·
        refine pw_iload_n dX0_give_16 rfl ?_
        refine pw_aload_n dX0_give_17 rfl ?_
        refine pw_get (v := .int (zI (w))) okX0 (k := 0) (by decide) lkX0_9 hg rfl dX0_give_18 ?_
        refine pw_icmp_gt (tgt := 55) dX0_give_21 rfl (by omega) (by omega) (fun c21 => ?_) (fun c21 => ?_)
        ·
          exact pw_vret dX0_give_55 rfl (nle rfl) (nle rfl) ⟨rfl, by unfold ggive; rw [if_neg (by omega), pz_up_id ht], rfl⟩
        ·
          refine pw_iload dX0_give_24 rfl ?_
          refine pw_if_lt (tgt := 55) dX0_give_26 rfl (by omega) (fun c26 => ?_) (fun c26 => ?_)
          ·
            exact pw_vret dX0_give_55 rfl (nle rfl) (nle rfl) ⟨rfl, by unfold ggive; rw [if_neg (by omega), pz_up_id ht], rfl⟩
          ·
            refine pw_iload dX0_give_29 rfl ?_
            refine pw_iload_n dX0_give_31 rfl ?_
            refine pw_ziadd dX0_give_32 ?_
            refine pw_aload_n dX0_give_33 rfl ?_
            refine pw_alenI (t := 0) rfl ht dX0_give_34 ?_
            refine pw_icmp_gt (tgt := 55) dX0_give_35 rfl (by omega) (by omega) (fun c35 => ?_) (fun c35 => ?_)
            ·
              exact pw_vret dX0_give_55 rfl (nle rfl) (nle rfl) ⟨rfl, by unfold ggive; rw [if_neg (by omega), pz_up_id ht], rfl⟩
            ·
              have hzrow := zrow (row := row) (w := w) (H := H) (by omega) (by omega) hw.1
              refine pw_aload_n dX0_give_38 rfl ?_
              refine pw_get (v := .ref ca) okX0 (k := 2) (by decide) lkX0_18 hg rfl dX0_give_39 ?_
              refine pw_iload_n dX0_give_42 rfl ?_
              refine pw_aload_n dX0_give_43 rfl ?_
              refine pw_get (v := .int (zI (w))) okX0 (k := 0) (by decide) lkX0_9 hg rfl dX0_give_44 ?_
              refine pw_zimul dX0_give_47 ?_
              refine pw_aload_n dX0_give_48 rfl ?_
              refine pw_iload dX0_give_49 rfl ?_
              refine pw_iload_n dX0_give_51 rfl ?_
              refine pw_copyi cwX0_31 hc ht (by omega) (by omega) (by omega) (by omega) (by omega) ⟨nle rfl, nle rfl⟩ dX0_give_52 ?_
              exact pw_vret dX0_give_55 rfl (nle rfl) (nle rfl) ⟨rfl, by unfold ggive; rw [if_pos (by omega)], rfl⟩
set_option maxHeartbeats 4000000 in
set_option maxRecDepth 100000 in
/-- Grid.moveRow(a, b) -/
theorem mX0_moveRow {E : pw_E} (htr : E.1.stackTraces = false) {h : pz_H} {n : Nat} {g ca N : Nat} {w H : Int} {f : Nat → Int} (hg : h g = pz_o 3 [.int (zI w), .int (zI H), .ref ca]) (hc : h ca = pz_z 0 N f) (hne : g ≠ ca) (hw : 0 ≤ w ∧ w ≤ 40) (hH : 0 ≤ H ∧ H ≤ 16) (hN : (N : Int) = w * H) (hN2 : N ≤ 640) {a b : Int} (h_a : -2147483648 ≤ a ∧ a < 2147483648) (h_b : -2147483648 ≤ b ∧ b < 2147483648)  : pw_M E yX0_moveRow YX0_moveRow (rmD 1 0 0) [.ref g, .int (zI (a)), .int (zI (b))] h n (fun r h' n' => r = none ∧ h' = va_up h ca (pz_z 0 N (gmoveRow w H a b f)) ∧ n' = n) (fun _ _ _ => False) := by
  refine pw_M_of (lv := [some (.ref g), some (.int (zI (a))), some (.int (zI (b)))]) (by decide) rfl rfl htr (nle rfl) rfl (fun L => ?_)
  refine pw_iload_n dX0_moveRow_0 rfl ?_
  refine pw_if_lt (tgt := 51) dX0_moveRow_1 rfl (by omega) (fun c1 => ?_) (fun c1 => ?_)
  ·
    exact pw_vret dX0_moveRow_51 rfl (nle rfl) (nle rfl) ⟨rfl, by unfold gmoveRow; rw [if_neg (by omega), pz_up_id hc], rfl⟩
  ·
    refine pw_iload_n dX0_moveRow_4 rfl ?_
    refine pw_aload_n dX0_moveRow_5 rfl ?_
    refine pw_get (v := .int (zI (H))) okX0 (k := 1) (by decide) lkX0_15 hg rfl dX0_moveRow_6 ?_
    refine pw_icmp_ge (tgt := 51) dX0_moveRow_9 rfl (by omega) (by omega) (fun c9 => ?_) (fun c9 => ?_)
    ·
      exact pw_vret dX0_moveRow_51 rfl (nle rfl) (nle rfl) ⟨rfl, by unfold gmoveRow; rw [if_neg (by omega), pz_up_id hc], rfl⟩
    ·
      refine pw_iload_n dX0_moveRow_12 rfl ?_
      refine pw_if_lt (tgt := 51) dX0_moveRow_13 rfl (by omega) (fun c13 => ?_) (fun c13 => ?_)
      ·
        exact pw_vret dX0_moveRow_51 rfl (nle rfl) (nle rfl) ⟨rfl, by unfold gmoveRow; rw [if_neg (by omega), pz_up_id hc], rfl⟩
      ·
        refine pw_iload_n dX0_moveRow_16 rfl ?_
        refine pw_aload_n dX0_moveRow_17 rfl ?_
        refine pw_get (v := .int (zI (H))) okX0 (k := 1) (by decide) lkX0_15 hg rfl dX0_moveRow_18 ?_
        refine pw_icmp_ge (tgt := 51) dX0_moveRow_21 rfl (by omega) (by omega) (fun c21 => ?_) (fun c21 => ?_)
        ·
          exact pw_vret dX0_moveRow_51 rfl (nle rfl) (nle rfl) ⟨rfl, by unfold gmoveRow; rw [if_neg (by omega), pz_up_id hc], rfl⟩
        ·
          have hza := zrow (row := a) (w := w) (H := H) (by omega) (by omega) hw.1
          have hzb := zrow (row := b) (w := w) (H := H) (by omega) (by omega) hw.1
          refine pw_aload_n dX0_moveRow_24 rfl ?_
          refine pw_get (v := .ref ca) okX0 (k := 2) (by decide) lkX0_18 hg rfl dX0_moveRow_25 ?_
          refine pw_iload_n dX0_moveRow_28 rfl ?_
          refine pw_aload_n dX0_moveRow_29 rfl ?_
          refine pw_get (v := .int (zI (w))) okX0 (k := 0) (by decide) lkX0_9 hg rfl dX0_moveRow_30 ?_
          refine pw_zimul dX0_moveRow_33 ?_
          refine pw_aload_n dX0_moveRow_34 rfl ?_
          refine pw_get (v := .ref ca) okX0 (k := 2) (by decide) lkX0_18 hg rfl dX0_moveRow_35 ?_
          refine pw_iload_n dX0_moveRow_38 rfl ?_
          refine pw_aload_n dX0_moveRow_39 rfl ?_
          refine pw_get (v := .int (zI (w))) okX0 (k := 0) (by decide) lkX0_9 hg rfl dX0_moveRow_40 ?_
          refine pw_zimul dX0_moveRow_43 ?_
          refine pw_aload_n dX0_moveRow_44 rfl ?_
          refine pw_get (v := .int (zI (w))) okX0 (k := 0) (by decide) lkX0_9 hg rfl dX0_moveRow_45 ?_
          refine pw_copyi cwX0_31 hc hc (by omega) (by omega) (by omega) (by omega) (by omega) ⟨nle rfl, nle rfl⟩ dX0_moveRow_48 ?_
          exact pw_vret dX0_moveRow_51 rfl (nle rfl) (nle rfl) ⟨rfl, by unfold gmoveRow; rw [if_pos (by omega)], rfl⟩
set_option maxHeartbeats 4000000 in
set_option maxRecDepth 100000 in
/-- Grid.moveCells(row, a, b, k) -/
theorem mX0_moveCells {E : pw_E} (htr : E.1.stackTraces = false) {h : pz_H} {n : Nat} {g ca N : Nat} {w H : Int} {f : Nat → Int} (hg : h g = pz_o 3 [.int (zI w), .int (zI H), .ref ca]) (hc : h ca = pz_z 0 N f) (hne : g ≠ ca) (hw : 0 ≤ w ∧ w ≤ 40) (hH : 0 ≤ H ∧ H ≤ 16) (hN : (N : Int) = w * H) (hN2 : N ≤ 640) {row a b k : Int} (h_row : -2147483648 ≤ row ∧ row < 2147483648) (h_a : -2147483648 ≤ a ∧ a < 2147483648) (h_b : -2147483648 ≤ b ∧ b < 2147483648) (h_k : -2147483648 ≤ k ∧ k < 2147483648)  : pw_M E yX0_moveCells YX0_moveCells (rmD 1 0 0) [.ref g, .int (zI (row)), .int (zI (a)), .int (zI (b)), .int (zI (k))] h n (fun r h' n' => r = none ∧ h' = va_up h ca (pz_z 0 N (gmoveCells w H row a b k f)) ∧ n' = n) (fun _ _ _ => False) := by
  refine pw_M_of (lv := [some (.ref g), some (.int (zI (row))), some (.int (zI (a))), some (.int (zI (b))), some (.int (zI (k))), none]) (by decide) rfl rfl htr (nle rfl) rfl (fun L => ?_)
  refine pw_aload_n dX0_moveCells_0 rfl ?_
  refine pw_get (v := .int (zI (w))) okX0 (k := 0) (by decide) lkX0_9 hg rfl dX0_moveCells_1 ?_
  refine pw_iload_n dX0_moveCells_4 rfl ?_
  refine pw_iload_n dX0_moveCells_5 rfl ?_
  refine pw_max cwX0_37 dX0_moveCells_6 (by omega) (by omega) ⟨nle rfl, nle rfl⟩ ⟨nle rfl, nle rfl⟩ ?_
  refine pw_zisub dX0_moveCells_9 ?_
  refine pw_istore (lv' := [some (.ref g), some (.int (zI (row))), some (.int (zI (a))), some (.int (zI (b))), some (.int (zI (k))), some (.int (zI ((w) - (max (a) (b)))))]) dX0_moveCells_10 (by decide) rfl rfl ?_
  refine pw_iload_n dX0_moveCells_12 rfl ?_
  refine pw_if_lt (tgt := 73) dX0_moveCells_13 rfl (by omega) (fun c13 => ?_) (fun c13 => ?_)
  ·
    exact pw_vret dX0_moveCells_73 rfl (nle rfl) (nle rfl) ⟨rfl, by unfold gmoveCells; rw [if_neg (by omega), pz_up_id hc], rfl⟩
  ·
    refine pw_iload_n dX0_moveCells_16 rfl ?_
    refine pw_aload_n dX0_moveCells_17 rfl ?_
    refine pw_get (v := .int (zI (H))) okX0 (k := 1) (by decide) lkX0_15 hg rfl dX0_moveCells_18 ?_
    refine pw_icmp_ge (tgt := 73) dX0_moveCells_21 rfl (by omega) (by omega) (fun c21 => ?_) (fun c21 => ?_)
    ·
      exact pw_vret dX0_moveCells_73 rfl (nle rfl) (nle rfl) ⟨rfl, by unfold gmoveCells; rw [if_neg (by omega), pz_up_id hc], rfl⟩
    ·
      refine pw_iload_n dX0_moveCells_24 rfl ?_
      refine pw_if_lt (tgt := 73) dX0_moveCells_25 rfl (by omega) (fun c25 => ?_) (fun c25 => ?_)
      ·
        exact pw_vret dX0_moveCells_73 rfl (nle rfl) (nle rfl) ⟨rfl, by unfold gmoveCells; rw [if_neg (by omega), pz_up_id hc], rfl⟩
      ·
        refine pw_iload_n dX0_moveCells_28 rfl ?_
        refine pw_if_lt (tgt := 73) dX0_moveCells_29 rfl (by omega) (fun c29 => ?_) (fun c29 => ?_)
        ·
          exact pw_vret dX0_moveCells_73 rfl (nle rfl) (nle rfl) ⟨rfl, by unfold gmoveCells; rw [if_neg (by omega), pz_up_id hc], rfl⟩
        ·
          refine pw_iload dX0_moveCells_32 rfl ?_
          refine pw_if_lt (tgt := 73) dX0_moveCells_34 rfl (by omega) (fun c34 => ?_) (fun c34 => ?_)
          ·
            exact pw_vret dX0_moveCells_73 rfl (nle rfl) (nle rfl) ⟨rfl, by unfold gmoveCells; rw [if_neg (by omega), pz_up_id hc], rfl⟩
          ·
            refine pw_iload dX0_moveCells_37 rfl ?_
            refine pw_iload dX0_moveCells_39 rfl ?_
            refine pw_icmp_gt (tgt := 73) dX0_moveCells_41 rfl (by omega) (by omega) (fun c41 => ?_) (fun c41 => ?_)
            ·
              exact pw_vret dX0_moveCells_73 rfl (nle rfl) (nle rfl) ⟨rfl, by unfold gmoveCells; rw [if_neg (by omega), pz_up_id hc], rfl⟩
            ·
              have hzrow := zrow (row := row) (w := w) (H := H) (by omega) (by omega) hw.1
              refine pw_aload_n dX0_moveCells_44 rfl ?_
              refine pw_get (v := .ref ca) okX0 (k := 2) (by decide) lkX0_18 hg rfl dX0_moveCells_45 ?_
              refine pw_iload_n dX0_moveCells_48 rfl ?_
              refine pw_aload_n dX0_moveCells_49 rfl ?_
              refine pw_get (v := .int (zI (w))) okX0 (k := 0) (by decide) lkX0_9 hg rfl dX0_moveCells_50 ?_
              refine pw_zimul dX0_moveCells_53 ?_
              refine pw_iload_n dX0_moveCells_54 rfl ?_
              refine pw_ziadd dX0_moveCells_55 ?_
              refine pw_aload_n dX0_moveCells_56 rfl ?_
              refine pw_get (v := .ref ca) okX0 (k := 2) (by decide) lkX0_18 hg rfl dX0_moveCells_57 ?_
              refine pw_iload_n dX0_moveCells_60 rfl ?_
              refine pw_aload_n dX0_moveCells_61 rfl ?_
              refine pw_get (v := .int (zI (w))) okX0 (k := 0) (by decide) lkX0_9 hg rfl dX0_moveCells_62 ?_
              refine pw_zimul dX0_moveCells_65 ?_
              refine pw_iload_n dX0_moveCells_66 rfl ?_
              refine pw_ziadd dX0_moveCells_67 ?_
              refine pw_iload dX0_moveCells_68 rfl ?_
              refine pw_copyi cwX0_31 hc hc (by omega) (by omega) (by omega) (by omega) (by omega) ⟨nle rfl, nle rfl⟩ dX0_moveCells_70 ?_
              exact pw_vret dX0_moveCells_73 rfl (nle rfl) (nle rfl) ⟨rfl, by unfold gmoveCells; rw [if_pos (by omega)], rfl⟩
end
section
def YX0_keep : pw_Y := (RX0, "keep", cX0_keep, 4, none)
theorem ywX0_keep : pw_y yX0_keep YX0_keep 2 := ⟨by decide +kernel, by decide +kernel, by decide +kernel, pw_in 414 (by decide +kernel) (by decide +kernel), pw_in 83 (by decide +kernel) (by decide +kernel)⟩
theorem cwX0_22 : Cond.methodLink RX0 22 yX0_fill ∈ pw_G ∧ Cond.instanceMethod yX0_fill ∈ pw_G ∧ Cond.selects RX0 yX0_fill yX0_fill ∈ pw_G := ⟨pw_in 415 (by decide +kernel) (by decide +kernel), pw_in 416 (by decide +kernel) (by decide +kernel), pw_in 417 (by decide +kernel) (by decide +kernel)⟩
theorem lkX1_22 : Cond.fieldLink RX1 22 (TX1 3).1 (TX1 3).2.1 (TX1 3).2.2.1 ∈ pw_G := pw_in 178 (by decide +kernel) (by decide +kernel)
theorem lkX1_25 : Cond.fieldLink RX1 25 (TX1 4).1 (TX1 4).2.1 (TX1 4).2.2.1 ∈ pw_G := pw_in 179 (by decide +kernel) (by decide +kernel)
def YX1_forget : pw_Y := (RX1, "forget", cX1_forget, 1, none)
theorem ywX1_forget : pw_y yX1_forget YX1_forget 0 := ⟨by decide +kernel, by decide +kernel, by decide +kernel, pw_in 767 (by decide +kernel) (by decide +kernel), pw_in 84 (by decide +kernel) (by decide +kernel)⟩
theorem lkX1_11 : Cond.fieldLink RX1 11 (TX1 2).1 (TX1 2).2.1 (TX1 2).2.2.1 ∈ pw_G := pw_in 177 (by decide +kernel) (by decide +kernel)
theorem lkX1_19 : Cond.fieldLink RX1 19 (TX1 1).1 (TX1 1).2.1 (TX1 1).2.2.1 ∈ pw_G := pw_in 176 (by decide +kernel) (by decide +kernel)
theorem lkX1_15 : Cond.fieldLink RX1 15 (TX1 0).1 (TX1 0).2.1 (TX1 0).2.2.1 ∈ pw_G := pw_in 175 (by decide +kernel) (by decide +kernel)
theorem cwX1_28 : Cond.methodLink RX1 28 yX0_give ∈ pw_G ∧ Cond.instanceMethod yX0_give ∈ pw_G ∧ Cond.selects RX0 yX0_give yX0_give ∈ pw_G := ⟨pw_in 969 (by decide +kernel) (by decide +kernel), pw_in 859 (by decide +kernel) (by decide +kernel), pw_in 860 (by decide +kernel) (by decide +kernel)⟩
def YX1_add : pw_Y := (RX1, "add", cX1_add, 5, none)
theorem ywX1_add : pw_y yX1_add YX1_add 3 := ⟨by decide +kernel, by decide +kernel, by decide +kernel, pw_in 968 (by decide +kernel) (by decide +kernel), pw_in 84 (by decide +kernel) (by decide +kernel)⟩
theorem cwX1_34 : Cond.methodLink RX1 34 Lib.Math.min.name ∈ pw_G := pw_in 851 (by decide +kernel) (by decide +kernel)
theorem cwX1_40 : Cond.methodLink RX1 40 arraycopyName ∈ pw_G := pw_in 852 (by decide +kernel) (by decide +kernel)
theorem cwX1_46 : Cond.methodLink RX1 46 yJ7_fill_fda19 ∈ pw_G ∧ Cond.static yJ7_fill_fda19 ∈ pw_G := ⟨pw_in 853 (by decide +kernel) (by decide +kernel), pw_in 420 (by decide +kernel) (by decide +kernel)⟩
def YX1_give : pw_Y := (RX1, "give", cX1_give, 7, none)
theorem ywX1_give : pw_y yX1_give YX1_give 4 := ⟨by decide +kernel, by decide +kernel, by decide +kernel, pw_in 850 (by decide +kernel) (by decide +kernel), pw_in 84 (by decide +kernel) (by decide +kernel)⟩
theorem zI_and {a : Int} {m : Int32} (k : Nat) (hm : m.toBitVec.toNat = 2 ^ k - 1) (h0 : 0 ≤ a) (h1 : a < 2147483648) : zI a &&& m = zI (a % (2 ^ k : Nat)) := by
  obtain ⟨j, rfl⟩ := Int.eq_ofNat_of_zero_le h0
  exact pk_andN (n := j) (by omega) k hm
theorem pw_ziand {E : pw_E} {Y : pw_Y} {R : Room} {K : pw_K} {uc us pc : Nat} {lv : List (Option Value)} {st : List Value} {h : pz_H} {n : Nat} {a b : Int} (k : Nat) (hm : (zI b).toBitVec.toNat = 2 ^ k - 1) (ha : 0 ≤ a ∧ a < 2147483648) (hd : decode Y.2.2.1 pc = .ok (.iand, 1)) (kk : pw E Y R K uc us (pc + 1) lv (.int (zI (a % (2 ^ k : Nat))) :: st) h n) : pw E Y R K uc us pc lv (.int (zI b) :: .int (zI a) :: st) h n :=
  pw_iand hd (by rw [zI_and k hm ha.1 ha.2]; exact kk)
/-- where History has the row number i -/
def hslot (o i : Int) : Int := (o + i) % 30
def hgive (w o z i k at_ M : Int) (len c q : Nat → Int) : Nat → Int := if 0 ≤ i ∧ i < z ∧ 0 ≤ at_ ∧ 0 ≤ k ∧ at_ + k ≤ M then zfill (va_cpy c q ((o + i) % 30 * w).toNat at_.toNat (min k (len ((o + i) % 30).toNat)).toNat) (at_ + min k (len ((o + i) % 30).toNat)) (at_ + k) 32 else q
set_option maxHeartbeats 4000000 in
set_option maxRecDepth 100000 in
theorem lX0_keep {E : pw_E} (htr : E.1.stackTraces = false) {K : pw_K} {n g ca N : Nat} {w H c rows : Int} (hne : g ≠ ca) (hw : 0 ≤ w ∧ w ≤ 40) (hH : 0 ≤ H ∧ H ≤ 16) (hN : (N : Int) = w * H) (hN2 : N ≤ 640) (h_c : -2147483648 ≤ c ∧ c < 2147483648) (h_rows : -2147483648 ≤ rows ∧ rows < 2147483648) : ∀ (j : Nat) (i : Int) (h : pz_H) (f : Nat → Int), (H - i).toNat = j → 0 ≤ i → i ≤ H → h g = pz_o 3 [.int (zI w), .int (zI H), .ref ca] → h ca = pz_z 0 N f → K.2.2.1 none (va_up h ca (pz_z 0 N (gkeepF w H c rows j i f))) n → pw E YX0_keep (rmD 3 0 0) K 0 0 2 [some (.ref g), some (.int (zI (c))), some (.int (zI (rows))), some (.int (zI (i)))] [] h n := by
  intro j
  induction j with
  | zero =>
    intro i h f hj h1 h2 hg hc hQ
    refine pw_iload_n dX0_keep_2 rfl ?_
    refine pw_aload_n dX0_keep_3 rfl ?_
    refine pw_get (v := .int (zI (H))) okX0 (k := 1) (by decide) lkX0_15 hg rfl dX0_keep_4 ?_
    refine pw_icmp_ge (tgt := 37) dX0_keep_7 rfl (by omega) (by omega) (fun c7 => ?_) (fun c7 => ?_)
    ·
      exact pw_vret dX0_keep_37 rfl (nle rfl) (nle rfl) (by rw [show gkeepF w H c rows 0 i f = f from rfl, pz_up_id hc] at hQ; exact hQ)
    · exfalso; omega
  | succ j ih =>
    intro i h f hj h1 h2 hg hc hQ
    refine pw_iload_n dX0_keep_2 rfl ?_
    refine pw_aload_n dX0_keep_3 rfl ?_
    refine pw_get (v := .int (zI (H))) okX0 (k := 1) (by decide) lkX0_15 hg rfl dX0_keep_4 ?_
    refine pw_icmp_ge (tgt := 37) dX0_keep_7 rfl (by omega) (by omega) (fun c7 => ?_) (fun c7 => ?_)
    · exfalso; omega
    ·
      refine pw_aload_n dX0_keep_10 rfl ?_
      refine pw_iload_n dX0_keep_11 rfl ?_
      refine pw_iload_n dX0_keep_12 rfl ?_
      refine pw_iload_n dX0_keep_13 rfl ?_
      refine pw_icmp_ge (tgt := 21) dX0_keep_14 rfl (by omega) (by omega) (fun c14 => ?_) (fun c14 => ?_)
      ·
        refine pw_iconst (v := zI (0)) dX0_keep_21 (by decide) ?_
        refine pw_aload_n dX0_keep_22 rfl ?_
        refine pw_get (v := .int (zI (w))) okX0 (k := 0) (by decide) lkX0_9 hg rfl dX0_keep_23 ?_
        refine pw_bipush (v := zI (32)) dX0_keep_26 (by decide) ?_
        refine pw_callV (As := [.int (zI (i)), .int (zI (0)), .int (zI (w)), .int (zI (32))]) (b := g) (rm := rmD 2 0 0) (mX0_fill htr hg hc hne hw hH hN hN2 (by omega) (by omega) (by omega) (by omega)) rfl hg rfl rfl ywX0_fill rfl cwX0_22 ⟨nle rfl, nle rfl⟩ (nle rfl) ⟨nle rfl, nle rfl⟩ dX0_keep_28 ?_ (fun _ _ _ z => z.elim)
        intro r2 h2 n2 hq _
        rw [hq.1, hq.2.1, hq.2.2]
        show pw E YX0_keep _ _ 0 0 31 [some (.ref g), some (.int (zI (c))), some (.int (zI (rows))), some (.int (zI (i)))] [] (va_up h ca (pz_z 0 N (gfill w H (i) (0) (w) (32) f))) n
        refine pw_ziinc (lv' := [some (.ref g), some (.int (zI (c))), some (.int (zI (rows))), some (.int (zI (i + 1)))]) dX0_keep_31 rfl (by decide) rfl rfl ?_
        refine pw_goto (tgt := 2) dX0_keep_34 rfl ?_
        rw [show gkeepF w H c rows (j + 1) i f = gkeepF w H c rows j (i + 1) (gfill w H i (if i < rows then c else 0) w 32 f) from rfl] at hQ
        first | rw [if_pos (show i < rows by omega)] at hQ | rw [if_neg (show ¬ i < rows by omega)] at hQ
        exact ih (i + 1) _ _ (by omega) (by omega) (by omega) ((va_up_ne _ _ hne).trans hg) (va_up_self _ _ _) (by rw [pz_up_up]; exact hQ)
      ·
        refine pw_iload_n dX0_keep_17 rfl ?_
        refine pw_goto (tgt := 22) dX0_keep_18 rfl ?_
        refine pw_aload_n dX0_keep_22 rfl ?_
        refine pw_get (v := .int (zI (w))) okX0 (k := 0) (by decide) lkX0_9 hg rfl dX0_keep_23 ?_
        refine pw_bipush (v := zI (32)) dX0_keep_26 (by decide) ?_
        refine pw_callV (As := [.int (zI (i)), .int (zI (c)), .int (zI (w)), .int (zI (32))]) (b := g) (rm := rmD 2 0 0) (mX0_fill htr hg hc hne hw hH hN hN2 (by omega) (by omega) (by omega) (by omega)) rfl hg rfl rfl ywX0_fill rfl cwX0_22 ⟨nle rfl, nle rfl⟩ (nle rfl) ⟨nle rfl, nle rfl⟩ dX0_keep_28 ?_ (fun _ _ _ z => z.elim)
        intro r2 h2 n2 hq _
        rw [hq.1, hq.2.1, hq.2.2]
        show pw E YX0_keep _ _ 0 0 31 [some (.ref g), some (.int (zI (c))), some (.int (zI (rows))), some (.int (zI (i)))] [] (va_up h ca (pz_z 0 N (gfill w H (i) (c) (w) (32) f))) n
        refine pw_ziinc (lv' := [some (.ref g), some (.int (zI (c))), some (.int (zI (rows))), some (.int (zI (i + 1)))]) dX0_keep_31 rfl (by decide) rfl rfl ?_
        refine pw_goto (tgt := 2) dX0_keep_34 rfl ?_
        rw [show gkeepF w H c rows (j + 1) i f = gkeepF w H c rows j (i + 1) (gfill w H i (if i < rows then c else 0) w 32 f) from rfl] at hQ
        first | rw [if_pos (show i < rows by omega)] at hQ | rw [if_neg (show ¬ i < rows by omega)] at hQ
        exact ih (i + 1) _ _ (by omega) (by omega) (by omega) ((va_up_ne _ _ hne).trans hg) (va_up_self _ _ _) (by rw [pz_up_up]; exact hQ)
set_option maxHeartbeats 4000000 in
set_option maxRecDepth 100000 in
/-- Grid.keep(c, rows) -/
theorem mX0_keep {E : pw_E} (htr : E.1.stackTraces = false) {h : pz_H} {n : Nat} {g ca N : Nat} {w H : Int} {f : Nat → Int} (hg : h g = pz_o 3 [.int (zI w), .int (zI H), .ref ca]) (hc : h ca = pz_z 0 N f) (hne : g ≠ ca) (hw : 0 ≤ w ∧ w ≤ 40) (hH : 0 ≤ H ∧ H ≤ 16) (hN : (N : Int) = w * H) (hN2 : N ≤ 640) {c rows : Int} (h_c : -2147483648 ≤ c ∧ c < 2147483648) (h_rows : -2147483648 ≤ rows ∧ rows < 2147483648) : pw_M E yX0_keep YX0_keep (rmD 3 0 0) [.ref g, .int (zI c), .int (zI rows)] h n (fun r h' n' => r = none ∧ h' = va_up h ca (pz_z 0 N (gkeep w H c rows f)) ∧ n' = n) (fun _ _ _ => False) := by
  refine pw_M_of (lv := [some (.ref g), some (.int (zI (c))), some (.int (zI (rows))), none]) (by decide) rfl rfl htr (nle rfl) rfl (fun L => ?_)
  refine pw_iconst (v := zI (0)) dX0_keep_0 (by decide) ?_
  refine pw_istore_n (lv' := [some (.ref g), some (.int (zI (c))), some (.int (zI (rows))), some (.int (zI (0)))]) dX0_keep_1 (by decide) rfl rfl ?_
  exact lX0_keep htr hne hw hH hN hN2 h_c h_rows _ _ _ _ rfl (by omega) (by omega) hg hc (by rw [show (H - 0).toNat = H.toNat by omega]; exact ⟨rfl, rfl, rfl⟩)
set_option maxHeartbeats 4000000 in
set_option maxRecDepth 100000 in
/-- History.forget() -/
theorem mX1_forget {E : pw_E} (htr : E.1.stackTraces = false) {h : pz_H} {n : Nat} {hi hc hl NH : Nat} {w o z : Int} {len c : Nat → Int} (hh : h hi = pz_o 4 [.int (zI w), .ref hc, .ref hl, .int (zI o), .int (zI z)]) (hhc : h hc = pz_z 0 NH c) (hhl : h hl = pz_z 0 30 len) (n1 : hi ≠ hc) (n2 : hi ≠ hl) (n3 : hc ≠ hl) (hw : 0 ≤ w ∧ w ≤ 40) (ho : 0 ≤ o ∧ o < 30) (hz : 0 ≤ z ∧ z ≤ 30) (hNH : (NH : Int) = 30 * w) : pw_M E yX1_forget YX1_forget (rmD 0 0 0) [.ref hi] h n (fun r h' n' => r = none ∧ h' = va_up h hi (pz_o 4 [.int (zI w), .ref hc, .ref hl, .int (zI 0), .int (zI 0)]) ∧ n' = n) (fun _ _ _ => False) := by
  refine pw_M_of (lv := [some (.ref hi)]) (by decide) rfl rfl htr (nle rfl) rfl (fun L => ?_)
  refine pw_aload_n dX1_forget_0 rfl ?_
  refine pw_iconst (v := zI (0)) dX1_forget_1 (by decide) ?_
  refine pw_put (fs' := [.int (zI (w)), .ref hc, .ref hl, .int (zI (0)), .int (zI (z))]) okX1 (k := 3) (by decide) lkX1_22 rfl rfl rfl hh (nlt rfl) rfl dX1_forget_2 ?_
  refine pw_aload_n dX1_forget_5 rfl ?_
  refine pw_iconst (v := zI (0)) dX1_forget_6 (by decide) ?_
  refine pw_put (fs' := [.int (zI (w)), .ref hc, .ref hl, .int (zI (0)), .int (zI (0))]) okX1 (k := 4) (by decide) lkX1_25 rfl rfl rfl (va_up_self _ _ _) (nlt rfl) rfl dX1_forget_7 ?_
  exact pw_vret dX1_forget_10 rfl (nle rfl) (nle rfl) ⟨rfl, pz_up_up, rfl⟩
set_option maxHeartbeats 4000000 in
set_option maxRecDepth 100000 in
/-- History.add(grid, row, k) -/
theorem mX1_add {E : pw_E} (htr : E.1.stackTraces = false) {h : pz_H} {n : Nat} {hi hc hl NH : Nat} {w o z : Int} {len c : Nat → Int} (hh : h hi = pz_o 4 [.int (zI w), .ref hc, .ref hl, .int (zI o), .int (zI z)]) (hhc : h hc = pz_z 0 NH c) (hhl : h hl = pz_z 0 30 len) (n1 : hi ≠ hc) (n2 : hi ≠ hl) (n3 : hc ≠ hl) (hw : 0 ≤ w ∧ w ≤ 40) (ho : 0 ≤ o ∧ o < 30) (hz : 0 ≤ z ∧ z ≤ 30) (hNH : (NH : Int) = 30 * w) {g ca N : Nat} {H row k : Int} {f : Nat → Int} (hg : h g = pz_o 3 [.int (zI w), .int (zI H), .ref ca]) (hca : h ca = pz_z 0 N f) (hne : g ≠ ca) (hH : 0 ≤ H ∧ H ≤ 16) (hN : (N : Int) = w * H) (hN2 : N ≤ 640) (h_row : -2147483648 ≤ row ∧ row < 2147483648) (h_k : -2147483648 ≤ k ∧ k < 2147483648) (n4 : g ≠ hi) (n5 : g ≠ hl) (n6 : ca ≠ hi) (n7 : ca ≠ hl) (n8 : g ≠ hc) (n9 : ca ≠ hc) : pw_M E yX1_add YX1_add (rmD 2 0 0) [.ref hi, .ref g, .int (zI row), .int (zI k)] h n (fun r h' n' => r = none ∧ h' = va_up (va_up (va_up h hi (pz_o 4 [.int (zI w), .ref hc, .ref hl, .int (zI (if z < 30 then o else (o + 1) % 30)), .int (zI (if z < 30 then z + 1 else z))])) hl (pz_z 0 30 (va_up len ((o + z) % 30).toNat k))) hc (pz_z 0 NH (ggive w H row k ((o + z) % 30 * w) NH f c)) ∧ n' = n) (fun _ _ _ => False) := by
  refine pw_M_of (lv := [some (.ref hi), some (.ref g), some (.int (zI (row))), some (.int (zI (k))), none]) (by decide) rfl rfl htr (nle rfl) rfl (fun L => ?_)
  refine pw_aload_n dX1_add_0 rfl ?_
  refine pw_get (v := .int (zI (o))) okX1 (k := 3) (by decide) lkX1_22 hh rfl dX1_add_1 ?_
  refine pw_aload_n dX1_add_4 rfl ?_
  refine pw_get (v := .int (zI (z))) okX1 (k := 4) (by decide) lkX1_25 hh rfl dX1_add_5 ?_
  refine pw_ziadd dX1_add_8 ?_
  refine pw_bipush (v := zI (30)) dX1_add_9 (by decide) ?_
  refine pw_zirem dX1_add_11 (by omega) (by omega) ?_
  refine pw_istore (lv' := [some (.ref hi), some (.ref g), some (.int (zI (row))), some (.int (zI (k))), some (.int (zI ((o + z) % (30))))]) dX1_add_12 (by decide) rfl rfl ?_
  refine pw_aload_n dX1_add_14 rfl ?_
  refine pw_get (v := .int (zI (z))) okX1 (k := 4) (by decide) lkX1_25 hh rfl dX1_add_15 ?_
  refine pw_bipush (v := zI (30)) dX1_add_18 (by decide) ?_
  refine pw_icmp_ge (tgt := 36) dX1_add_20 rfl (by omega) (by omega) (fun c20 => ?_) (fun c20 => ?_)
  ·
    refine pw_aload_n dX1_add_36 rfl ?_
    refine pw_aload_n dX1_add_37 rfl ?_
    refine pw_get (v := .int (zI (o))) okX1 (k := 3) (by decide) lkX1_22 hh rfl dX1_add_38 ?_
    refine pw_iconst (v := zI (1)) dX1_add_41 (by decide) ?_
    refine pw_ziadd dX1_add_42 ?_
    refine pw_bipush (v := zI (30)) dX1_add_43 (by decide) ?_
    refine pw_zirem dX1_add_45 (by omega) (by omega) ?_
    refine pw_put (fs' := [.int (zI (w)), .ref hc, .ref hl, .int (zI ((o + 1) % (30))), .int (zI (z))]) okX1 (k := 3) (by decide) lkX1_22 rfl rfl rfl hh (nlt rfl) rfl dX1_add_46 ?_
    have hzz := zrow (row := (o + z) % 30) (w := w) (H := 30) (by omega) (by omega) hw.1
    refine pw_aload_n dX1_add_49 rfl ?_
    refine pw_get (v := .ref hl) okX1 (k := 2) (by decide) lkX1_11 (va_up_self _ _ _) rfl dX1_add_50 ?_
    refine pw_iload dX1_add_53 rfl ?_
    refine pw_iload_n dX1_add_55 rfl ?_
    refine pw_iast (t := 0) rfl ((va_up_ne _ _ n2.symm).trans hhl) (by omega) (by omega) dX1_add_56 ?_
    refine pw_aload_n dX1_add_57 rfl ?_
    refine pw_iload_n dX1_add_58 rfl ?_
    refine pw_iload_n dX1_add_59 rfl ?_
    refine pw_aload_n dX1_add_60 rfl ?_
    refine pw_get (v := .ref hc) okX1 (k := 1) (by decide) lkX1_19 ((va_up_ne _ _ n2).trans (va_up_self _ _ _)) rfl dX1_add_61 ?_
    refine pw_iload dX1_add_64 rfl ?_
    refine pw_aload_n dX1_add_66 rfl ?_
    refine pw_get (v := .int (zI (w))) okX1 (k := 0) (by decide) lkX1_15 ((va_up_ne _ _ n2).trans (va_up_self _ _ _)) rfl dX1_add_67 ?_
    refine pw_zimul dX1_add_70 ?_
    refine pw_callV (As := [.int (zI (row)), .int (zI (k)), .ref hc, .int (zI (((o + z) % (30)) * (w)))]) (b := g) (rm := rmD 1 0 0) (mX0_give htr ((va_up_ne _ _ n5).trans ((va_up_ne _ _ n4).trans hg)) ((va_up_ne _ _ n7).trans ((va_up_ne _ _ n6).trans hca)) hne hw hH hN hN2 (by omega) (by omega) (by omega) ((va_up_ne _ _ n3).trans ((va_up_ne _ _ n1.symm).trans hhc)) (by omega) (by omega)) rfl ((va_up_ne _ _ n5).trans ((va_up_ne _ _ n4).trans hg)) rfl rfl ywX0_give rfl cwX1_28 ⟨nle rfl, nle rfl⟩ (nle rfl) ⟨nle rfl, nle rfl⟩ dX1_add_71 ?_ (fun _ _ _ z => z.elim)
    intro r2 h2 n2 hq _
    rw [hq.1, hq.2.1, hq.2.2]
    show pw E YX1_add _ _ 0 0 74 [some (.ref hi), some (.ref g), some (.int (zI (row))), some (.int (zI (k))), some (.int (zI ((o + z) % (30))))] [] (va_up (va_up (va_up h hi (pz_o 4 [.int (zI (w)), .ref hc, .ref hl, .int (zI ((o + 1) % (30))), .int (zI (z))])) hl (pz_z 0 30 (va_up len ((o + z) % (30)).toNat (k)))) hc (pz_z 0 NH (ggive w H row k ((o + z) % 30 * w) NH f c))) n
    exact pw_vret dX1_add_74 rfl (nle rfl) (nle rfl) ⟨rfl, by first | rw [if_pos (show z < 30 by omega), if_pos (show z < 30 by omega)] | rw [if_neg (show ¬ z < 30 by omega), if_neg (show ¬ z < 30 by omega)], rfl⟩
  ·
    refine pw_aload_n dX1_add_23 rfl ?_
    refine pw_dup dX1_add_24 rfl ?_
    refine pw_get (v := .int (zI (z))) okX1 (k := 4) (by decide) lkX1_25 hh rfl dX1_add_25 ?_
    refine pw_iconst (v := zI (1)) dX1_add_28 (by decide) ?_
    refine pw_ziadd dX1_add_29 ?_
    refine pw_put (fs' := [.int (zI (w)), .ref hc, .ref hl, .int (zI (o)), .int (zI (z + 1))]) okX1 (k := 4) (by decide) lkX1_25 rfl rfl rfl hh (nlt rfl) rfl dX1_add_30 ?_
    refine pw_goto (tgt := 49) dX1_add_33 rfl ?_
    have hzz := zrow (row := (o + z) % 30) (w := w) (H := 30) (by omega) (by omega) hw.1
    refine pw_aload_n dX1_add_49 rfl ?_
    refine pw_get (v := .ref hl) okX1 (k := 2) (by decide) lkX1_11 (va_up_self _ _ _) rfl dX1_add_50 ?_
    refine pw_iload dX1_add_53 rfl ?_
    refine pw_iload_n dX1_add_55 rfl ?_
    refine pw_iast (t := 0) rfl ((va_up_ne _ _ n2.symm).trans hhl) (by omega) (by omega) dX1_add_56 ?_
    refine pw_aload_n dX1_add_57 rfl ?_
    refine pw_iload_n dX1_add_58 rfl ?_
    refine pw_iload_n dX1_add_59 rfl ?_
    refine pw_aload_n dX1_add_60 rfl ?_
    refine pw_get (v := .ref hc) okX1 (k := 1) (by decide) lkX1_19 ((va_up_ne _ _ n2).trans (va_up_self _ _ _)) rfl dX1_add_61 ?_
    refine pw_iload dX1_add_64 rfl ?_
    refine pw_aload_n dX1_add_66 rfl ?_
    refine pw_get (v := .int (zI (w))) okX1 (k := 0) (by decide) lkX1_15 ((va_up_ne _ _ n2).trans (va_up_self _ _ _)) rfl dX1_add_67 ?_
    refine pw_zimul dX1_add_70 ?_
    refine pw_callV (As := [.int (zI (row)), .int (zI (k)), .ref hc, .int (zI (((o + z) % (30)) * (w)))]) (b := g) (rm := rmD 1 0 0) (mX0_give htr ((va_up_ne _ _ n5).trans ((va_up_ne _ _ n4).trans hg)) ((va_up_ne _ _ n7).trans ((va_up_ne _ _ n6).trans hca)) hne hw hH hN hN2 (by omega) (by omega) (by omega) ((va_up_ne _ _ n3).trans ((va_up_ne _ _ n1.symm).trans hhc)) (by omega) (by omega)) rfl ((va_up_ne _ _ n5).trans ((va_up_ne _ _ n4).trans hg)) rfl rfl ywX0_give rfl cwX1_28 ⟨nle rfl, nle rfl⟩ (nle rfl) ⟨nle rfl, nle rfl⟩ dX1_add_71 ?_ (fun _ _ _ z => z.elim)
    intro r2 h2 n2 hq _
    rw [hq.1, hq.2.1, hq.2.2]
    show pw E YX1_add _ _ 0 0 74 [some (.ref hi), some (.ref g), some (.int (zI (row))), some (.int (zI (k))), some (.int (zI ((o + z) % (30))))] [] (va_up (va_up (va_up h hi (pz_o 4 [.int (zI (w)), .ref hc, .ref hl, .int (zI (o)), .int (zI (z + 1))])) hl (pz_z 0 30 (va_up len ((o + z) % (30)).toNat (k)))) hc (pz_z 0 NH (ggive w H row k ((o + z) % 30 * w) NH f c))) n
    exact pw_vret dX1_add_74 rfl (nle rfl) (nle rfl) ⟨rfl, by first | rw [if_pos (show z < 30 by omega), if_pos (show z < 30 by omega)] | rw [if_neg (show ¬ z < 30 by omega), if_neg (show ¬ z < 30 by omega)], rfl⟩
set_option maxHeartbeats 4000000 in
set_option maxRecDepth 100000 in
/-- History.give(i, k, target, at) -/
theorem mX1_give {E : pw_E} (htr : E.1.stackTraces = false) {h : pz_H} {n : Nat} {hi hc hl NH : Nat} {w o z : Int} {len c : Nat → Int} (hh : h hi = pz_o 4 [.int (zI w), .ref hc, .ref hl, .int (zI o), .int (zI z)]) (hhc : h hc = pz_z 0 NH c) (hhl : h hl = pz_z 0 30 len) (n1 : hi ≠ hc) (n2 : hi ≠ hl) (n3 : hc ≠ hl) (hw : 0 ≤ w ∧ w ≤ 40) (ho : 0 ≤ o ∧ o < 30) (hz : 0 ≤ z ∧ z ≤ 30) (hNH : (NH : Int) = 30 * w) {i k at_ : Int} (h_i : -2147483648 ≤ i ∧ i < 2147483648) (h_k : -2147483648 ≤ k ∧ k ≤ 100000) (h_at_ : -2147483648 ≤ at_ ∧ at_ ≤ 100000) {ta M : Nat} {q : Nat → Int} (ht : h ta = pz_z 0 M q) (hM : M ≤ 100000) (hlen : ∀ j : Nat, 0 ≤ len j ∧ len j ≤ w) (ta1 : hi ≠ ta) (ta2 : hc ≠ ta) (ta3 : hl ≠ ta) : pw_M E yX1_give YX1_give (rmD 2 0 0) [.ref hi, .int (zI i), .int (zI k), .ref ta, .int (zI at_)] h n (fun r h' n' => r = none ∧ h' = va_up h ta (pz_z 0 M (hgive w o z i k at_ M len c q)) ∧ n' = n) (fun _ _ _ => False) := by
  refine pw_M_of (lv := [some (.ref hi), some (.int (zI (i))), some (.int (zI (k))), some (.ref ta), some (.int (zI (at_))), none, none]) (by decide) rfl rfl htr (nle rfl) rfl (fun L => ?_)
  refine pw_iload_n dX1_give_0 rfl ?_
  refine pw_if_lt (tgt := 30) dX1_give_1 rfl (by omega) (fun c1 => ?_) (fun c1 => ?_)
  ·
    exact pw_vret dX1_give_30 rfl (nle rfl) (nle rfl) ⟨rfl, by unfold hgive; rw [if_neg (by omega), pz_up_id ht], rfl⟩
  ·
    refine pw_iload_n dX1_give_4 rfl ?_
    refine pw_aload_n dX1_give_5 rfl ?_
    refine pw_get (v := .int (zI (z))) okX1 (k := 4) (by decide) lkX1_25 hh rfl dX1_give_6 ?_
    refine pw_icmp_ge (tgt := 30) dX1_give_9 rfl (by omega) (by omega) (fun c9 => ?_) (fun c9 => ?_)
    ·
      exact pw_vret dX1_give_30 rfl (nle rfl) (nle rfl) ⟨rfl, by unfold hgive; rw [if_neg (by omega), pz_up_id ht], rfl⟩
    ·
      refine pw_iload dX1_give_12 rfl ?_
      refine pw_if_lt (tgt := 30) dX1_give_14 rfl (by omega) (fun c14 => ?_) (fun c14 => ?_)
      ·
        exact pw_vret dX1_give_30 rfl (nle rfl) (nle rfl) ⟨rfl, by unfold hgive; rw [if_neg (by omega), pz_up_id ht], rfl⟩
      ·
        refine pw_iload_n dX1_give_17 rfl ?_
        refine pw_if_lt (tgt := 30) dX1_give_18 rfl (by omega) (fun c18 => ?_) (fun c18 => ?_)
        ·
          exact pw_vret dX1_give_30 rfl (nle rfl) (nle rfl) ⟨rfl, by unfold hgive; rw [if_neg (by omega), pz_up_id ht], rfl⟩
        ·
          refine pw_iload dX1_give_21 rfl ?_
          refine pw_iload_n dX1_give_23 rfl ?_
          refine pw_ziadd dX1_give_24 ?_
          refine pw_aload_n dX1_give_25 rfl ?_
          refine pw_alenI (t := 0) rfl ht dX1_give_26 ?_
          refine pw_icmp_le (tgt := 31) dX1_give_27 rfl (by omega) (by omega) (fun c27 => ?_) (fun c27 => ?_)
          ·
            refine pw_aload_n dX1_give_31 rfl ?_
            refine pw_get (v := .int (zI (o))) okX1 (k := 3) (by decide) lkX1_22 hh rfl dX1_give_32 ?_
            refine pw_iload_n dX1_give_35 rfl ?_
            refine pw_ziadd dX1_give_36 ?_
            refine pw_bipush (v := zI (30)) dX1_give_37 (by decide) ?_
            refine pw_zirem dX1_give_39 (by omega) (by omega) ?_
            refine pw_istore (lv' := [some (.ref hi), some (.int (zI (i))), some (.int (zI (k))), some (.ref ta), some (.int (zI (at_))), some (.int (zI ((o + i) % (30)))), none]) dX1_give_40 (by decide) rfl rfl ?_
            have hzz := zrow (row := (o + i) % 30) (w := w) (H := 30) (by omega) (by omega) hw.1
            have hll := hlen ((o + i) % 30).toNat
            refine pw_iload_n dX1_give_42 rfl ?_
            refine pw_aload_n dX1_give_43 rfl ?_
            refine pw_get (v := .ref hl) okX1 (k := 2) (by decide) lkX1_11 hh rfl dX1_give_44 ?_
            refine pw_iload dX1_give_47 rfl ?_
            refine pw_iald (t := 0) rfl hhl (by omega) (by omega) dX1_give_49 ?_
            refine pw_min cwX1_34 dX1_give_50 (by omega) (by omega) ⟨nle rfl, nle rfl⟩ ⟨nle rfl, nle rfl⟩ ?_
            refine pw_istore (lv' := [some (.ref hi), some (.int (zI (i))), some (.int (zI (k))), some (.ref ta), some (.int (zI (at_))), some (.int (zI ((o + i) % (30)))), some (.int (zI (min (k) (len ((o + i) % (30)).toNat))))]) dX1_give_53 (by decide) rfl rfl ?_
            refine pw_aload_n dX1_give_55 rfl ?_
            refine pw_get (v := .ref hc) okX1 (k := 1) (by decide) lkX1_19 hh rfl dX1_give_56 ?_
            refine pw_iload dX1_give_59 rfl ?_
            refine pw_aload_n dX1_give_61 rfl ?_
            refine pw_get (v := .int (zI (w))) okX1 (k := 0) (by decide) lkX1_15 hh rfl dX1_give_62 ?_
            refine pw_zimul dX1_give_65 ?_
            refine pw_aload_n dX1_give_66 rfl ?_
            refine pw_iload dX1_give_67 rfl ?_
            refine pw_iload dX1_give_69 rfl ?_
            refine pw_copyi cwX1_40 hhc ht (by omega) (by omega) (by omega) (by omega) (by omega) ⟨nle rfl, nle rfl⟩ dX1_give_71 ?_
            refine pw_aload_n dX1_give_74 rfl ?_
            refine pw_iload dX1_give_75 rfl ?_
            refine pw_iload dX1_give_77 rfl ?_
            refine pw_ziadd dX1_give_79 ?_
            refine pw_iload dX1_give_80 rfl ?_
            refine pw_iload_n dX1_give_82 rfl ?_
            refine pw_ziadd dX1_give_83 ?_
            refine pw_bipush (v := zI (32)) dX1_give_84 (by decide) ?_
            refine pw_callS (As := [.ref ta, .int (zI ((at_) + (min (k) (len ((o + i) % (30)).toNat)))), .int (zI (at_ + k)), .int (zI (32))]) (rm := rmD 1 0 0) (mJ7_fill4 htr (va_up_self _ _ _) (by omega) (by omega) (by omega)) rfl ywJ7_fill_fda19 rfl cwX1_46 ⟨nle rfl, nle rfl⟩ (nle rfl) ⟨nle rfl, nle rfl⟩ dX1_give_86 ?_ (fun _ _ _ z => z.elim)
            intro r2 h2 n2 hq _
            rw [hq.1, hq.2.1, hq.2.2]
            show pw E YX1_give _ _ 0 0 89 [some (.ref hi), some (.int (zI (i))), some (.int (zI (k))), some (.ref ta), some (.int (zI (at_))), some (.int (zI ((o + i) % (30)))), some (.int (zI (min (k) (len ((o + i) % (30)).toNat))))] [] (va_up (va_up h ta (pz_z 0 M (va_cpy c q (((o + i) % (30)) * (w)).toNat (at_).toNat (min (k) (len ((o + i) % (30)).toNat)).toNat))) ta (pz_z 0 M (zfill (va_cpy c q ((o + i) % 30 * w).toNat at_.toNat (min k (len ((o + i) % 30).toNat)).toNat) (at_ + min k (len ((o + i) % 30).toNat)) (at_ + k) 32))) n
            exact pw_vret dX1_give_89 rfl (nle rfl) (nle rfl) ⟨rfl, by unfold hgive; rw [if_pos (by omega), pz_up_up], rfl⟩
          ·
            exact pw_vret dX1_give_30 rfl (nle rfl) (nle rfl) ⟨rfl, by unfold hgive; rw [if_neg (by omega), pz_up_id ht], rfl⟩
end
section
/-! ===== a Screen's cells: I 0 itself, I 1 its main cells, I 2 the other ones, I 3 its History, I 4 that one's cells, I 5 lengths, I 6, I 7 its Grids ===== -/
def scObj (I : Nat → Nat) (F : Nat → Int) : List Value := [.ref (I 6), .ref (I 7), .ref (I 3), .int (zI (F 3)), .int (zI (F 4)), .int (zI (F 5)), .int (zI (F 6)), .int (zI (F 7)), .int (zI (F 8)), .int (zI (F 9)), .int (zI (F 10)), .int (zI (F 11)), .int (zI (F 12)), .int (zI (F 13)), .int (zI (F 14)), .int (zI (F 15)), .int (zI (F 16)), .int (zI (F 17))]
def hiObj (w : Int) (I : Nat → Nat) (T : Nat → Int) : List Value := [.int (zI w), .ref (I 4), .ref (I 5), .int (zI (T 3)), .int (zI (T 4))]
def scAt (w H : Int) (N NH : Nat) (I : Nat → Nat) (F m o T c l : Nat → Int) (h : pz_H) : Prop :=
  (h (I 0) = pz_o 10 (scObj I F) ∧ h (I 1) = pz_z 0 N m ∧ h (I 2) = pz_z 0 N o ∧ h (I 3) = pz_o 4 (hiObj w I T) ∧ h (I 4) = pz_z 0 NH c ∧ h (I 5) = pz_z 0 30 l ∧ h (I 6) = pz_o 3 [.int (zI w), .int (zI H), .ref (I 1)] ∧ h (I 7) = pz_o 3 [.int (zI w), .int (zI H), .ref (I 2)]) ∧ ∀ i j, i < 8 → j < 8 → I i = I j → i = j
def scPut (w H : Int) (N NH : Nat) (I : Nat → Nat) (F m o T c l : Nat → Int) (h : pz_H) : pz_H := fun j =>
  if j = I 0 then pz_o 10 (scObj I F) else if j = I 1 then pz_z 0 N m else if j = I 2 then pz_z 0 N o else if j = I 3 then pz_o 4 (hiObj w I T) else if j = I 4 then pz_z 0 NH c else if j = I 5 then pz_z 0 30 l else h j
section SC
variable {w H : Int} {N NH : Nat} {I : Nat → Nat} {F m o T c l F' m' o' T' c' l' F0 m0 o0 T0 c0 l0 : Nat → Int} {h : pz_H}
theorem scNe (hA : scAt w H N NH I F m o T c l h) {i j : Nat} (hi : i < 8) (hj : j < 8) (hn : i ≠ j) : I i ≠ I j := fun e => hn (hA.2 i j hi hj e)
theorem scPut_other {j : Nat} (hj : ∀ i, i < 6 → j ≠ I i) : scPut w H N NH I F m o T c l h j = h j := by
  unfold scPut
  rw [if_neg (hj 0 (by decide)), if_neg (hj 1 (by decide)), if_neg (hj 2 (by decide)), if_neg (hj 3 (by decide)), if_neg (hj 4 (by decide)), if_neg (hj 5 (by decide))]
theorem scAt_put (hA : scAt w H N NH I F m o T c l h) : scAt w H N NH I F' m' o' T' c' l' (scPut w H N NH I F' m' o' T' c' l' h) := by
  refine ⟨⟨?_, ?_, ?_, ?_, ?_, ?_, ?_, ?_⟩, hA.2⟩
  · unfold scPut; rw [if_pos rfl]
  · unfold scPut; rw [if_neg (scNe hA (by decide) (by decide) (by decide)), if_pos rfl]
  · unfold scPut; rw [if_neg (scNe hA (by decide) (by decide) (by decide)), if_neg (scNe hA (by decide) (by decide) (by decide)), if_pos rfl]
  · unfold scPut; rw [if_neg (scNe hA (by decide) (by decide) (by decide)), if_neg (scNe hA (by decide) (by decide) (by decide)), if_neg (scNe hA (by decide) (by decide) (by decide)), if_pos rfl]
  · unfold scPut; rw [if_neg (scNe hA (by decide) (by decide) (by decide)), if_neg (scNe hA (by decide) (by decide) (by decide)), if_neg (scNe hA (by decide) (by decide) (by decide)), if_neg (scNe hA (by decide) (by decide) (by decide)), if_pos rfl]
  · unfold scPut; rw [if_neg (scNe hA (by decide) (by decide) (by decide)), if_neg (scNe hA (by decide) (by decide) (by decide)), if_neg (scNe hA (by decide) (by decide) (by decide)), if_neg (scNe hA (by decide) (by decide) (by decide)), if_neg (scNe hA (by decide) (by decide) (by decide)), if_pos rfl]
  · rw [scPut_other (fun i hi => scNe hA (by decide) (by omega) (by omega))]; exact hA.1.2.2.2.2.2.2.1
  · rw [scPut_other (fun i hi => scNe hA (by decide) (by omega) (by omega))]; exact hA.1.2.2.2.2.2.2.2
theorem scPut_id (hA : scAt w H N NH I F m o T c l h) : scPut w H N NH I F m o T c l h = h := by
  funext j
  unfold scPut
  split
  · next e => rw [e]; exact hA.1.1.symm
  split
  · next e => rw [e]; exact hA.1.2.1.symm
  split
  · next e => rw [e]; exact hA.1.2.2.1.symm
  split
  · next e => rw [e]; exact hA.1.2.2.2.1.symm
  split
  · next e => rw [e]; exact hA.1.2.2.2.2.1.symm
  split
  · next e => rw [e]; exact hA.1.2.2.2.2.2.1.symm
  rfl
theorem scPut_put : scPut w H N NH I F' m' o' T' c' l' (scPut w H N NH I F m o T c l h) = scPut w H N NH I F' m' o' T' c' l' h := by
  funext j
  by_cases e : ∀ i, i < 6 → j ≠ I i
  · rw [scPut_other e, scPut_other e, scPut_other e]
  · unfold scPut
    by_cases e0 : j = I 0
    · simp only [if_pos e0]
    by_cases e1 : j = I 1
    · simp only [if_neg e0, if_pos e1]
    by_cases e2 : j = I 2
    · simp only [if_neg e0, if_neg e1, if_pos e2]
    by_cases e3 : j = I 3
    · simp only [if_neg e0, if_neg e1, if_neg e2, if_pos e3]
    by_cases e4 : j = I 4
    · simp only [if_neg e0, if_neg e1, if_neg e2, if_neg e3, if_pos e4]
    by_cases e5 : j = I 5
    · simp only [if_neg e0, if_neg e1, if_neg e2, if_neg e3, if_neg e4, if_pos e5]
    exact absurd (fun i hi => by
      match i, hi with
      | 0, _ => exact e0
      | 1, _ => exact e1
      | 2, _ => exact e2
      | 3, _ => exact e3
      | 4, _ => exact e4
      | 5, _ => exact e5) e
/-- one cell changed is the whole put anew -/
theorem scUp {a : Nat} {x : pz_C} (hA' : scAt w H N NH I F' m' o' T' c' l' (va_up (scPut w H N NH I F m o T c l h) a x)) (ha : ∃ i, i < 6 ∧ a = I i) : va_up (scPut w H N NH I F m o T c l h) a x = scPut w H N NH I F' m' o' T' c' l' h := by
  rw [← scPut_id hA']
  funext j
  by_cases e : ∀ i, i < 6 → j ≠ I i
  · rw [scPut_other e, scPut_other e]
    obtain ⟨i, hi, rfl⟩ := ha
    rw [va_up_ne _ _ (e i hi), scPut_other e]
  · unfold scPut
    by_cases e0 : j = I 0
    · rw [if_pos e0, if_pos e0]
    by_cases e1 : j = I 1
    · rw [if_neg e0, if_neg e0, if_pos e1, if_pos e1]
    by_cases e2 : j = I 2
    · rw [if_neg e0, if_neg e0, if_neg e1, if_neg e1, if_pos e2, if_pos e2]
    by_cases e3 : j = I 3
    · rw [if_neg e0, if_neg e0, if_neg e1, if_neg e1, if_neg e2, if_neg e2, if_pos e3, if_pos e3]
    by_cases e4 : j = I 4
    · rw [if_neg e0, if_neg e0, if_neg e1, if_neg e1, if_neg e2, if_neg e2, if_neg e3, if_neg e3, if_pos e4, if_pos e4]
    by_cases e5 : j = I 5
    · rw [if_neg e0, if_neg e0, if_neg e1, if_neg e1, if_neg e2, if_neg e2, if_neg e3, if_neg e3, if_neg e4, if_neg e4, if_pos e5, if_pos e5]
    exact absurd (fun i hi => by
      match i, hi with
      | 0, _ => exact e0
      | 1, _ => exact e1
      | 2, _ => exact e2
      | 3, _ => exact e3
      | 4, _ => exact e4
      | 5, _ => exact e5) e
theorem scAt_up (hA : scAt w H N NH I F m o T c l h) {i : Nat} (hi : i < 6) {x : pz_C}
    (h0 : i = 0 → x = pz_o 10 (scObj I F')) (h1 : i = 1 → x = pz_z 0 N m') (h2 : i = 2 → x = pz_z 0 N o') (h3 : i = 3 → x = pz_o 4 (hiObj w I T')) (h4 : i = 4 → x = pz_z 0 NH c') (h5 : i = 5 → x = pz_z 0 30 l')
    (g0 : i ≠ 0 → F' = F) (g1 : i ≠ 1 → m' = m) (g2 : i ≠ 2 → o' = o) (g3 : i ≠ 3 → T' = T) (g4 : i ≠ 4 → c' = c) (g5 : i ≠ 5 → l' = l) : scAt w H N NH I F' m' o' T' c' l' (va_up h (I i) x) := by
  have key : ∀ k, k < 8 → k ≠ i → va_up h (I i) x (I k) = h (I k) := fun k hk hn => va_up_ne _ _ (scNe hA hk (by omega) hn)
  refine ⟨⟨?_, ?_, ?_, ?_, ?_, ?_, ?_, ?_⟩, hA.2⟩
  · by_cases e : i = 0
    · rw [← e, va_up_self]; rw [h0 e]
    · rw [key 0 (by decide) (Ne.symm e), g0 e]; exact hA.1.1
  · by_cases e : i = 1
    · rw [← e, va_up_self]; rw [h1 e]
    · rw [key 1 (by decide) (Ne.symm e), g1 e]; exact hA.1.2.1
  · by_cases e : i = 2
    · rw [← e, va_up_self]; rw [h2 e]
    · rw [key 2 (by decide) (Ne.symm e), g2 e]; exact hA.1.2.2.1
  · by_cases e : i = 3
    · rw [← e, va_up_self]; rw [h3 e]
    · rw [key 3 (by decide) (Ne.symm e), g3 e]; exact hA.1.2.2.2.1
  · by_cases e : i = 4
    · rw [← e, va_up_self]; rw [h4 e]
    · rw [key 4 (by decide) (Ne.symm e), g4 e]; exact hA.1.2.2.2.2.1
  · by_cases e : i = 5
    · rw [← e, va_up_self]; rw [h5 e]
    · rw [key 5 (by decide) (Ne.symm e), g5 e]; exact hA.1.2.2.2.2.2.1
  · rw [key 6 (by decide) (by omega)]; exact hA.1.2.2.2.2.2.2.1
  · rw [key 7 (by decide) (by omega)]; exact hA.1.2.2.2.2.2.2.2
theorem scU0 (hA : scAt w H N NH I F0 m0 o0 T0 c0 l0 h) : va_up (scPut w H N NH I F m o T c l h) (I 0) (pz_o 10 (scObj I F')) = scPut w H N NH I F' m o T c l h :=
  scUp (scAt_up (i := 0) (scAt_put hA) (by decide) (fun _ => rfl) (fun e => by cases e) (fun e => by cases e) (fun e => by cases e) (fun e => by cases e) (fun e => by cases e) (fun e => absurd rfl e) (fun _ => rfl) (fun _ => rfl) (fun _ => rfl) (fun _ => rfl) (fun _ => rfl)) ⟨0, by decide, rfl⟩
theorem scU1 (hA : scAt w H N NH I F0 m0 o0 T0 c0 l0 h) : va_up (scPut w H N NH I F m o T c l h) (I 1) (pz_z 0 N m') = scPut w H N NH I F m' o T c l h :=
  scUp (scAt_up (i := 1) (scAt_put hA) (by decide) (fun e => by cases e) (fun _ => rfl) (fun e => by cases e) (fun e => by cases e) (fun e => by cases e) (fun e => by cases e) (fun _ => rfl) (fun e => absurd rfl e) (fun _ => rfl) (fun _ => rfl) (fun _ => rfl) (fun _ => rfl)) ⟨1, by decide, rfl⟩
theorem scU2 (hA : scAt w H N NH I F0 m0 o0 T0 c0 l0 h) : va_up (scPut w H N NH I F m o T c l h) (I 2) (pz_z 0 N o') = scPut w H N NH I F m o' T c l h :=
  scUp (scAt_up (i := 2) (scAt_put hA) (by decide) (fun e => by cases e) (fun e => by cases e) (fun _ => rfl) (fun e => by cases e) (fun e => by cases e) (fun e => by cases e) (fun _ => rfl) (fun _ => rfl) (fun e => absurd rfl e) (fun _ => rfl) (fun _ => rfl) (fun _ => rfl)) ⟨2, by decide, rfl⟩
theorem scU3 (hA : scAt w H N NH I F0 m0 o0 T0 c0 l0 h) : va_up (scPut w H N NH I F m o T c l h) (I 3) (pz_o 4 (hiObj w I T')) = scPut w H N NH I F m o T' c l h :=
  scUp (scAt_up (i := 3) (scAt_put hA) (by decide) (fun e => by cases e) (fun e => by cases e) (fun e => by cases e) (fun _ => rfl) (fun e => by cases e) (fun e => by cases e) (fun _ => rfl) (fun _ => rfl) (fun _ => rfl) (fun e => absurd rfl e) (fun _ => rfl) (fun _ => rfl)) ⟨3, by decide, rfl⟩
theorem scU4 (hA : scAt w H N NH I F0 m0 o0 T0 c0 l0 h) : va_up (scPut w H N NH I F m o T c l h) (I 4) (pz_z 0 NH c') = scPut w H N NH I F m o T c' l h :=
  scUp (scAt_up (i := 4) (scAt_put hA) (by decide) (fun e => by cases e) (fun e => by cases e) (fun e => by cases e) (fun e => by cases e) (fun _ => rfl) (fun e => by cases e) (fun _ => rfl) (fun _ => rfl) (fun _ => rfl) (fun _ => rfl) (fun e => absurd rfl e) (fun _ => rfl)) ⟨4, by decide, rfl⟩
theorem scU5 (hA : scAt w H N NH I F0 m0 o0 T0 c0 l0 h) : va_up (scPut w H N NH I F m o T c l h) (I 5) (pz_z 0 30 l') = scPut w H N NH I F m o T c l' h :=
  scUp (scAt_up (i := 5) (scAt_put hA) (by decide) (fun e => by cases e) (fun e => by cases e) (fun e => by cases e) (fun e => by cases e) (fun e => by cases e) (fun _ => rfl) (fun _ => rfl) (fun _ => rfl) (fun _ => rfl) (fun _ => rfl) (fun _ => rfl) (fun e => absurd rfl e)) ⟨5, by decide, rfl⟩
/-- which cells are shown: 1 or 2 -/
def sq (F : Nat → Int) : Nat := if F 17 = 0 then 1 else 2
def shG (F m o : Nat → Int) : Nat → Int := if F 17 = 0 then m else o
def shM (F m x : Nat → Int) : Nat → Int := if F 17 = 0 then x else m
def shO (F o x : Nat → Int) : Nat → Int := if F 17 = 0 then o else x
theorem shM_G : shM F m (shG F m o) = m := by unfold shM shG; split <;> rfl
theorem shO_G : shO F o (shG F m o) = o := by unfold shO shG; split <;> rfl
theorem sq_lt : sq F < 3 := by unfold sq; split <;> decide
/-- the Grid that is shown, its cells -/
theorem scSg (hA : scAt w H N NH I F0 m0 o0 T0 c0 l0 h) : h (I (sq F + 5)) = pz_o 3 [.int (zI w), .int (zI H), .ref (I (sq F))] := by
  unfold sq
  split
  · exact hA.1.2.2.2.2.2.2.1
  · exact hA.1.2.2.2.2.2.2.2
theorem scSx {x : Nat → Int} (hA : scAt w H N NH I F0 m0 o0 T0 c0 l0 h) : scPut w H N NH I F' (shM F m x) (shO F o x) T c l h (I (sq F)) = pz_z 0 N x := by
  have h2 := scAt_put (F' := F') (m' := shM F m x) (o' := shO F o x) (T' := T) (c' := c) (l' := l) hA
  unfold sq
  split
  · next e => rw [h2.1.2.1]; unfold shM; rw [if_pos e]
  · next e => rw [h2.1.2.2.1]; unfold shO; rw [if_neg e]
theorem scSne (hA : scAt w H N NH I F0 m0 o0 T0 c0 l0 h) : I (sq F + 5) ≠ I (sq F) := scNe hA (by have := @sq_lt F; omega) (by have := @sq_lt F; omega) (by omega)
theorem scUS {x y : Nat → Int} (hA : scAt w H N NH I F0 m0 o0 T0 c0 l0 h) : va_up (scPut w H N NH I F' (shM F m x) (shO F o x) T c l h) (I (sq F)) (pz_z 0 N y) = scPut w H N NH I F' (shM F m y) (shO F o y) T c l h := by
  unfold sq shM shO
  split
  · exact scU1 hA
  · exact scU2 hA
theorem scPut_idS (hA : scAt w H N NH I F m o T c l h) : scPut w H N NH I F (shM F m (shG F m o)) (shO F o (shG F m o)) T c l h = h := by
  rw [shM_G, shO_G]; exact scPut_id hA
end SC
theorem pw_h {E : pw_E} {Y : pw_Y} {R : Room} {K : pw_K} {uc us pc : Nat} {lv : List (Option Value)} {st : List Value} {h h' : pz_H} {n : Nat} (e : h = h') (k : pw E Y R K uc us pc lv st h' n) : pw E Y R K uc us pc lv st h n := by rw [e]; exact k
/-- sizes -/
def geo (w H : Int) (N NH : Nat) : Prop := (8 ≤ w ∧ w ≤ 40) ∧ (4 ≤ H ∧ H ≤ 16) ∧ (N : Int) = w * H ∧ N ≤ 640 ∧ (NH : Int) = 30 * w
/-- what holds of a Screen's numbers -/
def scOk (w H : Int) (F T : Nat → Int) : Prop := (1 ≤ F 3 ∧ F 3 ≤ w) ∧ (1 ≤ F 4 ∧ F 4 ≤ H) ∧ (0 ≤ F 5 ∧ F 5 < F 3) ∧ (0 ≤ F 6 ∧ F 6 < F 4) ∧ (0 ≤ F 7 ∧ F 7 ≤ 1) ∧ (0 ≤ F 8 ∧ F 8 < 4096) ∧ (0 ≤ F 9 ∧ F 9 < F 3) ∧ (0 ≤ F 10 ∧ F 10 < F 4) ∧ (0 ≤ F 11 ∧ F 11 < 4096) ∧ (0 ≤ F 12 ∧ F 12 ≤ F 13 ∧ F 13 < F 4) ∧ (0 ≤ F 14 ∧ F 14 ≤ 1) ∧ (0 ≤ F 15 ∧ F 15 ≤ 1) ∧ (0 ≤ F 16 ∧ F 16 ≤ 1) ∧ (0 ≤ F 17 ∧ F 17 ≤ 1) ∧ (0 ≤ T 3 ∧ T 3 < 30) ∧ (0 ≤ T 4 ∧ T 4 ≤ 30)
/-- what Screen's methods do to its numbers -/
def sMove (F : Nat → Int) (a b : Int) : Nat → Int := va_up (va_up (va_up F 5 (max 0 (min (F 3 - 1) a))) 6 (max 0 (min (F 4 - 1) b))) 7 0
def sSave (F : Nat → Int) : Nat → Int := va_up (va_up (va_up F 9 (F 5)) 10 (F 6)) 11 (F 8)
theorem scU354 {w H : Int} {N NH : Nat} {I : Nat → Nat} {F m o T c l T' c' l' F0 m0 o0 T0 c0 l0 : Nat → Int} {h : pz_H} (hA : scAt w H N NH I F0 m0 o0 T0 c0 l0 h) : va_up (va_up (va_up (scPut w H N NH I F m o T c l h) (I 3) (pz_o 4 (hiObj w I T'))) (I 5) (pz_z 0 30 l')) (I 4) (pz_z 0 NH c') = scPut w H N NH I F m o T' c' l' h := by
  rw [scU3 hA, scU5 hA, scU4 hA]
/-- rows of the REGION go up, down -/
def sRaise (w H bot cols k v : Int) : Nat → Int → (Nat → Int) → Nat → Int
  | 0, _, f => f
  | j + 1, r, f => sRaise w H bot cols k v j (r + 1) (if r + k ≤ bot then gmoveRow w H (r + k) r f else gfill w H r 0 cols v f)
def sLower (w H a cols k v : Int) : Nat → Int → (Nat → Int) → Nat → Int
  | 0, _, f => f
  | j + 1, r, f => sLower w H a cols k v j (r + (-1)) (if a ≤ r - k then gmoveRow w H (r - k) r f else gfill w H r 0 cols v f)
/-- a row goes to the HISTORY -/
def hT (T : Nat → Int) : Nat → Int := va_up (va_up T 3 (if T 4 < 30 then T 3 else (T 3 + 1) % 30)) 4 (if T 4 < 30 then T 4 + 1 else T 4)
def hL (T l : Nat → Int) (k : Int) : Nat → Int := va_up l ((T 3 + T 4) % 30).toNat k
def hC (w H : Int) (NH : Nat) (T c : Nat → Int) (row k : Int) (f : Nat → Int) : Nat → Int := ggive w H row k ((T 3 + T 4) % 30 * w) NH f c
def sHist (w H : Int) (NH : Nat) (k : Int) (f : Nat → Int) : Nat → Int → ((Nat → Int) × (Nat → Int) × (Nat → Int)) → (Nat → Int) × (Nat → Int) × (Nat → Int)
  | 0, _, p => p
  | j + 1, i, p => sHist w H NH k f j (i + 1) (hT p.1, hC w H NH p.1 p.2.1 i k f, hL p.1 p.2.2 k)
def hOk (T : Nat → Int) : Prop := (0 ≤ T 3 ∧ T 3 < 30) ∧ (0 ≤ T 4 ∧ T 4 ≤ 30)
theorem hT_ok {T : Nat → Int} (hh : hOk T) : hOk (hT T) := by
  obtain ⟨h3, h4⟩ := hh
  unfold hOk hT
  simp only [va_up]
  simp
  by_cases e : T 4 < 30
  · simp only [if_pos e]; omega
  · simp only [if_neg e]; omega
theorem sHist_ok {w H k : Int} {NH : Nat} {f : Nat → Int} : ∀ (j : Nat) (i : Int) (p : (Nat → Int) × (Nat → Int) × (Nat → Int)), hOk p.1 → hOk (sHist w H NH k f j i p).1
  | 0, _, _, hh => hh
  | j + 1, i, p, hh => sHist_ok j (i + 1) _ (hT_ok hh)
end
section
def YX7_shown : pw_Y := (RX7, "shown", cX7_shown, 1, (some (.object "PaneHouse$Grid")))
theorem ywX7_shown : pw_y yX7_shown YX7_shown 0 := ⟨by decide +kernel, by decide +kernel, by decide +kernel, pw_in 857 (by decide +kernel) (by decide +kernel), pw_in 82 (by decide +kernel) (by decide +kernel)⟩
theorem lkX7_32 : Cond.fieldLink RX7 32 (TX7 17).1 (TX7 17).2.1 (TX7 17).2.2.1 ∈ pw_G := pw_in 226 (by decide +kernel) (by decide +kernel)
theorem lkX7_14 : Cond.fieldLink RX7 14 (TX7 0).1 (TX7 0).2.1 (TX7 0).2.2.1 ∈ pw_G := pw_in 193 (by decide +kernel) (by decide +kernel)
theorem lkX7_20 : Cond.fieldLink RX7 20 (TX7 1).1 (TX7 1).2.1 (TX7 1).2.2.1 ∈ pw_G := pw_in 194 (by decide +kernel) (by decide +kernel)
def YX7_blank : pw_Y := (RX7, "blank", cX7_blank, 1, (some .int))
theorem ywX7_blank : pw_y yX7_blank YX7_blank 0 := ⟨by decide +kernel, by decide +kernel, by decide +kernel, pw_in 982 (by decide +kernel) (by decide +kernel), pw_in 82 (by decide +kernel) (by decide +kernel)⟩
theorem lkX7_52 : Cond.fieldLink RX7 52 (TX7 8).1 (TX7 8).2.1 (TX7 8).2.2.1 ∈ pw_G := pw_in 211 (by decide +kernel) (by decide +kernel)
def YX7_moveTo : pw_Y := (RX7, "moveTo", cX7_moveTo, 3, none)
theorem ywX7_moveTo : pw_y yX7_moveTo YX7_moveTo 2 := ⟨by decide +kernel, by decide +kernel, by decide +kernel, pw_in 754 (by decide +kernel) (by decide +kernel), pw_in 82 (by decide +kernel) (by decide +kernel)⟩
theorem lkX7_76 : Cond.fieldLink RX7 76 (TX7 3).1 (TX7 3).2.1 (TX7 3).2.2.1 ∈ pw_G := pw_in 198 (by decide +kernel) (by decide +kernel)
theorem cwX7_85 : Cond.methodLinkNest RX7 85 yX9_nearest "PaneHouse" ∈ pw_N ∧ Cond.static yX9_nearest ∈ pw_G := ⟨by decide +kernel, pw_in 118 (by decide +kernel) (by decide +kernel)⟩
theorem lkX7_42 : Cond.fieldLink RX7 42 (TX7 5).1 (TX7 5).2.1 (TX7 5).2.2.1 ∈ pw_G := pw_in 203 (by decide +kernel) (by decide +kernel)
theorem lkX7_61 : Cond.fieldLink RX7 61 (TX7 4).1 (TX7 4).2.1 (TX7 4).2.2.1 ∈ pw_G := pw_in 201 (by decide +kernel) (by decide +kernel)
theorem lkX7_46 : Cond.fieldLink RX7 46 (TX7 6).1 (TX7 6).2.1 (TX7 6).2.2.1 ∈ pw_G := pw_in 206 (by decide +kernel) (by decide +kernel)
theorem lkX7_49 : Cond.fieldLink RX7 49 (TX7 7).1 (TX7 7).2.1 (TX7 7).2.2.1 ∈ pw_G := pw_in 209 (by decide +kernel) (by decide +kernel)
def YX7_goToTab : pw_Y := (RX7, "goToTab", cX7_goToTab, 1, none)
theorem ywX7_goToTab : pw_y yX7_goToTab YX7_goToTab 0 := ⟨by decide +kernel, by decide +kernel, by decide +kernel, pw_in 955 (by decide +kernel) (by decide +kernel), pw_in 82 (by decide +kernel) (by decide +kernel)⟩
theorem cwX7_79 : Cond.methodLink RX7 79 yX7_moveTo ∈ pw_G ∧ Cond.instanceMethod yX7_moveTo ∈ pw_G ∧ Cond.selects RX7 yX7_moveTo yX7_moveTo ∈ pw_G := ⟨pw_in 751 (by decide +kernel) (by decide +kernel), pw_in 752 (by decide +kernel) (by decide +kernel), pw_in 753 (by decide +kernel) (by decide +kernel)⟩
def YX7_savePlace : pw_Y := (RX7, "savePlace", cX7_savePlace, 1, none)
theorem ywX7_savePlace : pw_y yX7_savePlace YX7_savePlace 0 := ⟨by decide +kernel, by decide +kernel, by decide +kernel, pw_in 771 (by decide +kernel) (by decide +kernel), pw_in 82 (by decide +kernel) (by decide +kernel)⟩
theorem lkX7_82 : Cond.fieldLink RX7 82 (TX7 9).1 (TX7 9).2.1 (TX7 9).2.2.1 ∈ pw_G := pw_in 214 (by decide +kernel) (by decide +kernel)
theorem lkX7_89 : Cond.fieldLink RX7 89 (TX7 10).1 (TX7 10).2.1 (TX7 10).2.2.1 ∈ pw_G := pw_in 215 (by decide +kernel) (by decide +kernel)
theorem lkX7_113 : Cond.fieldLink RX7 113 (TX7 11).1 (TX7 11).2.1 (TX7 11).2.2.1 ∈ pw_G := pw_in 216 (by decide +kernel) (by decide +kernel)
def YX7_takePlace : pw_Y := (RX7, "takePlace", cX7_takePlace, 1, none)
theorem ywX7_takePlace : pw_y yX7_takePlace YX7_takePlace 0 := ⟨by decide +kernel, by decide +kernel, by decide +kernel, pw_in 1078 (by decide +kernel) (by decide +kernel), pw_in 82 (by decide +kernel) (by decide +kernel)⟩
def YX7_eraseCells : pw_Y := (RX7, "eraseCells", cX7_eraseCells, 2, none)
theorem ywX7_eraseCells : pw_y yX7_eraseCells YX7_eraseCells 1 := ⟨by decide +kernel, by decide +kernel, by decide +kernel, pw_in 1043 (by decide +kernel) (by decide +kernel), pw_in 82 (by decide +kernel) (by decide +kernel)⟩
theorem cwX7_95 : Cond.methodLink RX7 95 yX7_shown ∈ pw_G ∧ Cond.instanceMethod yX7_shown ∈ pw_G ∧ Cond.selects RX7 yX7_shown yX7_shown ∈ pw_G := ⟨pw_in 974 (by decide +kernel) (by decide +kernel), pw_in 855 (by decide +kernel) (by decide +kernel), pw_in 856 (by decide +kernel) (by decide +kernel)⟩
theorem cwX7_116 : Cond.methodLink RX7 116 Lib.Math.min.name ∈ pw_G := pw_in 964 (by decide +kernel) (by decide +kernel)
theorem cwX7_135 : Cond.methodLink RX7 135 yX7_blank ∈ pw_G ∧ Cond.instanceMethod yX7_blank ∈ pw_G ∧ Cond.selects RX7 yX7_blank yX7_blank ∈ pw_G := ⟨pw_in 979 (by decide +kernel) (by decide +kernel), pw_in 981 (by decide +kernel) (by decide +kernel), pw_in 13 (by decide +kernel) (by decide +kernel)⟩
theorem cwX7_139 : Cond.methodLink RX7 139 yX0_fill ∈ pw_G ∧ Cond.instanceMethod yX0_fill ∈ pw_G ∧ Cond.selects RX0 yX0_fill yX0_fill ∈ pw_G := ⟨pw_in 983 (by decide +kernel) (by decide +kernel), pw_in 416 (by decide +kernel) (by decide +kernel), pw_in 417 (by decide +kernel) (by decide +kernel)⟩
def YX7_insertCells : pw_Y := (RX7, "insertCells", cX7_insertCells, 3, none)
theorem ywX7_insertCells : pw_y yX7_insertCells YX7_insertCells 1 := ⟨by decide +kernel, by decide +kernel, by decide +kernel, pw_in 1030 (by decide +kernel) (by decide +kernel), pw_in 82 (by decide +kernel) (by decide +kernel)⟩
theorem cwX7_99 : Cond.methodLink RX7 99 yX0_moveCells ∈ pw_G ∧ Cond.instanceMethod yX0_moveCells ∈ pw_G ∧ Cond.selects RX0 yX0_moveCells yX0_moveCells ∈ pw_G := ⟨pw_in 1031 (by decide +kernel) (by decide +kernel), pw_in 1032 (by decide +kernel) (by decide +kernel), pw_in 1033 (by decide +kernel) (by decide +kernel)⟩
theorem scOk_7 {w H : Int} {F T : Nat → Int} (hO : scOk w H F T) : scOk w H (va_up F 7 0) T := by
  unfold scOk at *
  simp only [va_up]
  simp
  omega
theorem sMove_ok {w H : Int} {F T : Nat → Int} {a b : Int} (hO : scOk w H F T) : scOk w H (sMove F a b) T := by
  unfold scOk at *
  unfold sMove
  simp only [va_up]
  simp
  omega
set_option maxHeartbeats 4000000 in
set_option maxRecDepth 100000 in
/-- Screen.shown() -/
theorem mX7_shown {E : pw_E} (htr : E.1.stackTraces = false) {h : pz_H} {n : Nat} {w H : Int} {N NH : Nat} {I : Nat → Nat} {F m o T c l : Nat → Int} (hG : geo w H N NH) (hA : scAt w H N NH I F m o T c l h) (hO : scOk w H F T) : pw_M E yX7_shown YX7_shown (rmD 0 0 0) [.ref (I 0)] h n (fun r h' n' => r = some (.ref (I (sq F + 5))) ∧ h' = h ∧ n' = n) (fun _ _ _ => False) := by
  have hG0 := hG
  have hO0 := hO
  obtain ⟨gw, gH, gN, gN2, gNH⟩ := hG
  obtain ⟨o3, o4, o5, o6, o7, o8, o9, o10, o11, o12, o14, o15, o16, o17, oT3, oT4⟩ := hO
  refine pw_M_of (lv := [some (.ref (I 0))]) (by decide) rfl rfl htr (nle rfl) rfl (fun L => ?_)
  refine pw_h (scPut_id hA).symm ?_
  refine pw_aload_n dX7_shown_0 rfl ?_
  refine pw_get (v := .int (zI (F 17))) okX7 (k := 17) (by decide) lkX7_32 (scAt_put hA).1.1 rfl dX7_shown_1 ?_
  refine pw_if_eq (tgt := 14) dX7_shown_4 rfl (by omega) (fun c4 => ?_) (fun c4 => ?_)
  ·
    refine pw_aload_n dX7_shown_14 rfl ?_
    refine pw_get (v := .ref (I 6)) okX7 (k := 0) (by decide) lkX7_14 (scAt_put hA).1.1 rfl dX7_shown_15 ?_
    exact pw_aret dX7_shown_18 rfl (Or.inl ⟨_, rfl⟩) (nle rfl) (nle rfl) ⟨by unfold sq; first | rw [if_pos (by omega)] | rw [if_neg (by omega)], scPut_id hA, rfl⟩
  ·
    refine pw_aload_n dX7_shown_7 rfl ?_
    refine pw_get (v := .ref (I 7)) okX7 (k := 1) (by decide) lkX7_20 (scAt_put hA).1.1 rfl dX7_shown_8 ?_
    refine pw_goto (tgt := 18) dX7_shown_11 rfl ?_
    exact pw_aret dX7_shown_18 rfl (Or.inl ⟨_, rfl⟩) (nle rfl) (nle rfl) ⟨by unfold sq; first | rw [if_pos (by omega)] | rw [if_neg (by omega)], scPut_id hA, rfl⟩
set_option maxHeartbeats 4000000 in
set_option maxRecDepth 100000 in
/-- Screen.blank() -/
theorem mX7_blank {E : pw_E} (htr : E.1.stackTraces = false) {h : pz_H} {n : Nat} {w H : Int} {N NH : Nat} {I : Nat → Nat} {F m o T c l : Nat → Int} (hG : geo w H N NH) (hA : scAt w H N NH I F m o T c l h) (hO : scOk w H F T) : pw_M E yX7_blank YX7_blank (rmD 0 0 0) [.ref (I 0)] h n (fun r h' n' => r = some (.int (zI (F 8 * 128 + 32))) ∧ h' = h ∧ n' = n) (fun _ _ _ => False) := by
  have hG0 := hG
  have hO0 := hO
  obtain ⟨gw, gH, gN, gN2, gNH⟩ := hG
  obtain ⟨o3, o4, o5, o6, o7, o8, o9, o10, o11, o12, o14, o15, o16, o17, oT3, oT4⟩ := hO
  refine pw_M_of (lv := [some (.ref (I 0))]) (by decide) rfl rfl htr (nle rfl) rfl (fun L => ?_)
  refine pw_h (scPut_id hA).symm ?_
  refine pw_aload_n dX7_blank_0 rfl ?_
  refine pw_get (v := .int (zI (F 8))) okX7 (k := 8) (by decide) lkX7_52 (scAt_put hA).1.1 rfl dX7_blank_1 ?_
  refine pw_sipush (v := zI (128)) dX7_blank_4 (by decide) ?_
  refine pw_zimul dX7_blank_7 ?_
  refine pw_bipush (v := zI (32)) dX7_blank_8 (by decide) ?_
  refine pw_ziadd dX7_blank_10 ?_
  exact pw_iret dX7_blank_11 rfl (nle rfl) (nle rfl) ⟨rfl, scPut_id hA, rfl⟩
set_option maxHeartbeats 4000000 in
set_option maxRecDepth 100000 in
/-- Screen.moveTo(a, b) -/
theorem mX7_moveTo {E : pw_E} (htr : E.1.stackTraces = false) {h : pz_H} {n : Nat} {w H : Int} {N NH : Nat} {I : Nat → Nat} {F m o T c l : Nat → Int} (hG : geo w H N NH) (hA : scAt w H N NH I F m o T c l h) (hO : scOk w H F T) {a b : Int} (h_a : -2147483648 ≤ a ∧ a < 2147483648) (h_b : -2147483648 ≤ b ∧ b < 2147483648) : pw_M E yX7_moveTo YX7_moveTo (rmD 2 0 0) [.ref (I 0), .int (zI (a)), .int (zI (b))] h n (fun r h' n' => r = none ∧ h' = scPut w H N NH I (sMove F a b) m o T c l h ∧ n' = n) (fun _ _ _ => False) := by
  have hG0 := hG
  have hO0 := hO
  obtain ⟨gw, gH, gN, gN2, gNH⟩ := hG
  obtain ⟨o3, o4, o5, o6, o7, o8, o9, o10, o11, o12, o14, o15, o16, o17, oT3, oT4⟩ := hO
  refine pw_M_of (lv := [some (.ref (I 0)), some (.int (zI (a))), some (.int (zI (b)))]) (by decide) rfl rfl htr (nle rfl) rfl (fun L => ?_)
  refine pw_h (scPut_id hA).symm ?_
  refine pw_aload_n dX7_moveTo_0 rfl ?_
  refine pw_iload_n dX7_moveTo_1 rfl ?_
  refine pw_iconst (v := zI (0)) dX7_moveTo_2 (by decide) ?_
  refine pw_aload_n dX7_moveTo_3 rfl ?_
  refine pw_get (v := .int (zI (F 3))) okX7 (k := 3) (by decide) lkX7_76 (scAt_put hA).1.1 rfl dX7_moveTo_4 ?_
  refine pw_iconst (v := zI (1)) dX7_moveTo_7 (by decide) ?_
  refine pw_zisub dX7_moveTo_8 ?_
  refine pw_callSN (As := [.int (zI (a)), .int (zI (0)), .int (zI ((F 3) - (1)))]) (rm := rmD 1 0 0) (mX9_nearest htr (by omega) (by omega) (by omega)) rfl ywX9_nearest rfl cwX7_85 ⟨nle rfl, nle rfl⟩ (nle rfl) ⟨nle rfl, nle rfl⟩ dX7_moveTo_9 ?_
  intro r2 h2 n2 hq _
  rw [hq.1, hq.2.1, hq.2.2]
  show pw E YX7_moveTo _ _ 0 0 12 [some (.ref (I 0)), some (.int (zI (a))), some (.int (zI (b)))] [.int (zI (max (0) (min ((F 3) - (1)) (a)))), .ref (I 0)] (scPut w H N NH I F m o T c l h) n
  refine pw_put (fs' := (scObj I (va_up F 5 (max (0) (min ((F 3) - (1)) (a)))))) okX7 (k := 5) (by decide) lkX7_42 rfl rfl rfl (scAt_put hA).1.1 (nlt rfl) rfl dX7_moveTo_12 ?_
  refine pw_h (scU0 hA) ?_
  refine pw_aload_n dX7_moveTo_15 rfl ?_
  refine pw_iload_n dX7_moveTo_16 rfl ?_
  refine pw_iconst (v := zI (0)) dX7_moveTo_17 (by decide) ?_
  refine pw_aload_n dX7_moveTo_18 rfl ?_
  refine pw_get (v := .int (zI (F 4))) okX7 (k := 4) (by decide) lkX7_61 (scAt_put hA).1.1 rfl dX7_moveTo_19 ?_
  refine pw_iconst (v := zI (1)) dX7_moveTo_22 (by decide) ?_
  refine pw_zisub dX7_moveTo_23 ?_
  refine pw_callSN (As := [.int (zI (b)), .int (zI (0)), .int (zI ((F 4) - (1)))]) (rm := rmD 1 0 0) (mX9_nearest htr (by omega) (by omega) (by omega)) rfl ywX9_nearest rfl cwX7_85 ⟨nle rfl, nle rfl⟩ (nle rfl) ⟨nle rfl, nle rfl⟩ dX7_moveTo_24 ?_
  intro r2 h2 n2 hq _
  rw [hq.1, hq.2.1, hq.2.2]
  show pw E YX7_moveTo _ _ 0 0 27 [some (.ref (I 0)), some (.int (zI (a))), some (.int (zI (b)))] [.int (zI (max (0) (min ((F 4) - (1)) (b)))), .ref (I 0)] (scPut w H N NH I (va_up F 5 (max (0) (min ((F 3) - (1)) (a)))) m o T c l h) n
  refine pw_put (fs' := (scObj I (va_up (va_up F 5 (max (0) (min ((F 3) - (1)) (a)))) 6 (max (0) (min ((F 4) - (1)) (b)))))) okX7 (k := 6) (by decide) lkX7_46 rfl rfl rfl (scAt_put hA).1.1 (nlt rfl) rfl dX7_moveTo_27 ?_
  refine pw_h (scU0 hA) ?_
  refine pw_aload_n dX7_moveTo_30 rfl ?_
  refine pw_iconst (v := zI (0)) dX7_moveTo_31 (by decide) ?_
  refine pw_put (fs' := (scObj I (va_up (va_up (va_up F 5 (max (0) (min ((F 3) - (1)) (a)))) 6 (max (0) (min ((F 4) - (1)) (b)))) 7 (0)))) okX7 (k := 7) (by decide) lkX7_49 rfl (by decide) (by decide) (scAt_put hA).1.1 (nlt rfl) rfl dX7_moveTo_32 ?_
  refine pw_h (scU0 hA) ?_
  exact pw_vret dX7_moveTo_35 rfl (nle rfl) (nle rfl) ⟨rfl, rfl, rfl⟩
set_option maxHeartbeats 4000000 in
set_option maxRecDepth 100000 in
/-- Screen.goToTab() -/
theorem mX7_goToTab {E : pw_E} (htr : E.1.stackTraces = false) {h : pz_H} {n : Nat} {w H : Int} {N NH : Nat} {I : Nat → Nat} {F m o T c l : Nat → Int} (hG : geo w H N NH) (hA : scAt w H N NH I F m o T c l h) (hO : scOk w H F T) : pw_M E yX7_goToTab YX7_goToTab (rmD 3 0 0) [.ref (I 0)] h n (fun r h' n' => r = none ∧ h' = scPut w H N NH I (sMove F ((F 5 / 8 + 1) * 8) (F 6)) m o T c l h ∧ n' = n) (fun _ _ _ => False) := by
  have hG0 := hG
  have hO0 := hO
  obtain ⟨gw, gH, gN, gN2, gNH⟩ := hG
  obtain ⟨o3, o4, o5, o6, o7, o8, o9, o10, o11, o12, o14, o15, o16, o17, oT3, oT4⟩ := hO
  refine pw_M_of (lv := [some (.ref (I 0))]) (by decide) rfl rfl htr (nle rfl) rfl (fun L => ?_)
  refine pw_h (scPut_id hA).symm ?_
  refine pw_aload_n dX7_goToTab_0 rfl ?_
  refine pw_aload_n dX7_goToTab_1 rfl ?_
  refine pw_get (v := .int (zI (F 5))) okX7 (k := 5) (by decide) lkX7_42 (scAt_put hA).1.1 rfl dX7_goToTab_2 ?_
  refine pw_bipush (v := zI (8)) dX7_goToTab_5 (by decide) ?_
  refine pw_zidiv dX7_goToTab_7 (by omega) (by omega) ?_
  refine pw_iconst (v := zI (1)) dX7_goToTab_8 (by decide) ?_
  refine pw_ziadd dX7_goToTab_9 ?_
  refine pw_bipush (v := zI (8)) dX7_goToTab_10 (by decide) ?_
  refine pw_zimul dX7_goToTab_12 ?_
  refine pw_aload_n dX7_goToTab_13 rfl ?_
  refine pw_get (v := .int (zI (F 6))) okX7 (k := 6) (by decide) lkX7_46 (scAt_put hA).1.1 rfl dX7_goToTab_14 ?_
  refine pw_callV (As := [.int (zI ((((F 5) / (8)) + (1)) * (8))), .int (zI (F 6))]) (b := (I 0)) (rm := rmD 2 0 0) (mX7_moveTo htr hG0 (scAt_put hA) (hO0) (by omega) (by omega)) rfl (scAt_put hA).1.1 rfl rfl ywX7_moveTo rfl cwX7_79 ⟨nle rfl, nle rfl⟩ (nle rfl) ⟨nle rfl, nle rfl⟩ dX7_goToTab_17 ?_ (fun _ _ _ z => z.elim)
  intro r2 h2 n2 hq _
  rw [hq.1, hq.2.1, hq.2.2]
  show pw E YX7_goToTab _ _ 0 0 20 [some (.ref (I 0))] [] (scPut w H N NH I (sMove F ((((F 5) / (8)) + (1)) * (8)) (F 6)) m o T c l (scPut w H N NH I F m o T c l h)) n
  refine pw_h scPut_put ?_
  exact pw_vret dX7_goToTab_20 rfl (nle rfl) (nle rfl) ⟨rfl, rfl, rfl⟩
set_option maxHeartbeats 4000000 in
set_option maxRecDepth 100000 in
/-- Screen.savePlace() -/
theorem mX7_savePlace {E : pw_E} (htr : E.1.stackTraces = false) {h : pz_H} {n : Nat} {w H : Int} {N NH : Nat} {I : Nat → Nat} {F m o T c l : Nat → Int} (hG : geo w H N NH) (hA : scAt w H N NH I F m o T c l h) (hO : scOk w H F T) : pw_M E yX7_savePlace YX7_savePlace (rmD 0 0 0) [.ref (I 0)] h n (fun r h' n' => r = none ∧ h' = scPut w H N NH I (sSave F) m o T c l h ∧ n' = n) (fun _ _ _ => False) := by
  have hG0 := hG
  have hO0 := hO
  obtain ⟨gw, gH, gN, gN2, gNH⟩ := hG
  obtain ⟨o3, o4, o5, o6, o7, o8, o9, o10, o11, o12, o14, o15, o16, o17, oT3, oT4⟩ := hO
  refine pw_M_of (lv := [some (.ref (I 0))]) (by decide) rfl rfl htr (nle rfl) rfl (fun L => ?_)
  refine pw_h (scPut_id hA).symm ?_
  refine pw_aload_n dX7_savePlace_0 rfl ?_
  refine pw_aload_n dX7_savePlace_1 rfl ?_
  refine pw_get (v := .int (zI (F 5))) okX7 (k := 5) (by decide) lkX7_42 (scAt_put hA).1.1 rfl dX7_savePlace_2 ?_
  refine pw_put (fs' := (scObj I (va_up F 9 (F 5)))) okX7 (k := 9) (by decide) lkX7_82 rfl rfl rfl (scAt_put hA).1.1 (nlt rfl) rfl dX7_savePlace_5 ?_
  refine pw_h (scU0 hA) ?_
  refine pw_aload_n dX7_savePlace_8 rfl ?_
  refine pw_aload_n dX7_savePlace_9 rfl ?_
  refine pw_get (v := .int (zI (F 6))) okX7 (k := 6) (by decide) lkX7_46 (scAt_put hA).1.1 rfl dX7_savePlace_10 ?_
  refine pw_put (fs' := (scObj I (va_up (va_up F 9 (F 5)) 10 (F 6)))) okX7 (k := 10) (by decide) lkX7_89 rfl rfl rfl (scAt_put hA).1.1 (nlt rfl) rfl dX7_savePlace_13 ?_
  refine pw_h (scU0 hA) ?_
  refine pw_aload_n dX7_savePlace_16 rfl ?_
  refine pw_aload_n dX7_savePlace_17 rfl ?_
  refine pw_get (v := .int (zI (F 8))) okX7 (k := 8) (by decide) lkX7_52 (scAt_put hA).1.1 rfl dX7_savePlace_18 ?_
  refine pw_put (fs' := (scObj I (va_up (va_up (va_up F 9 (F 5)) 10 (F 6)) 11 (F 8)))) okX7 (k := 11) (by decide) lkX7_113 rfl rfl rfl (scAt_put hA).1.1 (nlt rfl) rfl dX7_savePlace_21 ?_
  refine pw_h (scU0 hA) ?_
  exact pw_vret dX7_savePlace_24 rfl (nle rfl) (nle rfl) ⟨rfl, rfl, rfl⟩
set_option maxHeartbeats 4000000 in
set_option maxRecDepth 100000 in
/-- Screen.takePlace() -/
theorem mX7_takePlace {E : pw_E} (htr : E.1.stackTraces = false) {h : pz_H} {n : Nat} {w H : Int} {N NH : Nat} {I : Nat → Nat} {F m o T c l : Nat → Int} (hG : geo w H N NH) (hA : scAt w H N NH I F m o T c l h) (hO : scOk w H F T) : pw_M E yX7_takePlace YX7_takePlace (rmD 3 0 0) [.ref (I 0)] h n (fun r h' n' => r = none ∧ h' = scPut w H N NH I (va_up (sMove F (F 9) (F 10)) 8 (F 11)) m o T c l h ∧ n' = n) (fun _ _ _ => False) := by
  have hG0 := hG
  have hO0 := hO
  obtain ⟨gw, gH, gN, gN2, gNH⟩ := hG
  obtain ⟨o3, o4, o5, o6, o7, o8, o9, o10, o11, o12, o14, o15, o16, o17, oT3, oT4⟩ := hO
  refine pw_M_of (lv := [some (.ref (I 0))]) (by decide) rfl rfl htr (nle rfl) rfl (fun L => ?_)
  refine pw_h (scPut_id hA).symm ?_
  refine pw_aload_n dX7_takePlace_0 rfl ?_
  refine pw_aload_n dX7_takePlace_1 rfl ?_
  refine pw_get (v := .int (zI (F 9))) okX7 (k := 9) (by decide) lkX7_82 (scAt_put hA).1.1 rfl dX7_takePlace_2 ?_
  refine pw_aload_n dX7_takePlace_5 rfl ?_
  refine pw_get (v := .int (zI (F 10))) okX7 (k := 10) (by decide) lkX7_89 (scAt_put hA).1.1 rfl dX7_takePlace_6 ?_
  refine pw_callV (As := [.int (zI (F 9)), .int (zI (F 10))]) (b := (I 0)) (rm := rmD 2 0 0) (mX7_moveTo htr hG0 (scAt_put hA) hO0 (by omega) (by omega)) rfl (scAt_put hA).1.1 rfl rfl ywX7_moveTo rfl cwX7_79 ⟨nle rfl, nle rfl⟩ (nle rfl) ⟨nle rfl, nle rfl⟩ dX7_takePlace_9 ?_ (fun _ _ _ z => z.elim)
  intro r2 h2 n2 hq _
  rw [hq.1, hq.2.1, hq.2.2]
  show pw E YX7_takePlace _ _ 0 0 12 [some (.ref (I 0))] [] (scPut w H N NH I (sMove F (F 9) (F 10)) m o T c l (scPut w H N NH I F m o T c l h)) n
  refine pw_h scPut_put ?_
  refine pw_aload_n dX7_takePlace_12 rfl ?_
  refine pw_aload_n dX7_takePlace_13 rfl ?_
  refine pw_get (v := .int (zI (F 11))) okX7 (k := 11) (by decide) lkX7_113 (scAt_put hA).1.1 rfl dX7_takePlace_14 ?_
  refine pw_put (fs' := (scObj I (va_up (sMove F (F 9) (F 10)) 8 (F 11)))) okX7 (k := 8) (by decide) lkX7_52 rfl rfl rfl (scAt_put hA).1.1 (nlt rfl) rfl dX7_takePlace_17 ?_
  refine pw_h (scU0 hA) ?_
  exact pw_vret dX7_takePlace_20 rfl (nle rfl) (nle rfl) ⟨rfl, rfl, rfl⟩
set_option maxHeartbeats 4000000 in
set_option maxRecDepth 100000 in
/-- Screen.eraseCells(k) -/
theorem mX7_eraseCells {E : pw_E} (htr : E.1.stackTraces = false) {h : pz_H} {n : Nat} {w H : Int} {N NH : Nat} {I : Nat → Nat} {F m o T c l : Nat → Int} (hG : geo w H N NH) (hA : scAt w H N NH I F m o T c l h) (hO : scOk w H F T) {k : Int} (h_k : -2147483648 ≤ k ∧ k < 2147483648) (hk : 0 ≤ k ∧ k ≤ 1000) : pw_M E yX7_eraseCells YX7_eraseCells (rmD 3 0 0) [.ref (I 0), .int (zI (k))] h n (fun r h' n' => r = none ∧ h' = scPut w H N NH I (va_up F 7 0) (shM F m (gfill w H (F 6) (F 5) (min (F 3) (F 5 + k)) (F 8 * 128 + 32) (shG F m o))) (shO F o (gfill w H (F 6) (F 5) (min (F 3) (F 5 + k)) (F 8 * 128 + 32) (shG F m o))) T c l h ∧ n' = n) (fun _ _ _ => False) := by
  have hG0 := hG
  have hO0 := hO
  obtain ⟨gw, gH, gN, gN2, gNH⟩ := hG
  obtain ⟨o3, o4, o5, o6, o7, o8, o9, o10, o11, o12, o14, o15, o16, o17, oT3, oT4⟩ := hO
  refine pw_M_of (lv := [some (.ref (I 0)), some (.int (zI (k)))]) (by decide) rfl rfl htr (nle rfl) rfl (fun L => ?_)
  refine pw_h (scPut_idS hA).symm ?_
  refine pw_aload_n dX7_eraseCells_0 rfl ?_
  refine pw_iconst (v := zI (0)) dX7_eraseCells_1 (by decide) ?_
  refine pw_put (fs' := (scObj I (va_up F 7 (0)))) okX7 (k := 7) (by decide) lkX7_49 rfl (by decide) (by decide) (scAt_put hA).1.1 (nlt rfl) rfl dX7_eraseCells_2 ?_
  refine pw_h (scU0 hA) ?_
  refine pw_aload_n dX7_eraseCells_5 rfl ?_
  refine pw_callV (As := []) (b := (I 0)) (rm := rmD 0 0 0) (mX7_shown htr hG0 (scAt_put hA) (scOk_7 hO0)) rfl (scAt_put hA).1.1 rfl rfl ywX7_shown rfl cwX7_95 ⟨nle rfl, nle rfl⟩ (nle rfl) ⟨nle rfl, nle rfl⟩ dX7_eraseCells_6 ?_ (fun _ _ _ z => z.elim)
  intro r2 h2 n2 hq _
  rw [hq.1, hq.2.1, hq.2.2]
  show pw E YX7_eraseCells _ _ 0 0 9 [some (.ref (I 0)), some (.int (zI (k)))] [.ref (I (sq F + 5))] (scPut w H N NH I (va_up F 7 (0)) (shM F m (shG F m o)) (shO F o (shG F m o)) T c l h) n
  refine pw_aload_n dX7_eraseCells_9 rfl ?_
  refine pw_get (v := .int (zI (F 6))) okX7 (k := 6) (by decide) lkX7_46 (scAt_put hA).1.1 rfl dX7_eraseCells_10 ?_
  refine pw_aload_n dX7_eraseCells_13 rfl ?_
  refine pw_get (v := .int (zI (F 5))) okX7 (k := 5) (by decide) lkX7_42 (scAt_put hA).1.1 rfl dX7_eraseCells_14 ?_
  refine pw_aload_n dX7_eraseCells_17 rfl ?_
  refine pw_get (v := .int (zI (F 3))) okX7 (k := 3) (by decide) lkX7_76 (scAt_put hA).1.1 rfl dX7_eraseCells_18 ?_
  refine pw_aload_n dX7_eraseCells_21 rfl ?_
  refine pw_get (v := .int (zI (F 5))) okX7 (k := 5) (by decide) lkX7_42 (scAt_put hA).1.1 rfl dX7_eraseCells_22 ?_
  refine pw_iload_n dX7_eraseCells_25 rfl ?_
  refine pw_ziadd dX7_eraseCells_26 ?_
  refine pw_min cwX7_116 dX7_eraseCells_27 (by omega) (by omega) ⟨nle rfl, nle rfl⟩ ⟨nle rfl, nle rfl⟩ ?_
  refine pw_aload_n dX7_eraseCells_30 rfl ?_
  refine pw_callV (As := []) (b := (I 0)) (rm := rmD 0 0 0) (mX7_blank htr hG0 (scAt_put hA) (scOk_7 hO0)) rfl (scAt_put hA).1.1 rfl rfl ywX7_blank rfl cwX7_135 ⟨nle rfl, nle rfl⟩ (nle rfl) ⟨nle rfl, nle rfl⟩ dX7_eraseCells_31 ?_ (fun _ _ _ z => z.elim)
  intro r2 h2 n2 hq _
  rw [hq.1, hq.2.1, hq.2.2]
  show pw E YX7_eraseCells _ _ 0 0 34 [some (.ref (I 0)), some (.int (zI (k)))] [.int (zI (F 8 * 128 + 32)), .int (zI (min (F 3) ((F 5) + (k)))), .int (zI (F 5)), .int (zI (F 6)), .ref (I (sq F + 5))] (scPut w H N NH I (va_up F 7 (0)) (shM F m (shG F m o)) (shO F o (shG F m o)) T c l h) n
  refine pw_callV (As := [.int (zI (F 6)), .int (zI (F 5)), .int (zI (min (F 3) ((F 5) + (k)))), .int (zI (F 8 * 128 + 32))]) (b := (I (sq F + 5))) (rm := rmD 2 0 0) (mX0_fill htr (scSg (scAt_put hA)) (scSx hA) (scSne hA) (by omega) (by omega) gN gN2 (by omega) (by omega) (by omega) (by omega)) rfl (scSg (scAt_put hA)) rfl rfl ywX0_fill rfl cwX7_139 ⟨nle rfl, nle rfl⟩ (nle rfl) ⟨nle rfl, nle rfl⟩ dX7_eraseCells_34 ?_ (fun _ _ _ z => z.elim)
  intro r2 h2 n2 hq _
  rw [hq.1, hq.2.1, hq.2.2]
  show pw E YX7_eraseCells _ _ 0 0 37 [some (.ref (I 0)), some (.int (zI (k)))] [] (va_up (scPut w H N NH I (va_up F 7 (0)) (shM F m (shG F m o)) (shO F o (shG F m o)) T c l h) (I (sq F)) (pz_z 0 N (gfill w H (F 6) (F 5) (min (F 3) ((F 5) + (k))) (F 8 * 128 + 32) (shG F m o)))) n
  refine pw_h (scUS hA) ?_
  exact pw_vret dX7_eraseCells_37 rfl (nle rfl) (nle rfl) ⟨rfl, rfl, rfl⟩
set_option maxHeartbeats 4000000 in
set_option maxRecDepth 100000 in
/-- Screen.insertCells(k) -/
theorem mX7_insertCells {E : pw_E} (htr : E.1.stackTraces = false) {h : pz_H} {n : Nat} {w H : Int} {N NH : Nat} {I : Nat → Nat} {F m o T c l : Nat → Int} (hG : geo w H N NH) (hA : scAt w H N NH I F m o T c l h) (hO : scOk w H F T) {k : Int} (h_k : -2147483648 ≤ k ∧ k < 2147483648) (hk : 0 ≤ k ∧ k ≤ 1000) : pw_M E yX7_insertCells YX7_insertCells (rmD 3 0 0) [.ref (I 0), .int (zI (k))] h n (fun r h' n' => r = none ∧ h' = scPut w H N NH I (va_up F 7 0) (shM F m (gfill w H (F 6) (F 5) (F 5 + min k (F 3 - F 5)) (F 8 * 128 + 32) (gmoveCells w H (F 6) (F 5) (F 5 + min k (F 3 - F 5)) (F 3 - F 5 - min k (F 3 - F 5)) (shG F m o)))) (shO F o (gfill w H (F 6) (F 5) (F 5 + min k (F 3 - F 5)) (F 8 * 128 + 32) (gmoveCells w H (F 6) (F 5) (F 5 + min k (F 3 - F 5)) (F 3 - F 5 - min k (F 3 - F 5)) (shG F m o)))) T c l h ∧ n' = n) (fun _ _ _ => False) := by
  have hG0 := hG
  have hO0 := hO
  obtain ⟨gw, gH, gN, gN2, gNH⟩ := hG
  obtain ⟨o3, o4, o5, o6, o7, o8, o9, o10, o11, o12, o14, o15, o16, o17, oT3, oT4⟩ := hO
  refine pw_M_of (lv := [some (.ref (I 0)), some (.int (zI (k))), none]) (by decide) rfl rfl htr (nle rfl) rfl (fun L => ?_)
  refine pw_h (scPut_idS hA).symm ?_
  refine pw_aload_n dX7_insertCells_0 rfl ?_
  refine pw_iconst (v := zI (0)) dX7_insertCells_1 (by decide) ?_
  refine pw_put (fs' := (scObj I (va_up F 7 (0)))) okX7 (k := 7) (by decide) lkX7_49 rfl (by decide) (by decide) (scAt_put hA).1.1 (nlt rfl) rfl dX7_insertCells_2 ?_
  refine pw_h (scU0 hA) ?_
  refine pw_iload_n dX7_insertCells_5 rfl ?_
  refine pw_aload_n dX7_insertCells_6 rfl ?_
  refine pw_get (v := .int (zI (F 3))) okX7 (k := 3) (by decide) lkX7_76 (scAt_put hA).1.1 rfl dX7_insertCells_7 ?_
  refine pw_aload_n dX7_insertCells_10 rfl ?_
  refine pw_get (v := .int (zI (F 5))) okX7 (k := 5) (by decide) lkX7_42 (scAt_put hA).1.1 rfl dX7_insertCells_11 ?_
  refine pw_zisub dX7_insertCells_14 ?_
  refine pw_min cwX7_116 dX7_insertCells_15 (by omega) (by omega) ⟨nle rfl, nle rfl⟩ ⟨nle rfl, nle rfl⟩ ?_
  refine pw_istore_n (lv' := [some (.ref (I 0)), some (.int (zI (k))), some (.int (zI (min (k) ((F 3) - (F 5)))))]) dX7_insertCells_18 (by decide) rfl rfl ?_
  refine pw_aload_n dX7_insertCells_19 rfl ?_
  refine pw_callV (As := []) (b := (I 0)) (rm := rmD 0 0 0) (mX7_shown htr hG0 (scAt_put hA) (scOk_7 hO0)) rfl (scAt_put hA).1.1 rfl rfl ywX7_shown rfl cwX7_95 ⟨nle rfl, nle rfl⟩ (nle rfl) ⟨nle rfl, nle rfl⟩ dX7_insertCells_20 ?_ (fun _ _ _ z => z.elim)
  intro r2 h2 n2 hq _
  rw [hq.1, hq.2.1, hq.2.2]
  show pw E YX7_insertCells _ _ 0 0 23 [some (.ref (I 0)), some (.int (zI (k))), some (.int (zI (min (k) ((F 3) - (F 5)))))] [.ref (I (sq F + 5))] (scPut w H N NH I (va_up F 7 (0)) (shM F m (shG F m o)) (shO F o (shG F m o)) T c l h) n
  refine pw_aload_n dX7_insertCells_23 rfl ?_
  refine pw_get (v := .int (zI (F 6))) okX7 (k := 6) (by decide) lkX7_46 (scAt_put hA).1.1 rfl dX7_insertCells_24 ?_
  refine pw_aload_n dX7_insertCells_27 rfl ?_
  refine pw_get (v := .int (zI (F 5))) okX7 (k := 5) (by decide) lkX7_42 (scAt_put hA).1.1 rfl dX7_insertCells_28 ?_
  refine pw_aload_n dX7_insertCells_31 rfl ?_
  refine pw_get (v := .int (zI (F 5))) okX7 (k := 5) (by decide) lkX7_42 (scAt_put hA).1.1 rfl dX7_insertCells_32 ?_
  refine pw_iload_n dX7_insertCells_35 rfl ?_
  refine pw_ziadd dX7_insertCells_36 ?_
  refine pw_aload_n dX7_insertCells_37 rfl ?_
  refine pw_get (v := .int (zI (F 3))) okX7 (k := 3) (by decide) lkX7_76 (scAt_put hA).1.1 rfl dX7_insertCells_38 ?_
  refine pw_aload_n dX7_insertCells_41 rfl ?_
  refine pw_get (v := .int (zI (F 5))) okX7 (k := 5) (by decide) lkX7_42 (scAt_put hA).1.1 rfl dX7_insertCells_42 ?_
  refine pw_zisub dX7_insertCells_45 ?_
  refine pw_iload_n dX7_insertCells_46 rfl ?_
  refine pw_zisub dX7_insertCells_47 ?_
  refine pw_callV (As := [.int (zI (F 6)), .int (zI (F 5)), .int (zI ((F 5) + (min (k) ((F 3) - (F 5))))), .int (zI (((F 3) - (F 5)) - (min (k) ((F 3) - (F 5)))))]) (b := (I (sq F + 5))) (rm := rmD 1 0 0) (mX0_moveCells htr (scSg (scAt_put hA)) (scSx hA) (scSne hA) (by omega) (by omega) gN gN2 (by omega) (by omega) (by omega) (by omega)) rfl (scSg (scAt_put hA)) rfl rfl ywX0_moveCells rfl cwX7_99 ⟨nle rfl, nle rfl⟩ (nle rfl) ⟨nle rfl, nle rfl⟩ dX7_insertCells_48 ?_ (fun _ _ _ z => z.elim)
  intro r2 h2 n2 hq _
  rw [hq.1, hq.2.1, hq.2.2]
  show pw E YX7_insertCells _ _ 0 0 51 [some (.ref (I 0)), some (.int (zI (k))), some (.int (zI (min (k) ((F 3) - (F 5)))))] [] (va_up (scPut w H N NH I (va_up F 7 (0)) (shM F m (shG F m o)) (shO F o (shG F m o)) T c l h) (I (sq F)) (pz_z 0 N (gmoveCells w H (F 6) (F 5) ((F 5) + (min (k) ((F 3) - (F 5)))) (((F 3) - (F 5)) - (min (k) ((F 3) - (F 5)))) (shG F m o)))) n
  refine pw_h (scUS hA) ?_
  refine pw_aload_n dX7_insertCells_51 rfl ?_
  refine pw_callV (As := []) (b := (I 0)) (rm := rmD 0 0 0) (mX7_shown htr hG0 (scAt_put hA) (scOk_7 hO0)) rfl (scAt_put hA).1.1 rfl rfl ywX7_shown rfl cwX7_95 ⟨nle rfl, nle rfl⟩ (nle rfl) ⟨nle rfl, nle rfl⟩ dX7_insertCells_52 ?_ (fun _ _ _ z => z.elim)
  intro r2 h2 n2 hq _
  rw [hq.1, hq.2.1, hq.2.2]
  show pw E YX7_insertCells _ _ 0 0 55 [some (.ref (I 0)), some (.int (zI (k))), some (.int (zI (min (k) ((F 3) - (F 5)))))] [.ref (I (sq F + 5))] (scPut w H N NH I (va_up F 7 (0)) (shM F m (gmoveCells w H (F 6) (F 5) ((F 5) + (min (k) ((F 3) - (F 5)))) (((F 3) - (F 5)) - (min (k) ((F 3) - (F 5)))) (shG F m o))) (shO F o (gmoveCells w H (F 6) (F 5) ((F 5) + (min (k) ((F 3) - (F 5)))) (((F 3) - (F 5)) - (min (k) ((F 3) - (F 5)))) (shG F m o))) T c l h) n
  refine pw_aload_n dX7_insertCells_55 rfl ?_
  refine pw_get (v := .int (zI (F 6))) okX7 (k := 6) (by decide) lkX7_46 (scAt_put hA).1.1 rfl dX7_insertCells_56 ?_
  refine pw_aload_n dX7_insertCells_59 rfl ?_
  refine pw_get (v := .int (zI (F 5))) okX7 (k := 5) (by decide) lkX7_42 (scAt_put hA).1.1 rfl dX7_insertCells_60 ?_
  refine pw_aload_n dX7_insertCells_63 rfl ?_
  refine pw_get (v := .int (zI (F 5))) okX7 (k := 5) (by decide) lkX7_42 (scAt_put hA).1.1 rfl dX7_insertCells_64 ?_
  refine pw_iload_n dX7_insertCells_67 rfl ?_
  refine pw_ziadd dX7_insertCells_68 ?_
  refine pw_aload_n dX7_insertCells_69 rfl ?_
  refine pw_callV (As := []) (b := (I 0)) (rm := rmD 0 0 0) (mX7_blank htr hG0 (scAt_put hA) (scOk_7 hO0)) rfl (scAt_put hA).1.1 rfl rfl ywX7_blank rfl cwX7_135 ⟨nle rfl, nle rfl⟩ (nle rfl) ⟨nle rfl, nle rfl⟩ dX7_insertCells_70 ?_ (fun _ _ _ z => z.elim)
  intro r2 h2 n2 hq _
  rw [hq.1, hq.2.1, hq.2.2]
  show pw E YX7_insertCells _ _ 0 0 73 [some (.ref (I 0)), some (.int (zI (k))), some (.int (zI (min (k) ((F 3) - (F 5)))))] [.int (zI (F 8 * 128 + 32)), .int (zI ((F 5) + (min (k) ((F 3) - (F 5))))), .int (zI (F 5)), .int (zI (F 6)), .ref (I (sq F + 5))] (scPut w H N NH I (va_up F 7 (0)) (shM F m (gmoveCells w H (F 6) (F 5) ((F 5) + (min (k) ((F 3) - (F 5)))) (((F 3) - (F 5)) - (min (k) ((F 3) - (F 5)))) (shG F m o))) (shO F o (gmoveCells w H (F 6) (F 5) ((F 5) + (min (k) ((F 3) - (F 5)))) (((F 3) - (F 5)) - (min (k) ((F 3) - (F 5)))) (shG F m o))) T c l h) n
  refine pw_callV (As := [.int (zI (F 6)), .int (zI (F 5)), .int (zI ((F 5) + (min (k) ((F 3) - (F 5))))), .int (zI (F 8 * 128 + 32))]) (b := (I (sq F + 5))) (rm := rmD 2 0 0) (mX0_fill htr (scSg (scAt_put hA)) (scSx hA) (scSne hA) (by omega) (by omega) gN gN2 (by omega) (by omega) (by omega) (by omega)) rfl (scSg (scAt_put hA)) rfl rfl ywX0_fill rfl cwX7_139 ⟨nle rfl, nle rfl⟩ (nle rfl) ⟨nle rfl, nle rfl⟩ dX7_insertCells_73 ?_ (fun _ _ _ z => z.elim)
  intro r2 h2 n2 hq _
  rw [hq.1, hq.2.1, hq.2.2]
  show pw E YX7_insertCells _ _ 0 0 76 [some (.ref (I 0)), some (.int (zI (k))), some (.int (zI (min (k) ((F 3) - (F 5)))))] [] (va_up (scPut w H N NH I (va_up F 7 (0)) (shM F m (gmoveCells w H (F 6) (F 5) ((F 5) + (min (k) ((F 3) - (F 5)))) (((F 3) - (F 5)) - (min (k) ((F 3) - (F 5)))) (shG F m o))) (shO F o (gmoveCells w H (F 6) (F 5) ((F 5) + (min (k) ((F 3) - (F 5)))) (((F 3) - (F 5)) - (min (k) ((F 3) - (F 5)))) (shG F m o))) T c l h) (I (sq F)) (pz_z 0 N (gfill w H (F 6) (F 5) ((F 5) + (min (k) ((F 3) - (F 5)))) (F 8 * 128 + 32) (gmoveCells w H (F 6) (F 5) ((F 5) + (min (k) ((F 3) - (F 5)))) (((F 3) - (F 5)) - (min (k) ((F 3) - (F 5)))) (shG F m o))))) n
  refine pw_h (scUS hA) ?_
  exact pw_vret dX7_insertCells_76 rfl (nle rfl) (nle rfl) ⟨rfl, rfl, rfl⟩
end
section
def YX7_deleteCells : pw_Y := (RX7, "deleteCells", cX7_deleteCells, 3, none)
theorem ywX7_deleteCells : pw_y yX7_deleteCells YX7_deleteCells 1 := ⟨by decide +kernel, by decide +kernel, by decide +kernel, pw_in 1039 (by decide +kernel) (by decide +kernel), pw_in 82 (by decide +kernel) (by decide +kernel)⟩
def YX7_eraseInRow : pw_Y := (RX7, "eraseInRow", cX7_eraseInRow, 4, none)
theorem ywX7_eraseInRow : pw_y yX7_eraseInRow YX7_eraseInRow 1 := ⟨by decide +kernel, by decide +kernel, by decide +kernel, pw_in 1013 (by decide +kernel) (by decide +kernel), pw_in 82 (by decide +kernel) (by decide +kernel)⟩
theorem lkX7_64 : Cond.fieldLink RX7 64 (TX7 13).1 (TX7 13).2.1 (TX7 13).2.2.1 ∈ pw_G := pw_in 218 (by decide +kernel) (by decide +kernel)
theorem cwX7_132 : Cond.methodLink RX7 132 yX0_moveRow ∈ pw_G ∧ Cond.instanceMethod yX0_moveRow ∈ pw_G ∧ Cond.selects RX0 yX0_moveRow yX0_moveRow ∈ pw_G := ⟨pw_in 975 (by decide +kernel) (by decide +kernel), pw_in 976 (by decide +kernel) (by decide +kernel), pw_in 977 (by decide +kernel) (by decide +kernel)⟩
def YX7_raiseRows : pw_Y := (RX7, "raiseRows", cX7_raiseRows, 5, none)
theorem ywX7_raiseRows : pw_y yX7_raiseRows YX7_raiseRows 2 := ⟨by decide +kernel, by decide +kernel, by decide +kernel, pw_in 973 (by decide +kernel) (by decide +kernel), pw_in 82 (by decide +kernel) (by decide +kernel)⟩
def YX7_lowerRows : pw_Y := (RX7, "lowerRows", cX7_lowerRows, 5, none)
theorem ywX7_lowerRows : pw_y yX7_lowerRows YX7_lowerRows 2 := ⟨by decide +kernel, by decide +kernel, by decide +kernel, pw_in 1022 (by decide +kernel) (by decide +kernel), pw_in 82 (by decide +kernel) (by decide +kernel)⟩
def YX7_scrollDown : pw_Y := (RX7, "scrollDown", cX7_scrollDown, 2, none)
theorem ywX7_scrollDown : pw_y yX7_scrollDown YX7_scrollDown 1 := ⟨by decide +kernel, by decide +kernel, by decide +kernel, pw_in 1048 (by decide +kernel) (by decide +kernel), pw_in 82 (by decide +kernel) (by decide +kernel)⟩
theorem lkX7_58 : Cond.fieldLink RX7 58 (TX7 12).1 (TX7 12).2.1 (TX7 12).2.2.1 ∈ pw_G := pw_in 217 (by decide +kernel) (by decide +kernel)
theorem cwX7_129 : Cond.methodLink RX7 129 yX7_lowerRows ∈ pw_G ∧ Cond.instanceMethod yX7_lowerRows ∈ pw_G ∧ Cond.selects RX7 yX7_lowerRows yX7_lowerRows ∈ pw_G := ⟨pw_in 1019 (by decide +kernel) (by decide +kernel), pw_in 1021 (by decide +kernel) (by decide +kernel), pw_in 18 (by decide +kernel) (by decide +kernel)⟩
def YX7_insertRows : pw_Y := (RX7, "insertRows", cX7_insertRows, 2, none)
theorem ywX7_insertRows : pw_y yX7_insertRows YX7_insertRows 1 := ⟨by decide +kernel, by decide +kernel, by decide +kernel, pw_in 1018 (by decide +kernel) (by decide +kernel), pw_in 82 (by decide +kernel) (by decide +kernel)⟩
def YX7_deleteRows : pw_Y := (RX7, "deleteRows", cX7_deleteRows, 2, none)
theorem ywX7_deleteRows : pw_y yX7_deleteRows YX7_deleteRows 1 := ⟨by decide +kernel, by decide +kernel, by decide +kernel, pw_in 1026 (by decide +kernel) (by decide +kernel), pw_in 82 (by decide +kernel) (by decide +kernel)⟩
theorem cwX7_126 : Cond.methodLink RX7 126 yX7_raiseRows ∈ pw_G ∧ Cond.instanceMethod yX7_raiseRows ∈ pw_G ∧ Cond.selects RX7 yX7_raiseRows yX7_raiseRows ∈ pw_G := ⟨pw_in 970 (by decide +kernel) (by decide +kernel), pw_in 972 (by decide +kernel) (by decide +kernel), pw_in 12 (by decide +kernel) (by decide +kernel)⟩
theorem lkX7_28 : Cond.fieldLink RX7 28 (TX7 2).1 (TX7 2).2.1 (TX7 2).2.2.1 ∈ pw_G := pw_in 195 (by decide +kernel) (by decide +kernel)
theorem cwX7_122 : Cond.methodLink RX7 122 yX1_add ∈ pw_G ∧ Cond.instanceMethod yX1_add ∈ pw_G ∧ Cond.selects RX1 yX1_add yX1_add ∈ pw_G := ⟨pw_in 965 (by decide +kernel) (by decide +kernel), pw_in 966 (by decide +kernel) (by decide +kernel), pw_in 967 (by decide +kernel) (by decide +kernel)⟩
def YX7_scrollUp : pw_Y := (RX7, "scrollUp", cX7_scrollUp, 4, none)
theorem ywX7_scrollUp : pw_y yX7_scrollUp YX7_scrollUp 1 := ⟨by decide +kernel, by decide +kernel, by decide +kernel, pw_in 963 (by decide +kernel) (by decide +kernel), pw_in 82 (by decide +kernel) (by decide +kernel)⟩
set_option maxHeartbeats 4000000 in
set_option maxRecDepth 100000 in
/-- Screen.deleteCells(k) -/
theorem mX7_deleteCells {E : pw_E} (htr : E.1.stackTraces = false) {h : pz_H} {n : Nat} {w H : Int} {N NH : Nat} {I : Nat → Nat} {F m o T c l : Nat → Int} (hG : geo w H N NH) (hA : scAt w H N NH I F m o T c l h) (hO : scOk w H F T) {k : Int} (h_k : -2147483648 ≤ k ∧ k < 2147483648) (hk : 0 ≤ k ∧ k ≤ 1000) : pw_M E yX7_deleteCells YX7_deleteCells (rmD 3 0 0) [.ref (I 0), .int (zI (k))] h n (fun r h' n' => r = none ∧ h' = scPut w H N NH I (va_up F 7 0) (shM F m (gfill w H (F 6) (F 3 - min k (F 3 - F 5)) (F 3) (F 8 * 128 + 32) (gmoveCells w H (F 6) (F 5 + min k (F 3 - F 5)) (F 5) (F 3 - F 5 - min k (F 3 - F 5)) (shG F m o)))) (shO F o (gfill w H (F 6) (F 3 - min k (F 3 - F 5)) (F 3) (F 8 * 128 + 32) (gmoveCells w H (F 6) (F 5 + min k (F 3 - F 5)) (F 5) (F 3 - F 5 - min k (F 3 - F 5)) (shG F m o)))) T c l h ∧ n' = n) (fun _ _ _ => False) := by
  have hG0 := hG
  have hO0 := hO
  obtain ⟨gw, gH, gN, gN2, gNH⟩ := hG
  obtain ⟨o3, o4, o5, o6, o7, o8, o9, o10, o11, o12, o14, o15, o16, o17, oT3, oT4⟩ := hO
  refine pw_M_of (lv := [some (.ref (I 0)), some (.int (zI (k))), none]) (by decide) rfl rfl htr (nle rfl) rfl (fun L => ?_)
  refine pw_h (scPut_idS hA).symm ?_
  refine pw_aload_n dX7_deleteCells_0 rfl ?_
  refine pw_iconst (v := zI (0)) dX7_deleteCells_1 (by decide) ?_
  refine pw_put (fs' := (scObj I (va_up F 7 (0)))) okX7 (k := 7) (by decide) lkX7_49 rfl (by decide) (by decide) (scAt_put hA).1.1 (nlt rfl) rfl dX7_deleteCells_2 ?_
  refine pw_h (scU0 hA) ?_
  refine pw_iload_n dX7_deleteCells_5 rfl ?_
  refine pw_aload_n dX7_deleteCells_6 rfl ?_
  refine pw_get (v := .int (zI (F 3))) okX7 (k := 3) (by decide) lkX7_76 (scAt_put hA).1.1 rfl dX7_deleteCells_7 ?_
  refine pw_aload_n dX7_deleteCells_10 rfl ?_
  refine pw_get (v := .int (zI (F 5))) okX7 (k := 5) (by decide) lkX7_42 (scAt_put hA).1.1 rfl dX7_deleteCells_11 ?_
  refine pw_zisub dX7_deleteCells_14 ?_
  refine pw_min cwX7_116 dX7_deleteCells_15 (by omega) (by omega) ⟨nle rfl, nle rfl⟩ ⟨nle rfl, nle rfl⟩ ?_
  refine pw_istore_n (lv' := [some (.ref (I 0)), some (.int (zI (k))), some (.int (zI (min (k) ((F 3) - (F 5)))))]) dX7_deleteCells_18 (by decide) rfl rfl ?_
  refine pw_aload_n dX7_deleteCells_19 rfl ?_
  refine pw_callV (As := []) (b := (I 0)) (rm := rmD 0 0 0) (mX7_shown htr hG0 (scAt_put hA) (scOk_7 hO0)) rfl (scAt_put hA).1.1 rfl rfl ywX7_shown rfl cwX7_95 ⟨nle rfl, nle rfl⟩ (nle rfl) ⟨nle rfl, nle rfl⟩ dX7_deleteCells_20 ?_ (fun _ _ _ z => z.elim)
  intro r2 h2 n2 hq _
  rw [hq.1, hq.2.1, hq.2.2]
  show pw E YX7_deleteCells _ _ 0 0 23 [some (.ref (I 0)), some (.int (zI (k))), some (.int (zI (min (k) ((F 3) - (F 5)))))] [.ref (I (sq F + 5))] (scPut w H N NH I (va_up F 7 (0)) (shM F m (shG F m o)) (shO F o (shG F m o)) T c l h) n
  refine pw_aload_n dX7_deleteCells_23 rfl ?_
  refine pw_get (v := .int (zI (F 6))) okX7 (k := 6) (by decide) lkX7_46 (scAt_put hA).1.1 rfl dX7_deleteCells_24 ?_
  refine pw_aload_n dX7_deleteCells_27 rfl ?_
  refine pw_get (v := .int (zI (F 5))) okX7 (k := 5) (by decide) lkX7_42 (scAt_put hA).1.1 rfl dX7_deleteCells_28 ?_
  refine pw_iload_n dX7_deleteCells_31 rfl ?_
  refine pw_ziadd dX7_deleteCells_32 ?_
  refine pw_aload_n dX7_deleteCells_33 rfl ?_
  refine pw_get (v := .int (zI (F 5))) okX7 (k := 5) (by decide) lkX7_42 (scAt_put hA).1.1 rfl dX7_deleteCells_34 ?_
  refine pw_aload_n dX7_deleteCells_37 rfl ?_
  refine pw_get (v := .int (zI (F 3))) okX7 (k := 3) (by decide) lkX7_76 (scAt_put hA).1.1 rfl dX7_deleteCells_38 ?_
  refine pw_aload_n dX7_deleteCells_41 rfl ?_
  refine pw_get (v := .int (zI (F 5))) okX7 (k := 5) (by decide) lkX7_42 (scAt_put hA).1.1 rfl dX7_deleteCells_42 ?_
  refine pw_zisub dX7_deleteCells_45 ?_
  refine pw_iload_n dX7_deleteCells_46 rfl ?_
  refine pw_zisub dX7_deleteCells_47 ?_
  refine pw_callV (As := [.int (zI (F 6)), .int (zI ((F 5) + (min (k) ((F 3) - (F 5))))), .int (zI (F 5)), .int (zI (((F 3) - (F 5)) - (min (k) ((F 3) - (F 5)))))]) (b := (I (sq F + 5))) (rm := rmD 1 0 0) (mX0_moveCells htr (scSg (scAt_put hA)) (scSx hA) (scSne hA) (by omega) (by omega) gN gN2 (by omega) (by omega) (by omega) (by omega)) rfl (scSg (scAt_put hA)) rfl rfl ywX0_moveCells rfl cwX7_99 ⟨nle rfl, nle rfl⟩ (nle rfl) ⟨nle rfl, nle rfl⟩ dX7_deleteCells_48 ?_ (fun _ _ _ z => z.elim)
  intro r2 h2 n2 hq _
  rw [hq.1, hq.2.1, hq.2.2]
  show pw E YX7_deleteCells _ _ 0 0 51 [some (.ref (I 0)), some (.int (zI (k))), some (.int (zI (min (k) ((F 3) - (F 5)))))] [] (va_up (scPut w H N NH I (va_up F 7 (0)) (shM F m (shG F m o)) (shO F o (shG F m o)) T c l h) (I (sq F)) (pz_z 0 N (gmoveCells w H (F 6) ((F 5) + (min (k) ((F 3) - (F 5)))) (F 5) (((F 3) - (F 5)) - (min (k) ((F 3) - (F 5)))) (shG F m o)))) n
  refine pw_h (scUS hA) ?_
  refine pw_aload_n dX7_deleteCells_51 rfl ?_
  refine pw_callV (As := []) (b := (I 0)) (rm := rmD 0 0 0) (mX7_shown htr hG0 (scAt_put hA) (scOk_7 hO0)) rfl (scAt_put hA).1.1 rfl rfl ywX7_shown rfl cwX7_95 ⟨nle rfl, nle rfl⟩ (nle rfl) ⟨nle rfl, nle rfl⟩ dX7_deleteCells_52 ?_ (fun _ _ _ z => z.elim)
  intro r2 h2 n2 hq _
  rw [hq.1, hq.2.1, hq.2.2]
  show pw E YX7_deleteCells _ _ 0 0 55 [some (.ref (I 0)), some (.int (zI (k))), some (.int (zI (min (k) ((F 3) - (F 5)))))] [.ref (I (sq F + 5))] (scPut w H N NH I (va_up F 7 (0)) (shM F m (gmoveCells w H (F 6) ((F 5) + (min (k) ((F 3) - (F 5)))) (F 5) (((F 3) - (F 5)) - (min (k) ((F 3) - (F 5)))) (shG F m o))) (shO F o (gmoveCells w H (F 6) ((F 5) + (min (k) ((F 3) - (F 5)))) (F 5) (((F 3) - (F 5)) - (min (k) ((F 3) - (F 5)))) (shG F m o))) T c l h) n
  refine pw_aload_n dX7_deleteCells_55 rfl ?_
  refine pw_get (v := .int (zI (F 6))) okX7 (k := 6) (by decide) lkX7_46 (scAt_put hA).1.1 rfl dX7_deleteCells_56 ?_
  refine pw_aload_n dX7_deleteCells_59 rfl ?_
  refine pw_get (v := .int (zI (F 3))) okX7 (k := 3) (by decide) lkX7_76 (scAt_put hA).1.1 rfl dX7_deleteCells_60 ?_
  refine pw_iload_n dX7_deleteCells_63 rfl ?_
  refine pw_zisub dX7_deleteCells_64 ?_
  refine pw_aload_n dX7_deleteCells_65 rfl ?_
  refine pw_get (v := .int (zI (F 3))) okX7 (k := 3) (by decide) lkX7_76 (scAt_put hA).1.1 rfl dX7_deleteCells_66 ?_
  refine pw_aload_n dX7_deleteCells_69 rfl ?_
  refine pw_callV (As := []) (b := (I 0)) (rm := rmD 0 0 0) (mX7_blank htr hG0 (scAt_put hA) (scOk_7 hO0)) rfl (scAt_put hA).1.1 rfl rfl ywX7_blank rfl cwX7_135 ⟨nle rfl, nle rfl⟩ (nle rfl) ⟨nle rfl, nle rfl⟩ dX7_deleteCells_70 ?_ (fun _ _ _ z => z.elim)
  intro r2 h2 n2 hq _
  rw [hq.1, hq.2.1, hq.2.2]
  show pw E YX7_deleteCells _ _ 0 0 73 [some (.ref (I 0)), some (.int (zI (k))), some (.int (zI (min (k) ((F 3) - (F 5)))))] [.int (zI (F 8 * 128 + 32)), .int (zI (F 3)), .int (zI ((F 3) - (min (k) ((F 3) - (F 5))))), .int (zI (F 6)), .ref (I (sq F + 5))] (scPut w H N NH I (va_up F 7 (0)) (shM F m (gmoveCells w H (F 6) ((F 5) + (min (k) ((F 3) - (F 5)))) (F 5) (((F 3) - (F 5)) - (min (k) ((F 3) - (F 5)))) (shG F m o))) (shO F o (gmoveCells w H (F 6) ((F 5) + (min (k) ((F 3) - (F 5)))) (F 5) (((F 3) - (F 5)) - (min (k) ((F 3) - (F 5)))) (shG F m o))) T c l h) n
  refine pw_callV (As := [.int (zI (F 6)), .int (zI ((F 3) - (min (k) ((F 3) - (F 5))))), .int (zI (F 3)), .int (zI (F 8 * 128 + 32))]) (b := (I (sq F + 5))) (rm := rmD 2 0 0) (mX0_fill htr (scSg (scAt_put hA)) (scSx hA) (scSne hA) (by omega) (by omega) gN gN2 (by omega) (by omega) (by omega) (by omega)) rfl (scSg (scAt_put hA)) rfl rfl ywX0_fill rfl cwX7_139 ⟨nle rfl, nle rfl⟩ (nle rfl) ⟨nle rfl, nle rfl⟩ dX7_deleteCells_73 ?_ (fun _ _ _ z => z.elim)
  intro r2 h2 n2 hq _
  rw [hq.1, hq.2.1, hq.2.2]
  show pw E YX7_deleteCells _ _ 0 0 76 [some (.ref (I 0)), some (.int (zI (k))), some (.int (zI (min (k) ((F 3) - (F 5)))))] [] (va_up (scPut w H N NH I (va_up F 7 (0)) (shM F m (gmoveCells w H (F 6) ((F 5) + (min (k) ((F 3) - (F 5)))) (F 5) (((F 3) - (F 5)) - (min (k) ((F 3) - (F 5)))) (shG F m o))) (shO F o (gmoveCells w H (F 6) ((F 5) + (min (k) ((F 3) - (F 5)))) (F 5) (((F 3) - (F 5)) - (min (k) ((F 3) - (F 5)))) (shG F m o))) T c l h) (I (sq F)) (pz_z 0 N (gfill w H (F 6) ((F 3) - (min (k) ((F 3) - (F 5)))) (F 3) (F 8 * 128 + 32) (gmoveCells w H (F 6) ((F 5) + (min (k) ((F 3) - (F 5)))) (F 5) (((F 3) - (F 5)) - (min (k) ((F 3) - (F 5)))) (shG F m o))))) n
  refine pw_h (scUS hA) ?_
  exact pw_vret dX7_deleteCells_76 rfl (nle rfl) (nle rfl) ⟨rfl, rfl, rfl⟩
/-- cells of a row are erased: how = 0, 1, 2 -/
def sErow (w H : Int) (F : Nat → Int) (how : Int) (f : Nat → Int) : Nat → Int := if 0 ≤ how ∧ how ≤ 2 then gfill w H (F 6) (if how = 0 then F 5 else 0) (if how = 1 then F 5 + 1 else F 3) (F 8 * 128 + 32) f else f
set_option maxHeartbeats 4000000 in
set_option maxRecDepth 100000 in
/-- Screen.eraseInRow(how) -/
theorem mX7_eraseInRow {E : pw_E} (htr : E.1.stackTraces = false) {h : pz_H} {n : Nat} {w H : Int} {N NH : Nat} {I : Nat → Nat} {F m o T c l : Nat → Int} (hG : geo w H N NH) (hA : scAt w H N NH I F m o T c l h) (hO : scOk w H F T) {how : Int} (h_how : -2147483648 ≤ how ∧ how < 2147483648) : pw_M E yX7_eraseInRow YX7_eraseInRow (rmD 3 0 0) [.ref (I 0), .int (zI (how))] h n (fun r h' n' => r = none ∧ h' = scPut w H N NH I (va_up F 7 0) (shM F m (sErow w H F how (shG F m o))) (shO F o (sErow w H F how (shG F m o))) T c l h ∧ n' = n) (fun _ _ _ => False) := by
  have hG0 := hG
  have hO0 := hO
  obtain ⟨gw, gH, gN, gN2, gNH⟩ := hG
  obtain ⟨o3, o4, o5, o6, o7, o8, o9, o10, o11, o12, o14, o15, o16, o17, oT3, oT4⟩ := hO
  refine pw_M_of (lv := [some (.ref (I 0)), some (.int (zI (how))), none, none]) (by decide) rfl rfl htr (nle rfl) rfl (fun L => ?_)
  refine pw_h (scPut_idS hA).symm ?_
  refine pw_aload_n dX7_eraseInRow_0 rfl ?_
  refine pw_iconst (v := zI (0)) dX7_eraseInRow_1 (by decide) ?_
  refine pw_put (fs' := (scObj I (va_up F 7 (0)))) okX7 (k := 7) (by decide) lkX7_49 rfl (by decide) (by decide) (scAt_put hA).1.1 (nlt rfl) rfl dX7_eraseInRow_2 ?_
  refine pw_h (scU0 hA) ?_
  refine pw_iload_n dX7_eraseInRow_5 rfl ?_
  refine pw_if_lt (tgt := 63) dX7_eraseInRow_6 rfl (by omega) (fun c6 => ?_) (fun c6 => ?_)
  ·
    exact pw_vret dX7_eraseInRow_63 rfl (nle rfl) (nle rfl) ⟨rfl, by unfold sErow; rw [if_neg (by omega)], rfl⟩
  ·
    refine pw_iload_n dX7_eraseInRow_9 rfl ?_
    refine pw_iconst (v := zI (2)) dX7_eraseInRow_10 (by decide) ?_
    refine pw_icmp_gt (tgt := 63) dX7_eraseInRow_11 rfl (by omega) (by omega) (fun c11 => ?_) (fun c11 => ?_)
    ·
      exact pw_vret dX7_eraseInRow_63 rfl (nle rfl) (nle rfl) ⟨rfl, by unfold sErow; rw [if_neg (by omega)], rfl⟩
    ·
      refine pw_iload_n dX7_eraseInRow_14 rfl ?_
      refine pw_if_ne (tgt := 25) dX7_eraseInRow_15 rfl (by omega) (fun c15 => ?_) (fun c15 => ?_)
      ·
        refine pw_iconst (v := zI (0)) dX7_eraseInRow_25 (by decide) ?_
        refine pw_istore_n (lv' := [some (.ref (I 0)), some (.int (zI (how))), some (.int (zI (0))), none]) dX7_eraseInRow_26 (by decide) rfl rfl ?_
        refine pw_iload_n dX7_eraseInRow_27 rfl ?_
        refine pw_iconst (v := zI (1)) dX7_eraseInRow_28 (by decide) ?_
        refine pw_icmp_ne (tgt := 41) dX7_eraseInRow_29 rfl (by omega) (by omega) (fun c29 => ?_) (fun c29 => ?_)
        ·
          refine pw_aload_n dX7_eraseInRow_41 rfl ?_
          refine pw_get (v := .int (zI (F 3))) okX7 (k := 3) (by decide) lkX7_76 (scAt_put hA).1.1 rfl dX7_eraseInRow_42 ?_
          refine pw_istore_n (lv' := [some (.ref (I 0)), some (.int (zI (how))), some (.int (zI (0))), some (.int (zI (F 3)))]) dX7_eraseInRow_45 (by decide) rfl rfl ?_
          refine pw_aload_n dX7_eraseInRow_46 rfl ?_
          refine pw_callV (As := []) (b := (I 0)) (rm := rmD 0 0 0) (mX7_shown htr hG0 (scAt_put hA) (scOk_7 hO0)) rfl (scAt_put hA).1.1 rfl rfl ywX7_shown rfl cwX7_95 ⟨nle rfl, nle rfl⟩ (nle rfl) ⟨nle rfl, nle rfl⟩ dX7_eraseInRow_47 ?_ (fun _ _ _ z => z.elim)
          intro r2 h2 n2 hq _
          rw [hq.1, hq.2.1, hq.2.2]
          show pw E YX7_eraseInRow _ _ 0 0 50 [some (.ref (I 0)), some (.int (zI (how))), some (.int (zI (0))), some (.int (zI (F 3)))] [.ref (I (sq F + 5))] (scPut w H N NH I (va_up F 7 (0)) (shM F m (shG F m o)) (shO F o (shG F m o)) T c l h) n
          refine pw_aload_n dX7_eraseInRow_50 rfl ?_
          refine pw_get (v := .int (zI (F 6))) okX7 (k := 6) (by decide) lkX7_46 (scAt_put hA).1.1 rfl dX7_eraseInRow_51 ?_
          refine pw_iload_n dX7_eraseInRow_54 rfl ?_
          refine pw_iload_n dX7_eraseInRow_55 rfl ?_
          refine pw_aload_n dX7_eraseInRow_56 rfl ?_
          refine pw_callV (As := []) (b := (I 0)) (rm := rmD 0 0 0) (mX7_blank htr hG0 (scAt_put hA) (scOk_7 hO0)) rfl (scAt_put hA).1.1 rfl rfl ywX7_blank rfl cwX7_135 ⟨nle rfl, nle rfl⟩ (nle rfl) ⟨nle rfl, nle rfl⟩ dX7_eraseInRow_57 ?_ (fun _ _ _ z => z.elim)
          intro r2 h2 n2 hq _
          rw [hq.1, hq.2.1, hq.2.2]
          show pw E YX7_eraseInRow _ _ 0 0 60 [some (.ref (I 0)), some (.int (zI (how))), some (.int (zI (0))), some (.int (zI (F 3)))] [.int (zI (F 8 * 128 + 32)), .int (zI (F 3)), .int (zI (0)), .int (zI (F 6)), .ref (I (sq F + 5))] (scPut w H N NH I (va_up F 7 (0)) (shM F m (shG F m o)) (shO F o (shG F m o)) T c l h) n
          refine pw_callV (As := [.int (zI (F 6)), .int (zI (0)), .int (zI (F 3)), .int (zI (F 8 * 128 + 32))]) (b := (I (sq F + 5))) (rm := rmD 2 0 0) (mX0_fill htr (scSg (scAt_put hA)) (scSx hA) (scSne hA) (by omega) (by omega) gN gN2 (by omega) (by omega) (by omega) (by omega)) rfl (scSg (scAt_put hA)) rfl rfl ywX0_fill rfl cwX7_139 ⟨nle rfl, nle rfl⟩ (nle rfl) ⟨nle rfl, nle rfl⟩ dX7_eraseInRow_60 ?_ (fun _ _ _ z => z.elim)
          intro r2 h2 n2 hq _
          rw [hq.1, hq.2.1, hq.2.2]
          show pw E YX7_eraseInRow _ _ 0 0 63 [some (.ref (I 0)), some (.int (zI (how))), some (.int (zI (0))), some (.int (zI (F 3)))] [] (va_up (scPut w H N NH I (va_up F 7 (0)) (shM F m (shG F m o)) (shO F o (shG F m o)) T c l h) (I (sq F)) (pz_z 0 N (gfill w H (F 6) (0) (F 3) (F 8 * 128 + 32) (shG F m o)))) n
          refine pw_h (scUS hA) ?_
          exact pw_vret dX7_eraseInRow_63 rfl (nle rfl) (nle rfl) ⟨rfl, by unfold sErow; rw [if_pos (by omega)]; first | (exfalso; omega) | rw [if_pos (show how = 0 by omega), if_neg (show ¬ how = 1 by omega)] | rw [if_neg (show ¬ how = 0 by omega), if_pos (show how = 1 by omega)] | rw [if_neg (show ¬ how = 0 by omega), if_neg (show ¬ how = 1 by omega)], rfl⟩
        ·
          refine pw_aload_n dX7_eraseInRow_32 rfl ?_
          refine pw_get (v := .int (zI (F 5))) okX7 (k := 5) (by decide) lkX7_42 (scAt_put hA).1.1 rfl dX7_eraseInRow_33 ?_
          refine pw_iconst (v := zI (1)) dX7_eraseInRow_36 (by decide) ?_
          refine pw_ziadd dX7_eraseInRow_37 ?_
          refine pw_goto (tgt := 45) dX7_eraseInRow_38 rfl ?_
          refine pw_istore_n (lv' := [some (.ref (I 0)), some (.int (zI (how))), some (.int (zI (0))), some (.int (zI ((F 5) + (1))))]) dX7_eraseInRow_45 (by decide) rfl rfl ?_
          refine pw_aload_n dX7_eraseInRow_46 rfl ?_
          refine pw_callV (As := []) (b := (I 0)) (rm := rmD 0 0 0) (mX7_shown htr hG0 (scAt_put hA) (scOk_7 hO0)) rfl (scAt_put hA).1.1 rfl rfl ywX7_shown rfl cwX7_95 ⟨nle rfl, nle rfl⟩ (nle rfl) ⟨nle rfl, nle rfl⟩ dX7_eraseInRow_47 ?_ (fun _ _ _ z => z.elim)
          intro r2 h2 n2 hq _
          rw [hq.1, hq.2.1, hq.2.2]
          show pw E YX7_eraseInRow _ _ 0 0 50 [some (.ref (I 0)), some (.int (zI (how))), some (.int (zI (0))), some (.int (zI ((F 5) + (1))))] [.ref (I (sq F + 5))] (scPut w H N NH I (va_up F 7 (0)) (shM F m (shG F m o)) (shO F o (shG F m o)) T c l h) n
          refine pw_aload_n dX7_eraseInRow_50 rfl ?_
          refine pw_get (v := .int (zI (F 6))) okX7 (k := 6) (by decide) lkX7_46 (scAt_put hA).1.1 rfl dX7_eraseInRow_51 ?_
          refine pw_iload_n dX7_eraseInRow_54 rfl ?_
          refine pw_iload_n dX7_eraseInRow_55 rfl ?_
          refine pw_aload_n dX7_eraseInRow_56 rfl ?_
          refine pw_callV (As := []) (b := (I 0)) (rm := rmD 0 0 0) (mX7_blank htr hG0 (scAt_put hA) (scOk_7 hO0)) rfl (scAt_put hA).1.1 rfl rfl ywX7_blank rfl cwX7_135 ⟨nle rfl, nle rfl⟩ (nle rfl) ⟨nle rfl, nle rfl⟩ dX7_eraseInRow_57 ?_ (fun _ _ _ z => z.elim)
          intro r2 h2 n2 hq _
          rw [hq.1, hq.2.1, hq.2.2]
          show pw E YX7_eraseInRow _ _ 0 0 60 [some (.ref (I 0)), some (.int (zI (how))), some (.int (zI (0))), some (.int (zI ((F 5) + (1))))] [.int (zI (F 8 * 128 + 32)), .int (zI ((F 5) + (1))), .int (zI (0)), .int (zI (F 6)), .ref (I (sq F + 5))] (scPut w H N NH I (va_up F 7 (0)) (shM F m (shG F m o)) (shO F o (shG F m o)) T c l h) n
          refine pw_callV (As := [.int (zI (F 6)), .int (zI (0)), .int (zI ((F 5) + (1))), .int (zI (F 8 * 128 + 32))]) (b := (I (sq F + 5))) (rm := rmD 2 0 0) (mX0_fill htr (scSg (scAt_put hA)) (scSx hA) (scSne hA) (by omega) (by omega) gN gN2 (by omega) (by omega) (by omega) (by omega)) rfl (scSg (scAt_put hA)) rfl rfl ywX0_fill rfl cwX7_139 ⟨nle rfl, nle rfl⟩ (nle rfl) ⟨nle rfl, nle rfl⟩ dX7_eraseInRow_60 ?_ (fun _ _ _ z => z.elim)
          intro r2 h2 n2 hq _
          rw [hq.1, hq.2.1, hq.2.2]
          show pw E YX7_eraseInRow _ _ 0 0 63 [some (.ref (I 0)), some (.int (zI (how))), some (.int (zI (0))), some (.int (zI ((F 5) + (1))))] [] (va_up (scPut w H N NH I (va_up F 7 (0)) (shM F m (shG F m o)) (shO F o (shG F m o)) T c l h) (I (sq F)) (pz_z 0 N (gfill w H (F 6) (0) ((F 5) + (1)) (F 8 * 128 + 32) (shG F m o)))) n
          refine pw_h (scUS hA) ?_
          exact pw_vret dX7_eraseInRow_63 rfl (nle rfl) (nle rfl) ⟨rfl, by unfold sErow; rw [if_pos (by omega)]; first | (exfalso; omega) | rw [if_pos (show how = 0 by omega), if_neg (show ¬ how = 1 by omega)] | rw [if_neg (show ¬ how = 0 by omega), if_pos (show how = 1 by omega)] | rw [if_neg (show ¬ how = 0 by omega), if_neg (show ¬ how = 1 by omega)], rfl⟩
      ·
        refine pw_aload_n dX7_eraseInRow_18 rfl ?_
        refine pw_get (v := .int (zI (F 5))) okX7 (k := 5) (by decide) lkX7_42 (scAt_put hA).1.1 rfl dX7_eraseInRow_19 ?_
        refine pw_goto (tgt := 26) dX7_eraseInRow_22 rfl ?_
        refine pw_istore_n (lv' := [some (.ref (I 0)), some (.int (zI (how))), some (.int (zI (F 5))), none]) dX7_eraseInRow_26 (by decide) rfl rfl ?_
        refine pw_iload_n dX7_eraseInRow_27 rfl ?_
        refine pw_iconst (v := zI (1)) dX7_eraseInRow_28 (by decide) ?_
        refine pw_icmp_ne (tgt := 41) dX7_eraseInRow_29 rfl (by omega) (by omega) (fun c29 => ?_) (fun c29 => ?_)
        ·
          refine pw_aload_n dX7_eraseInRow_41 rfl ?_
          refine pw_get (v := .int (zI (F 3))) okX7 (k := 3) (by decide) lkX7_76 (scAt_put hA).1.1 rfl dX7_eraseInRow_42 ?_
          refine pw_istore_n (lv' := [some (.ref (I 0)), some (.int (zI (how))), some (.int (zI (F 5))), some (.int (zI (F 3)))]) dX7_eraseInRow_45 (by decide) rfl rfl ?_
          refine pw_aload_n dX7_eraseInRow_46 rfl ?_
          refine pw_callV (As := []) (b := (I 0)) (rm := rmD 0 0 0) (mX7_shown htr hG0 (scAt_put hA) (scOk_7 hO0)) rfl (scAt_put hA).1.1 rfl rfl ywX7_shown rfl cwX7_95 ⟨nle rfl, nle rfl⟩ (nle rfl) ⟨nle rfl, nle rfl⟩ dX7_eraseInRow_47 ?_ (fun _ _ _ z => z.elim)
          intro r2 h2 n2 hq _
          rw [hq.1, hq.2.1, hq.2.2]
          show pw E YX7_eraseInRow _ _ 0 0 50 [some (.ref (I 0)), some (.int (zI (how))), some (.int (zI (F 5))), some (.int (zI (F 3)))] [.ref (I (sq F + 5))] (scPut w H N NH I (va_up F 7 (0)) (shM F m (shG F m o)) (shO F o (shG F m o)) T c l h) n
          refine pw_aload_n dX7_eraseInRow_50 rfl ?_
          refine pw_get (v := .int (zI (F 6))) okX7 (k := 6) (by decide) lkX7_46 (scAt_put hA).1.1 rfl dX7_eraseInRow_51 ?_
          refine pw_iload_n dX7_eraseInRow_54 rfl ?_
          refine pw_iload_n dX7_eraseInRow_55 rfl ?_
          refine pw_aload_n dX7_eraseInRow_56 rfl ?_
          refine pw_callV (As := []) (b := (I 0)) (rm := rmD 0 0 0) (mX7_blank htr hG0 (scAt_put hA) (scOk_7 hO0)) rfl (scAt_put hA).1.1 rfl rfl ywX7_blank rfl cwX7_135 ⟨nle rfl, nle rfl⟩ (nle rfl) ⟨nle rfl, nle rfl⟩ dX7_eraseInRow_57 ?_ (fun _ _ _ z => z.elim)
          intro r2 h2 n2 hq _
          rw [hq.1, hq.2.1, hq.2.2]
          show pw E YX7_eraseInRow _ _ 0 0 60 [some (.ref (I 0)), some (.int (zI (how))), some (.int (zI (F 5))), some (.int (zI (F 3)))] [.int (zI (F 8 * 128 + 32)), .int (zI (F 3)), .int (zI (F 5)), .int (zI (F 6)), .ref (I (sq F + 5))] (scPut w H N NH I (va_up F 7 (0)) (shM F m (shG F m o)) (shO F o (shG F m o)) T c l h) n
          refine pw_callV (As := [.int (zI (F 6)), .int (zI (F 5)), .int (zI (F 3)), .int (zI (F 8 * 128 + 32))]) (b := (I (sq F + 5))) (rm := rmD 2 0 0) (mX0_fill htr (scSg (scAt_put hA)) (scSx hA) (scSne hA) (by omega) (by omega) gN gN2 (by omega) (by omega) (by omega) (by omega)) rfl (scSg (scAt_put hA)) rfl rfl ywX0_fill rfl cwX7_139 ⟨nle rfl, nle rfl⟩ (nle rfl) ⟨nle rfl, nle rfl⟩ dX7_eraseInRow_60 ?_ (fun _ _ _ z => z.elim)
          intro r2 h2 n2 hq _
          rw [hq.1, hq.2.1, hq.2.2]
          show pw E YX7_eraseInRow _ _ 0 0 63 [some (.ref (I 0)), some (.int (zI (how))), some (.int (zI (F 5))), some (.int (zI (F 3)))] [] (va_up (scPut w H N NH I (va_up F 7 (0)) (shM F m (shG F m o)) (shO F o (shG F m o)) T c l h) (I (sq F)) (pz_z 0 N (gfill w H (F 6) (F 5) (F 3) (F 8 * 128 + 32) (shG F m o)))) n
          refine pw_h (scUS hA) ?_
          exact pw_vret dX7_eraseInRow_63 rfl (nle rfl) (nle rfl) ⟨rfl, by unfold sErow; rw [if_pos (by omega)]; first | (exfalso; omega) | rw [if_pos (show how = 0 by omega), if_neg (show ¬ how = 1 by omega)] | rw [if_neg (show ¬ how = 0 by omega), if_pos (show how = 1 by omega)] | rw [if_neg (show ¬ how = 0 by omega), if_neg (show ¬ how = 1 by omega)], rfl⟩
        ·
          refine pw_aload_n dX7_eraseInRow_32 rfl ?_
          refine pw_get (v := .int (zI (F 5))) okX7 (k := 5) (by decide) lkX7_42 (scAt_put hA).1.1 rfl dX7_eraseInRow_33 ?_
          refine pw_iconst (v := zI (1)) dX7_eraseInRow_36 (by decide) ?_
          refine pw_ziadd dX7_eraseInRow_37 ?_
          refine pw_goto (tgt := 45) dX7_eraseInRow_38 rfl ?_
          refine pw_istore_n (lv' := [some (.ref (I 0)), some (.int (zI (how))), some (.int (zI (F 5))), some (.int (zI ((F 5) + (1))))]) dX7_eraseInRow_45 (by decide) rfl rfl ?_
          refine pw_aload_n dX7_eraseInRow_46 rfl ?_
          refine pw_callV (As := []) (b := (I 0)) (rm := rmD 0 0 0) (mX7_shown htr hG0 (scAt_put hA) (scOk_7 hO0)) rfl (scAt_put hA).1.1 rfl rfl ywX7_shown rfl cwX7_95 ⟨nle rfl, nle rfl⟩ (nle rfl) ⟨nle rfl, nle rfl⟩ dX7_eraseInRow_47 ?_ (fun _ _ _ z => z.elim)
          intro r2 h2 n2 hq _
          rw [hq.1, hq.2.1, hq.2.2]
          show pw E YX7_eraseInRow _ _ 0 0 50 [some (.ref (I 0)), some (.int (zI (how))), some (.int (zI (F 5))), some (.int (zI ((F 5) + (1))))] [.ref (I (sq F + 5))] (scPut w H N NH I (va_up F 7 (0)) (shM F m (shG F m o)) (shO F o (shG F m o)) T c l h) n
          refine pw_aload_n dX7_eraseInRow_50 rfl ?_
          refine pw_get (v := .int (zI (F 6))) okX7 (k := 6) (by decide) lkX7_46 (scAt_put hA).1.1 rfl dX7_eraseInRow_51 ?_
          refine pw_iload_n dX7_eraseInRow_54 rfl ?_
          refine pw_iload_n dX7_eraseInRow_55 rfl ?_
          refine pw_aload_n dX7_eraseInRow_56 rfl ?_
          refine pw_callV (As := []) (b := (I 0)) (rm := rmD 0 0 0) (mX7_blank htr hG0 (scAt_put hA) (scOk_7 hO0)) rfl (scAt_put hA).1.1 rfl rfl ywX7_blank rfl cwX7_135 ⟨nle rfl, nle rfl⟩ (nle rfl) ⟨nle rfl, nle rfl⟩ dX7_eraseInRow_57 ?_ (fun _ _ _ z => z.elim)
          intro r2 h2 n2 hq _
          rw [hq.1, hq.2.1, hq.2.2]
          show pw E YX7_eraseInRow _ _ 0 0 60 [some (.ref (I 0)), some (.int (zI (how))), some (.int (zI (F 5))), some (.int (zI ((F 5) + (1))))] [.int (zI (F 8 * 128 + 32)), .int (zI ((F 5) + (1))), .int (zI (F 5)), .int (zI (F 6)), .ref (I (sq F + 5))] (scPut w H N NH I (va_up F 7 (0)) (shM F m (shG F m o)) (shO F o (shG F m o)) T c l h) n
          refine pw_callV (As := [.int (zI (F 6)), .int (zI (F 5)), .int (zI ((F 5) + (1))), .int (zI (F 8 * 128 + 32))]) (b := (I (sq F + 5))) (rm := rmD 2 0 0) (mX0_fill htr (scSg (scAt_put hA)) (scSx hA) (scSne hA) (by omega) (by omega) gN gN2 (by omega) (by omega) (by omega) (by omega)) rfl (scSg (scAt_put hA)) rfl rfl ywX0_fill rfl cwX7_139 ⟨nle rfl, nle rfl⟩ (nle rfl) ⟨nle rfl, nle rfl⟩ dX7_eraseInRow_60 ?_ (fun _ _ _ z => z.elim)
          intro r2 h2 n2 hq _
          rw [hq.1, hq.2.1, hq.2.2]
          show pw E YX7_eraseInRow _ _ 0 0 63 [some (.ref (I 0)), some (.int (zI (how))), some (.int (zI (F 5))), some (.int (zI ((F 5) + (1))))] [] (va_up (scPut w H N NH I (va_up F 7 (0)) (shM F m (shG F m o)) (shO F o (shG F m o)) T c l h) (I (sq F)) (pz_z 0 N (gfill w H (F 6) (F 5) ((F 5) + (1)) (F 8 * 128 + 32) (shG F m o)))) n
          refine pw_h (scUS hA) ?_
          exact pw_vret dX7_eraseInRow_63 rfl (nle rfl) (nle rfl) ⟨rfl, by unfold sErow; rw [if_pos (by omega)]; first | (exfalso; omega) | rw [if_pos (show how = 0 by omega), if_neg (show ¬ how = 1 by omega)] | rw [if_neg (show ¬ how = 0 by omega), if_pos (show how = 1 by omega)] | rw [if_neg (show ¬ how = 0 by omega), if_neg (show ¬ how = 1 by omega)], rfl⟩
set_option maxHeartbeats 4000000 in
set_option maxRecDepth 100000 in
theorem lX7_raise {E : pw_E} (htr : E.1.stackTraces = false) {h : pz_H} {n : Nat} {w H : Int} {N NH : Nat} {I : Nat → Nat} {F m o T c l : Nat → Int} (hG : geo w H N NH) (hA : scAt w H N NH I F m o T c l h) (hO : scOk w H F T) {a k : Int} {K : pw_K} (ha : 0 ≤ a) (hk : 0 ≤ k ∧ k ≤ 1000) : ∀ (j : Nat) (r : Int) (f : Nat → Int), (F 13 + 1 - r).toNat = j → a ≤ r → r ≤ F 13 + 1 → K.2.2.1 none (scPut w H N NH I F (shM F m (sRaise w H (F 13) (F 3) k (F 8 * 128 + 32) j r f)) (shO F o (sRaise w H (F 13) (F 3) k (F 8 * 128 + 32) j r f)) T c l h) n → pw E YX7_raiseRows (rmD 3 0 0) K 0 0 8 [some (.ref (I 0)), some (.int (zI (a))), some (.int (zI (k))), some (.ref (I (sq F + 5))), some (.int (zI (r)))] [] (scPut w H N NH I F (shM F m f) (shO F o f) T c l h) n := by
  have hG0 := hG
  have hO0 := hO
  obtain ⟨gw, gH, gN, gN2, gNH⟩ := hG
  obtain ⟨o3, o4, o5, o6, o7, o8, o9, o10, o11, o12, o14, o15, o16, o17, oT3, oT4⟩ := hO
  intro j
  induction j with
  | zero =>
    intro r f hj h1 h2 hQ
    refine pw_iload dX7_raiseRows_8 rfl ?_
    refine pw_aload_n dX7_raiseRows_10 rfl ?_
    refine pw_get (v := .int (zI (F 13))) okX7 (k := 13) (by decide) lkX7_64 (scAt_put hA).1.1 rfl dX7_raiseRows_11 ?_
    refine pw_icmp_gt (tgt := 62) dX7_raiseRows_14 rfl (by omega) (by omega) (fun c14 => ?_) (fun c14 => ?_)
    ·
      exact pw_vret dX7_raiseRows_62 rfl (nle rfl) (nle rfl) (by exact hQ)
    · exfalso; omega
  | succ j ih =>
    intro r f hj h1 h2 hQ
    refine pw_iload dX7_raiseRows_8 rfl ?_
    refine pw_aload_n dX7_raiseRows_10 rfl ?_
    refine pw_get (v := .int (zI (F 13))) okX7 (k := 13) (by decide) lkX7_64 (scAt_put hA).1.1 rfl dX7_raiseRows_11 ?_
    refine pw_icmp_gt (tgt := 62) dX7_raiseRows_14 rfl (by omega) (by omega) (fun c14 => ?_) (fun c14 => ?_)
    · exfalso; omega
    ·
      refine pw_iload dX7_raiseRows_17 rfl ?_
      refine pw_iload_n dX7_raiseRows_19 rfl ?_
      refine pw_ziadd dX7_raiseRows_20 ?_
      refine pw_aload_n dX7_raiseRows_21 rfl ?_
      refine pw_get (v := .int (zI (F 13))) okX7 (k := 13) (by decide) lkX7_64 (scAt_put hA).1.1 rfl dX7_raiseRows_22 ?_
      refine pw_icmp_gt (tgt := 41) dX7_raiseRows_25 rfl (by omega) (by omega) (fun c25 => ?_) (fun c25 => ?_)
      ·
        refine pw_aload_n dX7_raiseRows_41 rfl ?_
        refine pw_iload dX7_raiseRows_42 rfl ?_
        refine pw_iconst (v := zI (0)) dX7_raiseRows_44 (by decide) ?_
        refine pw_aload_n dX7_raiseRows_45 rfl ?_
        refine pw_get (v := .int (zI (F 3))) okX7 (k := 3) (by decide) lkX7_76 (scAt_put hA).1.1 rfl dX7_raiseRows_46 ?_
        refine pw_aload_n dX7_raiseRows_49 rfl ?_
        refine pw_callV (As := []) (b := (I 0)) (rm := rmD 0 0 0) (mX7_blank htr hG0 (scAt_put hA) (hO0)) rfl (scAt_put hA).1.1 rfl rfl ywX7_blank rfl cwX7_135 ⟨nle rfl, nle rfl⟩ (nle rfl) ⟨nle rfl, nle rfl⟩ dX7_raiseRows_50 ?_ (fun _ _ _ z => z.elim)
        intro r2 h2 n2 hq _
        rw [hq.1, hq.2.1, hq.2.2]
        show pw E YX7_raiseRows _ _ 0 0 53 [some (.ref (I 0)), some (.int (zI (a))), some (.int (zI (k))), some (.ref (I (sq F + 5))), some (.int (zI (r)))] [.int (zI (F 8 * 128 + 32)), .int (zI (F 3)), .int (zI (0)), .int (zI (r)), .ref (I (sq F + 5))] (scPut w H N NH I F (shM F m f) (shO F o f) T c l h) n
        refine pw_callV (As := [.int (zI (r)), .int (zI (0)), .int (zI (F 3)), .int (zI (F 8 * 128 + 32))]) (b := (I (sq F + 5))) (rm := rmD 2 0 0) (mX0_fill htr (scSg (scAt_put hA)) (scSx hA) (scSne hA) (by omega) (by omega) gN gN2 (by omega) (by omega) (by omega) (by omega)) rfl (scSg (scAt_put hA)) rfl rfl ywX0_fill rfl cwX7_139 ⟨nle rfl, nle rfl⟩ (nle rfl) ⟨nle rfl, nle rfl⟩ dX7_raiseRows_53 ?_ (fun _ _ _ z => z.elim)
        intro r2 h2 n2 hq _
        rw [hq.1, hq.2.1, hq.2.2]
        show pw E YX7_raiseRows _ _ 0 0 56 [some (.ref (I 0)), some (.int (zI (a))), some (.int (zI (k))), some (.ref (I (sq F + 5))), some (.int (zI (r)))] [] (va_up (scPut w H N NH I F (shM F m f) (shO F o f) T c l h) (I (sq F)) (pz_z 0 N (gfill w H (r) (0) (F 3) (F 8 * 128 + 32) f))) n
        refine pw_h (scUS hA) ?_
        refine pw_ziinc (lv' := [some (.ref (I 0)), some (.int (zI (a))), some (.int (zI (k))), some (.ref (I (sq F + 5))), some (.int (zI (r + 1)))]) dX7_raiseRows_56 rfl (by decide) rfl rfl ?_
        refine pw_goto (tgt := 8) dX7_raiseRows_59 rfl ?_
        rw [show sRaise w H (F 13) (F 3) k (F 8 * 128 + 32) (j + 1) r f = sRaise w H (F 13) (F 3) k (F 8 * 128 + 32) j (r + 1) (if r + k ≤ F 13 then gmoveRow w H (r + k) r f else gfill w H r 0 (F 3) (F 8 * 128 + 32) f) from rfl] at hQ
        first | rw [if_pos (show r + k ≤ F 13 by omega)] at hQ | rw [if_neg (show ¬ r + k ≤ F 13 by omega)] at hQ
        exact ih (r + 1) _ (by omega) (by omega) (by omega) hQ
      ·
        refine pw_aload_n dX7_raiseRows_28 rfl ?_
        refine pw_iload dX7_raiseRows_29 rfl ?_
        refine pw_iload_n dX7_raiseRows_31 rfl ?_
        refine pw_ziadd dX7_raiseRows_32 ?_
        refine pw_iload dX7_raiseRows_33 rfl ?_
        refine pw_callV (As := [.int (zI (r + k)), .int (zI (r))]) (b := (I (sq F + 5))) (rm := rmD 1 0 0) (mX0_moveRow htr (scSg (scAt_put hA)) (scSx hA) (scSne hA) (by omega) (by omega) gN gN2 (by omega) (by omega)) rfl (scSg (scAt_put hA)) rfl rfl ywX0_moveRow rfl cwX7_132 ⟨nle rfl, nle rfl⟩ (nle rfl) ⟨nle rfl, nle rfl⟩ dX7_raiseRows_35 ?_ (fun _ _ _ z => z.elim)
        intro r2 h2 n2 hq _
        rw [hq.1, hq.2.1, hq.2.2]
        show pw E YX7_raiseRows _ _ 0 0 38 [some (.ref (I 0)), some (.int (zI (a))), some (.int (zI (k))), some (.ref (I (sq F + 5))), some (.int (zI (r)))] [] (va_up (scPut w H N NH I F (shM F m f) (shO F o f) T c l h) (I (sq F)) (pz_z 0 N (gmoveRow w H (r + k) (r) f))) n
        refine pw_h (scUS hA) ?_
        refine pw_goto (tgt := 56) dX7_raiseRows_38 rfl ?_
        refine pw_ziinc (lv' := [some (.ref (I 0)), some (.int (zI (a))), some (.int (zI (k))), some (.ref (I (sq F + 5))), some (.int (zI (r + 1)))]) dX7_raiseRows_56 rfl (by decide) rfl rfl ?_
        refine pw_goto (tgt := 8) dX7_raiseRows_59 rfl ?_
        rw [show sRaise w H (F 13) (F 3) k (F 8 * 128 + 32) (j + 1) r f = sRaise w H (F 13) (F 3) k (F 8 * 128 + 32) j (r + 1) (if r + k ≤ F 13 then gmoveRow w H (r + k) r f else gfill w H r 0 (F 3) (F 8 * 128 + 32) f) from rfl] at hQ
        first | rw [if_pos (show r + k ≤ F 13 by omega)] at hQ | rw [if_neg (show ¬ r + k ≤ F 13 by omega)] at hQ
        exact ih (r + 1) _ (by omega) (by omega) (by omega) hQ
set_option maxHeartbeats 4000000 in
set_option maxRecDepth 100000 in
/-- Screen.raiseRows(a, k) -/
theorem mX7_raiseRows {E : pw_E} (htr : E.1.stackTraces = false) {h : pz_H} {n : Nat} {w H : Int} {N NH : Nat} {I : Nat → Nat} {F m o T c l : Nat → Int} (hG : geo w H N NH) (hA : scAt w H N NH I F m o T c l h) (hO : scOk w H F T) {a k : Int} (h_a : -2147483648 ≤ a ∧ a < 2147483648) (h_k : -2147483648 ≤ k ∧ k < 2147483648) (ha : 0 ≤ a ∧ a ≤ F 13) (hk : 0 ≤ k ∧ k ≤ 1000) : pw_M E yX7_raiseRows YX7_raiseRows (rmD 3 0 0) [.ref (I 0), .int (zI (a)), .int (zI (k))] h n (fun r h' n' => r = none ∧ h' = scPut w H N NH I F (shM F m (sRaise w H (F 13) (F 3) k (F 8 * 128 + 32) (F 13 + 1 - a).toNat a (shG F m o))) (shO F o (sRaise w H (F 13) (F 3) k (F 8 * 128 + 32) (F 13 + 1 - a).toNat a (shG F m o))) T c l h ∧ n' = n) (fun _ _ _ => False) := by
  have hG0 := hG
  have hO0 := hO
  obtain ⟨gw, gH, gN, gN2, gNH⟩ := hG
  obtain ⟨o3, o4, o5, o6, o7, o8, o9, o10, o11, o12, o14, o15, o16, o17, oT3, oT4⟩ := hO
  refine pw_M_of (lv := [some (.ref (I 0)), some (.int (zI (a))), some (.int (zI (k))), none, none]) (by decide) rfl rfl htr (nle rfl) rfl (fun L => ?_)
  refine pw_h (scPut_idS hA).symm ?_
  refine pw_aload_n dX7_raiseRows_0 rfl ?_
  refine pw_callV (As := []) (b := (I 0)) (rm := rmD 0 0 0) (mX7_shown htr hG0 (scAt_put hA) (hO0)) rfl (scAt_put hA).1.1 rfl rfl ywX7_shown rfl cwX7_95 ⟨nle rfl, nle rfl⟩ (nle rfl) ⟨nle rfl, nle rfl⟩ dX7_raiseRows_1 ?_ (fun _ _ _ z => z.elim)
  intro r2 h2 n2 hq _
  rw [hq.1, hq.2.1, hq.2.2]
  show pw E YX7_raiseRows _ _ 0 0 4 [some (.ref (I 0)), some (.int (zI (a))), some (.int (zI (k))), none, none] [.ref (I (sq F + 5))] (scPut w H N NH I F (shM F m (shG F m o)) (shO F o (shG F m o)) T c l h) n
  refine pw_astore_n (lv' := [some (.ref (I 0)), some (.int (zI (a))), some (.int (zI (k))), some (.ref (I (sq F + 5))), none]) dX7_raiseRows_4 (by decide) rfl rfl ?_
  refine pw_iload_n dX7_raiseRows_5 rfl ?_
  refine pw_istore (lv' := [some (.ref (I 0)), some (.int (zI (a))), some (.int (zI (k))), some (.ref (I (sq F + 5))), some (.int (zI (a)))]) dX7_raiseRows_6 (by decide) rfl rfl ?_
  exact lX7_raise htr hG0 hA hO0 ha.1 hk _ _ _ rfl (by omega) (by omega) ⟨rfl, rfl, rfl⟩
set_option maxHeartbeats 4000000 in
set_option maxRecDepth 100000 in
theorem lX7_lower {E : pw_E} (htr : E.1.stackTraces = false) {h : pz_H} {n : Nat} {w H : Int} {N NH : Nat} {I : Nat → Nat} {F m o T c l : Nat → Int} (hG : geo w H N NH) (hA : scAt w H N NH I F m o T c l h) (hO : scOk w H F T) {a k : Int} {K : pw_K} (ha : 0 ≤ a) (hk : 0 ≤ k ∧ k ≤ 1000) : ∀ (j : Nat) (r : Int) (f : Nat → Int), (r + 1 - a).toNat = j → a ≤ r + 1 → r ≤ F 13 → K.2.2.1 none (scPut w H N NH I F (shM F m (sLower w H a (F 3) k (F 8 * 128 + 32) j r f)) (shO F o (sLower w H a (F 3) k (F 8 * 128 + 32) j r f)) T c l h) n → pw E YX7_lowerRows (rmD 3 0 0) K 0 0 11 [some (.ref (I 0)), some (.int (zI (a))), some (.int (zI (k))), some (.ref (I (sq F + 5))), some (.int (zI (r)))] [] (scPut w H N NH I F (shM F m f) (shO F o f) T c l h) n := by
  have hG0 := hG
  have hO0 := hO
  obtain ⟨gw, gH, gN, gN2, gNH⟩ := hG
  obtain ⟨o3, o4, o5, o6, o7, o8, o9, o10, o11, o12, o14, o15, o16, o17, oT3, oT4⟩ := hO
  intro j
  induction j with
  | zero =>
    intro r f hj h1 h2 hQ
    refine pw_iload dX7_lowerRows_11 rfl ?_
    refine pw_iload_n dX7_lowerRows_13 rfl ?_
    refine pw_icmp_lt (tgt := 59) dX7_lowerRows_14 rfl (by omega) (by omega) (fun c14 => ?_) (fun c14 => ?_)
    ·
      exact pw_vret dX7_lowerRows_59 rfl (nle rfl) (nle rfl) (by exact hQ)
    · exfalso; omega
  | succ j ih =>
    intro r f hj h1 h2 hQ
    refine pw_iload dX7_lowerRows_11 rfl ?_
    refine pw_iload_n dX7_lowerRows_13 rfl ?_
    refine pw_icmp_lt (tgt := 59) dX7_lowerRows_14 rfl (by omega) (by omega) (fun c14 => ?_) (fun c14 => ?_)
    · exfalso; omega
    ·
      refine pw_iload dX7_lowerRows_17 rfl ?_
      refine pw_iload_n dX7_lowerRows_19 rfl ?_
      refine pw_zisub dX7_lowerRows_20 ?_
      refine pw_iload_n dX7_lowerRows_21 rfl ?_
      refine pw_icmp_lt (tgt := 38) dX7_lowerRows_22 rfl (by omega) (by omega) (fun c22 => ?_) (fun c22 => ?_)
      ·
        refine pw_aload_n dX7_lowerRows_38 rfl ?_
        refine pw_iload dX7_lowerRows_39 rfl ?_
        refine pw_iconst (v := zI (0)) dX7_lowerRows_41 (by decide) ?_
        refine pw_aload_n dX7_lowerRows_42 rfl ?_
        refine pw_get (v := .int (zI (F 3))) okX7 (k := 3) (by decide) lkX7_76 (scAt_put hA).1.1 rfl dX7_lowerRows_43 ?_
        refine pw_aload_n dX7_lowerRows_46 rfl ?_
        refine pw_callV (As := []) (b := (I 0)) (rm := rmD 0 0 0) (mX7_blank htr hG0 (scAt_put hA) (hO0)) rfl (scAt_put hA).1.1 rfl rfl ywX7_blank rfl cwX7_135 ⟨nle rfl, nle rfl⟩ (nle rfl) ⟨nle rfl, nle rfl⟩ dX7_lowerRows_47 ?_ (fun _ _ _ z => z.elim)
        intro r2 h2 n2 hq _
        rw [hq.1, hq.2.1, hq.2.2]
        show pw E YX7_lowerRows _ _ 0 0 50 [some (.ref (I 0)), some (.int (zI (a))), some (.int (zI (k))), some (.ref (I (sq F + 5))), some (.int (zI (r)))] [.int (zI (F 8 * 128 + 32)), .int (zI (F 3)), .int (zI (0)), .int (zI (r)), .ref (I (sq F + 5))] (scPut w H N NH I F (shM F m f) (shO F o f) T c l h) n
        refine pw_callV (As := [.int (zI (r)), .int (zI (0)), .int (zI (F 3)), .int (zI (F 8 * 128 + 32))]) (b := (I (sq F + 5))) (rm := rmD 2 0 0) (mX0_fill htr (scSg (scAt_put hA)) (scSx hA) (scSne hA) (by omega) (by omega) gN gN2 (by omega) (by omega) (by omega) (by omega)) rfl (scSg (scAt_put hA)) rfl rfl ywX0_fill rfl cwX7_139 ⟨nle rfl, nle rfl⟩ (nle rfl) ⟨nle rfl, nle rfl⟩ dX7_lowerRows_50 ?_ (fun _ _ _ z => z.elim)
        intro r2 h2 n2 hq _
        rw [hq.1, hq.2.1, hq.2.2]
        show pw E YX7_lowerRows _ _ 0 0 53 [some (.ref (I 0)), some (.int (zI (a))), some (.int (zI (k))), some (.ref (I (sq F + 5))), some (.int (zI (r)))] [] (va_up (scPut w H N NH I F (shM F m f) (shO F o f) T c l h) (I (sq F)) (pz_z 0 N (gfill w H (r) (0) (F 3) (F 8 * 128 + 32) f))) n
        refine pw_h (scUS hA) ?_
        refine pw_ziinc (lv' := [some (.ref (I 0)), some (.int (zI (a))), some (.int (zI (k))), some (.ref (I (sq F + 5))), some (.int (zI (r + (-1))))]) dX7_lowerRows_53 rfl (by decide) rfl rfl ?_
        refine pw_goto (tgt := 11) dX7_lowerRows_56 rfl ?_
        rw [show sLower w H a (F 3) k (F 8 * 128 + 32) (j + 1) r f = sLower w H a (F 3) k (F 8 * 128 + 32) j (r + (-1)) (if a ≤ r - k then gmoveRow w H (r - k) r f else gfill w H r 0 (F 3) (F 8 * 128 + 32) f) from rfl] at hQ
        first | rw [if_pos (show a ≤ r - k by omega)] at hQ | rw [if_neg (show ¬ a ≤ r - k by omega)] at hQ
        exact ih (r + (-1)) _ (by omega) (by omega) (by omega) hQ
      ·
        refine pw_aload_n dX7_lowerRows_25 rfl ?_
        refine pw_iload dX7_lowerRows_26 rfl ?_
        refine pw_iload_n dX7_lowerRows_28 rfl ?_
        refine pw_zisub dX7_lowerRows_29 ?_
        refine pw_iload dX7_lowerRows_30 rfl ?_
        refine pw_callV (As := [.int (zI (r - k)), .int (zI (r))]) (b := (I (sq F + 5))) (rm := rmD 1 0 0) (mX0_moveRow htr (scSg (scAt_put hA)) (scSx hA) (scSne hA) (by omega) (by omega) gN gN2 (by omega) (by omega)) rfl (scSg (scAt_put hA)) rfl rfl ywX0_moveRow rfl cwX7_132 ⟨nle rfl, nle rfl⟩ (nle rfl) ⟨nle rfl, nle rfl⟩ dX7_lowerRows_32 ?_ (fun _ _ _ z => z.elim)
        intro r2 h2 n2 hq _
        rw [hq.1, hq.2.1, hq.2.2]
        show pw E YX7_lowerRows _ _ 0 0 35 [some (.ref (I 0)), some (.int (zI (a))), some (.int (zI (k))), some (.ref (I (sq F + 5))), some (.int (zI (r)))] [] (va_up (scPut w H N NH I F (shM F m f) (shO F o f) T c l h) (I (sq F)) (pz_z 0 N (gmoveRow w H (r - k) (r) f))) n
        refine pw_h (scUS hA) ?_
        refine pw_goto (tgt := 53) dX7_lowerRows_35 rfl ?_
        refine pw_ziinc (lv' := [some (.ref (I 0)), some (.int (zI (a))), some (.int (zI (k))), some (.ref (I (sq F + 5))), some (.int (zI (r + (-1))))]) dX7_lowerRows_53 rfl (by decide) rfl rfl ?_
        refine pw_goto (tgt := 11) dX7_lowerRows_56 rfl ?_
        rw [show sLower w H a (F 3) k (F 8 * 128 + 32) (j + 1) r f = sLower w H a (F 3) k (F 8 * 128 + 32) j (r + (-1)) (if a ≤ r - k then gmoveRow w H (r - k) r f else gfill w H r 0 (F 3) (F 8 * 128 + 32) f) from rfl] at hQ
        first | rw [if_pos (show a ≤ r - k by omega)] at hQ | rw [if_neg (show ¬ a ≤ r - k by omega)] at hQ
        exact ih (r + (-1)) _ (by omega) (by omega) (by omega) hQ
set_option maxHeartbeats 4000000 in
set_option maxRecDepth 100000 in
/-- Screen.lowerRows(a, k) -/
theorem mX7_lowerRows {E : pw_E} (htr : E.1.stackTraces = false) {h : pz_H} {n : Nat} {w H : Int} {N NH : Nat} {I : Nat → Nat} {F m o T c l : Nat → Int} (hG : geo w H N NH) (hA : scAt w H N NH I F m o T c l h) (hO : scOk w H F T) {a k : Int} (h_a : -2147483648 ≤ a ∧ a < 2147483648) (h_k : -2147483648 ≤ k ∧ k < 2147483648) (ha : 0 ≤ a ∧ a ≤ F 13) (hk : 0 ≤ k ∧ k ≤ 1000) : pw_M E yX7_lowerRows YX7_lowerRows (rmD 3 0 0) [.ref (I 0), .int (zI (a)), .int (zI (k))] h n (fun r h' n' => r = none ∧ h' = scPut w H N NH I F (shM F m (sLower w H a (F 3) k (F 8 * 128 + 32) (F 13 + 1 - a).toNat (F 13) (shG F m o))) (shO F o (sLower w H a (F 3) k (F 8 * 128 + 32) (F 13 + 1 - a).toNat (F 13) (shG F m o))) T c l h ∧ n' = n) (fun _ _ _ => False) := by
  have hG0 := hG
  have hO0 := hO
  obtain ⟨gw, gH, gN, gN2, gNH⟩ := hG
  obtain ⟨o3, o4, o5, o6, o7, o8, o9, o10, o11, o12, o14, o15, o16, o17, oT3, oT4⟩ := hO
  refine pw_M_of (lv := [some (.ref (I 0)), some (.int (zI (a))), some (.int (zI (k))), none, none]) (by decide) rfl rfl htr (nle rfl) rfl (fun L => ?_)
  refine pw_h (scPut_idS hA).symm ?_
  refine pw_aload_n dX7_lowerRows_0 rfl ?_
  refine pw_callV (As := []) (b := (I 0)) (rm := rmD 0 0 0) (mX7_shown htr hG0 (scAt_put hA) (hO0)) rfl (scAt_put hA).1.1 rfl rfl ywX7_shown rfl cwX7_95 ⟨nle rfl, nle rfl⟩ (nle rfl) ⟨nle rfl, nle rfl⟩ dX7_lowerRows_1 ?_ (fun _ _ _ z => z.elim)
  intro r2 h2 n2 hq _
  rw [hq.1, hq.2.1, hq.2.2]
  show pw E YX7_lowerRows _ _ 0 0 4 [some (.ref (I 0)), some (.int (zI (a))), some (.int (zI (k))), none, none] [.ref (I (sq F + 5))] (scPut w H N NH I F (shM F m (shG F m o)) (shO F o (shG F m o)) T c l h) n
  refine pw_astore_n (lv' := [some (.ref (I 0)), some (.int (zI (a))), some (.int (zI (k))), some (.ref (I (sq F + 5))), none]) dX7_lowerRows_4 (by decide) rfl rfl ?_
  refine pw_aload_n dX7_lowerRows_5 rfl ?_
  refine pw_get (v := .int (zI (F 13))) okX7 (k := 13) (by decide) lkX7_64 (scAt_put hA).1.1 rfl dX7_lowerRows_6 ?_
  refine pw_istore (lv' := [some (.ref (I 0)), some (.int (zI (a))), some (.int (zI (k))), some (.ref (I (sq F + 5))), some (.int (zI (F 13)))]) dX7_lowerRows_9 (by decide) rfl rfl ?_
  exact lX7_lower htr hG0 hA hO0 ha.1 hk _ _ _ rfl (by omega) (by omega) ⟨rfl, rfl, rfl⟩
set_option maxHeartbeats 4000000 in
set_option maxRecDepth 100000 in
/-- Screen.scrollDown(k) -/
theorem mX7_scrollDown {E : pw_E} (htr : E.1.stackTraces = false) {h : pz_H} {n : Nat} {w H : Int} {N NH : Nat} {I : Nat → Nat} {F m o T c l : Nat → Int} (hG : geo w H N NH) (hA : scAt w H N NH I F m o T c l h) (hO : scOk w H F T) {k : Int} (h_k : -2147483648 ≤ k ∧ k < 2147483648) (hk : 0 ≤ k ∧ k ≤ 1000) : pw_M E yX7_scrollDown YX7_scrollDown (rmD 4 0 0) [.ref (I 0), .int (zI (k))] h n (fun r h' n' => r = none ∧ h' = scPut w H N NH I (va_up F 7 0) (shM F m (sLower w H (F 12) (F 3) k (F 8 * 128 + 32) (F 13 + 1 - F 12).toNat (F 13) (shG F m o))) (shO F o (sLower w H (F 12) (F 3) k (F 8 * 128 + 32) (F 13 + 1 - F 12).toNat (F 13) (shG F m o))) T c l h ∧ n' = n) (fun _ _ _ => False) := by
  have hG0 := hG
  have hO0 := hO
  obtain ⟨gw, gH, gN, gN2, gNH⟩ := hG
  obtain ⟨o3, o4, o5, o6, o7, o8, o9, o10, o11, o12, o14, o15, o16, o17, oT3, oT4⟩ := hO
  refine pw_M_of (lv := [some (.ref (I 0)), some (.int (zI (k)))]) (by decide) rfl rfl htr (nle rfl) rfl (fun L => ?_)
  refine pw_h (scPut_id hA).symm ?_
  refine pw_aload_n dX7_scrollDown_0 rfl ?_
  refine pw_iconst (v := zI (0)) dX7_scrollDown_1 (by decide) ?_
  refine pw_put (fs' := (scObj I (va_up F 7 (0)))) okX7 (k := 7) (by decide) lkX7_49 rfl (by decide) (by decide) (scAt_put hA).1.1 (nlt rfl) rfl dX7_scrollDown_2 ?_
  refine pw_h (scU0 hA) ?_
  refine pw_aload_n dX7_scrollDown_5 rfl ?_
  refine pw_aload_n dX7_scrollDown_6 rfl ?_
  refine pw_get (v := .int (zI (F 12))) okX7 (k := 12) (by decide) lkX7_58 (scAt_put hA).1.1 rfl dX7_scrollDown_7 ?_
  refine pw_iload_n dX7_scrollDown_10 rfl ?_
  refine pw_callV (As := [.int (zI (F 12)), .int (zI (k))]) (b := (I 0)) (rm := rmD 3 0 0) (mX7_lowerRows htr hG0 (scAt_put hA) (scOk_7 hO0) (by omega) (by omega) ⟨by show 0 ≤ F 12; omega, by show F 12 ≤ F 13; omega⟩ (by omega)) rfl (scAt_put hA).1.1 rfl rfl ywX7_lowerRows rfl cwX7_129 ⟨nle rfl, nle rfl⟩ (nle rfl) ⟨nle rfl, nle rfl⟩ dX7_scrollDown_11 ?_ (fun _ _ _ z => z.elim)
  intro r2 h2 n2 hq _
  rw [hq.1, hq.2.1, hq.2.2]
  show pw E YX7_scrollDown _ _ 0 0 14 [some (.ref (I 0)), some (.int (zI (k)))] [] (scPut w H N NH I (va_up F 7 (0)) (shM F m (sLower w H (F 12) (F 3) (k) (F 8 * 128 + 32) (F 13 + 1 - (F 12)).toNat (F 13) (shG F m o))) (shO F o (sLower w H (F 12) (F 3) (k) (F 8 * 128 + 32) (F 13 + 1 - (F 12)).toNat (F 13) (shG F m o))) T c l (scPut w H N NH I (va_up F 7 (0)) m o T c l h)) n
  refine pw_h scPut_put ?_
  exact pw_vret dX7_scrollDown_14 rfl (nle rfl) (nle rfl) ⟨rfl, rfl, rfl⟩
theorem scOk_75 {w H : Int} {F T : Nat → Int} (hO : scOk w H F T) : scOk w H (va_up (va_up F 7 0) 5 0) T := by
  unfold scOk at *
  simp only [va_up]
  simp
  omega
/-- L and M -/
def sIn (F : Nat → Int) : Nat → Int := if F 12 ≤ F 6 ∧ F 6 ≤ F 13 then va_up (va_up F 7 0) 5 0 else va_up F 7 0
def sInX (F x y : Nat → Int) : Nat → Int := if F 12 ≤ F 6 ∧ F 6 ≤ F 13 then x else y
set_option maxHeartbeats 4000000 in
set_option maxRecDepth 100000 in
/-- Screen.insertRows(k) -/
theorem mX7_insertRows {E : pw_E} (htr : E.1.stackTraces = false) {h : pz_H} {n : Nat} {w H : Int} {N NH : Nat} {I : Nat → Nat} {F m o T c l : Nat → Int} (hG : geo w H N NH) (hA : scAt w H N NH I F m o T c l h) (hO : scOk w H F T) {k : Int} (h_k : -2147483648 ≤ k ∧ k < 2147483648) (hk : 0 ≤ k ∧ k ≤ 1000) : pw_M E yX7_insertRows YX7_insertRows (rmD 4 0 0) [.ref (I 0), .int (zI (k))] h n (fun r h' n' => r = none ∧ h' = scPut w H N NH I (sIn F) (shM F m (sInX F (sLower w H (F 6) (F 3) k (F 8 * 128 + 32) (F 13 + 1 - F 6).toNat (F 13) (shG F m o)) (shG F m o))) (shO F o (sInX F (sLower w H (F 6) (F 3) k (F 8 * 128 + 32) (F 13 + 1 - F 6).toNat (F 13) (shG F m o)) (shG F m o))) T c l h ∧ n' = n) (fun _ _ _ => False) := by
  have hG0 := hG
  have hO0 := hO
  obtain ⟨gw, gH, gN, gN2, gNH⟩ := hG
  obtain ⟨o3, o4, o5, o6, o7, o8, o9, o10, o11, o12, o14, o15, o16, o17, oT3, oT4⟩ := hO
  refine pw_M_of (lv := [some (.ref (I 0)), some (.int (zI (k)))]) (by decide) rfl rfl htr (nle rfl) rfl (fun L => ?_)
  refine pw_h (scPut_id hA).symm ?_
  refine pw_aload_n dX7_insertRows_0 rfl ?_
  refine pw_iconst (v := zI (0)) dX7_insertRows_1 (by decide) ?_
  refine pw_put (fs' := (scObj I (va_up F 7 (0)))) okX7 (k := 7) (by decide) lkX7_49 rfl (by decide) (by decide) (scAt_put hA).1.1 (nlt rfl) rfl dX7_insertRows_2 ?_
  refine pw_h (scU0 hA) ?_
  refine pw_aload_n dX7_insertRows_5 rfl ?_
  refine pw_get (v := .int (zI (F 6))) okX7 (k := 6) (by decide) lkX7_46 (scAt_put hA).1.1 rfl dX7_insertRows_6 ?_
  refine pw_aload_n dX7_insertRows_9 rfl ?_
  refine pw_get (v := .int (zI (F 12))) okX7 (k := 12) (by decide) lkX7_58 (scAt_put hA).1.1 rfl dX7_insertRows_10 ?_
  refine pw_icmp_lt (tgt := 41) dX7_insertRows_13 rfl (by omega) (by omega) (fun c13 => ?_) (fun c13 => ?_)
  ·
    exact pw_vret dX7_insertRows_41 rfl (nle rfl) (nle rfl) ⟨rfl, by unfold sIn sInX; rw [if_neg (show ¬ (F 12 ≤ F 6 ∧ F 6 ≤ F 13) by omega), if_neg (show ¬ (F 12 ≤ F 6 ∧ F 6 ≤ F 13) by omega), shM_G, shO_G], rfl⟩
  ·
    refine pw_aload_n dX7_insertRows_16 rfl ?_
    refine pw_get (v := .int (zI (F 6))) okX7 (k := 6) (by decide) lkX7_46 (scAt_put hA).1.1 rfl dX7_insertRows_17 ?_
    refine pw_aload_n dX7_insertRows_20 rfl ?_
    refine pw_get (v := .int (zI (F 13))) okX7 (k := 13) (by decide) lkX7_64 (scAt_put hA).1.1 rfl dX7_insertRows_21 ?_
    refine pw_icmp_gt (tgt := 41) dX7_insertRows_24 rfl (by omega) (by omega) (fun c24 => ?_) (fun c24 => ?_)
    ·
      exact pw_vret dX7_insertRows_41 rfl (nle rfl) (nle rfl) ⟨rfl, by unfold sIn sInX; rw [if_neg (show ¬ (F 12 ≤ F 6 ∧ F 6 ≤ F 13) by omega), if_neg (show ¬ (F 12 ≤ F 6 ∧ F 6 ≤ F 13) by omega), shM_G, shO_G], rfl⟩
    ·
      refine pw_aload_n dX7_insertRows_27 rfl ?_
      refine pw_aload_n dX7_insertRows_28 rfl ?_
      refine pw_get (v := .int (zI (F 6))) okX7 (k := 6) (by decide) lkX7_46 (scAt_put hA).1.1 rfl dX7_insertRows_29 ?_
      refine pw_iload_n dX7_insertRows_32 rfl ?_
      refine pw_callV (As := [.int (zI (F 6)), .int (zI (k))]) (b := (I 0)) (rm := rmD 3 0 0) (mX7_lowerRows htr hG0 (scAt_put hA) (scOk_7 hO0) (by omega) (by omega) ⟨by show 0 ≤ F 6; omega, by show F 6 ≤ F 13; omega⟩ (by omega)) rfl (scAt_put hA).1.1 rfl rfl ywX7_lowerRows rfl cwX7_129 ⟨nle rfl, nle rfl⟩ (nle rfl) ⟨nle rfl, nle rfl⟩ dX7_insertRows_33 ?_ (fun _ _ _ z => z.elim)
      intro r2 h2 n2 hq _
      rw [hq.1, hq.2.1, hq.2.2]
      show pw E YX7_insertRows _ _ 0 0 36 [some (.ref (I 0)), some (.int (zI (k)))] [] (scPut w H N NH I (va_up F 7 (0)) (shM F m (sLower w H (F 6) (F 3) (k) (F 8 * 128 + 32) (F 13 + 1 - (F 6)).toNat (F 13) (shG F m o))) (shO F o (sLower w H (F 6) (F 3) (k) (F 8 * 128 + 32) (F 13 + 1 - (F 6)).toNat (F 13) (shG F m o))) T c l (scPut w H N NH I (va_up F 7 (0)) m o T c l h)) n
      refine pw_h scPut_put ?_
      refine pw_aload_n dX7_insertRows_36 rfl ?_
      refine pw_iconst (v := zI (0)) dX7_insertRows_37 (by decide) ?_
      refine pw_put (fs' := (scObj I (va_up (va_up F 7 (0)) 5 (0)))) okX7 (k := 5) (by decide) lkX7_42 rfl rfl rfl (scAt_put hA).1.1 (nlt rfl) rfl dX7_insertRows_38 ?_
      refine pw_h (scU0 hA) ?_
      exact pw_vret dX7_insertRows_41 rfl (nle rfl) (nle rfl) ⟨rfl, by unfold sIn sInX; rw [if_pos (show F 12 ≤ F 6 ∧ F 6 ≤ F 13 by omega), if_pos (show F 12 ≤ F 6 ∧ F 6 ≤ F 13 by omega)], rfl⟩
set_option maxHeartbeats 4000000 in
set_option maxRecDepth 100000 in
/-- Screen.deleteRows(k) -/
theorem mX7_deleteRows {E : pw_E} (htr : E.1.stackTraces = false) {h : pz_H} {n : Nat} {w H : Int} {N NH : Nat} {I : Nat → Nat} {F m o T c l : Nat → Int} (hG : geo w H N NH) (hA : scAt w H N NH I F m o T c l h) (hO : scOk w H F T) {k : Int} (h_k : -2147483648 ≤ k ∧ k < 2147483648) (hk : 0 ≤ k ∧ k ≤ 1000) : pw_M E yX7_deleteRows YX7_deleteRows (rmD 4 0 0) [.ref (I 0), .int (zI (k))] h n (fun r h' n' => r = none ∧ h' = scPut w H N NH I (sIn F) (shM F m (sInX F (sRaise w H (F 13) (F 3) k (F 8 * 128 + 32) (F 13 + 1 - F 6).toNat (F 6) (shG F m o)) (shG F m o))) (shO F o (sInX F (sRaise w H (F 13) (F 3) k (F 8 * 128 + 32) (F 13 + 1 - F 6).toNat (F 6) (shG F m o)) (shG F m o))) T c l h ∧ n' = n) (fun _ _ _ => False) := by
  have hG0 := hG
  have hO0 := hO
  obtain ⟨gw, gH, gN, gN2, gNH⟩ := hG
  obtain ⟨o3, o4, o5, o6, o7, o8, o9, o10, o11, o12, o14, o15, o16, o17, oT3, oT4⟩ := hO
  refine pw_M_of (lv := [some (.ref (I 0)), some (.int (zI (k)))]) (by decide) rfl rfl htr (nle rfl) rfl (fun L => ?_)
  refine pw_h (scPut_id hA).symm ?_
  refine pw_aload_n dX7_deleteRows_0 rfl ?_
  refine pw_iconst (v := zI (0)) dX7_deleteRows_1 (by decide) ?_
  refine pw_put (fs' := (scObj I (va_up F 7 (0)))) okX7 (k := 7) (by decide) lkX7_49 rfl (by decide) (by decide) (scAt_put hA).1.1 (nlt rfl) rfl dX7_deleteRows_2 ?_
  refine pw_h (scU0 hA) ?_
  refine pw_aload_n dX7_deleteRows_5 rfl ?_
  refine pw_get (v := .int (zI (F 6))) okX7 (k := 6) (by decide) lkX7_46 (scAt_put hA).1.1 rfl dX7_deleteRows_6 ?_
  refine pw_aload_n dX7_deleteRows_9 rfl ?_
  refine pw_get (v := .int (zI (F 12))) okX7 (k := 12) (by decide) lkX7_58 (scAt_put hA).1.1 rfl dX7_deleteRows_10 ?_
  refine pw_icmp_lt (tgt := 41) dX7_deleteRows_13 rfl (by omega) (by omega) (fun c13 => ?_) (fun c13 => ?_)
  ·
    exact pw_vret dX7_deleteRows_41 rfl (nle rfl) (nle rfl) ⟨rfl, by unfold sIn sInX; rw [if_neg (show ¬ (F 12 ≤ F 6 ∧ F 6 ≤ F 13) by omega), if_neg (show ¬ (F 12 ≤ F 6 ∧ F 6 ≤ F 13) by omega), shM_G, shO_G], rfl⟩
  ·
    refine pw_aload_n dX7_deleteRows_16 rfl ?_
    refine pw_get (v := .int (zI (F 6))) okX7 (k := 6) (by decide) lkX7_46 (scAt_put hA).1.1 rfl dX7_deleteRows_17 ?_
    refine pw_aload_n dX7_deleteRows_20 rfl ?_
    refine pw_get (v := .int (zI (F 13))) okX7 (k := 13) (by decide) lkX7_64 (scAt_put hA).1.1 rfl dX7_deleteRows_21 ?_
    refine pw_icmp_gt (tgt := 41) dX7_deleteRows_24 rfl (by omega) (by omega) (fun c24 => ?_) (fun c24 => ?_)
    ·
      exact pw_vret dX7_deleteRows_41 rfl (nle rfl) (nle rfl) ⟨rfl, by unfold sIn sInX; rw [if_neg (show ¬ (F 12 ≤ F 6 ∧ F 6 ≤ F 13) by omega), if_neg (show ¬ (F 12 ≤ F 6 ∧ F 6 ≤ F 13) by omega), shM_G, shO_G], rfl⟩
    ·
      refine pw_aload_n dX7_deleteRows_27 rfl ?_
      refine pw_aload_n dX7_deleteRows_28 rfl ?_
      refine pw_get (v := .int (zI (F 6))) okX7 (k := 6) (by decide) lkX7_46 (scAt_put hA).1.1 rfl dX7_deleteRows_29 ?_
      refine pw_iload_n dX7_deleteRows_32 rfl ?_
      refine pw_callV (As := [.int (zI (F 6)), .int (zI (k))]) (b := (I 0)) (rm := rmD 3 0 0) (mX7_raiseRows htr hG0 (scAt_put hA) (scOk_7 hO0) (by omega) (by omega) ⟨by show 0 ≤ F 6; omega, by show F 6 ≤ F 13; omega⟩ (by omega)) rfl (scAt_put hA).1.1 rfl rfl ywX7_raiseRows rfl cwX7_126 ⟨nle rfl, nle rfl⟩ (nle rfl) ⟨nle rfl, nle rfl⟩ dX7_deleteRows_33 ?_ (fun _ _ _ z => z.elim)
      intro r2 h2 n2 hq _
      rw [hq.1, hq.2.1, hq.2.2]
      show pw E YX7_deleteRows _ _ 0 0 36 [some (.ref (I 0)), some (.int (zI (k)))] [] (scPut w H N NH I (va_up F 7 (0)) (shM F m (sRaise w H (F 13) (F 3) (k) (F 8 * 128 + 32) (F 13 + 1 - (F 6)).toNat (F 6) (shG F m o))) (shO F o (sRaise w H (F 13) (F 3) (k) (F 8 * 128 + 32) (F 13 + 1 - (F 6)).toNat (F 6) (shG F m o))) T c l (scPut w H N NH I (va_up F 7 (0)) m o T c l h)) n
      refine pw_h scPut_put ?_
      refine pw_aload_n dX7_deleteRows_36 rfl ?_
      refine pw_iconst (v := zI (0)) dX7_deleteRows_37 (by decide) ?_
      refine pw_put (fs' := (scObj I (va_up (va_up F 7 (0)) 5 (0)))) okX7 (k := 5) (by decide) lkX7_42 rfl rfl rfl (scAt_put hA).1.1 (nlt rfl) rfl dX7_deleteRows_38 ?_
      refine pw_h (scU0 hA) ?_
      exact pw_vret dX7_deleteRows_41 rfl (nle rfl) (nle rfl) ⟨rfl, by unfold sIn sInX; rw [if_pos (show F 12 ≤ F 6 ∧ F 6 ≤ F 13 by omega), if_pos (show F 12 ≤ F 6 ∧ F 6 ≤ F 13 by omega)], rfl⟩
set_option maxHeartbeats 4000000 in
set_option maxRecDepth 100000 in
theorem lX7_hist {E : pw_E} (htr : E.1.stackTraces = false) {h : pz_H} {n : Nat} {w H : Int} {N NH : Nat} {I : Nat → Nat} {F m o T c l : Nat → Int} (hG : geo w H N NH) (hA : scAt w H N NH I F m o T c l h) (hO : scOk w H F T) {k g : Int} {K : pw_K} (hg : g ≤ F 13 + 1) (kk : ∀ p : (Nat → Int) × (Nat → Int) × (Nat → Int), hOk p.1 → p = sHist w H NH (F 3) m g.toNat 0 (T, c, l) → ∀ i : Int, pw E YX7_scrollUp (rmD 5 0 0) K 0 0 59 [some (.ref (I 0)), some (.int (zI k)), some (.int (zI g)), some (.int (zI i))] [] (scPut w H N NH I F m o p.1 p.2.1 p.2.2 h) n) : ∀ (j : Nat) (i : Int) (p : (Nat → Int) × (Nat → Int) × (Nat → Int)), (g - i).toNat = j → 0 ≤ i → i ≤ g → hOk p.1 → sHist w H NH (F 3) m j i p = sHist w H NH (F 3) m g.toNat 0 (T, c, l) → pw E YX7_scrollUp (rmD 5 0 0) K 0 0 32 [some (.ref (I 0)), some (.int (zI (k))), some (.int (zI (g))), some (.int (zI (i)))] [] (scPut w H N NH I F m o p.1 p.2.1 p.2.2 h) n := by
  have hG0 := hG
  have hO0 := hO
  obtain ⟨gw, gH, gN, gN2, gNH⟩ := hG
  obtain ⟨o3, o4, o5, o6, o7, o8, o9, o10, o11, o12, o14, o15, o16, o17, oT3, oT4⟩ := hO
  intro j
  induction j with
  | zero =>
    intro i p hj h1 h2 hp hQ
    refine pw_iload_n dX7_scrollUp_32 rfl ?_
    refine pw_iload_n dX7_scrollUp_33 rfl ?_
    refine pw_icmp_ge (tgt := 59) dX7_scrollUp_34 rfl (by omega) (by omega) (fun c34 => ?_) (fun c34 => ?_)
    ·
      exact kk p hp hQ i
    · exfalso; omega
  | succ j ih =>
    intro i p hj h1 h2 hp hQ
    refine pw_iload_n dX7_scrollUp_32 rfl ?_
    refine pw_iload_n dX7_scrollUp_33 rfl ?_
    refine pw_icmp_ge (tgt := 59) dX7_scrollUp_34 rfl (by omega) (by omega) (fun c34 => ?_) (fun c34 => ?_)
    · exfalso; omega
    ·
      refine pw_aload_n dX7_scrollUp_37 rfl ?_
      refine pw_get (v := .ref (I 3)) okX7 (k := 2) (by decide) lkX7_28 (scAt_put hA).1.1 rfl dX7_scrollUp_38 ?_
      refine pw_aload_n dX7_scrollUp_41 rfl ?_
      refine pw_get (v := .ref (I 6)) okX7 (k := 0) (by decide) lkX7_14 (scAt_put hA).1.1 rfl dX7_scrollUp_42 ?_
      refine pw_iload_n dX7_scrollUp_45 rfl ?_
      refine pw_aload_n dX7_scrollUp_46 rfl ?_
      refine pw_get (v := .int (zI (F 3))) okX7 (k := 3) (by decide) lkX7_76 (scAt_put hA).1.1 rfl dX7_scrollUp_47 ?_
      refine pw_callV (As := [.ref (I 6), .int (zI (i)), .int (zI (F 3))]) (b := (I 3)) (rm := rmD 2 0 0) (mX1_add htr (scAt_put hA).1.2.2.2.1 (scAt_put hA).1.2.2.2.2.1 (scAt_put hA).1.2.2.2.2.2.1 (scNe hA (by decide) (by decide) (by decide)) (scNe hA (by decide) (by decide) (by decide)) (scNe hA (by decide) (by decide) (by decide)) (by omega) hp.1 hp.2 gNH (scAt_put hA).1.2.2.2.2.2.2.1 (scAt_put hA).1.2.1 (scNe hA (by decide) (by decide) (by decide)) (by omega) gN gN2 (by omega) (by omega) (scNe hA (by decide) (by decide) (by decide)) (scNe hA (by decide) (by decide) (by decide)) (scNe hA (by decide) (by decide) (by decide)) (scNe hA (by decide) (by decide) (by decide)) (scNe hA (by decide) (by decide) (by decide)) (scNe hA (by decide) (by decide) (by decide))) rfl (scAt_put hA).1.2.2.2.1 rfl rfl ywX1_add rfl cwX7_122 ⟨nle rfl, nle rfl⟩ (nle rfl) ⟨nle rfl, nle rfl⟩ dX7_scrollUp_50 ?_ (fun _ _ _ z => z.elim)
      intro r2 h2 n2 hq _
      rw [hq.1, hq.2.1, hq.2.2]
      show pw E YX7_scrollUp _ _ 0 0 53 [some (.ref (I 0)), some (.int (zI (k))), some (.int (zI (g))), some (.int (zI (i)))] [] (va_up (va_up (va_up (scPut w H N NH I F m o p.1 p.2.1 p.2.2 h) (I 3) (pz_o 4 (hiObj w I (hT p.1)))) (I 5) (pz_z 0 30 (hL p.1 p.2.2 (F 3)))) (I 4) (pz_z 0 NH (hC w H NH p.1 p.2.1 (i) (F 3) m))) n
      refine pw_h (scU354 hA) ?_
      refine pw_ziinc (lv' := [some (.ref (I 0)), some (.int (zI (k))), some (.int (zI (g))), some (.int (zI (i + 1)))]) dX7_scrollUp_53 rfl (by decide) rfl rfl ?_
      refine pw_goto (tgt := 32) dX7_scrollUp_56 rfl ?_
      exact ih (i + 1) (hT p.1, hC w H NH p.1 p.2.1 i (F 3) m, hL p.1 p.2.2 (F 3)) (by omega) (by omega) (by omega) (hT_ok hp) (by exact hQ)
end
section
/-! ===== a Screen's state as one value ===== -/
abbrev zSt : Type := (Nat → Int) × (Nat → Int) × (Nat → Int) × (Nat → Int) × (Nat → Int) × (Nat → Int)
def zP (w H : Int) (N NH : Nat) (I : Nat → Nat) (s : zSt) (h : pz_H) : pz_H := scPut w H N NH I s.1 s.2.1 s.2.2.1 s.2.2.2.1 s.2.2.2.2.1 s.2.2.2.2.2 h
def zOk (w H : Int) (s : zSt) : Prop := scOk w H s.1 s.2.2.2.1
/-- the cells that are shown, changed to x -/
def zX (F' : Nat → Int) (x : Nat → Int) (s : zSt) : zSt := (F', shM s.1 s.2.1 x, shO s.1 s.2.2.1 x, s.2.2.2)
def zG (s : zSt) : Nat → Int := shG s.1 s.2.1 s.2.2.1
def sGone (w H : Int) (NH : Nat) (F m T c l : Nat → Int) (k : Int) : (Nat → Int) × (Nat → Int) × (Nat → Int) := if F 12 = 0 ∧ F 17 = 0 then sHist w H NH (F 3) m (min k (F 13 + 1)).toNat 0 (T, c, l) else (T, c, l)
def zScrollUp (w H : Int) (NH : Nat) (k : Int) (s : zSt) : zSt :=
  (va_up s.1 7 0, shM s.1 s.2.1 (sRaise w H (s.1 13) (s.1 3) k (s.1 8 * 128 + 32) (s.1 13 + 1 - s.1 12).toNat (s.1 12) (shG s.1 s.2.1 s.2.2.1)), shO s.1 s.2.2.1 (sRaise w H (s.1 13) (s.1 3) k (s.1 8 * 128 + 32) (s.1 13 + 1 - s.1 12).toNat (s.1 12) (shG s.1 s.2.1 s.2.2.1)), sGone w H NH s.1 s.2.1 s.2.2.2.1 s.2.2.2.2.1 s.2.2.2.2.2 k)
def zScrollDown (w H : Int) (k : Int) (s : zSt) : zSt :=
  (va_up s.1 7 0, shM s.1 s.2.1 (sLower w H (s.1 12) (s.1 3) k (s.1 8 * 128 + 32) (s.1 13 + 1 - s.1 12).toNat (s.1 13) (shG s.1 s.2.1 s.2.2.1)), shO s.1 s.2.2.1 (sLower w H (s.1 12) (s.1 3) k (s.1 8 * 128 + 32) (s.1 13 + 1 - s.1 12).toNat (s.1 13) (shG s.1 s.2.1 s.2.2.1)), s.2.2.2)
def zDown (w H : Int) (NH : Nat) (s : zSt) : zSt := if s.1 6 = s.1 13 then zScrollUp w H NH 1 s else (sMove s.1 (s.1 5) (s.1 6 + 1), s.2)
def zUp (w H : Int) (s : zSt) : zSt := if s.1 6 = s.1 12 then zScrollDown w H 1 s else (sMove s.1 (s.1 5) (s.1 6 - 1), s.2)
theorem scOk_T {w H : Int} {F T T' : Nat → Int} (hO : scOk w H F T) (hh : hOk T') : scOk w H F T' := by
  obtain ⟨o3, o4, o5, o6, o7, o8, o9, o10, o11, o12, o14, o15, o16, o17, oT3, oT4⟩ := hO
  exact ⟨o3, o4, o5, o6, o7, o8, o9, o10, o11, o12, o14, o15, o16, o17, hh.1, hh.2⟩
theorem scOk_h {w H : Int} {F T : Nat → Int} (hO : scOk w H F T) : hOk T := by
  obtain ⟨o3, o4, o5, o6, o7, o8, o9, o10, o11, o12, o14, o15, o16, o17, oT3, oT4⟩ := hO
  exact ⟨oT3, oT4⟩
theorem sGone_ok {w H k : Int} {NH : Nat} {F m T c l : Nat → Int} (hh : hOk T) : hOk (sGone w H NH F m T c l k).1 := by
  unfold sGone
  split
  · exact sHist_ok _ _ _ hh
  · exact hh
theorem zScrollUp_ok {w H k : Int} {NH : Nat} {s : zSt} (hO : zOk w H s) : zOk w H (zScrollUp w H NH k s) := scOk_T (T := s.2.2.2.1) (scOk_7 hO) (sGone_ok (scOk_h hO))
theorem zDown_ok {w H : Int} {NH : Nat} {s : zSt} (hO : zOk w H s) : zOk w H (zDown w H NH s) := by
  unfold zDown
  split
  · exact zScrollUp_ok hO
  · exact sMove_ok hO
end
section
def YX7_goDown : pw_Y := (RX7, "goDown", cX7_goDown, 1, none)
theorem ywX7_goDown : pw_y yX7_goDown YX7_goDown 0 := ⟨by decide +kernel, by decide +kernel, by decide +kernel, pw_in 959 (by decide +kernel) (by decide +kernel), pw_in 82 (by decide +kernel) (by decide +kernel)⟩
theorem cwX7_107 : Cond.methodLink RX7 107 yX7_scrollUp ∈ pw_G ∧ Cond.instanceMethod yX7_scrollUp ∈ pw_G ∧ Cond.selects RX7 yX7_scrollUp yX7_scrollUp ∈ pw_G := ⟨pw_in 960 (by decide +kernel) (by decide +kernel), pw_in 961 (by decide +kernel) (by decide +kernel), pw_in 962 (by decide +kernel) (by decide +kernel)⟩
def YX7_goUp : pw_Y := (RX7, "goUp", cX7_goUp, 1, none)
theorem ywX7_goUp : pw_y yX7_goUp YX7_goUp 0 := ⟨by decide +kernel, by decide +kernel, by decide +kernel, pw_in 1082 (by decide +kernel) (by decide +kernel), pw_in 82 (by decide +kernel) (by decide +kernel)⟩
theorem cwX7_110 : Cond.methodLink RX7 110 yX7_scrollDown ∈ pw_G ∧ Cond.instanceMethod yX7_scrollDown ∈ pw_G ∧ Cond.selects RX7 yX7_scrollDown yX7_scrollDown ∈ pw_G := ⟨pw_in 1083 (by decide +kernel) (by decide +kernel), pw_in 1046 (by decide +kernel) (by decide +kernel), pw_in 1047 (by decide +kernel) (by decide +kernel)⟩
def YX7_setRegion : pw_Y := (RX7, "setRegion", cX7_setRegion, 4, none)
theorem ywX7_setRegion : pw_y yX7_setRegion YX7_setRegion 2 := ⟨by decide +kernel, by decide +kernel, by decide +kernel, pw_in 1052 (by decide +kernel) (by decide +kernel), pw_in 82 (by decide +kernel) (by decide +kernel)⟩
set_option maxHeartbeats 4000000 in
set_option maxRecDepth 100000 in
/-- Screen.scrollUp(k) -/
theorem mX7_scrollUp {E : pw_E} (htr : E.1.stackTraces = false) {h : pz_H} {n : Nat} {w H : Int} {N NH : Nat} {I : Nat → Nat} {F m o T c l : Nat → Int} (hG : geo w H N NH) (hA : scAt w H N NH I F m o T c l h) (hO : scOk w H F T) {k : Int} (h_k : -2147483648 ≤ k ∧ k < 2147483648) (hk : 0 ≤ k ∧ k ≤ 1000) : pw_M E yX7_scrollUp YX7_scrollUp (rmD 5 0 0) [.ref (I 0), .int (zI (k))] h n (fun r h' n' => r = none ∧ h' = zP w H N NH I (zScrollUp w H NH k (F, m, o, T, c, l)) h ∧ n' = n) (fun _ _ _ => False) := by
  have hG0 := hG
  have hO0 := hO
  obtain ⟨gw, gH, gN, gN2, gNH⟩ := hG
  obtain ⟨o3, o4, o5, o6, o7, o8, o9, o10, o11, o12, o14, o15, o16, o17, oT3, oT4⟩ := hO
  refine pw_M_of (lv := [some (.ref (I 0)), some (.int (zI (k))), none, none]) (by decide) rfl rfl htr (nle rfl) rfl (fun L => ?_)
  refine pw_h (scPut_id hA).symm ?_
  refine pw_aload_n dX7_scrollUp_0 rfl ?_
  refine pw_iconst (v := zI (0)) dX7_scrollUp_1 (by decide) ?_
  refine pw_put (fs' := (scObj I (va_up F 7 (0)))) okX7 (k := 7) (by decide) lkX7_49 rfl (by decide) (by decide) (scAt_put hA).1.1 (nlt rfl) rfl dX7_scrollUp_2 ?_
  refine pw_h (scU0 hA) ?_
  refine pw_aload_n dX7_scrollUp_5 rfl ?_
  refine pw_get (v := .int (zI (F 12))) okX7 (k := 12) (by decide) lkX7_58 (scAt_put hA).1.1 rfl dX7_scrollUp_6 ?_
  refine pw_if_ne (tgt := 59) dX7_scrollUp_9 rfl (by omega) (fun c9 => ?_) (fun c9 => ?_)
  ·
    refine pw_aload_n dX7_scrollUp_59 rfl ?_
    refine pw_aload_n dX7_scrollUp_60 rfl ?_
    refine pw_get (v := .int (zI (F 12))) okX7 (k := 12) (by decide) lkX7_58 (scAt_put hA).1.1 rfl dX7_scrollUp_61 ?_
    refine pw_iload_n dX7_scrollUp_64 rfl ?_
    refine pw_callV (As := [.int (zI (F 12)), .int (zI (k))]) (b := (I 0)) (rm := rmD 3 0 0) (mX7_raiseRows htr hG0 (scAt_put hA) (scOk_7 hO0) (by omega) (by omega) ⟨by show 0 ≤ F 12; omega, by show F 12 ≤ F 13; omega⟩ (by omega)) rfl (scAt_put hA).1.1 rfl rfl ywX7_raiseRows rfl cwX7_126 ⟨nle rfl, nle rfl⟩ (nle rfl) ⟨nle rfl, nle rfl⟩ dX7_scrollUp_65 ?_ (fun _ _ _ z => z.elim)
    intro r2 h2 n2 hq _
    rw [hq.1, hq.2.1, hq.2.2]
    show pw E YX7_scrollUp _ _ 0 0 68 [some (.ref (I 0)), some (.int (zI (k))), none, none] [] (scPut w H N NH I (va_up F 7 (0)) (shM F m (sRaise w H (F 13) (F 3) (k) (F 8 * 128 + 32) (F 13 + 1 - (F 12)).toNat (F 12) (shG F m o))) (shO F o (sRaise w H (F 13) (F 3) (k) (F 8 * 128 + 32) (F 13 + 1 - (F 12)).toNat (F 12) (shG F m o))) T c l (scPut w H N NH I (va_up F 7 (0)) m o T c l h)) n
    refine pw_h scPut_put ?_
    exact pw_vret dX7_scrollUp_68 rfl (nle rfl) (nle rfl) ⟨rfl, by show _ = zP w H N NH I (_, _, _, sGone w H NH F m T c l k) h; rw [show sGone w H NH F m T c l k = (T, c, l) from if_neg (by omega)]; first | done | rfl, rfl⟩
  ·
    refine pw_aload_n dX7_scrollUp_12 rfl ?_
    refine pw_get (v := .int (zI (F 17))) okX7 (k := 17) (by decide) lkX7_32 (scAt_put hA).1.1 rfl dX7_scrollUp_13 ?_
    refine pw_if_ne (tgt := 59) dX7_scrollUp_16 rfl (by omega) (fun c16 => ?_) (fun c16 => ?_)
    ·
      refine pw_aload_n dX7_scrollUp_59 rfl ?_
      refine pw_aload_n dX7_scrollUp_60 rfl ?_
      refine pw_get (v := .int (zI (F 12))) okX7 (k := 12) (by decide) lkX7_58 (scAt_put hA).1.1 rfl dX7_scrollUp_61 ?_
      refine pw_iload_n dX7_scrollUp_64 rfl ?_
      refine pw_callV (As := [.int (zI (F 12)), .int (zI (k))]) (b := (I 0)) (rm := rmD 3 0 0) (mX7_raiseRows htr hG0 (scAt_put hA) (scOk_7 hO0) (by omega) (by omega) ⟨by show 0 ≤ F 12; omega, by show F 12 ≤ F 13; omega⟩ (by omega)) rfl (scAt_put hA).1.1 rfl rfl ywX7_raiseRows rfl cwX7_126 ⟨nle rfl, nle rfl⟩ (nle rfl) ⟨nle rfl, nle rfl⟩ dX7_scrollUp_65 ?_ (fun _ _ _ z => z.elim)
      intro r2 h2 n2 hq _
      rw [hq.1, hq.2.1, hq.2.2]
      show pw E YX7_scrollUp _ _ 0 0 68 [some (.ref (I 0)), some (.int (zI (k))), none, none] [] (scPut w H N NH I (va_up F 7 (0)) (shM F m (sRaise w H (F 13) (F 3) (k) (F 8 * 128 + 32) (F 13 + 1 - (F 12)).toNat (F 12) (shG F m o))) (shO F o (sRaise w H (F 13) (F 3) (k) (F 8 * 128 + 32) (F 13 + 1 - (F 12)).toNat (F 12) (shG F m o))) T c l (scPut w H N NH I (va_up F 7 (0)) m o T c l h)) n
      refine pw_h scPut_put ?_
      exact pw_vret dX7_scrollUp_68 rfl (nle rfl) (nle rfl) ⟨rfl, by show _ = zP w H N NH I (_, _, _, sGone w H NH F m T c l k) h; rw [show sGone w H NH F m T c l k = (T, c, l) from if_neg (by omega)]; first | done | rfl, rfl⟩
    ·
      refine pw_iload_n dX7_scrollUp_19 rfl ?_
      refine pw_aload_n dX7_scrollUp_20 rfl ?_
      refine pw_get (v := .int (zI (F 13))) okX7 (k := 13) (by decide) lkX7_64 (scAt_put hA).1.1 rfl dX7_scrollUp_21 ?_
      refine pw_iconst (v := zI (1)) dX7_scrollUp_24 (by decide) ?_
      refine pw_ziadd dX7_scrollUp_25 ?_
      refine pw_min cwX7_116 dX7_scrollUp_26 (by omega) (by omega) ⟨nle rfl, nle rfl⟩ ⟨nle rfl, nle rfl⟩ ?_
      refine pw_istore_n (lv' := [some (.ref (I 0)), some (.int (zI (k))), some (.int (zI (min (k) ((F 13) + (1))))), none]) dX7_scrollUp_29 (by decide) rfl rfl ?_
      refine pw_iconst (v := zI (0)) dX7_scrollUp_30 (by decide) ?_
      refine pw_istore_n (lv' := [some (.ref (I 0)), some (.int (zI (k))), some (.int (zI (min (k) ((F 13) + (1))))), some (.int (zI (0)))]) dX7_scrollUp_31 (by decide) rfl rfl ?_
      refine pw_h (scPut_put (F := va_up F 7 0) (m := m) (o := o) (T := T) (c := c) (l := l)).symm ?_
      refine lX7_hist (F := va_up F 7 0) (g := min k (F 13 + 1)) htr hG0 (scAt_put hA) (scOk_7 hO0) (by show min (k) (F 13 + 1) ≤ F 13 + 1; omega) (fun p hp hpe i => ?_) _ 0 (T, c, l) rfl (by omega) (by omega) ⟨oT3, oT4⟩ (by rw [Int.sub_zero])
      refine pw_h scPut_put ?_
      refine pw_aload_n dX7_scrollUp_59 rfl ?_
      refine pw_aload_n dX7_scrollUp_60 rfl ?_
      refine pw_get (v := .int (zI (F 12))) okX7 (k := 12) (by decide) lkX7_58 (scAt_put hA).1.1 rfl dX7_scrollUp_61 ?_
      refine pw_iload_n dX7_scrollUp_64 rfl ?_
      refine pw_callV (As := [.int (zI (F 12)), .int (zI (k))]) (b := (I 0)) (rm := rmD 3 0 0) (mX7_raiseRows htr hG0 (scAt_put hA) (scOk_T (scOk_7 hO0) hp) (by omega) (by omega) ⟨by show 0 ≤ F 12; omega, by show F 12 ≤ F 13; omega⟩ (by omega)) rfl (scAt_put hA).1.1 rfl rfl ywX7_raiseRows rfl cwX7_126 ⟨nle rfl, nle rfl⟩ (nle rfl) ⟨nle rfl, nle rfl⟩ dX7_scrollUp_65 ?_ (fun _ _ _ z => z.elim)
      intro r2 h2 n2 hq _
      rw [hq.1, hq.2.1, hq.2.2]
      show pw E YX7_scrollUp _ _ 0 0 68 [some (.ref (I 0)), some (.int (zI (k))), some (.int (zI (min (k) ((F 13) + (1))))), some (.int (zI (i)))] [] (scPut w H N NH I (va_up F 7 (0)) (shM F m (sRaise w H (F 13) (F 3) (k) (F 8 * 128 + 32) (F 13 + 1 - (F 12)).toNat (F 12) (shG F m o))) (shO F o (sRaise w H (F 13) (F 3) (k) (F 8 * 128 + 32) (F 13 + 1 - (F 12)).toNat (F 12) (shG F m o))) p.1 p.2.1 p.2.2 (scPut w H N NH I (va_up F 7 (0)) m o p.1 p.2.1 p.2.2 h)) n
      refine pw_h scPut_put ?_
      exact pw_vret dX7_scrollUp_68 rfl (nle rfl) (nle rfl) ⟨rfl, by subst hpe; show _ = zP w H N NH I (_, _, _, sGone w H NH F m T c l k) h; rw [show sGone w H NH F m T c l k = sHist w H NH (F 3) m (min k (F 13 + 1)).toNat 0 (T, c, l) from if_pos (by omega)]; first | done | rfl, rfl⟩
set_option maxHeartbeats 4000000 in
set_option maxRecDepth 100000 in
/-- Screen.goDown() -/
theorem mX7_goDown {E : pw_E} (htr : E.1.stackTraces = false) {h : pz_H} {n : Nat} {w H : Int} {N NH : Nat} {I : Nat → Nat} {F m o T c l : Nat → Int} (hG : geo w H N NH) (hA : scAt w H N NH I F m o T c l h) (hO : scOk w H F T) : pw_M E yX7_goDown YX7_goDown (rmD 6 0 0) [.ref (I 0)] h n (fun r h' n' => r = none ∧ h' = zP w H N NH I (zDown w H NH (F, m, o, T, c, l)) h ∧ n' = n) (fun _ _ _ => False) := by
  have hG0 := hG
  have hO0 := hO
  obtain ⟨gw, gH, gN, gN2, gNH⟩ := hG
  obtain ⟨o3, o4, o5, o6, o7, o8, o9, o10, o11, o12, o14, o15, o16, o17, oT3, oT4⟩ := hO
  refine pw_M_of (lv := [some (.ref (I 0))]) (by decide) rfl rfl htr (nle rfl) rfl (fun L => ?_)
  refine pw_h (scPut_id hA).symm ?_
  refine pw_aload_n dX7_goDown_0 rfl ?_
  refine pw_get (v := .int (zI (F 6))) okX7 (k := 6) (by decide) lkX7_46 (scAt_put hA).1.1 rfl dX7_goDown_1 ?_
  refine pw_aload_n dX7_goDown_4 rfl ?_
  refine pw_get (v := .int (zI (F 13))) okX7 (k := 13) (by decide) lkX7_64 (scAt_put hA).1.1 rfl dX7_goDown_5 ?_
  refine pw_icmp_ne (tgt := 19) dX7_goDown_8 rfl (by omega) (by omega) (fun c8 => ?_) (fun c8 => ?_)
  ·
    refine pw_aload_n dX7_goDown_19 rfl ?_
    refine pw_aload_n dX7_goDown_20 rfl ?_
    refine pw_get (v := .int (zI (F 5))) okX7 (k := 5) (by decide) lkX7_42 (scAt_put hA).1.1 rfl dX7_goDown_21 ?_
    refine pw_aload_n dX7_goDown_24 rfl ?_
    refine pw_get (v := .int (zI (F 6))) okX7 (k := 6) (by decide) lkX7_46 (scAt_put hA).1.1 rfl dX7_goDown_25 ?_
    refine pw_iconst (v := zI (1)) dX7_goDown_28 (by decide) ?_
    refine pw_ziadd dX7_goDown_29 ?_
    refine pw_callV (As := [.int (zI (F 5)), .int (zI ((F 6) + (1)))]) (b := (I 0)) (rm := rmD 2 0 0) (mX7_moveTo htr hG0 (scAt_put hA) (hO0) (by omega) (by omega)) rfl (scAt_put hA).1.1 rfl rfl ywX7_moveTo rfl cwX7_79 ⟨nle rfl, nle rfl⟩ (nle rfl) ⟨nle rfl, nle rfl⟩ dX7_goDown_30 ?_ (fun _ _ _ z => z.elim)
    intro r2 h2 n2 hq _
    rw [hq.1, hq.2.1, hq.2.2]
    show pw E YX7_goDown _ _ 0 0 33 [some (.ref (I 0))] [] (scPut w H N NH I (sMove F (F 5) ((F 6) + (1))) m o T c l (scPut w H N NH I F m o T c l h)) n
    refine pw_h scPut_put ?_
    exact pw_vret dX7_goDown_33 rfl (nle rfl) (nle rfl) ⟨rfl, by rw [show zDown w H NH (F, m, o, T, c, l) = (sMove F (F 5) (F 6 + 1), m, o, T, c, l) from if_neg (show ¬ F 6 = F 13 by omega)]; first | done | rfl, rfl⟩
  ·
    refine pw_aload_n dX7_goDown_11 rfl ?_
    refine pw_iconst (v := zI (1)) dX7_goDown_12 (by decide) ?_
    refine pw_callV (As := [.int (zI (1))]) (b := (I 0)) (rm := rmD 5 0 0) (mX7_scrollUp htr hG0 (scAt_put hA) hO0 (by omega) (by omega)) rfl (scAt_put hA).1.1 rfl rfl ywX7_scrollUp rfl cwX7_107 ⟨nle rfl, nle rfl⟩ (nle rfl) ⟨nle rfl, nle rfl⟩ dX7_goDown_13 ?_ (fun _ _ _ z => z.elim)
    intro r2 h2 n2 hq _
    rw [hq.1, hq.2.1, hq.2.2]
    show pw E YX7_goDown _ _ 0 0 16 [some (.ref (I 0))] [] (zP w H N NH I (zScrollUp w H NH (1) (F, m, o, T, c, l)) (scPut w H N NH I F m o T c l h)) n
    refine pw_h (h' := zP w H N NH I (zScrollUp w H NH (1) (F, m, o, T, c, l)) h) scPut_put ?_
    refine pw_goto (tgt := 33) dX7_goDown_16 rfl ?_
    exact pw_vret dX7_goDown_33 rfl (nle rfl) (nle rfl) ⟨rfl, by rw [show zDown w H NH (F, m, o, T, c, l) = zScrollUp w H NH 1 (F, m, o, T, c, l) from if_pos (show F 6 = F 13 by omega)], rfl⟩
set_option maxHeartbeats 4000000 in
set_option maxRecDepth 100000 in
/-- Screen.goUp() -/
theorem mX7_goUp {E : pw_E} (htr : E.1.stackTraces = false) {h : pz_H} {n : Nat} {w H : Int} {N NH : Nat} {I : Nat → Nat} {F m o T c l : Nat → Int} (hG : geo w H N NH) (hA : scAt w H N NH I F m o T c l h) (hO : scOk w H F T) : pw_M E yX7_goUp YX7_goUp (rmD 5 0 0) [.ref (I 0)] h n (fun r h' n' => r = none ∧ h' = zP w H N NH I (zUp w H (F, m, o, T, c, l)) h ∧ n' = n) (fun _ _ _ => False) := by
  have hG0 := hG
  have hO0 := hO
  obtain ⟨gw, gH, gN, gN2, gNH⟩ := hG
  obtain ⟨o3, o4, o5, o6, o7, o8, o9, o10, o11, o12, o14, o15, o16, o17, oT3, oT4⟩ := hO
  refine pw_M_of (lv := [some (.ref (I 0))]) (by decide) rfl rfl htr (nle rfl) rfl (fun L => ?_)
  refine pw_h (scPut_id hA).symm ?_
  refine pw_aload_n dX7_goUp_0 rfl ?_
  refine pw_get (v := .int (zI (F 6))) okX7 (k := 6) (by decide) lkX7_46 (scAt_put hA).1.1 rfl dX7_goUp_1 ?_
  refine pw_aload_n dX7_goUp_4 rfl ?_
  refine pw_get (v := .int (zI (F 12))) okX7 (k := 12) (by decide) lkX7_58 (scAt_put hA).1.1 rfl dX7_goUp_5 ?_
  refine pw_icmp_ne (tgt := 19) dX7_goUp_8 rfl (by omega) (by omega) (fun c8 => ?_) (fun c8 => ?_)
  ·
    refine pw_aload_n dX7_goUp_19 rfl ?_
    refine pw_aload_n dX7_goUp_20 rfl ?_
    refine pw_get (v := .int (zI (F 5))) okX7 (k := 5) (by decide) lkX7_42 (scAt_put hA).1.1 rfl dX7_goUp_21 ?_
    refine pw_aload_n dX7_goUp_24 rfl ?_
    refine pw_get (v := .int (zI (F 6))) okX7 (k := 6) (by decide) lkX7_46 (scAt_put hA).1.1 rfl dX7_goUp_25 ?_
    refine pw_iconst (v := zI (1)) dX7_goUp_28 (by decide) ?_
    refine pw_zisub dX7_goUp_29 ?_
    refine pw_callV (As := [.int (zI (F 5)), .int (zI ((F 6) - (1)))]) (b := (I 0)) (rm := rmD 2 0 0) (mX7_moveTo htr hG0 (scAt_put hA) (hO0) (by omega) (by omega)) rfl (scAt_put hA).1.1 rfl rfl ywX7_moveTo rfl cwX7_79 ⟨nle rfl, nle rfl⟩ (nle rfl) ⟨nle rfl, nle rfl⟩ dX7_goUp_30 ?_ (fun _ _ _ z => z.elim)
    intro r2 h2 n2 hq _
    rw [hq.1, hq.2.1, hq.2.2]
    show pw E YX7_goUp _ _ 0 0 33 [some (.ref (I 0))] [] (scPut w H N NH I (sMove F (F 5) ((F 6) - (1))) m o T c l (scPut w H N NH I F m o T c l h)) n
    refine pw_h scPut_put ?_
    exact pw_vret dX7_goUp_33 rfl (nle rfl) (nle rfl) ⟨rfl, by rw [show zUp w H (F, m, o, T, c, l) = (sMove F (F 5) (F 6 - 1), m, o, T, c, l) from if_neg (show ¬ F 6 = F 12 by omega)]; first | done | rfl, rfl⟩
  ·
    refine pw_aload_n dX7_goUp_11 rfl ?_
    refine pw_iconst (v := zI (1)) dX7_goUp_12 (by decide) ?_
    refine pw_callV (As := [.int (zI (1))]) (b := (I 0)) (rm := rmD 4 0 0) (mX7_scrollDown htr hG0 (scAt_put hA) hO0 (by omega) (by omega)) rfl (scAt_put hA).1.1 rfl rfl ywX7_scrollDown rfl cwX7_110 ⟨nle rfl, nle rfl⟩ (nle rfl) ⟨nle rfl, nle rfl⟩ dX7_goUp_13 ?_ (fun _ _ _ z => z.elim)
    intro r2 h2 n2 hq _
    rw [hq.1, hq.2.1, hq.2.2]
    show pw E YX7_goUp _ _ 0 0 16 [some (.ref (I 0))] [] (scPut w H N NH I (va_up F 7 0) (shM F m (sLower w H (F 12) (F 3) (1) (F 8 * 128 + 32) (F 13 + 1 - F 12).toNat (F 13) (shG F m o))) (shO F o (sLower w H (F 12) (F 3) (1) (F 8 * 128 + 32) (F 13 + 1 - F 12).toNat (F 13) (shG F m o))) T c l (scPut w H N NH I F m o T c l h)) n
    refine pw_h scPut_put ?_
    refine pw_goto (tgt := 33) dX7_goUp_16 rfl ?_
    exact pw_vret dX7_goUp_33 rfl (nle rfl) (nle rfl) ⟨rfl, by rw [show zUp w H (F, m, o, T, c, l) = zScrollDown w H 1 (F, m, o, T, c, l) from if_pos (show F 6 = F 12 by omega)]; first | done | rfl, rfl⟩
/-- r: the REGION from a to b, counted from 1 on -/
def sLast (F : Nat → Int) (b : Int) : Int := if b = 0 then F 4 else min b (F 4)
def sRegion (F : Nat → Int) (a b : Int) : Nat → Int := if a < sLast F b then sMove (va_up (va_up (va_up F 7 0) 12 (a - 1)) 13 (sLast F b - 1)) 0 0 else va_up F 7 0
theorem scOk_reg {w H : Int} {F T : Nat → Int} {x y : Int} (hO : scOk w H F T) (h1 : 0 ≤ x) (h2 : x ≤ y) (h3 : y < F 4) : scOk w H (va_up (va_up (va_up F 7 0) 12 x) 13 y) T := by
  unfold scOk at *
  simp only [va_up]
  simp
  omega
set_option maxHeartbeats 4000000 in
set_option maxRecDepth 100000 in
/-- Screen.setRegion(a, b) -/
theorem mX7_setRegion {E : pw_E} (htr : E.1.stackTraces = false) {h : pz_H} {n : Nat} {w H : Int} {N NH : Nat} {I : Nat → Nat} {F m o T c l : Nat → Int} (hG : geo w H N NH) (hA : scAt w H N NH I F m o T c l h) (hO : scOk w H F T) {a b : Int} (h_a : -2147483648 ≤ a ∧ a < 2147483648) (h_b : -2147483648 ≤ b ∧ b < 2147483648) (ha : 1 ≤ a ∧ a ≤ 1000) (hb : 0 ≤ b ∧ b ≤ 1000) : pw_M E yX7_setRegion YX7_setRegion (rmD 3 0 0) [.ref (I 0), .int (zI (a)), .int (zI (b))] h n (fun r h' n' => r = none ∧ h' = scPut w H N NH I (sRegion F a b) m o T c l h ∧ n' = n) (fun _ _ _ => False) := by
  have hG0 := hG
  have hO0 := hO
  obtain ⟨gw, gH, gN, gN2, gNH⟩ := hG
  obtain ⟨o3, o4, o5, o6, o7, o8, o9, o10, o11, o12, o14, o15, o16, o17, oT3, oT4⟩ := hO
  refine pw_M_of (lv := [some (.ref (I 0)), some (.int (zI (a))), some (.int (zI (b))), none]) (by decide) rfl rfl htr (nle rfl) rfl (fun L => ?_)
  refine pw_h (scPut_id hA).symm ?_
  refine pw_aload_n dX7_setRegion_0 rfl ?_
  refine pw_iconst (v := zI (0)) dX7_setRegion_1 (by decide) ?_
  refine pw_put (fs' := (scObj I (va_up F 7 (0)))) okX7 (k := 7) (by decide) lkX7_49 rfl (by decide) (by decide) (scAt_put hA).1.1 (nlt rfl) rfl dX7_setRegion_2 ?_
  refine pw_h (scU0 hA) ?_
  refine pw_iload_n dX7_setRegion_5 rfl ?_
  refine pw_if_ne (tgt := 16) dX7_setRegion_6 rfl (by omega) (fun c6 => ?_) (fun c6 => ?_)
  ·
    refine pw_iload_n dX7_setRegion_16 rfl ?_
    refine pw_aload_n dX7_setRegion_17 rfl ?_
    refine pw_get (v := .int (zI (F 4))) okX7 (k := 4) (by decide) lkX7_61 (scAt_put hA).1.1 rfl dX7_setRegion_18 ?_
    refine pw_min cwX7_116 dX7_setRegion_21 (by omega) (by omega) ⟨nle rfl, nle rfl⟩ ⟨nle rfl, nle rfl⟩ ?_
    refine pw_istore_n (lv' := [some (.ref (I 0)), some (.int (zI (a))), some (.int (zI (b))), some (.int (zI (min (b) (F 4))))]) dX7_setRegion_24 (by decide) rfl rfl ?_
    refine pw_iload_n dX7_setRegion_25 rfl ?_
    refine pw_iload_n dX7_setRegion_26 rfl ?_
    refine pw_icmp_le (tgt := 50) dX7_setRegion_27 rfl (by omega) (by omega) (fun c27 => ?_) (fun c27 => ?_)
    ·
      exact pw_vret dX7_setRegion_50 rfl (nle rfl) (nle rfl) ⟨rfl, by unfold sRegion sLast; first | (rw [if_pos (show b = 0 by omega)]; first | rw [if_pos (show a < F 4 by omega)] | rw [if_neg (show ¬ a < F 4 by omega)]) | (rw [if_neg (show ¬ b = 0 by omega)]; first | rw [if_pos (show a < min b (F 4) by omega)] | rw [if_neg (show ¬ a < min b (F 4) by omega)]), rfl⟩
    ·
      refine pw_aload_n dX7_setRegion_30 rfl ?_
      refine pw_iload_n dX7_setRegion_31 rfl ?_
      refine pw_iconst (v := zI (1)) dX7_setRegion_32 (by decide) ?_
      refine pw_zisub dX7_setRegion_33 ?_
      refine pw_put (fs' := (scObj I (va_up (va_up F 7 (0)) 12 (a - 1)))) okX7 (k := 12) (by decide) lkX7_58 rfl rfl rfl (scAt_put hA).1.1 (nlt rfl) rfl dX7_setRegion_34 ?_
      refine pw_h (scU0 hA) ?_
      refine pw_aload_n dX7_setRegion_37 rfl ?_
      refine pw_iload_n dX7_setRegion_38 rfl ?_
      refine pw_iconst (v := zI (1)) dX7_setRegion_39 (by decide) ?_
      refine pw_zisub dX7_setRegion_40 ?_
      refine pw_put (fs' := (scObj I (va_up (va_up (va_up F 7 (0)) 12 (a - 1)) 13 ((min (b) (F 4)) - (1))))) okX7 (k := 13) (by decide) lkX7_64 rfl rfl rfl (scAt_put hA).1.1 (nlt rfl) rfl dX7_setRegion_41 ?_
      refine pw_h (scU0 hA) ?_
      refine pw_aload_n dX7_setRegion_44 rfl ?_
      refine pw_iconst (v := zI (0)) dX7_setRegion_45 (by decide) ?_
      refine pw_iconst (v := zI (0)) dX7_setRegion_46 (by decide) ?_
      refine pw_callV (As := [.int (zI (0)), .int (zI (0))]) (b := (I 0)) (rm := rmD 2 0 0) (mX7_moveTo htr hG0 (scAt_put hA) (scOk_reg hO0 (by omega) (by omega) (by omega)) (by omega) (by omega)) rfl (scAt_put hA).1.1 rfl rfl ywX7_moveTo rfl cwX7_79 ⟨nle rfl, nle rfl⟩ (nle rfl) ⟨nle rfl, nle rfl⟩ dX7_setRegion_47 ?_ (fun _ _ _ z => z.elim)
      intro r2 h2 n2 hq _
      rw [hq.1, hq.2.1, hq.2.2]
      show pw E YX7_setRegion _ _ 0 0 50 [some (.ref (I 0)), some (.int (zI (a))), some (.int (zI (b))), some (.int (zI (min (b) (F 4))))] [] (scPut w H N NH I (sMove (va_up (va_up (va_up F 7 (0)) 12 (a - 1)) 13 ((min (b) (F 4)) - (1))) (0) (0)) m o T c l (scPut w H N NH I (va_up (va_up (va_up F 7 (0)) 12 (a - 1)) 13 ((min (b) (F 4)) - (1))) m o T c l h)) n
      refine pw_h scPut_put ?_
      exact pw_vret dX7_setRegion_50 rfl (nle rfl) (nle rfl) ⟨rfl, by unfold sRegion sLast; first | (rw [if_pos (show b = 0 by omega)]; first | rw [if_pos (show a < F 4 by omega)] | rw [if_neg (show ¬ a < F 4 by omega)]) | (rw [if_neg (show ¬ b = 0 by omega)]; first | rw [if_pos (show a < min b (F 4) by omega)] | rw [if_neg (show ¬ a < min b (F 4) by omega)]), rfl⟩
  ·
    refine pw_aload_n dX7_setRegion_9 rfl ?_
    refine pw_get (v := .int (zI (F 4))) okX7 (k := 4) (by decide) lkX7_61 (scAt_put hA).1.1 rfl dX7_setRegion_10 ?_
    refine pw_goto (tgt := 24) dX7_setRegion_13 rfl ?_
    refine pw_istore_n (lv' := [some (.ref (I 0)), some (.int (zI (a))), some (.int (zI (b))), some (.int (zI (F 4)))]) dX7_setRegion_24 (by decide) rfl rfl ?_
    refine pw_iload_n dX7_setRegion_25 rfl ?_
    refine pw_iload_n dX7_setRegion_26 rfl ?_
    refine pw_icmp_le (tgt := 50) dX7_setRegion_27 rfl (by omega) (by omega) (fun c27 => ?_) (fun c27 => ?_)
    ·
      exact pw_vret dX7_setRegion_50 rfl (nle rfl) (nle rfl) ⟨rfl, by unfold sRegion sLast; first | (rw [if_pos (show b = 0 by omega)]; first | rw [if_pos (show a < F 4 by omega)] | rw [if_neg (show ¬ a < F 4 by omega)]) | (rw [if_neg (show ¬ b = 0 by omega)]; first | rw [if_pos (show a < min b (F 4) by omega)] | rw [if_neg (show ¬ a < min b (F 4) by omega)]), rfl⟩
    ·
      refine pw_aload_n dX7_setRegion_30 rfl ?_
      refine pw_iload_n dX7_setRegion_31 rfl ?_
      refine pw_iconst (v := zI (1)) dX7_setRegion_32 (by decide) ?_
      refine pw_zisub dX7_setRegion_33 ?_
      refine pw_put (fs' := (scObj I (va_up (va_up F 7 (0)) 12 (a - 1)))) okX7 (k := 12) (by decide) lkX7_58 rfl rfl rfl (scAt_put hA).1.1 (nlt rfl) rfl dX7_setRegion_34 ?_
      refine pw_h (scU0 hA) ?_
      refine pw_aload_n dX7_setRegion_37 rfl ?_
      refine pw_iload_n dX7_setRegion_38 rfl ?_
      refine pw_iconst (v := zI (1)) dX7_setRegion_39 (by decide) ?_
      refine pw_zisub dX7_setRegion_40 ?_
      refine pw_put (fs' := (scObj I (va_up (va_up (va_up F 7 (0)) 12 (a - 1)) 13 ((F 4) - (1))))) okX7 (k := 13) (by decide) lkX7_64 rfl rfl rfl (scAt_put hA).1.1 (nlt rfl) rfl dX7_setRegion_41 ?_
      refine pw_h (scU0 hA) ?_
      refine pw_aload_n dX7_setRegion_44 rfl ?_
      refine pw_iconst (v := zI (0)) dX7_setRegion_45 (by decide) ?_
      refine pw_iconst (v := zI (0)) dX7_setRegion_46 (by decide) ?_
      refine pw_callV (As := [.int (zI (0)), .int (zI (0))]) (b := (I 0)) (rm := rmD 2 0 0) (mX7_moveTo htr hG0 (scAt_put hA) (scOk_reg hO0 (by omega) (by omega) (by omega)) (by omega) (by omega)) rfl (scAt_put hA).1.1 rfl rfl ywX7_moveTo rfl cwX7_79 ⟨nle rfl, nle rfl⟩ (nle rfl) ⟨nle rfl, nle rfl⟩ dX7_setRegion_47 ?_ (fun _ _ _ z => z.elim)
      intro r2 h2 n2 hq _
      rw [hq.1, hq.2.1, hq.2.2]
      show pw E YX7_setRegion _ _ 0 0 50 [some (.ref (I 0)), some (.int (zI (a))), some (.int (zI (b))), some (.int (zI (F 4)))] [] (scPut w H N NH I (sMove (va_up (va_up (va_up F 7 (0)) 12 (a - 1)) 13 ((F 4) - (1))) (0) (0)) m o T c l (scPut w H N NH I (va_up (va_up (va_up F 7 (0)) 12 (a - 1)) 13 ((F 4) - (1))) m o T c l h)) n
      refine pw_h scPut_put ?_
      exact pw_vret dX7_setRegion_50 rfl (nle rfl) (nle rfl) ⟨rfl, by unfold sRegion sLast; first | (rw [if_pos (show b = 0 by omega)]; first | rw [if_pos (show a < F 4 by omega)] | rw [if_neg (show ¬ a < F 4 by omega)]) | (rw [if_neg (show ¬ b = 0 by omega)]; first | rw [if_pos (show a < min b (F 4) by omega)] | rw [if_neg (show ¬ a < min b (F 4) by omega)]), rfl⟩
end
section
theorem zb_nar {b : Int} (hb : 0 ≤ b ∧ b ≤ 1) : narrow .boolean (.int (zI b)) = .int (zI b) := by
  rcases (show b = 0 ∨ b = 1 by omega) with rfl | rfl <;> decide
theorem zb_fit {b : Int} (hb : 0 ≤ b ∧ b ≤ 1) : fits .boolean (.int (zI b)) = true := by
  rcases (show b = 0 ∨ b = 1 by omega) with rfl | rfl <;> decide
def zShow (w H on : Int) (s : zSt) : zSt := (va_up s.1 17 on, s.2.1, (if on ≠ 0 ∧ s.1 17 = 0 then gkeep w H 0 0 s.2.2.1 else s.2.2.1), s.2.2.2)
/-- all is as at first -/
def zResetF (F : Nat → Int) : Nat → Int := va_up (va_up (va_up (va_up (va_up (va_up (sSave (va_up (va_up (va_up (va_up F 5 0) 6 0) 7 0) 8 0)) 12 0) 13 (F 4 - 1)) 14 0) 15 1) 16 1) 17 0
def zReset (w H : Int) (s : zSt) : zSt := (zResetF s.1, gkeep w H 0 0 s.2.1, s.2.2.1, va_up (va_up s.2.2.2.1 3 0) 4 0, s.2.2.2.2)
def zResizeF (F : Nat → Int) (a b : Int) : Nat → Int := va_up (va_up (va_up (va_up (sMove (va_up (va_up F 3 a) 4 b) (F 5) (F 6)) 9 (max 0 (min (a - 1) (F 9)))) 10 (max 0 (min (b - 1) (F 10)))) 12 0) 13 (b - 1)
def zResize (w H a b : Int) (s : zSt) : zSt := if a = s.1 3 ∧ b = s.1 4 then s else (zResizeF s.1 a b, gkeep w H a b s.2.1, gkeep w H a b s.2.2.1, s.2.2.2)
/-- a character is put where the cursor is -/
def zPutX (w H ch : Int) (F f : Nat → Int) : Nat → Int := gset w H (F 5) (F 6) (F 8 * 128 + ch) (if F 14 = 0 then f else gmoveCells w H (F 6) (F 5) (F 5 + 1) (F 3 - 1 - F 5) f)
def zPutF (F : Nat → Int) : Nat → Int := if F 5 < F 3 - 1 then va_up F 5 (F 5 + 1) else va_up F 7 (F 15)
def zPut (w H ch : Int) (s : zSt) : zSt := (zPutF s.1, shM s.1 s.2.1 (zPutX w H ch s.1 (shG s.1 s.2.1 s.2.2.1)), shO s.1 s.2.2.1 (zPutX w H ch s.1 (shG s.1 s.2.1 s.2.2.1)), s.2.2.2)
def zWrite (w H : Int) (NH : Nat) (ch : Int) (s : zSt) : zSt := if s.1 7 = 0 then zPut w H ch s else zPut w H ch (zDown w H NH (va_up s.1 5 0, s.2))
theorem scOk_5 {w H : Int} {F T : Nat → Int} (hO : scOk w H F T) : scOk w H (va_up F 5 0) T := by
  unfold scOk at *
  simp only [va_up]
  simp
  omega
/-- J -/
def sErase (w H : Int) (F : Nat → Int) (how : Int) : Nat → Int → (Nat → Int) → Nat → Int
  | 0, _, f => f
  | j + 1, r, f => sErase w H F how j (r + 1) (if (how = 0 ∧ F 6 < r) ∨ (how = 1 ∧ r < F 6) ∨ how = 2 then gfill w H r 0 (F 3) (F 8 * 128 + 32) f else f)
end
section
def YX7_showOther : pw_Y := (RX7, "showOther", cX7_showOther, 2, none)
theorem ywX7_showOther : pw_y yX7_showOther YX7_showOther 1 := ⟨by decide +kernel, by decide +kernel, by decide +kernel, pw_in 1000 (by decide +kernel) (by decide +kernel), pw_in 82 (by decide +kernel) (by decide +kernel)⟩
theorem cwX7_36 : Cond.methodLink RX7 36 yX0_keep ∈ pw_G ∧ Cond.instanceMethod yX0_keep ∈ pw_G ∧ Cond.selects RX0 yX0_keep yX0_keep ∈ pw_G := ⟨pw_in 411 (by decide +kernel) (by decide +kernel), pw_in 412 (by decide +kernel) (by decide +kernel), pw_in 413 (by decide +kernel) (by decide +kernel)⟩
def YX7_reset : pw_Y := (RX7, "reset", cX7_reset, 1, none)
theorem ywX7_reset : pw_y yX7_reset YX7_reset 0 := ⟨by decide +kernel, by decide +kernel, by decide +kernel, pw_in 763 (by decide +kernel) (by decide +kernel), pw_in 82 (by decide +kernel) (by decide +kernel)⟩
theorem cwX7_39 : Cond.methodLink RX7 39 yX1_forget ∈ pw_G ∧ Cond.instanceMethod yX1_forget ∈ pw_G ∧ Cond.selects RX1 yX1_forget yX1_forget ∈ pw_G := ⟨pw_in 764 (by decide +kernel) (by decide +kernel), pw_in 765 (by decide +kernel) (by decide +kernel), pw_in 766 (by decide +kernel) (by decide +kernel)⟩
theorem cwX7_55 : Cond.methodLink RX7 55 yX7_savePlace ∈ pw_G ∧ Cond.instanceMethod yX7_savePlace ∈ pw_G ∧ Cond.selects RX7 yX7_savePlace yX7_savePlace ∈ pw_G := ⟨pw_in 768 (by decide +kernel) (by decide +kernel), pw_in 769 (by decide +kernel) (by decide +kernel), pw_in 770 (by decide +kernel) (by decide +kernel)⟩
theorem lkX7_67 : Cond.fieldLink RX7 67 (TX7 14).1 (TX7 14).2.1 (TX7 14).2.2.1 ∈ pw_G := pw_in 219 (by decide +kernel) (by decide +kernel)
theorem lkX7_70 : Cond.fieldLink RX7 70 (TX7 15).1 (TX7 15).2.1 (TX7 15).2.2.1 ∈ pw_G := pw_in 221 (by decide +kernel) (by decide +kernel)
theorem lkX7_73 : Cond.fieldLink RX7 73 (TX7 16).1 (TX7 16).2.1 (TX7 16).2.2.1 ∈ pw_G := pw_in 223 (by decide +kernel) (by decide +kernel)
def YX7_resize : pw_Y := (RX7, "resize", cX7_resize, 3, none)
theorem ywX7_resize : pw_y yX7_resize YX7_resize 2 := ⟨by decide +kernel, by decide +kernel, by decide +kernel, pw_in 410 (by decide +kernel) (by decide +kernel), pw_in 82 (by decide +kernel) (by decide +kernel)⟩
def YX7_write : pw_Y := (RX7, "write", cX7_write, 2, none)
theorem ywX7_write : pw_y yX7_write YX7_write 1 := ⟨by decide +kernel, by decide +kernel, by decide +kernel, pw_in 1093 (by decide +kernel) (by decide +kernel), pw_in 82 (by decide +kernel) (by decide +kernel)⟩
theorem cwX7_103 : Cond.methodLink RX7 103 yX0_set ∈ pw_G ∧ Cond.instanceMethod yX0_set ∈ pw_G ∧ Cond.selects RX0 yX0_set yX0_set ∈ pw_G := ⟨pw_in 1095 (by decide +kernel) (by decide +kernel), pw_in 1096 (by decide +kernel) (by decide +kernel), pw_in 1097 (by decide +kernel) (by decide +kernel)⟩
theorem cwX7_92 : Cond.methodLink RX7 92 yX7_goDown ∈ pw_G ∧ Cond.instanceMethod yX7_goDown ∈ pw_G ∧ Cond.selects RX7 yX7_goDown yX7_goDown ∈ pw_G := ⟨pw_in 1094 (by decide +kernel) (by decide +kernel), pw_in 957 (by decide +kernel) (by decide +kernel), pw_in 958 (by decide +kernel) (by decide +kernel)⟩
def YX7_erase : pw_Y := (RX7, "erase", cX7_erase, 4, none)
theorem ywX7_erase : pw_y yX7_erase YX7_erase 1 := ⟨by decide +kernel, by decide +kernel, by decide +kernel, pw_in 1009 (by decide +kernel) (by decide +kernel), pw_in 82 (by decide +kernel) (by decide +kernel)⟩
theorem cwX7_142 : Cond.methodLink RX7 142 yX7_eraseInRow ∈ pw_G ∧ Cond.instanceMethod yX7_eraseInRow ∈ pw_G ∧ Cond.selects RX7 yX7_eraseInRow yX7_eraseInRow ∈ pw_G := ⟨pw_in 1010 (by decide +kernel) (by decide +kernel), pw_in 1011 (by decide +kernel) (by decide +kernel), pw_in 1012 (by decide +kernel) (by decide +kernel)⟩
set_option maxHeartbeats 4000000 in
set_option maxRecDepth 100000 in
/-- Screen.showOther(on) -/
theorem mX7_showOther {E : pw_E} (htr : E.1.stackTraces = false) {h : pz_H} {n : Nat} {w H : Int} {N NH : Nat} {I : Nat → Nat} {F m o T c l : Nat → Int} (hG : geo w H N NH) (hA : scAt w H N NH I F m o T c l h) (hO : scOk w H F T) {on : Int} (h_on : -2147483648 ≤ on ∧ on < 2147483648) (hon : 0 ≤ on ∧ on ≤ 1) : pw_M E yX7_showOther YX7_showOther (rmD 4 0 0) [.ref (I 0), .int (zI (on))] h n (fun r h' n' => r = none ∧ h' = zP w H N NH I (zShow w H on (F, m, o, T, c, l)) h ∧ n' = n) (fun _ _ _ => False) := by
  have hG0 := hG
  have hO0 := hO
  obtain ⟨gw, gH, gN, gN2, gNH⟩ := hG
  obtain ⟨o3, o4, o5, o6, o7, o8, o9, o10, o11, o12, o14, o15, o16, o17, oT3, oT4⟩ := hO
  refine pw_M_of (lv := [some (.ref (I 0)), some (.int (zI (on)))]) (by decide) rfl rfl htr (nle rfl) rfl (fun L => ?_)
  refine pw_h (scPut_id hA).symm ?_
  refine pw_iload_n dX7_showOther_0 rfl ?_
  refine pw_if_eq (tgt := 20) dX7_showOther_1 rfl (by omega) (fun c1 => ?_) (fun c1 => ?_)
  ·
    refine pw_aload_n dX7_showOther_20 rfl ?_
    refine pw_iload_n dX7_showOther_21 rfl ?_
    refine pw_put (fs' := (scObj I (va_up F 17 (on)))) okX7 (k := 17) (by decide) lkX7_32 rfl (zb_nar (by omega)) (zb_fit (by omega)) (scAt_put hA).1.1 (nlt rfl) rfl dX7_showOther_22 ?_
    refine pw_h (scU0 hA) ?_
    exact pw_vret dX7_showOther_25 rfl (nle rfl) (nle rfl) ⟨rfl, by show _ = zP w H N NH I (_, _, (if on ≠ 0 ∧ F 17 = 0 then gkeep w H 0 0 o else o), T, c, l) h; rw [if_neg (by omega)]; first | done | rfl, rfl⟩
  ·
    refine pw_aload_n dX7_showOther_4 rfl ?_
    refine pw_get (v := .int (zI (F 17))) okX7 (k := 17) (by decide) lkX7_32 (scAt_put hA).1.1 rfl dX7_showOther_5 ?_
    refine pw_if_ne (tgt := 20) dX7_showOther_8 rfl (by omega) (fun c8 => ?_) (fun c8 => ?_)
    ·
      refine pw_aload_n dX7_showOther_20 rfl ?_
      refine pw_iload_n dX7_showOther_21 rfl ?_
      refine pw_put (fs' := (scObj I (va_up F 17 (on)))) okX7 (k := 17) (by decide) lkX7_32 rfl (zb_nar (by omega)) (zb_fit (by omega)) (scAt_put hA).1.1 (nlt rfl) rfl dX7_showOther_22 ?_
      refine pw_h (scU0 hA) ?_
      exact pw_vret dX7_showOther_25 rfl (nle rfl) (nle rfl) ⟨rfl, by show _ = zP w H N NH I (_, _, (if on ≠ 0 ∧ F 17 = 0 then gkeep w H 0 0 o else o), T, c, l) h; rw [if_neg (by omega)]; first | done | rfl, rfl⟩
    ·
      refine pw_aload_n dX7_showOther_11 rfl ?_
      refine pw_get (v := .ref (I 7)) okX7 (k := 1) (by decide) lkX7_20 (scAt_put hA).1.1 rfl dX7_showOther_12 ?_
      refine pw_iconst (v := zI (0)) dX7_showOther_15 (by decide) ?_
      refine pw_iconst (v := zI (0)) dX7_showOther_16 (by decide) ?_
      refine pw_callV (As := [.int (zI (0)), .int (zI (0))]) (b := (I 7)) (rm := rmD 3 0 0) (mX0_keep htr (scAt_put hA).1.2.2.2.2.2.2.2 (scAt_put hA).1.2.2.1 (scNe hA (by decide) (by decide) (by decide)) (by omega) (by omega) gN gN2 (by omega) (by omega)) rfl (scAt_put hA).1.2.2.2.2.2.2.2 rfl rfl ywX0_keep rfl cwX7_36 ⟨nle rfl, nle rfl⟩ (nle rfl) ⟨nle rfl, nle rfl⟩ dX7_showOther_17 ?_ (fun _ _ _ z => z.elim)
      intro r2 h2 n2 hq _
      rw [hq.1, hq.2.1, hq.2.2]
      show pw E YX7_showOther _ _ 0 0 20 [some (.ref (I 0)), some (.int (zI (on)))] [] (va_up (scPut w H N NH I F m o T c l h) (I 2) (pz_z 0 N (gkeep w H (0) (0) o))) n
      refine pw_h (scU2 hA) ?_
      refine pw_aload_n dX7_showOther_20 rfl ?_
      refine pw_iload_n dX7_showOther_21 rfl ?_
      refine pw_put (fs' := (scObj I (va_up F 17 (on)))) okX7 (k := 17) (by decide) lkX7_32 rfl (zb_nar (by omega)) (zb_fit (by omega)) (scAt_put hA).1.1 (nlt rfl) rfl dX7_showOther_22 ?_
      refine pw_h (scU0 hA) ?_
      exact pw_vret dX7_showOther_25 rfl (nle rfl) (nle rfl) ⟨rfl, by show _ = zP w H N NH I (_, _, (if on ≠ 0 ∧ F 17 = 0 then gkeep w H 0 0 o else o), T, c, l) h; rw [if_pos (by omega)]; first | done | rfl, rfl⟩
set_option maxHeartbeats 4000000 in
set_option maxRecDepth 100000 in
/-- Screen.moveTo(a, b) -/
theorem mX7_moveToW {E : pw_E} (htr : E.1.stackTraces = false) {h : pz_H} {n : Nat} {w H : Int} {N NH : Nat} {I : Nat → Nat} {F m o T c l : Nat → Int} (hG : geo w H N NH) (hA : scAt w H N NH I F m o T c l h) {a b : Int} (h_a : -2147483648 ≤ a ∧ a < 2147483648) (h_b : -2147483648 ≤ b ∧ b < 2147483648) (o3 : 0 ≤ F 3 ∧ F 3 ≤ 1000) (o4 : 0 ≤ F 4 ∧ F 4 ≤ 1000) : pw_M E yX7_moveTo YX7_moveTo (rmD 2 0 0) [.ref (I 0), .int (zI (a)), .int (zI (b))] h n (fun r h' n' => r = none ∧ h' = scPut w H N NH I (sMove F a b) m o T c l h ∧ n' = n) (fun _ _ _ => False) := by
  have hG0 := hG
  obtain ⟨gw, gH, gN, gN2, gNH⟩ := hG
  refine pw_M_of (lv := [some (.ref (I 0)), some (.int (zI (a))), some (.int (zI (b)))]) (by decide) rfl rfl htr (nle rfl) rfl (fun L => ?_)
  refine pw_h (scPut_id hA).symm ?_
  refine pw_aload_n dX7_moveTo_0 rfl ?_
  refine pw_iload_n dX7_moveTo_1 rfl ?_
  refine pw_iconst (v := zI (0)) dX7_moveTo_2 (by decide) ?_
  refine pw_aload_n dX7_moveTo_3 rfl ?_
  refine pw_get (v := .int (zI (F 3))) okX7 (k := 3) (by decide) lkX7_76 (scAt_put hA).1.1 rfl dX7_moveTo_4 ?_
  refine pw_iconst (v := zI (1)) dX7_moveTo_7 (by decide) ?_
  refine pw_zisub dX7_moveTo_8 ?_
  refine pw_callSN (As := [.int (zI (a)), .int (zI (0)), .int (zI ((F 3) - (1)))]) (rm := rmD 1 0 0) (mX9_nearest htr (by omega) (by omega) (by omega)) rfl ywX9_nearest rfl cwX7_85 ⟨nle rfl, nle rfl⟩ (nle rfl) ⟨nle rfl, nle rfl⟩ dX7_moveTo_9 ?_
  intro r2 h2 n2 hq _
  rw [hq.1, hq.2.1, hq.2.2]
  show pw E YX7_moveTo _ _ 0 0 12 [some (.ref (I 0)), some (.int (zI (a))), some (.int (zI (b)))] [.int (zI (max (0) (min ((F 3) - (1)) (a)))), .ref (I 0)] (scPut w H N NH I F m o T c l h) n
  refine pw_put (fs' := (scObj I (va_up F 5 (max (0) (min ((F 3) - (1)) (a)))))) okX7 (k := 5) (by decide) lkX7_42 rfl rfl rfl (scAt_put hA).1.1 (nlt rfl) rfl dX7_moveTo_12 ?_
  refine pw_h (scU0 hA) ?_
  refine pw_aload_n dX7_moveTo_15 rfl ?_
  refine pw_iload_n dX7_moveTo_16 rfl ?_
  refine pw_iconst (v := zI (0)) dX7_moveTo_17 (by decide) ?_
  refine pw_aload_n dX7_moveTo_18 rfl ?_
  refine pw_get (v := .int (zI (F 4))) okX7 (k := 4) (by decide) lkX7_61 (scAt_put hA).1.1 rfl dX7_moveTo_19 ?_
  refine pw_iconst (v := zI (1)) dX7_moveTo_22 (by decide) ?_
  refine pw_zisub dX7_moveTo_23 ?_
  refine pw_callSN (As := [.int (zI (b)), .int (zI (0)), .int (zI ((F 4) - (1)))]) (rm := rmD 1 0 0) (mX9_nearest htr (by omega) (by omega) (by omega)) rfl ywX9_nearest rfl cwX7_85 ⟨nle rfl, nle rfl⟩ (nle rfl) ⟨nle rfl, nle rfl⟩ dX7_moveTo_24 ?_
  intro r2 h2 n2 hq _
  rw [hq.1, hq.2.1, hq.2.2]
  show pw E YX7_moveTo _ _ 0 0 27 [some (.ref (I 0)), some (.int (zI (a))), some (.int (zI (b)))] [.int (zI (max (0) (min ((F 4) - (1)) (b)))), .ref (I 0)] (scPut w H N NH I (va_up F 5 (max (0) (min ((F 3) - (1)) (a)))) m o T c l h) n
  refine pw_put (fs' := (scObj I (va_up (va_up F 5 (max (0) (min ((F 3) - (1)) (a)))) 6 (max (0) (min ((F 4) - (1)) (b)))))) okX7 (k := 6) (by decide) lkX7_46 rfl rfl rfl (scAt_put hA).1.1 (nlt rfl) rfl dX7_moveTo_27 ?_
  refine pw_h (scU0 hA) ?_
  refine pw_aload_n dX7_moveTo_30 rfl ?_
  refine pw_iconst (v := zI (0)) dX7_moveTo_31 (by decide) ?_
  refine pw_put (fs' := (scObj I (va_up (va_up (va_up F 5 (max (0) (min ((F 3) - (1)) (a)))) 6 (max (0) (min ((F 4) - (1)) (b)))) 7 (0)))) okX7 (k := 7) (by decide) lkX7_49 rfl (by decide) (by decide) (scAt_put hA).1.1 (nlt rfl) rfl dX7_moveTo_32 ?_
  refine pw_h (scU0 hA) ?_
  exact pw_vret dX7_moveTo_35 rfl (nle rfl) (nle rfl) ⟨rfl, rfl, rfl⟩
set_option maxHeartbeats 4000000 in
set_option maxRecDepth 100000 in
/-- Screen.savePlace() -/
theorem mX7_savePlaceW {E : pw_E} (htr : E.1.stackTraces = false) {h : pz_H} {n : Nat} {w H : Int} {N NH : Nat} {I : Nat → Nat} {F m o T c l : Nat → Int} (hG : geo w H N NH) (hA : scAt w H N NH I F m o T c l h) : pw_M E yX7_savePlace YX7_savePlace (rmD 0 0 0) [.ref (I 0)] h n (fun r h' n' => r = none ∧ h' = scPut w H N NH I (sSave F) m o T c l h ∧ n' = n) (fun _ _ _ => False) := by
  have hG0 := hG
  obtain ⟨gw, gH, gN, gN2, gNH⟩ := hG
  refine pw_M_of (lv := [some (.ref (I 0))]) (by decide) rfl rfl htr (nle rfl) rfl (fun L => ?_)
  refine pw_h (scPut_id hA).symm ?_
  refine pw_aload_n dX7_savePlace_0 rfl ?_
  refine pw_aload_n dX7_savePlace_1 rfl ?_
  refine pw_get (v := .int (zI (F 5))) okX7 (k := 5) (by decide) lkX7_42 (scAt_put hA).1.1 rfl dX7_savePlace_2 ?_
  refine pw_put (fs' := (scObj I (va_up F 9 (F 5)))) okX7 (k := 9) (by decide) lkX7_82 rfl rfl rfl (scAt_put hA).1.1 (nlt rfl) rfl dX7_savePlace_5 ?_
  refine pw_h (scU0 hA) ?_
  refine pw_aload_n dX7_savePlace_8 rfl ?_
  refine pw_aload_n dX7_savePlace_9 rfl ?_
  refine pw_get (v := .int (zI (F 6))) okX7 (k := 6) (by decide) lkX7_46 (scAt_put hA).1.1 rfl dX7_savePlace_10 ?_
  refine pw_put (fs' := (scObj I (va_up (va_up F 9 (F 5)) 10 (F 6)))) okX7 (k := 10) (by decide) lkX7_89 rfl rfl rfl (scAt_put hA).1.1 (nlt rfl) rfl dX7_savePlace_13 ?_
  refine pw_h (scU0 hA) ?_
  refine pw_aload_n dX7_savePlace_16 rfl ?_
  refine pw_aload_n dX7_savePlace_17 rfl ?_
  refine pw_get (v := .int (zI (F 8))) okX7 (k := 8) (by decide) lkX7_52 (scAt_put hA).1.1 rfl dX7_savePlace_18 ?_
  refine pw_put (fs' := (scObj I (va_up (va_up (va_up F 9 (F 5)) 10 (F 6)) 11 (F 8)))) okX7 (k := 11) (by decide) lkX7_113 rfl rfl rfl (scAt_put hA).1.1 (nlt rfl) rfl dX7_savePlace_21 ?_
  refine pw_h (scU0 hA) ?_
  exact pw_vret dX7_savePlace_24 rfl (nle rfl) (nle rfl) ⟨rfl, rfl, rfl⟩
set_option maxHeartbeats 4000000 in
set_option maxRecDepth 100000 in
/-- Screen.reset() -/
theorem mX7_reset {E : pw_E} (htr : E.1.stackTraces = false) {h : pz_H} {n : Nat} {w H : Int} {N NH : Nat} {I : Nat → Nat} {F m o T c l : Nat → Int} (hG : geo w H N NH) (hA : scAt w H N NH I F m o T c l h) (oT : hOk T) (o4 : 0 ≤ F 4 ∧ F 4 ≤ 1000) : pw_M E yX7_reset YX7_reset (rmD 4 0 0) [.ref (I 0)] h n (fun r h' n' => r = none ∧ h' = zP w H N NH I (zReset w H (F, m, o, T, c, l)) h ∧ n' = n) (fun _ _ _ => False) := by
  have hG0 := hG
  obtain ⟨gw, gH, gN, gN2, gNH⟩ := hG
  refine pw_M_of (lv := [some (.ref (I 0))]) (by decide) rfl rfl htr (nle rfl) rfl (fun L => ?_)
  refine pw_h (scPut_id hA).symm ?_
  refine pw_aload_n dX7_reset_0 rfl ?_
  refine pw_get (v := .ref (I 6)) okX7 (k := 0) (by decide) lkX7_14 (scAt_put hA).1.1 rfl dX7_reset_1 ?_
  refine pw_iconst (v := zI (0)) dX7_reset_4 (by decide) ?_
  refine pw_iconst (v := zI (0)) dX7_reset_5 (by decide) ?_
  refine pw_callV (As := [.int (zI (0)), .int (zI (0))]) (b := (I 6)) (rm := rmD 3 0 0) (mX0_keep htr (scAt_put hA).1.2.2.2.2.2.2.1 (scAt_put hA).1.2.1 (scNe hA (by decide) (by decide) (by decide)) (by omega) (by omega) gN gN2 (by omega) (by omega)) rfl (scAt_put hA).1.2.2.2.2.2.2.1 rfl rfl ywX0_keep rfl cwX7_36 ⟨nle rfl, nle rfl⟩ (nle rfl) ⟨nle rfl, nle rfl⟩ dX7_reset_6 ?_ (fun _ _ _ z => z.elim)
  intro r2 h2 n2 hq _
  rw [hq.1, hq.2.1, hq.2.2]
  show pw E YX7_reset _ _ 0 0 9 [some (.ref (I 0))] [] (va_up (scPut w H N NH I F m o T c l h) (I 1) (pz_z 0 N (gkeep w H (0) (0) m))) n
  refine pw_h (scU1 hA) ?_
  refine pw_aload_n dX7_reset_9 rfl ?_
  refine pw_get (v := .ref (I 3)) okX7 (k := 2) (by decide) lkX7_28 (scAt_put hA).1.1 rfl dX7_reset_10 ?_
  refine pw_callV (As := []) (b := (I 3)) (rm := rmD 0 0 0) (mX1_forget htr (scAt_put hA).1.2.2.2.1 (scAt_put hA).1.2.2.2.2.1 (scAt_put hA).1.2.2.2.2.2.1 (scNe hA (by decide) (by decide) (by decide)) (scNe hA (by decide) (by decide) (by decide)) (scNe hA (by decide) (by decide) (by decide)) (by omega) oT.1 oT.2 gNH) rfl (scAt_put hA).1.2.2.2.1 rfl rfl ywX1_forget rfl cwX7_39 ⟨nle rfl, nle rfl⟩ (nle rfl) ⟨nle rfl, nle rfl⟩ dX7_reset_13 ?_ (fun _ _ _ z => z.elim)
  intro r2 h2 n2 hq _
  rw [hq.1, hq.2.1, hq.2.2]
  show pw E YX7_reset _ _ 0 0 16 [some (.ref (I 0))] [] (va_up (scPut w H N NH I F (gkeep w H (0) (0) m) o T c l h) (I 3) (pz_o 4 (hiObj w I (va_up (va_up T 3 0) 4 0)))) n
  refine pw_h (scU3 hA) ?_
  refine pw_aload_n dX7_reset_16 rfl ?_
  refine pw_iconst (v := zI (0)) dX7_reset_17 (by decide) ?_
  refine pw_put (fs' := (scObj I (va_up F 5 (0)))) okX7 (k := 5) (by decide) lkX7_42 rfl rfl rfl (scAt_put hA).1.1 (nlt rfl) rfl dX7_reset_18 ?_
  refine pw_h (scU0 hA) ?_
  refine pw_aload_n dX7_reset_21 rfl ?_
  refine pw_iconst (v := zI (0)) dX7_reset_22 (by decide) ?_
  refine pw_put (fs' := (scObj I (va_up (va_up F 5 (0)) 6 (0)))) okX7 (k := 6) (by decide) lkX7_46 rfl rfl rfl (scAt_put hA).1.1 (nlt rfl) rfl dX7_reset_23 ?_
  refine pw_h (scU0 hA) ?_
  refine pw_aload_n dX7_reset_26 rfl ?_
  refine pw_iconst (v := zI (0)) dX7_reset_27 (by decide) ?_
  refine pw_put (fs' := (scObj I (va_up (va_up (va_up F 5 (0)) 6 (0)) 7 (0)))) okX7 (k := 7) (by decide) lkX7_49 rfl (by decide) (by decide) (scAt_put hA).1.1 (nlt rfl) rfl dX7_reset_28 ?_
  refine pw_h (scU0 hA) ?_
  refine pw_aload_n dX7_reset_31 rfl ?_
  refine pw_iconst (v := zI (0)) dX7_reset_32 (by decide) ?_
  refine pw_put (fs' := (scObj I (va_up (va_up (va_up (va_up F 5 (0)) 6 (0)) 7 (0)) 8 (0)))) okX7 (k := 8) (by decide) lkX7_52 rfl rfl rfl (scAt_put hA).1.1 (nlt rfl) rfl dX7_reset_33 ?_
  refine pw_h (scU0 hA) ?_
  refine pw_aload_n dX7_reset_36 rfl ?_
  refine pw_callV (As := []) (b := (I 0)) (rm := rmD 0 0 0) (mX7_savePlaceW htr hG0 (scAt_put hA)) rfl (scAt_put hA).1.1 rfl rfl ywX7_savePlace rfl cwX7_55 ⟨nle rfl, nle rfl⟩ (nle rfl) ⟨nle rfl, nle rfl⟩ dX7_reset_37 ?_ (fun _ _ _ z => z.elim)
  intro r2 h2 n2 hq _
  rw [hq.1, hq.2.1, hq.2.2]
  show pw E YX7_reset _ _ 0 0 40 [some (.ref (I 0))] [] (scPut w H N NH I (sSave (va_up (va_up (va_up (va_up F 5 (0)) 6 (0)) 7 (0)) 8 (0))) (gkeep w H (0) (0) m) o (va_up (va_up T 3 0) 4 0) c l (scPut w H N NH I (va_up (va_up (va_up (va_up F 5 (0)) 6 (0)) 7 (0)) 8 (0)) (gkeep w H (0) (0) m) o (va_up (va_up T 3 0) 4 0) c l h)) n
  refine pw_h scPut_put ?_
  refine pw_aload_n dX7_reset_40 rfl ?_
  refine pw_iconst (v := zI (0)) dX7_reset_41 (by decide) ?_
  refine pw_put (fs' := (scObj I (va_up (sSave (va_up (va_up (va_up (va_up F 5 (0)) 6 (0)) 7 (0)) 8 (0))) 12 (0)))) okX7 (k := 12) (by decide) lkX7_58 rfl rfl rfl (scAt_put hA).1.1 (nlt rfl) rfl dX7_reset_42 ?_
  refine pw_h (scU0 hA) ?_
  refine pw_aload_n dX7_reset_45 rfl ?_
  refine pw_aload_n dX7_reset_46 rfl ?_
  refine pw_get (v := .int (zI (F 4))) okX7 (k := 4) (by decide) lkX7_61 (scAt_put hA).1.1 rfl dX7_reset_47 ?_
  refine pw_iconst (v := zI (1)) dX7_reset_50 (by decide) ?_
  refine pw_zisub dX7_reset_51 ?_
  refine pw_put (fs' := (scObj I (va_up (va_up (sSave (va_up (va_up (va_up (va_up F 5 (0)) 6 (0)) 7 (0)) 8 (0))) 12 (0)) 13 ((F 4) - (1))))) okX7 (k := 13) (by decide) lkX7_64 rfl rfl rfl (scAt_put hA).1.1 (nlt rfl) rfl dX7_reset_52 ?_
  refine pw_h (scU0 hA) ?_
  refine pw_aload_n dX7_reset_55 rfl ?_
  refine pw_iconst (v := zI (0)) dX7_reset_56 (by decide) ?_
  refine pw_put (fs' := (scObj I (va_up (va_up (va_up (sSave (va_up (va_up (va_up (va_up F 5 (0)) 6 (0)) 7 (0)) 8 (0))) 12 (0)) 13 ((F 4) - (1))) 14 (0)))) okX7 (k := 14) (by decide) lkX7_67 rfl (by decide) (by decide) (scAt_put hA).1.1 (nlt rfl) rfl dX7_reset_57 ?_
  refine pw_h (scU0 hA) ?_
  refine pw_aload_n dX7_reset_60 rfl ?_
  refine pw_iconst (v := zI (1)) dX7_reset_61 (by decide) ?_
  refine pw_put (fs' := (scObj I (va_up (va_up (va_up (va_up (sSave (va_up (va_up (va_up (va_up F 5 (0)) 6 (0)) 7 (0)) 8 (0))) 12 (0)) 13 ((F 4) - (1))) 14 (0)) 15 (1)))) okX7 (k := 15) (by decide) lkX7_70 rfl (by decide) (by decide) (scAt_put hA).1.1 (nlt rfl) rfl dX7_reset_62 ?_
  refine pw_h (scU0 hA) ?_
  refine pw_aload_n dX7_reset_65 rfl ?_
  refine pw_iconst (v := zI (1)) dX7_reset_66 (by decide) ?_
  refine pw_put (fs' := (scObj I (va_up (va_up (va_up (va_up (va_up (sSave (va_up (va_up (va_up (va_up F 5 (0)) 6 (0)) 7 (0)) 8 (0))) 12 (0)) 13 ((F 4) - (1))) 14 (0)) 15 (1)) 16 (1)))) okX7 (k := 16) (by decide) lkX7_73 rfl (by decide) (by decide) (scAt_put hA).1.1 (nlt rfl) rfl dX7_reset_67 ?_
  refine pw_h (scU0 hA) ?_
  refine pw_aload_n dX7_reset_70 rfl ?_
  refine pw_iconst (v := zI (0)) dX7_reset_71 (by decide) ?_
  refine pw_put (fs' := (scObj I (va_up (va_up (va_up (va_up (va_up (va_up (sSave (va_up (va_up (va_up (va_up F 5 (0)) 6 (0)) 7 (0)) 8 (0))) 12 (0)) 13 ((F 4) - (1))) 14 (0)) 15 (1)) 16 (1)) 17 (0)))) okX7 (k := 17) (by decide) lkX7_32 rfl (by decide) (by decide) (scAt_put hA).1.1 (nlt rfl) rfl dX7_reset_72 ?_
  refine pw_h (scU0 hA) ?_
  exact pw_vret dX7_reset_75 rfl (nle rfl) (nle rfl) ⟨rfl, rfl, rfl⟩
set_option maxHeartbeats 4000000 in
set_option maxRecDepth 100000 in
/-- Screen.resize(a, b) -/
theorem mX7_resize {E : pw_E} (htr : E.1.stackTraces = false) {h : pz_H} {n : Nat} {w H : Int} {N NH : Nat} {I : Nat → Nat} {F m o T c l : Nat → Int} (hG : geo w H N NH) (hA : scAt w H N NH I F m o T c l h) {a b : Int} (h_a : -2147483648 ≤ a ∧ a < 2147483648) (h_b : -2147483648 ≤ b ∧ b < 2147483648) (ha : 1 ≤ a ∧ a ≤ w) (hb : 1 ≤ b ∧ b ≤ H) (o3 : 0 ≤ F 3 ∧ F 3 ≤ 1000) (o4 : 0 ≤ F 4 ∧ F 4 ≤ 1000) (o5 : 0 ≤ F 5 ∧ F 5 ≤ 1000) (o6 : 0 ≤ F 6 ∧ F 6 ≤ 1000) (o9 : 0 ≤ F 9 ∧ F 9 ≤ 1000) (o10 : 0 ≤ F 10 ∧ F 10 ≤ 1000) : pw_M E yX7_resize YX7_resize (rmD 4 0 0) [.ref (I 0), .int (zI (a)), .int (zI (b))] h n (fun r h' n' => r = none ∧ h' = zP w H N NH I (zResize w H a b (F, m, o, T, c, l)) h ∧ n' = n) (fun _ _ _ => False) := by
  have hG0 := hG
  obtain ⟨gw, gH, gN, gN2, gNH⟩ := hG
  refine pw_M_of (lv := [some (.ref (I 0)), some (.int (zI (a))), some (.int (zI (b)))]) (by decide) rfl rfl htr (nle rfl) rfl (fun L => ?_)
  refine pw_h (scPut_id hA).symm ?_
  refine pw_iload_n dX7_resize_0 rfl ?_
  refine pw_aload_n dX7_resize_1 rfl ?_
  refine pw_get (v := .int (zI (F 3))) okX7 (k := 3) (by decide) lkX7_76 (scAt_put hA).1.1 rfl dX7_resize_2 ?_
  refine pw_icmp_ne (tgt := 17) dX7_resize_5 rfl (by omega) (by omega) (fun c5 => ?_) (fun c5 => ?_)
  ·
    refine pw_aload_n dX7_resize_17 rfl ?_
    refine pw_iload_n dX7_resize_18 rfl ?_
    refine pw_put (fs' := (scObj I (va_up F 3 (a)))) okX7 (k := 3) (by decide) lkX7_76 rfl rfl rfl (scAt_put hA).1.1 (nlt rfl) rfl dX7_resize_19 ?_
    refine pw_h (scU0 hA) ?_
    refine pw_aload_n dX7_resize_22 rfl ?_
    refine pw_iload_n dX7_resize_23 rfl ?_
    refine pw_put (fs' := (scObj I (va_up (va_up F 3 (a)) 4 (b)))) okX7 (k := 4) (by decide) lkX7_61 rfl rfl rfl (scAt_put hA).1.1 (nlt rfl) rfl dX7_resize_24 ?_
    refine pw_h (scU0 hA) ?_
    refine pw_aload_n dX7_resize_27 rfl ?_
    refine pw_get (v := .ref (I 6)) okX7 (k := 0) (by decide) lkX7_14 (scAt_put hA).1.1 rfl dX7_resize_28 ?_
    refine pw_aload_n dX7_resize_31 rfl ?_
    refine pw_get (v := .int (zI (a))) okX7 (k := 3) (by decide) lkX7_76 (scAt_put hA).1.1 rfl dX7_resize_32 ?_
    refine pw_aload_n dX7_resize_35 rfl ?_
    refine pw_get (v := .int (zI (b))) okX7 (k := 4) (by decide) lkX7_61 (scAt_put hA).1.1 rfl dX7_resize_36 ?_
    refine pw_callV (As := [.int (zI (a)), .int (zI (b))]) (b := (I 6)) (rm := rmD 3 0 0) (mX0_keep htr (scAt_put hA).1.2.2.2.2.2.2.1 (scAt_put hA).1.2.1 (scNe hA (by decide) (by decide) (by decide)) (by omega) (by omega) gN gN2 (by omega) (by omega)) rfl (scAt_put hA).1.2.2.2.2.2.2.1 rfl rfl ywX0_keep rfl cwX7_36 ⟨nle rfl, nle rfl⟩ (nle rfl) ⟨nle rfl, nle rfl⟩ dX7_resize_39 ?_ (fun _ _ _ z => z.elim)
    intro r2 h2 n2 hq _
    rw [hq.1, hq.2.1, hq.2.2]
    show pw E YX7_resize _ _ 0 0 42 [some (.ref (I 0)), some (.int (zI (a))), some (.int (zI (b)))] [] (va_up (scPut w H N NH I (va_up (va_up F 3 (a)) 4 (b)) m o T c l h) (I 1) (pz_z 0 N (gkeep w H (a) (b) m))) n
    refine pw_h (scU1 hA) ?_
    refine pw_aload_n dX7_resize_42 rfl ?_
    refine pw_get (v := .ref (I 7)) okX7 (k := 1) (by decide) lkX7_20 (scAt_put hA).1.1 rfl dX7_resize_43 ?_
    refine pw_aload_n dX7_resize_46 rfl ?_
    refine pw_get (v := .int (zI (a))) okX7 (k := 3) (by decide) lkX7_76 (scAt_put hA).1.1 rfl dX7_resize_47 ?_
    refine pw_aload_n dX7_resize_50 rfl ?_
    refine pw_get (v := .int (zI (b))) okX7 (k := 4) (by decide) lkX7_61 (scAt_put hA).1.1 rfl dX7_resize_51 ?_
    refine pw_callV (As := [.int (zI (a)), .int (zI (b))]) (b := (I 7)) (rm := rmD 3 0 0) (mX0_keep htr (scAt_put hA).1.2.2.2.2.2.2.2 (scAt_put hA).1.2.2.1 (scNe hA (by decide) (by decide) (by decide)) (by omega) (by omega) gN gN2 (by omega) (by omega)) rfl (scAt_put hA).1.2.2.2.2.2.2.2 rfl rfl ywX0_keep rfl cwX7_36 ⟨nle rfl, nle rfl⟩ (nle rfl) ⟨nle rfl, nle rfl⟩ dX7_resize_54 ?_ (fun _ _ _ z => z.elim)
    intro r2 h2 n2 hq _
    rw [hq.1, hq.2.1, hq.2.2]
    show pw E YX7_resize _ _ 0 0 57 [some (.ref (I 0)), some (.int (zI (a))), some (.int (zI (b)))] [] (va_up (scPut w H N NH I (va_up (va_up F 3 (a)) 4 (b)) (gkeep w H (a) (b) m) o T c l h) (I 2) (pz_z 0 N (gkeep w H (a) (b) o))) n
    refine pw_h (scU2 hA) ?_
    refine pw_aload_n dX7_resize_57 rfl ?_
    refine pw_aload_n dX7_resize_58 rfl ?_
    refine pw_get (v := .int (zI (F 5))) okX7 (k := 5) (by decide) lkX7_42 (scAt_put hA).1.1 rfl dX7_resize_59 ?_
    refine pw_aload_n dX7_resize_62 rfl ?_
    refine pw_get (v := .int (zI (F 6))) okX7 (k := 6) (by decide) lkX7_46 (scAt_put hA).1.1 rfl dX7_resize_63 ?_
    refine pw_callV (As := [.int (zI (F 5)), .int (zI (F 6))]) (b := (I 0)) (rm := rmD 2 0 0) (mX7_moveToW htr hG0 (scAt_put hA) (by omega) (by omega) (show 0 ≤ a ∧ a ≤ 1000 by omega) (show 0 ≤ b ∧ b ≤ 1000 by omega)) rfl (scAt_put hA).1.1 rfl rfl ywX7_moveTo rfl cwX7_79 ⟨nle rfl, nle rfl⟩ (nle rfl) ⟨nle rfl, nle rfl⟩ dX7_resize_66 ?_ (fun _ _ _ z => z.elim)
    intro r2 h2 n2 hq _
    rw [hq.1, hq.2.1, hq.2.2]
    show pw E YX7_resize _ _ 0 0 69 [some (.ref (I 0)), some (.int (zI (a))), some (.int (zI (b)))] [] (scPut w H N NH I (sMove (va_up (va_up F 3 (a)) 4 (b)) (F 5) (F 6)) (gkeep w H (a) (b) m) (gkeep w H (a) (b) o) T c l (scPut w H N NH I (va_up (va_up F 3 (a)) 4 (b)) (gkeep w H (a) (b) m) (gkeep w H (a) (b) o) T c l h)) n
    refine pw_h scPut_put ?_
    refine pw_aload_n dX7_resize_69 rfl ?_
    refine pw_aload_n dX7_resize_70 rfl ?_
    refine pw_get (v := .int (zI (F 9))) okX7 (k := 9) (by decide) lkX7_82 (scAt_put hA).1.1 rfl dX7_resize_71 ?_
    refine pw_iconst (v := zI (0)) dX7_resize_74 (by decide) ?_
    refine pw_aload_n dX7_resize_75 rfl ?_
    refine pw_get (v := .int (zI (a))) okX7 (k := 3) (by decide) lkX7_76 (scAt_put hA).1.1 rfl dX7_resize_76 ?_
    refine pw_iconst (v := zI (1)) dX7_resize_79 (by decide) ?_
    refine pw_zisub dX7_resize_80 ?_
    refine pw_callSN (As := [.int (zI (F 9)), .int (zI (0)), .int (zI (a - 1))]) (rm := rmD 1 0 0) (mX9_nearest htr (by omega) (by omega) (by omega)) rfl ywX9_nearest rfl cwX7_85 ⟨nle rfl, nle rfl⟩ (nle rfl) ⟨nle rfl, nle rfl⟩ dX7_resize_81 ?_
    intro r2 h2 n2 hq _
    rw [hq.1, hq.2.1, hq.2.2]
    show pw E YX7_resize _ _ 0 0 84 [some (.ref (I 0)), some (.int (zI (a))), some (.int (zI (b)))] [.int (zI (max (0) (min (a - 1) (F 9)))), .ref (I 0)] (scPut w H N NH I (sMove (va_up (va_up F 3 (a)) 4 (b)) (F 5) (F 6)) (gkeep w H (a) (b) m) (gkeep w H (a) (b) o) T c l h) n
    refine pw_put (fs' := (scObj I (va_up (sMove (va_up (va_up F 3 (a)) 4 (b)) (F 5) (F 6)) 9 (max (0) (min (a - 1) (F 9)))))) okX7 (k := 9) (by decide) lkX7_82 rfl rfl rfl (scAt_put hA).1.1 (nlt rfl) rfl dX7_resize_84 ?_
    refine pw_h (scU0 hA) ?_
    refine pw_aload_n dX7_resize_87 rfl ?_
    refine pw_aload_n dX7_resize_88 rfl ?_
    refine pw_get (v := .int (zI (F 10))) okX7 (k := 10) (by decide) lkX7_89 (scAt_put hA).1.1 rfl dX7_resize_89 ?_
    refine pw_iconst (v := zI (0)) dX7_resize_92 (by decide) ?_
    refine pw_aload_n dX7_resize_93 rfl ?_
    refine pw_get (v := .int (zI (b))) okX7 (k := 4) (by decide) lkX7_61 (scAt_put hA).1.1 rfl dX7_resize_94 ?_
    refine pw_iconst (v := zI (1)) dX7_resize_97 (by decide) ?_
    refine pw_zisub dX7_resize_98 ?_
    refine pw_callSN (As := [.int (zI (F 10)), .int (zI (0)), .int (zI (b - 1))]) (rm := rmD 1 0 0) (mX9_nearest htr (by omega) (by omega) (by omega)) rfl ywX9_nearest rfl cwX7_85 ⟨nle rfl, nle rfl⟩ (nle rfl) ⟨nle rfl, nle rfl⟩ dX7_resize_99 ?_
    intro r2 h2 n2 hq _
    rw [hq.1, hq.2.1, hq.2.2]
    show pw E YX7_resize _ _ 0 0 102 [some (.ref (I 0)), some (.int (zI (a))), some (.int (zI (b)))] [.int (zI (max (0) (min (b - 1) (F 10)))), .ref (I 0)] (scPut w H N NH I (va_up (sMove (va_up (va_up F 3 (a)) 4 (b)) (F 5) (F 6)) 9 (max (0) (min (a - 1) (F 9)))) (gkeep w H (a) (b) m) (gkeep w H (a) (b) o) T c l h) n
    refine pw_put (fs' := (scObj I (va_up (va_up (sMove (va_up (va_up F 3 (a)) 4 (b)) (F 5) (F 6)) 9 (max (0) (min (a - 1) (F 9)))) 10 (max (0) (min (b - 1) (F 10)))))) okX7 (k := 10) (by decide) lkX7_89 rfl rfl rfl (scAt_put hA).1.1 (nlt rfl) rfl dX7_resize_102 ?_
    refine pw_h (scU0 hA) ?_
    refine pw_aload_n dX7_resize_105 rfl ?_
    refine pw_iconst (v := zI (0)) dX7_resize_106 (by decide) ?_
    refine pw_put (fs' := (scObj I (va_up (va_up (va_up (sMove (va_up (va_up F 3 (a)) 4 (b)) (F 5) (F 6)) 9 (max (0) (min (a - 1) (F 9)))) 10 (max (0) (min (b - 1) (F 10)))) 12 (0)))) okX7 (k := 12) (by decide) lkX7_58 rfl rfl rfl (scAt_put hA).1.1 (nlt rfl) rfl dX7_resize_107 ?_
    refine pw_h (scU0 hA) ?_
    refine pw_aload_n dX7_resize_110 rfl ?_
    refine pw_aload_n dX7_resize_111 rfl ?_
    refine pw_get (v := .int (zI (b))) okX7 (k := 4) (by decide) lkX7_61 (scAt_put hA).1.1 rfl dX7_resize_112 ?_
    refine pw_iconst (v := zI (1)) dX7_resize_115 (by decide) ?_
    refine pw_zisub dX7_resize_116 ?_
    refine pw_put (fs' := (scObj I (va_up (va_up (va_up (va_up (sMove (va_up (va_up F 3 (a)) 4 (b)) (F 5) (F 6)) 9 (max (0) (min (a - 1) (F 9)))) 10 (max (0) (min (b - 1) (F 10)))) 12 (0)) 13 (b - 1)))) okX7 (k := 13) (by decide) lkX7_64 rfl rfl rfl (scAt_put hA).1.1 (nlt rfl) rfl dX7_resize_117 ?_
    refine pw_h (scU0 hA) ?_
    exact pw_vret dX7_resize_120 rfl (nle rfl) (nle rfl) ⟨rfl, by rw [show zResize w H a b (F, m, o, T, c, l) = (zResizeF F a b, gkeep w H a b m, gkeep w H a b o, T, c, l) from if_neg (show ¬ (a = F 3 ∧ b = F 4) by omega)]; first | done | rfl, rfl⟩
  ·
    refine pw_iload_n dX7_resize_8 rfl ?_
    refine pw_aload_n dX7_resize_9 rfl ?_
    refine pw_get (v := .int (zI (F 4))) okX7 (k := 4) (by decide) lkX7_61 (scAt_put hA).1.1 rfl dX7_resize_10 ?_
    refine pw_icmp_ne (tgt := 17) dX7_resize_13 rfl (by omega) (by omega) (fun c13 => ?_) (fun c13 => ?_)
    ·
      refine pw_aload_n dX7_resize_17 rfl ?_
      refine pw_iload_n dX7_resize_18 rfl ?_
      refine pw_put (fs' := (scObj I (va_up F 3 (a)))) okX7 (k := 3) (by decide) lkX7_76 rfl rfl rfl (scAt_put hA).1.1 (nlt rfl) rfl dX7_resize_19 ?_
      refine pw_h (scU0 hA) ?_
      refine pw_aload_n dX7_resize_22 rfl ?_
      refine pw_iload_n dX7_resize_23 rfl ?_
      refine pw_put (fs' := (scObj I (va_up (va_up F 3 (a)) 4 (b)))) okX7 (k := 4) (by decide) lkX7_61 rfl rfl rfl (scAt_put hA).1.1 (nlt rfl) rfl dX7_resize_24 ?_
      refine pw_h (scU0 hA) ?_
      refine pw_aload_n dX7_resize_27 rfl ?_
      refine pw_get (v := .ref (I 6)) okX7 (k := 0) (by decide) lkX7_14 (scAt_put hA).1.1 rfl dX7_resize_28 ?_
      refine pw_aload_n dX7_resize_31 rfl ?_
      refine pw_get (v := .int (zI (a))) okX7 (k := 3) (by decide) lkX7_76 (scAt_put hA).1.1 rfl dX7_resize_32 ?_
      refine pw_aload_n dX7_resize_35 rfl ?_
      refine pw_get (v := .int (zI (b))) okX7 (k := 4) (by decide) lkX7_61 (scAt_put hA).1.1 rfl dX7_resize_36 ?_
      refine pw_callV (As := [.int (zI (a)), .int (zI (b))]) (b := (I 6)) (rm := rmD 3 0 0) (mX0_keep htr (scAt_put hA).1.2.2.2.2.2.2.1 (scAt_put hA).1.2.1 (scNe hA (by decide) (by decide) (by decide)) (by omega) (by omega) gN gN2 (by omega) (by omega)) rfl (scAt_put hA).1.2.2.2.2.2.2.1 rfl rfl ywX0_keep rfl cwX7_36 ⟨nle rfl, nle rfl⟩ (nle rfl) ⟨nle rfl, nle rfl⟩ dX7_resize_39 ?_ (fun _ _ _ z => z.elim)
      intro r2 h2 n2 hq _
      rw [hq.1, hq.2.1, hq.2.2]
      show pw E YX7_resize _ _ 0 0 42 [some (.ref (I 0)), some (.int (zI (a))), some (.int (zI (b)))] [] (va_up (scPut w H N NH I (va_up (va_up F 3 (a)) 4 (b)) m o T c l h) (I 1) (pz_z 0 N (gkeep w H (a) (b) m))) n
      refine pw_h (scU1 hA) ?_
      refine pw_aload_n dX7_resize_42 rfl ?_
      refine pw_get (v := .ref (I 7)) okX7 (k := 1) (by decide) lkX7_20 (scAt_put hA).1.1 rfl dX7_resize_43 ?_
      refine pw_aload_n dX7_resize_46 rfl ?_
      refine pw_get (v := .int (zI (a))) okX7 (k := 3) (by decide) lkX7_76 (scAt_put hA).1.1 rfl dX7_resize_47 ?_
      refine pw_aload_n dX7_resize_50 rfl ?_
      refine pw_get (v := .int (zI (b))) okX7 (k := 4) (by decide) lkX7_61 (scAt_put hA).1.1 rfl dX7_resize_51 ?_
      refine pw_callV (As := [.int (zI (a)), .int (zI (b))]) (b := (I 7)) (rm := rmD 3 0 0) (mX0_keep htr (scAt_put hA).1.2.2.2.2.2.2.2 (scAt_put hA).1.2.2.1 (scNe hA (by decide) (by decide) (by decide)) (by omega) (by omega) gN gN2 (by omega) (by omega)) rfl (scAt_put hA).1.2.2.2.2.2.2.2 rfl rfl ywX0_keep rfl cwX7_36 ⟨nle rfl, nle rfl⟩ (nle rfl) ⟨nle rfl, nle rfl⟩ dX7_resize_54 ?_ (fun _ _ _ z => z.elim)
      intro r2 h2 n2 hq _
      rw [hq.1, hq.2.1, hq.2.2]
      show pw E YX7_resize _ _ 0 0 57 [some (.ref (I 0)), some (.int (zI (a))), some (.int (zI (b)))] [] (va_up (scPut w H N NH I (va_up (va_up F 3 (a)) 4 (b)) (gkeep w H (a) (b) m) o T c l h) (I 2) (pz_z 0 N (gkeep w H (a) (b) o))) n
      refine pw_h (scU2 hA) ?_
      refine pw_aload_n dX7_resize_57 rfl ?_
      refine pw_aload_n dX7_resize_58 rfl ?_
      refine pw_get (v := .int (zI (F 5))) okX7 (k := 5) (by decide) lkX7_42 (scAt_put hA).1.1 rfl dX7_resize_59 ?_
      refine pw_aload_n dX7_resize_62 rfl ?_
      refine pw_get (v := .int (zI (F 6))) okX7 (k := 6) (by decide) lkX7_46 (scAt_put hA).1.1 rfl dX7_resize_63 ?_
      refine pw_callV (As := [.int (zI (F 5)), .int (zI (F 6))]) (b := (I 0)) (rm := rmD 2 0 0) (mX7_moveToW htr hG0 (scAt_put hA) (by omega) (by omega) (show 0 ≤ a ∧ a ≤ 1000 by omega) (show 0 ≤ b ∧ b ≤ 1000 by omega)) rfl (scAt_put hA).1.1 rfl rfl ywX7_moveTo rfl cwX7_79 ⟨nle rfl, nle rfl⟩ (nle rfl) ⟨nle rfl, nle rfl⟩ dX7_resize_66 ?_ (fun _ _ _ z => z.elim)
      intro r2 h2 n2 hq _
      rw [hq.1, hq.2.1, hq.2.2]
      show pw E YX7_resize _ _ 0 0 69 [some (.ref (I 0)), some (.int (zI (a))), some (.int (zI (b)))] [] (scPut w H N NH I (sMove (va_up (va_up F 3 (a)) 4 (b)) (F 5) (F 6)) (gkeep w H (a) (b) m) (gkeep w H (a) (b) o) T c l (scPut w H N NH I (va_up (va_up F 3 (a)) 4 (b)) (gkeep w H (a) (b) m) (gkeep w H (a) (b) o) T c l h)) n
      refine pw_h scPut_put ?_
      refine pw_aload_n dX7_resize_69 rfl ?_
      refine pw_aload_n dX7_resize_70 rfl ?_
      refine pw_get (v := .int (zI (F 9))) okX7 (k := 9) (by decide) lkX7_82 (scAt_put hA).1.1 rfl dX7_resize_71 ?_
      refine pw_iconst (v := zI (0)) dX7_resize_74 (by decide) ?_
      refine pw_aload_n dX7_resize_75 rfl ?_
      refine pw_get (v := .int (zI (a))) okX7 (k := 3) (by decide) lkX7_76 (scAt_put hA).1.1 rfl dX7_resize_76 ?_
      refine pw_iconst (v := zI (1)) dX7_resize_79 (by decide) ?_
      refine pw_zisub dX7_resize_80 ?_
      refine pw_callSN (As := [.int (zI (F 9)), .int (zI (0)), .int (zI (a - 1))]) (rm := rmD 1 0 0) (mX9_nearest htr (by omega) (by omega) (by omega)) rfl ywX9_nearest rfl cwX7_85 ⟨nle rfl, nle rfl⟩ (nle rfl) ⟨nle rfl, nle rfl⟩ dX7_resize_81 ?_
      intro r2 h2 n2 hq _
      rw [hq.1, hq.2.1, hq.2.2]
      show pw E YX7_resize _ _ 0 0 84 [some (.ref (I 0)), some (.int (zI (a))), some (.int (zI (b)))] [.int (zI (max (0) (min (a - 1) (F 9)))), .ref (I 0)] (scPut w H N NH I (sMove (va_up (va_up F 3 (a)) 4 (b)) (F 5) (F 6)) (gkeep w H (a) (b) m) (gkeep w H (a) (b) o) T c l h) n
      refine pw_put (fs' := (scObj I (va_up (sMove (va_up (va_up F 3 (a)) 4 (b)) (F 5) (F 6)) 9 (max (0) (min (a - 1) (F 9)))))) okX7 (k := 9) (by decide) lkX7_82 rfl rfl rfl (scAt_put hA).1.1 (nlt rfl) rfl dX7_resize_84 ?_
      refine pw_h (scU0 hA) ?_
      refine pw_aload_n dX7_resize_87 rfl ?_
      refine pw_aload_n dX7_resize_88 rfl ?_
      refine pw_get (v := .int (zI (F 10))) okX7 (k := 10) (by decide) lkX7_89 (scAt_put hA).1.1 rfl dX7_resize_89 ?_
      refine pw_iconst (v := zI (0)) dX7_resize_92 (by decide) ?_
      refine pw_aload_n dX7_resize_93 rfl ?_
      refine pw_get (v := .int (zI (b))) okX7 (k := 4) (by decide) lkX7_61 (scAt_put hA).1.1 rfl dX7_resize_94 ?_
      refine pw_iconst (v := zI (1)) dX7_resize_97 (by decide) ?_
      refine pw_zisub dX7_resize_98 ?_
      refine pw_callSN (As := [.int (zI (F 10)), .int (zI (0)), .int (zI (b - 1))]) (rm := rmD 1 0 0) (mX9_nearest htr (by omega) (by omega) (by omega)) rfl ywX9_nearest rfl cwX7_85 ⟨nle rfl, nle rfl⟩ (nle rfl) ⟨nle rfl, nle rfl⟩ dX7_resize_99 ?_
      intro r2 h2 n2 hq _
      rw [hq.1, hq.2.1, hq.2.2]
      show pw E YX7_resize _ _ 0 0 102 [some (.ref (I 0)), some (.int (zI (a))), some (.int (zI (b)))] [.int (zI (max (0) (min (b - 1) (F 10)))), .ref (I 0)] (scPut w H N NH I (va_up (sMove (va_up (va_up F 3 (a)) 4 (b)) (F 5) (F 6)) 9 (max (0) (min (a - 1) (F 9)))) (gkeep w H (a) (b) m) (gkeep w H (a) (b) o) T c l h) n
      refine pw_put (fs' := (scObj I (va_up (va_up (sMove (va_up (va_up F 3 (a)) 4 (b)) (F 5) (F 6)) 9 (max (0) (min (a - 1) (F 9)))) 10 (max (0) (min (b - 1) (F 10)))))) okX7 (k := 10) (by decide) lkX7_89 rfl rfl rfl (scAt_put hA).1.1 (nlt rfl) rfl dX7_resize_102 ?_
      refine pw_h (scU0 hA) ?_
      refine pw_aload_n dX7_resize_105 rfl ?_
      refine pw_iconst (v := zI (0)) dX7_resize_106 (by decide) ?_
      refine pw_put (fs' := (scObj I (va_up (va_up (va_up (sMove (va_up (va_up F 3 (a)) 4 (b)) (F 5) (F 6)) 9 (max (0) (min (a - 1) (F 9)))) 10 (max (0) (min (b - 1) (F 10)))) 12 (0)))) okX7 (k := 12) (by decide) lkX7_58 rfl rfl rfl (scAt_put hA).1.1 (nlt rfl) rfl dX7_resize_107 ?_
      refine pw_h (scU0 hA) ?_
      refine pw_aload_n dX7_resize_110 rfl ?_
      refine pw_aload_n dX7_resize_111 rfl ?_
      refine pw_get (v := .int (zI (b))) okX7 (k := 4) (by decide) lkX7_61 (scAt_put hA).1.1 rfl dX7_resize_112 ?_
      refine pw_iconst (v := zI (1)) dX7_resize_115 (by decide) ?_
      refine pw_zisub dX7_resize_116 ?_
      refine pw_put (fs' := (scObj I (va_up (va_up (va_up (va_up (sMove (va_up (va_up F 3 (a)) 4 (b)) (F 5) (F 6)) 9 (max (0) (min (a - 1) (F 9)))) 10 (max (0) (min (b - 1) (F 10)))) 12 (0)) 13 (b - 1)))) okX7 (k := 13) (by decide) lkX7_64 rfl rfl rfl (scAt_put hA).1.1 (nlt rfl) rfl dX7_resize_117 ?_
      refine pw_h (scU0 hA) ?_
      exact pw_vret dX7_resize_120 rfl (nle rfl) (nle rfl) ⟨rfl, by rw [show zResize w H a b (F, m, o, T, c, l) = (zResizeF F a b, gkeep w H a b m, gkeep w H a b o, T, c, l) from if_neg (show ¬ (a = F 3 ∧ b = F 4) by omega)]; first | done | rfl, rfl⟩
    ·
      exact pw_vret dX7_resize_16 rfl (nle rfl) (nle rfl) ⟨rfl, by rw [show zResize w H a b (F, m, o, T, c, l) = (F, m, o, T, c, l) from if_pos (show a = F 3 ∧ b = F 4 by omega)]; first | done | rfl, rfl⟩
set_option maxHeartbeats 4000000 in
set_option maxRecDepth 100000 in
theorem lX7_write {E : pw_E} (htr : E.1.stackTraces = false) {h : pz_H} {n : Nat} {w H : Int} {N NH : Nat} {I : Nat → Nat} {F m o T c l : Nat → Int} (hG : geo w H N NH) (hA : scAt w H N NH I F m o T c l h) (hO : scOk w H F T) {ch : Int} (hch : 0 ≤ ch ∧ ch ≤ 127) {K : pw_K} (hQ : K.2.2.1 none (zP w H N NH I (zPut w H ch (F, m, o, T, c, l)) h) n) : pw E YX7_write (rmD 7 0 0) K 0 0 16 [some (.ref (I 0)), some (.int (zI ch))] [] h n := by
  have hG0 := hG
  have hO0 := hO
  obtain ⟨gw, gH, gN, gN2, gNH⟩ := hG
  obtain ⟨o3, o4, o5, o6, o7, o8, o9, o10, o11, o12, o14, o15, o16, o17, oT3, oT4⟩ := hO
  refine pw_h (scPut_idS hA).symm ?_
  refine pw_aload_n dX7_write_16 rfl ?_
  refine pw_get (v := .int (zI (F 14))) okX7 (k := 14) (by decide) lkX7_67 (scAt_put hA).1.1 rfl dX7_write_17 ?_
  refine pw_if_eq (tgt := 55) dX7_write_20 rfl (by omega) (fun c20 => ?_) (fun c20 => ?_)
  ·
    refine pw_aload_n dX7_write_55 rfl ?_
    refine pw_callV (As := []) (b := (I 0)) (rm := rmD 0 0 0) (mX7_shown htr hG0 (scAt_put hA) (hO0)) rfl (scAt_put hA).1.1 rfl rfl ywX7_shown rfl cwX7_95 ⟨nle rfl, nle rfl⟩ (nle rfl) ⟨nle rfl, nle rfl⟩ dX7_write_56 ?_ (fun _ _ _ z => z.elim)
    intro r2 h2 n2 hq _
    rw [hq.1, hq.2.1, hq.2.2]
    show pw E YX7_write _ _ 0 0 59 [some (.ref (I 0)), some (.int (zI (ch)))] [.ref (I (sq F + 5))] (scPut w H N NH I F (shM F m (shG F m o)) (shO F o (shG F m o)) T c l h) n
    refine pw_aload_n dX7_write_59 rfl ?_
    refine pw_get (v := .int (zI (F 5))) okX7 (k := 5) (by decide) lkX7_42 (scAt_put hA).1.1 rfl dX7_write_60 ?_
    refine pw_aload_n dX7_write_63 rfl ?_
    refine pw_get (v := .int (zI (F 6))) okX7 (k := 6) (by decide) lkX7_46 (scAt_put hA).1.1 rfl dX7_write_64 ?_
    refine pw_aload_n dX7_write_67 rfl ?_
    refine pw_get (v := .int (zI (F 8))) okX7 (k := 8) (by decide) lkX7_52 (scAt_put hA).1.1 rfl dX7_write_68 ?_
    refine pw_sipush (v := zI (128)) dX7_write_71 (by decide) ?_
    refine pw_zimul dX7_write_74 ?_
    refine pw_iload_n dX7_write_75 rfl ?_
    refine pw_ziadd dX7_write_76 ?_
    refine pw_callV (As := [.int (zI (F 5)), .int (zI (F 6)), .int (zI (((F 8) * (128)) + (ch)))]) (b := (I (sq F + 5))) (rm := rmD 0 0 0) (mX0_set htr (scSg (scAt_put hA)) (scSx hA) (scSne hA) (by omega) (by omega) gN gN2 (by omega) (by omega) (by omega)) rfl (scSg (scAt_put hA)) rfl rfl ywX0_set rfl cwX7_103 ⟨nle rfl, nle rfl⟩ (nle rfl) ⟨nle rfl, nle rfl⟩ dX7_write_77 ?_ (fun _ _ _ z => z.elim)
    intro r2 h2 n2 hq _
    rw [hq.1, hq.2.1, hq.2.2]
    show pw E YX7_write _ _ 0 0 80 [some (.ref (I 0)), some (.int (zI (ch)))] [] (va_up (scPut w H N NH I F (shM F m (shG F m o)) (shO F o (shG F m o)) T c l h) (I (sq F)) (pz_z 0 N (gset w H (F 5) (F 6) (((F 8) * (128)) + (ch)) (shG F m o)))) n
    refine pw_h (scUS hA) ?_
    refine pw_aload_n dX7_write_80 rfl ?_
    refine pw_get (v := .int (zI (F 5))) okX7 (k := 5) (by decide) lkX7_42 (scAt_put hA).1.1 rfl dX7_write_81 ?_
    refine pw_aload_n dX7_write_84 rfl ?_
    refine pw_get (v := .int (zI (F 3))) okX7 (k := 3) (by decide) lkX7_76 (scAt_put hA).1.1 rfl dX7_write_85 ?_
    refine pw_iconst (v := zI (1)) dX7_write_88 (by decide) ?_
    refine pw_zisub dX7_write_89 ?_
    refine pw_icmp_ge (tgt := 106) dX7_write_90 rfl (by omega) (by omega) (fun c90 => ?_) (fun c90 => ?_)
    ·
      refine pw_aload_n dX7_write_106 rfl ?_
      refine pw_aload_n dX7_write_107 rfl ?_
      refine pw_get (v := .int (zI (F 15))) okX7 (k := 15) (by decide) lkX7_70 (scAt_put hA).1.1 rfl dX7_write_108 ?_
      refine pw_put (fs' := (scObj I (va_up F 7 (F 15)))) okX7 (k := 7) (by decide) lkX7_49 rfl (zb_nar (by omega)) (zb_fit (by omega)) (scAt_put hA).1.1 (nlt rfl) rfl dX7_write_111 ?_
      refine pw_h (scU0 hA) ?_
      exact pw_vret dX7_write_114 rfl (nle rfl) (nle rfl) (by rw [show zPut w H ch (F, m, o, T, c, l) = ((va_up F 7 (F 15)), shM F m (gset w H (F 5) (F 6) (((F 8) * (128)) + (ch)) (shG F m o)), shO F o (gset w H (F 5) (F 6) (((F 8) * (128)) + (ch)) (shG F m o)), T, c, l) from by unfold zPut zPutF zPutX; first | rfl | (simp only [if_pos (show F 14 = 0 by omega)]; first | rw [if_pos (show F 5 < F 3 - 1 by omega)] | rw [if_neg (show ¬ F 5 < F 3 - 1 by omega)]) | (simp only [if_neg (show ¬ F 14 = 0 by omega)]; first | rw [if_pos (show F 5 < F 3 - 1 by omega)] | rw [if_neg (show ¬ F 5 < F 3 - 1 by omega)])] at hQ; exact hQ)
    ·
      refine pw_aload_n dX7_write_93 rfl ?_
      refine pw_dup dX7_write_94 rfl ?_
      refine pw_get (v := .int (zI (F 5))) okX7 (k := 5) (by decide) lkX7_42 (scAt_put hA).1.1 rfl dX7_write_95 ?_
      refine pw_iconst (v := zI (1)) dX7_write_98 (by decide) ?_
      refine pw_ziadd dX7_write_99 ?_
      refine pw_put (fs' := (scObj I (va_up F 5 ((F 5) + (1))))) okX7 (k := 5) (by decide) lkX7_42 rfl rfl rfl (scAt_put hA).1.1 (nlt rfl) rfl dX7_write_100 ?_
      refine pw_h (scU0 hA) ?_
      refine pw_goto (tgt := 114) dX7_write_103 rfl ?_
      exact pw_vret dX7_write_114 rfl (nle rfl) (nle rfl) (by rw [show zPut w H ch (F, m, o, T, c, l) = ((va_up F 5 ((F 5) + (1))), shM F m (gset w H (F 5) (F 6) (((F 8) * (128)) + (ch)) (shG F m o)), shO F o (gset w H (F 5) (F 6) (((F 8) * (128)) + (ch)) (shG F m o)), T, c, l) from by unfold zPut zPutF zPutX; first | rfl | (simp only [if_pos (show F 14 = 0 by omega)]; first | rw [if_pos (show F 5 < F 3 - 1 by omega)] | rw [if_neg (show ¬ F 5 < F 3 - 1 by omega)]) | (simp only [if_neg (show ¬ F 14 = 0 by omega)]; first | rw [if_pos (show F 5 < F 3 - 1 by omega)] | rw [if_neg (show ¬ F 5 < F 3 - 1 by omega)])] at hQ; exact hQ)
  ·
    refine pw_aload_n dX7_write_23 rfl ?_
    refine pw_callV (As := []) (b := (I 0)) (rm := rmD 0 0 0) (mX7_shown htr hG0 (scAt_put hA) (hO0)) rfl (scAt_put hA).1.1 rfl rfl ywX7_shown rfl cwX7_95 ⟨nle rfl, nle rfl⟩ (nle rfl) ⟨nle rfl, nle rfl⟩ dX7_write_24 ?_ (fun _ _ _ z => z.elim)
    intro r2 h2 n2 hq _
    rw [hq.1, hq.2.1, hq.2.2]
    show pw E YX7_write _ _ 0 0 27 [some (.ref (I 0)), some (.int (zI (ch)))] [.ref (I (sq F + 5))] (scPut w H N NH I F (shM F m (shG F m o)) (shO F o (shG F m o)) T c l h) n
    refine pw_aload_n dX7_write_27 rfl ?_
    refine pw_get (v := .int (zI (F 6))) okX7 (k := 6) (by decide) lkX7_46 (scAt_put hA).1.1 rfl dX7_write_28 ?_
    refine pw_aload_n dX7_write_31 rfl ?_
    refine pw_get (v := .int (zI (F 5))) okX7 (k := 5) (by decide) lkX7_42 (scAt_put hA).1.1 rfl dX7_write_32 ?_
    refine pw_aload_n dX7_write_35 rfl ?_
    refine pw_get (v := .int (zI (F 5))) okX7 (k := 5) (by decide) lkX7_42 (scAt_put hA).1.1 rfl dX7_write_36 ?_
    refine pw_iconst (v := zI (1)) dX7_write_39 (by decide) ?_
    refine pw_ziadd dX7_write_40 ?_
    refine pw_aload_n dX7_write_41 rfl ?_
    refine pw_get (v := .int (zI (F 3))) okX7 (k := 3) (by decide) lkX7_76 (scAt_put hA).1.1 rfl dX7_write_42 ?_
    refine pw_iconst (v := zI (1)) dX7_write_45 (by decide) ?_
    refine pw_zisub dX7_write_46 ?_
    refine pw_aload_n dX7_write_47 rfl ?_
    refine pw_get (v := .int (zI (F 5))) okX7 (k := 5) (by decide) lkX7_42 (scAt_put hA).1.1 rfl dX7_write_48 ?_
    refine pw_zisub dX7_write_51 ?_
    refine pw_callV (As := [.int (zI (F 6)), .int (zI (F 5)), .int (zI ((F 5) + (1))), .int (zI (((F 3) - (1)) - (F 5)))]) (b := (I (sq F + 5))) (rm := rmD 1 0 0) (mX0_moveCells htr (scSg (scAt_put hA)) (scSx hA) (scSne hA) (by omega) (by omega) gN gN2 (by omega) (by omega) (by omega) (by omega)) rfl (scSg (scAt_put hA)) rfl rfl ywX0_moveCells rfl cwX7_99 ⟨nle rfl, nle rfl⟩ (nle rfl) ⟨nle rfl, nle rfl⟩ dX7_write_52 ?_ (fun _ _ _ z => z.elim)
    intro r2 h2 n2 hq _
    rw [hq.1, hq.2.1, hq.2.2]
    show pw E YX7_write _ _ 0 0 55 [some (.ref (I 0)), some (.int (zI (ch)))] [] (va_up (scPut w H N NH I F (shM F m (shG F m o)) (shO F o (shG F m o)) T c l h) (I (sq F)) (pz_z 0 N (gmoveCells w H (F 6) (F 5) ((F 5) + (1)) (((F 3) - (1)) - (F 5)) (shG F m o)))) n
    refine pw_h (scUS hA) ?_
    refine pw_aload_n dX7_write_55 rfl ?_
    refine pw_callV (As := []) (b := (I 0)) (rm := rmD 0 0 0) (mX7_shown htr hG0 (scAt_put hA) (hO0)) rfl (scAt_put hA).1.1 rfl rfl ywX7_shown rfl cwX7_95 ⟨nle rfl, nle rfl⟩ (nle rfl) ⟨nle rfl, nle rfl⟩ dX7_write_56 ?_ (fun _ _ _ z => z.elim)
    intro r2 h2 n2 hq _
    rw [hq.1, hq.2.1, hq.2.2]
    show pw E YX7_write _ _ 0 0 59 [some (.ref (I 0)), some (.int (zI (ch)))] [.ref (I (sq F + 5))] (scPut w H N NH I F (shM F m (gmoveCells w H (F 6) (F 5) ((F 5) + (1)) (((F 3) - (1)) - (F 5)) (shG F m o))) (shO F o (gmoveCells w H (F 6) (F 5) ((F 5) + (1)) (((F 3) - (1)) - (F 5)) (shG F m o))) T c l h) n
    refine pw_aload_n dX7_write_59 rfl ?_
    refine pw_get (v := .int (zI (F 5))) okX7 (k := 5) (by decide) lkX7_42 (scAt_put hA).1.1 rfl dX7_write_60 ?_
    refine pw_aload_n dX7_write_63 rfl ?_
    refine pw_get (v := .int (zI (F 6))) okX7 (k := 6) (by decide) lkX7_46 (scAt_put hA).1.1 rfl dX7_write_64 ?_
    refine pw_aload_n dX7_write_67 rfl ?_
    refine pw_get (v := .int (zI (F 8))) okX7 (k := 8) (by decide) lkX7_52 (scAt_put hA).1.1 rfl dX7_write_68 ?_
    refine pw_sipush (v := zI (128)) dX7_write_71 (by decide) ?_
    refine pw_zimul dX7_write_74 ?_
    refine pw_iload_n dX7_write_75 rfl ?_
    refine pw_ziadd dX7_write_76 ?_
    refine pw_callV (As := [.int (zI (F 5)), .int (zI (F 6)), .int (zI (((F 8) * (128)) + (ch)))]) (b := (I (sq F + 5))) (rm := rmD 0 0 0) (mX0_set htr (scSg (scAt_put hA)) (scSx hA) (scSne hA) (by omega) (by omega) gN gN2 (by omega) (by omega) (by omega)) rfl (scSg (scAt_put hA)) rfl rfl ywX0_set rfl cwX7_103 ⟨nle rfl, nle rfl⟩ (nle rfl) ⟨nle rfl, nle rfl⟩ dX7_write_77 ?_ (fun _ _ _ z => z.elim)
    intro r2 h2 n2 hq _
    rw [hq.1, hq.2.1, hq.2.2]
    show pw E YX7_write _ _ 0 0 80 [some (.ref (I 0)), some (.int (zI (ch)))] [] (va_up (scPut w H N NH I F (shM F m (gmoveCells w H (F 6) (F 5) ((F 5) + (1)) (((F 3) - (1)) - (F 5)) (shG F m o))) (shO F o (gmoveCells w H (F 6) (F 5) ((F 5) + (1)) (((F 3) - (1)) - (F 5)) (shG F m o))) T c l h) (I (sq F)) (pz_z 0 N (gset w H (F 5) (F 6) (((F 8) * (128)) + (ch)) (gmoveCells w H (F 6) (F 5) ((F 5) + (1)) (((F 3) - (1)) - (F 5)) (shG F m o))))) n
    refine pw_h (scUS hA) ?_
    refine pw_aload_n dX7_write_80 rfl ?_
    refine pw_get (v := .int (zI (F 5))) okX7 (k := 5) (by decide) lkX7_42 (scAt_put hA).1.1 rfl dX7_write_81 ?_
    refine pw_aload_n dX7_write_84 rfl ?_
    refine pw_get (v := .int (zI (F 3))) okX7 (k := 3) (by decide) lkX7_76 (scAt_put hA).1.1 rfl dX7_write_85 ?_
    refine pw_iconst (v := zI (1)) dX7_write_88 (by decide) ?_
    refine pw_zisub dX7_write_89 ?_
    refine pw_icmp_ge (tgt := 106) dX7_write_90 rfl (by omega) (by omega) (fun c90 => ?_) (fun c90 => ?_)
    ·
      refine pw_aload_n dX7_write_106 rfl ?_
      refine pw_aload_n dX7_write_107 rfl ?_
      refine pw_get (v := .int (zI (F 15))) okX7 (k := 15) (by decide) lkX7_70 (scAt_put hA).1.1 rfl dX7_write_108 ?_
      refine pw_put (fs' := (scObj I (va_up F 7 (F 15)))) okX7 (k := 7) (by decide) lkX7_49 rfl (zb_nar (by omega)) (zb_fit (by omega)) (scAt_put hA).1.1 (nlt rfl) rfl dX7_write_111 ?_
      refine pw_h (scU0 hA) ?_
      exact pw_vret dX7_write_114 rfl (nle rfl) (nle rfl) (by rw [show zPut w H ch (F, m, o, T, c, l) = ((va_up F 7 (F 15)), shM F m (gset w H (F 5) (F 6) (((F 8) * (128)) + (ch)) (gmoveCells w H (F 6) (F 5) ((F 5) + (1)) (((F 3) - (1)) - (F 5)) (shG F m o))), shO F o (gset w H (F 5) (F 6) (((F 8) * (128)) + (ch)) (gmoveCells w H (F 6) (F 5) ((F 5) + (1)) (((F 3) - (1)) - (F 5)) (shG F m o))), T, c, l) from by unfold zPut zPutF zPutX; first | rfl | (simp only [if_pos (show F 14 = 0 by omega)]; first | rw [if_pos (show F 5 < F 3 - 1 by omega)] | rw [if_neg (show ¬ F 5 < F 3 - 1 by omega)]) | (simp only [if_neg (show ¬ F 14 = 0 by omega)]; first | rw [if_pos (show F 5 < F 3 - 1 by omega)] | rw [if_neg (show ¬ F 5 < F 3 - 1 by omega)])] at hQ; exact hQ)
    ·
      refine pw_aload_n dX7_write_93 rfl ?_
      refine pw_dup dX7_write_94 rfl ?_
      refine pw_get (v := .int (zI (F 5))) okX7 (k := 5) (by decide) lkX7_42 (scAt_put hA).1.1 rfl dX7_write_95 ?_
      refine pw_iconst (v := zI (1)) dX7_write_98 (by decide) ?_
      refine pw_ziadd dX7_write_99 ?_
      refine pw_put (fs' := (scObj I (va_up F 5 ((F 5) + (1))))) okX7 (k := 5) (by decide) lkX7_42 rfl rfl rfl (scAt_put hA).1.1 (nlt rfl) rfl dX7_write_100 ?_
      refine pw_h (scU0 hA) ?_
      refine pw_goto (tgt := 114) dX7_write_103 rfl ?_
      exact pw_vret dX7_write_114 rfl (nle rfl) (nle rfl) (by rw [show zPut w H ch (F, m, o, T, c, l) = ((va_up F 5 ((F 5) + (1))), shM F m (gset w H (F 5) (F 6) (((F 8) * (128)) + (ch)) (gmoveCells w H (F 6) (F 5) ((F 5) + (1)) (((F 3) - (1)) - (F 5)) (shG F m o))), shO F o (gset w H (F 5) (F 6) (((F 8) * (128)) + (ch)) (gmoveCells w H (F 6) (F 5) ((F 5) + (1)) (((F 3) - (1)) - (F 5)) (shG F m o))), T, c, l) from by unfold zPut zPutF zPutX; first | rfl | (simp only [if_pos (show F 14 = 0 by omega)]; first | rw [if_pos (show F 5 < F 3 - 1 by omega)] | rw [if_neg (show ¬ F 5 < F 3 - 1 by omega)]) | (simp only [if_neg (show ¬ F 14 = 0 by omega)]; first | rw [if_pos (show F 5 < F 3 - 1 by omega)] | rw [if_neg (show ¬ F 5 < F 3 - 1 by omega)])] at hQ; exact hQ)
set_option maxHeartbeats 4000000 in
set_option maxRecDepth 100000 in
/-- Screen.write(ch) -/
theorem mX7_write {E : pw_E} (htr : E.1.stackTraces = false) {h : pz_H} {n : Nat} {w H : Int} {N NH : Nat} {I : Nat → Nat} {F m o T c l : Nat → Int} (hG : geo w H N NH) (hA : scAt w H N NH I F m o T c l h) (hO : scOk w H F T) {ch : Int} (h_ch : -2147483648 ≤ ch ∧ ch < 2147483648) (hch : 0 ≤ ch ∧ ch ≤ 127) : pw_M E yX7_write YX7_write (rmD 7 0 0) [.ref (I 0), .int (zI (ch))] h n (fun r h' n' => r = none ∧ h' = zP w H N NH I (zWrite w H NH ch (F, m, o, T, c, l)) h ∧ n' = n) (fun _ _ _ => False) := by
  have hG0 := hG
  have hO0 := hO
  obtain ⟨gw, gH, gN, gN2, gNH⟩ := hG
  obtain ⟨o3, o4, o5, o6, o7, o8, o9, o10, o11, o12, o14, o15, o16, o17, oT3, oT4⟩ := hO
  refine pw_M_of (lv := [some (.ref (I 0)), some (.int (zI (ch)))]) (by decide) rfl rfl htr (nle rfl) rfl (fun L => ?_)
  refine pw_h (scPut_id hA).symm ?_
  refine pw_aload_n dX7_write_0 rfl ?_
  refine pw_get (v := .int (zI (F 7))) okX7 (k := 7) (by decide) lkX7_49 (scAt_put hA).1.1 rfl dX7_write_1 ?_
  refine pw_if_eq (tgt := 16) dX7_write_4 rfl (by omega) (fun c4 => ?_) (fun c4 => ?_)
  ·
    have hw1 : zWrite w H NH ch (F, m, o, T, c, l) = zPut w H ch (F, m, o, T, c, l) := if_pos (show F 7 = 0 by omega)
    rw [hw1]
    exact lX7_write htr hG0 (scAt_put hA) hO0 hch ⟨rfl, scPut_put, rfl⟩
  ·
    refine pw_aload_n dX7_write_7 rfl ?_
    refine pw_iconst (v := zI (0)) dX7_write_8 (by decide) ?_
    refine pw_put (fs' := (scObj I (va_up F 5 (0)))) okX7 (k := 5) (by decide) lkX7_42 rfl rfl rfl (scAt_put hA).1.1 (nlt rfl) rfl dX7_write_9 ?_
    refine pw_h (scU0 hA) ?_
    refine pw_aload_n dX7_write_12 rfl ?_
    refine pw_callV (As := []) (b := (I 0)) (rm := rmD 6 0 0) (mX7_goDown htr hG0 (scAt_put hA) (scOk_5 hO0)) rfl (scAt_put hA).1.1 rfl rfl ywX7_goDown rfl cwX7_92 ⟨nle rfl, nle rfl⟩ (nle rfl) ⟨nle rfl, nle rfl⟩ dX7_write_13 ?_ (fun _ _ _ z => z.elim)
    intro r2 h2 n2 hq _
    rw [hq.1, hq.2.1, hq.2.2]
    show pw E YX7_write _ _ 0 0 16 [some (.ref (I 0)), some (.int (zI (ch)))] [] (zP w H N NH I (zDown w H NH ((va_up F 5 (0)), m, o, T, c, l)) (scPut w H N NH I (va_up F 5 (0)) m o T c l h)) n
    refine pw_h (h' := zP w H N NH I (zDown w H NH ((va_up F 5 (0)), m, o, T, c, l)) h) scPut_put ?_
    have hz1 : zOk w H (zDown w H NH (va_up F 5 0, m, o, T, c, l)) := zDown_ok (s := (va_up F 5 0, m, o, T, c, l)) (scOk_5 hO0)
    have hw1 : zWrite w H NH ch (F, m, o, T, c, l) = zPut w H ch (zDown w H NH (va_up F 5 0, m, o, T, c, l)) := if_neg (show ¬ F 7 = 0 by omega)
    rw [hw1]
    rcases hz : zDown w H NH (va_up F 5 0, m, o, T, c, l) with ⟨F1, m1, o1, T1, c1, l1⟩
    rw [hz] at hz1
    exact lX7_write (F := F1) (m := m1) (o := o1) (T := T1) (c := c1) (l := l1) htr hG0 (scAt_put hA) hz1 hch ⟨rfl, scPut_put, rfl⟩
set_option maxHeartbeats 4000000 in
set_option maxRecDepth 100000 in
theorem lX7_erase {E : pw_E} (htr : E.1.stackTraces = false) {h : pz_H} {n : Nat} {w H : Int} {N NH : Nat} {I : Nat → Nat} {F m o T c l : Nat → Int} (hG : geo w H N NH) (hA : scAt w H N NH I F m o T c l h) (hO : scOk w H F T) {how : Int} (hhow : 0 ≤ how ∧ how ≤ 1000) {K : pw_K} : ∀ (j : Nat) (r : Int) (f : Nat → Int) (q : Option Value), (F 4 - r).toNat = j → 0 ≤ r → r ≤ F 4 → K.2.2.1 none (scPut w H N NH I F (shM F m (sErase w H F how j r f)) (shO F o (sErase w H F how j r f)) T c l h) n → pw E YX7_erase (rmD 4 0 0) K 0 0 7 [some (.ref (I 0)), some (.int (zI (how))), some (.int (zI (r))), q] [] (scPut w H N NH I F (shM F m f) (shO F o f) T c l h) n := by
  have hG0 := hG
  have hO0 := hO
  obtain ⟨gw, gH, gN, gN2, gNH⟩ := hG
  obtain ⟨o3, o4, o5, o6, o7, o8, o9, o10, o11, o12, o14, o15, o16, o17, oT3, oT4⟩ := hO
  intro j
  induction j with
  | zero =>
    intro r f q hj h1 h2 hQ
    refine pw_iload_n dX7_erase_7 rfl ?_
    refine pw_aload_n dX7_erase_8 rfl ?_
    refine pw_get (v := .int (zI (F 4))) okX7 (k := 4) (by decide) lkX7_61 (scAt_put hA).1.1 rfl dX7_erase_9 ?_
    refine pw_icmp_ge (tgt := 78) dX7_erase_12 rfl (by omega) (by omega) (fun c12 => ?_) (fun c12 => ?_)
    ·
      exact pw_vret dX7_erase_78 rfl (nle rfl) (nle rfl) (by exact hQ)
    · exfalso; omega
  | succ j ih =>
    intro r f q hj h1 h2 hQ
    refine pw_iload_n dX7_erase_7 rfl ?_
    refine pw_aload_n dX7_erase_8 rfl ?_
    refine pw_get (v := .int (zI (F 4))) okX7 (k := 4) (by decide) lkX7_61 (scAt_put hA).1.1 rfl dX7_erase_9 ?_
    refine pw_icmp_ge (tgt := 78) dX7_erase_12 rfl (by omega) (by omega) (fun c12 => ?_) (fun c12 => ?_)
    · exfalso; omega
    ·
      refine pw_iload_n dX7_erase_15 rfl ?_
      refine pw_if_ne (tgt := 27) dX7_erase_16 rfl (by omega) (fun c16 => ?_) (fun c16 => ?_)
      ·
        refine pw_iload_n dX7_erase_27 rfl ?_
        refine pw_iconst (v := zI (1)) dX7_erase_28 (by decide) ?_
        refine pw_icmp_ne (tgt := 40) dX7_erase_29 rfl (by omega) (by omega) (fun c29 => ?_) (fun c29 => ?_)
        ·
          refine pw_iload_n dX7_erase_40 rfl ?_
          refine pw_iconst (v := zI (2)) dX7_erase_41 (by decide) ?_
          refine pw_icmp_ne (tgt := 49) dX7_erase_42 rfl (by omega) (by omega) (fun c42 => ?_) (fun c42 => ?_)
          ·
            refine pw_iconst (v := zI (0)) dX7_erase_49 (by decide) ?_
            refine pw_istore_n (lv' := [some (.ref (I 0)), some (.int (zI (how))), some (.int (zI (r))), some (.int (zI (0)))]) dX7_erase_50 (by decide) rfl rfl ?_
            refine pw_iload_n dX7_erase_51 rfl ?_
            refine pw_if_eq (tgt := 72) dX7_erase_52 rfl (by omega) (fun c52 => ?_) (fun c52 => ?_)
            ·
              refine pw_ziinc (lv' := [some (.ref (I 0)), some (.int (zI (how))), some (.int (zI (r + 1))), some (.int (zI (0)))]) dX7_erase_72 rfl (by decide) rfl rfl ?_
              refine pw_goto (tgt := 7) dX7_erase_75 rfl ?_
              rw [show sErase w H F how (j + 1) r f = sErase w H F how j (r + 1) (if (how = 0 ∧ F 6 < r) ∨ (how = 1 ∧ r < F 6) ∨ how = 2 then gfill w H r 0 (F 3) (F 8 * 128 + 32) f else f) from rfl] at hQ
              first | (exfalso; omega) | (rw [if_pos (show (how = 0 ∧ F 6 < r) ∨ (how = 1 ∧ r < F 6) ∨ how = 2 by omega)] at hQ; exact ih (r + 1) _ _ (by omega) (by omega) (by omega) hQ) | (rw [if_neg (show ¬ ((how = 0 ∧ F 6 < r) ∨ (how = 1 ∧ r < F 6) ∨ how = 2) by omega)] at hQ; exact ih (r + 1) _ _ (by omega) (by omega) (by omega) hQ)
            · exfalso; omega
          ·
            refine pw_iconst (v := zI (1)) dX7_erase_45 (by decide) ?_
            refine pw_goto (tgt := 50) dX7_erase_46 rfl ?_
            refine pw_istore_n (lv' := [some (.ref (I 0)), some (.int (zI (how))), some (.int (zI (r))), some (.int (zI (1)))]) dX7_erase_50 (by decide) rfl rfl ?_
            refine pw_iload_n dX7_erase_51 rfl ?_
            refine pw_if_eq (tgt := 72) dX7_erase_52 rfl (by omega) (fun c52 => ?_) (fun c52 => ?_)
            · exfalso; omega
            ·
              refine pw_aload_n dX7_erase_55 rfl ?_
              refine pw_callV (As := []) (b := (I 0)) (rm := rmD 0 0 0) (mX7_shown htr hG0 (scAt_put hA) (hO0)) rfl (scAt_put hA).1.1 rfl rfl ywX7_shown rfl cwX7_95 ⟨nle rfl, nle rfl⟩ (nle rfl) ⟨nle rfl, nle rfl⟩ dX7_erase_56 ?_ (fun _ _ _ z => z.elim)
              intro r2 h2 n2 hq _
              rw [hq.1, hq.2.1, hq.2.2]
              show pw E YX7_erase _ _ 0 0 59 [some (.ref (I 0)), some (.int (zI (how))), some (.int (zI (r))), some (.int (zI (1)))] [.ref (I (sq F + 5))] (scPut w H N NH I F (shM F m f) (shO F o f) T c l h) n
              refine pw_iload_n dX7_erase_59 rfl ?_
              refine pw_iconst (v := zI (0)) dX7_erase_60 (by decide) ?_
              refine pw_aload_n dX7_erase_61 rfl ?_
              refine pw_get (v := .int (zI (F 3))) okX7 (k := 3) (by decide) lkX7_76 (scAt_put hA).1.1 rfl dX7_erase_62 ?_
              refine pw_aload_n dX7_erase_65 rfl ?_
              refine pw_callV (As := []) (b := (I 0)) (rm := rmD 0 0 0) (mX7_blank htr hG0 (scAt_put hA) (hO0)) rfl (scAt_put hA).1.1 rfl rfl ywX7_blank rfl cwX7_135 ⟨nle rfl, nle rfl⟩ (nle rfl) ⟨nle rfl, nle rfl⟩ dX7_erase_66 ?_ (fun _ _ _ z => z.elim)
              intro r2 h2 n2 hq _
              rw [hq.1, hq.2.1, hq.2.2]
              show pw E YX7_erase _ _ 0 0 69 [some (.ref (I 0)), some (.int (zI (how))), some (.int (zI (r))), some (.int (zI (1)))] [.int (zI (F 8 * 128 + 32)), .int (zI (F 3)), .int (zI (0)), .int (zI (r)), .ref (I (sq F + 5))] (scPut w H N NH I F (shM F m f) (shO F o f) T c l h) n
              refine pw_callV (As := [.int (zI (r)), .int (zI (0)), .int (zI (F 3)), .int (zI (F 8 * 128 + 32))]) (b := (I (sq F + 5))) (rm := rmD 2 0 0) (mX0_fill htr (scSg (scAt_put hA)) (scSx hA) (scSne hA) (by omega) (by omega) gN gN2 (by omega) (by omega) (by omega) (by omega)) rfl (scSg (scAt_put hA)) rfl rfl ywX0_fill rfl cwX7_139 ⟨nle rfl, nle rfl⟩ (nle rfl) ⟨nle rfl, nle rfl⟩ dX7_erase_69 ?_ (fun _ _ _ z => z.elim)
              intro r2 h2 n2 hq _
              rw [hq.1, hq.2.1, hq.2.2]
              show pw E YX7_erase _ _ 0 0 72 [some (.ref (I 0)), some (.int (zI (how))), some (.int (zI (r))), some (.int (zI (1)))] [] (va_up (scPut w H N NH I F (shM F m f) (shO F o f) T c l h) (I (sq F)) (pz_z 0 N (gfill w H (r) (0) (F 3) (F 8 * 128 + 32) f))) n
              refine pw_h (scUS hA) ?_
              refine pw_ziinc (lv' := [some (.ref (I 0)), some (.int (zI (how))), some (.int (zI (r + 1))), some (.int (zI (1)))]) dX7_erase_72 rfl (by decide) rfl rfl ?_
              refine pw_goto (tgt := 7) dX7_erase_75 rfl ?_
              rw [show sErase w H F how (j + 1) r f = sErase w H F how j (r + 1) (if (how = 0 ∧ F 6 < r) ∨ (how = 1 ∧ r < F 6) ∨ how = 2 then gfill w H r 0 (F 3) (F 8 * 128 + 32) f else f) from rfl] at hQ
              first | (exfalso; omega) | (rw [if_pos (show (how = 0 ∧ F 6 < r) ∨ (how = 1 ∧ r < F 6) ∨ how = 2 by omega)] at hQ; exact ih (r + 1) _ _ (by omega) (by omega) (by omega) hQ) | (rw [if_neg (show ¬ ((how = 0 ∧ F 6 < r) ∨ (how = 1 ∧ r < F 6) ∨ how = 2) by omega)] at hQ; exact ih (r + 1) _ _ (by omega) (by omega) (by omega) hQ)
        ·
          refine pw_iload_n dX7_erase_32 rfl ?_
          refine pw_aload_n dX7_erase_33 rfl ?_
          refine pw_get (v := .int (zI (F 6))) okX7 (k := 6) (by decide) lkX7_46 (scAt_put hA).1.1 rfl dX7_erase_34 ?_
          refine pw_icmp_lt (tgt := 45) dX7_erase_37 rfl (by omega) (by omega) (fun c37 => ?_) (fun c37 => ?_)
          ·
            refine pw_iconst (v := zI (1)) dX7_erase_45 (by decide) ?_
            refine pw_goto (tgt := 50) dX7_erase_46 rfl ?_
            refine pw_istore_n (lv' := [some (.ref (I 0)), some (.int (zI (how))), some (.int (zI (r))), some (.int (zI (1)))]) dX7_erase_50 (by decide) rfl rfl ?_
            refine pw_iload_n dX7_erase_51 rfl ?_
            refine pw_if_eq (tgt := 72) dX7_erase_52 rfl (by omega) (fun c52 => ?_) (fun c52 => ?_)
            · exfalso; omega
            ·
              refine pw_aload_n dX7_erase_55 rfl ?_
              refine pw_callV (As := []) (b := (I 0)) (rm := rmD 0 0 0) (mX7_shown htr hG0 (scAt_put hA) (hO0)) rfl (scAt_put hA).1.1 rfl rfl ywX7_shown rfl cwX7_95 ⟨nle rfl, nle rfl⟩ (nle rfl) ⟨nle rfl, nle rfl⟩ dX7_erase_56 ?_ (fun _ _ _ z => z.elim)
              intro r2 h2 n2 hq _
              rw [hq.1, hq.2.1, hq.2.2]
              show pw E YX7_erase _ _ 0 0 59 [some (.ref (I 0)), some (.int (zI (how))), some (.int (zI (r))), some (.int (zI (1)))] [.ref (I (sq F + 5))] (scPut w H N NH I F (shM F m f) (shO F o f) T c l h) n
              refine pw_iload_n dX7_erase_59 rfl ?_
              refine pw_iconst (v := zI (0)) dX7_erase_60 (by decide) ?_
              refine pw_aload_n dX7_erase_61 rfl ?_
              refine pw_get (v := .int (zI (F 3))) okX7 (k := 3) (by decide) lkX7_76 (scAt_put hA).1.1 rfl dX7_erase_62 ?_
              refine pw_aload_n dX7_erase_65 rfl ?_
              refine pw_callV (As := []) (b := (I 0)) (rm := rmD 0 0 0) (mX7_blank htr hG0 (scAt_put hA) (hO0)) rfl (scAt_put hA).1.1 rfl rfl ywX7_blank rfl cwX7_135 ⟨nle rfl, nle rfl⟩ (nle rfl) ⟨nle rfl, nle rfl⟩ dX7_erase_66 ?_ (fun _ _ _ z => z.elim)
              intro r2 h2 n2 hq _
              rw [hq.1, hq.2.1, hq.2.2]
              show pw E YX7_erase _ _ 0 0 69 [some (.ref (I 0)), some (.int (zI (how))), some (.int (zI (r))), some (.int (zI (1)))] [.int (zI (F 8 * 128 + 32)), .int (zI (F 3)), .int (zI (0)), .int (zI (r)), .ref (I (sq F + 5))] (scPut w H N NH I F (shM F m f) (shO F o f) T c l h) n
              refine pw_callV (As := [.int (zI (r)), .int (zI (0)), .int (zI (F 3)), .int (zI (F 8 * 128 + 32))]) (b := (I (sq F + 5))) (rm := rmD 2 0 0) (mX0_fill htr (scSg (scAt_put hA)) (scSx hA) (scSne hA) (by omega) (by omega) gN gN2 (by omega) (by omega) (by omega) (by omega)) rfl (scSg (scAt_put hA)) rfl rfl ywX0_fill rfl cwX7_139 ⟨nle rfl, nle rfl⟩ (nle rfl) ⟨nle rfl, nle rfl⟩ dX7_erase_69 ?_ (fun _ _ _ z => z.elim)
              intro r2 h2 n2 hq _
              rw [hq.1, hq.2.1, hq.2.2]
              show pw E YX7_erase _ _ 0 0 72 [some (.ref (I 0)), some (.int (zI (how))), some (.int (zI (r))), some (.int (zI (1)))] [] (va_up (scPut w H N NH I F (shM F m f) (shO F o f) T c l h) (I (sq F)) (pz_z 0 N (gfill w H (r) (0) (F 3) (F 8 * 128 + 32) f))) n
              refine pw_h (scUS hA) ?_
              refine pw_ziinc (lv' := [some (.ref (I 0)), some (.int (zI (how))), some (.int (zI (r + 1))), some (.int (zI (1)))]) dX7_erase_72 rfl (by decide) rfl rfl ?_
              refine pw_goto (tgt := 7) dX7_erase_75 rfl ?_
              rw [show sErase w H F how (j + 1) r f = sErase w H F how j (r + 1) (if (how = 0 ∧ F 6 < r) ∨ (how = 1 ∧ r < F 6) ∨ how = 2 then gfill w H r 0 (F 3) (F 8 * 128 + 32) f else f) from rfl] at hQ
              first | (exfalso; omega) | (rw [if_pos (show (how = 0 ∧ F 6 < r) ∨ (how = 1 ∧ r < F 6) ∨ how = 2 by omega)] at hQ; exact ih (r + 1) _ _ (by omega) (by omega) (by omega) hQ) | (rw [if_neg (show ¬ ((how = 0 ∧ F 6 < r) ∨ (how = 1 ∧ r < F 6) ∨ how = 2) by omega)] at hQ; exact ih (r + 1) _ _ (by omega) (by omega) (by omega) hQ)
          ·
            refine pw_iload_n dX7_erase_40 rfl ?_
            refine pw_iconst (v := zI (2)) dX7_erase_41 (by decide) ?_
            refine pw_icmp_ne (tgt := 49) dX7_erase_42 rfl (by omega) (by omega) (fun c42 => ?_) (fun c42 => ?_)
            ·
              refine pw_iconst (v := zI (0)) dX7_erase_49 (by decide) ?_
              refine pw_istore_n (lv' := [some (.ref (I 0)), some (.int (zI (how))), some (.int (zI (r))), some (.int (zI (0)))]) dX7_erase_50 (by decide) rfl rfl ?_
              refine pw_iload_n dX7_erase_51 rfl ?_
              refine pw_if_eq (tgt := 72) dX7_erase_52 rfl (by omega) (fun c52 => ?_) (fun c52 => ?_)
              ·
                refine pw_ziinc (lv' := [some (.ref (I 0)), some (.int (zI (how))), some (.int (zI (r + 1))), some (.int (zI (0)))]) dX7_erase_72 rfl (by decide) rfl rfl ?_
                refine pw_goto (tgt := 7) dX7_erase_75 rfl ?_
                rw [show sErase w H F how (j + 1) r f = sErase w H F how j (r + 1) (if (how = 0 ∧ F 6 < r) ∨ (how = 1 ∧ r < F 6) ∨ how = 2 then gfill w H r 0 (F 3) (F 8 * 128 + 32) f else f) from rfl] at hQ
                first | (exfalso; omega) | (rw [if_pos (show (how = 0 ∧ F 6 < r) ∨ (how = 1 ∧ r < F 6) ∨ how = 2 by omega)] at hQ; exact ih (r + 1) _ _ (by omega) (by omega) (by omega) hQ) | (rw [if_neg (show ¬ ((how = 0 ∧ F 6 < r) ∨ (how = 1 ∧ r < F 6) ∨ how = 2) by omega)] at hQ; exact ih (r + 1) _ _ (by omega) (by omega) (by omega) hQ)
              · exfalso; omega
            ·
              refine pw_iconst (v := zI (1)) dX7_erase_45 (by decide) ?_
              refine pw_goto (tgt := 50) dX7_erase_46 rfl ?_
              refine pw_istore_n (lv' := [some (.ref (I 0)), some (.int (zI (how))), some (.int (zI (r))), some (.int (zI (1)))]) dX7_erase_50 (by decide) rfl rfl ?_
              refine pw_iload_n dX7_erase_51 rfl ?_
              refine pw_if_eq (tgt := 72) dX7_erase_52 rfl (by omega) (fun c52 => ?_) (fun c52 => ?_)
              · exfalso; omega
              ·
                refine pw_aload_n dX7_erase_55 rfl ?_
                refine pw_callV (As := []) (b := (I 0)) (rm := rmD 0 0 0) (mX7_shown htr hG0 (scAt_put hA) (hO0)) rfl (scAt_put hA).1.1 rfl rfl ywX7_shown rfl cwX7_95 ⟨nle rfl, nle rfl⟩ (nle rfl) ⟨nle rfl, nle rfl⟩ dX7_erase_56 ?_ (fun _ _ _ z => z.elim)
                intro r2 h2 n2 hq _
                rw [hq.1, hq.2.1, hq.2.2]
                show pw E YX7_erase _ _ 0 0 59 [some (.ref (I 0)), some (.int (zI (how))), some (.int (zI (r))), some (.int (zI (1)))] [.ref (I (sq F + 5))] (scPut w H N NH I F (shM F m f) (shO F o f) T c l h) n
                refine pw_iload_n dX7_erase_59 rfl ?_
                refine pw_iconst (v := zI (0)) dX7_erase_60 (by decide) ?_
                refine pw_aload_n dX7_erase_61 rfl ?_
                refine pw_get (v := .int (zI (F 3))) okX7 (k := 3) (by decide) lkX7_76 (scAt_put hA).1.1 rfl dX7_erase_62 ?_
                refine pw_aload_n dX7_erase_65 rfl ?_
                refine pw_callV (As := []) (b := (I 0)) (rm := rmD 0 0 0) (mX7_blank htr hG0 (scAt_put hA) (hO0)) rfl (scAt_put hA).1.1 rfl rfl ywX7_blank rfl cwX7_135 ⟨nle rfl, nle rfl⟩ (nle rfl) ⟨nle rfl, nle rfl⟩ dX7_erase_66 ?_ (fun _ _ _ z => z.elim)
                intro r2 h2 n2 hq _
                rw [hq.1, hq.2.1, hq.2.2]
                show pw E YX7_erase _ _ 0 0 69 [some (.ref (I 0)), some (.int (zI (how))), some (.int (zI (r))), some (.int (zI (1)))] [.int (zI (F 8 * 128 + 32)), .int (zI (F 3)), .int (zI (0)), .int (zI (r)), .ref (I (sq F + 5))] (scPut w H N NH I F (shM F m f) (shO F o f) T c l h) n
                refine pw_callV (As := [.int (zI (r)), .int (zI (0)), .int (zI (F 3)), .int (zI (F 8 * 128 + 32))]) (b := (I (sq F + 5))) (rm := rmD 2 0 0) (mX0_fill htr (scSg (scAt_put hA)) (scSx hA) (scSne hA) (by omega) (by omega) gN gN2 (by omega) (by omega) (by omega) (by omega)) rfl (scSg (scAt_put hA)) rfl rfl ywX0_fill rfl cwX7_139 ⟨nle rfl, nle rfl⟩ (nle rfl) ⟨nle rfl, nle rfl⟩ dX7_erase_69 ?_ (fun _ _ _ z => z.elim)
                intro r2 h2 n2 hq _
                rw [hq.1, hq.2.1, hq.2.2]
                show pw E YX7_erase _ _ 0 0 72 [some (.ref (I 0)), some (.int (zI (how))), some (.int (zI (r))), some (.int (zI (1)))] [] (va_up (scPut w H N NH I F (shM F m f) (shO F o f) T c l h) (I (sq F)) (pz_z 0 N (gfill w H (r) (0) (F 3) (F 8 * 128 + 32) f))) n
                refine pw_h (scUS hA) ?_
                refine pw_ziinc (lv' := [some (.ref (I 0)), some (.int (zI (how))), some (.int (zI (r + 1))), some (.int (zI (1)))]) dX7_erase_72 rfl (by decide) rfl rfl ?_
                refine pw_goto (tgt := 7) dX7_erase_75 rfl ?_
                rw [show sErase w H F how (j + 1) r f = sErase w H F how j (r + 1) (if (how = 0 ∧ F 6 < r) ∨ (how = 1 ∧ r < F 6) ∨ how = 2 then gfill w H r 0 (F 3) (F 8 * 128 + 32) f else f) from rfl] at hQ
                first | (exfalso; omega) | (rw [if_pos (show (how = 0 ∧ F 6 < r) ∨ (how = 1 ∧ r < F 6) ∨ how = 2 by omega)] at hQ; exact ih (r + 1) _ _ (by omega) (by omega) (by omega) hQ) | (rw [if_neg (show ¬ ((how = 0 ∧ F 6 < r) ∨ (how = 1 ∧ r < F 6) ∨ how = 2) by omega)] at hQ; exact ih (r + 1) _ _ (by omega) (by omega) (by omega) hQ)
      ·
        refine pw_iload_n dX7_erase_19 rfl ?_
        refine pw_aload_n dX7_erase_20 rfl ?_
        refine pw_get (v := .int (zI (F 6))) okX7 (k := 6) (by decide) lkX7_46 (scAt_put hA).1.1 rfl dX7_erase_21 ?_
        refine pw_icmp_gt (tgt := 45) dX7_erase_24 rfl (by omega) (by omega) (fun c24 => ?_) (fun c24 => ?_)
        ·
          refine pw_iconst (v := zI (1)) dX7_erase_45 (by decide) ?_
          refine pw_goto (tgt := 50) dX7_erase_46 rfl ?_
          refine pw_istore_n (lv' := [some (.ref (I 0)), some (.int (zI (how))), some (.int (zI (r))), some (.int (zI (1)))]) dX7_erase_50 (by decide) rfl rfl ?_
          refine pw_iload_n dX7_erase_51 rfl ?_
          refine pw_if_eq (tgt := 72) dX7_erase_52 rfl (by omega) (fun c52 => ?_) (fun c52 => ?_)
          · exfalso; omega
          ·
            refine pw_aload_n dX7_erase_55 rfl ?_
            refine pw_callV (As := []) (b := (I 0)) (rm := rmD 0 0 0) (mX7_shown htr hG0 (scAt_put hA) (hO0)) rfl (scAt_put hA).1.1 rfl rfl ywX7_shown rfl cwX7_95 ⟨nle rfl, nle rfl⟩ (nle rfl) ⟨nle rfl, nle rfl⟩ dX7_erase_56 ?_ (fun _ _ _ z => z.elim)
            intro r2 h2 n2 hq _
            rw [hq.1, hq.2.1, hq.2.2]
            show pw E YX7_erase _ _ 0 0 59 [some (.ref (I 0)), some (.int (zI (how))), some (.int (zI (r))), some (.int (zI (1)))] [.ref (I (sq F + 5))] (scPut w H N NH I F (shM F m f) (shO F o f) T c l h) n
            refine pw_iload_n dX7_erase_59 rfl ?_
            refine pw_iconst (v := zI (0)) dX7_erase_60 (by decide) ?_
            refine pw_aload_n dX7_erase_61 rfl ?_
            refine pw_get (v := .int (zI (F 3))) okX7 (k := 3) (by decide) lkX7_76 (scAt_put hA).1.1 rfl dX7_erase_62 ?_
            refine pw_aload_n dX7_erase_65 rfl ?_
            refine pw_callV (As := []) (b := (I 0)) (rm := rmD 0 0 0) (mX7_blank htr hG0 (scAt_put hA) (hO0)) rfl (scAt_put hA).1.1 rfl rfl ywX7_blank rfl cwX7_135 ⟨nle rfl, nle rfl⟩ (nle rfl) ⟨nle rfl, nle rfl⟩ dX7_erase_66 ?_ (fun _ _ _ z => z.elim)
            intro r2 h2 n2 hq _
            rw [hq.1, hq.2.1, hq.2.2]
            show pw E YX7_erase _ _ 0 0 69 [some (.ref (I 0)), some (.int (zI (how))), some (.int (zI (r))), some (.int (zI (1)))] [.int (zI (F 8 * 128 + 32)), .int (zI (F 3)), .int (zI (0)), .int (zI (r)), .ref (I (sq F + 5))] (scPut w H N NH I F (shM F m f) (shO F o f) T c l h) n
            refine pw_callV (As := [.int (zI (r)), .int (zI (0)), .int (zI (F 3)), .int (zI (F 8 * 128 + 32))]) (b := (I (sq F + 5))) (rm := rmD 2 0 0) (mX0_fill htr (scSg (scAt_put hA)) (scSx hA) (scSne hA) (by omega) (by omega) gN gN2 (by omega) (by omega) (by omega) (by omega)) rfl (scSg (scAt_put hA)) rfl rfl ywX0_fill rfl cwX7_139 ⟨nle rfl, nle rfl⟩ (nle rfl) ⟨nle rfl, nle rfl⟩ dX7_erase_69 ?_ (fun _ _ _ z => z.elim)
            intro r2 h2 n2 hq _
            rw [hq.1, hq.2.1, hq.2.2]
            show pw E YX7_erase _ _ 0 0 72 [some (.ref (I 0)), some (.int (zI (how))), some (.int (zI (r))), some (.int (zI (1)))] [] (va_up (scPut w H N NH I F (shM F m f) (shO F o f) T c l h) (I (sq F)) (pz_z 0 N (gfill w H (r) (0) (F 3) (F 8 * 128 + 32) f))) n
            refine pw_h (scUS hA) ?_
            refine pw_ziinc (lv' := [some (.ref (I 0)), some (.int (zI (how))), some (.int (zI (r + 1))), some (.int (zI (1)))]) dX7_erase_72 rfl (by decide) rfl rfl ?_
            refine pw_goto (tgt := 7) dX7_erase_75 rfl ?_
            rw [show sErase w H F how (j + 1) r f = sErase w H F how j (r + 1) (if (how = 0 ∧ F 6 < r) ∨ (how = 1 ∧ r < F 6) ∨ how = 2 then gfill w H r 0 (F 3) (F 8 * 128 + 32) f else f) from rfl] at hQ
            first | (exfalso; omega) | (rw [if_pos (show (how = 0 ∧ F 6 < r) ∨ (how = 1 ∧ r < F 6) ∨ how = 2 by omega)] at hQ; exact ih (r + 1) _ _ (by omega) (by omega) (by omega) hQ) | (rw [if_neg (show ¬ ((how = 0 ∧ F 6 < r) ∨ (how = 1 ∧ r < F 6) ∨ how = 2) by omega)] at hQ; exact ih (r + 1) _ _ (by omega) (by omega) (by omega) hQ)
        ·
          refine pw_iload_n dX7_erase_27 rfl ?_
          refine pw_iconst (v := zI (1)) dX7_erase_28 (by decide) ?_
          refine pw_icmp_ne (tgt := 40) dX7_erase_29 rfl (by omega) (by omega) (fun c29 => ?_) (fun c29 => ?_)
          ·
            refine pw_iload_n dX7_erase_40 rfl ?_
            refine pw_iconst (v := zI (2)) dX7_erase_41 (by decide) ?_
            refine pw_icmp_ne (tgt := 49) dX7_erase_42 rfl (by omega) (by omega) (fun c42 => ?_) (fun c42 => ?_)
            ·
              refine pw_iconst (v := zI (0)) dX7_erase_49 (by decide) ?_
              refine pw_istore_n (lv' := [some (.ref (I 0)), some (.int (zI (how))), some (.int (zI (r))), some (.int (zI (0)))]) dX7_erase_50 (by decide) rfl rfl ?_
              refine pw_iload_n dX7_erase_51 rfl ?_
              refine pw_if_eq (tgt := 72) dX7_erase_52 rfl (by omega) (fun c52 => ?_) (fun c52 => ?_)
              ·
                refine pw_ziinc (lv' := [some (.ref (I 0)), some (.int (zI (how))), some (.int (zI (r + 1))), some (.int (zI (0)))]) dX7_erase_72 rfl (by decide) rfl rfl ?_
                refine pw_goto (tgt := 7) dX7_erase_75 rfl ?_
                rw [show sErase w H F how (j + 1) r f = sErase w H F how j (r + 1) (if (how = 0 ∧ F 6 < r) ∨ (how = 1 ∧ r < F 6) ∨ how = 2 then gfill w H r 0 (F 3) (F 8 * 128 + 32) f else f) from rfl] at hQ
                first | (exfalso; omega) | (rw [if_pos (show (how = 0 ∧ F 6 < r) ∨ (how = 1 ∧ r < F 6) ∨ how = 2 by omega)] at hQ; exact ih (r + 1) _ _ (by omega) (by omega) (by omega) hQ) | (rw [if_neg (show ¬ ((how = 0 ∧ F 6 < r) ∨ (how = 1 ∧ r < F 6) ∨ how = 2) by omega)] at hQ; exact ih (r + 1) _ _ (by omega) (by omega) (by omega) hQ)
              · exfalso; omega
            ·
              refine pw_iconst (v := zI (1)) dX7_erase_45 (by decide) ?_
              refine pw_goto (tgt := 50) dX7_erase_46 rfl ?_
              refine pw_istore_n (lv' := [some (.ref (I 0)), some (.int (zI (how))), some (.int (zI (r))), some (.int (zI (1)))]) dX7_erase_50 (by decide) rfl rfl ?_
              refine pw_iload_n dX7_erase_51 rfl ?_
              refine pw_if_eq (tgt := 72) dX7_erase_52 rfl (by omega) (fun c52 => ?_) (fun c52 => ?_)
              · exfalso; omega
              ·
                refine pw_aload_n dX7_erase_55 rfl ?_
                refine pw_callV (As := []) (b := (I 0)) (rm := rmD 0 0 0) (mX7_shown htr hG0 (scAt_put hA) (hO0)) rfl (scAt_put hA).1.1 rfl rfl ywX7_shown rfl cwX7_95 ⟨nle rfl, nle rfl⟩ (nle rfl) ⟨nle rfl, nle rfl⟩ dX7_erase_56 ?_ (fun _ _ _ z => z.elim)
                intro r2 h2 n2 hq _
                rw [hq.1, hq.2.1, hq.2.2]
                show pw E YX7_erase _ _ 0 0 59 [some (.ref (I 0)), some (.int (zI (how))), some (.int (zI (r))), some (.int (zI (1)))] [.ref (I (sq F + 5))] (scPut w H N NH I F (shM F m f) (shO F o f) T c l h) n
                refine pw_iload_n dX7_erase_59 rfl ?_
                refine pw_iconst (v := zI (0)) dX7_erase_60 (by decide) ?_
                refine pw_aload_n dX7_erase_61 rfl ?_
                refine pw_get (v := .int (zI (F 3))) okX7 (k := 3) (by decide) lkX7_76 (scAt_put hA).1.1 rfl dX7_erase_62 ?_
                refine pw_aload_n dX7_erase_65 rfl ?_
                refine pw_callV (As := []) (b := (I 0)) (rm := rmD 0 0 0) (mX7_blank htr hG0 (scAt_put hA) (hO0)) rfl (scAt_put hA).1.1 rfl rfl ywX7_blank rfl cwX7_135 ⟨nle rfl, nle rfl⟩ (nle rfl) ⟨nle rfl, nle rfl⟩ dX7_erase_66 ?_ (fun _ _ _ z => z.elim)
                intro r2 h2 n2 hq _
                rw [hq.1, hq.2.1, hq.2.2]
                show pw E YX7_erase _ _ 0 0 69 [some (.ref (I 0)), some (.int (zI (how))), some (.int (zI (r))), some (.int (zI (1)))] [.int (zI (F 8 * 128 + 32)), .int (zI (F 3)), .int (zI (0)), .int (zI (r)), .ref (I (sq F + 5))] (scPut w H N NH I F (shM F m f) (shO F o f) T c l h) n
                refine pw_callV (As := [.int (zI (r)), .int (zI (0)), .int (zI (F 3)), .int (zI (F 8 * 128 + 32))]) (b := (I (sq F + 5))) (rm := rmD 2 0 0) (mX0_fill htr (scSg (scAt_put hA)) (scSx hA) (scSne hA) (by omega) (by omega) gN gN2 (by omega) (by omega) (by omega) (by omega)) rfl (scSg (scAt_put hA)) rfl rfl ywX0_fill rfl cwX7_139 ⟨nle rfl, nle rfl⟩ (nle rfl) ⟨nle rfl, nle rfl⟩ dX7_erase_69 ?_ (fun _ _ _ z => z.elim)
                intro r2 h2 n2 hq _
                rw [hq.1, hq.2.1, hq.2.2]
                show pw E YX7_erase _ _ 0 0 72 [some (.ref (I 0)), some (.int (zI (how))), some (.int (zI (r))), some (.int (zI (1)))] [] (va_up (scPut w H N NH I F (shM F m f) (shO F o f) T c l h) (I (sq F)) (pz_z 0 N (gfill w H (r) (0) (F 3) (F 8 * 128 + 32) f))) n
                refine pw_h (scUS hA) ?_
                refine pw_ziinc (lv' := [some (.ref (I 0)), some (.int (zI (how))), some (.int (zI (r + 1))), some (.int (zI (1)))]) dX7_erase_72 rfl (by decide) rfl rfl ?_
                refine pw_goto (tgt := 7) dX7_erase_75 rfl ?_
                rw [show sErase w H F how (j + 1) r f = sErase w H F how j (r + 1) (if (how = 0 ∧ F 6 < r) ∨ (how = 1 ∧ r < F 6) ∨ how = 2 then gfill w H r 0 (F 3) (F 8 * 128 + 32) f else f) from rfl] at hQ
                first | (exfalso; omega) | (rw [if_pos (show (how = 0 ∧ F 6 < r) ∨ (how = 1 ∧ r < F 6) ∨ how = 2 by omega)] at hQ; exact ih (r + 1) _ _ (by omega) (by omega) (by omega) hQ) | (rw [if_neg (show ¬ ((how = 0 ∧ F 6 < r) ∨ (how = 1 ∧ r < F 6) ∨ how = 2) by omega)] at hQ; exact ih (r + 1) _ _ (by omega) (by omega) (by omega) hQ)
          ·
            refine pw_iload_n dX7_erase_32 rfl ?_
            refine pw_aload_n dX7_erase_33 rfl ?_
            refine pw_get (v := .int (zI (F 6))) okX7 (k := 6) (by decide) lkX7_46 (scAt_put hA).1.1 rfl dX7_erase_34 ?_
            refine pw_icmp_lt (tgt := 45) dX7_erase_37 rfl (by omega) (by omega) (fun c37 => ?_) (fun c37 => ?_)
            ·
              refine pw_iconst (v := zI (1)) dX7_erase_45 (by decide) ?_
              refine pw_goto (tgt := 50) dX7_erase_46 rfl ?_
              refine pw_istore_n (lv' := [some (.ref (I 0)), some (.int (zI (how))), some (.int (zI (r))), some (.int (zI (1)))]) dX7_erase_50 (by decide) rfl rfl ?_
              refine pw_iload_n dX7_erase_51 rfl ?_
              refine pw_if_eq (tgt := 72) dX7_erase_52 rfl (by omega) (fun c52 => ?_) (fun c52 => ?_)
              · exfalso; omega
              ·
                refine pw_aload_n dX7_erase_55 rfl ?_
                refine pw_callV (As := []) (b := (I 0)) (rm := rmD 0 0 0) (mX7_shown htr hG0 (scAt_put hA) (hO0)) rfl (scAt_put hA).1.1 rfl rfl ywX7_shown rfl cwX7_95 ⟨nle rfl, nle rfl⟩ (nle rfl) ⟨nle rfl, nle rfl⟩ dX7_erase_56 ?_ (fun _ _ _ z => z.elim)
                intro r2 h2 n2 hq _
                rw [hq.1, hq.2.1, hq.2.2]
                show pw E YX7_erase _ _ 0 0 59 [some (.ref (I 0)), some (.int (zI (how))), some (.int (zI (r))), some (.int (zI (1)))] [.ref (I (sq F + 5))] (scPut w H N NH I F (shM F m f) (shO F o f) T c l h) n
                refine pw_iload_n dX7_erase_59 rfl ?_
                refine pw_iconst (v := zI (0)) dX7_erase_60 (by decide) ?_
                refine pw_aload_n dX7_erase_61 rfl ?_
                refine pw_get (v := .int (zI (F 3))) okX7 (k := 3) (by decide) lkX7_76 (scAt_put hA).1.1 rfl dX7_erase_62 ?_
                refine pw_aload_n dX7_erase_65 rfl ?_
                refine pw_callV (As := []) (b := (I 0)) (rm := rmD 0 0 0) (mX7_blank htr hG0 (scAt_put hA) (hO0)) rfl (scAt_put hA).1.1 rfl rfl ywX7_blank rfl cwX7_135 ⟨nle rfl, nle rfl⟩ (nle rfl) ⟨nle rfl, nle rfl⟩ dX7_erase_66 ?_ (fun _ _ _ z => z.elim)
                intro r2 h2 n2 hq _
                rw [hq.1, hq.2.1, hq.2.2]
                show pw E YX7_erase _ _ 0 0 69 [some (.ref (I 0)), some (.int (zI (how))), some (.int (zI (r))), some (.int (zI (1)))] [.int (zI (F 8 * 128 + 32)), .int (zI (F 3)), .int (zI (0)), .int (zI (r)), .ref (I (sq F + 5))] (scPut w H N NH I F (shM F m f) (shO F o f) T c l h) n
                refine pw_callV (As := [.int (zI (r)), .int (zI (0)), .int (zI (F 3)), .int (zI (F 8 * 128 + 32))]) (b := (I (sq F + 5))) (rm := rmD 2 0 0) (mX0_fill htr (scSg (scAt_put hA)) (scSx hA) (scSne hA) (by omega) (by omega) gN gN2 (by omega) (by omega) (by omega) (by omega)) rfl (scSg (scAt_put hA)) rfl rfl ywX0_fill rfl cwX7_139 ⟨nle rfl, nle rfl⟩ (nle rfl) ⟨nle rfl, nle rfl⟩ dX7_erase_69 ?_ (fun _ _ _ z => z.elim)
                intro r2 h2 n2 hq _
                rw [hq.1, hq.2.1, hq.2.2]
                show pw E YX7_erase _ _ 0 0 72 [some (.ref (I 0)), some (.int (zI (how))), some (.int (zI (r))), some (.int (zI (1)))] [] (va_up (scPut w H N NH I F (shM F m f) (shO F o f) T c l h) (I (sq F)) (pz_z 0 N (gfill w H (r) (0) (F 3) (F 8 * 128 + 32) f))) n
                refine pw_h (scUS hA) ?_
                refine pw_ziinc (lv' := [some (.ref (I 0)), some (.int (zI (how))), some (.int (zI (r + 1))), some (.int (zI (1)))]) dX7_erase_72 rfl (by decide) rfl rfl ?_
                refine pw_goto (tgt := 7) dX7_erase_75 rfl ?_
                rw [show sErase w H F how (j + 1) r f = sErase w H F how j (r + 1) (if (how = 0 ∧ F 6 < r) ∨ (how = 1 ∧ r < F 6) ∨ how = 2 then gfill w H r 0 (F 3) (F 8 * 128 + 32) f else f) from rfl] at hQ
                first | (exfalso; omega) | (rw [if_pos (show (how = 0 ∧ F 6 < r) ∨ (how = 1 ∧ r < F 6) ∨ how = 2 by omega)] at hQ; exact ih (r + 1) _ _ (by omega) (by omega) (by omega) hQ) | (rw [if_neg (show ¬ ((how = 0 ∧ F 6 < r) ∨ (how = 1 ∧ r < F 6) ∨ how = 2) by omega)] at hQ; exact ih (r + 1) _ _ (by omega) (by omega) (by omega) hQ)
            ·
              refine pw_iload_n dX7_erase_40 rfl ?_
              refine pw_iconst (v := zI (2)) dX7_erase_41 (by decide) ?_
              refine pw_icmp_ne (tgt := 49) dX7_erase_42 rfl (by omega) (by omega) (fun c42 => ?_) (fun c42 => ?_)
              ·
                refine pw_iconst (v := zI (0)) dX7_erase_49 (by decide) ?_
                refine pw_istore_n (lv' := [some (.ref (I 0)), some (.int (zI (how))), some (.int (zI (r))), some (.int (zI (0)))]) dX7_erase_50 (by decide) rfl rfl ?_
                refine pw_iload_n dX7_erase_51 rfl ?_
                refine pw_if_eq (tgt := 72) dX7_erase_52 rfl (by omega) (fun c52 => ?_) (fun c52 => ?_)
                ·
                  refine pw_ziinc (lv' := [some (.ref (I 0)), some (.int (zI (how))), some (.int (zI (r + 1))), some (.int (zI (0)))]) dX7_erase_72 rfl (by decide) rfl rfl ?_
                  refine pw_goto (tgt := 7) dX7_erase_75 rfl ?_
                  rw [show sErase w H F how (j + 1) r f = sErase w H F how j (r + 1) (if (how = 0 ∧ F 6 < r) ∨ (how = 1 ∧ r < F 6) ∨ how = 2 then gfill w H r 0 (F 3) (F 8 * 128 + 32) f else f) from rfl] at hQ
                  first | (exfalso; omega) | (rw [if_pos (show (how = 0 ∧ F 6 < r) ∨ (how = 1 ∧ r < F 6) ∨ how = 2 by omega)] at hQ; exact ih (r + 1) _ _ (by omega) (by omega) (by omega) hQ) | (rw [if_neg (show ¬ ((how = 0 ∧ F 6 < r) ∨ (how = 1 ∧ r < F 6) ∨ how = 2) by omega)] at hQ; exact ih (r + 1) _ _ (by omega) (by omega) (by omega) hQ)
                · exfalso; omega
              ·
                refine pw_iconst (v := zI (1)) dX7_erase_45 (by decide) ?_
                refine pw_goto (tgt := 50) dX7_erase_46 rfl ?_
                refine pw_istore_n (lv' := [some (.ref (I 0)), some (.int (zI (how))), some (.int (zI (r))), some (.int (zI (1)))]) dX7_erase_50 (by decide) rfl rfl ?_
                refine pw_iload_n dX7_erase_51 rfl ?_
                refine pw_if_eq (tgt := 72) dX7_erase_52 rfl (by omega) (fun c52 => ?_) (fun c52 => ?_)
                · exfalso; omega
                ·
                  refine pw_aload_n dX7_erase_55 rfl ?_
                  refine pw_callV (As := []) (b := (I 0)) (rm := rmD 0 0 0) (mX7_shown htr hG0 (scAt_put hA) (hO0)) rfl (scAt_put hA).1.1 rfl rfl ywX7_shown rfl cwX7_95 ⟨nle rfl, nle rfl⟩ (nle rfl) ⟨nle rfl, nle rfl⟩ dX7_erase_56 ?_ (fun _ _ _ z => z.elim)
                  intro r2 h2 n2 hq _
                  rw [hq.1, hq.2.1, hq.2.2]
                  show pw E YX7_erase _ _ 0 0 59 [some (.ref (I 0)), some (.int (zI (how))), some (.int (zI (r))), some (.int (zI (1)))] [.ref (I (sq F + 5))] (scPut w H N NH I F (shM F m f) (shO F o f) T c l h) n
                  refine pw_iload_n dX7_erase_59 rfl ?_
                  refine pw_iconst (v := zI (0)) dX7_erase_60 (by decide) ?_
                  refine pw_aload_n dX7_erase_61 rfl ?_
                  refine pw_get (v := .int (zI (F 3))) okX7 (k := 3) (by decide) lkX7_76 (scAt_put hA).1.1 rfl dX7_erase_62 ?_
                  refine pw_aload_n dX7_erase_65 rfl ?_
                  refine pw_callV (As := []) (b := (I 0)) (rm := rmD 0 0 0) (mX7_blank htr hG0 (scAt_put hA) (hO0)) rfl (scAt_put hA).1.1 rfl rfl ywX7_blank rfl cwX7_135 ⟨nle rfl, nle rfl⟩ (nle rfl) ⟨nle rfl, nle rfl⟩ dX7_erase_66 ?_ (fun _ _ _ z => z.elim)
                  intro r2 h2 n2 hq _
                  rw [hq.1, hq.2.1, hq.2.2]
                  show pw E YX7_erase _ _ 0 0 69 [some (.ref (I 0)), some (.int (zI (how))), some (.int (zI (r))), some (.int (zI (1)))] [.int (zI (F 8 * 128 + 32)), .int (zI (F 3)), .int (zI (0)), .int (zI (r)), .ref (I (sq F + 5))] (scPut w H N NH I F (shM F m f) (shO F o f) T c l h) n
                  refine pw_callV (As := [.int (zI (r)), .int (zI (0)), .int (zI (F 3)), .int (zI (F 8 * 128 + 32))]) (b := (I (sq F + 5))) (rm := rmD 2 0 0) (mX0_fill htr (scSg (scAt_put hA)) (scSx hA) (scSne hA) (by omega) (by omega) gN gN2 (by omega) (by omega) (by omega) (by omega)) rfl (scSg (scAt_put hA)) rfl rfl ywX0_fill rfl cwX7_139 ⟨nle rfl, nle rfl⟩ (nle rfl) ⟨nle rfl, nle rfl⟩ dX7_erase_69 ?_ (fun _ _ _ z => z.elim)
                  intro r2 h2 n2 hq _
                  rw [hq.1, hq.2.1, hq.2.2]
                  show pw E YX7_erase _ _ 0 0 72 [some (.ref (I 0)), some (.int (zI (how))), some (.int (zI (r))), some (.int (zI (1)))] [] (va_up (scPut w H N NH I F (shM F m f) (shO F o f) T c l h) (I (sq F)) (pz_z 0 N (gfill w H (r) (0) (F 3) (F 8 * 128 + 32) f))) n
                  refine pw_h (scUS hA) ?_
                  refine pw_ziinc (lv' := [some (.ref (I 0)), some (.int (zI (how))), some (.int (zI (r + 1))), some (.int (zI (1)))]) dX7_erase_72 rfl (by decide) rfl rfl ?_
                  refine pw_goto (tgt := 7) dX7_erase_75 rfl ?_
                  rw [show sErase w H F how (j + 1) r f = sErase w H F how j (r + 1) (if (how = 0 ∧ F 6 < r) ∨ (how = 1 ∧ r < F 6) ∨ how = 2 then gfill w H r 0 (F 3) (F 8 * 128 + 32) f else f) from rfl] at hQ
                  first | (exfalso; omega) | (rw [if_pos (show (how = 0 ∧ F 6 < r) ∨ (how = 1 ∧ r < F 6) ∨ how = 2 by omega)] at hQ; exact ih (r + 1) _ _ (by omega) (by omega) (by omega) hQ) | (rw [if_neg (show ¬ ((how = 0 ∧ F 6 < r) ∨ (how = 1 ∧ r < F 6) ∨ how = 2) by omega)] at hQ; exact ih (r + 1) _ _ (by omega) (by omega) (by omega) hQ)
set_option maxHeartbeats 4000000 in
set_option maxRecDepth 100000 in
/-- Screen.erase(how) -/
theorem mX7_erase {E : pw_E} (htr : E.1.stackTraces = false) {h : pz_H} {n : Nat} {w H : Int} {N NH : Nat} {I : Nat → Nat} {F m o T c l : Nat → Int} (hG : geo w H N NH) (hA : scAt w H N NH I F m o T c l h) (hO : scOk w H F T) {how : Int} (h_how : -2147483648 ≤ how ∧ how < 2147483648) (hhow : 0 ≤ how ∧ how ≤ 1000) : pw_M E yX7_erase YX7_erase (rmD 4 0 0) [.ref (I 0), .int (zI (how))] h n (fun r h' n' => r = none ∧ h' = scPut w H N NH I (va_up F 7 0) (shM F m (sErase w H (va_up F 7 0) how (F 4).toNat 0 (sErow w H F how (shG F m o)))) (shO F o (sErase w H (va_up F 7 0) how (F 4).toNat 0 (sErow w H F how (shG F m o)))) T c l h ∧ n' = n) (fun _ _ _ => False) := by
  have hG0 := hG
  have hO0 := hO
  obtain ⟨gw, gH, gN, gN2, gNH⟩ := hG
  obtain ⟨o3, o4, o5, o6, o7, o8, o9, o10, o11, o12, o14, o15, o16, o17, oT3, oT4⟩ := hO
  refine pw_M_of (lv := [some (.ref (I 0)), some (.int (zI (how))), none, none]) (by decide) rfl rfl htr (nle rfl) rfl (fun L => ?_)
  refine pw_h (scPut_id hA).symm ?_
  refine pw_aload_n dX7_erase_0 rfl ?_
  refine pw_iload_n dX7_erase_1 rfl ?_
  refine pw_callV (As := [.int (zI (how))]) (b := (I 0)) (rm := rmD 3 0 0) (mX7_eraseInRow htr hG0 (scAt_put hA) hO0 (by omega)) rfl (scAt_put hA).1.1 rfl rfl ywX7_eraseInRow rfl cwX7_142 ⟨nle rfl, nle rfl⟩ (nle rfl) ⟨nle rfl, nle rfl⟩ dX7_erase_2 ?_ (fun _ _ _ z => z.elim)
  intro r2 h2 n2 hq _
  rw [hq.1, hq.2.1, hq.2.2]
  show pw E YX7_erase _ _ 0 0 5 [some (.ref (I 0)), some (.int (zI (how))), none, none] [] (scPut w H N NH I (va_up F 7 0) (shM F m (sErow w H F how (shG F m o))) (shO F o (sErow w H F how (shG F m o))) T c l (scPut w H N NH I F m o T c l h)) n
  refine pw_h scPut_put ?_
  refine pw_iconst (v := zI (0)) dX7_erase_5 (by decide) ?_
  refine pw_istore_n (lv' := [some (.ref (I 0)), some (.int (zI (how))), some (.int (zI (0))), none]) dX7_erase_6 (by decide) rfl rfl ?_
  refine pw_h (scPut_put (F := va_up F 7 0) (m := m) (o := o) (T := T) (c := c) (l := l)).symm ?_
  exact lX7_erase (F := va_up F 7 0) (m := m) (o := o) htr hG0 (scAt_put hA) (scOk_7 hO0) hhow _ 0 (sErow w H F how (shG F m o)) _ rfl (by omega) (show 0 ≤ F 4 by omega) ⟨rfl, by rw [Int.sub_zero]; exact scPut_put, rfl⟩
end
section
/-! ===== a Screen with its Reader: J 0 the Reader, J 1 its numbers ===== -/
def zAt (w H : Int) (N NH : Nat) (I : Nat → Nat) (s : zSt) (h : pz_H) : Prop := scAt w H N NH I s.1 s.2.1 s.2.2.1 s.2.2.2.1 s.2.2.2.2.1 s.2.2.2.2.2 h
def rdObj (I J : Nat → Nat) (R : Nat → Int) : List Value := [.ref (I 0), .ref (J 1), .int (zI (R 2)), .int (zI (R 3)), .int (zI (R 4)), .int (zI (R 5))]
def rP (w H : Int) (N NH : Nat) (I J : Nat → Nat) (s : zSt) (R q : Nat → Int) (h : pz_H) : pz_H := fun j => if j = J 0 then pz_o 9 (rdObj I J R) else if j = J 1 then pz_z 0 4 q else zP w H N NH I s h j
def rAt (w H : Int) (N NH : Nat) (I J : Nat → Nat) (s : zSt) (R q : Nat → Int) (h : pz_H) : Prop := zAt w H N NH I s h ∧ h (J 0) = pz_o 9 (rdObj I J R) ∧ h (J 1) = pz_z 0 4 q ∧ J 0 ≠ J 1 ∧ ∀ i, i < 8 → I i ≠ J 0 ∧ I i ≠ J 1
section RD
variable {w H : Int} {N NH : Nat} {I J : Nat → Nat} {s s' s0 : zSt} {R R' R0 q q' q0 : Nat → Int} {h : pz_H}
theorem zAt_of {h1 : pz_H} (hA : zAt w H N NH I s h) (e : ∀ i, i < 8 → h1 (I i) = h (I i)) : zAt w H N NH I s h1 :=
  ⟨⟨(e 0 (by decide)).trans hA.1.1, (e 1 (by decide)).trans hA.1.2.1, (e 2 (by decide)).trans hA.1.2.2.1, (e 3 (by decide)).trans hA.1.2.2.2.1, (e 4 (by decide)).trans hA.1.2.2.2.2.1, (e 5 (by decide)).trans hA.1.2.2.2.2.2.1, (e 6 (by decide)).trans hA.1.2.2.2.2.2.2.1, (e 7 (by decide)).trans hA.1.2.2.2.2.2.2.2⟩, hA.2⟩
theorem zAt_put (hA : zAt w H N NH I s0 h) : zAt w H N NH I s (zP w H N NH I s h) := scAt_put hA
theorem rP_I (hA : rAt w H N NH I J s0 R0 q0 h) {i : Nat} (hi : i < 8) : rP w H N NH I J s R q h (I i) = zP w H N NH I s h (I i) := by
  unfold rP
  rw [if_neg (hA.2.2.2.2 i hi).1, if_neg (hA.2.2.2.2 i hi).2]
theorem rAt_put (hA : rAt w H N NH I J s0 R0 q0 h) : rAt w H N NH I J s R q (rP w H N NH I J s R q h) := by
  refine ⟨zAt_of (zAt_put hA.1) (fun i hi => rP_I hA hi), ?_, ?_, hA.2.2.2.1, hA.2.2.2.2⟩
  · unfold rP; rw [if_pos rfl]
  · unfold rP; rw [if_neg (Ne.symm hA.2.2.2.1), if_pos rfl]
theorem rP_id (hA : rAt w H N NH I J s R q h) : rP w H N NH I J s R q h = h := by
  funext j
  unfold rP
  split
  · next e => rw [e]; exact hA.2.1.symm
  split
  · next e => rw [e]; exact hA.2.2.1.symm
  exact congrFun (scPut_id hA.1) j
theorem zP_other {j : Nat} (hj : ∀ i, i < 8 → j ≠ I i) : zP w H N NH I s h j = h j := scPut_other (fun i hi => hj i (by omega))
theorem zP_put : zP w H N NH I s (zP w H N NH I s' h) = zP w H N NH I s h := scPut_put
/-- what depends on h at the cells' own ids only through their puts -/
theorem zP_congr {h1 h2 : pz_H} (j : Nat) (e : (∀ i, i < 6 → j ≠ I i) → h1 j = h2 j) : zP w H N NH I s h1 j = zP w H N NH I s h2 j := by
  by_cases hj : ∀ i, i < 6 → j ≠ I i
  · rw [zP, zP, scPut_other hj, scPut_other hj]; exact e hj
  · unfold zP scPut
    by_cases e0 : j = I 0
    · simp only [if_pos e0]
    by_cases e1 : j = I 1
    · simp only [if_neg e0, if_pos e1]
    by_cases e2 : j = I 2
    · simp only [if_neg e0, if_neg e1, if_pos e2]
    by_cases e3 : j = I 3
    · simp only [if_neg e0, if_neg e1, if_neg e2, if_pos e3]
    by_cases e4 : j = I 4
    · simp only [if_neg e0, if_neg e1, if_neg e2, if_neg e3, if_pos e4]
    by_cases e5 : j = I 5
    · simp only [if_neg e0, if_neg e1, if_neg e2, if_neg e3, if_neg e4, if_pos e5]
    exact absurd (fun i hi => by
      match i, hi with
      | 0, _ => exact e0
      | 1, _ => exact e1
      | 2, _ => exact e2
      | 3, _ => exact e3
      | 4, _ => exact e4
      | 5, _ => exact e5) hj
/-- a Screen's method behind a Reader's -/
theorem zP_rP (hA : rAt w H N NH I J s0 R0 q0 h) : zP w H N NH I s' (rP w H N NH I J s R q h) = rP w H N NH I J s' R q h := by
  funext j
  by_cases e0 : j = J 0
  · rw [zP_other (j := j) (I := I) (fun i hi => fun e => (hA.2.2.2.2 i hi).1 (e.symm.trans e0))]
    unfold rP; rw [if_pos e0, if_pos e0]
  by_cases e1 : j = J 1
  · rw [zP_other (j := j) (I := I) (fun i hi => fun e => (hA.2.2.2.2 i hi).2 (e.symm.trans e1))]
    unfold rP; rw [if_neg e0, if_neg e0, if_pos e1, if_pos e1]
  have e2 : rP w H N NH I J s' R q h j = zP w H N NH I s' h j := by unfold rP; rw [if_neg e0, if_neg e1]
  rw [e2]
  refine zP_congr j (fun hj => ?_)
  unfold rP; rw [if_neg e0, if_neg e1]
  exact scPut_other hj
theorem rU0 : va_up (rP w H N NH I J s R q h) (J 0) (pz_o 9 (rdObj I J R')) = rP w H N NH I J s R' q h := by
  funext j
  unfold rP va_up
  by_cases e0 : j = J 0
  · simp only [if_pos e0]
  · simp only [if_neg e0]
theorem rU1 (hA : rAt w H N NH I J s0 R0 q0 h) : va_up (rP w H N NH I J s R q h) (J 1) (pz_z 0 4 q') = rP w H N NH I J s R q' h := by
  funext j
  unfold rP va_up
  by_cases e0 : j = J 0
  · simp only [if_pos e0, if_neg (show ¬ j = J 1 from fun e => hA.2.2.2.1 (e0.symm.trans e))]
  · by_cases e1 : j = J 1
    · simp only [if_neg e0, if_pos e1]
    · simp only [if_neg e0, if_neg e1]
theorem rUF (hA : rAt w H N NH I J s0 R0 q0 h) {F' : Nat → Int} : va_up (rP w H N NH I J s R q h) (I 0) (pz_o 10 (scObj I F')) = rP w H N NH I J (F', s.2) R q h := by
  funext j
  by_cases ei : j = I 0
  · subst ei
    rw [va_up_self, rP_I hA (by decide)]
    exact ((scAt_put hA.1).1.1).symm
  · rw [va_up_ne _ _ ei]
    unfold rP
    split
    · rfl
    split
    · rfl
    unfold zP scPut
    simp only [if_neg ei]
end RD
/-- what Screen's methods do, on the whole state -/
def zMove (a b : Int) (s : zSt) : zSt := (sMove s.1 a b, s.2)
def zSave (s : zSt) : zSt := (sSave s.1, s.2)
def zTake (s : zSt) : zSt := (va_up (sMove s.1 (s.1 9) (s.1 10)) 8 (s.1 11), s.2)
def zSet (k : Nat) (x : Int) (s : zSt) : zSt := (va_up s.1 k x, s.2)
def zEraCells (w H k : Int) (s : zSt) : zSt := zX (va_up s.1 7 0) (gfill w H (s.1 6) (s.1 5) (min (s.1 3) (s.1 5 + k)) (s.1 8 * 128 + 32) (zG s)) s
def zInsCells (w H k : Int) (s : zSt) : zSt := zX (va_up s.1 7 0) (gfill w H (s.1 6) (s.1 5) (s.1 5 + min k (s.1 3 - s.1 5)) (s.1 8 * 128 + 32) (gmoveCells w H (s.1 6) (s.1 5) (s.1 5 + min k (s.1 3 - s.1 5)) (s.1 3 - s.1 5 - min k (s.1 3 - s.1 5)) (zG s))) s
def zDelCells (w H k : Int) (s : zSt) : zSt := zX (va_up s.1 7 0) (gfill w H (s.1 6) (s.1 3 - min k (s.1 3 - s.1 5)) (s.1 3) (s.1 8 * 128 + 32) (gmoveCells w H (s.1 6) (s.1 5 + min k (s.1 3 - s.1 5)) (s.1 5) (s.1 3 - s.1 5 - min k (s.1 3 - s.1 5)) (zG s))) s
def zErow (w H how : Int) (s : zSt) : zSt := zX (va_up s.1 7 0) (sErow w H s.1 how (zG s)) s
def zErase (w H how : Int) (s : zSt) : zSt := zX (va_up s.1 7 0) (sErase w H (va_up s.1 7 0) how (s.1 4).toNat 0 (sErow w H s.1 how (zG s))) s
def zInsRows (w H k : Int) (s : zSt) : zSt := zX (sIn s.1) (sInX s.1 (sLower w H (s.1 6) (s.1 3) k (s.1 8 * 128 + 32) (s.1 13 + 1 - s.1 6).toNat (s.1 13) (zG s)) (zG s)) s
def zDelRows (w H k : Int) (s : zSt) : zSt := zX (sIn s.1) (sInX s.1 (sRaise w H (s.1 13) (s.1 3) k (s.1 8 * 128 + 32) (s.1 13 + 1 - s.1 6).toNat (s.1 6) (zG s)) (zG s)) s
def zRegion (a b : Int) (s : zSt) : zSt := (sRegion s.1 a b, s.2)
end
section

theorem zall {n : Nat} {P : Nat → Prop} (d : ∀ k, Decidable (P k)) (hh : (List.range n).all (fun k => @decide (P k) (d k)) = true) {k : Nat} (hk : k < n) : P k := by
  have h1 := List.all_eq_true.mp hh k (List.mem_range.mpr hk)
  exact of_decide_eq_true h1
set_option maxRecDepth 100000 in
theorem pn_or1 {k : Nat} (hk : k < 4096) : zI (k : Int) ||| zI 1 = zI (((k / 2 * 2 + 1 : Nat)) : Int) := zall (P := fun k => zI (k : Int) ||| zI 1 = zI (((k / 2 * 2 + 1 : Nat)) : Int)) (fun _ => inferInstance) (by decide +kernel) hk
set_option maxRecDepth 100000 in
theorem pn_or2 {k : Nat} (hk : k < 4096) : zI (k : Int) ||| zI 2 = zI (((k / 4 * 4 + 2 + k % 2 : Nat)) : Int) := zall (P := fun k => zI (k : Int) ||| zI 2 = zI (((k / 4 * 4 + 2 + k % 2 : Nat)) : Int)) (fun _ => inferInstance) (by decide +kernel) hk
set_option maxRecDepth 100000 in
theorem pn_or4 {k : Nat} (hk : k < 4096) : zI (k : Int) ||| zI 4 = zI (((k / 8 * 8 + 4 + k % 4 : Nat)) : Int) := zall (P := fun k => zI (k : Int) ||| zI 4 = zI (((k / 8 * 8 + 4 + k % 4 : Nat)) : Int)) (fun _ => inferInstance) (by decide +kernel) hk
set_option maxRecDepth 100000 in
theorem pn_an1 {k : Nat} (hk : k < 4096) : zI (k : Int) &&& zI (-2) = zI (((k / 2 * 2 : Nat)) : Int) := zall (P := fun k => zI (k : Int) &&& zI (-2) = zI (((k / 2 * 2 : Nat)) : Int)) (fun _ => inferInstance) (by decide +kernel) hk
set_option maxRecDepth 100000 in
theorem pn_an2 {k : Nat} (hk : k < 4096) : zI (k : Int) &&& zI (-3) = zI (((k / 4 * 4 + k % 2 : Nat)) : Int) := zall (P := fun k => zI (k : Int) &&& zI (-3) = zI (((k / 4 * 4 + k % 2 : Nat)) : Int)) (fun _ => inferInstance) (by decide +kernel) hk
set_option maxRecDepth 100000 in
theorem pn_an4 {k : Nat} (hk : k < 4096) : zI (k : Int) &&& zI (-5) = zI (((k / 8 * 8 + k % 4 : Nat)) : Int) := zall (P := fun k => zI (k : Int) &&& zI (-5) = zI (((k / 8 * 8 + k % 4 : Nat)) : Int)) (fun _ => inferInstance) (by decide +kernel) hk
set_option maxRecDepth 100000 in
theorem pn_ac {k : Nat} (hk : k < 4096) : zI (k : Int) &&& zI (-241) = zI (((k / 256 * 256 + k % 16 : Nat)) : Int) := zall (P := fun k => zI (k : Int) &&& zI (-241) = zI (((k / 256 * 256 + k % 16 : Nat)) : Int)) (fun _ => inferInstance) (by decide +kernel) hk
set_option maxRecDepth 100000 in
theorem pn_ag {k : Nat} (hk : k < 4096) : zI (k : Int) &&& zI (-3841) = zI (((k % 256 : Nat)) : Int) := zall (P := fun k => zI (k : Int) &&& zI (-3841) = zI (((k % 256 : Nat)) : Int)) (fun _ => inferInstance) (by decide +kernel) hk
theorem pn_s4 {k : Nat} (hk : k < 16) : zI (k : Int) <<< (zI 4 &&& 31) = zI (((k * 16 : Nat)) : Int) := zall (P := fun k => zI (k : Int) <<< (zI 4 &&& 31) = zI (((k * 16 : Nat)) : Int)) (fun _ => inferInstance) (by decide +kernel) hk
theorem pn_s8 {k : Nat} (hk : k < 16) : zI (k : Int) <<< (zI 8 &&& 31) = zI (((k * 256 : Nat)) : Int) := zall (P := fun k => zI (k : Int) <<< (zI 8 &&& 31) = zI (((k * 256 : Nat)) : Int)) (fun _ => inferInstance) (by decide +kernel) hk
set_option maxRecDepth 100000 in
theorem pn_oc {k : Nat} (hk : k < 4096) : zI (((k / 256 * 256 + k % 16 : Nat)) : Int) ||| zI (((k / 16 % 16 * 16 : Nat)) : Int) = zI (k : Int) := zall (P := fun k => zI (((k / 256 * 256 + k % 16 : Nat)) : Int) ||| zI (((k / 16 % 16 * 16 : Nat)) : Int) = zI (k : Int)) (fun _ => inferInstance) (by decide +kernel) hk
set_option maxRecDepth 100000 in
theorem pn_og {k : Nat} (hk : k < 4096) : zI (((k % 256 : Nat)) : Int) ||| zI (((k / 256 * 256 : Nat)) : Int) = zI (k : Int) := zall (P := fun k => zI (((k % 256 : Nat)) : Int) ||| zI (((k / 256 * 256 : Nat)) : Int) = zI (k : Int)) (fun _ => inferInstance) (by decide +kernel) hk
/-- the PEN with another colour, another ground -/
def pCol (p c : Int) : Int := p / 256 * 256 + c * 16 + p % 16
def pGnd (p g : Int) : Int := g * 256 + p % 256
theorem zCol {p c : Int} (hp : 0 ≤ p ∧ p < 4096) (hc : 0 ≤ c ∧ c < 16) : (zI p &&& zI (-241)) ||| (zI c <<< (zI 4 &&& 31)) = zI (pCol p c) := by
  obtain ⟨a, rfl⟩ := Int.eq_ofNat_of_zero_le hp.1
  obtain ⟨b, rfl⟩ := Int.eq_ofNat_of_zero_le hc.1
  rw [pn_ac (by omega), pn_s4 (by omega)]
  have h1 := pn_oc (k := a / 256 * 256 + b * 16 + a % 16) (by omega)
  rw [show (a / 256 * 256 + b * 16 + a % 16) / 256 * 256 + (a / 256 * 256 + b * 16 + a % 16) % 16 = a / 256 * 256 + a % 16 by omega, show (a / 256 * 256 + b * 16 + a % 16) / 16 % 16 * 16 = b * 16 by omega] at h1
  rw [h1]
  unfold pCol
  congr 1
theorem zGnd {p g : Int} (hp : 0 ≤ p ∧ p < 4096) (hg : 0 ≤ g ∧ g < 16) : (zI p &&& zI (-3841)) ||| (zI g <<< (zI 8 &&& 31)) = zI (pGnd p g) := by
  obtain ⟨a, rfl⟩ := Int.eq_ofNat_of_zero_le hp.1
  obtain ⟨b, rfl⟩ := Int.eq_ofNat_of_zero_le hg.1
  rw [pn_ag (by omega), pn_s8 (by omega)]
  have h1 := pn_og (k := b * 256 + a % 256) (by omega)
  rw [show (b * 256 + a % 256) % 256 = a % 256 by omega, show (b * 256 + a % 256) / 256 * 256 = b * 256 by omega] at h1
  rw [h1]
  unfold pGnd
  congr 1
theorem zOr1 {p : Int} (hp : 0 ≤ p ∧ p < 4096) : zI p ||| zI 1 = zI (p / 2 * 2 + 1) := by
  obtain ⟨a, rfl⟩ := Int.eq_ofNat_of_zero_le hp.1
  exact (pn_or1 (by omega)).trans (by congr 1)
theorem zOr2 {p : Int} (hp : 0 ≤ p ∧ p < 4096) : zI p ||| zI 2 = zI (p / 4 * 4 + 2 + p % 2) := by
  obtain ⟨a, rfl⟩ := Int.eq_ofNat_of_zero_le hp.1
  exact (pn_or2 (by omega)).trans (by congr 1)
theorem zOr4 {p : Int} (hp : 0 ≤ p ∧ p < 4096) : zI p ||| zI 4 = zI (p / 8 * 8 + 4 + p % 4) := by
  obtain ⟨a, rfl⟩ := Int.eq_ofNat_of_zero_le hp.1
  exact (pn_or4 (by omega)).trans (by congr 1)
theorem zAn1 {p : Int} (hp : 0 ≤ p ∧ p < 4096) : zI p &&& zI (-2) = zI (p / 2 * 2) := by
  obtain ⟨a, rfl⟩ := Int.eq_ofNat_of_zero_le hp.1
  exact (pn_an1 (by omega)).trans (by congr 1)
theorem zAn2 {p : Int} (hp : 0 ≤ p ∧ p < 4096) : zI p &&& zI (-3) = zI (p / 4 * 4 + p % 2) := by
  obtain ⟨a, rfl⟩ := Int.eq_ofNat_of_zero_le hp.1
  exact (pn_an2 (by omega)).trans (by congr 1)
theorem zAn4 {p : Int} (hp : 0 ≤ p ∧ p < 4096) : zI p &&& zI (-5) = zI (p / 8 * 8 + p % 4) := by
  obtain ⟨a, rfl⟩ := Int.eq_ofNat_of_zero_le hp.1
  exact (pn_an4 (by omega)).trans (by congr 1)
end
section
theorem pw_ialdv {E : pw_E} {Y : pw_Y} {R : Room} {K : pw_K} {uc us pc : Nat} {lv : List (Option Value)} {st : List Value} {h : pz_H} {n t N a : Nat} {i v : Int} {g : Nat → Int} (ht : pw_T[t]? = some .int) (ho : h a = pz_z t N g) (hi : 0 ≤ i ∧ i < N) (hN : N < 2147483648) (hv : g i.toNat = v) (hd : decode Y.2.2.1 pc = .ok (.iaload, 1)) (kk : pw E Y R K uc us (pc + 1) lv (.int (zI v) :: st) h n) : pw E Y R K uc us pc lv (.int (zI i) :: .ref a :: st) h n :=
  pw_iald ht ho hi hN hd (by rw [hv]; exact kk)
theorem rP_put {w H : Int} {N NH : Nat} {I J : Nat → Nat} {s s' s0 : zSt} {R R' R0 q q' q0 : Nat → Int} {h : pz_H} (hA : rAt w H N NH I J s0 R0 q0 h) : rP w H N NH I J s' R' q' (rP w H N NH I J s R q h) = rP w H N NH I J s' R' q' h := by
  funext j
  by_cases e0 : j = J 0
  · unfold rP; simp only [if_pos e0]
  by_cases e1 : j = J 1
  · unfold rP; simp only [if_neg e0, if_pos e1]
  have e2 : ∀ h1 : pz_H, rP w H N NH I J s' R' q' h1 j = zP w H N NH I s' h1 j := fun h1 => by unfold rP; rw [if_neg e0, if_neg e1]
  rw [e2, e2]
  refine zP_congr j (fun hj => ?_)
  unfold rP; rw [if_neg e0, if_neg e1]
  exact scPut_other hj
/-- what holds of a Reader's numbers -/
def rOk (w H : Int) (s : zSt) (R q : Nat → Int) : Prop := zOk w H s ∧ (0 ≤ R 2 ∧ R 2 ≤ 4) ∧ (0 ≤ R 3 ∧ R 3 ≤ 1) ∧ (0 ≤ R 4 ∧ R 4 ≤ 1) ∧ (0 ≤ R 5 ∧ R 5 ≤ 3) ∧ ∀ k : Nat, 0 ≤ q k ∧ q k ≤ 999
def pChg (p c : Int) : Int := if 30 ≤ c ∧ c ≤ 37 then pCol p (c - 29) else if 40 ≤ c ∧ c ≤ 47 then pGnd p (c - 39) else if c = 0 then 0 else if c = 1 then p / 2 * 2 + 1 else if c = 4 then p / 4 * 4 + 2 + p % 2 else if c = 7 then p / 8 * 8 + 4 + p % 4 else if c = 22 then p / 2 * 2 else if c = 24 then p / 4 * 4 + p % 2 else if c = 27 then p / 8 * 8 + p % 4 else if c = 39 then pCol p 0 else if c = 49 then pGnd p 0 else p
theorem pChg_ok {p c : Int} (hp : 0 ≤ p ∧ p < 4096) : 0 ≤ pChg p c ∧ pChg p c < 4096 := by
  unfold pChg pCol pGnd
  split
  · omega
  split
  · omega
  split
  · omega
  split
  · omega
  split
  · omega
  split
  · omega
  split
  · omega
  split
  · omega
  split
  · omega
  split
  · omega
  split
  · omega
  exact hp
/-- m: the numbers from i on, told of them at most -/
def sPens (told : Int) (q : Nat → Int) : Nat → Int → Int → Int
  | 0, _, p => p
  | j + 1, i, p => if i < told then sPens told q j (i + 1) (pChg p (q i.toNat)) else p
def rTold (R : Nat → Int) : Int := if R 3 = 0 then R 2 else R 2 + 1
def zPens (R q : Nat → Int) (s : zSt) : zSt := zSet 8 (sPens (rTold R) q 4 0 (if rTold R = 0 then 0 else s.1 8)) s
/-- ? h, ? l -/
def zAsked (w H b : Int) (q : Nat → Int) (s : zSt) : zSt := if ¬ (b = 104 ∨ b = 108) then s else if q 0 = 7 then zSet 15 (if b = 104 then 1 else 0) s else if q 0 = 25 then zSet 16 (if b = 104 then 1 else 0) s else if q 0 = 47 then zShow w H (if b = 104 then 1 else 0) s else s
def rDigit (R q : Nat → Int) (d : Int) : Nat → Int := if R 2 < 4 then va_up q (R 2).toNat (min 999 (q (R 2).toNat * 10 + d)) else q
def rDigitR (R : Nat → Int) : Nat → Int := if R 2 < 4 then va_up R 3 1 else R
end
section
def YX6_withColour : pw_Y := (RX6, "withColour", cX6_withColour, 2, (some .int))
theorem ywX6_withColour : pw_y yX6_withColour YX6_withColour 2 := ⟨by decide +kernel, by decide +kernel, by decide +kernel, pw_in 1062 (by decide +kernel) (by decide +kernel), pw_in 85 (by decide +kernel) (by decide +kernel)⟩
def YX6_withGround : pw_Y := (RX6, "withGround", cX6_withGround, 2, (some .int))
theorem ywX6_withGround : pw_y yX6_withGround YX6_withGround 2 := ⟨by decide +kernel, by decide +kernel, by decide +kernel, pw_in 1065 (by decide +kernel) (by decide +kernel), pw_in 85 (by decide +kernel) (by decide +kernel)⟩
theorem cwX6_153 : Cond.methodLink RX6 153 yX6_withColour ∈ pw_G ∧ Cond.static yX6_withColour ∈ pw_G := ⟨pw_in 1060 (by decide +kernel) (by decide +kernel), pw_in 1061 (by decide +kernel) (by decide +kernel)⟩
theorem cwX6_156 : Cond.methodLink RX6 156 yX6_withGround ∈ pw_G ∧ Cond.static yX6_withGround ∈ pw_G := ⟨pw_in 1063 (by decide +kernel) (by decide +kernel), pw_in 1064 (by decide +kernel) (by decide +kernel)⟩
def YX6_changedPen : pw_Y := (RX6, "changedPen", cX6_changedPen, 2, (some .int))
theorem ywX6_changedPen : pw_y yX6_changedPen YX6_changedPen 2 := ⟨by decide +kernel, by decide +kernel, by decide +kernel, pw_in 1059 (by decide +kernel) (by decide +kernel), pw_in 85 (by decide +kernel) (by decide +kernel)⟩
def YX6_reset : pw_Y := (RX6, "reset", cX6_reset, 1, none)
theorem ywX6_reset : pw_y yX6_reset YX6_reset 0 := ⟨by decide +kernel, by decide +kernel, by decide +kernel, pw_in 775 (by decide +kernel) (by decide +kernel), pw_in 85 (by decide +kernel) (by decide +kernel)⟩
theorem lkX6_17 : Cond.fieldLink RX6 17 (TX6 5).1 (TX6 5).2.1 (TX6 5).2.2.1 ∈ pw_G := pw_in 275 (by decide +kernel) (by decide +kernel)
def YX6_setInsertMode : pw_Y := (RX6, "setInsertMode", cX6_setInsertMode, 2, none)
theorem ywX6_setInsertMode : pw_y yX6_setInsertMode YX6_setInsertMode 1 := ⟨by decide +kernel, by decide +kernel, by decide +kernel, pw_in 1069 (by decide +kernel) (by decide +kernel), pw_in 85 (by decide +kernel) (by decide +kernel)⟩
theorem lkX6_9 : Cond.fieldLink RX6 9 (TX6 1).1 (TX6 1).2.1 (TX6 1).2.2.1 ∈ pw_G := pw_in 271 (by decide +kernel) (by decide +kernel)
theorem lkX6_13 : Cond.fieldLink RX6 13 (TX6 0).1 (TX6 0).2.1 (TX6 0).2.2.1 ∈ pw_G := pw_in 270 (by decide +kernel) (by decide +kernel)
theorem lkX6_144 : Cond.fieldLinkNest RX6 144 (TX7 14).1 (TX7 14).2.1 (TX7 14).2.2.1 "PaneHouse" ∈ pw_N := by decide +kernel
def YX6_takeDigit : pw_Y := (RX6, "takeDigit", cX6_takeDigit, 2, none)
theorem ywX6_takeDigit : pw_y yX6_takeDigit YX6_takeDigit 1 := ⟨by decide +kernel, by decide +kernel, by decide +kernel, pw_in 991 (by decide +kernel) (by decide +kernel), pw_in 85 (by decide +kernel) (by decide +kernel)⟩
theorem lkX6_74 : Cond.fieldLink RX6 74 (TX6 2).1 (TX6 2).2.1 (TX6 2).2.2.1 ∈ pw_G := pw_in 272 (by decide +kernel) (by decide +kernel)
theorem cwX6_83 : Cond.methodLink RX6 83 Lib.Math.min.name ∈ pw_G := pw_in 992 (by decide +kernel) (by decide +kernel)
theorem lkX6_77 : Cond.fieldLink RX6 77 (TX6 3).1 (TX6 3).2.1 (TX6 3).2.2.1 ∈ pw_G := pw_in 273 (by decide +kernel) (by decide +kernel)
def YX6_doAsked : pw_Y := (RX6, "doAsked", cX6_doAsked, 3, none)
theorem ywX6_doAsked : pw_y yX6_doAsked YX6_doAsked 1 := ⟨by decide +kernel, by decide +kernel, by decide +kernel, pw_in 996 (by decide +kernel) (by decide +kernel), pw_in 85 (by decide +kernel) (by decide +kernel)⟩
theorem lkX6_95 : Cond.fieldLinkNest RX6 95 (TX7 15).1 (TX7 15).2.1 (TX7 15).2.2.1 "PaneHouse" ∈ pw_N := by decide +kernel
theorem lkX6_98 : Cond.fieldLinkNest RX6 98 (TX7 16).1 (TX7 16).2.1 (TX7 16).2.2.1 "PaneHouse" ∈ pw_N := by decide +kernel
theorem cwX6_101 : Cond.methodLink RX6 101 yX7_showOther ∈ pw_G ∧ Cond.instanceMethod yX7_showOther ∈ pw_G ∧ Cond.selects RX7 yX7_showOther yX7_showOther ∈ pw_G := ⟨pw_in 997 (by decide +kernel) (by decide +kernel), pw_in 998 (by decide +kernel) (by decide +kernel), pw_in 999 (by decide +kernel) (by decide +kernel)⟩
theorem nX7_moveTo {E : pw_E} (htr : E.1.stackTraces = false) {h : pz_H} {n : Nat} {w H : Int} {N NH : Nat} {I : Nat → Nat} {s : zSt} (hG : geo w H N NH) (hA : zAt w H N NH I s h) (hO : zOk w H s) {a b : Int} (ha : -2147483648 ≤ a ∧ a < 2147483648) (hb : -2147483648 ≤ b ∧ b < 2147483648) : pw_M E yX7_moveTo YX7_moveTo (rmD 2 0 0) [.ref (I 0), .int (zI a), .int (zI b)] h n (fun r h' n' => r = none ∧ h' = zP w H N NH I (zMove a b s) h ∧ n' = n) (fun _ _ _ => False) := mX7_moveTo htr hG hA hO ha hb
theorem nX7_goToTab {E : pw_E} (htr : E.1.stackTraces = false) {h : pz_H} {n : Nat} {w H : Int} {N NH : Nat} {I : Nat → Nat} {s : zSt} (hG : geo w H N NH) (hA : zAt w H N NH I s h) (hO : zOk w H s)  : pw_M E yX7_goToTab YX7_goToTab (rmD 3 0 0) [.ref (I 0)] h n (fun r h' n' => r = none ∧ h' = zP w H N NH I (zMove ((s.1 5 / 8 + 1) * 8) (s.1 6) s) h ∧ n' = n) (fun _ _ _ => False) := mX7_goToTab htr hG hA hO 
theorem nX7_savePlace {E : pw_E} (htr : E.1.stackTraces = false) {h : pz_H} {n : Nat} {w H : Int} {N NH : Nat} {I : Nat → Nat} {s : zSt} (hG : geo w H N NH) (hA : zAt w H N NH I s h) (hO : zOk w H s)  : pw_M E yX7_savePlace YX7_savePlace (rmD 0 0 0) [.ref (I 0)] h n (fun r h' n' => r = none ∧ h' = zP w H N NH I (zSave s) h ∧ n' = n) (fun _ _ _ => False) := mX7_savePlace htr hG hA hO 
theorem nX7_takePlace {E : pw_E} (htr : E.1.stackTraces = false) {h : pz_H} {n : Nat} {w H : Int} {N NH : Nat} {I : Nat → Nat} {s : zSt} (hG : geo w H N NH) (hA : zAt w H N NH I s h) (hO : zOk w H s)  : pw_M E yX7_takePlace YX7_takePlace (rmD 3 0 0) [.ref (I 0)] h n (fun r h' n' => r = none ∧ h' = zP w H N NH I (zTake s) h ∧ n' = n) (fun _ _ _ => False) := mX7_takePlace htr hG hA hO 
theorem nX7_goDown {E : pw_E} (htr : E.1.stackTraces = false) {h : pz_H} {n : Nat} {w H : Int} {N NH : Nat} {I : Nat → Nat} {s : zSt} (hG : geo w H N NH) (hA : zAt w H N NH I s h) (hO : zOk w H s)  : pw_M E yX7_goDown YX7_goDown (rmD 6 0 0) [.ref (I 0)] h n (fun r h' n' => r = none ∧ h' = zP w H N NH I (zDown w H NH s) h ∧ n' = n) (fun _ _ _ => False) := mX7_goDown htr hG hA hO 
theorem nX7_goUp {E : pw_E} (htr : E.1.stackTraces = false) {h : pz_H} {n : Nat} {w H : Int} {N NH : Nat} {I : Nat → Nat} {s : zSt} (hG : geo w H N NH) (hA : zAt w H N NH I s h) (hO : zOk w H s)  : pw_M E yX7_goUp YX7_goUp (rmD 5 0 0) [.ref (I 0)] h n (fun r h' n' => r = none ∧ h' = zP w H N NH I (zUp w H s) h ∧ n' = n) (fun _ _ _ => False) := mX7_goUp htr hG hA hO 
theorem nX7_eraseCells {E : pw_E} (htr : E.1.stackTraces = false) {h : pz_H} {n : Nat} {w H : Int} {N NH : Nat} {I : Nat → Nat} {s : zSt} (hG : geo w H N NH) (hA : zAt w H N NH I s h) (hO : zOk w H s) {k : Int} (hk : 0 ≤ k ∧ k ≤ 1000) : pw_M E yX7_eraseCells YX7_eraseCells (rmD 3 0 0) [.ref (I 0), .int (zI k)] h n (fun r h' n' => r = none ∧ h' = zP w H N NH I (zEraCells w H k s) h ∧ n' = n) (fun _ _ _ => False) := mX7_eraseCells htr hG hA hO (by omega) hk
theorem nX7_insertCells {E : pw_E} (htr : E.1.stackTraces = false) {h : pz_H} {n : Nat} {w H : Int} {N NH : Nat} {I : Nat → Nat} {s : zSt} (hG : geo w H N NH) (hA : zAt w H N NH I s h) (hO : zOk w H s) {k : Int} (hk : 0 ≤ k ∧ k ≤ 1000) : pw_M E yX7_insertCells YX7_insertCells (rmD 3 0 0) [.ref (I 0), .int (zI k)] h n (fun r h' n' => r = none ∧ h' = zP w H N NH I (zInsCells w H k s) h ∧ n' = n) (fun _ _ _ => False) := mX7_insertCells htr hG hA hO (by omega) hk
theorem nX7_deleteCells {E : pw_E} (htr : E.1.stackTraces = false) {h : pz_H} {n : Nat} {w H : Int} {N NH : Nat} {I : Nat → Nat} {s : zSt} (hG : geo w H N NH) (hA : zAt w H N NH I s h) (hO : zOk w H s) {k : Int} (hk : 0 ≤ k ∧ k ≤ 1000) : pw_M E yX7_deleteCells YX7_deleteCells (rmD 3 0 0) [.ref (I 0), .int (zI k)] h n (fun r h' n' => r = none ∧ h' = zP w H N NH I (zDelCells w H k s) h ∧ n' = n) (fun _ _ _ => False) := mX7_deleteCells htr hG hA hO (by omega) hk
theorem nX7_scrollUp {E : pw_E} (htr : E.1.stackTraces = false) {h : pz_H} {n : Nat} {w H : Int} {N NH : Nat} {I : Nat → Nat} {s : zSt} (hG : geo w H N NH) (hA : zAt w H N NH I s h) (hO : zOk w H s) {k : Int} (hk : 0 ≤ k ∧ k ≤ 1000) : pw_M E yX7_scrollUp YX7_scrollUp (rmD 5 0 0) [.ref (I 0), .int (zI k)] h n (fun r h' n' => r = none ∧ h' = zP w H N NH I (zScrollUp w H NH k s) h ∧ n' = n) (fun _ _ _ => False) := mX7_scrollUp htr hG hA hO (by omega) hk
theorem nX7_scrollDown {E : pw_E} (htr : E.1.stackTraces = false) {h : pz_H} {n : Nat} {w H : Int} {N NH : Nat} {I : Nat → Nat} {s : zSt} (hG : geo w H N NH) (hA : zAt w H N NH I s h) (hO : zOk w H s) {k : Int} (hk : 0 ≤ k ∧ k ≤ 1000) : pw_M E yX7_scrollDown YX7_scrollDown (rmD 4 0 0) [.ref (I 0), .int (zI k)] h n (fun r h' n' => r = none ∧ h' = zP w H N NH I (zScrollDown w H k s) h ∧ n' = n) (fun _ _ _ => False) := mX7_scrollDown htr hG hA hO (by omega) hk
theorem nX7_insertRows {E : pw_E} (htr : E.1.stackTraces = false) {h : pz_H} {n : Nat} {w H : Int} {N NH : Nat} {I : Nat → Nat} {s : zSt} (hG : geo w H N NH) (hA : zAt w H N NH I s h) (hO : zOk w H s) {k : Int} (hk : 0 ≤ k ∧ k ≤ 1000) : pw_M E yX7_insertRows YX7_insertRows (rmD 4 0 0) [.ref (I 0), .int (zI k)] h n (fun r h' n' => r = none ∧ h' = zP w H N NH I (zInsRows w H k s) h ∧ n' = n) (fun _ _ _ => False) := mX7_insertRows htr hG hA hO (by omega) hk
theorem nX7_deleteRows {E : pw_E} (htr : E.1.stackTraces = false) {h : pz_H} {n : Nat} {w H : Int} {N NH : Nat} {I : Nat → Nat} {s : zSt} (hG : geo w H N NH) (hA : zAt w H N NH I s h) (hO : zOk w H s) {k : Int} (hk : 0 ≤ k ∧ k ≤ 1000) : pw_M E yX7_deleteRows YX7_deleteRows (rmD 4 0 0) [.ref (I 0), .int (zI k)] h n (fun r h' n' => r = none ∧ h' = zP w H N NH I (zDelRows w H k s) h ∧ n' = n) (fun _ _ _ => False) := mX7_deleteRows htr hG hA hO (by omega) hk
theorem nX7_erase {E : pw_E} (htr : E.1.stackTraces = false) {h : pz_H} {n : Nat} {w H : Int} {N NH : Nat} {I : Nat → Nat} {s : zSt} (hG : geo w H N NH) (hA : zAt w H N NH I s h) (hO : zOk w H s) {k : Int} (hk : 0 ≤ k ∧ k ≤ 1000) : pw_M E yX7_erase YX7_erase (rmD 4 0 0) [.ref (I 0), .int (zI k)] h n (fun r h' n' => r = none ∧ h' = zP w H N NH I (zErase w H k s) h ∧ n' = n) (fun _ _ _ => False) := mX7_erase htr hG hA hO (by omega) hk
theorem nX7_eraseInRow {E : pw_E} (htr : E.1.stackTraces = false) {h : pz_H} {n : Nat} {w H : Int} {N NH : Nat} {I : Nat → Nat} {s : zSt} (hG : geo w H N NH) (hA : zAt w H N NH I s h) (hO : zOk w H s) {k : Int} (hk : 0 ≤ k ∧ k ≤ 1000) : pw_M E yX7_eraseInRow YX7_eraseInRow (rmD 3 0 0) [.ref (I 0), .int (zI k)] h n (fun r h' n' => r = none ∧ h' = zP w H N NH I (zErow w H k s) h ∧ n' = n) (fun _ _ _ => False) := mX7_eraseInRow htr hG hA hO (by omega)
theorem nX7_setRegion {E : pw_E} (htr : E.1.stackTraces = false) {h : pz_H} {n : Nat} {w H : Int} {N NH : Nat} {I : Nat → Nat} {s : zSt} (hG : geo w H N NH) (hA : zAt w H N NH I s h) (hO : zOk w H s) {a b : Int} (ha : 1 ≤ a ∧ a ≤ 1000) (hb : 0 ≤ b ∧ b ≤ 1000) : pw_M E yX7_setRegion YX7_setRegion (rmD 3 0 0) [.ref (I 0), .int (zI a), .int (zI b)] h n (fun r h' n' => r = none ∧ h' = zP w H N NH I (zRegion a b s) h ∧ n' = n) (fun _ _ _ => False) := mX7_setRegion htr hG hA hO (by omega) (by omega) ha hb
theorem nX7_showOther {E : pw_E} (htr : E.1.stackTraces = false) {h : pz_H} {n : Nat} {w H : Int} {N NH : Nat} {I : Nat → Nat} {s : zSt} (hG : geo w H N NH) (hA : zAt w H N NH I s h) (hO : zOk w H s) {on : Int} (hon : 0 ≤ on ∧ on ≤ 1) : pw_M E yX7_showOther YX7_showOther (rmD 4 0 0) [.ref (I 0), .int (zI on)] h n (fun r h' n' => r = none ∧ h' = zP w H N NH I (zShow w H on s) h ∧ n' = n) (fun _ _ _ => False) := mX7_showOther htr hG hA hO (by omega) hon
theorem nX7_write {E : pw_E} (htr : E.1.stackTraces = false) {h : pz_H} {n : Nat} {w H : Int} {N NH : Nat} {I : Nat → Nat} {s : zSt} (hG : geo w H N NH) (hA : zAt w H N NH I s h) (hO : zOk w H s) {ch : Int} (hch : 0 ≤ ch ∧ ch ≤ 127) : pw_M E yX7_write YX7_write (rmD 7 0 0) [.ref (I 0), .int (zI ch)] h n (fun r h' n' => r = none ∧ h' = zP w H N NH I (zWrite w H NH ch s) h ∧ n' = n) (fun _ _ _ => False) := mX7_write htr hG hA hO (by omega) hch
theorem nX7_reset {E : pw_E} (htr : E.1.stackTraces = false) {h : pz_H} {n : Nat} {w H : Int} {N NH : Nat} {I : Nat → Nat} {s : zSt} (hG : geo w H N NH) (hA : zAt w H N NH I s h) (oT : hOk s.2.2.2.1) (o4 : 0 ≤ s.1 4 ∧ s.1 4 ≤ 1000) : pw_M E yX7_reset YX7_reset (rmD 4 0 0) [.ref (I 0)] h n (fun r h' n' => r = none ∧ h' = zP w H N NH I (zReset w H s) h ∧ n' = n) (fun _ _ _ => False) := mX7_reset htr hG hA oT o4
set_option maxHeartbeats 4000000 in
set_option maxRecDepth 100000 in
/-- mX6_withColour -/
theorem mX6_withColour {E : pw_E} (htr : E.1.stackTraces = false) {h : pz_H} {n : Nat} {p c : Int} (hp : 0 ≤ p ∧ p < 4096) (hc : 0 ≤ c ∧ c < 16) : pw_M E yX6_withColour YX6_withColour (rmD 0 0 0) [.int (zI p), .int (zI c)] h n (fun r h' n' => r = some (.int (zI (pCol p c))) ∧ h' = h ∧ n' = n) (fun _ _ _ => False) := by
  refine pw_M_of (lv := [some (.int (zI (p))), some (.int (zI (c)))]) (by decide) rfl rfl htr (nle rfl) rfl (fun L => ?_)
  refine pw_iload_n dX6_withColour_0 rfl ?_
  refine pw_sipush (v := zI (-241)) dX6_withColour_1 (by decide) ?_
  refine pw_iand dX6_withColour_4 ?_
  refine pw_iload_n dX6_withColour_5 rfl ?_
  refine pw_iconst (v := zI (4)) dX6_withColour_6 (by decide) ?_
  refine pw_ishl dX6_withColour_7 ?_
  refine pw_ior dX6_withColour_8 ?_
  rw [zCol hp hc]
  exact pw_iret dX6_withColour_9 rfl (nle rfl) (nle rfl) ⟨rfl, rfl, rfl⟩
set_option maxHeartbeats 4000000 in
set_option maxRecDepth 100000 in
/-- mX6_withGround -/
theorem mX6_withGround {E : pw_E} (htr : E.1.stackTraces = false) {h : pz_H} {n : Nat} {p c : Int} (hp : 0 ≤ p ∧ p < 4096) (hc : 0 ≤ c ∧ c < 16) : pw_M E yX6_withGround YX6_withGround (rmD 0 0 0) [.int (zI p), .int (zI c)] h n (fun r h' n' => r = some (.int (zI (pGnd p c))) ∧ h' = h ∧ n' = n) (fun _ _ _ => False) := by
  refine pw_M_of (lv := [some (.int (zI (p))), some (.int (zI (c)))]) (by decide) rfl rfl htr (nle rfl) rfl (fun L => ?_)
  refine pw_iload_n dX6_withGround_0 rfl ?_
  refine pw_sipush (v := zI (-3841)) dX6_withGround_1 (by decide) ?_
  refine pw_iand dX6_withGround_4 ?_
  refine pw_iload_n dX6_withGround_5 rfl ?_
  refine pw_bipush (v := zI (8)) dX6_withGround_6 (by decide) ?_
  refine pw_ishl dX6_withGround_8 ?_
  refine pw_ior dX6_withGround_9 ?_
  rw [zGnd hp hc]
  exact pw_iret dX6_withGround_10 rfl (nle rfl) (nle rfl) ⟨rfl, rfl, rfl⟩
set_option maxHeartbeats 4000000 in
set_option maxRecDepth 100000 in
/-- Reader.changedPen(p, c) -/
theorem mX6_changedPen {E : pw_E} (htr : E.1.stackTraces = false) {h : pz_H} {n : Nat} {p c : Int} (hp : 0 ≤ p ∧ p < 4096) (hc : 0 ≤ c ∧ c ≤ 999) : pw_M E yX6_changedPen YX6_changedPen (rmD 1 0 0) [.int (zI p), .int (zI c)] h n (fun r h' n' => r = some (.int (zI (pChg p c))) ∧ h' = h ∧ n' = n) (fun _ _ _ => False) := by
  refine pw_M_of (lv := [some (.int (zI (p))), some (.int (zI (c)))]) (by decide) rfl rfl htr (nle rfl) rfl (fun L => ?_)
  refine pw_iload_n dX6_changedPen_0 rfl ?_
  refine pw_bipush (v := zI (30)) dX6_changedPen_1 (by decide) ?_
  refine pw_icmp_lt (tgt := 21) dX6_changedPen_3 rfl (by omega) (by omega) (fun c3 => ?_) (fun c3 => ?_)
  ·
    refine pw_iload_n dX6_changedPen_21 rfl ?_
    refine pw_bipush (v := zI (40)) dX6_changedPen_22 (by decide) ?_
    refine pw_icmp_lt (tgt := 42) dX6_changedPen_24 rfl (by omega) (by omega) (fun c24 => ?_) (fun c24 => ?_)
    ·
      refine pw_iload_n dX6_changedPen_42 rfl ?_
      by_cases k43_0 : (0 : Int) = c
      ·
        refine pw_lookup (off := 81) (tgt := 124) dX6_changedPen_43 (by decide) (by omega) (by rw [← k43_0]; decide) rfl ?_
        refine pw_iconst (v := zI (0)) dX6_changedPen_124 (by decide) ?_
        refine pw_goto (tgt := 184) dX6_changedPen_125 rfl ?_
        exact pw_iret dX6_changedPen_184 rfl (nle rfl) (nle rfl) ⟨by unfold pChg; first | (exfalso; omega) | (repeat (first | rw [if_pos (by omega)] | rw [if_neg (by omega)])), rfl, rfl⟩
      by_cases k43_1 : (1 : Int) = c
      ·
        refine pw_lookup (off := 85) (tgt := 128) dX6_changedPen_43 (by decide) (by omega) (by rw [← k43_1]; decide) rfl ?_
        refine pw_iload_n dX6_changedPen_128 rfl ?_
        refine pw_iconst (v := zI (1)) dX6_changedPen_129 (by decide) ?_
        refine pw_ior dX6_changedPen_130 ?_
        rw [zOr1 hp]
        refine pw_goto (tgt := 184) dX6_changedPen_131 rfl ?_
        exact pw_iret dX6_changedPen_184 rfl (nle rfl) (nle rfl) ⟨by unfold pChg; first | (exfalso; omega) | (repeat (first | rw [if_pos (by omega)] | rw [if_neg (by omega)])), rfl, rfl⟩
      by_cases k43_4 : (4 : Int) = c
      ·
        refine pw_lookup (off := 91) (tgt := 134) dX6_changedPen_43 (by decide) (by omega) (by rw [← k43_4]; decide) rfl ?_
        refine pw_iload_n dX6_changedPen_134 rfl ?_
        refine pw_iconst (v := zI (2)) dX6_changedPen_135 (by decide) ?_
        refine pw_ior dX6_changedPen_136 ?_
        rw [zOr2 hp]
        refine pw_goto (tgt := 184) dX6_changedPen_137 rfl ?_
        exact pw_iret dX6_changedPen_184 rfl (nle rfl) (nle rfl) ⟨by unfold pChg; first | (exfalso; omega) | (repeat (first | rw [if_pos (by omega)] | rw [if_neg (by omega)])), rfl, rfl⟩
      by_cases k43_7 : (7 : Int) = c
      ·
        refine pw_lookup (off := 97) (tgt := 140) dX6_changedPen_43 (by decide) (by omega) (by rw [← k43_7]; decide) rfl ?_
        refine pw_iload_n dX6_changedPen_140 rfl ?_
        refine pw_iconst (v := zI (4)) dX6_changedPen_141 (by decide) ?_
        refine pw_ior dX6_changedPen_142 ?_
        rw [zOr4 hp]
        refine pw_goto (tgt := 184) dX6_changedPen_143 rfl ?_
        exact pw_iret dX6_changedPen_184 rfl (nle rfl) (nle rfl) ⟨by unfold pChg; first | (exfalso; omega) | (repeat (first | rw [if_pos (by omega)] | rw [if_neg (by omega)])), rfl, rfl⟩
      by_cases k43_22 : (22 : Int) = c
      ·
        refine pw_lookup (off := 103) (tgt := 146) dX6_changedPen_43 (by decide) (by omega) (by rw [← k43_22]; decide) rfl ?_
        refine pw_iload_n dX6_changedPen_146 rfl ?_
        refine pw_bipush (v := zI (-2)) dX6_changedPen_147 (by decide) ?_
        refine pw_iand dX6_changedPen_149 ?_
        rw [zAn1 hp]
        refine pw_goto (tgt := 184) dX6_changedPen_150 rfl ?_
        exact pw_iret dX6_changedPen_184 rfl (nle rfl) (nle rfl) ⟨by unfold pChg; first | (exfalso; omega) | (repeat (first | rw [if_pos (by omega)] | rw [if_neg (by omega)])), rfl, rfl⟩
      by_cases k43_24 : (24 : Int) = c
      ·
        refine pw_lookup (off := 110) (tgt := 153) dX6_changedPen_43 (by decide) (by omega) (by rw [← k43_24]; decide) rfl ?_
        refine pw_iload_n dX6_changedPen_153 rfl ?_
        refine pw_bipush (v := zI (-3)) dX6_changedPen_154 (by decide) ?_
        refine pw_iand dX6_changedPen_156 ?_
        rw [zAn2 hp]
        refine pw_goto (tgt := 184) dX6_changedPen_157 rfl ?_
        exact pw_iret dX6_changedPen_184 rfl (nle rfl) (nle rfl) ⟨by unfold pChg; first | (exfalso; omega) | (repeat (first | rw [if_pos (by omega)] | rw [if_neg (by omega)])), rfl, rfl⟩
      by_cases k43_27 : (27 : Int) = c
      ·
        refine pw_lookup (off := 117) (tgt := 160) dX6_changedPen_43 (by decide) (by omega) (by rw [← k43_27]; decide) rfl ?_
        refine pw_iload_n dX6_changedPen_160 rfl ?_
        refine pw_bipush (v := zI (-5)) dX6_changedPen_161 (by decide) ?_
        refine pw_iand dX6_changedPen_163 ?_
        rw [zAn4 hp]
        refine pw_goto (tgt := 184) dX6_changedPen_164 rfl ?_
        exact pw_iret dX6_changedPen_184 rfl (nle rfl) (nle rfl) ⟨by unfold pChg; first | (exfalso; omega) | (repeat (first | rw [if_pos (by omega)] | rw [if_neg (by omega)])), rfl, rfl⟩
      by_cases k43_39 : (39 : Int) = c
      ·
        refine pw_lookup (off := 124) (tgt := 167) dX6_changedPen_43 (by decide) (by omega) (by rw [← k43_39]; decide) rfl ?_
        refine pw_iload_n dX6_changedPen_167 rfl ?_
        refine pw_iconst (v := zI (0)) dX6_changedPen_168 (by decide) ?_
        refine pw_callS (As := [.int (zI (p)), .int (zI (0))]) (rm := rmD 0 0 0) (mX6_withColour htr hp (by omega)) rfl ywX6_withColour rfl cwX6_153 ⟨nle rfl, nle rfl⟩ (nle rfl) ⟨nle rfl, nle rfl⟩ dX6_changedPen_169 ?_ (fun _ _ _ z => z.elim)
        intro r2 h2 n2 hq _
        rw [hq.1, hq.2.1, hq.2.2]
        show pw E YX6_changedPen _ _ 0 0 172 [some (.int (zI (p))), some (.int (zI (c)))] [.int (zI (pCol p (0)))] h n
        refine pw_goto (tgt := 184) dX6_changedPen_172 rfl ?_
        exact pw_iret dX6_changedPen_184 rfl (nle rfl) (nle rfl) ⟨by unfold pChg; first | (exfalso; omega) | (repeat (first | rw [if_pos (by omega)] | rw [if_neg (by omega)])), rfl, rfl⟩
      by_cases k43_49 : (49 : Int) = c
      ·
        refine pw_lookup (off := 132) (tgt := 175) dX6_changedPen_43 (by decide) (by omega) (by rw [← k43_49]; decide) rfl ?_
        refine pw_iload_n dX6_changedPen_175 rfl ?_
        refine pw_iconst (v := zI (0)) dX6_changedPen_176 (by decide) ?_
        refine pw_callS (As := [.int (zI (p)), .int (zI (0))]) (rm := rmD 0 0 0) (mX6_withGround htr hp (by omega)) rfl ywX6_withGround rfl cwX6_156 ⟨nle rfl, nle rfl⟩ (nle rfl) ⟨nle rfl, nle rfl⟩ dX6_changedPen_177 ?_ (fun _ _ _ z => z.elim)
        intro r2 h2 n2 hq _
        rw [hq.1, hq.2.1, hq.2.2]
        show pw E YX6_changedPen _ _ 0 0 180 [some (.int (zI (p))), some (.int (zI (c)))] [.int (zI (pGnd p (0)))] h n
        refine pw_goto (tgt := 184) dX6_changedPen_180 rfl ?_
        exact pw_iret dX6_changedPen_184 rfl (nle rfl) (nle rfl) ⟨by unfold pChg; first | (exfalso; omega) | (repeat (first | rw [if_pos (by omega)] | rw [if_neg (by omega)])), rfl, rfl⟩
      refine pw_lookup (off := 140) (tgt := 183) dX6_changedPen_43 (by decide) (by omega) (by show Op.lookupswitch.offset [(0, 81), (1, 85), (4, 91), (7, 97), (22, 103), (24, 110), (27, 117), (39, 124), (49, 132)] 140 (c) = 140; simp only [Op.lookupswitch.offset_cons, Op.lookupswitch.offset_nil, if_neg k43_0, if_neg k43_1, if_neg k43_4, if_neg k43_7, if_neg k43_22, if_neg k43_24, if_neg k43_27, if_neg k43_39, if_neg k43_49]) rfl ?_
      refine pw_iload_n dX6_changedPen_183 rfl ?_
      exact pw_iret dX6_changedPen_184 rfl (nle rfl) (nle rfl) ⟨by unfold pChg; first | (exfalso; omega) | (repeat (first | rw [if_pos (by omega)] | rw [if_neg (by omega)])), rfl, rfl⟩
    ·
      refine pw_iload_n dX6_changedPen_27 rfl ?_
      refine pw_bipush (v := zI (47)) dX6_changedPen_28 (by decide) ?_
      refine pw_icmp_gt (tgt := 42) dX6_changedPen_30 rfl (by omega) (by omega) (fun c30 => ?_) (fun c30 => ?_)
      ·
        refine pw_iload_n dX6_changedPen_42 rfl ?_
        by_cases k43_0 : (0 : Int) = c
        ·
          refine pw_lookup (off := 81) (tgt := 124) dX6_changedPen_43 (by decide) (by omega) (by rw [← k43_0]; decide) rfl ?_
          refine pw_iconst (v := zI (0)) dX6_changedPen_124 (by decide) ?_
          refine pw_goto (tgt := 184) dX6_changedPen_125 rfl ?_
          exact pw_iret dX6_changedPen_184 rfl (nle rfl) (nle rfl) ⟨by unfold pChg; first | (exfalso; omega) | (repeat (first | rw [if_pos (by omega)] | rw [if_neg (by omega)])), rfl, rfl⟩
        by_cases k43_1 : (1 : Int) = c
        ·
          refine pw_lookup (off := 85) (tgt := 128) dX6_changedPen_43 (by decide) (by omega) (by rw [← k43_1]; decide) rfl ?_
          refine pw_iload_n dX6_changedPen_128 rfl ?_
          refine pw_iconst (v := zI (1)) dX6_changedPen_129 (by decide) ?_
          refine pw_ior dX6_changedPen_130 ?_
          rw [zOr1 hp]
          refine pw_goto (tgt := 184) dX6_changedPen_131 rfl ?_
          exact pw_iret dX6_changedPen_184 rfl (nle rfl) (nle rfl) ⟨by unfold pChg; first | (exfalso; omega) | (repeat (first | rw [if_pos (by omega)] | rw [if_neg (by omega)])), rfl, rfl⟩
        by_cases k43_4 : (4 : Int) = c
        ·
          refine pw_lookup (off := 91) (tgt := 134) dX6_changedPen_43 (by decide) (by omega) (by rw [← k43_4]; decide) rfl ?_
          refine pw_iload_n dX6_changedPen_134 rfl ?_
          refine pw_iconst (v := zI (2)) dX6_changedPen_135 (by decide) ?_
          refine pw_ior dX6_changedPen_136 ?_
          rw [zOr2 hp]
          refine pw_goto (tgt := 184) dX6_changedPen_137 rfl ?_
          exact pw_iret dX6_changedPen_184 rfl (nle rfl) (nle rfl) ⟨by unfold pChg; first | (exfalso; omega) | (repeat (first | rw [if_pos (by omega)] | rw [if_neg (by omega)])), rfl, rfl⟩
        by_cases k43_7 : (7 : Int) = c
        ·
          refine pw_lookup (off := 97) (tgt := 140) dX6_changedPen_43 (by decide) (by omega) (by rw [← k43_7]; decide) rfl ?_
          refine pw_iload_n dX6_changedPen_140 rfl ?_
          refine pw_iconst (v := zI (4)) dX6_changedPen_141 (by decide) ?_
          refine pw_ior dX6_changedPen_142 ?_
          rw [zOr4 hp]
          refine pw_goto (tgt := 184) dX6_changedPen_143 rfl ?_
          exact pw_iret dX6_changedPen_184 rfl (nle rfl) (nle rfl) ⟨by unfold pChg; first | (exfalso; omega) | (repeat (first | rw [if_pos (by omega)] | rw [if_neg (by omega)])), rfl, rfl⟩
        by_cases k43_22 : (22 : Int) = c
        ·
          refine pw_lookup (off := 103) (tgt := 146) dX6_changedPen_43 (by decide) (by omega) (by rw [← k43_22]; decide) rfl ?_
          refine pw_iload_n dX6_changedPen_146 rfl ?_
          refine pw_bipush (v := zI (-2)) dX6_changedPen_147 (by decide) ?_
          refine pw_iand dX6_changedPen_149 ?_
          rw [zAn1 hp]
          refine pw_goto (tgt := 184) dX6_changedPen_150 rfl ?_
          exact pw_iret dX6_changedPen_184 rfl (nle rfl) (nle rfl) ⟨by unfold pChg; first | (exfalso; omega) | (repeat (first | rw [if_pos (by omega)] | rw [if_neg (by omega)])), rfl, rfl⟩
        by_cases k43_24 : (24 : Int) = c
        ·
          refine pw_lookup (off := 110) (tgt := 153) dX6_changedPen_43 (by decide) (by omega) (by rw [← k43_24]; decide) rfl ?_
          refine pw_iload_n dX6_changedPen_153 rfl ?_
          refine pw_bipush (v := zI (-3)) dX6_changedPen_154 (by decide) ?_
          refine pw_iand dX6_changedPen_156 ?_
          rw [zAn2 hp]
          refine pw_goto (tgt := 184) dX6_changedPen_157 rfl ?_
          exact pw_iret dX6_changedPen_184 rfl (nle rfl) (nle rfl) ⟨by unfold pChg; first | (exfalso; omega) | (repeat (first | rw [if_pos (by omega)] | rw [if_neg (by omega)])), rfl, rfl⟩
        by_cases k43_27 : (27 : Int) = c
        ·
          refine pw_lookup (off := 117) (tgt := 160) dX6_changedPen_43 (by decide) (by omega) (by rw [← k43_27]; decide) rfl ?_
          refine pw_iload_n dX6_changedPen_160 rfl ?_
          refine pw_bipush (v := zI (-5)) dX6_changedPen_161 (by decide) ?_
          refine pw_iand dX6_changedPen_163 ?_
          rw [zAn4 hp]
          refine pw_goto (tgt := 184) dX6_changedPen_164 rfl ?_
          exact pw_iret dX6_changedPen_184 rfl (nle rfl) (nle rfl) ⟨by unfold pChg; first | (exfalso; omega) | (repeat (first | rw [if_pos (by omega)] | rw [if_neg (by omega)])), rfl, rfl⟩
        by_cases k43_39 : (39 : Int) = c
        ·
          refine pw_lookup (off := 124) (tgt := 167) dX6_changedPen_43 (by decide) (by omega) (by rw [← k43_39]; decide) rfl ?_
          refine pw_iload_n dX6_changedPen_167 rfl ?_
          refine pw_iconst (v := zI (0)) dX6_changedPen_168 (by decide) ?_
          refine pw_callS (As := [.int (zI (p)), .int (zI (0))]) (rm := rmD 0 0 0) (mX6_withColour htr hp (by omega)) rfl ywX6_withColour rfl cwX6_153 ⟨nle rfl, nle rfl⟩ (nle rfl) ⟨nle rfl, nle rfl⟩ dX6_changedPen_169 ?_ (fun _ _ _ z => z.elim)
          intro r2 h2 n2 hq _
          rw [hq.1, hq.2.1, hq.2.2]
          show pw E YX6_changedPen _ _ 0 0 172 [some (.int (zI (p))), some (.int (zI (c)))] [.int (zI (pCol p (0)))] h n
          refine pw_goto (tgt := 184) dX6_changedPen_172 rfl ?_
          exact pw_iret dX6_changedPen_184 rfl (nle rfl) (nle rfl) ⟨by unfold pChg; first | (exfalso; omega) | (repeat (first | rw [if_pos (by omega)] | rw [if_neg (by omega)])), rfl, rfl⟩
        by_cases k43_49 : (49 : Int) = c
        ·
          refine pw_lookup (off := 132) (tgt := 175) dX6_changedPen_43 (by decide) (by omega) (by rw [← k43_49]; decide) rfl ?_
          refine pw_iload_n dX6_changedPen_175 rfl ?_
          refine pw_iconst (v := zI (0)) dX6_changedPen_176 (by decide) ?_
          refine pw_callS (As := [.int (zI (p)), .int (zI (0))]) (rm := rmD 0 0 0) (mX6_withGround htr hp (by omega)) rfl ywX6_withGround rfl cwX6_156 ⟨nle rfl, nle rfl⟩ (nle rfl) ⟨nle rfl, nle rfl⟩ dX6_changedPen_177 ?_ (fun _ _ _ z => z.elim)
          intro r2 h2 n2 hq _
          rw [hq.1, hq.2.1, hq.2.2]
          show pw E YX6_changedPen _ _ 0 0 180 [some (.int (zI (p))), some (.int (zI (c)))] [.int (zI (pGnd p (0)))] h n
          refine pw_goto (tgt := 184) dX6_changedPen_180 rfl ?_
          exact pw_iret dX6_changedPen_184 rfl (nle rfl) (nle rfl) ⟨by unfold pChg; first | (exfalso; omega) | (repeat (first | rw [if_pos (by omega)] | rw [if_neg (by omega)])), rfl, rfl⟩
        refine pw_lookup (off := 140) (tgt := 183) dX6_changedPen_43 (by decide) (by omega) (by show Op.lookupswitch.offset [(0, 81), (1, 85), (4, 91), (7, 97), (22, 103), (24, 110), (27, 117), (39, 124), (49, 132)] 140 (c) = 140; simp only [Op.lookupswitch.offset_cons, Op.lookupswitch.offset_nil, if_neg k43_0, if_neg k43_1, if_neg k43_4, if_neg k43_7, if_neg k43_22, if_neg k43_24, if_neg k43_27, if_neg k43_39, if_neg k43_49]) rfl ?_
        refine pw_iload_n dX6_changedPen_183 rfl ?_
        exact pw_iret dX6_changedPen_184 rfl (nle rfl) (nle rfl) ⟨by unfold pChg; first | (exfalso; omega) | (repeat (first | rw [if_pos (by omega)] | rw [if_neg (by omega)])), rfl, rfl⟩
      ·
        refine pw_iload_n dX6_changedPen_33 rfl ?_
        refine pw_iload_n dX6_changedPen_34 rfl ?_
        refine pw_bipush (v := zI (39)) dX6_changedPen_35 (by decide) ?_
        refine pw_zisub dX6_changedPen_37 ?_
        refine pw_callS (As := [.int (zI (p)), .int (zI (c - 39))]) (rm := rmD 0 0 0) (mX6_withGround htr hp (by omega)) rfl ywX6_withGround rfl cwX6_156 ⟨nle rfl, nle rfl⟩ (nle rfl) ⟨nle rfl, nle rfl⟩ dX6_changedPen_38 ?_ (fun _ _ _ z => z.elim)
        intro r2 h2 n2 hq _
        rw [hq.1, hq.2.1, hq.2.2]
        show pw E YX6_changedPen _ _ 0 0 41 [some (.int (zI (p))), some (.int (zI (c)))] [.int (zI (pGnd p (c - 39)))] h n
        exact pw_iret dX6_changedPen_41 rfl (nle rfl) (nle rfl) ⟨by unfold pChg; first | (exfalso; omega) | (repeat (first | rw [if_pos (by omega)] | rw [if_neg (by omega)])), rfl, rfl⟩
  ·
    refine pw_iload_n dX6_changedPen_6 rfl ?_
    refine pw_bipush (v := zI (37)) dX6_changedPen_7 (by decide) ?_
    refine pw_icmp_gt (tgt := 21) dX6_changedPen_9 rfl (by omega) (by omega) (fun c9 => ?_) (fun c9 => ?_)
    ·
      refine pw_iload_n dX6_changedPen_21 rfl ?_
      refine pw_bipush (v := zI (40)) dX6_changedPen_22 (by decide) ?_
      refine pw_icmp_lt (tgt := 42) dX6_changedPen_24 rfl (by omega) (by omega) (fun c24 => ?_) (fun c24 => ?_)
      ·
        refine pw_iload_n dX6_changedPen_42 rfl ?_
        by_cases k43_0 : (0 : Int) = c
        ·
          refine pw_lookup (off := 81) (tgt := 124) dX6_changedPen_43 (by decide) (by omega) (by rw [← k43_0]; decide) rfl ?_
          refine pw_iconst (v := zI (0)) dX6_changedPen_124 (by decide) ?_
          refine pw_goto (tgt := 184) dX6_changedPen_125 rfl ?_
          exact pw_iret dX6_changedPen_184 rfl (nle rfl) (nle rfl) ⟨by unfold pChg; first | (exfalso; omega) | (repeat (first | rw [if_pos (by omega)] | rw [if_neg (by omega)])), rfl, rfl⟩
        by_cases k43_1 : (1 : Int) = c
        ·
          refine pw_lookup (off := 85) (tgt := 128) dX6_changedPen_43 (by decide) (by omega) (by rw [← k43_1]; decide) rfl ?_
          refine pw_iload_n dX6_changedPen_128 rfl ?_
          refine pw_iconst (v := zI (1)) dX6_changedPen_129 (by decide) ?_
          refine pw_ior dX6_changedPen_130 ?_
          rw [zOr1 hp]
          refine pw_goto (tgt := 184) dX6_changedPen_131 rfl ?_
          exact pw_iret dX6_changedPen_184 rfl (nle rfl) (nle rfl) ⟨by unfold pChg; first | (exfalso; omega) | (repeat (first | rw [if_pos (by omega)] | rw [if_neg (by omega)])), rfl, rfl⟩
        by_cases k43_4 : (4 : Int) = c
        ·
          refine pw_lookup (off := 91) (tgt := 134) dX6_changedPen_43 (by decide) (by omega) (by rw [← k43_4]; decide) rfl ?_
          refine pw_iload_n dX6_changedPen_134 rfl ?_
          refine pw_iconst (v := zI (2)) dX6_changedPen_135 (by decide) ?_
          refine pw_ior dX6_changedPen_136 ?_
          rw [zOr2 hp]
          refine pw_goto (tgt := 184) dX6_changedPen_137 rfl ?_
          exact pw_iret dX6_changedPen_184 rfl (nle rfl) (nle rfl) ⟨by unfold pChg; first | (exfalso; omega) | (repeat (first | rw [if_pos (by omega)] | rw [if_neg (by omega)])), rfl, rfl⟩
        by_cases k43_7 : (7 : Int) = c
        ·
          refine pw_lookup (off := 97) (tgt := 140) dX6_changedPen_43 (by decide) (by omega) (by rw [← k43_7]; decide) rfl ?_
          refine pw_iload_n dX6_changedPen_140 rfl ?_
          refine pw_iconst (v := zI (4)) dX6_changedPen_141 (by decide) ?_
          refine pw_ior dX6_changedPen_142 ?_
          rw [zOr4 hp]
          refine pw_goto (tgt := 184) dX6_changedPen_143 rfl ?_
          exact pw_iret dX6_changedPen_184 rfl (nle rfl) (nle rfl) ⟨by unfold pChg; first | (exfalso; omega) | (repeat (first | rw [if_pos (by omega)] | rw [if_neg (by omega)])), rfl, rfl⟩
        by_cases k43_22 : (22 : Int) = c
        ·
          refine pw_lookup (off := 103) (tgt := 146) dX6_changedPen_43 (by decide) (by omega) (by rw [← k43_22]; decide) rfl ?_
          refine pw_iload_n dX6_changedPen_146 rfl ?_
          refine pw_bipush (v := zI (-2)) dX6_changedPen_147 (by decide) ?_
          refine pw_iand dX6_changedPen_149 ?_
          rw [zAn1 hp]
          refine pw_goto (tgt := 184) dX6_changedPen_150 rfl ?_
          exact pw_iret dX6_changedPen_184 rfl (nle rfl) (nle rfl) ⟨by unfold pChg; first | (exfalso; omega) | (repeat (first | rw [if_pos (by omega)] | rw [if_neg (by omega)])), rfl, rfl⟩
        by_cases k43_24 : (24 : Int) = c
        ·
          refine pw_lookup (off := 110) (tgt := 153) dX6_changedPen_43 (by decide) (by omega) (by rw [← k43_24]; decide) rfl ?_
          refine pw_iload_n dX6_changedPen_153 rfl ?_
          refine pw_bipush (v := zI (-3)) dX6_changedPen_154 (by decide) ?_
          refine pw_iand dX6_changedPen_156 ?_
          rw [zAn2 hp]
          refine pw_goto (tgt := 184) dX6_changedPen_157 rfl ?_
          exact pw_iret dX6_changedPen_184 rfl (nle rfl) (nle rfl) ⟨by unfold pChg; first | (exfalso; omega) | (repeat (first | rw [if_pos (by omega)] | rw [if_neg (by omega)])), rfl, rfl⟩
        by_cases k43_27 : (27 : Int) = c
        ·
          refine pw_lookup (off := 117) (tgt := 160) dX6_changedPen_43 (by decide) (by omega) (by rw [← k43_27]; decide) rfl ?_
          refine pw_iload_n dX6_changedPen_160 rfl ?_
          refine pw_bipush (v := zI (-5)) dX6_changedPen_161 (by decide) ?_
          refine pw_iand dX6_changedPen_163 ?_
          rw [zAn4 hp]
          refine pw_goto (tgt := 184) dX6_changedPen_164 rfl ?_
          exact pw_iret dX6_changedPen_184 rfl (nle rfl) (nle rfl) ⟨by unfold pChg; first | (exfalso; omega) | (repeat (first | rw [if_pos (by omega)] | rw [if_neg (by omega)])), rfl, rfl⟩
        by_cases k43_39 : (39 : Int) = c
        ·
          refine pw_lookup (off := 124) (tgt := 167) dX6_changedPen_43 (by decide) (by omega) (by rw [← k43_39]; decide) rfl ?_
          refine pw_iload_n dX6_changedPen_167 rfl ?_
          refine pw_iconst (v := zI (0)) dX6_changedPen_168 (by decide) ?_
          refine pw_callS (As := [.int (zI (p)), .int (zI (0))]) (rm := rmD 0 0 0) (mX6_withColour htr hp (by omega)) rfl ywX6_withColour rfl cwX6_153 ⟨nle rfl, nle rfl⟩ (nle rfl) ⟨nle rfl, nle rfl⟩ dX6_changedPen_169 ?_ (fun _ _ _ z => z.elim)
          intro r2 h2 n2 hq _
          rw [hq.1, hq.2.1, hq.2.2]
          show pw E YX6_changedPen _ _ 0 0 172 [some (.int (zI (p))), some (.int (zI (c)))] [.int (zI (pCol p (0)))] h n
          refine pw_goto (tgt := 184) dX6_changedPen_172 rfl ?_
          exact pw_iret dX6_changedPen_184 rfl (nle rfl) (nle rfl) ⟨by unfold pChg; first | (exfalso; omega) | (repeat (first | rw [if_pos (by omega)] | rw [if_neg (by omega)])), rfl, rfl⟩
        by_cases k43_49 : (49 : Int) = c
        ·
          refine pw_lookup (off := 132) (tgt := 175) dX6_changedPen_43 (by decide) (by omega) (by rw [← k43_49]; decide) rfl ?_
          refine pw_iload_n dX6_changedPen_175 rfl ?_
          refine pw_iconst (v := zI (0)) dX6_changedPen_176 (by decide) ?_
          refine pw_callS (As := [.int (zI (p)), .int (zI (0))]) (rm := rmD 0 0 0) (mX6_withGround htr hp (by omega)) rfl ywX6_withGround rfl cwX6_156 ⟨nle rfl, nle rfl⟩ (nle rfl) ⟨nle rfl, nle rfl⟩ dX6_changedPen_177 ?_ (fun _ _ _ z => z.elim)
          intro r2 h2 n2 hq _
          rw [hq.1, hq.2.1, hq.2.2]
          show pw E YX6_changedPen _ _ 0 0 180 [some (.int (zI (p))), some (.int (zI (c)))] [.int (zI (pGnd p (0)))] h n
          refine pw_goto (tgt := 184) dX6_changedPen_180 rfl ?_
          exact pw_iret dX6_changedPen_184 rfl (nle rfl) (nle rfl) ⟨by unfold pChg; first | (exfalso; omega) | (repeat (first | rw [if_pos (by omega)] | rw [if_neg (by omega)])), rfl, rfl⟩
        refine pw_lookup (off := 140) (tgt := 183) dX6_changedPen_43 (by decide) (by omega) (by show Op.lookupswitch.offset [(0, 81), (1, 85), (4, 91), (7, 97), (22, 103), (24, 110), (27, 117), (39, 124), (49, 132)] 140 (c) = 140; simp only [Op.lookupswitch.offset_cons, Op.lookupswitch.offset_nil, if_neg k43_0, if_neg k43_1, if_neg k43_4, if_neg k43_7, if_neg k43_22, if_neg k43_24, if_neg k43_27, if_neg k43_39, if_neg k43_49]) rfl ?_
        refine pw_iload_n dX6_changedPen_183 rfl ?_
        exact pw_iret dX6_changedPen_184 rfl (nle rfl) (nle rfl) ⟨by unfold pChg; first | (exfalso; omega) | (repeat (first | rw [if_pos (by omega)] | rw [if_neg (by omega)])), rfl, rfl⟩
      ·
        refine pw_iload_n dX6_changedPen_27 rfl ?_
        refine pw_bipush (v := zI (47)) dX6_changedPen_28 (by decide) ?_
        refine pw_icmp_gt (tgt := 42) dX6_changedPen_30 rfl (by omega) (by omega) (fun c30 => ?_) (fun c30 => ?_)
        ·
          refine pw_iload_n dX6_changedPen_42 rfl ?_
          by_cases k43_0 : (0 : Int) = c
          ·
            refine pw_lookup (off := 81) (tgt := 124) dX6_changedPen_43 (by decide) (by omega) (by rw [← k43_0]; decide) rfl ?_
            refine pw_iconst (v := zI (0)) dX6_changedPen_124 (by decide) ?_
            refine pw_goto (tgt := 184) dX6_changedPen_125 rfl ?_
            exact pw_iret dX6_changedPen_184 rfl (nle rfl) (nle rfl) ⟨by unfold pChg; first | (exfalso; omega) | (repeat (first | rw [if_pos (by omega)] | rw [if_neg (by omega)])), rfl, rfl⟩
          by_cases k43_1 : (1 : Int) = c
          ·
            refine pw_lookup (off := 85) (tgt := 128) dX6_changedPen_43 (by decide) (by omega) (by rw [← k43_1]; decide) rfl ?_
            refine pw_iload_n dX6_changedPen_128 rfl ?_
            refine pw_iconst (v := zI (1)) dX6_changedPen_129 (by decide) ?_
            refine pw_ior dX6_changedPen_130 ?_
            rw [zOr1 hp]
            refine pw_goto (tgt := 184) dX6_changedPen_131 rfl ?_
            exact pw_iret dX6_changedPen_184 rfl (nle rfl) (nle rfl) ⟨by unfold pChg; first | (exfalso; omega) | (repeat (first | rw [if_pos (by omega)] | rw [if_neg (by omega)])), rfl, rfl⟩
          by_cases k43_4 : (4 : Int) = c
          ·
            refine pw_lookup (off := 91) (tgt := 134) dX6_changedPen_43 (by decide) (by omega) (by rw [← k43_4]; decide) rfl ?_
            refine pw_iload_n dX6_changedPen_134 rfl ?_
            refine pw_iconst (v := zI (2)) dX6_changedPen_135 (by decide) ?_
            refine pw_ior dX6_changedPen_136 ?_
            rw [zOr2 hp]
            refine pw_goto (tgt := 184) dX6_changedPen_137 rfl ?_
            exact pw_iret dX6_changedPen_184 rfl (nle rfl) (nle rfl) ⟨by unfold pChg; first | (exfalso; omega) | (repeat (first | rw [if_pos (by omega)] | rw [if_neg (by omega)])), rfl, rfl⟩
          by_cases k43_7 : (7 : Int) = c
          ·
            refine pw_lookup (off := 97) (tgt := 140) dX6_changedPen_43 (by decide) (by omega) (by rw [← k43_7]; decide) rfl ?_
            refine pw_iload_n dX6_changedPen_140 rfl ?_
            refine pw_iconst (v := zI (4)) dX6_changedPen_141 (by decide) ?_
            refine pw_ior dX6_changedPen_142 ?_
            rw [zOr4 hp]
            refine pw_goto (tgt := 184) dX6_changedPen_143 rfl ?_
            exact pw_iret dX6_changedPen_184 rfl (nle rfl) (nle rfl) ⟨by unfold pChg; first | (exfalso; omega) | (repeat (first | rw [if_pos (by omega)] | rw [if_neg (by omega)])), rfl, rfl⟩
          by_cases k43_22 : (22 : Int) = c
          ·
            refine pw_lookup (off := 103) (tgt := 146) dX6_changedPen_43 (by decide) (by omega) (by rw [← k43_22]; decide) rfl ?_
            refine pw_iload_n dX6_changedPen_146 rfl ?_
            refine pw_bipush (v := zI (-2)) dX6_changedPen_147 (by decide) ?_
            refine pw_iand dX6_changedPen_149 ?_
            rw [zAn1 hp]
            refine pw_goto (tgt := 184) dX6_changedPen_150 rfl ?_
            exact pw_iret dX6_changedPen_184 rfl (nle rfl) (nle rfl) ⟨by unfold pChg; first | (exfalso; omega) | (repeat (first | rw [if_pos (by omega)] | rw [if_neg (by omega)])), rfl, rfl⟩
          by_cases k43_24 : (24 : Int) = c
          ·
            refine pw_lookup (off := 110) (tgt := 153) dX6_changedPen_43 (by decide) (by omega) (by rw [← k43_24]; decide) rfl ?_
            refine pw_iload_n dX6_changedPen_153 rfl ?_
            refine pw_bipush (v := zI (-3)) dX6_changedPen_154 (by decide) ?_
            refine pw_iand dX6_changedPen_156 ?_
            rw [zAn2 hp]
            refine pw_goto (tgt := 184) dX6_changedPen_157 rfl ?_
            exact pw_iret dX6_changedPen_184 rfl (nle rfl) (nle rfl) ⟨by unfold pChg; first | (exfalso; omega) | (repeat (first | rw [if_pos (by omega)] | rw [if_neg (by omega)])), rfl, rfl⟩
          by_cases k43_27 : (27 : Int) = c
          ·
            refine pw_lookup (off := 117) (tgt := 160) dX6_changedPen_43 (by decide) (by omega) (by rw [← k43_27]; decide) rfl ?_
            refine pw_iload_n dX6_changedPen_160 rfl ?_
            refine pw_bipush (v := zI (-5)) dX6_changedPen_161 (by decide) ?_
            refine pw_iand dX6_changedPen_163 ?_
            rw [zAn4 hp]
            refine pw_goto (tgt := 184) dX6_changedPen_164 rfl ?_
            exact pw_iret dX6_changedPen_184 rfl (nle rfl) (nle rfl) ⟨by unfold pChg; first | (exfalso; omega) | (repeat (first | rw [if_pos (by omega)] | rw [if_neg (by omega)])), rfl, rfl⟩
          by_cases k43_39 : (39 : Int) = c
          ·
            refine pw_lookup (off := 124) (tgt := 167) dX6_changedPen_43 (by decide) (by omega) (by rw [← k43_39]; decide) rfl ?_
            refine pw_iload_n dX6_changedPen_167 rfl ?_
            refine pw_iconst (v := zI (0)) dX6_changedPen_168 (by decide) ?_
            refine pw_callS (As := [.int (zI (p)), .int (zI (0))]) (rm := rmD 0 0 0) (mX6_withColour htr hp (by omega)) rfl ywX6_withColour rfl cwX6_153 ⟨nle rfl, nle rfl⟩ (nle rfl) ⟨nle rfl, nle rfl⟩ dX6_changedPen_169 ?_ (fun _ _ _ z => z.elim)
            intro r2 h2 n2 hq _
            rw [hq.1, hq.2.1, hq.2.2]
            show pw E YX6_changedPen _ _ 0 0 172 [some (.int (zI (p))), some (.int (zI (c)))] [.int (zI (pCol p (0)))] h n
            refine pw_goto (tgt := 184) dX6_changedPen_172 rfl ?_
            exact pw_iret dX6_changedPen_184 rfl (nle rfl) (nle rfl) ⟨by unfold pChg; first | (exfalso; omega) | (repeat (first | rw [if_pos (by omega)] | rw [if_neg (by omega)])), rfl, rfl⟩
          by_cases k43_49 : (49 : Int) = c
          ·
            refine pw_lookup (off := 132) (tgt := 175) dX6_changedPen_43 (by decide) (by omega) (by rw [← k43_49]; decide) rfl ?_
            refine pw_iload_n dX6_changedPen_175 rfl ?_
            refine pw_iconst (v := zI (0)) dX6_changedPen_176 (by decide) ?_
            refine pw_callS (As := [.int (zI (p)), .int (zI (0))]) (rm := rmD 0 0 0) (mX6_withGround htr hp (by omega)) rfl ywX6_withGround rfl cwX6_156 ⟨nle rfl, nle rfl⟩ (nle rfl) ⟨nle rfl, nle rfl⟩ dX6_changedPen_177 ?_ (fun _ _ _ z => z.elim)
            intro r2 h2 n2 hq _
            rw [hq.1, hq.2.1, hq.2.2]
            show pw E YX6_changedPen _ _ 0 0 180 [some (.int (zI (p))), some (.int (zI (c)))] [.int (zI (pGnd p (0)))] h n
            refine pw_goto (tgt := 184) dX6_changedPen_180 rfl ?_
            exact pw_iret dX6_changedPen_184 rfl (nle rfl) (nle rfl) ⟨by unfold pChg; first | (exfalso; omega) | (repeat (first | rw [if_pos (by omega)] | rw [if_neg (by omega)])), rfl, rfl⟩
          refine pw_lookup (off := 140) (tgt := 183) dX6_changedPen_43 (by decide) (by omega) (by show Op.lookupswitch.offset [(0, 81), (1, 85), (4, 91), (7, 97), (22, 103), (24, 110), (27, 117), (39, 124), (49, 132)] 140 (c) = 140; simp only [Op.lookupswitch.offset_cons, Op.lookupswitch.offset_nil, if_neg k43_0, if_neg k43_1, if_neg k43_4, if_neg k43_7, if_neg k43_22, if_neg k43_24, if_neg k43_27, if_neg k43_39, if_neg k43_49]) rfl ?_
          refine pw_iload_n dX6_changedPen_183 rfl ?_
          exact pw_iret dX6_changedPen_184 rfl (nle rfl) (nle rfl) ⟨by unfold pChg; first | (exfalso; omega) | (repeat (first | rw [if_pos (by omega)] | rw [if_neg (by omega)])), rfl, rfl⟩
        ·
          refine pw_iload_n dX6_changedPen_33 rfl ?_
          refine pw_iload_n dX6_changedPen_34 rfl ?_
          refine pw_bipush (v := zI (39)) dX6_changedPen_35 (by decide) ?_
          refine pw_zisub dX6_changedPen_37 ?_
          refine pw_callS (As := [.int (zI (p)), .int (zI (c - 39))]) (rm := rmD 0 0 0) (mX6_withGround htr hp (by omega)) rfl ywX6_withGround rfl cwX6_156 ⟨nle rfl, nle rfl⟩ (nle rfl) ⟨nle rfl, nle rfl⟩ dX6_changedPen_38 ?_ (fun _ _ _ z => z.elim)
          intro r2 h2 n2 hq _
          rw [hq.1, hq.2.1, hq.2.2]
          show pw E YX6_changedPen _ _ 0 0 41 [some (.int (zI (p))), some (.int (zI (c)))] [.int (zI (pGnd p (c - 39)))] h n
          exact pw_iret dX6_changedPen_41 rfl (nle rfl) (nle rfl) ⟨by unfold pChg; first | (exfalso; omega) | (repeat (first | rw [if_pos (by omega)] | rw [if_neg (by omega)])), rfl, rfl⟩
    ·
      refine pw_iload_n dX6_changedPen_12 rfl ?_
      refine pw_iload_n dX6_changedPen_13 rfl ?_
      refine pw_bipush (v := zI (29)) dX6_changedPen_14 (by decide) ?_
      refine pw_zisub dX6_changedPen_16 ?_
      refine pw_callS (As := [.int (zI (p)), .int (zI (c - 29))]) (rm := rmD 0 0 0) (mX6_withColour htr hp (by omega)) rfl ywX6_withColour rfl cwX6_153 ⟨nle rfl, nle rfl⟩ (nle rfl) ⟨nle rfl, nle rfl⟩ dX6_changedPen_17 ?_ (fun _ _ _ z => z.elim)
      intro r2 h2 n2 hq _
      rw [hq.1, hq.2.1, hq.2.2]
      show pw E YX6_changedPen _ _ 0 0 20 [some (.int (zI (p))), some (.int (zI (c)))] [.int (zI (pCol p (c - 29)))] h n
      exact pw_iret dX6_changedPen_20 rfl (nle rfl) (nle rfl) ⟨by unfold pChg; first | (exfalso; omega) | (repeat (first | rw [if_pos (by omega)] | rw [if_neg (by omega)])), rfl, rfl⟩
set_option maxHeartbeats 4000000 in
set_option maxRecDepth 100000 in
/-- Reader.reset() -/
theorem mX6_reset {E : pw_E} (htr : E.1.stackTraces = false) {h : pz_H} {n : Nat} {w H : Int} {N NH : Nat} {I J : Nat → Nat} {s : zSt} {R q : Nat → Int} (hG : geo w H N NH) (hA : rAt w H N NH I J s R q h) (hO : rOk w H s R q) : pw_M E yX6_reset YX6_reset (rmD 0 0 0) [.ref (J 0)] h n (fun r h' n' => r = none ∧ h' = rP w H N NH I J s (va_up R 5 0) q h ∧ n' = n) (fun _ _ _ => False) := by
  have hG0 := hG
  have hO0 := hO
  obtain ⟨gw, gH, gN, gN2, gNH⟩ := hG
  obtain ⟨hz, r2, r3, r4, r5, hq⟩ := hO
  have hz0 := hz
  obtain ⟨o3, o4, o5, o6, o7, o8, o9, o10, o11, o12, o14, o15, o16, o17, oT3, oT4⟩ := hz
  have q0 := hq 0
  have q1 := hq 1
  refine pw_M_of (lv := [some (.ref (J 0))]) (by decide) rfl rfl htr (nle rfl) rfl (fun L => ?_)
  refine pw_h (rP_id hA).symm ?_
  refine pw_aload_n dX6_reset_0 rfl ?_
  refine pw_iconst (v := zI (0)) dX6_reset_1 (by decide) ?_
  refine pw_put (fs' := (rdObj I J (va_up R 5 (0)))) okX6 (k := 5) (by decide) lkX6_17 rfl rfl rfl (rAt_put hA).2.1 (nlt rfl) rfl dX6_reset_2 ?_
  refine pw_h rU0 ?_
  exact pw_vret dX6_reset_5 rfl (nle rfl) (nle rfl) ⟨rfl, rfl, rfl⟩
set_option maxHeartbeats 4000000 in
set_option maxRecDepth 100000 in
/-- Reader.setInsertMode(on) -/
theorem mX6_setInsertMode {E : pw_E} (htr : E.1.stackTraces = false) {h : pz_H} {n : Nat} {w H : Int} {N NH : Nat} {I J : Nat → Nat} {s : zSt} {R q : Nat → Int} (hG : geo w H N NH) (hA : rAt w H N NH I J s R q h) (hO : rOk w H s R q) {on : Int} (hon : 0 ≤ on ∧ on ≤ 1) : pw_M E yX6_setInsertMode YX6_setInsertMode (rmD 0 0 0) [.ref (J 0), .int (zI (on))] h n (fun r h' n' => r = none ∧ h' = rP w H N NH I J (if q 0 = 4 then zSet 14 on s else s) R q h ∧ n' = n) (fun _ _ _ => False) := by
  have hG0 := hG
  have hO0 := hO
  obtain ⟨gw, gH, gN, gN2, gNH⟩ := hG
  obtain ⟨hz, r2, r3, r4, r5, hq⟩ := hO
  have hz0 := hz
  obtain ⟨o3, o4, o5, o6, o7, o8, o9, o10, o11, o12, o14, o15, o16, o17, oT3, oT4⟩ := hz
  have q0 := hq 0
  have q1 := hq 1
  refine pw_M_of (lv := [some (.ref (J 0)), some (.int (zI (on)))]) (by decide) rfl rfl htr (nle rfl) rfl (fun L => ?_)
  refine pw_h (rP_id hA).symm ?_
  refine pw_aload_n dX6_setInsertMode_0 rfl ?_
  refine pw_get (v := .ref (J 1)) okX6 (k := 1) (by decide) lkX6_9 (rAt_put hA).2.1 rfl dX6_setInsertMode_1 ?_
  refine pw_iconst (v := zI (0)) dX6_setInsertMode_4 (by decide) ?_
  refine pw_ialdv (v := q 0) (t := 0) rfl (rAt_put hA).2.2.1 (by omega) (by omega) rfl dX6_setInsertMode_5 ?_
  refine pw_iconst (v := zI (4)) dX6_setInsertMode_6 (by decide) ?_
  refine pw_icmp_ne (tgt := 18) dX6_setInsertMode_7 rfl (by omega) (by omega) (fun c7 => ?_) (fun c7 => ?_)
  ·
    exact pw_vret dX6_setInsertMode_18 rfl (nle rfl) (nle rfl) ⟨rfl, by first | (exfalso; omega) | (repeat (first | rw [if_pos (by omega)] | rw [if_neg (by omega)])), rfl⟩
  ·
    refine pw_aload_n dX6_setInsertMode_10 rfl ?_
    refine pw_get (v := .ref (I 0)) okX6 (k := 0) (by decide) lkX6_13 (rAt_put hA).2.1 rfl dX6_setInsertMode_11 ?_
    refine pw_iload_n dX6_setInsertMode_14 rfl ?_
    refine pw_putN (fs' := (scObj I (va_up s.1 14 (on)))) okX7 (k := 14) (by decide) lkX6_144 rfl (zb_nar (by omega)) (zb_fit (by omega)) (rAt_put hA).1.1.1 (nlt rfl) rfl dX6_setInsertMode_15 ?_
    refine pw_h (h' := rP w H N NH I J (zSet 14 (on) s) R q h) (rUF hA) ?_
    exact pw_vret dX6_setInsertMode_18 rfl (nle rfl) (nle rfl) ⟨rfl, by first | (exfalso; omega) | (repeat (first | rw [if_pos (by omega)] | rw [if_neg (by omega)])), rfl⟩
set_option maxHeartbeats 4000000 in
set_option maxRecDepth 100000 in
/-- Reader.takeDigit(d) -/
theorem mX6_takeDigit {E : pw_E} (htr : E.1.stackTraces = false) {h : pz_H} {n : Nat} {w H : Int} {N NH : Nat} {I J : Nat → Nat} {s : zSt} {R q : Nat → Int} (hG : geo w H N NH) (hA : rAt w H N NH I J s R q h) (hO : rOk w H s R q) {d : Int} (hd : 0 ≤ d ∧ d ≤ 9) : pw_M E yX6_takeDigit YX6_takeDigit (rmD 1 0 0) [.ref (J 0), .int (zI (d))] h n (fun r h' n' => r = none ∧ h' = rP w H N NH I J s (rDigitR R) (rDigit R q d) h ∧ n' = n) (fun _ _ _ => False) := by
  have hG0 := hG
  have hO0 := hO
  obtain ⟨gw, gH, gN, gN2, gNH⟩ := hG
  obtain ⟨hz, r2, r3, r4, r5, hq⟩ := hO
  have hz0 := hz
  obtain ⟨o3, o4, o5, o6, o7, o8, o9, o10, o11, o12, o14, o15, o16, o17, oT3, oT4⟩ := hz
  have q0 := hq 0
  have q1 := hq 1
  refine pw_M_of (lv := [some (.ref (J 0)), some (.int (zI (d)))]) (by decide) rfl rfl htr (nle rfl) rfl (fun L => ?_)
  refine pw_h (rP_id hA).symm ?_
  refine pw_aload_n dX6_takeDigit_0 rfl ?_
  refine pw_get (v := .int (zI (R 2))) okX6 (k := 2) (by decide) lkX6_74 (rAt_put hA).2.1 rfl dX6_takeDigit_1 ?_
  refine pw_iconst (v := zI (4)) dX6_takeDigit_4 (by decide) ?_
  refine pw_icmp_ge (tgt := 42) dX6_takeDigit_5 rfl (by omega) (by omega) (fun c5 => ?_) (fun c5 => ?_)
  ·
    exact pw_vret dX6_takeDigit_42 rfl (nle rfl) (nle rfl) ⟨rfl, by unfold rDigitR rDigit; first | (exfalso; omega) | (repeat (first | rw [if_pos (by omega)] | rw [if_neg (by omega)])), rfl⟩
  ·
    refine pw_aload_n dX6_takeDigit_8 rfl ?_
    refine pw_get (v := .ref (J 1)) okX6 (k := 1) (by decide) lkX6_9 (rAt_put hA).2.1 rfl dX6_takeDigit_9 ?_
    refine pw_aload_n dX6_takeDigit_12 rfl ?_
    refine pw_get (v := .int (zI (R 2))) okX6 (k := 2) (by decide) lkX6_74 (rAt_put hA).2.1 rfl dX6_takeDigit_13 ?_
    refine pw_sipush (v := zI (999)) dX6_takeDigit_16 (by decide) ?_
    refine pw_aload_n dX6_takeDigit_19 rfl ?_
    refine pw_get (v := .ref (J 1)) okX6 (k := 1) (by decide) lkX6_9 (rAt_put hA).2.1 rfl dX6_takeDigit_20 ?_
    refine pw_aload_n dX6_takeDigit_23 rfl ?_
    refine pw_get (v := .int (zI (R 2))) okX6 (k := 2) (by decide) lkX6_74 (rAt_put hA).2.1 rfl dX6_takeDigit_24 ?_
    refine pw_iald (t := 0) rfl (rAt_put hA).2.2.1 (by omega) (by omega) dX6_takeDigit_27 ?_
    have qq := hq (R 2).toNat
    refine pw_bipush (v := zI (10)) dX6_takeDigit_28 (by decide) ?_
    refine pw_zimul dX6_takeDigit_30 ?_
    refine pw_iload_n dX6_takeDigit_31 rfl ?_
    refine pw_ziadd dX6_takeDigit_32 ?_
    refine pw_min cwX6_83 dX6_takeDigit_33 (by omega) (by omega) ⟨nle rfl, nle rfl⟩ ⟨nle rfl, nle rfl⟩ ?_
    refine pw_iast (t := 0) rfl (rAt_put hA).2.2.1 (by omega) (by omega) dX6_takeDigit_36 ?_
    refine pw_h (rU1 hA) ?_
    refine pw_aload_n dX6_takeDigit_37 rfl ?_
    refine pw_iconst (v := zI (1)) dX6_takeDigit_38 (by decide) ?_
    refine pw_put (fs' := (rdObj I J (va_up R 3 (1)))) okX6 (k := 3) (by decide) lkX6_77 rfl (by decide) (by decide) (rAt_put hA).2.1 (nlt rfl) rfl dX6_takeDigit_39 ?_
    refine pw_h rU0 ?_
    exact pw_vret dX6_takeDigit_42 rfl (nle rfl) (nle rfl) ⟨rfl, by unfold rDigitR rDigit; first | (exfalso; omega) | (repeat (first | rw [if_pos (by omega)] | rw [if_neg (by omega)])), rfl⟩
set_option maxHeartbeats 4000000 in
set_option maxRecDepth 100000 in
/-- Reader.doAsked(b) -/
theorem mX6_doAsked {E : pw_E} (htr : E.1.stackTraces = false) {h : pz_H} {n : Nat} {w H : Int} {N NH : Nat} {I J : Nat → Nat} {s : zSt} {R q : Nat → Int} (hG : geo w H N NH) (hA : rAt w H N NH I J s R q h) (hO : rOk w H s R q) {b : Int} (hb : 64 ≤ b ∧ b ≤ 126) : pw_M E yX6_doAsked YX6_doAsked (rmD 5 0 0) [.ref (J 0), .int (zI (b))] h n (fun r h' n' => r = none ∧ h' = rP w H N NH I J (zAsked w H b q s) R q h ∧ n' = n) (fun _ _ _ => False) := by
  have hG0 := hG
  have hO0 := hO
  obtain ⟨gw, gH, gN, gN2, gNH⟩ := hG
  obtain ⟨hz, r2, r3, r4, r5, hq⟩ := hO
  have hz0 := hz
  obtain ⟨o3, o4, o5, o6, o7, o8, o9, o10, o11, o12, o14, o15, o16, o17, oT3, oT4⟩ := hz
  have q0 := hq 0
  have q1 := hq 1
  refine pw_M_of (lv := [some (.ref (J 0)), some (.int (zI (b))), none]) (by decide) rfl rfl htr (nle rfl) rfl (fun L => ?_)
  refine pw_h (rP_id hA).symm ?_
  refine pw_iload_n dX6_doAsked_0 rfl ?_
  refine pw_bipush (v := zI (104)) dX6_doAsked_1 (by decide) ?_
  refine pw_icmp_eq (tgt := 13) dX6_doAsked_3 rfl (by omega) (by omega) (fun c3 => ?_) (fun c3 => ?_)
  ·
    refine pw_iload_n dX6_doAsked_13 rfl ?_
    refine pw_bipush (v := zI (104)) dX6_doAsked_14 (by decide) ?_
    refine pw_icmp_ne (tgt := 23) dX6_doAsked_16 rfl (by omega) (by omega) (fun c16 => ?_) (fun c16 => ?_)
    ·
      refine pw_iconst (v := zI (0)) dX6_doAsked_23 (by decide) ?_
      refine pw_istore_n (lv' := [some (.ref (J 0)), some (.int (zI (b))), some (.int (zI (0)))]) dX6_doAsked_24 (by decide) rfl rfl ?_
      refine pw_aload_n dX6_doAsked_25 rfl ?_
      refine pw_get (v := .ref (J 1)) okX6 (k := 1) (by decide) lkX6_9 (rAt_put hA).2.1 rfl dX6_doAsked_26 ?_
      refine pw_iconst (v := zI (0)) dX6_doAsked_29 (by decide) ?_
      refine pw_ialdv (v := q 0) (t := 0) rfl (rAt_put hA).2.2.1 (by omega) (by omega) rfl dX6_doAsked_30 ?_
      by_cases k31_7 : (7 : Int) = q 0
      ·
        refine pw_lookup (off := 33) (tgt := 64) dX6_doAsked_31 (by decide) (by omega) (by rw [← k31_7]; decide) rfl ?_
        refine pw_aload_n dX6_doAsked_64 rfl ?_
        refine pw_get (v := .ref (I 0)) okX6 (k := 0) (by decide) lkX6_13 (rAt_put hA).2.1 rfl dX6_doAsked_65 ?_
        refine pw_iload_n dX6_doAsked_68 rfl ?_
        refine pw_putN (fs' := (scObj I (va_up s.1 15 (0)))) okX7 (k := 15) (by decide) lkX6_95 rfl (zb_nar (by omega)) (zb_fit (by omega)) (rAt_put hA).1.1.1 (nlt rfl) rfl dX6_doAsked_69 ?_
        refine pw_h (h' := rP w H N NH I J (zSet 15 (0) s) R q h) (rUF hA) ?_
        refine pw_goto (tgt := 97) dX6_doAsked_72 rfl ?_
        exact pw_vret dX6_doAsked_97 rfl (nle rfl) (nle rfl) ⟨rfl, by unfold zAsked; first | (exfalso; omega) | (repeat (first | rw [if_pos (by omega)] | rw [if_neg (by omega)])), rfl⟩
      by_cases k31_25 : (25 : Int) = q 0
      ·
        refine pw_lookup (off := 44) (tgt := 75) dX6_doAsked_31 (by decide) (by omega) (by rw [← k31_25]; decide) rfl ?_
        refine pw_aload_n dX6_doAsked_75 rfl ?_
        refine pw_get (v := .ref (I 0)) okX6 (k := 0) (by decide) lkX6_13 (rAt_put hA).2.1 rfl dX6_doAsked_76 ?_
        refine pw_iload_n dX6_doAsked_79 rfl ?_
        refine pw_putN (fs' := (scObj I (va_up s.1 16 (0)))) okX7 (k := 16) (by decide) lkX6_98 rfl (zb_nar (by omega)) (zb_fit (by omega)) (rAt_put hA).1.1.1 (nlt rfl) rfl dX6_doAsked_80 ?_
        refine pw_h (h' := rP w H N NH I J (zSet 16 (0) s) R q h) (rUF hA) ?_
        refine pw_goto (tgt := 97) dX6_doAsked_83 rfl ?_
        exact pw_vret dX6_doAsked_97 rfl (nle rfl) (nle rfl) ⟨rfl, by unfold zAsked; first | (exfalso; omega) | (repeat (first | rw [if_pos (by omega)] | rw [if_neg (by omega)])), rfl⟩
      by_cases k31_47 : (47 : Int) = q 0
      ·
        refine pw_lookup (off := 55) (tgt := 86) dX6_doAsked_31 (by decide) (by omega) (by rw [← k31_47]; decide) rfl ?_
        refine pw_aload_n dX6_doAsked_86 rfl ?_
        refine pw_get (v := .ref (I 0)) okX6 (k := 0) (by decide) lkX6_13 (rAt_put hA).2.1 rfl dX6_doAsked_87 ?_
        refine pw_iload_n dX6_doAsked_90 rfl ?_
        refine pw_callV (As := [.int (zI (0))]) (b := (I 0)) (rm := rmD 4 0 0) (nX7_showOther htr hG0 (rAt_put hA).1 hz0 (by omega)) rfl (rAt_put hA).1.1.1 rfl rfl ywX7_showOther rfl cwX6_101 ⟨nle rfl, nle rfl⟩ (nle rfl) ⟨nle rfl, nle rfl⟩ dX6_doAsked_91 ?_ (fun _ _ _ z => z.elim)
        intro r2 h2 n2 hq _
        rw [hq.1, hq.2.1, hq.2.2]
        show pw E YX6_doAsked _ _ 0 0 94 [some (.ref (J 0)), some (.int (zI (b))), some (.int (zI (0)))] [] (zP w H N NH I (zShow w H (0) s) (rP w H N NH I J s R q h)) n
        refine pw_h (zP_rP hA) ?_
        refine pw_goto (tgt := 97) dX6_doAsked_94 rfl ?_
        exact pw_vret dX6_doAsked_97 rfl (nle rfl) (nle rfl) ⟨rfl, by unfold zAsked; first | (exfalso; omega) | (repeat (first | rw [if_pos (by omega)] | rw [if_neg (by omega)])), rfl⟩
      refine pw_lookup (off := 66) (tgt := 97) dX6_doAsked_31 (by decide) (by omega) (by show Op.lookupswitch.offset [(7, 33), (25, 44), (47, 55)] 66 (q 0) = 66; simp only [Op.lookupswitch.offset_cons, Op.lookupswitch.offset_nil, if_neg k31_7, if_neg k31_25, if_neg k31_47]) rfl ?_
      exact pw_vret dX6_doAsked_97 rfl (nle rfl) (nle rfl) ⟨rfl, by unfold zAsked; first | (exfalso; omega) | (repeat (first | rw [if_pos (by omega)] | rw [if_neg (by omega)])), rfl⟩
    ·
      refine pw_iconst (v := zI (1)) dX6_doAsked_19 (by decide) ?_
      refine pw_goto (tgt := 24) dX6_doAsked_20 rfl ?_
      refine pw_istore_n (lv' := [some (.ref (J 0)), some (.int (zI (b))), some (.int (zI (1)))]) dX6_doAsked_24 (by decide) rfl rfl ?_
      refine pw_aload_n dX6_doAsked_25 rfl ?_
      refine pw_get (v := .ref (J 1)) okX6 (k := 1) (by decide) lkX6_9 (rAt_put hA).2.1 rfl dX6_doAsked_26 ?_
      refine pw_iconst (v := zI (0)) dX6_doAsked_29 (by decide) ?_
      refine pw_ialdv (v := q 0) (t := 0) rfl (rAt_put hA).2.2.1 (by omega) (by omega) rfl dX6_doAsked_30 ?_
      by_cases k31_7 : (7 : Int) = q 0
      ·
        refine pw_lookup (off := 33) (tgt := 64) dX6_doAsked_31 (by decide) (by omega) (by rw [← k31_7]; decide) rfl ?_
        refine pw_aload_n dX6_doAsked_64 rfl ?_
        refine pw_get (v := .ref (I 0)) okX6 (k := 0) (by decide) lkX6_13 (rAt_put hA).2.1 rfl dX6_doAsked_65 ?_
        refine pw_iload_n dX6_doAsked_68 rfl ?_
        refine pw_putN (fs' := (scObj I (va_up s.1 15 (1)))) okX7 (k := 15) (by decide) lkX6_95 rfl (zb_nar (by omega)) (zb_fit (by omega)) (rAt_put hA).1.1.1 (nlt rfl) rfl dX6_doAsked_69 ?_
        refine pw_h (h' := rP w H N NH I J (zSet 15 (1) s) R q h) (rUF hA) ?_
        refine pw_goto (tgt := 97) dX6_doAsked_72 rfl ?_
        exact pw_vret dX6_doAsked_97 rfl (nle rfl) (nle rfl) ⟨rfl, by unfold zAsked; first | (exfalso; omega) | (repeat (first | rw [if_pos (by omega)] | rw [if_neg (by omega)])), rfl⟩
      by_cases k31_25 : (25 : Int) = q 0
      ·
        refine pw_lookup (off := 44) (tgt := 75) dX6_doAsked_31 (by decide) (by omega) (by rw [← k31_25]; decide) rfl ?_
        refine pw_aload_n dX6_doAsked_75 rfl ?_
        refine pw_get (v := .ref (I 0)) okX6 (k := 0) (by decide) lkX6_13 (rAt_put hA).2.1 rfl dX6_doAsked_76 ?_
        refine pw_iload_n dX6_doAsked_79 rfl ?_
        refine pw_putN (fs' := (scObj I (va_up s.1 16 (1)))) okX7 (k := 16) (by decide) lkX6_98 rfl (zb_nar (by omega)) (zb_fit (by omega)) (rAt_put hA).1.1.1 (nlt rfl) rfl dX6_doAsked_80 ?_
        refine pw_h (h' := rP w H N NH I J (zSet 16 (1) s) R q h) (rUF hA) ?_
        refine pw_goto (tgt := 97) dX6_doAsked_83 rfl ?_
        exact pw_vret dX6_doAsked_97 rfl (nle rfl) (nle rfl) ⟨rfl, by unfold zAsked; first | (exfalso; omega) | (repeat (first | rw [if_pos (by omega)] | rw [if_neg (by omega)])), rfl⟩
      by_cases k31_47 : (47 : Int) = q 0
      ·
        refine pw_lookup (off := 55) (tgt := 86) dX6_doAsked_31 (by decide) (by omega) (by rw [← k31_47]; decide) rfl ?_
        refine pw_aload_n dX6_doAsked_86 rfl ?_
        refine pw_get (v := .ref (I 0)) okX6 (k := 0) (by decide) lkX6_13 (rAt_put hA).2.1 rfl dX6_doAsked_87 ?_
        refine pw_iload_n dX6_doAsked_90 rfl ?_
        refine pw_callV (As := [.int (zI (1))]) (b := (I 0)) (rm := rmD 4 0 0) (nX7_showOther htr hG0 (rAt_put hA).1 hz0 (by omega)) rfl (rAt_put hA).1.1.1 rfl rfl ywX7_showOther rfl cwX6_101 ⟨nle rfl, nle rfl⟩ (nle rfl) ⟨nle rfl, nle rfl⟩ dX6_doAsked_91 ?_ (fun _ _ _ z => z.elim)
        intro r2 h2 n2 hq _
        rw [hq.1, hq.2.1, hq.2.2]
        show pw E YX6_doAsked _ _ 0 0 94 [some (.ref (J 0)), some (.int (zI (b))), some (.int (zI (1)))] [] (zP w H N NH I (zShow w H (1) s) (rP w H N NH I J s R q h)) n
        refine pw_h (zP_rP hA) ?_
        refine pw_goto (tgt := 97) dX6_doAsked_94 rfl ?_
        exact pw_vret dX6_doAsked_97 rfl (nle rfl) (nle rfl) ⟨rfl, by unfold zAsked; first | (exfalso; omega) | (repeat (first | rw [if_pos (by omega)] | rw [if_neg (by omega)])), rfl⟩
      refine pw_lookup (off := 66) (tgt := 97) dX6_doAsked_31 (by decide) (by omega) (by show Op.lookupswitch.offset [(7, 33), (25, 44), (47, 55)] 66 (q 0) = 66; simp only [Op.lookupswitch.offset_cons, Op.lookupswitch.offset_nil, if_neg k31_7, if_neg k31_25, if_neg k31_47]) rfl ?_
      exact pw_vret dX6_doAsked_97 rfl (nle rfl) (nle rfl) ⟨rfl, by unfold zAsked; first | (exfalso; omega) | (repeat (first | rw [if_pos (by omega)] | rw [if_neg (by omega)])), rfl⟩
  ·
    refine pw_iload_n dX6_doAsked_6 rfl ?_
    refine pw_bipush (v := zI (108)) dX6_doAsked_7 (by decide) ?_
    refine pw_icmp_eq (tgt := 13) dX6_doAsked_9 rfl (by omega) (by omega) (fun c9 => ?_) (fun c9 => ?_)
    ·
      refine pw_iload_n dX6_doAsked_13 rfl ?_
      refine pw_bipush (v := zI (104)) dX6_doAsked_14 (by decide) ?_
      refine pw_icmp_ne (tgt := 23) dX6_doAsked_16 rfl (by omega) (by omega) (fun c16 => ?_) (fun c16 => ?_)
      ·
        refine pw_iconst (v := zI (0)) dX6_doAsked_23 (by decide) ?_
        refine pw_istore_n (lv' := [some (.ref (J 0)), some (.int (zI (b))), some (.int (zI (0)))]) dX6_doAsked_24 (by decide) rfl rfl ?_
        refine pw_aload_n dX6_doAsked_25 rfl ?_
        refine pw_get (v := .ref (J 1)) okX6 (k := 1) (by decide) lkX6_9 (rAt_put hA).2.1 rfl dX6_doAsked_26 ?_
        refine pw_iconst (v := zI (0)) dX6_doAsked_29 (by decide) ?_
        refine pw_ialdv (v := q 0) (t := 0) rfl (rAt_put hA).2.2.1 (by omega) (by omega) rfl dX6_doAsked_30 ?_
        by_cases k31_7 : (7 : Int) = q 0
        ·
          refine pw_lookup (off := 33) (tgt := 64) dX6_doAsked_31 (by decide) (by omega) (by rw [← k31_7]; decide) rfl ?_
          refine pw_aload_n dX6_doAsked_64 rfl ?_
          refine pw_get (v := .ref (I 0)) okX6 (k := 0) (by decide) lkX6_13 (rAt_put hA).2.1 rfl dX6_doAsked_65 ?_
          refine pw_iload_n dX6_doAsked_68 rfl ?_
          refine pw_putN (fs' := (scObj I (va_up s.1 15 (0)))) okX7 (k := 15) (by decide) lkX6_95 rfl (zb_nar (by omega)) (zb_fit (by omega)) (rAt_put hA).1.1.1 (nlt rfl) rfl dX6_doAsked_69 ?_
          refine pw_h (h' := rP w H N NH I J (zSet 15 (0) s) R q h) (rUF hA) ?_
          refine pw_goto (tgt := 97) dX6_doAsked_72 rfl ?_
          exact pw_vret dX6_doAsked_97 rfl (nle rfl) (nle rfl) ⟨rfl, by unfold zAsked; first | (exfalso; omega) | (repeat (first | rw [if_pos (by omega)] | rw [if_neg (by omega)])), rfl⟩
        by_cases k31_25 : (25 : Int) = q 0
        ·
          refine pw_lookup (off := 44) (tgt := 75) dX6_doAsked_31 (by decide) (by omega) (by rw [← k31_25]; decide) rfl ?_
          refine pw_aload_n dX6_doAsked_75 rfl ?_
          refine pw_get (v := .ref (I 0)) okX6 (k := 0) (by decide) lkX6_13 (rAt_put hA).2.1 rfl dX6_doAsked_76 ?_
          refine pw_iload_n dX6_doAsked_79 rfl ?_
          refine pw_putN (fs' := (scObj I (va_up s.1 16 (0)))) okX7 (k := 16) (by decide) lkX6_98 rfl (zb_nar (by omega)) (zb_fit (by omega)) (rAt_put hA).1.1.1 (nlt rfl) rfl dX6_doAsked_80 ?_
          refine pw_h (h' := rP w H N NH I J (zSet 16 (0) s) R q h) (rUF hA) ?_
          refine pw_goto (tgt := 97) dX6_doAsked_83 rfl ?_
          exact pw_vret dX6_doAsked_97 rfl (nle rfl) (nle rfl) ⟨rfl, by unfold zAsked; first | (exfalso; omega) | (repeat (first | rw [if_pos (by omega)] | rw [if_neg (by omega)])), rfl⟩
        by_cases k31_47 : (47 : Int) = q 0
        ·
          refine pw_lookup (off := 55) (tgt := 86) dX6_doAsked_31 (by decide) (by omega) (by rw [← k31_47]; decide) rfl ?_
          refine pw_aload_n dX6_doAsked_86 rfl ?_
          refine pw_get (v := .ref (I 0)) okX6 (k := 0) (by decide) lkX6_13 (rAt_put hA).2.1 rfl dX6_doAsked_87 ?_
          refine pw_iload_n dX6_doAsked_90 rfl ?_
          refine pw_callV (As := [.int (zI (0))]) (b := (I 0)) (rm := rmD 4 0 0) (nX7_showOther htr hG0 (rAt_put hA).1 hz0 (by omega)) rfl (rAt_put hA).1.1.1 rfl rfl ywX7_showOther rfl cwX6_101 ⟨nle rfl, nle rfl⟩ (nle rfl) ⟨nle rfl, nle rfl⟩ dX6_doAsked_91 ?_ (fun _ _ _ z => z.elim)
          intro r2 h2 n2 hq _
          rw [hq.1, hq.2.1, hq.2.2]
          show pw E YX6_doAsked _ _ 0 0 94 [some (.ref (J 0)), some (.int (zI (b))), some (.int (zI (0)))] [] (zP w H N NH I (zShow w H (0) s) (rP w H N NH I J s R q h)) n
          refine pw_h (zP_rP hA) ?_
          refine pw_goto (tgt := 97) dX6_doAsked_94 rfl ?_
          exact pw_vret dX6_doAsked_97 rfl (nle rfl) (nle rfl) ⟨rfl, by unfold zAsked; first | (exfalso; omega) | (repeat (first | rw [if_pos (by omega)] | rw [if_neg (by omega)])), rfl⟩
        refine pw_lookup (off := 66) (tgt := 97) dX6_doAsked_31 (by decide) (by omega) (by show Op.lookupswitch.offset [(7, 33), (25, 44), (47, 55)] 66 (q 0) = 66; simp only [Op.lookupswitch.offset_cons, Op.lookupswitch.offset_nil, if_neg k31_7, if_neg k31_25, if_neg k31_47]) rfl ?_
        exact pw_vret dX6_doAsked_97 rfl (nle rfl) (nle rfl) ⟨rfl, by unfold zAsked; first | (exfalso; omega) | (repeat (first | rw [if_pos (by omega)] | rw [if_neg (by omega)])), rfl⟩
      ·
        refine pw_iconst (v := zI (1)) dX6_doAsked_19 (by decide) ?_
        refine pw_goto (tgt := 24) dX6_doAsked_20 rfl ?_
        refine pw_istore_n (lv' := [some (.ref (J 0)), some (.int (zI (b))), some (.int (zI (1)))]) dX6_doAsked_24 (by decide) rfl rfl ?_
        refine pw_aload_n dX6_doAsked_25 rfl ?_
        refine pw_get (v := .ref (J 1)) okX6 (k := 1) (by decide) lkX6_9 (rAt_put hA).2.1 rfl dX6_doAsked_26 ?_
        refine pw_iconst (v := zI (0)) dX6_doAsked_29 (by decide) ?_
        refine pw_ialdv (v := q 0) (t := 0) rfl (rAt_put hA).2.2.1 (by omega) (by omega) rfl dX6_doAsked_30 ?_
        by_cases k31_7 : (7 : Int) = q 0
        ·
          refine pw_lookup (off := 33) (tgt := 64) dX6_doAsked_31 (by decide) (by omega) (by rw [← k31_7]; decide) rfl ?_
          refine pw_aload_n dX6_doAsked_64 rfl ?_
          refine pw_get (v := .ref (I 0)) okX6 (k := 0) (by decide) lkX6_13 (rAt_put hA).2.1 rfl dX6_doAsked_65 ?_
          refine pw_iload_n dX6_doAsked_68 rfl ?_
          refine pw_putN (fs' := (scObj I (va_up s.1 15 (1)))) okX7 (k := 15) (by decide) lkX6_95 rfl (zb_nar (by omega)) (zb_fit (by omega)) (rAt_put hA).1.1.1 (nlt rfl) rfl dX6_doAsked_69 ?_
          refine pw_h (h' := rP w H N NH I J (zSet 15 (1) s) R q h) (rUF hA) ?_
          refine pw_goto (tgt := 97) dX6_doAsked_72 rfl ?_
          exact pw_vret dX6_doAsked_97 rfl (nle rfl) (nle rfl) ⟨rfl, by unfold zAsked; first | (exfalso; omega) | (repeat (first | rw [if_pos (by omega)] | rw [if_neg (by omega)])), rfl⟩
        by_cases k31_25 : (25 : Int) = q 0
        ·
          refine pw_lookup (off := 44) (tgt := 75) dX6_doAsked_31 (by decide) (by omega) (by rw [← k31_25]; decide) rfl ?_
          refine pw_aload_n dX6_doAsked_75 rfl ?_
          refine pw_get (v := .ref (I 0)) okX6 (k := 0) (by decide) lkX6_13 (rAt_put hA).2.1 rfl dX6_doAsked_76 ?_
          refine pw_iload_n dX6_doAsked_79 rfl ?_
          refine pw_putN (fs' := (scObj I (va_up s.1 16 (1)))) okX7 (k := 16) (by decide) lkX6_98 rfl (zb_nar (by omega)) (zb_fit (by omega)) (rAt_put hA).1.1.1 (nlt rfl) rfl dX6_doAsked_80 ?_
          refine pw_h (h' := rP w H N NH I J (zSet 16 (1) s) R q h) (rUF hA) ?_
          refine pw_goto (tgt := 97) dX6_doAsked_83 rfl ?_
          exact pw_vret dX6_doAsked_97 rfl (nle rfl) (nle rfl) ⟨rfl, by unfold zAsked; first | (exfalso; omega) | (repeat (first | rw [if_pos (by omega)] | rw [if_neg (by omega)])), rfl⟩
        by_cases k31_47 : (47 : Int) = q 0
        ·
          refine pw_lookup (off := 55) (tgt := 86) dX6_doAsked_31 (by decide) (by omega) (by rw [← k31_47]; decide) rfl ?_
          refine pw_aload_n dX6_doAsked_86 rfl ?_
          refine pw_get (v := .ref (I 0)) okX6 (k := 0) (by decide) lkX6_13 (rAt_put hA).2.1 rfl dX6_doAsked_87 ?_
          refine pw_iload_n dX6_doAsked_90 rfl ?_
          refine pw_callV (As := [.int (zI (1))]) (b := (I 0)) (rm := rmD 4 0 0) (nX7_showOther htr hG0 (rAt_put hA).1 hz0 (by omega)) rfl (rAt_put hA).1.1.1 rfl rfl ywX7_showOther rfl cwX6_101 ⟨nle rfl, nle rfl⟩ (nle rfl) ⟨nle rfl, nle rfl⟩ dX6_doAsked_91 ?_ (fun _ _ _ z => z.elim)
          intro r2 h2 n2 hq _
          rw [hq.1, hq.2.1, hq.2.2]
          show pw E YX6_doAsked _ _ 0 0 94 [some (.ref (J 0)), some (.int (zI (b))), some (.int (zI (1)))] [] (zP w H N NH I (zShow w H (1) s) (rP w H N NH I J s R q h)) n
          refine pw_h (zP_rP hA) ?_
          refine pw_goto (tgt := 97) dX6_doAsked_94 rfl ?_
          exact pw_vret dX6_doAsked_97 rfl (nle rfl) (nle rfl) ⟨rfl, by unfold zAsked; first | (exfalso; omega) | (repeat (first | rw [if_pos (by omega)] | rw [if_neg (by omega)])), rfl⟩
        refine pw_lookup (off := 66) (tgt := 97) dX6_doAsked_31 (by decide) (by omega) (by show Op.lookupswitch.offset [(7, 33), (25, 44), (47, 55)] 66 (q 0) = 66; simp only [Op.lookupswitch.offset_cons, Op.lookupswitch.offset_nil, if_neg k31_7, if_neg k31_25, if_neg k31_47]) rfl ?_
        exact pw_vret dX6_doAsked_97 rfl (nle rfl) (nle rfl) ⟨rfl, by unfold zAsked; first | (exfalso; omega) | (repeat (first | rw [if_pos (by omega)] | rw [if_neg (by omega)])), rfl⟩
    ·
      exact pw_vret dX6_doAsked_12 rfl (nle rfl) (nle rfl) ⟨rfl, by unfold zAsked; first | (exfalso; omega) | (repeat (first | rw [if_pos (by omega)] | rw [if_neg (by omega)])), rfl⟩
end
