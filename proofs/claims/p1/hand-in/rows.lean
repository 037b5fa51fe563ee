section
-- ===== PART A: goes FIRST, ahead of the names: the tables' words, and 'selects' of the private methods out of them =====
/-- a private method of a class that the tables say can be made, by its rows of tables_1 -/
def lw_okq (q : MethodName × Nat) : Prop := (q.1.cls ≠ "java/lang/invoke/MethodHandle" ∧ q.1.cls ≠ "java/lang/invoke/VarHandle") ∧ Cond.instantiable q.1.cls q.2 ∈ tables_1 ∧ Cond.privateMethod q.1 ∈ tables_1 ∧ Cond.instanceMethod q.1 ∈ tables_1
theorem lw_p0 : lw_okq (⟨"WindowSale$Station", "clear", "()V"⟩, 11) := ⟨⟨by decide +kernel, by decide +kernel⟩, List.mem_of_getElem? (i := 89) (by decide +kernel), List.mem_of_getElem? (i := 95) (by decide +kernel), List.mem_of_getElem? (i := 96) (by decide +kernel)⟩
theorem lw_p1 : lw_okq (⟨"WindowSale$Station", "addUsualStand", "()V"⟩, 11) := ⟨⟨by decide +kernel, by decide +kernel⟩, List.mem_of_getElem? (i := 89) (by decide +kernel), List.mem_of_getElem? (i := 107) (by decide +kernel), List.mem_of_getElem? (i := 108) (by decide +kernel)⟩
theorem lw_p2 : lw_okq (⟨"WindowSale$Reader", "readRun", "()V"⟩, 9) := ⟨⟨by decide +kernel, by decide +kernel⟩, List.mem_of_getElem? (i := 50) (by decide +kernel), List.mem_of_getElem? (i := 521) (by decide +kernel), List.mem_of_getElem? (i := 522) (by decide +kernel)⟩
theorem lw_p3 : lw_okq (⟨"WindowSale$Station", "readLine", "(LWindowSale$Reader;)Z"⟩, 11) := ⟨⟨by decide +kernel, by decide +kernel⟩, List.mem_of_getElem? (i := 89) (by decide +kernel), List.mem_of_getElem? (i := 536) (by decide +kernel), List.mem_of_getElem? (i := 537) (by decide +kernel)⟩
theorem lw_p4 : lw_okq (⟨"WindowSale$Station", "readWindow", "(LWindowSale$Reader;)Z"⟩, 11) := ⟨⟨by decide +kernel, by decide +kernel⟩, List.mem_of_getElem? (i := 89) (by decide +kernel), List.mem_of_getElem? (i := 593) (by decide +kernel), List.mem_of_getElem? (i := 594) (by decide +kernel)⟩
theorem lw_p5 : lw_okq (⟨"WindowSale$Station", "readStands", "(LWindowSale$Reader;)Z"⟩, 11) := ⟨⟨by decide +kernel, by decide +kernel⟩, List.mem_of_getElem? (i := 89) (by decide +kernel), List.mem_of_getElem? (i := 610) (by decide +kernel), List.mem_of_getElem? (i := 611) (by decide +kernel)⟩
theorem lw_p6 : lw_okq (⟨"WindowSale$Station", "readSetting", "(LWindowSale$Reader;I)Z"⟩, 11) := ⟨⟨by decide +kernel, by decide +kernel⟩, List.mem_of_getElem? (i := 89) (by decide +kernel), List.mem_of_getElem? (i := 621) (by decide +kernel), List.mem_of_getElem? (i := 622) (by decide +kernel)⟩
theorem lw_p7 : lw_okq (⟨"WindowSale", "keepIfDone", "(I)I"⟩, 17) := ⟨⟨by decide +kernel, by decide +kernel⟩, List.mem_of_getElem? (i := 26) (by decide +kernel), List.mem_of_getElem? (i := 704) (by decide +kernel), List.mem_of_getElem? (i := 705) (by decide +kernel)⟩
theorem lw_p8 : lw_okq (⟨"WindowSale", "keepTrial", "()V"⟩, 17) := ⟨⟨by decide +kernel, by decide +kernel⟩, List.mem_of_getElem? (i := 26) (by decide +kernel), List.mem_of_getElem? (i := 708) (by decide +kernel), List.mem_of_getElem? (i := 709) (by decide +kernel)⟩
theorem lw_p9 : lw_okq (⟨"WindowSale$Past", "sceneAt", "(ILWindowSale$Scene;)LWindowSale$Scene;"⟩, 3) := ⟨⟨by decide +kernel, by decide +kernel⟩, List.mem_of_getElem? (i := 206) (by decide +kernel), List.mem_of_getElem? (i := 716) (by decide +kernel), List.mem_of_getElem? (i := 717) (by decide +kernel)⟩
theorem lw_p10 : lw_okq (⟨"WindowSale$Scene", "coinResult", "(ZLWindowSale$Station;)I"⟩, 11) := ⟨⟨by decide +kernel, by decide +kernel⟩, List.mem_of_getElem? (i := 154) (by decide +kernel), List.mem_of_getElem? (i := 757) (by decide +kernel), List.mem_of_getElem? (i := 758) (by decide +kernel)⟩
theorem lw_p11 : lw_okq (⟨"WindowSale$Scene", "draw", "()I"⟩, 11) := ⟨⟨by decide +kernel, by decide +kernel⟩, List.mem_of_getElem? (i := 154) (by decide +kernel), List.mem_of_getElem? (i := 761) (by decide +kernel), List.mem_of_getElem? (i := 762) (by decide +kernel)⟩
theorem lw_p12 : lw_okq (⟨"WindowSale$Scene", "fruitResult", "(ZLWindowSale$Station;)I"⟩, 11) := ⟨⟨by decide +kernel, by decide +kernel⟩, List.mem_of_getElem? (i := 154) (by decide +kernel), List.mem_of_getElem? (i := 776) (by decide +kernel), List.mem_of_getElem? (i := 777) (by decide +kernel)⟩
theorem lw_p13 : lw_okq (⟨"WindowSale$Scene", "book", "(II)V"⟩, 11) := ⟨⟨by decide +kernel, by decide +kernel⟩, List.mem_of_getElem? (i := 154) (by decide +kernel), List.mem_of_getElem? (i := 788) (by decide +kernel), List.mem_of_getElem? (i := 789) (by decide +kernel)⟩
theorem lw_p14 : lw_okq (⟨"WindowSale$Scene", "passes", "(I)V"⟩, 11) := ⟨⟨by decide +kernel, by decide +kernel⟩, List.mem_of_getElem? (i := 154) (by decide +kernel), List.mem_of_getElem? (i := 798) (by decide +kernel), List.mem_of_getElem? (i := 799) (by decide +kernel)⟩
theorem lw_p15 : lw_okq (⟨"WindowSale$Plans", "prepareStarts", "()V"⟩, 20) := ⟨⟨by decide +kernel, by decide +kernel⟩, List.mem_of_getElem? (i := 246) (by decide +kernel), List.mem_of_getElem? (i := 887) (by decide +kernel), List.mem_of_getElem? (i := 888) (by decide +kernel)⟩
def lw_privs_1 : List (MethodName × Nat) := [(⟨"WindowSale$Station", "clear", "()V"⟩, 11), (⟨"WindowSale$Station", "addUsualStand", "()V"⟩, 11), (⟨"WindowSale$Reader", "readRun", "()V"⟩, 9), (⟨"WindowSale$Station", "readLine", "(LWindowSale$Reader;)Z"⟩, 11), (⟨"WindowSale$Station", "readWindow", "(LWindowSale$Reader;)Z"⟩, 11), (⟨"WindowSale$Station", "readStands", "(LWindowSale$Reader;)Z"⟩, 11), (⟨"WindowSale$Station", "readSetting", "(LWindowSale$Reader;I)Z"⟩, 11), (⟨"WindowSale", "keepIfDone", "(I)I"⟩, 17), (⟨"WindowSale", "keepTrial", "()V"⟩, 17), (⟨"WindowSale$Past", "sceneAt", "(ILWindowSale$Scene;)LWindowSale$Scene;"⟩, 3), (⟨"WindowSale$Scene", "coinResult", "(ZLWindowSale$Station;)I"⟩, 11), (⟨"WindowSale$Scene", "draw", "()I"⟩, 11), (⟨"WindowSale$Scene", "fruitResult", "(ZLWindowSale$Station;)I"⟩, 11), (⟨"WindowSale$Scene", "book", "(II)V"⟩, 11), (⟨"WindowSale$Scene", "passes", "(I)V"⟩, 11), (⟨"WindowSale$Plans", "prepareStarts", "()V"⟩, 20)]
theorem lw_r1 : ∀ q ∈ lw_privs_1, lw_okq q := List.forall_mem_cons.mpr ⟨lw_p0, List.forall_mem_cons.mpr ⟨lw_p1, List.forall_mem_cons.mpr ⟨lw_p2, List.forall_mem_cons.mpr ⟨lw_p3, List.forall_mem_cons.mpr ⟨lw_p4, List.forall_mem_cons.mpr ⟨lw_p5, List.forall_mem_cons.mpr ⟨lw_p6, List.forall_mem_cons.mpr ⟨lw_p7, List.forall_mem_cons.mpr ⟨lw_p8, List.forall_mem_cons.mpr ⟨lw_p9, List.forall_mem_cons.mpr ⟨lw_p10, List.forall_mem_cons.mpr ⟨lw_p11, List.forall_mem_cons.mpr ⟨lw_p12, List.forall_mem_cons.mpr ⟨lw_p13, List.forall_mem_cons.mpr ⟨lw_p14, List.forall_mem_cons.mpr ⟨lw_p15, fun _ h => absurd h List.not_mem_nil⟩⟩⟩⟩⟩⟩⟩⟩⟩⟩⟩⟩⟩⟩⟩⟩
theorem lw_p16 : lw_okq (⟨"WindowSale$Plans", "clearRests", "()V"⟩, 20) := ⟨⟨by decide +kernel, by decide +kernel⟩, List.mem_of_getElem? (i := 246) (by decide +kernel), List.mem_of_getElem? (i := 906) (by decide +kernel), List.mem_of_getElem? (i := 907) (by decide +kernel)⟩
theorem lw_p17 : lw_okq (⟨"WindowSale$Plans", "putAhead", "(IIIZ)V"⟩, 20) := ⟨⟨by decide +kernel, by decide +kernel⟩, List.mem_of_getElem? (i := 246) (by decide +kernel), List.mem_of_getElem? (i := 910) (by decide +kernel), List.mem_of_getElem? (i := 911) (by decide +kernel)⟩
theorem lw_p18 : lw_okq (⟨"WindowSale$Plans", "weighSales", "(IIIII)V"⟩, 20) := ⟨⟨by decide +kernel, by decide +kernel⟩, List.mem_of_getElem? (i := 246) (by decide +kernel), List.mem_of_getElem? (i := 917) (by decide +kernel), List.mem_of_getElem? (i := 918) (by decide +kernel)⟩
theorem lw_p19 : lw_okq (⟨"WindowSale$Plans", "restFrom", "(II)I"⟩, 20) := ⟨⟨by decide +kernel, by decide +kernel⟩, List.mem_of_getElem? (i := 246) (by decide +kernel), List.mem_of_getElem? (i := 922) (by decide +kernel), List.mem_of_getElem? (i := 923) (by decide +kernel)⟩
theorem lw_p20 : lw_okq (⟨"WindowSale$Plans", "keepChoice", "(IJZ)V"⟩, 20) := ⟨⟨by decide +kernel, by decide +kernel⟩, List.mem_of_getElem? (i := 246) (by decide +kernel), List.mem_of_getElem? (i := 929) (by decide +kernel), List.mem_of_getElem? (i := 930) (by decide +kernel)⟩
theorem lw_p21 : lw_okq (⟨"WindowSale$Plans", "gainInAll", "(I)I"⟩, 20) := ⟨⟨by decide +kernel, by decide +kernel⟩, List.mem_of_getElem? (i := 246) (by decide +kernel), List.mem_of_getElem? (i := 936) (by decide +kernel), List.mem_of_getElem? (i := 937) (by decide +kernel)⟩
theorem lw_p22 : lw_okq (⟨"WindowSale$Plans", "traceBest", "()V"⟩, 20) := ⟨⟨by decide +kernel, by decide +kernel⟩, List.mem_of_getElem? (i := 246) (by decide +kernel), List.mem_of_getElem? (i := 941) (by decide +kernel), List.mem_of_getElem? (i := 942) (by decide +kernel)⟩
theorem lw_p23 : lw_okq (⟨"WindowSale$Plans", "chosenSales", "(III)I"⟩, 20) := ⟨⟨by decide +kernel, by decide +kernel⟩, List.mem_of_getElem? (i := 246) (by decide +kernel), List.mem_of_getElem? (i := 945) (by decide +kernel), List.mem_of_getElem? (i := 946) (by decide +kernel)⟩
theorem lw_p24 : lw_okq (⟨"WindowSale$Plans", "noteSale", "(II)V"⟩, 20) := ⟨⟨by decide +kernel, by decide +kernel⟩, List.mem_of_getElem? (i := 246) (by decide +kernel), List.mem_of_getElem? (i := 950) (by decide +kernel), List.mem_of_getElem? (i := 951) (by decide +kernel)⟩
theorem lw_p25 : lw_okq (⟨"WindowSale$Plans", "measureUp", "(II)V"⟩, 20) := ⟨⟨by decide +kernel, by decide +kernel⟩, List.mem_of_getElem? (i := 246) (by decide +kernel), List.mem_of_getElem? (i := 1004) (by decide +kernel), List.mem_of_getElem? (i := 1005) (by decide +kernel)⟩
theorem lw_p26 : lw_okq (⟨"WindowSale$Plans", "measureDown", "(II)V"⟩, 20) := ⟨⟨by decide +kernel, by decide +kernel⟩, List.mem_of_getElem? (i := 246) (by decide +kernel), List.mem_of_getElem? (i := 1008) (by decide +kernel), List.mem_of_getElem? (i := 1009) (by decide +kernel)⟩
theorem lw_p27 : lw_okq (⟨"WindowSale", "canDraw", "(I)Z"⟩, 17) := ⟨⟨by decide +kernel, by decide +kernel⟩, List.mem_of_getElem? (i := 26) (by decide +kernel), List.mem_of_getElem? (i := 1100) (by decide +kernel), List.mem_of_getElem? (i := 1101) (by decide +kernel)⟩
theorem lw_p28 : lw_okq (⟨"WindowSale$Days", "draw", "(I)I"⟩, 3) := ⟨⟨by decide +kernel, by decide +kernel⟩, List.mem_of_getElem? (i := 318) (by decide +kernel), List.mem_of_getElem? (i := 1109) (by decide +kernel), List.mem_of_getElem? (i := 1110) (by decide +kernel)⟩
theorem lw_p29 : lw_okq (⟨"WindowSale$Days", "isPaid", "(IILWindowSale$Station;LWindowSale$Plans;)Z"⟩, 3) := ⟨⟨by decide +kernel, by decide +kernel⟩, List.mem_of_getElem? (i := 318) (by decide +kernel), List.mem_of_getElem? (i := 1121) (by decide +kernel), List.mem_of_getElem? (i := 1122) (by decide +kernel)⟩
theorem lw_p30 : lw_okq (⟨"WindowSale$Log", "readLine", "(LWindowSale$Reader;)Z"⟩, 8) := ⟨⟨by decide +kernel, by decide +kernel⟩, List.mem_of_getElem? (i := 363) (by decide +kernel), List.mem_of_getElem? (i := 1145) (by decide +kernel), List.mem_of_getElem? (i := 1146) (by decide +kernel)⟩
theorem lw_p31 : lw_okq (⟨"WindowSale$Log", "readNumber", "(LWindowSale$Reader;II)Z"⟩, 8) := ⟨⟨by decide +kernel, by decide +kernel⟩, List.mem_of_getElem? (i := 363) (by decide +kernel), List.mem_of_getElem? (i := 1154) (by decide +kernel), List.mem_of_getElem? (i := 1155) (by decide +kernel)⟩
def lw_privs_2 : List (MethodName × Nat) := [(⟨"WindowSale$Plans", "clearRests", "()V"⟩, 20), (⟨"WindowSale$Plans", "putAhead", "(IIIZ)V"⟩, 20), (⟨"WindowSale$Plans", "weighSales", "(IIIII)V"⟩, 20), (⟨"WindowSale$Plans", "restFrom", "(II)I"⟩, 20), (⟨"WindowSale$Plans", "keepChoice", "(IJZ)V"⟩, 20), (⟨"WindowSale$Plans", "gainInAll", "(I)I"⟩, 20), (⟨"WindowSale$Plans", "traceBest", "()V"⟩, 20), (⟨"WindowSale$Plans", "chosenSales", "(III)I"⟩, 20), (⟨"WindowSale$Plans", "noteSale", "(II)V"⟩, 20), (⟨"WindowSale$Plans", "measureUp", "(II)V"⟩, 20), (⟨"WindowSale$Plans", "measureDown", "(II)V"⟩, 20), (⟨"WindowSale", "canDraw", "(I)Z"⟩, 17), (⟨"WindowSale$Days", "draw", "(I)I"⟩, 3), (⟨"WindowSale$Days", "isPaid", "(IILWindowSale$Station;LWindowSale$Plans;)Z"⟩, 3), (⟨"WindowSale$Log", "readLine", "(LWindowSale$Reader;)Z"⟩, 8), (⟨"WindowSale$Log", "readNumber", "(LWindowSale$Reader;II)Z"⟩, 8)]
theorem lw_r2 : ∀ q ∈ lw_privs_2, lw_okq q := List.forall_mem_cons.mpr ⟨lw_p16, List.forall_mem_cons.mpr ⟨lw_p17, List.forall_mem_cons.mpr ⟨lw_p18, List.forall_mem_cons.mpr ⟨lw_p19, List.forall_mem_cons.mpr ⟨lw_p20, List.forall_mem_cons.mpr ⟨lw_p21, List.forall_mem_cons.mpr ⟨lw_p22, List.forall_mem_cons.mpr ⟨lw_p23, List.forall_mem_cons.mpr ⟨lw_p24, List.forall_mem_cons.mpr ⟨lw_p25, List.forall_mem_cons.mpr ⟨lw_p26, List.forall_mem_cons.mpr ⟨lw_p27, List.forall_mem_cons.mpr ⟨lw_p28, List.forall_mem_cons.mpr ⟨lw_p29, List.forall_mem_cons.mpr ⟨lw_p30, List.forall_mem_cons.mpr ⟨lw_p31, fun _ h => absurd h List.not_mem_nil⟩⟩⟩⟩⟩⟩⟩⟩⟩⟩⟩⟩⟩⟩⟩⟩
theorem lw_p32 : lw_okq (⟨"WindowSale$Sentence", "readCond", "(LWindowSale$Reader;I)Z"⟩, 4) := ⟨⟨by decide +kernel, by decide +kernel⟩, List.mem_of_getElem? (i := 226) (by decide +kernel), List.mem_of_getElem? (i := 1190) (by decide +kernel), List.mem_of_getElem? (i := 1191) (by decide +kernel)⟩
theorem lw_p33 : lw_okq (⟨"WindowSale$Sentence", "readOne", "(LWindowSale$Reader;I)Z"⟩, 4) := ⟨⟨by decide +kernel, by decide +kernel⟩, List.mem_of_getElem? (i := 226) (by decide +kernel), List.mem_of_getElem? (i := 1194) (by decide +kernel), List.mem_of_getElem? (i := 1195) (by decide +kernel)⟩
theorem lw_p34 : lw_okq (⟨"WindowSale$Sentence", "emit", "(I)V"⟩, 4) := ⟨⟨by decide +kernel, by decide +kernel⟩, List.mem_of_getElem? (i := 226) (by decide +kernel), List.mem_of_getElem? (i := 1204) (by decide +kernel), List.mem_of_getElem? (i := 1205) (by decide +kernel)⟩
theorem lw_p35 : lw_okq (⟨"WindowSale$Sentence", "readComparison", "(LWindowSale$Reader;I)Z"⟩, 4) := ⟨⟨by decide +kernel, by decide +kernel⟩, List.mem_of_getElem? (i := 226) (by decide +kernel), List.mem_of_getElem? (i := 1210) (by decide +kernel), List.mem_of_getElem? (i := 1211) (by decide +kernel)⟩
theorem lw_p36 : lw_okq (⟨"WindowSale", "imageAt", "(I)LWindowSale$Image;"⟩, 17) := ⟨⟨by decide +kernel, by decide +kernel⟩, List.mem_of_getElem? (i := 26) (by decide +kernel), List.mem_of_getElem? (i := 1263) (by decide +kernel), List.mem_of_getElem? (i := 1264) (by decide +kernel)⟩
theorem lw_p37 : lw_okq (⟨"java/lang/Throwable", "fillInStackTrace", "(I)Ljava/lang/Throwable;"⟩, 6) := ⟨⟨by decide +kernel, by decide +kernel⟩, List.mem_of_getElem? (i := 1331) (by decide +kernel), List.mem_of_getElem? (i := 1329) (by decide +kernel), List.mem_of_getElem? (i := 1330) (by decide +kernel)⟩
theorem lw_p38 : lw_okq (⟨"WindowSaleModel", "four", "(I)V"⟩, 47) := ⟨⟨by decide +kernel, by decide +kernel⟩, List.mem_of_getElem? (i := 1444) (by decide +kernel), List.mem_of_getElem? (i := 1442) (by decide +kernel), List.mem_of_getElem? (i := 1443) (by decide +kernel)⟩
theorem lw_p39 : lw_okq (⟨"WindowSaleModel", "clears", "()V"⟩, 47) := ⟨⟨by decide +kernel, by decide +kernel⟩, List.mem_of_getElem? (i := 1444) (by decide +kernel), List.mem_of_getElem? (i := 1456) (by decide +kernel), List.mem_of_getElem? (i := 1457) (by decide +kernel)⟩
theorem lw_p40 : lw_okq (⟨"WindowSaleModel", "taken", "(I)V"⟩, 47) := ⟨⟨by decide +kernel, by decide +kernel⟩, List.mem_of_getElem? (i := 1444) (by decide +kernel), List.mem_of_getElem? (i := 1607) (by decide +kernel), List.mem_of_getElem? (i := 1608) (by decide +kernel)⟩
theorem lw_p41 : lw_okq (⟨"WindowSaleModel", "next", "()V"⟩, 47) := ⟨⟨by decide +kernel, by decide +kernel⟩, List.mem_of_getElem? (i := 1444) (by decide +kernel), List.mem_of_getElem? (i := 1611) (by decide +kernel), List.mem_of_getElem? (i := 1612) (by decide +kernel)⟩
theorem lw_p42 : lw_okq (⟨"WindowSaleModel", "peek", "()I"⟩, 47) := ⟨⟨by decide +kernel, by decide +kernel⟩, List.mem_of_getElem? (i := 1444) (by decide +kernel), List.mem_of_getElem? (i := 1615) (by decide +kernel), List.mem_of_getElem? (i := 1616) (by decide +kernel)⟩
theorem lw_p43 : lw_okq (⟨"WindowSaleModel", "line", "()Z"⟩, 47) := ⟨⟨by decide +kernel, by decide +kernel⟩, List.mem_of_getElem? (i := 1444) (by decide +kernel), List.mem_of_getElem? (i := 1625) (by decide +kernel), List.mem_of_getElem? (i := 1626) (by decide +kernel)⟩
theorem lw_p44 : lw_okq (⟨"WindowSaleModel", "isWord", "(J)Z"⟩, 47) := ⟨⟨by decide +kernel, by decide +kernel⟩, List.mem_of_getElem? (i := 1444) (by decide +kernel), List.mem_of_getElem? (i := 1630) (by decide +kernel), List.mem_of_getElem? (i := 1631) (by decide +kernel)⟩
theorem lw_p45 : lw_okq (⟨"WindowSaleModel", "bad", "(I)Z"⟩, 47) := ⟨⟨by decide +kernel, by decide +kernel⟩, List.mem_of_getElem? (i := 1444) (by decide +kernel), List.mem_of_getElem? (i := 1634) (by decide +kernel), List.mem_of_getElem? (i := 1635) (by decide +kernel)⟩
theorem lw_p46 : lw_okq (⟨"WindowSaleModel", "puts", "(III)Z"⟩, 47) := ⟨⟨by decide +kernel, by decide +kernel⟩, List.mem_of_getElem? (i := 1444) (by decide +kernel), List.mem_of_getElem? (i := 1638) (by decide +kernel), List.mem_of_getElem? (i := 1639) (by decide +kernel)⟩
theorem lw_p47 : lw_okq (⟨"WindowSaleModel", "takes", "(II)Z"⟩, 47) := ⟨⟨by decide +kernel, by decide +kernel⟩, List.mem_of_getElem? (i := 1444) (by decide +kernel), List.mem_of_getElem? (i := 1642) (by decide +kernel), List.mem_of_getElem? (i := 1643) (by decide +kernel)⟩
def lw_privs_3 : List (MethodName × Nat) := [(⟨"WindowSale$Sentence", "readCond", "(LWindowSale$Reader;I)Z"⟩, 4), (⟨"WindowSale$Sentence", "readOne", "(LWindowSale$Reader;I)Z"⟩, 4), (⟨"WindowSale$Sentence", "emit", "(I)V"⟩, 4), (⟨"WindowSale$Sentence", "readComparison", "(LWindowSale$Reader;I)Z"⟩, 4), (⟨"WindowSale", "imageAt", "(I)LWindowSale$Image;"⟩, 17), (⟨"java/lang/Throwable", "fillInStackTrace", "(I)Ljava/lang/Throwable;"⟩, 6), (⟨"WindowSaleModel", "four", "(I)V"⟩, 47), (⟨"WindowSaleModel", "clears", "()V"⟩, 47), (⟨"WindowSaleModel", "taken", "(I)V"⟩, 47), (⟨"WindowSaleModel", "next", "()V"⟩, 47), (⟨"WindowSaleModel", "peek", "()I"⟩, 47), (⟨"WindowSaleModel", "line", "()Z"⟩, 47), (⟨"WindowSaleModel", "isWord", "(J)Z"⟩, 47), (⟨"WindowSaleModel", "bad", "(I)Z"⟩, 47), (⟨"WindowSaleModel", "puts", "(III)Z"⟩, 47), (⟨"WindowSaleModel", "takes", "(II)Z"⟩, 47)]
theorem lw_r3 : ∀ q ∈ lw_privs_3, lw_okq q := List.forall_mem_cons.mpr ⟨lw_p32, List.forall_mem_cons.mpr ⟨lw_p33, List.forall_mem_cons.mpr ⟨lw_p34, List.forall_mem_cons.mpr ⟨lw_p35, List.forall_mem_cons.mpr ⟨lw_p36, List.forall_mem_cons.mpr ⟨lw_p37, List.forall_mem_cons.mpr ⟨lw_p38, List.forall_mem_cons.mpr ⟨lw_p39, List.forall_mem_cons.mpr ⟨lw_p40, List.forall_mem_cons.mpr ⟨lw_p41, List.forall_mem_cons.mpr ⟨lw_p42, List.forall_mem_cons.mpr ⟨lw_p43, List.forall_mem_cons.mpr ⟨lw_p44, List.forall_mem_cons.mpr ⟨lw_p45, List.forall_mem_cons.mpr ⟨lw_p46, List.forall_mem_cons.mpr ⟨lw_p47, fun _ h => absurd h List.not_mem_nil⟩⟩⟩⟩⟩⟩⟩⟩⟩⟩⟩⟩⟩⟩⟩⟩
theorem lw_p48 : lw_okq (⟨"WindowSaleModel", "whichOf", "()I"⟩, 47) := ⟨⟨by decide +kernel, by decide +kernel⟩, List.mem_of_getElem? (i := 1444) (by decide +kernel), List.mem_of_getElem? (i := 1650) (by decide +kernel), List.mem_of_getElem? (i := 1651) (by decide +kernel)⟩
theorem lw_p49 : lw_okq (⟨"WindowSaleModel", "sign", "(I)Z"⟩, 47) := ⟨⟨by decide +kernel, by decide +kernel⟩, List.mem_of_getElem? (i := 1444) (by decide +kernel), List.mem_of_getElem? (i := 1668) (by decide +kernel), List.mem_of_getElem? (i := 1669) (by decide +kernel)⟩
theorem lw_p50 : lw_okq (⟨"WindowSaleModel", "isSign", "(I)Z"⟩, 47) := ⟨⟨by decide +kernel, by decide +kernel⟩, List.mem_of_getElem? (i := 1444) (by decide +kernel), List.mem_of_getElem? (i := 1672) (by decide +kernel), List.mem_of_getElem? (i := 1673) (by decide +kernel)⟩
theorem lw_p51 : lw_okq (⟨"WindowSaleModel", "isWindow", "(I)Z"⟩, 47) := ⟨⟨by decide +kernel, by decide +kernel⟩, List.mem_of_getElem? (i := 1444) (by decide +kernel), List.mem_of_getElem? (i := 1684) (by decide +kernel), List.mem_of_getElem? (i := 1685) (by decide +kernel)⟩
theorem lw_p52 : lw_okq (⟨"WindowSaleModel", "throwsIf", "(Z)Z"⟩, 47) := ⟨⟨by decide +kernel, by decide +kernel⟩, List.mem_of_getElem? (i := 1444) (by decide +kernel), List.mem_of_getElem? (i := 1688) (by decide +kernel), List.mem_of_getElem? (i := 1689) (by decide +kernel)⟩
theorem lw_p53 : lw_okq (⟨"WindowSaleModel", "standMany", "()I"⟩, 47) := ⟨⟨by decide +kernel, by decide +kernel⟩, List.mem_of_getElem? (i := 1444) (by decide +kernel), List.mem_of_getElem? (i := 1696) (by decide +kernel), List.mem_of_getElem? (i := 1697) (by decide +kernel)⟩
theorem lw_p54 : lw_okq (⟨"WindowSaleModel", "secondsOf", "(I)I"⟩, 47) := ⟨⟨by decide +kernel, by decide +kernel⟩, List.mem_of_getElem? (i := 1444) (by decide +kernel), List.mem_of_getElem? (i := 1703) (by decide +kernel), List.mem_of_getElem? (i := 1704) (by decide +kernel)⟩
theorem lw_p55 : lw_okq (⟨"WindowSaleModel", "weightOf", "(I)I"⟩, 47) := ⟨⟨by decide +kernel, by decide +kernel⟩, List.mem_of_getElem? (i := 1444) (by decide +kernel), List.mem_of_getElem? (i := 1707) (by decide +kernel), List.mem_of_getElem? (i := 1708) (by decide +kernel)⟩
theorem lw_p56 : lw_okq (⟨"WindowSaleModel", "isThere", "()Z"⟩, 47) := ⟨⟨by decide +kernel, by decide +kernel⟩, List.mem_of_getElem? (i := 1444) (by decide +kernel), List.mem_of_getElem? (i := 1715) (by decide +kernel), List.mem_of_getElem? (i := 1716) (by decide +kernel)⟩
theorem lw_p57 : lw_okq (⟨"WindowSaleModel", "keep", "()V"⟩, 47) := ⟨⟨by decide +kernel, by decide +kernel⟩, List.mem_of_getElem? (i := 1444) (by decide +kernel), List.mem_of_getElem? (i := 1723) (by decide +kernel), List.mem_of_getElem? (i := 1724) (by decide +kernel)⟩
theorem lw_p58 : lw_okq (⟨"WindowSaleModel", "comes", "(II)V"⟩, 47) := ⟨⟨by decide +kernel, by decide +kernel⟩, List.mem_of_getElem? (i := 1444) (by decide +kernel), List.mem_of_getElem? (i := 1727) (by decide +kernel), List.mem_of_getElem? (i := 1728) (by decide +kernel)⟩
theorem lw_p59 : lw_okq (⟨"WindowSaleModel", "whyBegin", "()I"⟩, 47) := ⟨⟨by decide +kernel, by decide +kernel⟩, List.mem_of_getElem? (i := 1444) (by decide +kernel), List.mem_of_getElem? (i := 1735) (by decide +kernel), List.mem_of_getElem? (i := 1736) (by decide +kernel)⟩
theorem lw_p60 : lw_okq (⟨"WindowSaleModel", "whySell", "()I"⟩, 47) := ⟨⟨by decide +kernel, by decide +kernel⟩, List.mem_of_getElem? (i := 1444) (by decide +kernel), List.mem_of_getElem? (i := 1743) (by decide +kernel), List.mem_of_getElem? (i := 1744) (by decide +kernel)⟩
theorem lw_p61 : lw_okq (⟨"WindowSaleModel", "canAct", "()Z"⟩, 47) := ⟨⟨by decide +kernel, by decide +kernel⟩, List.mem_of_getElem? (i := 1444) (by decide +kernel), List.mem_of_getElem? (i := 1747) (by decide +kernel), List.mem_of_getElem? (i := 1748) (by decide +kernel)⟩
theorem lw_p62 : lw_okq (⟨"WindowSaleModel", "sells", "(I)V"⟩, 47) := ⟨⟨by decide +kernel, by decide +kernel⟩, List.mem_of_getElem? (i := 1444) (by decide +kernel), List.mem_of_getElem? (i := 1751) (by decide +kernel), List.mem_of_getElem? (i := 1752) (by decide +kernel)⟩
theorem lw_p63 : lw_okq (⟨"WindowSaleModel", "fruitFirst", "(Z)I"⟩, 47) := ⟨⟨by decide +kernel, by decide +kernel⟩, List.mem_of_getElem? (i := 1444) (by decide +kernel), List.mem_of_getElem? (i := 1755) (by decide +kernel), List.mem_of_getElem? (i := 1756) (by decide +kernel)⟩
def lw_privs_4 : List (MethodName × Nat) := [(⟨"WindowSaleModel", "whichOf", "()I"⟩, 47), (⟨"WindowSaleModel", "sign", "(I)Z"⟩, 47), (⟨"WindowSaleModel", "isSign", "(I)Z"⟩, 47), (⟨"WindowSaleModel", "isWindow", "(I)Z"⟩, 47), (⟨"WindowSaleModel", "throwsIf", "(Z)Z"⟩, 47), (⟨"WindowSaleModel", "standMany", "()I"⟩, 47), (⟨"WindowSaleModel", "secondsOf", "(I)I"⟩, 47), (⟨"WindowSaleModel", "weightOf", "(I)I"⟩, 47), (⟨"WindowSaleModel", "isThere", "()Z"⟩, 47), (⟨"WindowSaleModel", "keep", "()V"⟩, 47), (⟨"WindowSaleModel", "comes", "(II)V"⟩, 47), (⟨"WindowSaleModel", "whyBegin", "()I"⟩, 47), (⟨"WindowSaleModel", "whySell", "()I"⟩, 47), (⟨"WindowSaleModel", "canAct", "()Z"⟩, 47), (⟨"WindowSaleModel", "sells", "(I)V"⟩, 47), (⟨"WindowSaleModel", "fruitFirst", "(Z)I"⟩, 47)]
theorem lw_r4 : ∀ q ∈ lw_privs_4, lw_okq q := List.forall_mem_cons.mpr ⟨lw_p48, List.forall_mem_cons.mpr ⟨lw_p49, List.forall_mem_cons.mpr ⟨lw_p50, List.forall_mem_cons.mpr ⟨lw_p51, List.forall_mem_cons.mpr ⟨lw_p52, List.forall_mem_cons.mpr ⟨lw_p53, List.forall_mem_cons.mpr ⟨lw_p54, List.forall_mem_cons.mpr ⟨lw_p55, List.forall_mem_cons.mpr ⟨lw_p56, List.forall_mem_cons.mpr ⟨lw_p57, List.forall_mem_cons.mpr ⟨lw_p58, List.forall_mem_cons.mpr ⟨lw_p59, List.forall_mem_cons.mpr ⟨lw_p60, List.forall_mem_cons.mpr ⟨lw_p61, List.forall_mem_cons.mpr ⟨lw_p62, List.forall_mem_cons.mpr ⟨lw_p63, fun _ h => absurd h List.not_mem_nil⟩⟩⟩⟩⟩⟩⟩⟩⟩⟩⟩⟩⟩⟩⟩⟩
theorem lw_p64 : lw_okq (⟨"WindowSaleModel", "draw", "(I)I"⟩, 47) := ⟨⟨by decide +kernel, by decide +kernel⟩, List.mem_of_getElem? (i := 1444) (by decide +kernel), List.mem_of_getElem? (i := 1759) (by decide +kernel), List.mem_of_getElem? (i := 1760) (by decide +kernel)⟩
theorem lw_p65 : lw_okq (⟨"WindowSaleModel", "coinFirst", "(Z)I"⟩, 47) := ⟨⟨by decide +kernel, by decide +kernel⟩, List.mem_of_getElem? (i := 1444) (by decide +kernel), List.mem_of_getElem? (i := 1764) (by decide +kernel), List.mem_of_getElem? (i := 1765) (by decide +kernel)⟩
theorem lw_p66 : lw_okq (⟨"WindowSaleModel", "passes", "(I)V"⟩, 47) := ⟨⟨by decide +kernel, by decide +kernel⟩, List.mem_of_getElem? (i := 1444) (by decide +kernel), List.mem_of_getElem? (i := 1768) (by decide +kernel), List.mem_of_getElem? (i := 1769) (by decide +kernel)⟩
theorem lw_p67 : lw_okq (⟨"WindowSaleModel", "whyWalk", "(I)I"⟩, 47) := ⟨⟨by decide +kernel, by decide +kernel⟩, List.mem_of_getElem? (i := 1444) (by decide +kernel), List.mem_of_getElem? (i := 1779) (by decide +kernel), List.mem_of_getElem? (i := 1780) (by decide +kernel)⟩
theorem lw_p68 : lw_okq (⟨"WindowSaleModel", "walks", "(I)V"⟩, 47) := ⟨⟨by decide +kernel, by decide +kernel⟩, List.mem_of_getElem? (i := 1444) (by decide +kernel), List.mem_of_getElem? (i := 1783) (by decide +kernel), List.mem_of_getElem? (i := 1784) (by decide +kernel)⟩
theorem lw_p69 : lw_okq (⟨"WindowSaleModel", "whyWait", "()I"⟩, 47) := ⟨⟨by decide +kernel, by decide +kernel⟩, List.mem_of_getElem? (i := 1444) (by decide +kernel), List.mem_of_getElem? (i := 1791) (by decide +kernel), List.mem_of_getElem? (i := 1792) (by decide +kernel)⟩
theorem lw_p70 : lw_okq (⟨"WindowSaleModel", "hears", "(I)Z"⟩, 47) := ⟨⟨by decide +kernel, by decide +kernel⟩, List.mem_of_getElem? (i := 1444) (by decide +kernel), List.mem_of_getElem? (i := 1807) (by decide +kernel), List.mem_of_getElem? (i := 1808) (by decide +kernel)⟩
theorem lw_p71 : lw_okq (⟨"WindowSaleModel", "gainOf", "(III)I"⟩, 47) := ⟨⟨by decide +kernel, by decide +kernel⟩, List.mem_of_getElem? (i := 1444) (by decide +kernel), List.mem_of_getElem? (i := 1822) (by decide +kernel), List.mem_of_getElem? (i := 1823) (by decide +kernel)⟩
theorem lw_p72 : lw_okq (⟨"WindowSaleModel", "standing", "(I)I"⟩, 47) := ⟨⟨by decide +kernel, by decide +kernel⟩, List.mem_of_getElem? (i := 1444) (by decide +kernel), List.mem_of_getElem? (i := 1826) (by decide +kernel), List.mem_of_getElem? (i := 1827) (by decide +kernel)⟩
theorem lw_p73 : lw_okq (⟨"WindowSaleModel", "below", "()I"⟩, 47) := ⟨⟨by decide +kernel, by decide +kernel⟩, List.mem_of_getElem? (i := 1444) (by decide +kernel), List.mem_of_getElem? (i := 1830) (by decide +kernel), List.mem_of_getElem? (i := 1831) (by decide +kernel)⟩
theorem lw_p74 : lw_okq (⟨"WindowSaleModel", "betterOf", "(II)I"⟩, 47) := ⟨⟨by decide +kernel, by decide +kernel⟩, List.mem_of_getElem? (i := 1444) (by decide +kernel), List.mem_of_getElem? (i := 1838) (by decide +kernel), List.mem_of_getElem? (i := 1839) (by decide +kernel)⟩
theorem lw_p75 : lw_okq (⟨"WindowSaleModel", "endOf", "(I)I"⟩, 47) := ⟨⟨by decide +kernel, by decide +kernel⟩, List.mem_of_getElem? (i := 1444) (by decide +kernel), List.mem_of_getElem? (i := 1850) (by decide +kernel), List.mem_of_getElem? (i := 1851) (by decide +kernel)⟩
theorem lw_p76 : lw_okq (⟨"WindowSaleModel", "planOf", "(III)I"⟩, 47) := ⟨⟨by decide +kernel, by decide +kernel⟩, List.mem_of_getElem? (i := 1444) (by decide +kernel), List.mem_of_getElem? (i := 1854) (by decide +kernel), List.mem_of_getElem? (i := 1855) (by decide +kernel)⟩
theorem lw_p77 : lw_okq (⟨"WindowSaleModel", "plans", "(III)V"⟩, 47) := ⟨⟨by decide +kernel, by decide +kernel⟩, List.mem_of_getElem? (i := 1444) (by decide +kernel), List.mem_of_getElem? (i := 1858) (by decide +kernel), List.mem_of_getElem? (i := 1859) (by decide +kernel)⟩
theorem lw_p78 : lw_okq (⟨"WindowSaleModel", "chooses", "(IIIIZ)V"⟩, 47) := ⟨⟨by decide +kernel, by decide +kernel⟩, List.mem_of_getElem? (i := 1444) (by decide +kernel), List.mem_of_getElem? (i := 1865) (by decide +kernel), List.mem_of_getElem? (i := 1866) (by decide +kernel)⟩
theorem lw_p79 : lw_okq (⟨"WindowSaleModel", "mostAt", "(II)I"⟩, 47) := ⟨⟨by decide +kernel, by decide +kernel⟩, List.mem_of_getElem? (i := 1444) (by decide +kernel), List.mem_of_getElem? (i := 1869) (by decide +kernel), List.mem_of_getElem? (i := 1870) (by decide +kernel)⟩
def lw_privs_5 : List (MethodName × Nat) := [(⟨"WindowSaleModel", "draw", "(I)I"⟩, 47), (⟨"WindowSaleModel", "coinFirst", "(Z)I"⟩, 47), (⟨"WindowSaleModel", "passes", "(I)V"⟩, 47), (⟨"WindowSaleModel", "whyWalk", "(I)I"⟩, 47), (⟨"WindowSaleModel", "walks", "(I)V"⟩, 47), (⟨"WindowSaleModel", "whyWait", "()I"⟩, 47), (⟨"WindowSaleModel", "hears", "(I)Z"⟩, 47), (⟨"WindowSaleModel", "gainOf", "(III)I"⟩, 47), (⟨"WindowSaleModel", "standing", "(I)I"⟩, 47), (⟨"WindowSaleModel", "below", "()I"⟩, 47), (⟨"WindowSaleModel", "betterOf", "(II)I"⟩, 47), (⟨"WindowSaleModel", "endOf", "(I)I"⟩, 47), (⟨"WindowSaleModel", "planOf", "(III)I"⟩, 47), (⟨"WindowSaleModel", "plans", "(III)V"⟩, 47), (⟨"WindowSaleModel", "chooses", "(IIIIZ)V"⟩, 47), (⟨"WindowSaleModel", "mostAt", "(II)I"⟩, 47)]
theorem lw_r5 : ∀ q ∈ lw_privs_5, lw_okq q := List.forall_mem_cons.mpr ⟨lw_p64, List.forall_mem_cons.mpr ⟨lw_p65, List.forall_mem_cons.mpr ⟨lw_p66, List.forall_mem_cons.mpr ⟨lw_p67, List.forall_mem_cons.mpr ⟨lw_p68, List.forall_mem_cons.mpr ⟨lw_p69, List.forall_mem_cons.mpr ⟨lw_p70, List.forall_mem_cons.mpr ⟨lw_p71, List.forall_mem_cons.mpr ⟨lw_p72, List.forall_mem_cons.mpr ⟨lw_p73, List.forall_mem_cons.mpr ⟨lw_p74, List.forall_mem_cons.mpr ⟨lw_p75, List.forall_mem_cons.mpr ⟨lw_p76, List.forall_mem_cons.mpr ⟨lw_p77, List.forall_mem_cons.mpr ⟨lw_p78, List.forall_mem_cons.mpr ⟨lw_p79, fun _ h => absurd h List.not_mem_nil⟩⟩⟩⟩⟩⟩⟩⟩⟩⟩⟩⟩⟩⟩⟩⟩
theorem lw_p80 : lw_okq (⟨"WindowSaleModel", "bests", "()V"⟩, 47) := ⟨⟨by decide +kernel, by decide +kernel⟩, List.mem_of_getElem? (i := 1444) (by decide +kernel), List.mem_of_getElem? (i := 1883) (by decide +kernel), List.mem_of_getElem? (i := 1884) (by decide +kernel)⟩
theorem lw_p81 : lw_okq (⟨"WindowSaleModel", "penceBy", "(I)I"⟩, 47) := ⟨⟨by decide +kernel, by decide +kernel⟩, List.mem_of_getElem? (i := 1444) (by decide +kernel), List.mem_of_getElem? (i := 1887) (by decide +kernel), List.mem_of_getElem? (i := 1888) (by decide +kernel)⟩
theorem lw_p82 : lw_okq (⟨"WindowSaleModel", "saleEnd", "(I)I"⟩, 47) := ⟨⟨by decide +kernel, by decide +kernel⟩, List.mem_of_getElem? (i := 1444) (by decide +kernel), List.mem_of_getElem? (i := 1891) (by decide +kernel), List.mem_of_getElem? (i := 1892) (by decide +kernel)⟩
theorem lw_p83 : lw_okq (⟨"WindowSaleModel", "earned", "(II)I"⟩, 47) := ⟨⟨by decide +kernel, by decide +kernel⟩, List.mem_of_getElem? (i := 1444) (by decide +kernel), List.mem_of_getElem? (i := 1903) (by decide +kernel), List.mem_of_getElem? (i := 1904) (by decide +kernel)⟩
theorem lw_p84 : lw_okq (⟨"WindowSaleModel", "rowFrom", "(II)I"⟩, 47) := ⟨⟨by decide +kernel, by decide +kernel⟩, List.mem_of_getElem? (i := 1444) (by decide +kernel), List.mem_of_getElem? (i := 1907) (by decide +kernel), List.mem_of_getElem? (i := 1908) (by decide +kernel)⟩
theorem lw_p85 : lw_okq (⟨"WindowSaleModel", "rowGain", "(II)I"⟩, 47) := ⟨⟨by decide +kernel, by decide +kernel⟩, List.mem_of_getElem? (i := 1444) (by decide +kernel), List.mem_of_getElem? (i := 1911) (by decide +kernel), List.mem_of_getElem? (i := 1912) (by decide +kernel)⟩
theorem lw_p86 : lw_okq (⟨"WindowSaleModel", "holds", "(II)Z"⟩, 47) := ⟨⟨by decide +kernel, by decide +kernel⟩, List.mem_of_getElem? (i := 1444) (by decide +kernel), List.mem_of_getElem? (i := 1943) (by decide +kernel), List.mem_of_getElem? (i := 1944) (by decide +kernel)⟩
theorem lw_p87 : lw_okq (⟨"WindowSaleModel", "octet", "(I)I"⟩, 47) := ⟨⟨by decide +kernel, by decide +kernel⟩, List.mem_of_getElem? (i := 1444) (by decide +kernel), List.mem_of_getElem? (i := 1959) (by decide +kernel), List.mem_of_getElem? (i := 1960) (by decide +kernel)⟩
theorem lw_p88 : lw_okq (⟨"WindowSaleModel", "draws", "(II)V"⟩, 47) := ⟨⟨by decide +kernel, by decide +kernel⟩, List.mem_of_getElem? (i := 1444) (by decide +kernel), List.mem_of_getElem? (i := 1971) (by decide +kernel), List.mem_of_getElem? (i := 1972) (by decide +kernel)⟩
theorem lw_p89 : lw_okq (⟨"WindowSaleModel", "paid", "(II)Z"⟩, 47) := ⟨⟨by decide +kernel, by decide +kernel⟩, List.mem_of_getElem? (i := 1444) (by decide +kernel), List.mem_of_getElem? (i := 1975) (by decide +kernel), List.mem_of_getElem? (i := 1976) (by decide +kernel)⟩
theorem lw_p90 : lw_okq (⟨"WindowSaleModel", "logLine", "()Z"⟩, 47) := ⟨⟨by decide +kernel, by decide +kernel⟩, List.mem_of_getElem? (i := 1444) (by decide +kernel), List.mem_of_getElem? (i := 1987) (by decide +kernel), List.mem_of_getElem? (i := 1988) (by decide +kernel)⟩
theorem lw_p91 : lw_okq (⟨"WindowSaleModel", "deedOf", "()I"⟩, 47) := ⟨⟨by decide +kernel, by decide +kernel⟩, List.mem_of_getElem? (i := 1444) (by decide +kernel), List.mem_of_getElem? (i := 1991) (by decide +kernel), List.mem_of_getElem? (i := 1992) (by decide +kernel)⟩
theorem lw_p92 : lw_okq (⟨"WindowSaleModel", "does", "(II)I"⟩, 47) := ⟨⟨by decide +kernel, by decide +kernel⟩, List.mem_of_getElem? (i := 1444) (by decide +kernel), List.mem_of_getElem? (i := 2002) (by decide +kernel), List.mem_of_getElem? (i := 2003) (by decide +kernel)⟩
theorem lw_p93 : lw_okq (⟨"WindowSaleModel", "nots", "()V"⟩, 47) := ⟨⟨by decide +kernel, by decide +kernel⟩, List.mem_of_getElem? (i := 1444) (by decide +kernel), List.mem_of_getElem? (i := 2014) (by decide +kernel), List.mem_of_getElem? (i := 2015) (by decide +kernel)⟩
theorem lw_p94 : lw_okq (⟨"WindowSaleModel", "code", "(III)V"⟩, 47) := ⟨⟨by decide +kernel, by decide +kernel⟩, List.mem_of_getElem? (i := 1444) (by decide +kernel), List.mem_of_getElem? (i := 2018) (by decide +kernel), List.mem_of_getElem? (i := 2019) (by decide +kernel)⟩
theorem lw_p95 : lw_okq (⟨"WindowSaleModel", "joins", "(I)V"⟩, 47) := ⟨⟨by decide +kernel, by decide +kernel⟩, List.mem_of_getElem? (i := 1444) (by decide +kernel), List.mem_of_getElem? (i := 2022) (by decide +kernel), List.mem_of_getElem? (i := 2023) (by decide +kernel)⟩
def lw_privs_6 : List (MethodName × Nat) := [(⟨"WindowSaleModel", "bests", "()V"⟩, 47), (⟨"WindowSaleModel", "penceBy", "(I)I"⟩, 47), (⟨"WindowSaleModel", "saleEnd", "(I)I"⟩, 47), (⟨"WindowSaleModel", "earned", "(II)I"⟩, 47), (⟨"WindowSaleModel", "rowFrom", "(II)I"⟩, 47), (⟨"WindowSaleModel", "rowGain", "(II)I"⟩, 47), (⟨"WindowSaleModel", "holds", "(II)Z"⟩, 47), (⟨"WindowSaleModel", "octet", "(I)I"⟩, 47), (⟨"WindowSaleModel", "draws", "(II)V"⟩, 47), (⟨"WindowSaleModel", "paid", "(II)Z"⟩, 47), (⟨"WindowSaleModel", "logLine", "()Z"⟩, 47), (⟨"WindowSaleModel", "deedOf", "()I"⟩, 47), (⟨"WindowSaleModel", "does", "(II)I"⟩, 47), (⟨"WindowSaleModel", "nots", "()V"⟩, 47), (⟨"WindowSaleModel", "code", "(III)V"⟩, 47), (⟨"WindowSaleModel", "joins", "(I)V"⟩, 47)]
theorem lw_r6 : ∀ q ∈ lw_privs_6, lw_okq q := List.forall_mem_cons.mpr ⟨lw_p80, List.forall_mem_cons.mpr ⟨lw_p81, List.forall_mem_cons.mpr ⟨lw_p82, List.forall_mem_cons.mpr ⟨lw_p83, List.forall_mem_cons.mpr ⟨lw_p84, List.forall_mem_cons.mpr ⟨lw_p85, List.forall_mem_cons.mpr ⟨lw_p86, List.forall_mem_cons.mpr ⟨lw_p87, List.forall_mem_cons.mpr ⟨lw_p88, List.forall_mem_cons.mpr ⟨lw_p89, List.forall_mem_cons.mpr ⟨lw_p90, List.forall_mem_cons.mpr ⟨lw_p91, List.forall_mem_cons.mpr ⟨lw_p92, List.forall_mem_cons.mpr ⟨lw_p93, List.forall_mem_cons.mpr ⟨lw_p94, List.forall_mem_cons.mpr ⟨lw_p95, fun _ h => absurd h List.not_mem_nil⟩⟩⟩⟩⟩⟩⟩⟩⟩⟩⟩⟩⟩⟩⟩⟩
theorem lw_p96 : lw_okq (⟨"WindowSaleModel", "behind", "()Z"⟩, 47) := ⟨⟨by decide +kernel, by decide +kernel⟩, List.mem_of_getElem? (i := 1444) (by decide +kernel), List.mem_of_getElem? (i := 2026) (by decide +kernel), List.mem_of_getElem? (i := 2027) (by decide +kernel)⟩
theorem lw_p97 : lw_okq (⟨"WindowSaleModel", "operand", "()Z"⟩, 47) := ⟨⟨by decide +kernel, by decide +kernel⟩, List.mem_of_getElem? (i := 1444) (by decide +kernel), List.mem_of_getElem? (i := 2032) (by decide +kernel), List.mem_of_getElem? (i := 2033) (by decide +kernel)⟩
theorem lw_p98 : lw_okq (⟨"WindowSaleModel", "leafOf", "()I"⟩, 47) := ⟨⟨by decide +kernel, by decide +kernel⟩, List.mem_of_getElem? (i := 1444) (by decide +kernel), List.mem_of_getElem? (i := 2037) (by decide +kernel), List.mem_of_getElem? (i := 2038) (by decide +kernel)⟩
theorem lw_p99 : lw_okq (⟨"WindowSaleModel", "isSaid", "(I)Z"⟩, 47) := ⟨⟨by decide +kernel, by decide +kernel⟩, List.mem_of_getElem? (i := 1444) (by decide +kernel), List.mem_of_getElem? (i := 2052) (by decide +kernel), List.mem_of_getElem? (i := 2053) (by decide +kernel)⟩
theorem lw_p100 : lw_okq (⟨"WindowSaleModel", "isLeaf", "(IIII)Z"⟩, 47) := ⟨⟨by decide +kernel, by decide +kernel⟩, List.mem_of_getElem? (i := 1444) (by decide +kernel), List.mem_of_getElem? (i := 2056) (by decide +kernel), List.mem_of_getElem? (i := 2057) (by decide +kernel)⟩
def lw_privs_7 : List (MethodName × Nat) := [(⟨"WindowSaleModel", "behind", "()Z"⟩, 47), (⟨"WindowSaleModel", "operand", "()Z"⟩, 47), (⟨"WindowSaleModel", "leafOf", "()I"⟩, 47), (⟨"WindowSaleModel", "isSaid", "(I)Z"⟩, 47), (⟨"WindowSaleModel", "isLeaf", "(IIII)Z"⟩, 47)]
theorem lw_r7 : ∀ q ∈ lw_privs_7, lw_okq q := List.forall_mem_cons.mpr ⟨lw_p96, List.forall_mem_cons.mpr ⟨lw_p97, List.forall_mem_cons.mpr ⟨lw_p98, List.forall_mem_cons.mpr ⟨lw_p99, List.forall_mem_cons.mpr ⟨lw_p100, fun _ h => absurd h List.not_mem_nil⟩⟩⟩⟩⟩
def lw_privs : List (MethodName × Nat) := lw_privs_1 ++ (lw_privs_2 ++ (lw_privs_3 ++ (lw_privs_4 ++ (lw_privs_5 ++ (lw_privs_6 ++ (lw_privs_7))))))
def lw_tbl : List Cond := k2_sels lw_privs ++ tables_1
theorem lw_privs_ok : ∀ q ∈ lw_privs, lw_okq q := by
  show ∀ q ∈ lw_privs_1 ++ (lw_privs_2 ++ (lw_privs_3 ++ (lw_privs_4 ++ (lw_privs_5 ++ (lw_privs_6 ++ (lw_privs_7)))))), lw_okq q
  exact List.forall_mem_append.mpr ⟨lw_r1, List.forall_mem_append.mpr ⟨lw_r2, List.forall_mem_append.mpr ⟨lw_r3, List.forall_mem_append.mpr ⟨lw_r4, List.forall_mem_append.mpr ⟨lw_r5, List.forall_mem_append.mpr ⟨lw_r6, lw_r7⟩⟩⟩⟩⟩⟩
end
section
/-! ===== BEGIN words of one list among another's, by their places ===== -/
theorem goodIn_r {big : List Cond} (ws : List Cond) (ps : List Nat) (hp : ws = ps.filterMap (fun i => big[i]?)) (h : ws.all goodWord = true) : GoodIn big ws := by
  intro w hw
  have h1 := List.all_eq_true.mp h w hw
  rw [hp] at hw
  obtain ⟨i, -, hi⟩ := List.mem_filterMap.mp hw
  have hm : w ∈ big := by first | exact List.mem_of_getElem? hi | exact List.getElem?_mem hi
  exact ⟨hm, good_of_word h1⟩
theorem goodIn_app {big a b : List Cond} (ha : GoodIn big a) (hb : GoodIn big b) : GoodIn big (a ++ b) := fun w h => (List.mem_append.mp h).elim (ha w) (hb w)
theorem goodIn_ca {big a b : List Cond} {c : Cond} (ha : GoodIn big (c :: a)) (hb : GoodIn big b) : GoodIn big (c :: (a ++ b)) := fun w h => (List.mem_cons.mp h).elim (fun e => ha w (List.mem_cons.mpr (Or.inl e))) (fun h => (List.mem_append.mp h).elim (fun h => ha w (List.mem_cons.mpr (Or.inr h))) (hb w))
theorem goodIn_sub {big ws : List Cond} (hm : ∀ w ∈ ws, w ∈ big) (h : ws.all goodWord = true) : GoodIn big ws := fun w hw => ⟨hm w hw, good_of_word (List.all_eq_true.mp h w hw)⟩
/-! ===== END ===== -/

/-! ===== BEGIN exceptions that leave a method, and their catching by the caller (launches without stack traces) ===== -/
section VXA
/-! The laws vx_back, vx_callV, vx_callS, vx_callSW, vx_throw0, vx_throwS follow proofs of the library, with one case more: JvmDerived/Free/Laws.lean (Back.of_free), Shelf42/LK1.lean (callV, callS), Shelf/KitTraced.lean (throwNew0V, throwNewS). -/
/-- where a method has thrown q: the class by its name, the cell, what was written, the world -/
def vx_T (XC : String → State → State → Prop) (st : State) (q : Addr) (t : State) (mc ms : Nat) (free : Addr → Prop) : Prop :=
  ∃ (E : String) (ce : Cell) (L : List Loc), XC E st t ∧ t.heap[q]? = some ce ∧ ce.vm = .none ∧ st.vm.findClass E = some ce.cls ∧ st.WarmedH t.vm ∧ st.sameButNew ({ t with vm := st.vm } : State) L mc ms ∧ ∀ z ∈ L, free z.base
def vx_Q (Qc : Array Value → State → Outcome → State → Prop) (XC : String → State → State → Prop) (mc ms : Nat) (free : Addr → Prop) : Array Value → State → Outcome → State → Prop := fun a st o t =>
  (Qc a st o t ∧ ∃ L, FrameEnd st o t L mc ms ∧ ∀ q ∈ L, free q.base) ∨ ∃ q, o = .threw q ∧ vx_T XC st q t mc ms free
/-- a callee that returns or throws -/
def vx_Met (l : Launch) (y : MethodName) (ws : List Cond) (rm : Room) (Pc : Array Value → State → Prop) (Qc : Array Value → State → Outcome → State → Prop) (XC : String → State → State → Prop) (mc ms : Nat) (free : Addr → Prop) : Prop :=
  MetFree l y (headSpec ws rm) Pc (fun _ _ _ _ _ => True) (vx_Q Qc XC mc ms free)
def vx_Post (XC : String → State → State → Prop) (mc ms : Nat) (free : Addr → Prop) : Pt → Array Value → Addr → Pt → Prop := fun A a q B =>
  ∃ (g : JFrame) (mk : MethodId) (t : State) (L : List Loc) (E : String) (ce : Cell), B.U.heap = t.heap ∧ B.U.vm = t.vm ∧ XC E (A.U.calling g mk a) t ∧ t.heap[q]? = some ce ∧ ce.vm = .none ∧ A.U.vm.findClass E = some ce.cls ∧ B.locs = A.locs ++ L ∧ (∀ z ∈ L, free z.base) ∧ B.cells = A.cells + mc ∧ B.slots = A.slots + ms
def vx_Back (l : Launch) (R : Room) (p : Program) (e : Env) (below : List Frame) (s : State) (sargs : Array Value) (y : MethodName) (len W9 : Nat)
    (Pre : Pt → Array Value → Prop) (Post : Pt → Array Value → Option Value → Pt → Prop) (PostX : Pt → Array Value → Addr → Pt → Prop) : Prop :=
  ∀ (m : MethodId) (meth : Method) (c : Code) (A : Pt) (g : JFrame) (ig : Instr) (mk : MethodId) (a : Array Value),
    Stand p l e R s m sargs below meth c A.U A.locs A.cells A.slots → g.method = m → g.locals.size = c.maxLocals → decode c.code g.pc = .ok (ig, len) →
    2 * g.monitorRoom + (g.stack.map fun v => v.category).sum ≤ W9 → A.U.methodNamed? y = some mk → Pre A a →
    (∃ (v : Option Value) (B : Pt), Stand p l e R s m sargs below meth c B.U B.locs B.cells B.slots ∧ Post A a v B ∧
      Steps p.tables e below (doInvoke e (A.U.setTop g) [] mk a).1 (B.U.setTop { g with pc := g.pc + len, stack := v.toList ++ g.stack })) ∨
    (∃ (q : Addr) (B : Pt), Stand p l e R s m sargs below meth c B.U B.locs B.cells B.slots ∧ PostX A a q B ∧
      Steps p.tables e below (doInvoke e (A.U.setTop g) [] mk a).1 ((B.U.setTop g).pushFrame (.throwing q)))
section Payer
variable {l : Launch} {R : Room} {p : Program} {e : Env} {below : List Frame} {s : State} {sargs : Array Value} {y : MethodName} {len W9 : Nat}
theorem vx_back {ws : List Cond} {rm : Room} {Pc : Array Value → State → Prop} {Qc : Array Value → State → Outcome → State → Prop} {XC : String → State → State → Prop} {mc ms : Nat} {free : Addr → Prop} {bytes : ByteArray} {maxL : Nat} {ret : Option FieldType}
    (hM : vx_Met l y ws rm Pc Qc XC mc ms free) (hblind : FrameBlind Pc) (hrc : rm.cells = mc) (hrs : rm.slots = ms)
    (hframes : rm.frames + 1 ≤ R.frames) (hlocals : W9 + (maxL + 11) + rm.locals ≤ R.locals)
    (hws : ∀ w ∈ ws, ∀ a' U, s.WarmedH U.vm → w.before a' U = true) (hcode : Cond.code y bytes maxL ret ∈ ws) (hinit : ∀ a' U, s.WarmedH U.vm → (Cond.initialized y.cls).before a' U = true) :
    vx_Back l R p e below s sargs y len W9 (PreOf R mc ms Pc) (PostOf Qc mc ms free) (vx_Post XC mc ms free) := by
  intro m meth c A g ig mk a X hg hsize hdg hW hn hp
  have h1 : (headSpec ws rm).pre.before a A.U = true := atoms_intro fun w hw => hws w hw _ _ X.warmed
  have h2 : (Cond.code y bytes maxL ret).before a A.U = true := hws _ hcode _ _ X.warmed
  have h3 : (Cond.initialized y.cls).before a A.U = true := hinit _ _ X.warmed
  have h4 : A.cells + (headSpec ws rm).room.cells ≤ R.cells := by rw [show (headSpec ws rm).room.cells = mc from hrc]; exact hp.1
  have h5 : A.slots + (headSpec ws rm).room.slots ≤ R.slots := by rw [show (headSpec ws rm).room.slots = ms from hrs]; exact hp.2.1
  have hPc : Pc a (A.U.calling g mk a) := hblind _ _ _ _ hp.2.2
  obtain ⟨U, Ls, c0, s0⟩ := A
  dsimp only [Pt.U, Pt.locs, Pt.cells, Pt.slots] at h1 h2 h3 h4 h5 X hn hPc ⊢
  obtain ⟨methY, cY, hmY, hcY, -, hlY, -, -, -, -⟩ := Cond.code_spec hn h2
  obtain ⟨kY, hkY, -⟩ := className_of_methodNamed hn
  have hinitY : kY.init = .initialized := Cond.initialized_spec (findClass_of_methodNamed hn) hkY h3
  have h : At U g.method c below := by rw [hg]; exact X.here
  have hlocals9 : W9 + (maxL + 11) + (headSpec ws rm).room.locals ≤ R.locals := hlocals
  have happ : (headSpec ws rm).appliesLoose y e.platform (U.calling g mk a) = true :=
    Spec.appliesLoose_calling (g := g) h hdg hn hkY hinitY
      (X.room_calling (g := g) (R' := (headSpec ws rm).room) hsize hmY hcY hframes (by rw [hlY]; omega) h4 h5) h1
  obtain ⟨mid, hmid⟩ := h.above
  have hfr : (U.setTop g).frames = (.java g :: mid) ++ below := by rw [State.frames_setTop' g h.top, hmid]; rfl
  obtain ⟨o, s₂, hsteps, -, hend, hq⟩ := Steps.callFree hM p X.admits X.cas X.clock (acts := []) hfr happ hPc trivial
  have hq' : vx_Q Qc XC mc ms free a (U.calling g mk a) o s₂ := hq
  rw [State.frames_setTop' g h.top] at hend
  obtain ⟨g₀, hg0⟩ := Option.isSome_iff_exists.mp h.top
  obtain ⟨r, hr⟩ := State.topJava?_eq_some.mp hg0
  have hr' : (({ U with heap := s₂.heap, slotsUsed := s₂.slotsUsed } : State).setVm s₂.vm).frames = .java g₀ :: r := hr
  rcases hq' with ⟨hqc, L, hfe, hL⟩ | ⟨q, rfl, E, ce, L, hx, hce, hcv, hcl, hW₂, hsm, hL⟩
  · obtain ⟨⟨v, rfl⟩, hW₂, e2, q2, q3, q4, q5, q6⟩ := id hfe
    have e3 : s₂ = ({ (U.calling g mk a).setFrames s₂.frames with heap := s₂.heap, slotsUsed := s₂.slotsUsed } : State).setVm s₂.vm := by
      have : s₂ = ({ s₂ with vm := (U.calling g mk a).vm } : State).setVm s₂.vm := rfl
      rw [e2] at this
      exact this
    obtain ⟨c₂, i₂, len₂, hc₂, hd₂, hf₂⟩ := hend
    have hW' : U.WarmedH s₂.vm := hW₂
    have hcc : c₂ = c := by
      have h1 : s₂.code? g.method = U.code? g.method := by
        rw [State.code?_eq, State.code?_eq, hW'.alike.method?]
      exact Option.some.inj (hc₂.symm.trans (h1.trans h.code))
    subst hcc
    have hlen : len₂ = len := by rw [hdg] at hd₂; cases hd₂; rfl
    subst hlen
    have hs₂ : s₂ = (({ U with heap := s₂.heap, slotsUsed := s₂.slotsUsed } : State).setVm s₂.vm).setTop { g with pc := g.pc + len₂, stack := v.toList ++ g.stack } := by
      refine e3.trans ?_
      rw [hf₂, State.calling_eq h.top, State.setFrames_setFrames, State.setTop_of_frames _ hr', hr]
      rfl
    have hsame : U.sameButNew ({ U with heap := s₂.heap, slotsUsed := s₂.slotsUsed } : State) L mc ms := by
      refine ⟨?_, q2, q3, q4, q5, q6⟩
      obtain ⟨t, ht, -⟩ := State.frames_cons hr
      show ({ U with heap := s₂.heap, slotsUsed := s₂.slotsUsed } : State) = { U.setFrames U.frames with heap := s₂.heap, slotsUsed := s₂.slotsUsed }
      rw [State.setFrames_self ht]
    subst hg
    refine Or.inl ⟨v, ⟨(({ U with heap := s₂.heap, slotsUsed := s₂.slotsUsed } : State).setVm s₂.vm), Ls ++ L, c0 + mc, s0 + ms⟩,
      ⟨X.admits, X.cas, X.clock, X.frames, X.room, X.hears, X.method, X.code, (X.here.setHeapUsed s₂.heap s₂.slotsUsed).setVm hW'.alike, X.tail, State.WarmedH.trans X.warmed hW', X.limits, X.bytes, X.same.trans (hsame.setVm s.vm)⟩,
      ⟨g, mk, s₂, L, rfl, rfl, hqc, rfl, hL, rfl, rfl⟩, ?_⟩
    show Steps p.tables e below _ ((({ U with heap := s₂.heap, slotsUsed := s₂.slotsUsed } : State).setVm s₂.vm).setTop { g with pc := g.pc + len₂, stack := v.toList ++ g.stack })
    rw [← hs₂]
    exact hsteps
  · obtain ⟨e2, q2, q3, q4, q5, q6⟩ := id hsm
    have e3 : s₂ = ({ (U.calling g mk a).setFrames s₂.frames with heap := s₂.heap, slotsUsed := s₂.slotsUsed } : State).setVm s₂.vm := by
      have : s₂ = ({ s₂ with vm := (U.calling g mk a).vm } : State).setVm s₂.vm := rfl
      rw [e2] at this
      exact this
    have hf₂ : s₂.frames = .throwing q :: .java g :: U.frames.tail := hend
    have hW' : U.WarmedH s₂.vm := hW₂
    have hs₂ : s₂ = ((({ U with heap := s₂.heap, slotsUsed := s₂.slotsUsed } : State).setVm s₂.vm).setTop g).pushFrame (.throwing q) := by
      refine e3.trans ?_
      rw [hf₂, State.calling_eq h.top, State.setFrames_setFrames, State.pushFrame, State.frames_setTop _ hr', State.setTop_of_frames _ hr', State.setFrames_setFrames, hr]
      rfl
    have hsame : U.sameButNew ({ U with heap := s₂.heap, slotsUsed := s₂.slotsUsed } : State) L mc ms := by
      refine ⟨?_, q2, q3, q4, q5, q6⟩
      obtain ⟨t, ht, -⟩ := State.frames_cons hr
      show ({ U with heap := s₂.heap, slotsUsed := s₂.slotsUsed } : State) = { U.setFrames U.frames with heap := s₂.heap, slotsUsed := s₂.slotsUsed }
      rw [State.setFrames_self ht]
    subst hg
    refine Or.inr ⟨q, ⟨(({ U with heap := s₂.heap, slotsUsed := s₂.slotsUsed } : State).setVm s₂.vm), Ls ++ L, c0 + mc, s0 + ms⟩,
      ⟨X.admits, X.cas, X.clock, X.frames, X.room, X.hears, X.method, X.code, (X.here.setHeapUsed s₂.heap s₂.slotsUsed).setVm hW'.alike, X.tail, State.WarmedH.trans X.warmed hW', X.limits, X.bytes, X.same.trans (hsame.setVm s.vm)⟩,
      ⟨g, mk, s₂, L, E, ce, rfl, rfl, hx, hce, hcv, hcl, rfl, hL, rfl, rfl⟩, ?_⟩
    show Steps p.tables e below _ (((({ U with heap := s₂.heap, slotsUsed := s₂.slotsUsed } : State).setVm s₂.vm).setTop g).pushFrame (.throwing q))
    rw [← hs₂]
    exact hsteps
end Payer
section Calls
variable {p : Program} {l : Launch} {e : Env} {R : Room} {s : State} {m : MethodId} {args : Array Value} {below : List Frame} {meth : Method} {c : Code} {T : State} {locs : List Loc} {cells slots : Nat}
theorem vx_callV (X : Stand p l e R s m args below meth c T locs cells slots) (hexec : p.tables.exec = Jvm.exec) {own C : String} {index : Nat} {y : MethodName} {bytes : ByteArray} {maxL : Nat} {ret : Option FieldType}
    (hown : s.vm.findClass own = some m.cls) (hlink : (Cond.methodLink own index y).before args s = true) (hinst : (Cond.instanceMethod y).before args s = true) (hsel : (Cond.selects C y y).before args s = true)
    (hcode : (Cond.code y bytes maxL ret).before args s = true) (hy : y.cls ≠ "java/lang/invoke/MethodHandle" ∧ y.cls ≠ "java/lang/invoke/VarHandle")
    {W9 : Nat} {Pre : Pt → Array Value → Prop} {Post : Pt → Array Value → Option Value → Pt → Prop} {PostX : Pt → Array Value → Addr → Pt → Prop} (hK : vx_Back l R p e below s args y 3 W9 Pre Post PostX)
    {b : Addr} {cellB : Cell} (hcell : T.heap[b]? = some cellB) (hobj : cellB.vm.isStatics = false) (hcls : s.vm.findClass C = some cellB.cls)
    {g : JFrame} (hg : g.method = m) (hsize : g.locals.size = c.maxLocals) {argsL rest : List Value} (hlen : ∀ sig, parseMethodDescriptor y.desc = some sig → argsL.length = sig.parameters.length)
    (hstack : g.stack = argsL.reverse ++ .ref b :: rest) (hW : 2 * g.monitorRoom + (rest.map fun v => v.category).sum ≤ W9) (hdg : decode c.code g.pc = .ok (.invokevirtual index, 3))
    (hpre : ∀ vm₁, s.WarmedH vm₁ → Pre ⟨T.setVm vm₁, locs, cells, slots⟩ (Value.ref b :: argsL).toArray) :
    (∃ (v : Option Value) (vm₁ : Vm) (B : Pt), s.WarmedH vm₁ ∧ Stand p l e R s m args below meth c B.U B.locs B.cells B.slots ∧ Post ⟨T.setVm vm₁, locs, cells, slots⟩ (Value.ref b :: argsL).toArray v B ∧
      ∀ target, Steps p.tables e below (B.U.setTop { g with pc := g.pc + 3, stack := v.toList ++ rest }) target → Steps p.tables e below (T.setTop g) target) ∨
    (∃ (q : Addr) (vm₁ : Vm) (B : Pt), s.WarmedH vm₁ ∧ Stand p l e R s m args below meth c B.U B.locs B.cells B.slots ∧ PostX ⟨T.setVm vm₁, locs, cells, slots⟩ (Value.ref b :: argsL).toArray q B ∧
      Steps p.tables e below (T.setTop g) ((B.U.setTop { g with stack := rest }).pushFrame (.throwing q))) := by
  obtain ⟨mk, methM, hnamed, hmethM, hstM, habM⟩ := Cond.instanceMethod_spec hinst
  obtain ⟨methM', cM, hmethM', -, -, -, -, -, -, hsigM⟩ := Cond.code_spec hnamed hcode
  cases hmethM.symm.trans hmethM'
  obtain ⟨c2, r2, m2, q1, q2, q3, q4, kP, hkP, hkPi⟩ := Cond.selects_spec hsel
  cases hcls.symm.trans q1
  cases (State.methodFound?_of_named hnamed hy).symm.trans q2
  cases hnamed.symm.trans q3
  have hselP : selectMethod e.platform s.vm cellB.cls mk = .method mk := by rw [Launch.admits_selectMethod X.admits]; exact q4
  obtain ⟨vm₁, X₁, hstep₁⟩ := X.invokevirtual hexec hown hlink hnamed hmethM hstM hkP hkPi hy (a := b) (cell := cellB) hcell
    (fun z h => by rw [h] at hobj; cases hobj) hselP hmethM habM hkP hkPi (g := g) hg (argsL := argsL) (rest := rest) (hlen _ hsigM) hstack hdg
  rcases hK m meth c ⟨T.setVm vm₁, locs, cells, slots⟩ { g with stack := rest } (.invokevirtual index) mk (Value.ref b :: argsL).toArray X₁ hg hsize hdg hW (X₁.named hnamed) (hpre vm₁ X₁.warmed) with ⟨v, B, X', hpost, hsteps⟩ | ⟨q, B, X', hpost, hsteps⟩
  · exact Or.inl ⟨v, vm₁, B, X₁.warmed, X', hpost, fun target h => hstep₁ _ fun acts => by rw [doInvoke_state]; exact hsteps.trans h⟩
  · exact Or.inr ⟨q, vm₁, B, X₁.warmed, X', hpost, hstep₁ _ fun acts => by rw [doInvoke_state]; exact hsteps⟩
theorem vx_callS (X : Stand p l e R s m args below meth c T locs cells slots) (hexec : p.tables.exec = Jvm.exec) {own : String} {index : Nat} {y : MethodName} {bytes : ByteArray} {maxL : Nat} {ret : Option FieldType}
    (hown : s.vm.findClass own = some m.cls) (hlink : (Cond.methodLink own index y).before args s = true) (hstat : (Cond.static y).before args s = true) (hinit : (Cond.initialized y.cls).before args s = true)
    (hcode : (Cond.code y bytes maxL ret).before args s = true) (hy : y.cls ≠ "java/lang/invoke/MethodHandle" ∧ y.cls ≠ "java/lang/invoke/VarHandle")
    {W9 : Nat} {Pre : Pt → Array Value → Prop} {Post : Pt → Array Value → Option Value → Pt → Prop} {PostX : Pt → Array Value → Addr → Pt → Prop} (hK : vx_Back l R p e below s args y 3 W9 Pre Post PostX)
    {g : JFrame} (hg : g.method = m) (hsize : g.locals.size = c.maxLocals) {argsL rest : List Value} (hlen : ∀ sig, parseMethodDescriptor y.desc = some sig → argsL.length = sig.parameters.length)
    (hstack : g.stack = argsL.reverse ++ rest) (hW : 2 * g.monitorRoom + (rest.map fun v => v.category).sum ≤ W9) (hdg : decode c.code g.pc = .ok (.invokestatic index, 3))
    (hpre : ∀ vm₁, s.WarmedH vm₁ → Pre ⟨T.setVm vm₁, locs, cells, slots⟩ argsL.toArray) :
    (∃ (v : Option Value) (vm₁ : Vm) (B : Pt), s.WarmedH vm₁ ∧ Stand p l e R s m args below meth c B.U B.locs B.cells B.slots ∧ Post ⟨T.setVm vm₁, locs, cells, slots⟩ argsL.toArray v B ∧
      ∀ target, Steps p.tables e below (B.U.setTop { g with pc := g.pc + 3, stack := v.toList ++ rest }) target → Steps p.tables e below (T.setTop g) target) ∨
    (∃ (q : Addr) (vm₁ : Vm) (B : Pt), s.WarmedH vm₁ ∧ Stand p l e R s m args below meth c B.U B.locs B.cells B.slots ∧ PostX ⟨T.setVm vm₁, locs, cells, slots⟩ argsL.toArray q B ∧
      Steps p.tables e below (T.setTop g) ((B.U.setTop { g with stack := rest }).pushFrame (.throwing q))) := by
  obtain ⟨mk, hnamed⟩ := Cond.code_named hcode
  obtain ⟨methM, cM, hmethM, -, -, -, -, -, -, hsigM⟩ := Cond.code_spec hnamed hcode
  have hstatic : methM.isStatic = true := Cond.static_spec hnamed hmethM hstat
  obtain ⟨kP, hkP, -⟩ := className_of_methodNamed hnamed
  have hinitP : kP.init = .initialized := Cond.initialized_spec (findClass_of_methodNamed hnamed) hkP hinit
  obtain ⟨vm₁, X₁, hstep₁⟩ := X.invokestatic hexec hown hlink hnamed hmethM hstatic hkP hinitP hy (g := g) hg (argsL := argsL) (rest := rest) (hlen _ hsigM) hstack hdg
  rcases hK m meth c ⟨T.setVm vm₁, locs, cells, slots⟩ { g with stack := rest } (.invokestatic index) mk argsL.toArray X₁ hg hsize hdg hW (X₁.named hnamed) (hpre vm₁ X₁.warmed) with ⟨v, B, X', hpost, hsteps⟩ | ⟨q, B, X', hpost, hsteps⟩
  · exact Or.inl ⟨v, vm₁, B, X₁.warmed, X', hpost, fun target h => hstep₁ _ fun acts => by rw [doInvoke_state]; exact hsteps.trans h⟩
  · exact Or.inr ⟨q, vm₁, B, X₁.warmed, X', hpost, hstep₁ _ fun acts => by rw [doInvoke_state]; exact hsteps⟩
end Calls
theorem vx_cls {s : State} {T : State} {vm₁ : Vm} {E : String} {k : ClassId} (hW : s.WarmedH vm₁) (h : (T.setVm vm₁).vm.findClass E = some k) : s.vm.findClass E = some k := by
  have h1 : vm₁.findClass E = some k := h
  rw [hW.alike.findClass] at h1
  exact h1
/-- the method's frame g, with q thrown over it -/
def vx_W (p : Program) (l : Launch) (e : Env) (R : Room) (s : State) (m : MethodId) (args : Array Value) (below : List Frame) (meth : Method) (c : Code) (H : Heap) (locs : List Loc) (cells slots : Nat) (Q : State → Prop) (g : JFrame) (q : Addr) : Prop :=
  ∀ T : State, T.heap = H → Stand p l e R s m args below meth c T locs cells slots → ∃ t, Steps p.tables e below ((T.setTop g).pushFrame (.throwing q)) t ∧ Q t
def vx_Run (p : Program) (l : Launch) (e : Env) (R : Room) (s : State) (m : MethodId) (args : Array Value) (below : List Frame) (meth : Method) (c : Code) (H : Heap) (locs : List Loc) (cells slots mc ms : Nat) (g : JFrame) (rest : List Value) (Qa : State → Outcome → State → Prop) (XC : String → State → State → Prop) (free : Addr → Prop) : Prop :=
  ∀ T : State, T.heap = H → Stand p l e R s m args below meth c T locs cells slots →
    (∃ (v : Option Value) (st₀ t T' : State) (L : List Loc), st₀.heap = H ∧ Stand p l e R s m args below meth c T' (locs ++ L) (cells + mc) (slots + ms) ∧ (∀ q ∈ L, free q.base) ∧ T'.heap = t.heap ∧ T'.vm = t.vm ∧ Qa st₀ (.returned v) t ∧
      Goes p e below T g T' { g with pc := g.pc + 3, stack := v.toList ++ rest }) ∨
    (∃ (q : Addr) (st₀ t T' : State) (L : List Loc) (E : String) (ce : Cell), st₀.heap = H ∧ Stand p l e R s m args below meth c T' (locs ++ L) (cells + mc) (slots + ms) ∧ (∀ z ∈ L, free z.base) ∧ T'.heap = t.heap ∧ T'.vm = t.vm ∧ XC E st₀ t ∧ t.heap[q]? = some ce ∧ ce.vm = .none ∧ s.vm.findClass E = some ce.cls ∧
      Steps p.tables e below (T.setTop g) ((T'.setTop { g with stack := rest }).pushFrame (.throwing q)))
def vx_X {S : Type} (px : S → Prop) (B : String → S → State → Prop) (A : Nat → Prop) : String → State → State → Prop := fun E st t => ∃ u : S, px u ∧ B E u t ∧ va_F A st t
section Runs
variable {p : Program} {l : Launch} {e : Env} {R : Room} {s : State} {m : MethodId} {args : Array Value} {below : List Frame} {meth : Method} {c : Code} {H : Heap} {locs : List Loc} {cells slots : Nat}
variable {y : MethodName} {bytes cc : ByteArray} {maxL nL mc ms n index : Nat} {ret : Option FieldType} {ws : List Cond} {rm : Room} {Pc : Array Value → State → Prop} {Qc : Array Value → State → Outcome → State → Prop} {XC : String → State → State → Prop} {free : Addr → Prop} {Ts : List Cond} {own C : String} {b : Addr} {As rest : List Value} {g : JFrame}
theorem vx_callBack (cb : CallB R s args own index y bytes maxL ret ws rm mc ms n) (hM : vx_Met l y ws rm Pc Qc XC mc ms free) (hbl : FrameBlind Pc) : vx_Back l R p e below s args y 3 8 (PreOf R mc ms Pc) (PostOf Qc mc ms free) (vx_Post XC mc ms free) := by
  obtain ⟨hrc, hrs, hfr, hlo, hws, hcw, -, hini, -⟩ := cb
  exact vx_back (bytes := bytes) (maxL := maxL) (ret := ret) hM hbl hrc hrs hfr hlo hws hcw (fun a' U hW => word_at hW (Or.inl (by first | rfl | simp [Cond.onTables, Cond.keeps, Cond.steady])) hini)
theorem vx_runV (S : CallFix p m c cc nL s args Ts own) (hM : vx_Met l y ws rm Pc Qc XC mc ms free) (cw : CallW R s args own C index y bytes maxL ret ws rm mc ms n) (hp : PreV s H C b Pc As)
    (hg : g.method = m) (hn : As.length = n) (hsize : g.locals.size = nL) (hstack : g.stack = As.reverse ++ .ref b :: rest) (hW : 2 * g.monitorRoom + (rest.map fun v => v.category).sum ≤ 8) (hdg : decode cc g.pc = .ok (.invokevirtual index, 3)) (hf : cells + mc ≤ R.cells ∧ slots + ms ≤ R.slots) :
    vx_Run p l e R s m args below meth c H locs cells slots mc ms g rest (Qc (Value.ref b :: As).toArray) XC free := by
  have hK : vx_Back l R p e below s args y 3 8 (PreOf R mc ms Pc) (PostOf Qc mc ms free) (vx_Post XC mc ms free) := vx_callBack cw.1 hM hp.1
  obtain ⟨⟨-, -, -, -, -, -, hcode, -, hy, hlen, hl⟩, hin, hse⟩ := cw
  obtain ⟨hx, hb, hml, ho, -⟩ := S
  obtain ⟨-, ⟨cellB, hcB, hoB, hclB⟩, hPc⟩ := hp
  intro T hT X
  rcases vx_callV X hx (C := C) (bytes := bytes) (maxL := maxL) (ret := ret) ho hl hin hse hcode hy hK (by rw [hT]; exact hcB) hoB hclB hg (hsize.trans hml.symm) (argsL := As) (rest := rest) (fun sig h => hn.trans (hlen sig h)) hstack hW (by rw [hb]; exact hdg)
    (fun vm₁ hW₁ => ⟨hf.1, hf.2, hPc (T.setVm vm₁) hT hW₁⟩) with ⟨v, vm₁, ⟨U', l2, c2, s2⟩, hW₁, X', ⟨g', mk, t, L, e1, e2, hq, h1, hL, h2, h3⟩, st⟩ | ⟨q, vm₁, ⟨U', l2, c2, s2⟩, hW₁, X', ⟨g', mk, t, L, E, ce, e1, e2, hq, hce, hcv, hcl, h1, hL, h2, h3⟩, st⟩
  · dsimp only [Pt.U, Pt.locs, Pt.cells, Pt.slots] at X' e1 e2 h1 h2 h3 st
    subst h1; subst h2; subst h3
    exact Or.inl ⟨v, (T.setVm vm₁).calling g' mk (Value.ref b :: As).toArray, t, U', L, hT, X', hL, e1, e2, hq, st⟩
  · dsimp only [Pt.U, Pt.locs, Pt.cells, Pt.slots] at X' e1 e2 h1 h2 h3 st hcl
    subst h1; subst h2; subst h3
    exact Or.inr ⟨q, (T.setVm vm₁).calling g' mk (Value.ref b :: As).toArray, t, U', L, E, ce, hT, X', hL, e1, e2, hq, hce, hcv, vx_cls hW₁ hcl, st⟩
theorem vx_runS (S : CallFix p m c cc nL s args Ts own) (hM : vx_Met l y ws rm Pc Qc XC mc ms free) (cw : CallB R s args own index y bytes maxL ret ws rm mc ms n ∧ (Cond.static y).before args s = true) (hp : PreS s H Pc As)
    (hg : g.method = m) (hn : As.length = n) (hsize : g.locals.size = nL) (hstack : g.stack = As.reverse ++ rest) (hW : 2 * g.monitorRoom + (rest.map fun v => v.category).sum ≤ 8) (hdg : decode cc g.pc = .ok (.invokestatic index, 3)) (hf : cells + mc ≤ R.cells ∧ slots + ms ≤ R.slots) :
    vx_Run p l e R s m args below meth c H locs cells slots mc ms g rest (Qc As.toArray) XC free := by
  have hK : vx_Back l R p e below s args y 3 8 (PreOf R mc ms Pc) (PostOf Qc mc ms free) (vx_Post XC mc ms free) := vx_callBack cw.1 hM hp.1
  obtain ⟨⟨-, -, -, -, -, -, hcode, hini, hy, hlen, hl⟩, hstt⟩ := cw
  obtain ⟨hx, hb, hml, ho, -⟩ := S
  intro T hT X
  rcases vx_callS X hx (bytes := bytes) (maxL := maxL) (ret := ret) ho hl hstt hini hcode hy hK hg (hsize.trans hml.symm) (argsL := As) (rest := rest) (fun sig h => hn.trans (hlen sig h)) hstack hW (by rw [hb]; exact hdg)
    (fun vm₁ hW₁ => ⟨hf.1, hf.2, hp.2 (T.setVm vm₁) hT hW₁⟩) with ⟨v, vm₁, ⟨U', l2, c2, s2⟩, hW₁, X', ⟨g', mk, t, L, e1, e2, hq, h1, hL, h2, h3⟩, st⟩ | ⟨q, vm₁, ⟨U', l2, c2, s2⟩, hW₁, X', ⟨g', mk, t, L, E, ce, e1, e2, hq, hce, hcv, hcl, h1, hL, h2, h3⟩, st⟩
  · dsimp only [Pt.U, Pt.locs, Pt.cells, Pt.slots] at X' e1 e2 h1 h2 h3 st
    subst h1; subst h2; subst h3
    exact Or.inl ⟨v, (T.setVm vm₁).calling g' mk As.toArray, t, U', L, hT, X', hL, e1, e2, hq, st⟩
  · dsimp only [Pt.U, Pt.locs, Pt.cells, Pt.slots] at X' e1 e2 h1 h2 h3 st hcl
    subst h1; subst h2; subst h3
    exact Or.inr ⟨q, (T.setVm vm₁).calling g' mk As.toArray, t, U', L, E, ce, hT, X', hL, e1, e2, hq, hce, hcv, vx_cls hW₁ hcl, st⟩
end Runs
section Rows
variable {p : Program} {l : Launch} {e : Env} {R : Room} {s : State} {m : MethodId} {args : Array Value} {below : List Frame} {meth : Method} {c : Code} {H : Heap} {locs : List Loc} {cells slots : Nat} {Q : State → Prop}
variable {mc ms : Nat} {free : Addr → Prop} {A0 A1 : Nat → Prop} {H0 : Heap} {a : Array Value} {pc : Nat} {ls : Array Slot} {st0 rest : List Value}
theorem vx_keep {st₀ t T' : State} {L : List Loc} (h0 : st₀.heap = H) (e1 : T'.heap = t.heap) (hS : va_S A0 H0 H locs) (hA : ∀ q, q < H.size → A1 q → A0 q) (hf : ∀ q, free q → A0 q) (hL : ∀ q ∈ L, free q.base) (hF : va_F A1 st₀ t) :
    H.size ≤ T'.heap.size ∧ (∀ q : Nat, q < H.size → ¬ A1 q → T'.heap[q]? = H[q]?) ∧ va_S A0 H0 T'.heap (locs ++ L) := by
  obtain ⟨hz, hk⟩ := hF
  rw [h0] at hz hk
  exact ⟨by rw [e1]; exact hz, fun q h1 h2 => by rw [e1]; exact hk q h1 h2,
    ⟨Nat.le_trans hS.1 (by rw [e1]; exact hz), fun q h1 h2 => by rw [e1, hk q (Nat.lt_of_lt_of_le h1 hS.1) (fun z => h2 (hA q (Nat.lt_of_lt_of_le h1 hS.1) z))]; exact hS.2.1 q h1 h2, fun q hq => by
      rcases List.mem_append.mp hq with h | h
      · exact hS.2.2 q h
      · exact hf _ (hL q h)⟩⟩
theorem vx_calli {S SX : Type} {post : Int32 → S → Prop} {px : SX → Prop} {B : S → State → Prop} {BX : String → SX → State → Prop} {AX : Nat → Prop} (hr : vx_Run p l e R s m args below meth c H locs cells slots mc ms (F0 m pc ls st0) rest (va_Qi post B A1 a) (vx_X px BX AX) free) (hS : va_S A0 H0 H locs) (hA : ∀ q, q < H.size → A1 q → A0 q) (hf : ∀ q, free q → A0 q) (hAX : ∀ q, q < H.size → AX q → A0 q)
    (kx : ∀ (E : String) (ce : Cell) (q9 : Addr) (u : SX) (t : State) (H1 : Heap) (locs1 : List Loc), t.heap = H1 → s.vm.Alike t.vm → px u → BX E u t → H.size ≤ H1.size → (∀ q : Nat, q < H.size → ¬ AX q → H1[q]? = H[q]?) → va_S A0 H0 H1 locs1 → H1[q9]? = some ce → ce.vm = .none → s.vm.findClass E = some ce.cls → vx_W p l e R s m args below meth c H1 locs1 (cells + mc) (slots + ms) Q (F0 m pc ls rest) q9)
    (kk : ∀ (r : Int32) (u : S) (t : State) (H1 : Heap) (locs1 : List Loc), t.heap = H1 → s.vm.Alike t.vm → post r u → B u t → H.size ≤ H1.size → (∀ q : Nat, q < H.size → ¬ A1 q → H1[q]? = H[q]?) → va_S A0 H0 H1 locs1 → W p l e R s m args below meth c H1 locs1 (cells + mc) (slots + ms) Q (F0 m (pc + 3) ls (.int r :: rest))) : W p l e R s m args below meth c H locs cells slots Q (F0 m pc ls st0) := by
  intro T hT X
  rcases hr T hT X with ⟨v, st₀, t, T', L, h0, X', hL, e1, e2, ⟨⟨r, u, hv, hp, hb⟩, hF⟩, st⟩ | ⟨q, st₀, t, T', L, E, ce, h0, X', hL, e1, e2, ⟨u, hp, hb, hF⟩, hce, hcv, hcl, st⟩
  · cases hv
    obtain ⟨k1, k2, k3⟩ := vx_keep h0 e1 hS hA hf hL hF
    obtain ⟨t2, a1, b1⟩ := kk r u t T'.heap (locs ++ L) e1.symm (by rw [← e2]; exact X'.warmed.alike) hp hb k1 k2 k3 T' rfl X'
    exact ⟨t2, st t2 a1, b1⟩
  · obtain ⟨k1, k2, k3⟩ := vx_keep h0 e1 hS hAX hf hL hF
    obtain ⟨t2, a1, b1⟩ := kx E ce q u t T'.heap (locs ++ L) e1.symm (by rw [← e2]; exact X'.warmed.alike) hp hb k1 k2 k3 (by rw [e1]; exact hce) hcv hcl T' rfl X'
    exact ⟨t2, st.trans a1, b1⟩
theorem vx_calll {S SX : Type} {post : Int64 → S → Prop} {px : SX → Prop} {B : S → State → Prop} {BX : String → SX → State → Prop} {AX : Nat → Prop} (hr : vx_Run p l e R s m args below meth c H locs cells slots mc ms (F0 m pc ls st0) rest (va_Ql post B A1 a) (vx_X px BX AX) free) (hS : va_S A0 H0 H locs) (hA : ∀ q, q < H.size → A1 q → A0 q) (hf : ∀ q, free q → A0 q) (hAX : ∀ q, q < H.size → AX q → A0 q)
    (kx : ∀ (E : String) (ce : Cell) (q9 : Addr) (u : SX) (t : State) (H1 : Heap) (locs1 : List Loc), t.heap = H1 → s.vm.Alike t.vm → px u → BX E u t → H.size ≤ H1.size → (∀ q : Nat, q < H.size → ¬ AX q → H1[q]? = H[q]?) → va_S A0 H0 H1 locs1 → H1[q9]? = some ce → ce.vm = .none → s.vm.findClass E = some ce.cls → vx_W p l e R s m args below meth c H1 locs1 (cells + mc) (slots + ms) Q (F0 m pc ls rest) q9)
    (kk : ∀ (r : Int64) (u : S) (t : State) (H1 : Heap) (locs1 : List Loc), t.heap = H1 → s.vm.Alike t.vm → post r u → B u t → H.size ≤ H1.size → (∀ q : Nat, q < H.size → ¬ A1 q → H1[q]? = H[q]?) → va_S A0 H0 H1 locs1 → W p l e R s m args below meth c H1 locs1 (cells + mc) (slots + ms) Q (F0 m (pc + 3) ls (.long r :: rest))) : W p l e R s m args below meth c H locs cells slots Q (F0 m pc ls st0) := by
  intro T hT X
  rcases hr T hT X with ⟨v, st₀, t, T', L, h0, X', hL, e1, e2, ⟨⟨r, u, hv, hp, hb⟩, hF⟩, st⟩ | ⟨q, st₀, t, T', L, E, ce, h0, X', hL, e1, e2, ⟨u, hp, hb, hF⟩, hce, hcv, hcl, st⟩
  · cases hv
    obtain ⟨k1, k2, k3⟩ := vx_keep h0 e1 hS hA hf hL hF
    obtain ⟨t2, a1, b1⟩ := kk r u t T'.heap (locs ++ L) e1.symm (by rw [← e2]; exact X'.warmed.alike) hp hb k1 k2 k3 T' rfl X'
    exact ⟨t2, st t2 a1, b1⟩
  · obtain ⟨k1, k2, k3⟩ := vx_keep h0 e1 hS hAX hf hL hF
    obtain ⟨t2, a1, b1⟩ := kx E ce q u t T'.heap (locs ++ L) e1.symm (by rw [← e2]; exact X'.warmed.alike) hp hb k1 k2 k3 (by rw [e1]; exact hce) hcv hcl T' rfl X'
    exact ⟨t2, st.trans a1, b1⟩
theorem vx_callf {S SX : Type} {post : UInt32 → S → Prop} {px : SX → Prop} {B : S → State → Prop} {BX : String → SX → State → Prop} {AX : Nat → Prop} (hr : vx_Run p l e R s m args below meth c H locs cells slots mc ms (F0 m pc ls st0) rest (va_Qf post B A1 a) (vx_X px BX AX) free) (hS : va_S A0 H0 H locs) (hA : ∀ q, q < H.size → A1 q → A0 q) (hf : ∀ q, free q → A0 q) (hAX : ∀ q, q < H.size → AX q → A0 q)
    (kx : ∀ (E : String) (ce : Cell) (q9 : Addr) (u : SX) (t : State) (H1 : Heap) (locs1 : List Loc), t.heap = H1 → s.vm.Alike t.vm → px u → BX E u t → H.size ≤ H1.size → (∀ q : Nat, q < H.size → ¬ AX q → H1[q]? = H[q]?) → va_S A0 H0 H1 locs1 → H1[q9]? = some ce → ce.vm = .none → s.vm.findClass E = some ce.cls → vx_W p l e R s m args below meth c H1 locs1 (cells + mc) (slots + ms) Q (F0 m pc ls rest) q9)
    (kk : ∀ (r : UInt32) (u : S) (t : State) (H1 : Heap) (locs1 : List Loc), t.heap = H1 → s.vm.Alike t.vm → post r u → B u t → H.size ≤ H1.size → (∀ q : Nat, q < H.size → ¬ A1 q → H1[q]? = H[q]?) → va_S A0 H0 H1 locs1 → W p l e R s m args below meth c H1 locs1 (cells + mc) (slots + ms) Q (F0 m (pc + 3) ls (.float r :: rest))) : W p l e R s m args below meth c H locs cells slots Q (F0 m pc ls st0) := by
  intro T hT X
  rcases hr T hT X with ⟨v, st₀, t, T', L, h0, X', hL, e1, e2, ⟨⟨r, u, hv, hp, hb⟩, hF⟩, st⟩ | ⟨q, st₀, t, T', L, E, ce, h0, X', hL, e1, e2, ⟨u, hp, hb, hF⟩, hce, hcv, hcl, st⟩
  · cases hv
    obtain ⟨k1, k2, k3⟩ := vx_keep h0 e1 hS hA hf hL hF
    obtain ⟨t2, a1, b1⟩ := kk r u t T'.heap (locs ++ L) e1.symm (by rw [← e2]; exact X'.warmed.alike) hp hb k1 k2 k3 T' rfl X'
    exact ⟨t2, st t2 a1, b1⟩
  · obtain ⟨k1, k2, k3⟩ := vx_keep h0 e1 hS hAX hf hL hF
    obtain ⟨t2, a1, b1⟩ := kx E ce q u t T'.heap (locs ++ L) e1.symm (by rw [← e2]; exact X'.warmed.alike) hp hb k1 k2 k3 (by rw [e1]; exact hce) hcv hcl T' rfl X'
    exact ⟨t2, st.trans a1, b1⟩
theorem vx_calld {S SX : Type} {post : UInt64 → S → Prop} {px : SX → Prop} {B : S → State → Prop} {BX : String → SX → State → Prop} {AX : Nat → Prop} (hr : vx_Run p l e R s m args below meth c H locs cells slots mc ms (F0 m pc ls st0) rest (va_Qd post B A1 a) (vx_X px BX AX) free) (hS : va_S A0 H0 H locs) (hA : ∀ q, q < H.size → A1 q → A0 q) (hf : ∀ q, free q → A0 q) (hAX : ∀ q, q < H.size → AX q → A0 q)
    (kx : ∀ (E : String) (ce : Cell) (q9 : Addr) (u : SX) (t : State) (H1 : Heap) (locs1 : List Loc), t.heap = H1 → s.vm.Alike t.vm → px u → BX E u t → H.size ≤ H1.size → (∀ q : Nat, q < H.size → ¬ AX q → H1[q]? = H[q]?) → va_S A0 H0 H1 locs1 → H1[q9]? = some ce → ce.vm = .none → s.vm.findClass E = some ce.cls → vx_W p l e R s m args below meth c H1 locs1 (cells + mc) (slots + ms) Q (F0 m pc ls rest) q9)
    (kk : ∀ (r : UInt64) (u : S) (t : State) (H1 : Heap) (locs1 : List Loc), t.heap = H1 → s.vm.Alike t.vm → post r u → B u t → H.size ≤ H1.size → (∀ q : Nat, q < H.size → ¬ A1 q → H1[q]? = H[q]?) → va_S A0 H0 H1 locs1 → W p l e R s m args below meth c H1 locs1 (cells + mc) (slots + ms) Q (F0 m (pc + 3) ls (.double r :: rest))) : W p l e R s m args below meth c H locs cells slots Q (F0 m pc ls st0) := by
  intro T hT X
  rcases hr T hT X with ⟨v, st₀, t, T', L, h0, X', hL, e1, e2, ⟨⟨r, u, hv, hp, hb⟩, hF⟩, st⟩ | ⟨q, st₀, t, T', L, E, ce, h0, X', hL, e1, e2, ⟨u, hp, hb, hF⟩, hce, hcv, hcl, st⟩
  · cases hv
    obtain ⟨k1, k2, k3⟩ := vx_keep h0 e1 hS hA hf hL hF
    obtain ⟨t2, a1, b1⟩ := kk r u t T'.heap (locs ++ L) e1.symm (by rw [← e2]; exact X'.warmed.alike) hp hb k1 k2 k3 T' rfl X'
    exact ⟨t2, st t2 a1, b1⟩
  · obtain ⟨k1, k2, k3⟩ := vx_keep h0 e1 hS hAX hf hL hF
    obtain ⟨t2, a1, b1⟩ := kx E ce q u t T'.heap (locs ++ L) e1.symm (by rw [← e2]; exact X'.warmed.alike) hp hb k1 k2 k3 (by rw [e1]; exact hce) hcv hcl T' rfl X'
    exact ⟨t2, st.trans a1, b1⟩
theorem vx_callv {S SX : Type} {post : S → Prop} {px : SX → Prop} {B : S → State → Prop} {BX : String → SX → State → Prop} {AX : Nat → Prop} (hr : vx_Run p l e R s m args below meth c H locs cells slots mc ms (F0 m pc ls st0) rest (va_Qv post B A1 a) (vx_X px BX AX) free) (hS : va_S A0 H0 H locs) (hA : ∀ q, q < H.size → A1 q → A0 q) (hf : ∀ q, free q → A0 q) (hAX : ∀ q, q < H.size → AX q → A0 q)
    (kx : ∀ (E : String) (ce : Cell) (q9 : Addr) (u : SX) (t : State) (H1 : Heap) (locs1 : List Loc), t.heap = H1 → s.vm.Alike t.vm → px u → BX E u t → H.size ≤ H1.size → (∀ q : Nat, q < H.size → ¬ AX q → H1[q]? = H[q]?) → va_S A0 H0 H1 locs1 → H1[q9]? = some ce → ce.vm = .none → s.vm.findClass E = some ce.cls → vx_W p l e R s m args below meth c H1 locs1 (cells + mc) (slots + ms) Q (F0 m pc ls rest) q9)
    (kk : ∀ (u : S) (t : State) (H1 : Heap) (locs1 : List Loc), t.heap = H1 → s.vm.Alike t.vm → post u → B u t → H.size ≤ H1.size → (∀ q : Nat, q < H.size → ¬ A1 q → H1[q]? = H[q]?) → va_S A0 H0 H1 locs1 → W p l e R s m args below meth c H1 locs1 (cells + mc) (slots + ms) Q (F0 m (pc + 3) ls (rest))) : W p l e R s m args below meth c H locs cells slots Q (F0 m pc ls st0) := by
  intro T hT X
  rcases hr T hT X with ⟨v, st₀, t, T', L, h0, X', hL, e1, e2, ⟨⟨u, hv, hp, hb⟩, hF⟩, st⟩ | ⟨q, st₀, t, T', L, E, ce, h0, X', hL, e1, e2, ⟨u, hp, hb, hF⟩, hce, hcv, hcl, st⟩
  · cases hv
    obtain ⟨k1, k2, k3⟩ := vx_keep h0 e1 hS hA hf hL hF
    obtain ⟨t2, a1, b1⟩ := kk u t T'.heap (locs ++ L) e1.symm (by rw [← e2]; exact X'.warmed.alike) hp hb k1 k2 k3 T' rfl X'
    exact ⟨t2, st t2 a1, b1⟩
  · obtain ⟨k1, k2, k3⟩ := vx_keep h0 e1 hS hAX hf hL hF
    obtain ⟨t2, a1, b1⟩ := kx E ce q u t T'.heap (locs ++ L) e1.symm (by rw [← e2]; exact X'.warmed.alike) hp hb k1 k2 k3 (by rw [e1]; exact hce) hcv hcl T' rfl X'
    exact ⟨t2, st.trans a1, b1⟩
/-- caught by the row x of this method's table; the rows ahead don't take it -/
theorem vx_catch {own name : String} {E : String} {ce : Cell} {q : Addr} (hown : s.vm.findClass own = some m.cls) (pre : List ExceptionTableEntry) (x : ExceptionTableEntry) (suf : List ExceptionTableEntry) (hsplit : c.exceptionTable.toList = pre ++ x :: suf)
    (hpass : ∀ z ∈ pre, covers z pc = false ∨ (z.catchType ≠ 0 ∧ ∃ nm : String, (Cond.classLink own z.catchType nm).before args s = true ∧ va_Nc E nm s)) (hx : covers x pc = true) (h0 : x.catchType ≠ 0)
    (hlink : (Cond.classLink own x.catchType name).before args s = true) (hcast : (Cond.castable E name).before args s = true) (hcell : H[q]? = some ce) (hv : ce.vm = .none) (hcl : s.vm.findClass E = some ce.cls)
    (kk : W p l e R s m args below meth c H locs cells slots Q (F0 m x.handlerPc ls [.ref q])) : vx_W p l e R s m args below meth c H locs cells slots Q (F0 m pc ls rest) q := by
  intro T hT X
  have hpl : e.platform.magicAccessors = ({} : Platform).magicAccessors := by rw [X.admits.platform]
  obtain ⟨c3, c4, hc3, hc4, hasg⟩ := Cond.castable_spec hcast
  cases Option.some.inj (hc3.symm.trans hcl)
  obtain ⟨c5, hc5, hcl5⟩ := Cond.classLink_spec hown hlink e.platform hpl
  cases Option.some.inj (hc4.symm.trans hc5)
  obtain ⟨vm', X', st⟩ := Stand.thenCaughtThrough X q (g := F0 m pc ls rest) rfl (Steps.refl _) (by rw [hT]; exact hcell) (by rw [hv]; rfl) (by obtain ⟨k9, h9, -⟩ := Vm.findClass_spec hcl; exact ⟨k9, h9⟩) pre x suf hsplit
    (fun z hz => by
      rcases hpass z hz with h | ⟨hz0, nm, hl1, hn1⟩
      · exact Or.inl h
      · obtain ⟨c6, hc6, hcl6⟩ := Cond.classLink_spec hown hl1 e.platform hpl
        obtain ⟨a8, b8, h1, h2, h3⟩ := hn1
        cases Option.some.inj (h1.symm.trans hcl)
        cases Option.some.inj (h2.symm.trans hc6)
        exact Or.inr ⟨hz0, _, hcl6, h3⟩) hx (Or.inr ⟨h0, c4, hcl5, hasg⟩)
  obtain ⟨t, a1, b1⟩ := kk (T.setVm vm') hT X'
  exact ⟨t, st.trans a1, b1⟩
end Rows
section Ends
variable {p : Program} {l : Launch} {e : Env} {R : Room} {s : State} {m : MethodId} {args : Array Value} {below : List Frame} {meth : Method} {c : Code} {H : Heap} {locs : List Loc} {cells slots : Nat} {Q : State → Prop}
variable {mc ms : Nat} {free : Addr → Prop} {A0 A1 : Nat → Prop} {H0 : Heap} {a : Array Value} {ls : Array Slot} {st0 rest : List Value}
variable {Qc : Array Value → State → Outcome → State → Prop} {XC : String → State → State → Prop}
/-- what a body that may throw owes at its end -/
def vx_MQ (below : List Frame) (Qc : Array Value → State → Outcome → State → Prop) (XC : String → State → State → Prop) (a : Array Value) (s : State) (mc ms : Nat) (free : Addr → Prop) : State → Prop := fun t =>
  ∃ o, t.status = .running ∧ Ended t below o ∧ vx_Q Qc XC mc ms free a s o t
theorem vx_ret {g : JFrame} {mc ms : Nat} (k : W p l e R s m args below meth c H locs cells slots (MQ below Qc args s mc ms free) g) : W p l e R s m args below meth c H locs cells slots (vx_MQ below Qc XC args s mc ms free) g := by
  intro T hT X
  obtain ⟨t, a1, o, b1, b2, b3, b4⟩ := k T hT X
  exact ⟨t, a1, o, b1, b2, Or.inl ⟨b3, b4⟩⟩
/-- not caught here: it goes on to the caller -/
theorem vx_widen {g : JFrame} {q : Addr} {k n : Nat} (h1 : cells ≤ k) (h2 : slots ≤ n) (kk : vx_W p l e R s m args below meth c H locs k n Q g q) : vx_W p l e R s m args below meth c H locs cells slots Q g q := fun T hT X => kk T hT (stand_widen X h1 h2)
theorem vx_out {pc : Nat} {E : String} {ce : Cell} {q : Addr} {mc ms : Nat} (hout : ∀ x ∈ c.exceptionTable.toList, covers x pc = false) (hlocks : meth.locks = false) (hcell : H[q]? = some ce) (hv : ce.vm = .none) (hcl : s.vm.findClass E = some ce.cls)
    (hx : ∀ t : State, t.heap = H → s.vm.Alike t.vm → XC E s t) (hf : ∀ z ∈ locs, free z.base) (hc : cells ≤ mc) (hs : slots ≤ ms) :
    vx_W p l e R s m args below meth c H locs cells slots (vx_MQ below Qc XC args s mc ms free) (F0 m pc ls rest) q := by
  intro T hT X
  obtain ⟨st1, hrun, hend, hW, hsm⟩ := X.leaveThrown q (g := F0 m pc ls rest) rfl rfl rfl hout hlocks
  have hcell9 : (T.setFrames (.throwing q :: below)).heap[q]? = some ce := by
    show T.heap[q]? = some ce
    rw [hT]; exact hcell
  exact ⟨_, st1, .threw q, hrun, hend, Or.inr ⟨q, rfl, E, ce, locs, hx _ hT hW.alike, hcell9, hv, hcl, hW, hsm.mono hc hs, hf⟩⟩
theorem vx_frame {U : State} {k n : Nat} (h : s.sameButNew ({ U with vm := s.vm } : State) locs k n) : s.heap.size ≤ U.heap.size ∧ ∀ q : Nat, q < s.heap.size → (∀ z ∈ locs, z.base ≠ q) → U.heap[q]? = s.heap[q]? := by
  obtain ⟨-, h2, -, -, -, h6⟩ := h
  refine ⟨h2, fun q hq hz => ?_⟩
  obtain ⟨c9, e1, e2, e3, e4⟩ := h6 q _ (Array.getElem?_eq_getElem hq)
  have hs : c9.slots = (s.heap[q]).slots := Array.ext_getElem? fun i => e4 i fun hm => hz _ hm rfl
  have h9 : c9 = s.heap[q] := by
    rw [hs] at e2
    exact e2
  have e5 : U.heap[q]? = some c9 := e1
  rw [e5, h9, Array.getElem?_eq_getElem hq]
/-- the words of a throw but the four that speak of the heap -/
def vx_no (w : Cond) : Bool := decide (w ≠ .isRef (.static Bundle.tN "UNASSIGNED_STACK" Bundle.steD)) && decide (w ≠ .isRef (.static Bundle.tN "SUPPRESSED_SENTINEL" Bundle.listD)) && decide (w ≠ .laysStatic Bundle.tN "UNASSIGNED_STACK" Bundle.steD) && decide (w ≠ .laysStatic Bundle.tN "SUPPRESSED_SENTINEL" Bundle.listD)
def vx_at0 (own : String) (ic : Nat) (X : String) (names : List String) : List Cond := (Bundle.ownAtoms0 own ic X names).filter vx_no
def vx_atS (own : String) (ic : Nat) (X : String) (names : List String) : List Cond := (Bundle.ownAtoms own ic X names).filter vx_no
/-- a word that the tables alone decide, or a good one -/
def vx_ot (w : Cond) : Bool := w.onTables || goodWord w
theorem vx_ot_at {args a' : Array Value} {s U : State} {w : Cond} (hW : s.WarmedH U.vm) (hvm : s.vm = U.vm) (hg : vx_ot w = true) (h : w.before args s = true) : w.before a' U = true := by
  simp only [vx_ot, Bool.or_eq_true] at hg
  rcases hg with hg | hg
  · exact va_tabs hg hvm h
  · exact word_at hW (good_of_word hg) h
/-- a list's words: the good ones out of the method's own list, the others by premises of their own -/
theorem vx_hat {args : Array Value} {s : State} {L B : List Cond} (h1 : ∀ w ∈ L.filter goodWord, w.before args s = true) (h2 : ∀ w ∈ L.filter (fun w => !goodWord w), w ∈ B) (h3 : ∀ w ∈ B, w.before args s = true) : ∀ w ∈ L, w.before args s = true := by
  intro w hw
  by_cases g : goodWord w = true
  · exact h1 w (List.mem_filter.mpr ⟨hw, g⟩)
  · refine h3 w (h2 w (List.mem_filter.mpr ⟨hw, ?_⟩))
    show (!goodWord w) = true
    cases hgw : goodWord w
    · rfl
    · exact absurd hgw g
theorem vx_c {args : Array Value} {s : State} {w : Cond} {B : List Cond} (h : w.before args s = true) (t : ∀ w ∈ B, w.before args s = true) : ∀ w' ∈ w :: B, w'.before args s = true := fun w' h' => (List.mem_cons.mp h').elim (fun e => by rw [e]; exact h) (t w')
theorem vx_n {args : Array Value} {s : State} : ∀ w ∈ ([] : List Cond), w.before args s = true := fun _ h => nomatch h
theorem vx_own {args : Array Value} {s : State} {L : List Cond} (h1 : ∀ w ∈ L.filter vx_no, w.before args s = true)
    (hU : (Cond.isRef (.static Bundle.tN "UNASSIGNED_STACK" Bundle.steD)).before args s = true) (hN : (Cond.isRef (.static Bundle.tN "SUPPRESSED_SENTINEL" Bundle.listD)).before args s = true)
    (lU : (Cond.laysStatic Bundle.tN "UNASSIGNED_STACK" Bundle.steD).before args s = true) (lN : (Cond.laysStatic Bundle.tN "SUPPRESSED_SENTINEL" Bundle.listD).before args s = true) : ∀ w ∈ L, w.before args s = true := by
  intro w hw
  by_cases e1 : w = .isRef (.static Bundle.tN "UNASSIGNED_STACK" Bundle.steD)
  · rw [e1]; exact hU
  · by_cases e2 : w = .isRef (.static Bundle.tN "SUPPRESSED_SENTINEL" Bundle.listD)
    · rw [e2]; exact hN
    · by_cases e3 : w = .laysStatic Bundle.tN "UNASSIGNED_STACK" Bundle.steD
      · rw [e3]; exact lU
      · by_cases e4 : w = .laysStatic Bundle.tN "SUPPRESSED_SENTINEL" Bundle.listD
        · rw [e4]; exact lN
        · exact h1 w (List.mem_filter.mpr ⟨hw, by unfold vx_no; rw [decide_eq_true e1, decide_eq_true e2, decide_eq_true e3, decide_eq_true e4]; rfl⟩)
/-- where a static field lies, its class's statics cell in H -/
def vx_L (C n d : String) (A : Nat → Prop) (U : State) (H : Heap) : Prop := ∃ (c : ClassId) (k : Class) (i : Nat) (f : Field) (a : Nat) (cell : Cell), U.vm.findClass C = some c ∧ U.fieldFound? C n d = some (c, k, i, f) ∧ f.isStatic = true ∧ k.statics = some a ∧ H[a]? = some cell ∧ cell.vm.isStatics = true ∧ cell.cls = c ∧ f.slot < cell.slots.size ∧ k.staticTypes[f.slot]? = some f.type ∧ ¬ A a
theorem vx_L.moved {C n d : String} {A : Nat → Prop} {u U : State} {H : Heap} (hvm : u.vm.Alike U.vm) (h : vx_L C n d A u H) : vx_L C n d A U H := by
  obtain ⟨c, k, i, f, a, cell, h1, h2, h3, h4, h5, h6, h7, h8, h9, h10⟩ := h
  obtain ⟨k', hi', he⟩ := State.fieldFound?_setVm hvm h2
  exact ⟨c, k', i, f, a, cell, by rw [hvm.findClass]; exact h1, hi', h3, by rw [he]; exact h4, h5, h6, h7, h8, by rw [he]; exact h9, h10⟩
theorem vx_L.kept {C n d : String} {A : Nat → Prop} {U : State} {H H1 : Heap} (h : vx_L C n d A U H) (hq : ∀ a : Nat, a < H.size → ¬ A a → H1[a]? = H[a]?) : vx_L C n d A U H1 := by
  obtain ⟨c, k, i, f, a, cell, h1, h2, h3, h4, h5, h6, h7, h8, h9, h10⟩ := h
  exact ⟨c, k, i, f, a, cell, h1, h2, h3, h4, by rw [hq a (Array.getElem?_eq_some_iff.mp h5).1 h10]; exact h5, h6, h7, h8, h9, h10⟩
theorem vx_L.narrow {C n d : String} {A B : Nat → Prop} {U : State} {H : Heap} (h : vx_L C n d A U H) (hAB : ∀ q, B q → A q) : vx_L C n d B U H := by
  obtain ⟨c, k, i, f, a, cell, h1, h2, h3, h4, h5, h6, h7, h8, h9, h10⟩ := h
  exact ⟨c, k, i, f, a, cell, h1, h2, h3, h4, h5, h6, h7, h8, h9, fun z => h10 (hAB _ z)⟩
theorem vx_L.word {C n d : String} {A : Nat → Prop} {s : State} {args : Array Value} (h : vx_L C n d A s s.heap) : (Cond.laysStatic C n d).before args s = true := by
  obtain ⟨c, k, i, f, a, cell, h1, h2, h3, h4, h5, h6, h7, h8, h9, -⟩ := h
  show (Cond.laysStatic C n d).holds args s none s [] = true
  exact Cond.laysStatic_of h1 h2 h3 h4 h5 h6 h7 h8 h9
/-- .. and what it holds: null or some reference -/
def vx_Zq (C n d : String) (A : Nat → Prop) (U : State) (H : Heap) : Prop := va_Zq C n d A U H ∧ vx_L C n d A U H
theorem vx_Zq.moved {C n d : String} {A : Nat → Prop} {u U : State} {H : Heap} (hvm : u.vm.Alike U.vm) (h : vx_Zq C n d A u H) : vx_Zq C n d A U H := ⟨va_Zq.moved hvm h.1, vx_L.moved hvm h.2⟩
theorem vx_Zq.kept {C n d : String} {A : Nat → Prop} {U : State} {H H1 : Heap} (h : vx_Zq C n d A U H) (hq : ∀ a : Nat, a < H.size → ¬ A a → H1[a]? = H[a]?) : vx_Zq C n d A U H1 := ⟨va_Zq.kept h.1 hq, vx_L.kept h.2 hq⟩
theorem vx_Zq.narrow {C n d : String} {A B : Nat → Prop} {U : State} {H : Heap} (h : vx_Zq C n d A U H) (hAB : ∀ q, B q → A q) : vx_Zq C n d B U H := ⟨va_Zq.narrow h.1 hAB, vx_L.narrow h.2 hAB⟩
theorem vx_Zqof {args : Array Value} {s : State} {C n d : String} {A : Nat → Prop} (hl : (Cond.laysStatic C n d).before args s = true) (hini : (Cond.initialized C).before args s = true) (h : (Cond.isRef (.static C n d)).before args s = true) (hA : ∀ a : Nat, a < s.heap.size → ¬ A a) : vx_Zq C n d A s s.heap := by
  refine ⟨va_Zqof hl hini h hA, ?_⟩
  obtain ⟨c, k, i, f, a, cell, h1, h2, h3, h4, h5, h6, h7, h8, h9⟩ := Cond.laysStatic_spec hl
  exact ⟨c, k, i, f, a, cell, h1, h2, h3, h4, h5, h6, h7, h8, h9, hA a (Array.getElem?_eq_some_iff.mp h5).1⟩
theorem vx_isRef {C n d : String} {v : Value} {A : Nat → Prop} {s : State} {args : Array Value} (h : va_Z C n d v A s s.heap) (hv : v.isRef = true) : (Cond.isRef (.static C n d)).before args s = true := by
  obtain ⟨cf, kf, fi, f, a, cell, h1, h2, h3, h4, h5, h6, h7, -⟩ := h
  have he : (Term.static C n d).eval args s none [] s = some v := by
    simp [Term.eval, State.fieldNamed?, h1, h2, h4, h5, h6, h7]
  simp only [Cond.before, Cond.holds, Cond.value, he]
  cases v <;> simp_all [Value.isRef]
theorem vx_isRefq {C n d : String} {A : Nat → Prop} {s : State} {args : Array Value} (h : va_Zq C n d A s s.heap) : (Cond.isRef (.static C n d)).before args s = true := by
  rcases h with h | ⟨t, h⟩
  · exact vx_isRef h rfl
  · exact vx_isRef h rfl
/-- the same frame, seen from here: as if the method were called anew in this heap -/
theorem vx_rebase {T : State} (X : Stand p l e R s m args below meth c T locs cells slots) {R' : Room} (hf : R'.frames ≤ R.frames) (hl : R'.locals ≤ R.locals) (hc : cells + R'.cells ≤ R.cells) (hs : slots + R'.slots ≤ R.slots) :
    Stand p l e R' ((T.setVm s.vm).setFrames (.invoking m args :: below)) m args below meth c T [] 0 0 := by
  have htop : (T.setVm s.vm).topJava?.isSome := X.here.top
  have hF : ((T.setVm s.vm).setFrames (.invoking m args :: below)).frames = .invoking m args :: below := State.frames_setFrames _ (State.cur_lt_of_top htop)
  obtain ⟨g₀, hg0⟩ := Option.isSome_iff_exists.mp htop
  obtain ⟨r, hr⟩ := State.topJava?_eq_some.mp hg0
  have hl9 : e.platform.stackLimits (T.setVm s.vm).me = e.platform.stackLimits s.me := X.limits
  have hb9 : (T.setVm s.vm).me.stackBytes = s.me.stackBytes := X.bytes
  refine ⟨X.admits, X.cas, X.clock, hF, ?_, X.hears, X.method, X.code, X.here, X.tail, X.warmed, ?_, ?_, ?_⟩
  · have h := X.room
    have hU : ((T.setVm s.vm).setFrames (.invoking m args :: below)).localsInUse = s.localsInUse := by
      rw [State.localsInUse_invoking hF (meth := meth) (c := c) X.method X.code, State.localsInUse_invoking X.frames X.method X.code]
    simp only [State.hasRoom, Bool.and_eq_true, decide_eq_true_eq] at h ⊢
    obtain ⟨⟨⟨⟨h1, h2, h3, h4, h5, h6⟩, h7⟩, h8⟩, h9⟩ := h
    rw [X.frames, List.length_cons] at h2 h3
    have q1 := X.heapSize
    have q2 := X.used
    simp only [hF, hU, List.length_cons, State.stackLimits_setFrames, State.stackBytes_setFrames, hl9, hb9]
    refine ⟨⟨⟨⟨by omega, by omega, by omega, by omega, by omega, h6⟩, ?_⟩, ?_⟩, X.book⟩
    · show T.heap.size + R'.cells ≤ e.platform.maxCells
      omega
    · show T.slotsUsed + R'.slots ≤ e.platform.maxSlots
      omega
  · rw [State.stackLimits_setFrames]; rfl
  · rw [State.stackBytes_setFrames]; rfl
  · refine ⟨?_, Nat.le_refl _, Nat.le_refl _, ?_, ?_, fun a c9 h9 => ⟨c9, h9, rfl, rfl, fun _ _ => rfl⟩⟩
    · obtain ⟨t, ht, -⟩ := State.frames_cons hr
      show T.setVm s.vm = { ((T.setVm s.vm).setFrames (.invoking m args :: below)).setFrames (T.setVm s.vm).frames with heap := T.heap, slotsUsed := T.slotsUsed }
      rw [State.setFrames_setFrames, State.setFrames_self ht]
      rfl
    · show T.slotsUsed = T.slotsUsed + ((T.heap.toList.drop T.heap.size).map (·.slots.size)).sum
      rw [List.drop_eq_nil_of_le (Nat.le_of_eq Array.length_toList)]
      rfl
    · show ((T.heap.toList.drop T.heap.size).map (·.slots.size)).sum ≤ 0
      rw [List.drop_eq_nil_of_le (Nat.le_of_eq Array.length_toList)]
      exact Nat.le_refl _
/-- 'throw new E()': new; dup; invokespecial; athrow -/
theorem vx_throw0 {cc : ByteArray} {pc : Nat} (hexec : p.tables.exec = Jvm.exec) (hb : c.code = cc) (hl : l.stackTraces = false) {own cls : String} {names : List String} {ik ic mc ms : Nat} {A : Nat → Prop}
    (hown : s.vm.findClass own = some m.cls) (hcls : Bundle.fit cls = true) (hnames : ∀ n ∈ names, Bundle.fit n = true)
    (hk : (Cond.classLink own ik cls).before args s = true) (hini : (Cond.initialized cls).before args s = true) (hat : ∀ w ∈ vx_at0 own ic cls names, w.before args s = true)
    (hgood : ∀ w ∈ Cond.classLink own ik cls :: Cond.initialized cls :: vx_at0 own ic cls names, vx_ot w = true)
    (hU : vx_Zq Bundle.tN "UNASSIGNED_STACK" Bundle.steD A s s.heap) (hN : vx_Zq Bundle.tN "SUPPRESSED_SENTINEL" Bundle.listD A s s.heap) (hS : va_S A s.heap H locs) (hsize : ls.size = c.maxLocals)
    (d0 : decode cc pc = .ok (.new ik, 3)) (d3 : decode cc (pc + 3) = .ok (.dup, 1)) (d4 : decode cc (pc + 4) = .ok (.invokespecial ic, 3)) (d7 : decode cc (pc + 7) = .ok (.athrow, 1))
    (hout : ∀ x ∈ c.exceptionTable.toList, covers x (pc + 7) = false)
    (hRframes : names.length + 3 < R.frames) (hRlocals : (rest.map fun v => v.category).sum + (13 * (names.length + 1) + 42) ≤ R.locals) (hRcells : cells + 1 ≤ R.cells) (hRslots : slots + 6 ≤ R.slots) (hlocks : meth.locks = false)
    (hx : ∀ t : State, s.vm.Alike t.vm → H.size ≤ t.heap.size → (∀ q : Nat, q < H.size → t.heap[q]? = H[q]?) → XC cls s t)
    (hf : ∀ z ∈ locs, free z.base) (hc : cells + 1 ≤ mc) (hs : slots + 6 ≤ ms) :
    W p l e R s m args below meth c H locs cells slots (vx_MQ below Qc XC args s mc ms free) (F0 m pc ls rest) := by
  intro T hT X
  have htr : e.platform.stackTraces = false := (show e.platform.stackTraces = l.stackTraces by rw [X.admits.platform]).trans hl
  have Y := vx_rebase X (R' := { frames := R.frames, locals := R.locals, cells := 1, slots := 6 }) (Nat.le_refl _) (Nat.le_refl _) hRcells hRslots
  obtain ⟨s', hA⟩ : ∃ z, z = (T.setVm s.vm).setFrames (.invoking m args :: below) := ⟨_, rfl⟩
  rw [← hA] at Y
  have hvm : s'.vm = s.vm := by rw [hA]; rfl
  have hhp : s'.heap = H := by rw [hA]; exact hT
  have hW0 : s.WarmedH s'.vm := by rw [hvm]; exact State.WarmedH.refl s
  have hat' : ∀ w ∈ vx_at0 own ic cls names, w.before args s' = true := fun w hw => vx_ot_at hW0 hvm.symm (hgood w (List.mem_cons_of_mem _ (List.mem_cons_of_mem _ hw))) (hat w hw)
  have hk' : (Cond.classLink own ik cls).before args s' = true := vx_ot_at hW0 hvm.symm (hgood _ List.mem_cons_self) hk
  have hini' : (Cond.initialized cls).before args s' = true := vx_ot_at hW0 hvm.symm (hgood _ (List.mem_cons_of_mem _ List.mem_cons_self)) hini
  have hU' : vx_Zq Bundle.tN "UNASSIGNED_STACK" Bundle.steD A s' s'.heap := by rw [hhp]; exact vx_Zq.moved hW0.alike (hU.kept hS.2.1)
  have hN' : vx_Zq Bundle.tN "SUPPRESSED_SENTINEL" Bundle.listD A s' s'.heap := by rw [hhp]; exact vx_Zq.moved hW0.alike (hN.kept hS.2.1)
  have h : ∀ w ∈ Bundle.ownAtoms0 own ic cls names, w.before args s' = true := vx_own hat' (vx_isRefq hU'.1) (vx_isRefq hN'.1) hU'.2.word hN'.2.word
  have hown' : s'.vm.findClass own = some m.cls := by rw [hvm]; exact hown
  have hins : (Cond.instantiable cls 6).before args s' = true := h _ (by simp [Bundle.ownAtoms0])
  obtain ⟨vm₁, cX, kX, hfX, hkX, -, -, X₁, st1⟩ := Y.newCold hexec (own := own) (C := cls) (index := ik) (n := 6) hown' hk' hins hini'
    (g := F0 m pc ls rest) rfl (by rw [hb]; exact d0) (Nat.le_refl _) (Nat.le_refl _)
  generalize hT1 : (T.setVm vm₁).pushCell { cls := cX, slots := kX.instanceTypes.map defaultValue, vm := .none } = T1 at X₁ st1
  have hcat : (Value.ref T.heap.size).category = 1 := rfl
  have hcellA : T1.heap[T.heap.size]? = some (freshCell cX kX) := by rw [← hT1]; exact State.heap_pushCell_size _ _
  have d3' : decode c.code (pc + 3) = .ok (.dup, 1) := by rw [hb]; exact d3
  obtain ⟨U, hsteps, hrun, hend, hW, hsame, ce, hce, hO⟩ := X₁.ctorThrow0 hexec htr (own := own) (cls := cls) (names := names) (ic := ic) hown' hcls hnames h (fun x hx => nomatch hx) hfX hkX hcellA (by rw [hhp, hT]; exact Nat.le_refl _)
    (g := { method := m, pc := pc + 4, locals := ls, stack := .ref T.heap.size :: .ref T.heap.size :: rest, locked := none }) rfl hsize rfl rfl (rest := rest) rfl
    (by rw [hb]; exact d4) (by rw [hb]; exact d7) hout hRframes (by simp only [List.map_cons, List.sum_cons, hcat]; omega) hlocks
  obtain ⟨f1, f2⟩ := vx_frame hsame
  rw [hhp] at f1 f2
  have hWs : s.WarmedH U.vm := State.WarmedH.trans hW0 hW
  have hcl : s.vm.findClass cls = some ce.cls := by
    have h9 := hO.cls
    rw [hvm] at h9
    exact h9
  have hall : s.sameButNew ({ U with vm := s.vm } : State) locs mc ms := by
    subst hA
    obtain ⟨e1, e2⟩ := hsame
    rw [State.setFrames_setFrames] at e1
    have h2 : (T.setVm s.vm).sameButNew ({ U with vm := s.vm } : State) [] (0 + 1) (0 + 6) := ⟨e1, e2⟩
    have h3 := X.same.trans h2
    rw [List.append_nil] at h3
    exact h3.mono hc hs
  refine ⟨U, ?_, .threw T.heap.size, hrun, hend, Or.inr ⟨T.heap.size, rfl, cls, ce, locs, hx U hWs.alike f1 (fun q hq => f2 q hq (fun z hz => nomatch hz)), hce, hO.vm, hcl, hWs, hall, hf⟩⟩
  refine st1 _ ?_
  show Steps p.tables e below (T1.setTop { method := m, pc := pc + 3, locals := ls, stack := .ref T.heap.size :: rest, locked := none }) _
  jvm_step X₁.here [X₁.here.top, hexec, d3', Value.category]
  exact hsteps
/-- 'throw new E("text")': new; dup; ldc; invokespecial; athrow -/
theorem vx_throwS {cc : ByteArray} {pc : Nat} (hexec : p.tables.exec = Jvm.exec) (hb : c.code = cc) (hl : l.stackTraces = false) {own cls text : String} {names : List String} {ik is ic mc ms sa : Nat} {A : Nat → Prop}
    (hown : s.vm.findClass own = some m.cls) (hcls : Bundle.fit cls = true) (hnames : ∀ n ∈ names, Bundle.fit n = true)
    (hk : (Cond.classLink own ik cls).before args s = true) (hini : (Cond.initialized cls).before args s = true) (hstr : vk_R own is text sa s) (hat : ∀ w ∈ vx_atS own ic cls names, w.before args s = true)
    (hgood : ∀ w ∈ Cond.classLink own ik cls :: Cond.initialized cls :: vx_atS own ic cls names, vx_ot w = true)
    (hU : vx_Zq Bundle.tN "UNASSIGNED_STACK" Bundle.steD A s s.heap) (hN : vx_Zq Bundle.tN "SUPPRESSED_SENTINEL" Bundle.listD A s s.heap) (hS : va_S A s.heap H locs) (hsize : ls.size = c.maxLocals)
    (d0 : decode cc pc = .ok (.new ik, 3)) (d3 : decode cc (pc + 3) = .ok (.dup, 1)) (d4 : decode cc (pc + 4) = .ok (.ldc is, 2)) (d6 : decode cc (pc + 6) = .ok (.invokespecial ic, 3)) (d9 : decode cc (pc + 9) = .ok (.athrow, 1))
    (hout : ∀ x ∈ c.exceptionTable.toList, covers x (pc + 9) = false)
    (hRframes : names.length + 3 < R.frames) (hRlocals : (rest.map fun v => v.category).sum + (13 * (names.length + 1) + 43) ≤ R.locals) (hRcells : cells + 1 ≤ R.cells) (hRslots : slots + 6 ≤ R.slots) (hlocks : meth.locks = false)
    (hx : ∀ t : State, s.vm.Alike t.vm → H.size ≤ t.heap.size → (∀ q : Nat, q < H.size → t.heap[q]? = H[q]?) → XC cls s t)
    (hf : ∀ z ∈ locs, free z.base) (hc : cells + 1 ≤ mc) (hs : slots + 6 ≤ ms) :
    W p l e R s m args below meth c H locs cells slots (vx_MQ below Qc XC args s mc ms free) (F0 m pc ls rest) := by
  intro T hT X
  have htr : e.platform.stackTraces = false := (show e.platform.stackTraces = l.stackTraces by rw [X.admits.platform]).trans hl
  have Y := vx_rebase X (R' := { frames := R.frames, locals := R.locals, cells := 1, slots := 6 }) (Nat.le_refl _) (Nat.le_refl _) hRcells hRslots
  obtain ⟨s', hA⟩ : ∃ z, z = (T.setVm s.vm).setFrames (.invoking m args :: below) := ⟨_, rfl⟩
  rw [← hA] at Y
  have hvm : s'.vm = s.vm := by rw [hA]; rfl
  have hhp : s'.heap = H := by rw [hA]; exact hT
  have hW0 : s.WarmedH s'.vm := by rw [hvm]; exact State.WarmedH.refl s
  have hat' : ∀ w ∈ vx_atS own ic cls names, w.before args s' = true := fun w hw => vx_ot_at hW0 hvm.symm (hgood w (List.mem_cons_of_mem _ (List.mem_cons_of_mem _ hw))) (hat w hw)
  have hk' : (Cond.classLink own ik cls).before args s' = true := vx_ot_at hW0 hvm.symm (hgood _ List.mem_cons_self) hk
  have hini' : (Cond.initialized cls).before args s' = true := vx_ot_at hW0 hvm.symm (hgood _ (List.mem_cons_of_mem _ List.mem_cons_self)) hini
  have hU' : vx_Zq Bundle.tN "UNASSIGNED_STACK" Bundle.steD A s' s'.heap := by rw [hhp]; exact vx_Zq.moved hW0.alike (hU.kept hS.2.1)
  have hN' : vx_Zq Bundle.tN "SUPPRESSED_SENTINEL" Bundle.listD A s' s'.heap := by rw [hhp]; exact vx_Zq.moved hW0.alike (hN.kept hS.2.1)
  have h : ∀ w ∈ Bundle.ownAtoms own ic cls names, w.before args s' = true := vx_own hat' (vx_isRefq hU'.1) (vx_isRefq hN'.1) hU'.2.word hN'.2.word
  have hown' : s'.vm.findClass own = some m.cls := by rw [hvm]; exact hown
  have hins : (Cond.instantiable cls 6).before args s' = true := h _ (by simp [Bundle.ownAtoms])
  obtain ⟨vm₁, cX, kX, hfX, hkX, -, -, X₁, st1⟩ := Y.newCold hexec (own := own) (C := cls) (index := ik) (n := 6) hown' hk' hins hini'
    (g := F0 m pc ls rest) rfl (by rw [hb]; exact d0) (Nat.le_refl _) (Nat.le_refl _)
  generalize hT1 : (T.setVm vm₁).pushCell { cls := cX, slots := kX.instanceTypes.map defaultValue, vm := .none } = T1 at X₁ st1
  have hcat : (Value.ref T.heap.size).category = 1 := rfl
  have hcellA : T1.heap[T.heap.size]? = some (freshCell cX kX) := by rw [← hT1]; exact State.heap_pushCell_size _ _
  have d3' : decode c.code (pc + 3) = .ok (.dup, 1) := by rw [hb]; exact d3
  have d4' : decode c.code (pc + 4) = .ok (.ldc is, 2) := by rw [hb]; exact d4
  have hstr' : vk_R own is text sa s' := vk_R.warm hW0 hstr
  obtain ⟨U, hsteps, hrun, hend, hW, hsame, ce, hce, hO⟩ := X₁.ctorThrowS hexec htr (own := own) (cls := cls) (names := names) (ic := ic) hown' hcls hnames h (fun x hx => nomatch hx) hfX hkX hcellA (by rw [hhp, hT]; exact Nat.le_refl _) (msg := .ref sa) rfl
    (g := { method := m, pc := pc + 6, locals := ls, stack := .ref sa :: .ref T.heap.size :: .ref T.heap.size :: rest, locked := none }) rfl hsize rfl rfl (rest := rest) rfl
    (by rw [hb]; exact d6) (by rw [hb]; exact d9) hout hRframes (by simp only [List.map_cons, List.sum_cons, hcat]; omega) hlocks
  obtain ⟨f1, f2⟩ := vx_frame hsame
  rw [hhp] at f1 f2
  have hWs : s.WarmedH U.vm := State.WarmedH.trans hW0 hW
  have hcl : s.vm.findClass cls = some ce.cls := by
    have h9 := hO.cls
    rw [hvm] at h9
    exact h9
  have hall : s.sameButNew ({ U with vm := s.vm } : State) locs mc ms := by
    subst hA
    obtain ⟨e1, e2⟩ := hsame
    rw [State.setFrames_setFrames] at e1
    have h2 : (T.setVm s.vm).sameButNew ({ U with vm := s.vm } : State) [] (0 + 1) (0 + 6) := ⟨e1, e2⟩
    have h3 := X.same.trans h2
    rw [List.append_nil] at h3
    exact h3.mono hc hs
  refine ⟨U, ?_, .threw T.heap.size, hrun, hend, Or.inr ⟨T.heap.size, rfl, cls, ce, locs, hx U hWs.alike f1 (fun q hq => f2 q hq (fun z hz => nomatch hz)), hce, hO.vm, hcl, hWs, hall, hf⟩⟩
  refine st1 _ ?_
  show Steps p.tables e below (T1.setTop { method := m, pc := pc + 3, locals := ls, stack := .ref T.heap.size :: rest, locked := none }) _
  jvm_step X₁.here [X₁.here.top, hexec, d3', Value.category]
  exact X₁.ldcString hexec (own := own) (text := text) (index := is) (a := sa) hown' hstr'.1 hstr'.2
    (g := { method := m, pc := pc + 4, locals := ls, stack := .ref T.heap.size :: .ref T.heap.size :: rest, locked := none }) rfl d4' _ hsteps
/-- 'throw new E("text")', the text by a wide index -/
theorem vx_throwSW {cc : ByteArray} {pc : Nat} (hexec : p.tables.exec = Jvm.exec) (hb : c.code = cc) (hl : l.stackTraces = false) {own cls text : String} {names : List String} {ik is ic mc ms sa : Nat} {A : Nat → Prop}
    (hown : s.vm.findClass own = some m.cls) (hcls : Bundle.fit cls = true) (hnames : ∀ n ∈ names, Bundle.fit n = true)
    (hk : (Cond.classLink own ik cls).before args s = true) (hini : (Cond.initialized cls).before args s = true) (hstr : vk_R own is text sa s) (hat : ∀ w ∈ vx_atS own ic cls names, w.before args s = true)
    (hgood : ∀ w ∈ Cond.classLink own ik cls :: Cond.initialized cls :: vx_atS own ic cls names, vx_ot w = true)
    (hU : vx_Zq Bundle.tN "UNASSIGNED_STACK" Bundle.steD A s s.heap) (hN : vx_Zq Bundle.tN "SUPPRESSED_SENTINEL" Bundle.listD A s s.heap) (hS : va_S A s.heap H locs) (hsize : ls.size = c.maxLocals)
    (d0 : decode cc pc = .ok (.new ik, 3)) (d3 : decode cc (pc + 3) = .ok (.dup, 1)) (d4 : decode cc (pc + 4) = .ok (.ldc_w is, 3)) (d7 : decode cc (pc + 7) = .ok (.invokespecial ic, 3)) (d10 : decode cc (pc + 10) = .ok (.athrow, 1))
    (hout : ∀ x ∈ c.exceptionTable.toList, covers x (pc + 10) = false)
    (hRframes : names.length + 3 < R.frames) (hRlocals : (rest.map fun v => v.category).sum + (13 * (names.length + 1) + 43) ≤ R.locals) (hRcells : cells + 1 ≤ R.cells) (hRslots : slots + 6 ≤ R.slots) (hlocks : meth.locks = false)
    (hx : ∀ t : State, s.vm.Alike t.vm → H.size ≤ t.heap.size → (∀ q : Nat, q < H.size → t.heap[q]? = H[q]?) → XC cls s t)
    (hf : ∀ z ∈ locs, free z.base) (hc : cells + 1 ≤ mc) (hs : slots + 6 ≤ ms) :
    W p l e R s m args below meth c H locs cells slots (vx_MQ below Qc XC args s mc ms free) (F0 m pc ls rest) := by
  intro T hT X
  have htr : e.platform.stackTraces = false := (show e.platform.stackTraces = l.stackTraces by rw [X.admits.platform]).trans hl
  have Y := vx_rebase X (R' := { frames := R.frames, locals := R.locals, cells := 1, slots := 6 }) (Nat.le_refl _) (Nat.le_refl _) hRcells hRslots
  obtain ⟨s', hA⟩ : ∃ z, z = (T.setVm s.vm).setFrames (.invoking m args :: below) := ⟨_, rfl⟩
  rw [← hA] at Y
  have hvm : s'.vm = s.vm := by rw [hA]; rfl
  have hhp : s'.heap = H := by rw [hA]; exact hT
  have hW0 : s.WarmedH s'.vm := by rw [hvm]; exact State.WarmedH.refl s
  have hat' : ∀ w ∈ vx_atS own ic cls names, w.before args s' = true := fun w hw => vx_ot_at hW0 hvm.symm (hgood w (List.mem_cons_of_mem _ (List.mem_cons_of_mem _ hw))) (hat w hw)
  have hk' : (Cond.classLink own ik cls).before args s' = true := vx_ot_at hW0 hvm.symm (hgood _ List.mem_cons_self) hk
  have hini' : (Cond.initialized cls).before args s' = true := vx_ot_at hW0 hvm.symm (hgood _ (List.mem_cons_of_mem _ List.mem_cons_self)) hini
  have hU' : vx_Zq Bundle.tN "UNASSIGNED_STACK" Bundle.steD A s' s'.heap := by rw [hhp]; exact vx_Zq.moved hW0.alike (hU.kept hS.2.1)
  have hN' : vx_Zq Bundle.tN "SUPPRESSED_SENTINEL" Bundle.listD A s' s'.heap := by rw [hhp]; exact vx_Zq.moved hW0.alike (hN.kept hS.2.1)
  have h : ∀ w ∈ Bundle.ownAtoms own ic cls names, w.before args s' = true := vx_own hat' (vx_isRefq hU'.1) (vx_isRefq hN'.1) hU'.2.word hN'.2.word
  have hown' : s'.vm.findClass own = some m.cls := by rw [hvm]; exact hown
  have hins : (Cond.instantiable cls 6).before args s' = true := h _ (by simp [Bundle.ownAtoms])
  obtain ⟨vm₁, cX, kX, hfX, hkX, -, -, X₁, st1⟩ := Y.newCold hexec (own := own) (C := cls) (index := ik) (n := 6) hown' hk' hins hini'
    (g := F0 m pc ls rest) rfl (by rw [hb]; exact d0) (Nat.le_refl _) (Nat.le_refl _)
  generalize hT1 : (T.setVm vm₁).pushCell { cls := cX, slots := kX.instanceTypes.map defaultValue, vm := .none } = T1 at X₁ st1
  have hcat : (Value.ref T.heap.size).category = 1 := rfl
  have hcellA : T1.heap[T.heap.size]? = some (freshCell cX kX) := by rw [← hT1]; exact State.heap_pushCell_size _ _
  have d3' : decode c.code (pc + 3) = .ok (.dup, 1) := by rw [hb]; exact d3
  have d4' : decode c.code (pc + 4) = .ok (.ldc_w is, 3) := by rw [hb]; exact d4
  have hstr' : vk_R own is text sa s' := vk_R.warm hW0 hstr
  obtain ⟨U, hsteps, hrun, hend, hW, hsame, ce, hce, hO⟩ := X₁.ctorThrowS hexec htr (own := own) (cls := cls) (names := names) (ic := ic) hown' hcls hnames h (fun x hx => nomatch hx) hfX hkX hcellA (by rw [hhp, hT]; exact Nat.le_refl _) (msg := .ref sa) rfl
    (g := { method := m, pc := pc + 7, locals := ls, stack := .ref sa :: .ref T.heap.size :: .ref T.heap.size :: rest, locked := none }) rfl hsize rfl rfl (rest := rest) rfl
    (by rw [hb]; exact d7) (by rw [hb]; exact d10) hout hRframes (by simp only [List.map_cons, List.sum_cons, hcat]; omega) hlocks
  obtain ⟨f1, f2⟩ := vx_frame hsame
  rw [hhp] at f1 f2
  have hWs : s.WarmedH U.vm := State.WarmedH.trans hW0 hW
  have hcl : s.vm.findClass cls = some ce.cls := by
    have h9 := hO.cls
    rw [hvm] at h9
    exact h9
  have hall : s.sameButNew ({ U with vm := s.vm } : State) locs mc ms := by
    subst hA
    obtain ⟨e1, e2⟩ := hsame
    rw [State.setFrames_setFrames] at e1
    have h2 : (T.setVm s.vm).sameButNew ({ U with vm := s.vm } : State) [] (0 + 1) (0 + 6) := ⟨e1, e2⟩
    have h3 := X.same.trans h2
    rw [List.append_nil] at h3
    exact h3.mono hc hs
  refine ⟨U, ?_, .threw T.heap.size, hrun, hend, Or.inr ⟨T.heap.size, rfl, cls, ce, locs, hx U hWs.alike f1 (fun q hq => f2 q hq (fun z hz => nomatch hz)), hce, hO.vm, hcl, hWs, hall, hf⟩⟩
  refine st1 _ ?_
  show Steps p.tables e below (T1.setTop { method := m, pc := pc + 3, locals := ls, stack := .ref T.heap.size :: rest, locked := none }) _
  jvm_step X₁.here [X₁.here.top, hexec, d3', Value.category]
  exact X₁.ldcStringW hexec (own := own) (text := text) (index := is) (a := sa) hown' hstr'.1 hstr'.2
    (g := { method := m, pc := pc + 4, locals := ls, stack := .ref T.heap.size :: .ref T.heap.size :: rest, locked := none }) rfl d4' _ hsteps
end Ends
section Bodies
variable {l : Launch}
theorem vx_ofW {y : MethodName} {ws ws' : List Cond} {rm : Room} {Pc : Array Value → State → Prop} {Qc : Array Value → State → Outcome → State → Prop} {XC : String → State → State → Prop} {mc ms : Nat} {free : Addr → Prop} {cc : ByteArray} {maxL : Nat} {ret : Option FieldType}
    (hy : plainName y.cls = true) (hw : ws = Cond.code y cc maxL ret :: ws')
    (body : ∀ p e s m args below meth c s₁, BodyLoose p l y (headSpec ws rm) cc maxL ret e s m args below meth c s₁ → c.maxLocals = maxL → (∀ x ∈ c.exceptionTable.toList, False) → Pc args s →
      W p l e (headSpec ws rm).room s m args below meth c s.heap [] 0 0 (vx_MQ below Qc XC args s mc ms free) (entryFrame m args maxL)) : vx_Met l y ws rm Pc Qc XC mc ms free := by
  refine MetFree.of_bodyS (code := cc) (maxLocals := maxL) (ret := ret) hy ?_ ?_
  · intro args s m h hn
    obtain ⟨meth, c, h1, h2, h3, h4, h5, h6, -, -⟩ := Cond.code_spec hn (atoms_spec (ws := ws) h _ (by rw [hw]; exact List.mem_cons_self))
    exact ⟨meth, c, h1, h2, h3, h4, h5, h6⟩
  · intro p e s m args below meth c s₁ B hml hP _
    have hh0 : s₁.heap = s.heap := by rw [B.state]; rfl
    have ht : ∀ x ∈ c.exceptionTable.toList, False := by
      obtain ⟨meth9, c9, h1, h2, -, -, -, -, h7, -⟩ := Cond.code_spec B.named (atoms_spec (ws := ws) B.pre _ (by rw [hw]; exact List.mem_cons_self))
      cases Option.some.inj (h1.symm.trans B.method)
      cases Option.some.inj (h2.symm.trans (Stand.of_body B).code)
      intro x hx
      rw [Array.isEmpty_iff.mp h7] at hx
      cases hx
    obtain ⟨t, a1, o, b1, b2, b3⟩ := body p e s m args below meth c s₁ B hml ht hP s₁ hh0 (Stand.of_body B)
    exact ⟨t, o, a1, b1, b2, b3⟩
/-- the table of a body with handlers -/
theorem vx_table {p : Program} {x y : MethodName} {S : Spec} {cc bytes : ByteArray} {maxL maxL' : Nat} {ret ret' : Option FieldType} {e : Env} {s s₁ : State} {m : MethodId} {args : Array Value} {below : List Frame} {meth : Method} {c : Code} {hh : List (Nat × Nat × Nat × Nat)}
    (B : BodyLoose p l y S cc maxL ret e s m args below meth c s₁) (h : (Cond.codeWith y bytes maxL' ret' hh).before args s = true) : c.exceptionTable.toList = tableOf hh := by
  obtain ⟨m9, meth9, c9, hn9, h1, h2, -, -, h6, -⟩ := Cond.codeWith_spec h
  cases Option.some.inj (hn9.symm.trans B.named)
  cases Option.some.inj (h1.symm.trans B.method)
  cases Option.some.inj (h2.symm.trans (Stand.of_body B).code)
  rw [← h6, table_eq]
end Bodies
end VXA
/-! ===== END ===== -/
/-! ===== BEGIN a static call of a method with an exception table ===== -/
section VXS
variable {p : Program} {l : Launch} {e : Env} {R : Room} {s : State} {m : MethodId} {args : Array Value} {below : List Frame} {meth : Method} {c : Code} {T : State} {H : Heap} {locs : List Loc} {cells slots : Nat}
abbrev vx_CSW (R : Room) (s : State) (args : Array Value) (own : String) (index : Nat) (y : MethodName) (bytes : ByteArray) (maxL : Nat) (ret : Option FieldType) (hh : List (Nat × Nat × Nat × Nat)) (ws : List Cond) (rm : Room) (mc ms n : Nat) : Prop :=
  (rm.cells = mc ∧ rm.slots = ms ∧ rm.frames + 1 ≤ R.frames ∧ 8 + (maxL + 11) + rm.locals ≤ R.locals ∧ (∀ w ∈ ws, ∀ (a' : Array Value) (U : State), s.WarmedH U.vm → w.before a' U = true) ∧ Cond.codeWith y bytes maxL ret hh ∈ ws) ∧
  (Cond.codeWith y bytes maxL ret hh).before args s = true ∧ (Cond.initialized y.cls).before args s = true ∧ (y.cls ≠ "java/lang/invoke/MethodHandle" ∧ y.cls ≠ "java/lang/invoke/VarHandle") ∧
  (∀ sig, parseMethodDescriptor y.desc = some sig → n = sig.parameters.length) ∧ (Cond.methodLink own index y).before args s = true ∧ (Cond.static y).before args s = true
theorem vx_cwSW {own : String} {index maxL mc ms : Nat} {y : MethodName} {bytes : ByteArray} {ret : Option FieldType} {hh : List (Nat × Nat × Nat × Nat)} {Ts ws ws' : List Cond} {rm : Room} (n : Nat) (ht : ∀ w ∈ Ts, w.before args s = true) (hT : GoodIn Ts (va_wsS own index y ws)) (hw : ws = Cond.codeWith y bytes maxL ret hh :: ws') (hrc : rm.cells = mc) (hrs : rm.slots = ms)
    (hd : y.cls ≠ "java/lang/invoke/MethodHandle" ∧ y.cls ≠ "java/lang/invoke/VarHandle" ∧ (parseMethodDescriptor y.desc).map (fun d => d.parameters.length) = some n) (hR : rm.frames + 1 ≤ R.frames ∧ 8 + (maxL + 11) + rm.locals ≤ R.locals) :
    vx_CSW R s args own index y bytes maxL ret hh ws rm mc ms n := by
  have ok : ∀ w ∈ va_wsS own index y ws, w.before args s = true := fun w h => ht w (hT w h).1
  have hG : GoodIn Ts ws := fun w h => hT w (by unfold va_wsS; exact List.mem_append_right _ h)
  have hc : Cond.codeWith y bytes maxL ret hh ∈ ws := by rw [hw]; exact List.mem_cons_self
  refine ⟨⟨hrc, hrs, hR.1, hR.2, pay_in ht hG, hc⟩, ht _ (hG _ hc).1, ok _ (by simp [va_wsS]), ⟨hd.1, hd.2.1⟩, fun sig h => ?_, ok _ (by simp [va_wsS]), ok _ (by simp [va_wsS])⟩
  have h2 := hd.2.2
  rw [h] at h2
  exact (Option.some.inj h2).symm
theorem vx_callSW (X : Stand p l e R s m args below meth c T locs cells slots) (hexec : p.tables.exec = Jvm.exec) {own : String} {index : Nat} {y : MethodName} {bytes : ByteArray} {maxL : Nat} {ret : Option FieldType} {hh : List (Nat × Nat × Nat × Nat)}
    (hown : s.vm.findClass own = some m.cls) (hlink : (Cond.methodLink own index y).before args s = true) (hstat : (Cond.static y).before args s = true) (hinit : (Cond.initialized y.cls).before args s = true)
    (hcode : (Cond.codeWith y bytes maxL ret hh).before args s = true) (hy : y.cls ≠ "java/lang/invoke/MethodHandle" ∧ y.cls ≠ "java/lang/invoke/VarHandle")
    {W9 : Nat} {Pre : Pt → Array Value → Prop} {Post : Pt → Array Value → Option Value → Pt → Prop} (hK : Back l R p e below s args y 3 W9 Pre Post)
    {g : JFrame} (hg : g.method = m) (hsize : g.locals.size = c.maxLocals) {argsL rest : List Value} (hlen : ∀ sig, parseMethodDescriptor y.desc = some sig → argsL.length = sig.parameters.length)
    (hstack : g.stack = argsL.reverse ++ rest) (hW : 2 * g.monitorRoom + (rest.map fun v => v.category).sum ≤ W9) (hdg : decode c.code g.pc = .ok (.invokestatic index, 3))
    (hpre : ∀ vm₁, s.WarmedH vm₁ → Pre ⟨T.setVm vm₁, locs, cells, slots⟩ argsL.toArray) :
    ∃ (v : Option Value) (vm₁ : Vm) (B : Pt), s.WarmedH vm₁ ∧ Stand p l e R s m args below meth c B.U B.locs B.cells B.slots ∧ Post ⟨T.setVm vm₁, locs, cells, slots⟩ argsL.toArray v B ∧
      ∀ target, Steps p.tables e below (B.U.setTop { g with pc := g.pc + 3, stack := v.toList ++ rest }) target → Steps p.tables e below (T.setTop g) target := by
  obtain ⟨mk, methM, cM, hnamed, hmethM, -, -, -, -, -, -, hsigM⟩ := Cond.codeWith_spec hcode
  have hstatic : methM.isStatic = true := Cond.static_spec hnamed hmethM hstat
  obtain ⟨kP, hkP, -⟩ := className_of_methodNamed hnamed
  have hinitP : kP.init = .initialized := Cond.initialized_spec (findClass_of_methodNamed hnamed) hkP hinit
  obtain ⟨vm₁, X₁, hstep₁⟩ := X.invokestatic hexec hown hlink hnamed hmethM hstatic hkP hinitP hy (g := g) hg (argsL := argsL) (rest := rest) (hlen _ hsigM) hstack hdg
  obtain ⟨v, B, X', hpost, hsteps⟩ := hK m meth c ⟨T.setVm vm₁, locs, cells, slots⟩ { g with stack := rest } (.invokestatic index) mk argsL.toArray X₁ hg hsize hdg hW (X₁.named hnamed) (hpre vm₁ X₁.warmed)
  exact ⟨v, vm₁, B, X₁.warmed, X', hpost, fun target h => hstep₁ _ fun acts => by rw [doInvoke_state]; exact hsteps.trans h⟩
theorem vx_runSW {y : MethodName} {bytes cc : ByteArray} {maxL nL mc ms n index : Nat} {ret : Option FieldType} {hh : List (Nat × Nat × Nat × Nat)} {ws : List Cond} {rm : Room} {Pc : Array Value → State → Prop} {Qc : Array Value → State → Outcome → State → Prop} {free : Addr → Prop} {Ts : List Cond} {own : String} {As rest : List Value} {g : JFrame}
    (S : CallFix p m c cc nL s args Ts own) (hM : Met l y ws rm Pc Qc mc ms free) (cw : vx_CSW R s args own index y bytes maxL ret hh ws rm mc ms n) (hp : PreS s H Pc As)
    (hg : g.method = m) (hn : As.length = n) (hsize : g.locals.size = nL) (hstack : g.stack = As.reverse ++ rest) (hW : 2 * g.monitorRoom + (rest.map fun v => v.category).sum ≤ 8) (hdg : decode cc g.pc = .ok (.invokestatic index, 3)) (hf : cells + mc ≤ R.cells ∧ slots + ms ≤ R.slots) :
    va_Run p l e R s m args below meth c H locs cells slots mc ms g rest (Qc As.toArray) (free) := by
  obtain ⟨⟨hrc, hrs, hfr, hlo, hws, hcw⟩, hcode, hini, hy, hlen, hl, hstt⟩ := cw
  have hK : Back l R p e below s args y 3 8 (PreOf R mc ms Pc) (PostOf Qc mc ms free) := va_backW (hh := hh) (bytes := bytes) (maxL := maxL) (ret := ret) hM hp.1 hrc hrs hfr hlo hws hcw (fun a' U hW => word_at hW (Or.inl (by first | rfl | simp [Cond.onTables, Cond.keeps, Cond.steady])) hini)
  obtain ⟨hx, hb, hml, ho, -⟩ := S
  intro T hT X
  obtain ⟨v, vm₁, ⟨U', l2, c2, s2⟩, hW₁, X', ⟨g', mk, t, L, e1, e2, hq, h1, hL, h2, h3⟩, st⟩ := vx_callSW X hx (hh := hh) (bytes := bytes) (maxL := maxL) (ret := ret) ho hl hstt hini hcode hy hK hg (hsize.trans hml.symm) (argsL := As) (rest := rest) (fun sig h => hn.trans (hlen sig h)) hstack hW (by rw [hb]; exact hdg)
    (fun vm₁ hW₁ => ⟨hf.1, hf.2, hp.2 (T.setVm vm₁) hT hW₁⟩)
  dsimp only [Pt.U, Pt.locs, Pt.cells, Pt.slots] at X' e1 e2 h1 h2 h3 st
  subst h1; subst h2; subst h3
  exact ⟨v, (T.setVm vm₁).calling g' mk As.toArray, t, U', L, hT, X', hL, e1, e2, hq, st⟩
/-- not caught here, past rows that name other classes: it goes on to the caller -/
theorem vx_outP {p : Program} {l : Launch} {e : Env} {R : Room} {s : State} {m : MethodId} {args : Array Value} {below : List Frame} {meth : Method} {c : Code} {H : Heap} {locs : List Loc} {cells slots : Nat} {free : Addr → Prop} {ls : Array Slot} {rest : List Value} {Qc : Array Value → State → Outcome → State → Prop} {XC : String → State → State → Prop}
    {pc : Nat} {own E : String} {ce : Cell} {q : Addr} {mc ms : Nat} (hown : s.vm.findClass own = some m.cls) (hlocks : meth.locks = false)
    (hpass : ∀ z ∈ c.exceptionTable.toList, covers z pc = false ∨ (z.catchType ≠ 0 ∧ ∃ nm : String, (Cond.classLink own z.catchType nm).before args s = true ∧ va_Nc E nm s)) (hcell : H[q]? = some ce) (hv : ce.vm = .none) (hcl : s.vm.findClass E = some ce.cls)
    (hx : ∀ t : State, t.heap = H → s.vm.Alike t.vm → XC E s t) (hf : ∀ z ∈ locs, free z.base) (hc : cells ≤ mc) (hs : slots ≤ ms) :
    vx_W p l e R s m args below meth c H locs cells slots (vx_MQ below Qc XC args s mc ms free) (F0 m pc ls rest) q := by
  intro T hT X
  have hpl : e.platform.magicAccessors = ({} : Platform).magicAccessors := by rw [X.admits.platform]
  obtain ⟨vm', hW', X', st⟩ := Stand.outThrough X hlocks q (g := F0 m pc ls rest) rfl rfl rfl (cell := ce) (by rw [hT]; exact hcell) (by rw [hv]; rfl)
    (by obtain ⟨k9, h9, -⟩ := Vm.findClass_spec hcl; exact ⟨k9, h9⟩) (fun z hz => by
      rcases hpass z hz with h | ⟨hz0, nm, hl1, hn1⟩
      · exact Or.inl h
      · obtain ⟨c6, hc6, hcl6⟩ := Cond.classLink_spec hown hl1 e.platform hpl
        obtain ⟨a8, b8, h1, h2, h3⟩ := hn1
        cases Option.some.inj (h1.symm.trans hcl)
        cases Option.some.inj (h2.symm.trans hc6)
        exact Or.inr ⟨hz0, _, hcl6, h3⟩)
  obtain ⟨g₀, hfr⟩ := X'.frames_eq
  have hcell9 : ((T.setVm vm').setFrames (.throwing q :: below)).heap[q]? = some ce := by
    show T.heap[q]? = some ce
    rw [hT]; exact hcell
  have hend : Ended ((T.setVm vm').setFrames (.throwing q :: below)) below (.threw q) := State.frames_setFrames _ (State.cur_lt_of_frames hfr)
  refine ⟨(T.setVm vm').setFrames (.throwing q :: below), ?_, .threw q, X'.here.running, hend, Or.inr ⟨q, rfl, E, ce, locs, hx _ hT (X'.ends _).1.alike, hcell9, hv, hcl, (X'.ends _).1, (X'.ends _).2.mono hc hs, hf⟩⟩
  rw [X.pushThrowing_eq]
  exact st
/-- a thing of a world lies in the heap -/
theorem vx_lt {D : va_G} {cl : List vw_C} {ws : va_W} {H1 : Heap} (h : va_P D cl ws H1) {k : Nat} {q : Nat × va_E} (hk : ws[k]? = some q) : q.1 < H1.size := (h k q hk).lt
end VXS
/-! ===== END ===== -/
/-! ===== BEGIN methods with a table of their own: called by a name, returning or throwing ===== -/
section VXH
/-! vx_backW, vx_callVX, vx_callSX, vx_callVW, vx_runVW, vx_runVX, vx_runSX, vx_ofWH follow the same proofs as their sisters above (Free/Laws.lean, Shelf42/LK1.lean); vx_outP calls Shelf42/NT130.lean (outThrough). -/
section
variable {l : Launch} {R : Room} {p : Program} {e : Env} {below : List Frame} {s : State} {sargs : Array Value} {y : MethodName} {len W9 : Nat}
theorem vx_backW {ws : List Cond} {rm : Room} {Pc : Array Value → State → Prop} {Qc : Array Value → State → Outcome → State → Prop} {XC : String → State → State → Prop} {mc ms : Nat} {free : Addr → Prop} {bytes : ByteArray} {maxL : Nat} {ret : Option FieldType} {hh : List (Nat × Nat × Nat × Nat)}
    (hM : vx_Met l y ws rm Pc Qc XC mc ms free) (hblind : FrameBlind Pc) (hrc : rm.cells = mc) (hrs : rm.slots = ms)
    (hframes : rm.frames + 1 ≤ R.frames) (hlocals : W9 + (maxL + 11) + rm.locals ≤ R.locals)
    (hws : ∀ w ∈ ws, ∀ a' U, s.WarmedH U.vm → w.before a' U = true) (hcode : Cond.codeWith y bytes maxL ret hh ∈ ws) (hinit : ∀ a' U, s.WarmedH U.vm → (Cond.initialized y.cls).before a' U = true) :
    vx_Back l R p e below s sargs y len W9 (PreOf R mc ms Pc) (PostOf Qc mc ms free) (vx_Post XC mc ms free) := by
  intro m meth c A g ig mk a X hg hsize hdg hW hn hp
  have h1 : (headSpec ws rm).pre.before a A.U = true := atoms_intro fun w hw => hws w hw _ _ X.warmed
  have h2 : (Cond.codeWith y bytes maxL ret hh).before a A.U = true := hws _ hcode _ _ X.warmed
  have h3 : (Cond.initialized y.cls).before a A.U = true := hinit _ _ X.warmed
  have h4 : A.cells + (headSpec ws rm).room.cells ≤ R.cells := by rw [show (headSpec ws rm).room.cells = mc from hrc]; exact hp.1
  have h5 : A.slots + (headSpec ws rm).room.slots ≤ R.slots := by rw [show (headSpec ws rm).room.slots = ms from hrs]; exact hp.2.1
  have hPc : Pc a (A.U.calling g mk a) := hblind _ _ _ _ hp.2.2
  obtain ⟨U, Ls, c0, s0⟩ := A
  dsimp only [Pt.U, Pt.locs, Pt.cells, Pt.slots] at h1 h2 h3 h4 h5 X hn hPc ⊢
  obtain ⟨m9, methY, cY, hn9, hmY, hcY, -, hlY, -⟩ := Cond.codeWith_spec h2
  cases Option.some.inj (hn9.symm.trans hn)
  obtain ⟨kY, hkY, -⟩ := className_of_methodNamed hn
  have hinitY : kY.init = .initialized := Cond.initialized_spec (findClass_of_methodNamed hn) hkY h3
  have h : At U g.method c below := by rw [hg]; exact X.here
  have hlocals9 : W9 + (maxL + 11) + (headSpec ws rm).room.locals ≤ R.locals := hlocals
  have happ : (headSpec ws rm).appliesLoose y e.platform (U.calling g mk a) = true :=
    Spec.appliesLoose_calling (g := g) h hdg hn hkY hinitY
      (X.room_calling (g := g) (R' := (headSpec ws rm).room) hsize hmY hcY hframes (by rw [hlY]; omega) h4 h5) h1
  obtain ⟨mid, hmid⟩ := h.above
  have hfr : (U.setTop g).frames = (.java g :: mid) ++ below := by rw [State.frames_setTop' g h.top, hmid]; rfl
  obtain ⟨o, s₂, hsteps, -, hend, hq⟩ := Steps.callFree hM p X.admits X.cas X.clock (acts := []) hfr happ hPc trivial
  have hq' : vx_Q Qc XC mc ms free a (U.calling g mk a) o s₂ := hq
  rw [State.frames_setTop' g h.top] at hend
  obtain ⟨g₀, hg0⟩ := Option.isSome_iff_exists.mp h.top
  obtain ⟨r, hr⟩ := State.topJava?_eq_some.mp hg0
  have hr' : (({ U with heap := s₂.heap, slotsUsed := s₂.slotsUsed } : State).setVm s₂.vm).frames = .java g₀ :: r := hr
  rcases hq' with ⟨hqc, L, hfe, hL⟩ | ⟨q, rfl, E, ce, L, hx, hce, hcv, hcl, hW₂, hsm, hL⟩
  · obtain ⟨⟨v, rfl⟩, hW₂, e2, q2, q3, q4, q5, q6⟩ := id hfe
    have e3 : s₂ = ({ (U.calling g mk a).setFrames s₂.frames with heap := s₂.heap, slotsUsed := s₂.slotsUsed } : State).setVm s₂.vm := by
      have : s₂ = ({ s₂ with vm := (U.calling g mk a).vm } : State).setVm s₂.vm := rfl
      rw [e2] at this
      exact this
    obtain ⟨c₂, i₂, len₂, hc₂, hd₂, hf₂⟩ := hend
    have hW' : U.WarmedH s₂.vm := hW₂
    have hcc : c₂ = c := by
      have h1 : s₂.code? g.method = U.code? g.method := by
        rw [State.code?_eq, State.code?_eq, hW'.alike.method?]
      exact Option.some.inj (hc₂.symm.trans (h1.trans h.code))
    subst hcc
    have hlen : len₂ = len := by rw [hdg] at hd₂; cases hd₂; rfl
    subst hlen
    have hs₂ : s₂ = (({ U with heap := s₂.heap, slotsUsed := s₂.slotsUsed } : State).setVm s₂.vm).setTop { g with pc := g.pc + len₂, stack := v.toList ++ g.stack } := by
      refine e3.trans ?_
      rw [hf₂, State.calling_eq h.top, State.setFrames_setFrames, State.setTop_of_frames _ hr', hr]
      rfl
    have hsame : U.sameButNew ({ U with heap := s₂.heap, slotsUsed := s₂.slotsUsed } : State) L mc ms := by
      refine ⟨?_, q2, q3, q4, q5, q6⟩
      obtain ⟨t, ht, -⟩ := State.frames_cons hr
      show ({ U with heap := s₂.heap, slotsUsed := s₂.slotsUsed } : State) = { U.setFrames U.frames with heap := s₂.heap, slotsUsed := s₂.slotsUsed }
      rw [State.setFrames_self ht]
    subst hg
    refine Or.inl ⟨v, ⟨(({ U with heap := s₂.heap, slotsUsed := s₂.slotsUsed } : State).setVm s₂.vm), Ls ++ L, c0 + mc, s0 + ms⟩,
      ⟨X.admits, X.cas, X.clock, X.frames, X.room, X.hears, X.method, X.code, (X.here.setHeapUsed s₂.heap s₂.slotsUsed).setVm hW'.alike, X.tail, State.WarmedH.trans X.warmed hW', X.limits, X.bytes, X.same.trans (hsame.setVm s.vm)⟩,
      ⟨g, mk, s₂, L, rfl, rfl, hqc, rfl, hL, rfl, rfl⟩, ?_⟩
    show Steps p.tables e below _ ((({ U with heap := s₂.heap, slotsUsed := s₂.slotsUsed } : State).setVm s₂.vm).setTop { g with pc := g.pc + len₂, stack := v.toList ++ g.stack })
    rw [← hs₂]
    exact hsteps
  · obtain ⟨e2, q2, q3, q4, q5, q6⟩ := id hsm
    have e3 : s₂ = ({ (U.calling g mk a).setFrames s₂.frames with heap := s₂.heap, slotsUsed := s₂.slotsUsed } : State).setVm s₂.vm := by
      have : s₂ = ({ s₂ with vm := (U.calling g mk a).vm } : State).setVm s₂.vm := rfl
      rw [e2] at this
      exact this
    have hf₂ : s₂.frames = .throwing q :: .java g :: U.frames.tail := hend
    have hW' : U.WarmedH s₂.vm := hW₂
    have hs₂ : s₂ = ((({ U with heap := s₂.heap, slotsUsed := s₂.slotsUsed } : State).setVm s₂.vm).setTop g).pushFrame (.throwing q) := by
      refine e3.trans ?_
      rw [hf₂, State.calling_eq h.top, State.setFrames_setFrames, State.pushFrame, State.frames_setTop _ hr', State.setTop_of_frames _ hr', State.setFrames_setFrames, hr]
      rfl
    have hsame : U.sameButNew ({ U with heap := s₂.heap, slotsUsed := s₂.slotsUsed } : State) L mc ms := by
      refine ⟨?_, q2, q3, q4, q5, q6⟩
      obtain ⟨t, ht, -⟩ := State.frames_cons hr
      show ({ U with heap := s₂.heap, slotsUsed := s₂.slotsUsed } : State) = { U.setFrames U.frames with heap := s₂.heap, slotsUsed := s₂.slotsUsed }
      rw [State.setFrames_self ht]
    subst hg
    refine Or.inr ⟨q, ⟨(({ U with heap := s₂.heap, slotsUsed := s₂.slotsUsed } : State).setVm s₂.vm), Ls ++ L, c0 + mc, s0 + ms⟩,
      ⟨X.admits, X.cas, X.clock, X.frames, X.room, X.hears, X.method, X.code, (X.here.setHeapUsed s₂.heap s₂.slotsUsed).setVm hW'.alike, X.tail, State.WarmedH.trans X.warmed hW', X.limits, X.bytes, X.same.trans (hsame.setVm s.vm)⟩,
      ⟨g, mk, s₂, L, E, ce, rfl, rfl, hx, hce, hcv, hcl, rfl, hL, rfl, rfl⟩, ?_⟩
    show Steps p.tables e below _ (((({ U with heap := s₂.heap, slotsUsed := s₂.slotsUsed } : State).setVm s₂.vm).setTop g).pushFrame (.throwing q))
    rw [← hs₂]
    exact hsteps
end
variable {p : Program} {l : Launch} {e : Env} {R : Room} {s : State} {m : MethodId} {args : Array Value} {below : List Frame} {meth : Method} {c : Code} {T : State} {H : Heap} {locs : List Loc} {cells slots : Nat}
theorem vx_callVX (X : Stand p l e R s m args below meth c T locs cells slots) (hexec : p.tables.exec = Jvm.exec) {own C : String} {index : Nat} {y : MethodName} {bytes : ByteArray} {maxL : Nat} {ret : Option FieldType} {hh : List (Nat × Nat × Nat × Nat)}
    (hown : s.vm.findClass own = some m.cls) (hlink : (Cond.methodLink own index y).before args s = true) (hinst : (Cond.instanceMethod y).before args s = true) (hsel : (Cond.selects C y y).before args s = true)
    (hcode : (Cond.codeWith y bytes maxL ret hh).before args s = true) (hy : y.cls ≠ "java/lang/invoke/MethodHandle" ∧ y.cls ≠ "java/lang/invoke/VarHandle")
    {W9 : Nat} {Pre : Pt → Array Value → Prop} {Post : Pt → Array Value → Option Value → Pt → Prop} {PostX : Pt → Array Value → Addr → Pt → Prop} (hK : vx_Back l R p e below s args y 3 W9 Pre Post PostX)
    {b : Addr} {cellB : Cell} (hcell : T.heap[b]? = some cellB) (hobj : cellB.vm.isStatics = false) (hcls : s.vm.findClass C = some cellB.cls)
    {g : JFrame} (hg : g.method = m) (hsize : g.locals.size = c.maxLocals) {argsL rest : List Value} (hlen : ∀ sig, parseMethodDescriptor y.desc = some sig → argsL.length = sig.parameters.length)
    (hstack : g.stack = argsL.reverse ++ .ref b :: rest) (hW : 2 * g.monitorRoom + (rest.map fun v => v.category).sum ≤ W9) (hdg : decode c.code g.pc = .ok (.invokevirtual index, 3))
    (hpre : ∀ vm₁, s.WarmedH vm₁ → Pre ⟨T.setVm vm₁, locs, cells, slots⟩ (Value.ref b :: argsL).toArray) :
    (∃ (v : Option Value) (vm₁ : Vm) (B : Pt), s.WarmedH vm₁ ∧ Stand p l e R s m args below meth c B.U B.locs B.cells B.slots ∧ Post ⟨T.setVm vm₁, locs, cells, slots⟩ (Value.ref b :: argsL).toArray v B ∧
      ∀ target, Steps p.tables e below (B.U.setTop { g with pc := g.pc + 3, stack := v.toList ++ rest }) target → Steps p.tables e below (T.setTop g) target) ∨
    (∃ (q : Addr) (vm₁ : Vm) (B : Pt), s.WarmedH vm₁ ∧ Stand p l e R s m args below meth c B.U B.locs B.cells B.slots ∧ PostX ⟨T.setVm vm₁, locs, cells, slots⟩ (Value.ref b :: argsL).toArray q B ∧
      Steps p.tables e below (T.setTop g) ((B.U.setTop { g with stack := rest }).pushFrame (.throwing q))) := by
  obtain ⟨mk, methM, hnamed, hmethM, hstM, habM⟩ := Cond.instanceMethod_spec hinst
  obtain ⟨m8, methM', cM, hn8, hmethM', -, -, -, -, -, -, hsigM⟩ := Cond.codeWith_spec hcode
  cases Option.some.inj (hn8.symm.trans hnamed)
  cases hmethM.symm.trans hmethM'
  obtain ⟨c2, r2, m2, q1, q2, q3, q4, kP, hkP, hkPi⟩ := Cond.selects_spec hsel
  cases hcls.symm.trans q1
  cases (State.methodFound?_of_named hnamed hy).symm.trans q2
  cases hnamed.symm.trans q3
  have hselP : selectMethod e.platform s.vm cellB.cls mk = .method mk := by rw [Launch.admits_selectMethod X.admits]; exact q4
  obtain ⟨vm₁, X₁, hstep₁⟩ := X.invokevirtual hexec hown hlink hnamed hmethM hstM hkP hkPi hy (a := b) (cell := cellB) hcell
    (fun z h => by rw [h] at hobj; cases hobj) hselP hmethM habM hkP hkPi (g := g) hg (argsL := argsL) (rest := rest) (hlen _ hsigM) hstack hdg
  rcases hK m meth c ⟨T.setVm vm₁, locs, cells, slots⟩ { g with stack := rest } (.invokevirtual index) mk (Value.ref b :: argsL).toArray X₁ hg hsize hdg hW (X₁.named hnamed) (hpre vm₁ X₁.warmed) with ⟨v, B, X', hpost, hsteps⟩ | ⟨q, B, X', hpost, hsteps⟩
  · exact Or.inl ⟨v, vm₁, B, X₁.warmed, X', hpost, fun target h => hstep₁ _ fun acts => by rw [doInvoke_state]; exact hsteps.trans h⟩
  · exact Or.inr ⟨q, vm₁, B, X₁.warmed, X', hpost, hstep₁ _ fun acts => by rw [doInvoke_state]; exact hsteps⟩
theorem vx_callSX (X : Stand p l e R s m args below meth c T locs cells slots) (hexec : p.tables.exec = Jvm.exec) {own : String} {index : Nat} {y : MethodName} {bytes : ByteArray} {maxL : Nat} {ret : Option FieldType} {hh : List (Nat × Nat × Nat × Nat)}
    (hown : s.vm.findClass own = some m.cls) (hlink : (Cond.methodLink own index y).before args s = true) (hstat : (Cond.static y).before args s = true) (hinit : (Cond.initialized y.cls).before args s = true)
    (hcode : (Cond.codeWith y bytes maxL ret hh).before args s = true) (hy : y.cls ≠ "java/lang/invoke/MethodHandle" ∧ y.cls ≠ "java/lang/invoke/VarHandle")
    {W9 : Nat} {Pre : Pt → Array Value → Prop} {Post : Pt → Array Value → Option Value → Pt → Prop} {PostX : Pt → Array Value → Addr → Pt → Prop} (hK : vx_Back l R p e below s args y 3 W9 Pre Post PostX)
    {g : JFrame} (hg : g.method = m) (hsize : g.locals.size = c.maxLocals) {argsL rest : List Value} (hlen : ∀ sig, parseMethodDescriptor y.desc = some sig → argsL.length = sig.parameters.length)
    (hstack : g.stack = argsL.reverse ++ rest) (hW : 2 * g.monitorRoom + (rest.map fun v => v.category).sum ≤ W9) (hdg : decode c.code g.pc = .ok (.invokestatic index, 3))
    (hpre : ∀ vm₁, s.WarmedH vm₁ → Pre ⟨T.setVm vm₁, locs, cells, slots⟩ argsL.toArray) :
    (∃ (v : Option Value) (vm₁ : Vm) (B : Pt), s.WarmedH vm₁ ∧ Stand p l e R s m args below meth c B.U B.locs B.cells B.slots ∧ Post ⟨T.setVm vm₁, locs, cells, slots⟩ argsL.toArray v B ∧
      ∀ target, Steps p.tables e below (B.U.setTop { g with pc := g.pc + 3, stack := v.toList ++ rest }) target → Steps p.tables e below (T.setTop g) target) ∨
    (∃ (q : Addr) (vm₁ : Vm) (B : Pt), s.WarmedH vm₁ ∧ Stand p l e R s m args below meth c B.U B.locs B.cells B.slots ∧ PostX ⟨T.setVm vm₁, locs, cells, slots⟩ argsL.toArray q B ∧
      Steps p.tables e below (T.setTop g) ((B.U.setTop { g with stack := rest }).pushFrame (.throwing q))) := by
  obtain ⟨mk, methM, cM, hnamed, hmethM, -, -, -, -, -, -, hsigM⟩ := Cond.codeWith_spec hcode
  have hstatic : methM.isStatic = true := Cond.static_spec hnamed hmethM hstat
  obtain ⟨kP, hkP, -⟩ := className_of_methodNamed hnamed
  have hinitP : kP.init = .initialized := Cond.initialized_spec (findClass_of_methodNamed hnamed) hkP hinit
  obtain ⟨vm₁, X₁, hstep₁⟩ := X.invokestatic hexec hown hlink hnamed hmethM hstatic hkP hinitP hy (g := g) hg (argsL := argsL) (rest := rest) (hlen _ hsigM) hstack hdg
  rcases hK m meth c ⟨T.setVm vm₁, locs, cells, slots⟩ { g with stack := rest } (.invokestatic index) mk argsL.toArray X₁ hg hsize hdg hW (X₁.named hnamed) (hpre vm₁ X₁.warmed) with ⟨v, B, X', hpost, hsteps⟩ | ⟨q, B, X', hpost, hsteps⟩
  · exact Or.inl ⟨v, vm₁, B, X₁.warmed, X', hpost, fun target h => hstep₁ _ fun acts => by rw [doInvoke_state]; exact hsteps.trans h⟩
  · exact Or.inr ⟨q, vm₁, B, X₁.warmed, X', hpost, hstep₁ _ fun acts => by rw [doInvoke_state]; exact hsteps⟩
theorem vx_callVW (X : Stand p l e R s m args below meth c T locs cells slots) (hexec : p.tables.exec = Jvm.exec) {own C : String} {index : Nat} {y : MethodName} {bytes : ByteArray} {maxL : Nat} {ret : Option FieldType} {hh : List (Nat × Nat × Nat × Nat)}
    (hown : s.vm.findClass own = some m.cls) (hlink : (Cond.methodLink own index y).before args s = true) (hinst : (Cond.instanceMethod y).before args s = true) (hsel : (Cond.selects C y y).before args s = true)
    (hcode : (Cond.codeWith y bytes maxL ret hh).before args s = true) (hy : y.cls ≠ "java/lang/invoke/MethodHandle" ∧ y.cls ≠ "java/lang/invoke/VarHandle")
    {W9 : Nat} {Pre : Pt → Array Value → Prop} {Post : Pt → Array Value → Option Value → Pt → Prop} (hK : Back l R p e below s args y 3 W9 Pre Post)
    {b : Addr} {cellB : Cell} (hcell : T.heap[b]? = some cellB) (hobj : cellB.vm.isStatics = false) (hcls : s.vm.findClass C = some cellB.cls)
    {g : JFrame} (hg : g.method = m) (hsize : g.locals.size = c.maxLocals) {argsL rest : List Value} (hlen : ∀ sig, parseMethodDescriptor y.desc = some sig → argsL.length = sig.parameters.length)
    (hstack : g.stack = argsL.reverse ++ .ref b :: rest) (hW : 2 * g.monitorRoom + (rest.map fun v => v.category).sum ≤ W9) (hdg : decode c.code g.pc = .ok (.invokevirtual index, 3))
    (hpre : ∀ vm₁, s.WarmedH vm₁ → Pre ⟨T.setVm vm₁, locs, cells, slots⟩ (Value.ref b :: argsL).toArray) :
    ∃ (v : Option Value) (vm₁ : Vm) (B : Pt), s.WarmedH vm₁ ∧ Stand p l e R s m args below meth c B.U B.locs B.cells B.slots ∧ Post ⟨T.setVm vm₁, locs, cells, slots⟩ (Value.ref b :: argsL).toArray v B ∧
      ∀ target, Steps p.tables e below (B.U.setTop { g with pc := g.pc + 3, stack := v.toList ++ rest }) target → Steps p.tables e below (T.setTop g) target := by
  obtain ⟨mk, methM, hnamed, hmethM, hstM, habM⟩ := Cond.instanceMethod_spec hinst
  obtain ⟨m8, methM', cM, hn8, hmethM', -, -, -, -, -, -, hsigM⟩ := Cond.codeWith_spec hcode
  cases Option.some.inj (hn8.symm.trans hnamed)
  cases hmethM.symm.trans hmethM'
  obtain ⟨c2, r2, m2, q1, q2, q3, q4, kP, hkP, hkPi⟩ := Cond.selects_spec hsel
  cases hcls.symm.trans q1
  cases (State.methodFound?_of_named hnamed hy).symm.trans q2
  cases hnamed.symm.trans q3
  have hselP : selectMethod e.platform s.vm cellB.cls mk = .method mk := by rw [Launch.admits_selectMethod X.admits]; exact q4
  obtain ⟨vm₁, X₁, hstep₁⟩ := X.invokevirtual hexec hown hlink hnamed hmethM hstM hkP hkPi hy (a := b) (cell := cellB) hcell
    (fun z h => by rw [h] at hobj; cases hobj) hselP hmethM habM hkP hkPi (g := g) hg (argsL := argsL) (rest := rest) (hlen _ hsigM) hstack hdg
  obtain ⟨v, B, X', hpost, hsteps⟩ := hK m meth c ⟨T.setVm vm₁, locs, cells, slots⟩ { g with stack := rest } (.invokevirtual index) mk (Value.ref b :: argsL).toArray X₁ hg hsize hdg hW (X₁.named hnamed) (hpre vm₁ X₁.warmed)
  exact ⟨v, vm₁, B, X₁.warmed, X', hpost, fun target h => hstep₁ _ fun acts => by rw [doInvoke_state]; exact hsteps.trans h⟩
abbrev vx_CVW (R : Room) (s : State) (args : Array Value) (own C : String) (index : Nat) (y : MethodName) (bytes : ByteArray) (maxL : Nat) (ret : Option FieldType) (hh : List (Nat × Nat × Nat × Nat)) (ws : List Cond) (rm : Room) (mc ms n : Nat) : Prop :=
  (rm.cells = mc ∧ rm.slots = ms ∧ rm.frames + 1 ≤ R.frames ∧ 8 + (maxL + 11) + rm.locals ≤ R.locals ∧ (∀ w ∈ ws, ∀ (a' : Array Value) (U : State), s.WarmedH U.vm → w.before a' U = true) ∧ Cond.codeWith y bytes maxL ret hh ∈ ws) ∧
  (Cond.codeWith y bytes maxL ret hh).before args s = true ∧ (Cond.initialized y.cls).before args s = true ∧ (y.cls ≠ "java/lang/invoke/MethodHandle" ∧ y.cls ≠ "java/lang/invoke/VarHandle") ∧
  (∀ sig, parseMethodDescriptor y.desc = some sig → n = sig.parameters.length) ∧ (Cond.methodLink own index y).before args s = true ∧ (Cond.instanceMethod y).before args s = true ∧ (Cond.selects C y y).before args s = true
theorem vx_cwVW {own C : String} {index maxL mc ms : Nat} {y : MethodName} {bytes : ByteArray} {ret : Option FieldType} {hh : List (Nat × Nat × Nat × Nat)} {Ts ws ws' : List Cond} {rm : Room} (n : Nat) (ht : ∀ w ∈ Ts, w.before args s = true) (hT : GoodIn Ts (wsV own index C y ws)) (hw : ws = Cond.codeWith y bytes maxL ret hh :: ws') (hrc : rm.cells = mc) (hrs : rm.slots = ms)
    (hd : y.cls = C ∧ y.cls ≠ "java/lang/invoke/MethodHandle" ∧ y.cls ≠ "java/lang/invoke/VarHandle" ∧ (parseMethodDescriptor y.desc).map (fun d => d.parameters.length) = some n) (hR : rm.frames + 1 ≤ R.frames ∧ 8 + (maxL + 11) + rm.locals ≤ R.locals) :
    vx_CVW R s args own C index y bytes maxL ret hh ws rm mc ms n := by
  obtain ⟨hC, hd⟩ := hd
  subst hC
  have ok : ∀ w ∈ wsV own index y.cls y ws, w.before args s = true := fun w h => ht w (hT w h).1
  have hG : GoodIn Ts ws := fun w h => hT w (by unfold wsV; exact List.mem_append_right _ h)
  have hc : Cond.codeWith y bytes maxL ret hh ∈ ws := by rw [hw]; exact List.mem_cons_self
  refine ⟨⟨hrc, hrs, hR.1, hR.2, pay_in ht hG, hc⟩, ht _ (hG _ hc).1, ok _ (by simp [wsV]), ⟨hd.1, hd.2.1⟩, fun sig h => ?_, ok _ (by simp [wsV]), ok _ (by simp [wsV]), ok _ (by simp [wsV])⟩
  have h2 := hd.2.2
  rw [h] at h2
  exact (Option.some.inj h2).symm
theorem vx_runVW {y : MethodName} {bytes cc : ByteArray} {maxL nL mc ms n index : Nat} {ret : Option FieldType} {hh : List (Nat × Nat × Nat × Nat)} {ws : List Cond} {rm : Room} {Pc : Array Value → State → Prop} {Qc : Array Value → State → Outcome → State → Prop} {free : Addr → Prop} {Ts : List Cond} {own C : String} {b : Addr} {As rest : List Value} {g : JFrame}
    (S : CallFix p m c cc nL s args Ts own) (hM : Met l y ws rm Pc Qc mc ms free) (cw : vx_CVW R s args own C index y bytes maxL ret hh ws rm mc ms n) (hp : PreV s H C b Pc As)
    (hg : g.method = m) (hn : As.length = n) (hsize : g.locals.size = nL) (hstack : g.stack = As.reverse ++ .ref b :: rest) (hW : 2 * g.monitorRoom + (rest.map fun v => v.category).sum ≤ 8) (hdg : decode cc g.pc = .ok (.invokevirtual index, 3)) (hf : cells + mc ≤ R.cells ∧ slots + ms ≤ R.slots) :
    va_Run p l e R s m args below meth c H locs cells slots mc ms g rest (Qc (Value.ref b :: As).toArray) free := by
  obtain ⟨⟨hrc, hrs, hfr, hlo, hws, hcw⟩, hcode, hini, hy, hlen, hl, hin, hse⟩ := cw
  have hK : Back l R p e below s args y 3 8 (PreOf R mc ms Pc) (PostOf Qc mc ms free) := va_backW (hh := hh) (bytes := bytes) (maxL := maxL) (ret := ret) hM hp.1 hrc hrs hfr hlo hws hcw (fun a' U hW => word_at hW (Or.inl (by first | rfl | simp [Cond.onTables, Cond.keeps, Cond.steady])) hini)
  obtain ⟨hx, hb, hml, ho, -⟩ := S
  obtain ⟨-, ⟨cellB, hcB, hoB, hclB⟩, hPc⟩ := hp
  intro T hT X
  obtain ⟨v, vm₁, ⟨U', l2, c2, s2⟩, hW₁, X', ⟨g', mk, t, L, e1, e2, hq, h1, hL, h2, h3⟩, st⟩ := vx_callVW X hx (C := C) (hh := hh) (bytes := bytes) (maxL := maxL) (ret := ret) ho hl hin hse hcode hy hK (by rw [hT]; exact hcB) hoB hclB hg (hsize.trans hml.symm) (argsL := As) (rest := rest) (fun sig h => hn.trans (hlen sig h)) hstack hW (by rw [hb]; exact hdg)
    (fun vm₁ hW₁ => ⟨hf.1, hf.2, hPc (T.setVm vm₁) hT hW₁⟩)
  dsimp only [Pt.U, Pt.locs, Pt.cells, Pt.slots] at X' e1 e2 h1 h2 h3 st
  subst h1; subst h2; subst h3
  exact ⟨v, (T.setVm vm₁).calling g' mk (Value.ref b :: As).toArray, t, U', L, hT, X', hL, e1, e2, hq, st⟩
section
variable {y : MethodName} {bytes cc : ByteArray} {maxL nL mc ms n index : Nat} {ret : Option FieldType} {ws : List Cond} {rm : Room} {Pc : Array Value → State → Prop} {Qc : Array Value → State → Outcome → State → Prop} {XC : String → State → State → Prop} {free : Addr → Prop} {Ts : List Cond} {own C : String} {b : Addr} {As rest : List Value} {g : JFrame}
theorem vx_runVX {hh : List (Nat × Nat × Nat × Nat)} (S : CallFix p m c cc nL s args Ts own) (hM : vx_Met l y ws rm Pc Qc XC mc ms free) (cw : vx_CVW R s args own C index y bytes maxL ret hh ws rm mc ms n) (hp : PreV s H C b Pc As)
    (hg : g.method = m) (hn : As.length = n) (hsize : g.locals.size = nL) (hstack : g.stack = As.reverse ++ .ref b :: rest) (hW : 2 * g.monitorRoom + (rest.map fun v => v.category).sum ≤ 8) (hdg : decode cc g.pc = .ok (.invokevirtual index, 3)) (hf : cells + mc ≤ R.cells ∧ slots + ms ≤ R.slots) :
    vx_Run p l e R s m args below meth c H locs cells slots mc ms g rest (Qc (Value.ref b :: As).toArray) XC free := by
  obtain ⟨⟨hrc, hrs, hfr, hlo, hws, hcw⟩, hcode, hini, hy, hlen, hl, hin, hse⟩ := cw
  have hK : vx_Back l R p e below s args y 3 8 (PreOf R mc ms Pc) (PostOf Qc mc ms free) (vx_Post XC mc ms free) := vx_backW (hh := hh) (bytes := bytes) (maxL := maxL) (ret := ret) hM hp.1 hrc hrs hfr hlo hws hcw (fun a' U hW => word_at hW (Or.inl (by first | rfl | simp [Cond.onTables, Cond.keeps, Cond.steady])) hini)
  obtain ⟨hx, hb, hml, ho, -⟩ := S
  obtain ⟨-, ⟨cellB, hcB, hoB, hclB⟩, hPc⟩ := hp
  intro T hT X
  rcases vx_callVX X hx (C := C) (hh := hh) (bytes := bytes) (maxL := maxL) (ret := ret) ho hl hin hse hcode hy hK (by rw [hT]; exact hcB) hoB hclB hg (hsize.trans hml.symm) (argsL := As) (rest := rest) (fun sig h => hn.trans (hlen sig h)) hstack hW (by rw [hb]; exact hdg)
    (fun vm₁ hW₁ => ⟨hf.1, hf.2, hPc (T.setVm vm₁) hT hW₁⟩) with ⟨v, vm₁, ⟨U', l2, c2, s2⟩, hW₁, X', ⟨g', mk, t, L, e1, e2, hq, h1, hL, h2, h3⟩, st⟩ | ⟨q, vm₁, ⟨U', l2, c2, s2⟩, hW₁, X', ⟨g', mk, t, L, E, ce, e1, e2, hq, hce, hcv, hcl, h1, hL, h2, h3⟩, st⟩
  · dsimp only [Pt.U, Pt.locs, Pt.cells, Pt.slots] at X' e1 e2 h1 h2 h3 st
    subst h1; subst h2; subst h3
    exact Or.inl ⟨v, (T.setVm vm₁).calling g' mk (Value.ref b :: As).toArray, t, U', L, hT, X', hL, e1, e2, hq, st⟩
  · dsimp only [Pt.U, Pt.locs, Pt.cells, Pt.slots] at X' e1 e2 h1 h2 h3 st hcl
    subst h1; subst h2; subst h3
    exact Or.inr ⟨q, (T.setVm vm₁).calling g' mk (Value.ref b :: As).toArray, t, U', L, E, ce, hT, X', hL, e1, e2, hq, hce, hcv, vx_cls hW₁ hcl, st⟩
theorem vx_runSX {hh : List (Nat × Nat × Nat × Nat)} (S : CallFix p m c cc nL s args Ts own) (hM : vx_Met l y ws rm Pc Qc XC mc ms free) (cw : vx_CSW R s args own index y bytes maxL ret hh ws rm mc ms n) (hp : PreS s H Pc As)
    (hg : g.method = m) (hn : As.length = n) (hsize : g.locals.size = nL) (hstack : g.stack = As.reverse ++ rest) (hW : 2 * g.monitorRoom + (rest.map fun v => v.category).sum ≤ 8) (hdg : decode cc g.pc = .ok (.invokestatic index, 3)) (hf : cells + mc ≤ R.cells ∧ slots + ms ≤ R.slots) :
    vx_Run p l e R s m args below meth c H locs cells slots mc ms g rest (Qc As.toArray) XC free := by
  obtain ⟨⟨hrc, hrs, hfr, hlo, hws, hcw⟩, hcode, hini, hy, hlen, hl, hstt⟩ := cw
  have hK : vx_Back l R p e below s args y 3 8 (PreOf R mc ms Pc) (PostOf Qc mc ms free) (vx_Post XC mc ms free) := vx_backW (hh := hh) (bytes := bytes) (maxL := maxL) (ret := ret) hM hp.1 hrc hrs hfr hlo hws hcw (fun a' U hW => word_at hW (Or.inl (by first | rfl | simp [Cond.onTables, Cond.keeps, Cond.steady])) hini)
  obtain ⟨hx, hb, hml, ho, -⟩ := S
  intro T hT X
  rcases vx_callSX X hx (hh := hh) (bytes := bytes) (maxL := maxL) (ret := ret) ho hl hstt hini hcode hy hK hg (hsize.trans hml.symm) (argsL := As) (rest := rest) (fun sig h => hn.trans (hlen sig h)) hstack hW (by rw [hb]; exact hdg)
    (fun vm₁ hW₁ => ⟨hf.1, hf.2, hp.2 (T.setVm vm₁) hT hW₁⟩) with ⟨v, vm₁, ⟨U', l2, c2, s2⟩, hW₁, X', ⟨g', mk, t, L, e1, e2, hq, h1, hL, h2, h3⟩, st⟩ | ⟨q, vm₁, ⟨U', l2, c2, s2⟩, hW₁, X', ⟨g', mk, t, L, E, ce, e1, e2, hq, hce, hcv, hcl, h1, hL, h2, h3⟩, st⟩
  · dsimp only [Pt.U, Pt.locs, Pt.cells, Pt.slots] at X' e1 e2 h1 h2 h3 st
    subst h1; subst h2; subst h3
    exact Or.inl ⟨v, (T.setVm vm₁).calling g' mk As.toArray, t, U', L, hT, X', hL, e1, e2, hq, st⟩
  · dsimp only [Pt.U, Pt.locs, Pt.cells, Pt.slots] at X' e1 e2 h1 h2 h3 st hcl
    subst h1; subst h2; subst h3
    exact Or.inr ⟨q, (T.setVm vm₁).calling g' mk As.toArray, t, U', L, E, ce, hT, X', hL, e1, e2, hq, hce, hcv, vx_cls hW₁ hcl, st⟩
end
end VXH
theorem vx_ofWH {l : Launch} {y : MethodName} {ws ws' : List Cond} {rm : Room} {Pc : Array Value → State → Prop} {Qc : Array Value → State → Outcome → State → Prop} {XC : String → State → State → Prop} {mc ms : Nat} {free : Addr → Prop} {cc : ByteArray} {maxL : Nat} {ret : Option FieldType} {hh : List (Nat × Nat × Nat × Nat)}
    (hy : plainName y.cls = true) (hw : ws = Cond.codeWith y cc maxL ret hh :: ws')
    (body : ∀ p e s m args below meth c s₁, BodyLoose p l y (headSpec ws rm) cc maxL ret e s m args below meth c s₁ → c.maxLocals = maxL → Pc args s →
      W p l e (headSpec ws rm).room s m args below meth c s.heap [] 0 0 (vx_MQ below Qc XC args s mc ms free) (entryFrame m args maxL)) : vx_Met l y ws rm Pc Qc XC mc ms free := by
  refine MetFree.of_bodyS (code := cc) (maxLocals := maxL) (ret := ret) hy ?_ ?_
  · intro args s m h hn
    obtain ⟨m9, meth, c, hn9, h1, h2, h3, h4, -, h5, h6, -⟩ := Cond.codeWith_spec (atoms_spec (ws := ws) h _ (by rw [hw]; exact List.mem_cons_self))
    cases hn.symm.trans hn9
    exact ⟨meth, c, h1, h2, h3, h4, h5, h6⟩
  · intro p e s m args below meth c s₁ B hml hP _
    have hh0 : s₁.heap = s.heap := by rw [B.state]; rfl
    obtain ⟨t, a1, o, b1, b2, b3⟩ := body p e s m args below meth c s₁ B hml hP s₁ hh0 (Stand.of_body B)
    exact ⟨t, o, a1, b1, b2, b3⟩
/-! ===== END ===== -/

def RX0 : String := "WindowSale$Days"
def TX0 : u_T := fun k => match k with
  | 0 => ("WindowSale$Days", "seed", "I", false)
  | 1 => ("WindowSale$Days", "total", "I", false)
  | _ => ("WindowSale$Days", "most", "I", false)
def tyX0 : Nat → FieldType := fun k => match k with
  | 0 => .int
  | 1 => .int
  | _ => .int
abbrev wsX00 : List Cond := u_ws RX0 TX0 3
theorem nmX0 : ∀ a, a < 3 → ∀ b, b < 3 → a ≠ b → (TX0 a).2.1 ≠ (TX0 b).2.1 := by decide +kernel
theorem tyX0_ok : ∀ k, k < 3 → parseFieldDescriptor (TX0 k).2.2.1 = some (tyX0 k) := by decide +kernel
abbrev cX0_init : ByteArray := prog_2_method_1_code
def yX0_init : MethodName := ⟨RX0, "<init>", "()V"⟩
abbrev cX0_live : ByteArray := prog_2_method_2_code
def yX0_live : MethodName := ⟨RX0, "live", "(IILWindowSale$Station;LWindowSale$Plans;)V"⟩
abbrev cX0_isPaid : ByteArray := prog_2_method_3_code
def yX0_isPaid : MethodName := ⟨RX0, "isPaid", "(IILWindowSale$Station;LWindowSale$Plans;)Z"⟩
abbrev cX0_draw : ByteArray := prog_2_method_4_code
def yX0_draw : MethodName := ⟨RX0, "draw", "(I)I"⟩
def RX1 : String := "WindowSale$Image"
def TX1 : u_T := fun k => match k with
  | 0 => ("WindowSale$Image", "place", "LWindowSale$Station;", true)
  | 1 => ("WindowSale$Image", "scene", "LWindowSale$Scene;", true)
  | 2 => ("WindowSale$Image", "saying", "LWindowSale$Sentence;", true)
  | _ => ("WindowSale$Image", "holds", "Z", false)
def tyX1 : Nat → FieldType := fun k => match k with
  | 0 => .object "WindowSale$Station"
  | 1 => .object "WindowSale$Scene"
  | 2 => .object "WindowSale$Sentence"
  | _ => .boolean
abbrev wsX10 : List Cond := u_ws RX1 TX1 4
theorem nmX1 : ∀ a, a < 4 → ∀ b, b < 4 → a ≠ b → (TX1 a).2.1 ≠ (TX1 b).2.1 := by decide +kernel
theorem tyX1_ok : ∀ k, k < 4 → parseFieldDescriptor (TX1 k).2.2.1 = some (tyX1 k) := by decide +kernel
abbrev cX1_init : ByteArray := prog_3_method_1_code
def yX1_init : MethodName := ⟨RX1, "<init>", "()V"⟩
abbrev cX1_keep : ByteArray := prog_3_method_2_code
def yX1_keep : MethodName := ⟨RX1, "keep", "(LWindowSale$Station;LWindowSale$Scene;LWindowSale$Sentence;)V"⟩
def RX2 : String := "WindowSale$Log"
def TX2 : u_T := fun k => match k with
  | 0 => ("WindowSale$Log", "acts", "[I", true)
  | 1 => ("WindowSale$Log", "numbers", "[I", true)
  | 2 => ("WindowSale$Log", "lines", "I", false)
  | 3 => ("WindowSale$Log", "judged", "Z", false)
  | 4 => ("WindowSale$Log", "why", "I", false)
  | 5 => ("WindowSale$Log", "done", "I", false)
  | 6 => ("WindowSale$Log", "pence", "I", false)
  | _ => ("WindowSale$Log", "fruits", "I", false)
def tyX2 : Nat → FieldType := fun k => match k with
  | 0 => .array .int
  | 1 => .array .int
  | 2 => .int
  | 3 => .boolean
  | 4 => .int
  | 5 => .int
  | 6 => .int
  | _ => .int
abbrev wsX20 : List Cond := u_ws RX2 TX2 8
theorem nmX2 : ∀ a, a < 8 → ∀ b, b < 8 → a ≠ b → (TX2 a).2.1 ≠ (TX2 b).2.1 := by decide +kernel
theorem tyX2_ok : ∀ k, k < 8 → parseFieldDescriptor (TX2 k).2.2.1 = some (tyX2 k) := by decide +kernel
abbrev cX2_init : ByteArray := prog_4_method_1_code
def yX2_init : MethodName := ⟨RX2, "<init>", "()V"⟩
abbrev cX2_readFrom : ByteArray := prog_4_method_2_code
def yX2_readFrom : MethodName := ⟨RX2, "readFrom", "(LWindowSale$Reader;)Z"⟩
abbrev cX2_readLine : ByteArray := prog_4_method_3_code
def yX2_readLine : MethodName := ⟨RX2, "readLine", "(LWindowSale$Reader;)Z"⟩
abbrev cX2_readNumber : ByteArray := prog_4_method_4_code
def yX2_readNumber : MethodName := ⟨RX2, "readNumber", "(LWindowSale$Reader;II)Z"⟩
abbrev cX2_judge : ByteArray := prog_4_method_5_code
def yX2_judge : MethodName := ⟨RX2, "judge", "(LWindowSale$Scene;LWindowSale$Station;)V"⟩
abbrev cX2_whyNot : ByteArray := prog_4_method_6_code
def yX2_whyNot : MethodName := ⟨RX2, "whyNot", "(IILWindowSale$Scene;LWindowSale$Station;)I"⟩
abbrev cX2_above : ByteArray := prog_4_method_7_code
def yX2_above : MethodName := ⟨RX2, "above", "(II)I"⟩
def RX3 : String := "WindowSale$Past"
def TX3 : u_T := fun k => match k with
  | 0 => ("WindowSale$Past", "scenes", "[LWindowSale$Scene;", true)
  | 1 => ("WindowSale$Past", "oldest", "I", false)
  | _ => ("WindowSale$Past", "size", "I", false)
def tyX3 : Nat → FieldType := fun k => match k with
  | 0 => .array (.object "WindowSale$Scene")
  | 1 => .int
  | _ => .int
abbrev wsX30 : List Cond := u_ws RX3 TX3 3
theorem nmX3 : ∀ a, a < 3 → ∀ b, b < 3 → a ≠ b → (TX3 a).2.1 ≠ (TX3 b).2.1 := by decide +kernel
theorem tyX3_ok : ∀ k, k < 3 → parseFieldDescriptor (TX3 k).2.2.1 = some (tyX3 k) := by decide +kernel
abbrev cX3_init : ByteArray := prog_5_method_1_code
def yX3_init : MethodName := ⟨RX3, "<init>", "()V"⟩
abbrev cX3_clear : ByteArray := prog_5_method_2_code
def yX3_clear : MethodName := ⟨RX3, "clear", "()V"⟩
abbrev cX3_add : ByteArray := prog_5_method_3_code
def yX3_add : MethodName := ⟨RX3, "add", "(LWindowSale$Scene;)V"⟩
abbrev cX3_takeBack : ByteArray := prog_5_method_4_code
def yX3_takeBack : MethodName := ⟨RX3, "takeBack", "(LWindowSale$Scene;)Z"⟩
abbrev cX3_sceneAt : ByteArray := prog_5_method_5_code
def yX3_sceneAt : MethodName := ⟨RX3, "sceneAt", "(ILWindowSale$Scene;)LWindowSale$Scene;"⟩
def RX4 : String := "WindowSale$Plans"
def TX4 : u_T := fun k => match k with
  | 0 => ("WindowSale$Plans", "station", "LWindowSale$Station;", true)
  | 1 => ("WindowSale$Plans", "gains", "[I", true)
  | 2 => ("WindowSale$Plans", "rests", "[I", true)
  | 3 => ("WindowSale$Plans", "starts", "[I", true)
  | 4 => ("WindowSale$Plans", "choices", "[J", true)
  | 5 => ("WindowSale$Plans", "upRows", "[I", true)
  | 6 => ("WindowSale$Plans", "downRows", "[I", true)
  | 7 => ("WindowSale$Plans", "saleWindows", "[I", true)
  | 8 => ("WindowSale$Plans", "saleSeconds", "[I", true)
  | 9 => ("WindowSale$Plans", "saleWays", "[I", true)
  | 10 => ("WindowSale$Plans", "soldGains", "[I", true)
  | 11 => ("WindowSale$Plans", "onwardRests", "[I", true)
  | 12 => ("WindowSale$Plans", "sales", "I", false)
  | 13 => ("WindowSale$Plans", "bestWindow", "I", false)
  | 14 => ("WindowSale$Plans", "bestUp", "I", false)
  | 15 => ("WindowSale$Plans", "useful", "I", false)
  | 16 => ("WindowSale$Plans", "horizon", "I", false)
  | 17 => ("WindowSale$Plans", "gainsKnown", "Z", false)
  | 18 => ("WindowSale$Plans", "startsKnown", "Z", false)
  | _ => ("WindowSale$Plans", "bestKnown", "Z", false)
def tyX4 : Nat → FieldType := fun k => match k with
  | 0 => .object "WindowSale$Station"
  | 1 => .array .int
  | 2 => .array .int
  | 3 => .array .int
  | 4 => .array .long
  | 5 => .array .int
  | 6 => .array .int
  | 7 => .array .int
  | 8 => .array .int
  | 9 => .array .int
  | 10 => .array .int
  | 11 => .array .int
  | 12 => .int
  | 13 => .int
  | 14 => .int
  | 15 => .int
  | 16 => .int
  | 17 => .boolean
  | 18 => .boolean
  | _ => .boolean
abbrev wsX40 : List Cond := u_ws RX4 TX4 20
theorem nmX4 : ∀ a, a < 20 → ∀ b, b < 20 → a ≠ b → (TX4 a).2.1 ≠ (TX4 b).2.1 := by decide +kernel
theorem tyX4_ok : ∀ k, k < 20 → parseFieldDescriptor (TX4 k).2.2.1 = some (tyX4 k) := by decide +kernel
abbrev cX4_init : ByteArray := prog_6_method_1_code
def yX4_init : MethodName := ⟨RX4, "<init>", "(LWindowSale$Station;)V"⟩
abbrev cX4_forget : ByteArray := prog_6_method_2_code
def yX4_forget : MethodName := ⟨RX4, "forget", "()V"⟩
abbrev cX4_prepareGains : ByteArray := prog_6_method_3_code
def yX4_prepareGains : MethodName := ⟨RX4, "prepareGains", "()V"⟩
abbrev cX4_gainInAll : ByteArray := prog_6_method_4_code
def yX4_gainInAll : MethodName := ⟨RX4, "gainInAll", "(I)I"⟩
abbrev cX4_clearRests : ByteArray := prog_6_method_5_code
def yX4_clearRests : MethodName := ⟨RX4, "clearRests", "()V"⟩
abbrev cX4_putAhead : ByteArray := prog_6_method_6_code
def yX4_putAhead : MethodName := ⟨RX4, "putAhead", "(IIIZ)V"⟩
abbrev cX4_weighSales : ByteArray := prog_6_method_7_code
def yX4_weighSales : MethodName := ⟨RX4, "weighSales", "(IIIII)V"⟩
abbrev cX4_restFrom : ByteArray := prog_6_method_8_code
def yX4_restFrom : MethodName := ⟨RX4, "restFrom", "(II)I"⟩
abbrev cX4_keepChoice : ByteArray := prog_6_method_9_code
def yX4_keepChoice : MethodName := ⟨RX4, "keepChoice", "(IJZ)V"⟩
abbrev cX4_choiceIndex : ByteArray := prog_6_method_10_code
def yX4_choiceIndex : MethodName := ⟨RX4, "choiceIndex", "(III)I"⟩
abbrev cX4_startIndex : ByteArray := prog_6_method_11_code
def yX4_startIndex : MethodName := ⟨RX4, "startIndex", "(III)I"⟩
abbrev cX4_prepareStarts : ByteArray := prog_6_method_12_code
def yX4_prepareStarts : MethodName := ⟨RX4, "prepareStarts", "()V"⟩
abbrev cX4_startGain : ByteArray := prog_6_method_13_code
def yX4_startGain : MethodName := ⟨RX4, "startGain", "(III)I"⟩
abbrev cX4_prepareBest : ByteArray := prog_6_method_14_code
def yX4_prepareBest : MethodName := ⟨RX4, "prepareBest", "()V"⟩
abbrev cX4_traceBest : ByteArray := prog_6_method_15_code
def yX4_traceBest : MethodName := ⟨RX4, "traceBest", "()V"⟩
abbrev cX4_chosenSales : ByteArray := prog_6_method_16_code
def yX4_chosenSales : MethodName := ⟨RX4, "chosenSales", "(III)I"⟩
abbrev cX4_noteSale : ByteArray := prog_6_method_17_code
def yX4_noteSale : MethodName := ⟨RX4, "noteSale", "(II)V"⟩
abbrev cX4_saleWindow : ByteArray := prog_6_method_18_code
def yX4_saleWindow : MethodName := ⟨RX4, "saleWindow", "(I)I"⟩
abbrev cX4_saleSecond : ByteArray := prog_6_method_19_code
def yX4_saleSecond : MethodName := ⟨RX4, "saleSecond", "(I)I"⟩
abbrev cX4_saleWay : ByteArray := prog_6_method_20_code
def yX4_saleWay : MethodName := ⟨RX4, "saleWay", "(I)I"⟩
abbrev cX4_saleEnd : ByteArray := prog_6_method_21_code
def yX4_saleEnd : MethodName := ⟨RX4, "saleEnd", "(I)I"⟩
abbrev cX4_lastEnd : ByteArray := prog_6_method_22_code
def yX4_lastEnd : MethodName := ⟨RX4, "lastEnd", "()I"⟩
abbrev cX4_penceUntil : ByteArray := prog_6_method_23_code
def yX4_penceUntil : MethodName := ⟨RX4, "penceUntil", "(I)I"⟩
abbrev cX4_rowGain : ByteArray := prog_6_method_24_code
def yX4_rowGain : MethodName := ⟨RX4, "rowGain", "(II)I"⟩
abbrev cX4_measureUp : ByteArray := prog_6_method_25_code
def yX4_measureUp : MethodName := ⟨RX4, "measureUp", "(II)V"⟩
abbrev cX4_measureDown : ByteArray := prog_6_method_26_code
def yX4_measureDown : MethodName := ⟨RX4, "measureDown", "(II)V"⟩
abbrev cX4_sellerGain : ByteArray := prog_6_method_27_code
def yX4_sellerGain : MethodName := ⟨RX4, "sellerGain", "(II)I"⟩
abbrev cX4_allEarn : ByteArray := prog_6_method_28_code
def yX4_allEarn : MethodName := ⟨RX4, "allEarn", "(I)Z"⟩
def RX5 : String := "WindowSale$Racer"
def TX5 : u_T := fun k => match k with
  | 0 => ("WindowSale$Racer", "where", "I", false)
  | 1 => ("WindowSale$Racer", "step", "I", false)
  | 2 => ("WindowSale$Racer", "second", "I", false)
  | 3 => ("WindowSale$Racer", "fruits", "I", false)
  | 4 => ("WindowSale$Racer", "pence", "I", false)
  | _ => ("WindowSale$Racer", "visited", "I", false)
def tyX5 : Nat → FieldType := fun k => match k with
  | 0 => .int
  | 1 => .int
  | 2 => .int
  | 3 => .int
  | 4 => .int
  | _ => .int
abbrev wsX50 : List Cond := u_ws RX5 TX5 6
theorem nmX5 : ∀ a, a < 6 → ∀ b, b < 6 → a ≠ b → (TX5 a).2.1 ≠ (TX5 b).2.1 := by decide +kernel
theorem tyX5_ok : ∀ k, k < 6 → parseFieldDescriptor (TX5 k).2.2.1 = some (tyX5 k) := by decide +kernel
abbrev cX5_init : ByteArray := prog_7_method_1_code
def yX5_init : MethodName := ⟨RX5, "<init>", "()V"⟩
abbrev cX5_prepare : ByteArray := prog_7_method_2_code
def yX5_prepare : MethodName := ⟨RX5, "prepare", "(IILWindowSale$Station;)V"⟩
abbrev cX5_isAhead : ByteArray := prog_7_method_3_code
def yX5_isAhead : MethodName := ⟨RX5, "isAhead", "(LWindowSale$Racer;LWindowSale$Station;)Z"⟩
abbrev cX5_visit : ByteArray := prog_7_method_4_code
def yX5_visit : MethodName := ⟨RX5, "visit", "(LWindowSale$Racer;ILWindowSale$Station;)V"⟩
def RX6 : String := "WindowSale$Reader"
def TX6 : u_T := fun k => match k with
  | 0 => ("WindowSale$Reader", "tape", "LWindowSale$Tape;", true)
  | 1 => ("WindowSale$Reader", "most", "I", false)
  | 2 => ("WindowSale$Reader", "next", "I", false)
  | 3 => ("WindowSale$Reader", "kind", "I", false)
  | 4 => ("WindowSale$Reader", "start", "I", false)
  | 5 => ("WindowSale$Reader", "size", "I", false)
  | 6 => ("WindowSale$Reader", "number", "I", false)
  | 7 => ("WindowSale$Reader", "faultKind", "I", false)
  | _ => ("WindowSale$Reader", "faultPlace", "I", false)
def tyX6 : Nat → FieldType := fun k => match k with
  | 0 => .object "WindowSale$Tape"
  | 1 => .int
  | 2 => .int
  | 3 => .int
  | 4 => .int
  | 5 => .int
  | 6 => .int
  | 7 => .int
  | _ => .int
abbrev wsX60 : List Cond := u_ws RX6 TX6 9
theorem nmX6 : ∀ a, a < 9 → ∀ b, b < 9 → a ≠ b → (TX6 a).2.1 ≠ (TX6 b).2.1 := by decide +kernel
theorem tyX6_ok : ∀ k, k < 9 → parseFieldDescriptor (TX6 k).2.2.1 = some (tyX6 k) := by decide +kernel
abbrev cX6_init : ByteArray := prog_8_method_1_code
def yX6_init : MethodName := ⟨RX6, "<init>", "(LWindowSale$Tape;)V"⟩
abbrev cX6_open : ByteArray := prog_8_method_2_code
def yX6_open : MethodName := ⟨RX6, "open", "(I)V"⟩
abbrev cX6_step : ByteArray := prog_8_method_3_code
def yX6_step : MethodName := ⟨RX6, "step", "()V"⟩
abbrev cX6_readRun : ByteArray := prog_8_method_4_code
def yX6_readRun : MethodName := ⟨RX6, "readRun", "()V"⟩
abbrev cX6_isBlank : ByteArray := prog_8_method_5_code
def yX6_isBlank : MethodName := ⟨RX6, "isBlank", "(I)Z"⟩
abbrev cX6_isLetter : ByteArray := prog_8_method_6_code
def yX6_isLetter : MethodName := ⟨RX6, "isLetter", "(I)Z"⟩
abbrev cX6_isDigit : ByteArray := prog_8_method_7_code
def yX6_isDigit : MethodName := ⟨RX6, "isDigit", "(I)Z"⟩
abbrev cX6_isSign : ByteArray := prog_8_method_8_code
def yX6_isSign : MethodName := ⟨RX6, "isSign", "(I)Z"⟩
abbrev cX6_hasMore : ByteArray := prog_8_method_9_code
def yX6_hasMore : MethodName := ⟨RX6, "hasMore", "()Z"⟩
abbrev cX6_isAt : ByteArray := prog_8_method_10_code
def yX6_isAt : MethodName := ⟨RX6, "isAt", "(C)Z"⟩
abbrev cX6_wordOf : ByteArray := prog_8_method_11_code
def yX6_wordOf : MethodName := ⟨RX6, "wordOf", "(Ljava/lang/String;)I"⟩
abbrev cX6_refuse : ByteArray := prog_8_method_12_code
def yX6_refuse : MethodName := ⟨RX6, "refuse", "(I)Z"⟩
abbrev cX6_takesSign : ByteArray := prog_8_method_13_code
def yX6_takesSign : MethodName := ⟨RX6, "takesSign", "(C)Z"⟩
abbrev cX6_seesNumber : ByteArray := prog_8_method_14_code
def yX6_seesNumber : MethodName := ⟨RX6, "seesNumber", "(II)Z"⟩
def RX7 : String := "WindowSale$Scene"
def TX7 : u_T := fun k => match k with
  | 0 => ("WindowSale$Scene", "results", "[I", true)
  | 1 => ("WindowSale$Scene", "bought", "[I", true)
  | 2 => ("WindowSale$Scene", "boughtInAll", "[I", true)
  | 3 => ("WindowSale$Scene", "stays", "I", false)
  | 4 => ("WindowSale$Scene", "second", "I", false)
  | 5 => ("WindowSale$Scene", "where", "I", false)
  | 6 => ("WindowSale$Scene", "fruits", "I", false)
  | 7 => ("WindowSale$Scene", "pence", "I", false)
  | 8 => ("WindowSale$Scene", "trains", "I", false)
  | 9 => ("WindowSale$Scene", "seed", "I", false)
  | _ => ("WindowSale$Scene", "lastSale", "I", false)
def tyX7 : Nat → FieldType := fun k => match k with
  | 0 => .array .int
  | 1 => .array .int
  | 2 => .array .int
  | 3 => .int
  | 4 => .int
  | 5 => .int
  | 6 => .int
  | 7 => .int
  | 8 => .int
  | 9 => .int
  | _ => .int
abbrev wsX70 : List Cond := u_ws RX7 TX7 11
theorem nmX7 : ∀ a, a < 11 → ∀ b, b < 11 → a ≠ b → (TX7 a).2.1 ≠ (TX7 b).2.1 := by decide +kernel
theorem tyX7_ok : ∀ k, k < 11 → parseFieldDescriptor (TX7 k).2.2.1 = some (tyX7 k) := by decide +kernel
abbrev cX7_init : ByteArray := prog_9_method_1_code
def yX7_init : MethodName := ⟨RX7, "<init>", "()V"⟩
abbrev cX7_clear : ByteArray := prog_9_method_2_code
def yX7_clear : MethodName := ⟨RX7, "clear", "()V"⟩
abbrev cX7_copyFrom : ByteArray := prog_9_method_3_code
def yX7_copyFrom : MethodName := ⟨RX7, "copyFrom", "(LWindowSale$Scene;)V"⟩
abbrev cX7_isThere : ByteArray := prog_9_method_4_code
def yX7_isThere : MethodName := ⟨RX7, "isThere", "()Z"⟩
abbrev cX7_canAct : ByteArray := prog_9_method_5_code
def yX7_canAct : MethodName := ⟨RX7, "canAct", "()Z"⟩
abbrev cX7_boughtBy : ByteArray := prog_9_method_6_code
def yX7_boughtBy : MethodName := ⟨RX7, "boughtBy", "(I)I"⟩
abbrev cX7_boughtInAllBy : ByteArray := prog_9_method_7_code
def yX7_boughtInAllBy : MethodName := ⟨RX7, "boughtInAllBy", "(I)I"⟩
abbrev cX7_salesOf : ByteArray := prog_9_method_8_code
def yX7_salesOf : MethodName := ⟨RX7, "salesOf", "(I)I"⟩
abbrev cX7_comes : ByteArray := prog_9_method_9_code
def yX7_comes : MethodName := ⟨RX7, "comes", "(IILWindowSale$Station;)I"⟩
abbrev cX7_startsAt : ByteArray := prog_9_method_10_code
def yX7_startsAt : MethodName := ⟨RX7, "startsAt", "(I)I"⟩
abbrev cX7_sells : ByteArray := prog_9_method_11_code
def yX7_sells : MethodName := ⟨RX7, "sells", "(ILWindowSale$Station;)I"⟩
abbrev cX7_coinResult : ByteArray := prog_9_method_12_code
def yX7_coinResult : MethodName := ⟨RX7, "coinResult", "(ZLWindowSale$Station;)I"⟩
abbrev cX7_fruitResult : ByteArray := prog_9_method_13_code
def yX7_fruitResult : MethodName := ⟨RX7, "fruitResult", "(ZLWindowSale$Station;)I"⟩
abbrev cX7_draw : ByteArray := prog_9_method_14_code
def yX7_draw : MethodName := ⟨RX7, "draw", "()I"⟩
abbrev cX7_book : ByteArray := prog_9_method_15_code
def yX7_book : MethodName := ⟨RX7, "book", "(II)V"⟩
abbrev cX7_passes : ByteArray := prog_9_method_16_code
def yX7_passes : MethodName := ⟨RX7, "passes", "(I)V"⟩
abbrev cX7_walks : ByteArray := prog_9_method_17_code
def yX7_walks : MethodName := ⟨RX7, "walks", "(ILWindowSale$Station;)I"⟩
abbrev cX7_rests : ByteArray := prog_9_method_18_code
def yX7_rests : MethodName := ⟨RX7, "rests", "(I)I"⟩
def RX8 : String := "WindowSale$Sentence"
def TX8 : u_T := fun k => match k with
  | 0 => ("WindowSale$Sentence", "code", "[I", true)
  | 1 => ("WindowSale$Sentence", "stack", "[I", true)
  | 2 => ("WindowSale$Sentence", "length", "I", false)
  | _ => ("WindowSale$Sentence", "ones", "I", false)
def tyX8 : Nat → FieldType := fun k => match k with
  | 0 => .array .int
  | 1 => .array .int
  | 2 => .int
  | _ => .int
abbrev wsX80 : List Cond := u_ws RX8 TX8 4
theorem nmX8 : ∀ a, a < 4 → ∀ b, b < 4 → a ≠ b → (TX8 a).2.1 ≠ (TX8 b).2.1 := by decide +kernel
theorem tyX8_ok : ∀ k, k < 4 → parseFieldDescriptor (TX8 k).2.2.1 = some (tyX8 k) := by decide +kernel
abbrev cX8_init : ByteArray := prog_10_method_1_code
def yX8_init : MethodName := ⟨RX8, "<init>", "()V"⟩
abbrev cX8_clear : ByteArray := prog_10_method_2_code
def yX8_clear : MethodName := ⟨RX8, "clear", "()V"⟩
abbrev cX8_copyFrom : ByteArray := prog_10_method_3_code
def yX8_copyFrom : MethodName := ⟨RX8, "copyFrom", "(LWindowSale$Sentence;)V"⟩
abbrev cX8_readFrom : ByteArray := prog_10_method_4_code
def yX8_readFrom : MethodName := ⟨RX8, "readFrom", "(LWindowSale$Reader;)Z"⟩
abbrev cX8_readCond : ByteArray := prog_10_method_5_code
def yX8_readCond : MethodName := ⟨RX8, "readCond", "(LWindowSale$Reader;I)Z"⟩
abbrev cX8_readOne : ByteArray := prog_10_method_6_code
def yX8_readOne : MethodName := ⟨RX8, "readOne", "(LWindowSale$Reader;I)Z"⟩
abbrev cX8_readComparison : ByteArray := prog_10_method_7_code
def yX8_readComparison : MethodName := ⟨RX8, "readComparison", "(LWindowSale$Reader;I)Z"⟩
abbrev cX8_signOf : ByteArray := prog_10_method_8_code
def yX8_signOf : MethodName := ⟨RX8, "signOf", "(LWindowSale$Reader;)I"⟩
abbrev cX8_emit : ByteArray := prog_10_method_9_code
def yX8_emit : MethodName := ⟨RX8, "emit", "(I)V"⟩
abbrev cX8_windowsOf : ByteArray := prog_10_method_10_code
def yX8_windowsOf : MethodName := ⟨RX8, "windowsOf", "(LWindowSale$Station;LWindowSale$Scene;)I"⟩
abbrev cX8_bitsOf : ByteArray := prog_10_method_11_code
def yX8_bitsOf : MethodName := ⟨RX8, "bitsOf", "(ILWindowSale$Station;LWindowSale$Scene;)I"⟩
abbrev cX8_holds : ByteArray := prog_10_method_12_code
def yX8_holds : MethodName := ⟨RX8, "holds", "(IILWindowSale$Station;LWindowSale$Scene;)Z"⟩
abbrev cX8_compares : ByteArray := prog_10_method_13_code
def yX8_compares : MethodName := ⟨RX8, "compares", "(II)Z"⟩
def RX9 : String := "WindowSale$Station"
def TX9 : u_T := fun k => match k with
  | 0 => ("WindowSale$Station", "prices", "[I", true)
  | 1 => ("WindowSale$Station", "times", "[I", true)
  | 2 => ("WindowSale$Station", "oftens", "[I", true)
  | 3 => ("WindowSale$Station", "worths", "[I", true)
  | 4 => ("WindowSale$Station", "seconds", "[I", true)
  | 5 => ("WindowSale$Station", "weights", "[I", true)
  | 6 => ("WindowSale$Station", "settings", "[I", true)
  | 7 => ("WindowSale$Station", "windows", "I", false)
  | 8 => ("WindowSale$Station", "stands", "I", false)
  | 9 => ("WindowSale$Station", "lines", "I", false)
  | _ => ("WindowSale$Station", "toldSettings", "I", false)
def tyX9 : Nat → FieldType := fun k => match k with
  | 0 => .array .int
  | 1 => .array .int
  | 2 => .array .int
  | 3 => .array .int
  | 4 => .array .int
  | 5 => .array .int
  | 6 => .array .int
  | 7 => .int
  | 8 => .int
  | 9 => .int
  | _ => .int
abbrev wsX90 : List Cond := u_ws RX9 TX9 11
theorem nmX9 : ∀ a, a < 11 → ∀ b, b < 11 → a ≠ b → (TX9 a).2.1 ≠ (TX9 b).2.1 := by decide +kernel
theorem tyX9_ok : ∀ k, k < 11 → parseFieldDescriptor (TX9 k).2.2.1 = some (tyX9 k) := by decide +kernel
abbrev cX9_init : ByteArray := prog_11_method_1_code
def yX9_init : MethodName := ⟨RX9, "<init>", "()V"⟩
abbrev cX9_clear : ByteArray := prog_11_method_2_code
def yX9_clear : MethodName := ⟨RX9, "clear", "()V"⟩
abbrev cX9_addUsualStand : ByteArray := prog_11_method_3_code
def yX9_addUsualStand : MethodName := ⟨RX9, "addUsualStand", "()V"⟩
abbrev cX9_copyFrom : ByteArray := prog_11_method_4_code
def yX9_copyFrom : MethodName := ⟨RX9, "copyFrom", "(LWindowSale$Station;)V"⟩
abbrev cX9_readFrom : ByteArray := prog_11_method_5_code
def yX9_readFrom : MethodName := ⟨RX9, "readFrom", "(LWindowSale$Reader;)Z"⟩
abbrev cX9_readLine : ByteArray := prog_11_method_6_code
def yX9_readLine : MethodName := ⟨RX9, "readLine", "(LWindowSale$Reader;)Z"⟩
abbrev cX9_readWindow : ByteArray := prog_11_method_7_code
def yX9_readWindow : MethodName := ⟨RX9, "readWindow", "(LWindowSale$Reader;)Z"⟩
abbrev cX9_readStands : ByteArray := prog_11_method_8_code
def yX9_readStands : MethodName := ⟨RX9, "readStands", "(LWindowSale$Reader;)Z"⟩
abbrev cX9_readSetting : ByteArray := prog_11_method_9_code
def yX9_readSetting : MethodName := ⟨RX9, "readSetting", "(LWindowSale$Reader;I)Z"⟩
abbrev cX9_readInto : ByteArray := prog_11_method_10_code
def yX9_readInto : MethodName := ⟨RX9, "readInto", "([IILWindowSale$Reader;II)Z"⟩
abbrev cX9_has : ByteArray := prog_11_method_11_code
def yX9_has : MethodName := ⟨RX9, "has", "(I)Z"⟩
abbrev cX9_priceOf : ByteArray := prog_11_method_12_code
def yX9_priceOf : MethodName := ⟨RX9, "priceOf", "(I)I"⟩
abbrev cX9_takesOf : ByteArray := prog_11_method_13_code
def yX9_takesOf : MethodName := ⟨RX9, "takesOf", "(I)I"⟩
abbrev cX9_oftenOf : ByteArray := prog_11_method_14_code
def yX9_oftenOf : MethodName := ⟨RX9, "oftenOf", "(I)I"⟩
abbrev cX9_worthOf : ByteArray := prog_11_method_15_code
def yX9_worthOf : MethodName := ⟨RX9, "worthOf", "(I)I"⟩
abbrev cX9_secondsOf : ByteArray := prog_11_method_16_code
def yX9_secondsOf : MethodName := ⟨RX9, "secondsOf", "(I)I"⟩
abbrev cX9_weightOf : ByteArray := prog_11_method_17_code
def yX9_weightOf : MethodName := ⟨RX9, "weightOf", "(I)I"⟩
abbrev cX9_settingOf : ByteArray := prog_11_method_18_code
def yX9_settingOf : MethodName := ⟨RX9, "settingOf", "(I)I"⟩
abbrev cX9_walking : ByteArray := prog_11_method_19_code
def yX9_walking : MethodName := ⟨RX9, "walking", "()I"⟩
abbrev cX9_basket : ByteArray := prog_11_method_20_code
def yX9_basket : MethodName := ⟨RX9, "basket", "()I"⟩
abbrev cX9_honest : ByteArray := prog_11_method_21_code
def yX9_honest : MethodName := ⟨RX9, "honest", "()I"⟩
abbrev cX9_shy : ByteArray := prog_11_method_22_code
def yX9_shy : MethodName := ⟨RX9, "shy", "()I"⟩
abbrev cX9_whistle : ByteArray := prog_11_method_23_code
def yX9_whistle : MethodName := ⟨RX9, "whistle", "()I"⟩
abbrev cX9_again : ByteArray := prog_11_method_24_code
def yX9_again : MethodName := ⟨RX9, "again", "()I"⟩
abbrev cX9_runner : ByteArray := prog_11_method_25_code
def yX9_runner : MethodName := ⟨RX9, "runner", "()I"⟩
abbrev cX9_cost : ByteArray := prog_11_method_26_code
def yX9_cost : MethodName := ⟨RX9, "cost", "()I"⟩
abbrev cX9_weightFrom : ByteArray := prog_11_method_27_code
def yX9_weightFrom : MethodName := ⟨RX9, "weightFrom", "(I)I"⟩
abbrev cX9_unit : ByteArray := prog_11_method_28_code
def yX9_unit : MethodName := ⟨RX9, "unit", "()I"⟩
abbrev cX9_longest : ByteArray := prog_11_method_29_code
def yX9_longest : MethodName := ⟨RX9, "longest", "()I"⟩
abbrev cX9_secondsAtDraw : ByteArray := prog_11_method_30_code
def yX9_secondsAtDraw : MethodName := ⟨RX9, "secondsAtDraw", "(I)I"⟩
abbrev cX9_whistlesFor : ByteArray := prog_11_method_31_code
def yX9_whistlesFor : MethodName := ⟨RX9, "whistlesFor", "(II)Z"⟩
abbrev cX9_weightThatMayBe : ByteArray := prog_11_method_32_code
def yX9_weightThatMayBe : MethodName := ⟨RX9, "weightThatMayBe", "(LWindowSale$Scene;I)I"⟩
abbrev cX9_gainOf : ByteArray := prog_11_method_33_code
def yX9_gainOf : MethodName := ⟨RX9, "gainOf", "(III)I"⟩
abbrev cX9_betterWay : ByteArray := prog_11_method_34_code
def yX9_betterWay : MethodName := ⟨RX9, "betterWay", "(II)I"⟩
abbrev cX9_betterGain : ByteArray := prog_11_method_35_code
def yX9_betterGain : MethodName := ⟨RX9, "betterGain", "(II)I"⟩
abbrev cX9_isFair : ByteArray := prog_11_method_36_code
def yX9_isFair : MethodName := ⟨RX9, "isFair", "(II)Z"⟩
def RX10 : String := "WindowSale$Tape"
def TX10 : u_T := fun k => match k with
  | 0 => ("WindowSale$Tape", "bytes", "[B", true)
  | _ => ("WindowSale$Tape", "length", "I", false)
def tyX10 : Nat → FieldType := fun k => match k with
  | 0 => .array .byte
  | _ => .int
abbrev wsX100 : List Cond := u_ws RX10 TX10 2
theorem nmX10 : ∀ a, a < 2 → ∀ b, b < 2 → a ≠ b → (TX10 a).2.1 ≠ (TX10 b).2.1 := by decide +kernel
theorem tyX10_ok : ∀ k, k < 2 → parseFieldDescriptor (TX10 k).2.2.1 = some (tyX10 k) := by decide +kernel
abbrev cX10_init : ByteArray := prog_12_method_1_code
def yX10_init : MethodName := ⟨RX10, "<init>", "()V"⟩
abbrev cX10_hasRoom : ByteArray := prog_12_method_2_code
def yX10_hasRoom : MethodName := ⟨RX10, "hasRoom", "()Z"⟩
abbrev cX10_append : ByteArray := prog_12_method_3_code
def yX10_append : MethodName := ⟨RX10, "append", "(I)V"⟩
abbrev cX10_byteAt : ByteArray := prog_12_method_4_code
def yX10_byteAt : MethodName := ⟨RX10, "byteAt", "(I)I"⟩
def RX11 : String := "WindowSale"
def TX11 : u_T := fun k => match k with
  | 0 => ("WindowSale", "tape", "LWindowSale$Tape;", true)
  | 1 => ("WindowSale", "reader", "LWindowSale$Reader;", true)
  | 2 => ("WindowSale", "place", "LWindowSale$Station;", true)
  | 3 => ("WindowSale", "draftPlace", "LWindowSale$Station;", true)
  | 4 => ("WindowSale", "scene", "LWindowSale$Scene;", true)
  | 5 => ("WindowSale", "trial", "LWindowSale$Scene;", true)
  | 6 => ("WindowSale", "past", "LWindowSale$Past;", true)
  | 7 => ("WindowSale", "saying", "LWindowSale$Sentence;", true)
  | 8 => ("WindowSale", "draftSaying", "LWindowSale$Sentence;", true)
  | 9 => ("WindowSale", "plans", "LWindowSale$Plans;", true)
  | 10 => ("WindowSale", "days", "LWindowSale$Days;", true)
  | 11 => ("WindowSale", "climber", "LWindowSale$Racer;", true)
  | 12 => ("WindowSale", "descender", "LWindowSale$Racer;", true)
  | 13 => ("WindowSale", "diary", "LWindowSale$Log;", true)
  | 14 => ("WindowSale", "firstImage", "LWindowSale$Image;", true)
  | 15 => ("WindowSale", "secondImage", "LWindowSale$Image;", true)
  | _ => ("WindowSale", "latestFault", "I", false)
def tyX11 : Nat → FieldType := fun k => match k with
  | 0 => .object "WindowSale$Tape"
  | 1 => .object "WindowSale$Reader"
  | 2 => .object "WindowSale$Station"
  | 3 => .object "WindowSale$Station"
  | 4 => .object "WindowSale$Scene"
  | 5 => .object "WindowSale$Scene"
  | 6 => .object "WindowSale$Past"
  | 7 => .object "WindowSale$Sentence"
  | 8 => .object "WindowSale$Sentence"
  | 9 => .object "WindowSale$Plans"
  | 10 => .object "WindowSale$Days"
  | 11 => .object "WindowSale$Racer"
  | 12 => .object "WindowSale$Racer"
  | 13 => .object "WindowSale$Log"
  | 14 => .object "WindowSale$Image"
  | 15 => .object "WindowSale$Image"
  | _ => .int
abbrev wsX110 : List Cond := u_ws RX11 TX11 17
theorem nmX11 : ∀ a, a < 17 → ∀ b, b < 17 → a ≠ b → (TX11 a).2.1 ≠ (TX11 b).2.1 := by decide +kernel
theorem tyX11_ok : ∀ k, k < 17 → parseFieldDescriptor (TX11 k).2.2.1 = some (tyX11 k) := by decide +kernel
abbrev cX11_init : ByteArray := prog_1_method_1_code
def yX11_init : MethodName := ⟨RX11, "<init>", "()V"⟩
abbrev cX11_feed : ByteArray := prog_1_method_2_code
def yX11_feed : MethodName := ⟨RX11, "feed", "(IIIII)I"⟩
abbrev cX11_end : ByteArray := prog_1_method_3_code
def yX11_end : MethodName := ⟨RX11, "end", "(I)Z"⟩
abbrev cX11_station : ByteArray := prog_1_method_4_code
def yX11_station : MethodName := ⟨RX11, "station", "()I"⟩
abbrev cX11_fault : ByteArray := prog_1_method_5_code
def yX11_fault : MethodName := ⟨RX11, "fault", "()I"⟩
abbrev cX11_window : ByteArray := prog_1_method_6_code
def yX11_window : MethodName := ⟨RX11, "window", "(II)I"⟩
abbrev cX11_stand : ByteArray := prog_1_method_7_code
def yX11_stand : MethodName := ⟨RX11, "stand", "(II)I"⟩
abbrev cX11_now : ByteArray := prog_1_method_8_code
def yX11_now : MethodName := ⟨RX11, "now", "(I)I"⟩
abbrev cX11_train : ByteArray := prog_1_method_9_code
def yX11_train : MethodName := ⟨RX11, "train", "(II)I"⟩
abbrev cX11_begin : ByteArray := prog_1_method_10_code
def yX11_begin : MethodName := ⟨RX11, "begin", "(I)I"⟩
abbrev cX11_sell : ByteArray := prog_1_method_11_code
def yX11_sell : MethodName := ⟨RX11, "sell", "(I)I"⟩
abbrev cX11_walk : ByteArray := prog_1_method_12_code
def yX11_walk : MethodName := ⟨RX11, "walk", "(I)I"⟩
abbrev cX11_waits : ByteArray := prog_1_method_13_code
def yX11_waits : MethodName := ⟨RX11, "waits", "(I)I"⟩
abbrev cX11_keepIfDone : ByteArray := prog_1_method_14_code
def yX11_keepIfDone : MethodName := ⟨RX11, "keepIfDone", "(I)I"⟩
abbrev cX11_keepTrial : ByteArray := prog_1_method_15_code
def yX11_keepTrial : MethodName := ⟨RX11, "keepTrial", "()V"⟩
abbrev cX11_undo : ByteArray := prog_1_method_16_code
def yX11_undo : MethodName := ⟨RX11, "undo", "()I"⟩
abbrev cX11_latest : ByteArray := prog_1_method_17_code
def yX11_latest : MethodName := ⟨RX11, "latest", "()I"⟩
abbrev cX11_heard : ByteArray := prog_1_method_18_code
def yX11_heard : MethodName := ⟨RX11, "heard", "()I"⟩
abbrev cX11_yet : ByteArray := prog_1_method_19_code
def yX11_yet : MethodName := ⟨RX11, "yet", "(II)I"⟩
abbrev cX11_gain : ByteArray := prog_1_method_20_code
def yX11_gain : MethodName := ⟨RX11, "gain", "(IIII)I"⟩
abbrev cX11_better : ByteArray := prog_1_method_21_code
def yX11_better : MethodName := ⟨RX11, "better", "(II)I"⟩
abbrev cX11_trust : ByteArray := prog_1_method_22_code
def yX11_trust : MethodName := ⟨RX11, "trust", "(I)I"⟩
abbrev cX11_plan : ByteArray := prog_1_method_23_code
def yX11_plan : MethodName := ⟨RX11, "plan", "(IIII)I"⟩
abbrev cX11_best : ByteArray := prog_1_method_24_code
def yX11_best : MethodName := ⟨RX11, "best", "(I)I"⟩
abbrev cX11_sale : ByteArray := prog_1_method_25_code
def yX11_sale : MethodName := ⟨RX11, "sale", "(II)I"⟩
abbrev cX11_sellers : ByteArray := prog_1_method_26_code
def yX11_sellers : MethodName := ⟨RX11, "sellers", "()I"⟩
abbrev cX11_earns : ByteArray := prog_1_method_27_code
def yX11_earns : MethodName := ⟨RX11, "earns", "(III)I"⟩
abbrev cX11_curve : ByteArray := prog_1_method_28_code
def yX11_curve : MethodName := ⟨RX11, "curve", "(II)I"⟩
abbrev cX11_share : ByteArray := prog_1_method_29_code
def yX11_share : MethodName := ⟨RX11, "share", "(II)I"⟩
abbrev cX11_race : ByteArray := prog_1_method_30_code
def yX11_race : MethodName := ⟨RX11, "race", "(IIII)I"⟩
abbrev cX11_border : ByteArray := prog_1_method_31_code
def yX11_border : MethodName := ⟨RX11, "border", "()I"⟩
abbrev cX11_change : ByteArray := prog_1_method_32_code
def yX11_change : MethodName := ⟨RX11, "change", "(II)I"⟩
abbrev cX11_weekly : ByteArray := prog_1_method_33_code
def yX11_weekly : MethodName := ⟨RX11, "weekly", "(I)I"⟩
abbrev cX11_needs : ByteArray := prog_1_method_34_code
def yX11_needs : MethodName := ⟨RX11, "needs", "(I)I"⟩
abbrev cX11_meant : ByteArray := prog_1_method_35_code
def yX11_meant : MethodName := ⟨RX11, "meant", "(III)I"⟩
abbrev cX11_stood : ByteArray := prog_1_method_36_code
def yX11_stood : MethodName := ⟨RX11, "stood", "()I"⟩
abbrev cX11_idle : ByteArray := prog_1_method_37_code
def yX11_idle : MethodName := ⟨RX11, "idle", "()I"⟩
abbrev cX11_drawn : ByteArray := prog_1_method_38_code
def yX11_drawn : MethodName := ⟨RX11, "drawn", "(II)I"⟩
abbrev cX11_luckiest : ByteArray := prog_1_method_39_code
def yX11_luckiest : MethodName := ⟨RX11, "luckiest", "(II)I"⟩
abbrev cX11_canDraw : ByteArray := prog_1_method_40_code
def yX11_canDraw : MethodName := ⟨RX11, "canDraw", "(I)Z"⟩
abbrev cX11_log : ByteArray := prog_1_method_41_code
def yX11_log : MethodName := ⟨RX11, "log", "(I)I"⟩
abbrev cX11_logged : ByteArray := prog_1_method_42_code
def yX11_logged : MethodName := ⟨RX11, "logged", "(I)I"⟩
abbrev cX11_sentence : ByteArray := prog_1_method_43_code
def yX11_sentence : MethodName := ⟨RX11, "sentence", "()I"⟩
abbrev cX11_said : ByteArray := prog_1_method_44_code
def yX11_said : MethodName := ⟨RX11, "said", "(I)I"⟩
abbrev cX11_image : ByteArray := prog_1_method_45_code
def yX11_image : MethodName := ⟨RX11, "image", "(I)Z"⟩
abbrev cX11_restore : ByteArray := prog_1_method_46_code
def yX11_restore : MethodName := ⟨RX11, "restore", "(I)Z"⟩
abbrev cX11_imageAt : ByteArray := prog_1_method_47_code
def yX11_imageAt : MethodName := ⟨RX11, "imageAt", "(I)LWindowSale$Image;"⟩
abbrev cX11_count : ByteArray := prog_1_method_48_code
def yX11_count : MethodName := ⟨RX11, "count", "(I)I"⟩
abbrev cX11_isSecond : ByteArray := prog_1_method_49_code
def yX11_isSecond : MethodName := ⟨RX11, "isSecond", "(I)Z"⟩
abbrev cX11_isPart : ByteArray := prog_1_method_50_code
def yX11_isPart : MethodName := ⟨RX11, "isPart", "(I)Z"⟩
abbrev cX11_part : ByteArray := prog_1_method_51_code
def yX11_part : MethodName := ⟨RX11, "part", "(III)I"⟩
abbrev cX11_entry : ByteArray := prog_1_method_52_code
def yX11_entry : MethodName := ⟨RX11, "entry", "([II)I"⟩
abbrev cX11_put : ByteArray := prog_1_method_53_code
def yX11_put : MethodName := ⟨RX11, "put", "([III)V"⟩
abbrev cX11_copyRow : ByteArray := prog_1_method_54_code
def yX11_copyRow : MethodName := ⟨RX11, "copyRow", "([I[I)V"⟩
abbrev cX11_nextSeed : ByteArray := prog_1_method_55_code
def yX11_nextSeed : MethodName := ⟨RX11, "nextSeed", "(I)I"⟩
abbrev cX11_drawOf : ByteArray := prog_1_method_56_code
def yX11_drawOf : MethodName := ⟨RX11, "drawOf", "(II)I"⟩
def RX12 : String := "WindowSaleModel"
def TX12 : u_T := fun k => match k with
  | 0 => ("WindowSaleModel", "thrown", "I", false)
  | 1 => ("WindowSaleModel", "tape", "[B", true)
  | 2 => ("WindowSaleModel", "length", "I", false)
  | 3 => ("WindowSaleModel", "size", "I", false)
  | 4 => ("WindowSaleModel", "p", "I", false)
  | 5 => ("WindowSaleModel", "limit", "I", false)
  | 6 => ("WindowSaleModel", "s", "[I", true)
  | 7 => ("WindowSaleModel", "h", "[I", true)
  | 8 => ("WindowSaleModel", "read", "[I", true)
  | 9 => ("WindowSaleModel", "token", "I", false)
  | 10 => ("WindowSaleModel", "at", "I", false)
  | 11 => ("WindowSaleModel", "span", "I", false)
  | 12 => ("WindowSaleModel", "number", "I", false)
  | 13 => ("WindowSaleModel", "fault", "I", false)
  | 14 => ("WindowSaleModel", "faultAt", "I", false)
  | 15 => ("WindowSaleModel", "word", "J", false)
  | 16 => ("WindowSaleModel", "got", "I", false)
  | 17 => ("WindowSaleModel", "lines", "I", false)
  | 18 => ("WindowSaleModel", "onces", "I", false)
  | 19 => ("WindowSaleModel", "undone", "[I", true)
  | 20 => ("WindowSaleModel", "before", "[I", true)
  | 21 => ("WindowSaleModel", "undoMany", "I", false)
  | 22 => ("WindowSaleModel", "value", "[I", true)
  | 23 => ("WindowSaleModel", "choice", "[I", true)
  | 24 => ("WindowSaleModel", "saleAt", "[I", true)
  | 25 => ("WindowSaleModel", "saleOf", "[I", true)
  | 26 => ("WindowSaleModel", "bestFrom", "I", false)
  | 27 => ("WindowSaleModel", "bestUp", "I", false)
  | 28 => ("WindowSaleModel", "sales", "I", false)
  | 29 => ("WindowSaleModel", "place", "[I", true)
  | 30 => ("WindowSaleModel", "time", "[I", true)
  | 31 => ("WindowSaleModel", "fruit", "[I", true)
  | 32 => ("WindowSaleModel", "pence", "[I", true)
  | 33 => ("WindowSaleModel", "sumOf", "I", false)
  | 34 => ("WindowSaleModel", "mostOne", "I", false)
  | 35 => ("WindowSaleModel", "told", "I", false)
  | 36 => ("WindowSaleModel", "loggedAt", "[I", true)
  | 37 => ("WindowSaleModel", "hasLogged", "Z", false)
  | 38 => ("WindowSaleModel", "stack", "[I", true)
  | 39 => ("WindowSaleModel", "codes", "I", false)
  | 40 => ("WindowSaleModel", "ones", "I", false)
  | 41 => ("WindowSaleModel", "top", "I", false)
  | 42 => ("WindowSaleModel", "deep", "I", false)
  | 43 => ("WindowSaleModel", "isWhole", "Z", false)
  | 44 => ("WindowSaleModel", "truths", "[Z", true)
  | 45 => ("WindowSaleModel", "kept", "[I", true)
  | _ => ("WindowSaleModel", "areKept", "[Z", true)
def tyX12 : Nat → FieldType := fun k => match k with
  | 0 => .int
  | 1 => .array .byte
  | 2 => .int
  | 3 => .int
  | 4 => .int
  | 5 => .int
  | 6 => .array .int
  | 7 => .array .int
  | 8 => .array .int
  | 9 => .int
  | 10 => .int
  | 11 => .int
  | 12 => .int
  | 13 => .int
  | 14 => .int
  | 15 => .long
  | 16 => .int
  | 17 => .int
  | 18 => .int
  | 19 => .array .int
  | 20 => .array .int
  | 21 => .int
  | 22 => .array .int
  | 23 => .array .int
  | 24 => .array .int
  | 25 => .array .int
  | 26 => .int
  | 27 => .int
  | 28 => .int
  | 29 => .array .int
  | 30 => .array .int
  | 31 => .array .int
  | 32 => .array .int
  | 33 => .int
  | 34 => .int
  | 35 => .int
  | 36 => .array .int
  | 37 => .boolean
  | 38 => .array .int
  | 39 => .int
  | 40 => .int
  | 41 => .int
  | 42 => .int
  | 43 => .boolean
  | 44 => .array .boolean
  | 45 => .array .int
  | _ => .array .boolean
abbrev wsX120 : List Cond := u_ws RX12 TX12 47
theorem nmX12 : ∀ a, a < 47 → ∀ b, b < 47 → a ≠ b → (TX12 a).2.1 ≠ (TX12 b).2.1 := by decide +kernel
theorem tyX12_ok : ∀ k, k < 47 → parseFieldDescriptor (TX12 k).2.2.1 = some (tyX12 k) := by decide +kernel
abbrev cX12_thrown : ByteArray := prog_14_method_1_code
def yX12_thrown : MethodName := ⟨RX12, "thrown", "()I"⟩
abbrev cX12_throwsIf : ByteArray := prog_14_method_2_code
def yX12_throwsIf : MethodName := ⟨RX12, "throwsIf", "(Z)Z"⟩
abbrev cX12_feed : ByteArray := prog_14_method_3_code
def yX12_feed : MethodName := ⟨RX12, "feed", "(IIIII)I"⟩
abbrev cX12_four : ByteArray := prog_14_method_4_code
def yX12_four : MethodName := ⟨RX12, "four", "(I)V"⟩
abbrev cX12_end : ByteArray := prog_14_method_5_code
def yX12_end : MethodName := ⟨RX12, "end", "(I)Z"⟩
abbrev cX12_taken : ByteArray := prog_14_method_6_code
def yX12_taken : MethodName := ⟨RX12, "taken", "(I)V"⟩
abbrev cX12_isIn : ByteArray := prog_14_method_7_code
def yX12_isIn : MethodName := ⟨RX12, "isIn", "(III)Z"⟩
abbrev cX12_bitOf : ByteArray := prog_14_method_8_code
def yX12_bitOf : MethodName := ⟨RX12, "bitOf", "(II)Z"⟩
abbrev cX12_lesser : ByteArray := prog_14_method_9_code
def yX12_lesser : MethodName := ⟨RX12, "lesser", "(II)I"⟩
abbrev cX12_greater : ByteArray := prog_14_method_10_code
def yX12_greater : MethodName := ⟨RX12, "greater", "(II)I"⟩
abbrev cX12_off : ByteArray := prog_14_method_11_code
def yX12_off : MethodName := ⟨RX12, "off", "(II)I"⟩
abbrev cX12_part : ByteArray := prog_14_method_12_code
def yX12_part : MethodName := ⟨RX12, "part", "(III)I"⟩
abbrev cX12_octet : ByteArray := prog_14_method_13_code
def yX12_octet : MethodName := ⟨RX12, "octet", "(I)I"⟩
abbrev cX12_init : ByteArray := prog_14_method_14_code
def yX12_init : MethodName := ⟨RX12, "<init>", "()V"⟩
abbrev cX12_clears : ByteArray := prog_14_method_15_code
def yX12_clears : MethodName := ⟨RX12, "clears", "()V"⟩
abbrev cX12_peek : ByteArray := prog_14_method_16_code
def yX12_peek : MethodName := ⟨RX12, "peek", "()I"⟩
abbrev cX12_isSmall : ByteArray := prog_14_method_17_code
def yX12_isSmall : MethodName := ⟨RX12, "isSmall", "(I)Z"⟩
abbrev cX12_isDigit : ByteArray := prog_14_method_18_code
def yX12_isDigit : MethodName := ⟨RX12, "isDigit", "(I)Z"⟩
abbrev cX12_next : ByteArray := prog_14_method_19_code
def yX12_next : MethodName := ⟨RX12, "next", "()V"⟩
abbrev cX12_bad : ByteArray := prog_14_method_20_code
def yX12_bad : MethodName := ⟨RX12, "bad", "(I)Z"⟩
abbrev cX12_isWord : ByteArray := prog_14_method_21_code
def yX12_isWord : MethodName := ⟨RX12, "isWord", "(J)Z"⟩
abbrev cX12_isSign : ByteArray := prog_14_method_22_code
def yX12_isSign : MethodName := ⟨RX12, "isSign", "(I)Z"⟩
abbrev cX12_sign : ByteArray := prog_14_method_23_code
def yX12_sign : MethodName := ⟨RX12, "sign", "(I)Z"⟩
abbrev cX12_takes : ByteArray := prog_14_method_24_code
def yX12_takes : MethodName := ⟨RX12, "takes", "(II)Z"⟩
abbrev cX12_puts : ByteArray := prog_14_method_25_code
def yX12_puts : MethodName := ⟨RX12, "puts", "(III)Z"⟩
abbrev cX12_whichOf : ByteArray := prog_14_method_26_code
def yX12_whichOf : MethodName := ⟨RX12, "whichOf", "()I"⟩
abbrev cX12_mostOf : ByteArray := prog_14_method_27_code
def yX12_mostOf : MethodName := ⟨RX12, "mostOf", "(I)I"⟩
abbrev cX12_line : ByteArray := prog_14_method_28_code
def yX12_line : MethodName := ⟨RX12, "line", "()Z"⟩
abbrev cX12_station : ByteArray := prog_14_method_29_code
def yX12_station : MethodName := ⟨RX12, "station", "()I"⟩
abbrev cX12_fault : ByteArray := prog_14_method_30_code
def yX12_fault : MethodName := ⟨RX12, "fault", "()I"⟩
abbrev cX12_isWindow : ByteArray := prog_14_method_31_code
def yX12_isWindow : MethodName := ⟨RX12, "isWindow", "(I)Z"⟩
abbrev cX12_standMany : ByteArray := prog_14_method_32_code
def yX12_standMany : MethodName := ⟨RX12, "standMany", "()I"⟩
abbrev cX12_secondsOf : ByteArray := prog_14_method_33_code
def yX12_secondsOf : MethodName := ⟨RX12, "secondsOf", "(I)I"⟩
abbrev cX12_weightOf : ByteArray := prog_14_method_34_code
def yX12_weightOf : MethodName := ⟨RX12, "weightOf", "(I)I"⟩
abbrev cX12_standing : ByteArray := prog_14_method_35_code
def yX12_standing : MethodName := ⟨RX12, "standing", "(I)I"⟩
abbrev cX12_window : ByteArray := prog_14_method_36_code
def yX12_window : MethodName := ⟨RX12, "window", "(II)I"⟩
abbrev cX12_stand : ByteArray := prog_14_method_37_code
def yX12_stand : MethodName := ⟨RX12, "stand", "(II)I"⟩
abbrev cX12_isThere : ByteArray := prog_14_method_38_code
def yX12_isThere : MethodName := ⟨RX12, "isThere", "()Z"⟩
abbrev cX12_canAct : ByteArray := prog_14_method_39_code
def yX12_canAct : MethodName := ⟨RX12, "canAct", "()Z"⟩
abbrev cX12_now : ByteArray := prog_14_method_40_code
def yX12_now : MethodName := ⟨RX12, "now", "(I)I"⟩
abbrev cX12_draw : ByteArray := prog_14_method_41_code
def yX12_draw : MethodName := ⟨RX12, "draw", "(I)I"⟩
abbrev cX12_comes : ByteArray := prog_14_method_42_code
def yX12_comes : MethodName := ⟨RX12, "comes", "(II)V"⟩
abbrev cX12_whyBegin : ByteArray := prog_14_method_43_code
def yX12_whyBegin : MethodName := ⟨RX12, "whyBegin", "()I"⟩
abbrev cX12_whySell : ByteArray := prog_14_method_44_code
def yX12_whySell : MethodName := ⟨RX12, "whySell", "()I"⟩
abbrev cX12_whyWalk : ByteArray := prog_14_method_45_code
def yX12_whyWalk : MethodName := ⟨RX12, "whyWalk", "(I)I"⟩
abbrev cX12_whyWait : ByteArray := prog_14_method_46_code
def yX12_whyWait : MethodName := ⟨RX12, "whyWait", "()I"⟩
abbrev cX12_passes : ByteArray := prog_14_method_47_code
def yX12_passes : MethodName := ⟨RX12, "passes", "(I)V"⟩
abbrev cX12_fruitFirst : ByteArray := prog_14_method_48_code
def yX12_fruitFirst : MethodName := ⟨RX12, "fruitFirst", "(Z)I"⟩
abbrev cX12_coinFirst : ByteArray := prog_14_method_49_code
def yX12_coinFirst : MethodName := ⟨RX12, "coinFirst", "(Z)I"⟩
abbrev cX12_sells : ByteArray := prog_14_method_50_code
def yX12_sells : MethodName := ⟨RX12, "sells", "(I)V"⟩
abbrev cX12_walks : ByteArray := prog_14_method_51_code
def yX12_walks : MethodName := ⟨RX12, "walks", "(I)V"⟩
abbrev cX12_train : ByteArray := prog_14_method_52_code
def yX12_train : MethodName := ⟨RX12, "train", "(II)I"⟩
abbrev cX12_begin : ByteArray := prog_14_method_53_code
def yX12_begin : MethodName := ⟨RX12, "begin", "(I)I"⟩
abbrev cX12_sell : ByteArray := prog_14_method_54_code
def yX12_sell : MethodName := ⟨RX12, "sell", "(I)I"⟩
abbrev cX12_walk : ByteArray := prog_14_method_55_code
def yX12_walk : MethodName := ⟨RX12, "walk", "(I)I"⟩
abbrev cX12_waits : ByteArray := prog_14_method_56_code
def yX12_waits : MethodName := ⟨RX12, "waits", "(I)I"⟩
abbrev cX12_keep : ByteArray := prog_14_method_57_code
def yX12_keep : MethodName := ⟨RX12, "keep", "()V"⟩
abbrev cX12_undo : ByteArray := prog_14_method_58_code
def yX12_undo : MethodName := ⟨RX12, "undo", "()I"⟩
abbrev cX12_latest : ByteArray := prog_14_method_59_code
def yX12_latest : MethodName := ⟨RX12, "latest", "()I"⟩
abbrev cX12_hears : ByteArray := prog_14_method_60_code
def yX12_hears : MethodName := ⟨RX12, "hears", "(I)Z"⟩
abbrev cX12_heard : ByteArray := prog_14_method_61_code
def yX12_heard : MethodName := ⟨RX12, "heard", "()I"⟩
abbrev cX12_yet : ByteArray := prog_14_method_62_code
def yX12_yet : MethodName := ⟨RX12, "yet", "(II)I"⟩
abbrev cX12_below : ByteArray := prog_14_method_63_code
def yX12_below : MethodName := ⟨RX12, "below", "()I"⟩
abbrev cX12_gainOf : ByteArray := prog_14_method_64_code
def yX12_gainOf : MethodName := ⟨RX12, "gainOf", "(III)I"⟩
abbrev cX12_betterOf : ByteArray := prog_14_method_65_code
def yX12_betterOf : MethodName := ⟨RX12, "betterOf", "(II)I"⟩
abbrev cX12_mostAt : ByteArray := prog_14_method_66_code
def yX12_mostAt : MethodName := ⟨RX12, "mostAt", "(II)I"⟩
abbrev cX12_gain : ByteArray := prog_14_method_67_code
def yX12_gain : MethodName := ⟨RX12, "gain", "(IIII)I"⟩
abbrev cX12_better : ByteArray := prog_14_method_68_code
def yX12_better : MethodName := ⟨RX12, "better", "(II)I"⟩
abbrev cX12_trust : ByteArray := prog_14_method_69_code
def yX12_trust : MethodName := ⟨RX12, "trust", "(I)I"⟩
abbrev cX12_cell : ByteArray := prog_14_method_70_code
def yX12_cell : MethodName := ⟨RX12, "cell", "(III)I"⟩
abbrev cX12_clipped : ByteArray := prog_14_method_71_code
def yX12_clipped : MethodName := ⟨RX12, "clipped", "(I)I"⟩
abbrev cX12_plans : ByteArray := prog_14_method_72_code
def yX12_plans : MethodName := ⟨RX12, "plans", "(III)V"⟩
abbrev cX12_chooses : ByteArray := prog_14_method_73_code
def yX12_chooses : MethodName := ⟨RX12, "chooses", "(IIIIZ)V"⟩
abbrev cX12_planOf : ByteArray := prog_14_method_74_code
def yX12_planOf : MethodName := ⟨RX12, "planOf", "(III)I"⟩
abbrev cX12_endOf : ByteArray := prog_14_method_75_code
def yX12_endOf : MethodName := ⟨RX12, "endOf", "(I)I"⟩
abbrev cX12_plan : ByteArray := prog_14_method_76_code
def yX12_plan : MethodName := ⟨RX12, "plan", "(IIII)I"⟩
abbrev cX12_bests : ByteArray := prog_14_method_77_code
def yX12_bests : MethodName := ⟨RX12, "bests", "()V"⟩
abbrev cX12_saleEnd : ByteArray := prog_14_method_78_code
def yX12_saleEnd : MethodName := ⟨RX12, "saleEnd", "(I)I"⟩
abbrev cX12_penceBy : ByteArray := prog_14_method_79_code
def yX12_penceBy : MethodName := ⟨RX12, "penceBy", "(I)I"⟩
abbrev cX12_best : ByteArray := prog_14_method_80_code
def yX12_best : MethodName := ⟨RX12, "best", "(I)I"⟩
abbrev cX12_sale : ByteArray := prog_14_method_81_code
def yX12_sale : MethodName := ⟨RX12, "sale", "(II)I"⟩
abbrev cX12_rowGain : ByteArray := prog_14_method_82_code
def yX12_rowGain : MethodName := ⟨RX12, "rowGain", "(II)I"⟩
abbrev cX12_rowFrom : ByteArray := prog_14_method_83_code
def yX12_rowFrom : MethodName := ⟨RX12, "rowFrom", "(II)I"⟩
abbrev cX12_earned : ByteArray := prog_14_method_84_code
def yX12_earned : MethodName := ⟨RX12, "earned", "(II)I"⟩
abbrev cX12_sellers : ByteArray := prog_14_method_85_code
def yX12_sellers : MethodName := ⟨RX12, "sellers", "()I"⟩
abbrev cX12_earns : ByteArray := prog_14_method_86_code
def yX12_earns : MethodName := ⟨RX12, "earns", "(III)I"⟩
abbrev cX12_curve : ByteArray := prog_14_method_87_code
def yX12_curve : MethodName := ⟨RX12, "curve", "(II)I"⟩
abbrev cX12_share : ByteArray := prog_14_method_88_code
def yX12_share : MethodName := ⟨RX12, "share", "(II)I"⟩
abbrev cX12_race : ByteArray := prog_14_method_89_code
def yX12_race : MethodName := ⟨RX12, "race", "(IIII)I"⟩
abbrev cX12_border : ByteArray := prog_14_method_90_code
def yX12_border : MethodName := ⟨RX12, "border", "()I"⟩
abbrev cX12_change : ByteArray := prog_14_method_91_code
def yX12_change : MethodName := ⟨RX12, "change", "(II)I"⟩
abbrev cX12_holds : ByteArray := prog_14_method_92_code
def yX12_holds : MethodName := ⟨RX12, "holds", "(II)Z"⟩
abbrev cX12_weekly : ByteArray := prog_14_method_93_code
def yX12_weekly : MethodName := ⟨RX12, "weekly", "(I)I"⟩
abbrev cX12_needs : ByteArray := prog_14_method_94_code
def yX12_needs : MethodName := ⟨RX12, "needs", "(I)I"⟩
abbrev cX12_meant : ByteArray := prog_14_method_95_code
def yX12_meant : MethodName := ⟨RX12, "meant", "(III)I"⟩
abbrev cX12_stood : ByteArray := prog_14_method_96_code
def yX12_stood : MethodName := ⟨RX12, "stood", "()I"⟩
abbrev cX12_idle : ByteArray := prog_14_method_97_code
def yX12_idle : MethodName := ⟨RX12, "idle", "()I"⟩
abbrev cX12_draws : ByteArray := prog_14_method_98_code
def yX12_draws : MethodName := ⟨RX12, "draws", "(II)V"⟩
abbrev cX12_paid : ByteArray := prog_14_method_99_code
def yX12_paid : MethodName := ⟨RX12, "paid", "(II)Z"⟩
abbrev cX12_drawn : ByteArray := prog_14_method_100_code
def yX12_drawn : MethodName := ⟨RX12, "drawn", "(II)I"⟩
abbrev cX12_luckiest : ByteArray := prog_14_method_101_code
def yX12_luckiest : MethodName := ⟨RX12, "luckiest", "(II)I"⟩
abbrev cX12_deedOf : ByteArray := prog_14_method_102_code
def yX12_deedOf : MethodName := ⟨RX12, "deedOf", "()I"⟩
abbrev cX12_logLine : ByteArray := prog_14_method_103_code
def yX12_logLine : MethodName := ⟨RX12, "logLine", "()Z"⟩
abbrev cX12_does : ByteArray := prog_14_method_104_code
def yX12_does : MethodName := ⟨RX12, "does", "(II)I"⟩
abbrev cX12_log : ByteArray := prog_14_method_105_code
def yX12_log : MethodName := ⟨RX12, "log", "(I)I"⟩
abbrev cX12_logged : ByteArray := prog_14_method_106_code
def yX12_logged : MethodName := ⟨RX12, "logged", "(I)I"⟩
abbrev cX12_code : ByteArray := prog_14_method_107_code
def yX12_code : MethodName := ⟨RX12, "code", "(III)V"⟩
abbrev cX12_joins : ByteArray := prog_14_method_108_code
def yX12_joins : MethodName := ⟨RX12, "joins", "(I)V"⟩
abbrev cX12_nots : ByteArray := prog_14_method_109_code
def yX12_nots : MethodName := ⟨RX12, "nots", "()V"⟩
abbrev cX12_leafOf : ByteArray := prog_14_method_110_code
def yX12_leafOf : MethodName := ⟨RX12, "leafOf", "()I"⟩
abbrev cX12_operand : ByteArray := prog_14_method_111_code
def yX12_operand : MethodName := ⟨RX12, "operand", "()Z"⟩
abbrev cX12_behind : ByteArray := prog_14_method_112_code
def yX12_behind : MethodName := ⟨RX12, "behind", "()Z"⟩
abbrev cX12_sentence : ByteArray := prog_14_method_113_code
def yX12_sentence : MethodName := ⟨RX12, "sentence", "()I"⟩
abbrev cX12_isLeaf : ByteArray := prog_14_method_114_code
def yX12_isLeaf : MethodName := ⟨RX12, "isLeaf", "(IIII)Z"⟩
abbrev cX12_isSaid : ByteArray := prog_14_method_115_code
def yX12_isSaid : MethodName := ⟨RX12, "isSaid", "(I)Z"⟩
abbrev cX12_said : ByteArray := prog_14_method_116_code
def yX12_said : MethodName := ⟨RX12, "said", "(I)I"⟩
abbrev cX12_image : ByteArray := prog_14_method_117_code
def yX12_image : MethodName := ⟨RX12, "image", "(I)Z"⟩
abbrev cX12_restore : ByteArray := prog_14_method_118_code
def yX12_restore : MethodName := ⟨RX12, "restore", "(I)Z"⟩
abbrev cX12_count : ByteArray := prog_14_method_119_code
def yX12_count : MethodName := ⟨RX12, "count", "(I)I"⟩
def RJx145de : String := "java/io/Serializable"
def TJx145de : u_T := fun k => match k with
  | _ => ("", "", "", false)
def tyJx145de : Nat → FieldType := fun k => match k with
  | _ => .int
abbrev wsJx145de0 : List Cond := u_ws RJx145de TJx145de 0
theorem nmJx145de : ∀ a, a < 0 → ∀ b, b < 0 → a ≠ b → (TJx145de a).2.1 ≠ (TJx145de b).2.1 := by decide +kernel
theorem tyJx145de_ok : ∀ k, k < 0 → parseFieldDescriptor (TJx145de k).2.2.1 = some (tyJx145de k) := by decide +kernel
def RJx9f9b0 : String := "java/lang/CharSequence"
def TJx9f9b0 : u_T := fun k => match k with
  | _ => ("", "", "", false)
def tyJx9f9b0 : Nat → FieldType := fun k => match k with
  | _ => .int
abbrev wsJx9f9b00 : List Cond := u_ws RJx9f9b0 TJx9f9b0 0
theorem nmJx9f9b0 : ∀ a, a < 0 → ∀ b, b < 0 → a ≠ b → (TJx9f9b0 a).2.1 ≠ (TJx9f9b0 b).2.1 := by decide +kernel
theorem tyJx9f9b0_ok : ∀ k, k < 0 → parseFieldDescriptor (TJx9f9b0 k).2.2.1 = some (tyJx9f9b0 k) := by decide +kernel
def RJxb160c : String := "java/lang/Comparable"
def TJxb160c : u_T := fun k => match k with
  | _ => ("", "", "", false)
def tyJxb160c : Nat → FieldType := fun k => match k with
  | _ => .int
abbrev wsJxb160c0 : List Cond := u_ws RJxb160c TJxb160c 0
theorem nmJxb160c : ∀ a, a < 0 → ∀ b, b < 0 → a ≠ b → (TJxb160c a).2.1 ≠ (TJxb160c b).2.1 := by decide +kernel
theorem tyJxb160c_ok : ∀ k, k < 0 → parseFieldDescriptor (TJxb160c k).2.2.1 = some (tyJxb160c k) := by decide +kernel
def RJ6 : String := "java/lang/Integer"
def TJ6 : u_T := fun k => match k with
  | _ => ("", "", "", false)
def tyJ6 : Nat → FieldType := fun k => match k with
  | _ => .int
abbrev wsJ60 : List Cond := u_ws RJ6 TJ6 0
theorem nmJ6 : ∀ a, a < 0 → ∀ b, b < 0 → a ≠ b → (TJ6 a).2.1 ≠ (TJ6 b).2.1 := by decide +kernel
theorem tyJ6_ok : ∀ k, k < 0 → parseFieldDescriptor (TJ6 k).2.2.1 = some (tyJ6 k) := by decide +kernel
abbrev cJ6_compare_7cf53 : ByteArray := prog_19_method_40_code
def yJ6_compare_7cf53 : MethodName := ⟨RJ6, "compare", "(II)I"⟩
abbrev cJ6_bitCount_0f7a4 : ByteArray := prog_19_method_49_code
def yJ6_bitCount_0f7a4 : MethodName := ⟨RJ6, "bitCount", "(I)I"⟩
def RJ9 : String := "java/lang/Math"
def TJ9 : u_T := fun k => match k with
  | _ => ("", "", "", false)
def tyJ9 : Nat → FieldType := fun k => match k with
  | _ => .int
abbrev wsJ90 : List Cond := u_ws RJ9 TJ9 0
theorem nmJ9 : ∀ a, a < 0 → ∀ b, b < 0 → a ≠ b → (TJ9 a).2.1 ≠ (TJ9 b).2.1 := by decide +kernel
theorem tyJ9_ok : ∀ k, k < 0 → parseFieldDescriptor (TJ9 k).2.2.1 = some (tyJ9 k) := by decide +kernel
abbrev cJ9_abs_0f7a4 : ByteArray := prog_20_method_59_code
def yJ9_abs_0f7a4 : MethodName := ⟨RJ9, "abs", "(I)I"⟩
abbrev cJ9_max_7cf53 : ByteArray := prog_20_method_65_code
def yJ9_max_7cf53 : MethodName := ⟨RJ9, "max", "(II)I"⟩
abbrev cJ9_min_7cf53 : ByteArray := prog_20_method_69_code
def yJ9_min_7cf53 : MethodName := ⟨RJ9, "min", "(II)I"⟩
def RJ0 : String := "java/lang/String"
def TJ0 : u_T := fun k => match k with
  | _ => ("", "", "", false)
def tyJ0 : Nat → FieldType := fun k => match k with
  | _ => .int
abbrev wsJ00 : List Cond := u_ws RJ0 TJ0 0
theorem nmJ0 : ∀ a, a < 0 → ∀ b, b < 0 → a ≠ b → (TJ0 a).2.1 ≠ (TJ0 b).2.1 := by decide +kernel
theorem tyJ0_ok : ∀ k, k < 0 → parseFieldDescriptor (TJ0 k).2.2.1 = some (tyJ0 k) := by decide +kernel
abbrev cJ0_length_8abf5 : ByteArray := prog_22_method_54_code
def yJ0_length_8abf5 : MethodName := ⟨RJ0, "length", "()I"⟩
abbrev cJ0_charAt_5068e : ByteArray := prog_22_method_56_code
def yJ0_charAt_5068e : MethodName := ⟨RJ0, "charAt", "(I)C"⟩
abbrev cJ0_coder_7d493 : ByteArray := prog_22_method_152_code
def yJ0_coder_7d493 : MethodName := ⟨RJ0, "coder", "()B"⟩
abbrev cJ0_isLatin1_aae02 : ByteArray := prog_22_method_154_code
def yJ0_isLatin1_aae02 : MethodName := ⟨RJ0, "isLatin1", "()Z"⟩
abbrev cJ0_checkIndex_df160 : ByteArray := prog_22_method_155_code
def yJ0_checkIndex_df160 : MethodName := ⟨RJ0, "checkIndex", "(II)V"⟩
def RJ1 : String := "java/lang/StringLatin1"
def TJ1 : u_T := fun k => match k with
  | _ => ("", "", "", false)
def tyJ1 : Nat → FieldType := fun k => match k with
  | _ => .int
abbrev wsJ10 : List Cond := u_ws RJ1 TJ1 0
theorem nmJ1 : ∀ a, a < 0 → ∀ b, b < 0 → a ≠ b → (TJ1 a).2.1 ≠ (TJ1 b).2.1 := by decide +kernel
theorem tyJ1_ok : ∀ k, k < 0 → parseFieldDescriptor (TJ1 k).2.2.1 = some (tyJ1 k) := by decide +kernel
abbrev cJ1_charAt_3b067 : ByteArray := prog_23_method_2_code
def yJ1_charAt_3b067 : MethodName := ⟨RJ1, "charAt", "([BI)C"⟩
def RJ2 : String := "java/lang/StringUTF16"
def TJ2 : u_T := fun k => match k with
  | _ => ("", "", "", false)
def tyJ2 : Nat → FieldType := fun k => match k with
  | _ => .int
abbrev wsJ20 : List Cond := u_ws RJ2 TJ2 0
theorem nmJ2 : ∀ a, a < 0 → ∀ b, b < 0 → a ≠ b → (TJ2 a).2.1 ≠ (TJ2 b).2.1 := by decide +kernel
theorem tyJ2_ok : ∀ k, k < 0 → parseFieldDescriptor (TJ2 k).2.2.1 = some (tyJ2 k) := by decide +kernel
abbrev cJ2_getChar_3b067 : ByteArray := prog_24_method_5_code
def yJ2_getChar_3b067 : MethodName := ⟨RJ2, "getChar", "([BI)C"⟩
abbrev cJ2_length_9d52b : ByteArray := prog_24_method_6_code
def yJ2_length_9d52b : MethodName := ⟨RJ2, "length", "([B)I"⟩
abbrev cJ2_charAt_3b067 : ByteArray := prog_24_method_83_code
def yJ2_charAt_3b067 : MethodName := ⟨RJ2, "charAt", "([BI)C"⟩
abbrev cJ2_checkIndex_2214a : ByteArray := prog_24_method_91_code
def yJ2_checkIndex_2214a : MethodName := ⟨RJ2, "checkIndex", "(I[B)V"⟩
def RJxfd54e : String := "java/lang/constant/Constable"
def TJxfd54e : u_T := fun k => match k with
  | _ => ("", "", "", false)
def tyJxfd54e : Nat → FieldType := fun k => match k with
  | _ => .int
abbrev wsJxfd54e0 : List Cond := u_ws RJxfd54e TJxfd54e 0
theorem nmJxfd54e : ∀ a, a < 0 → ∀ b, b < 0 → a ≠ b → (TJxfd54e a).2.1 ≠ (TJxfd54e b).2.1 := by decide +kernel
theorem tyJxfd54e_ok : ∀ k, k < 0 → parseFieldDescriptor (TJxfd54e k).2.2.1 = some (tyJxfd54e k) := by decide +kernel
def RJx3cf43 : String := "java/lang/constant/ConstantDesc"
def TJx3cf43 : u_T := fun k => match k with
  | _ => ("", "", "", false)
def tyJx3cf43 : Nat → FieldType := fun k => match k with
  | _ => .int
abbrev wsJx3cf430 : List Cond := u_ws RJx3cf43 TJx3cf43 0
theorem nmJx3cf43 : ∀ a, a < 0 → ∀ b, b < 0 → a ≠ b → (TJx3cf43 a).2.1 ≠ (TJx3cf43 b).2.1 := by decide +kernel
theorem tyJx3cf43_ok : ∀ k, k < 0 → parseFieldDescriptor (TJx3cf43 k).2.2.1 = some (tyJx3cf43 k) := by decide +kernel
def RJ7 : String := "java/util/Arrays"
def TJ7 : u_T := fun k => match k with
  | _ => ("", "", "", false)
def tyJ7 : Nat → FieldType := fun k => match k with
  | _ => .int
abbrev wsJ70 : List Cond := u_ws RJ7 TJ7 0
theorem nmJ7 : ∀ a, a < 0 → ∀ b, b < 0 → a ≠ b → (TJ7 a).2.1 ≠ (TJ7 b).2.1 := by decide +kernel
theorem tyJ7_ok : ∀ k, k < 0 → parseFieldDescriptor (TJ7 k).2.2.1 = some (tyJ7 k) := by decide +kernel
abbrev cJ7_fill_53178 : ByteArray := prog_28_method_103_code
def yJ7_fill_53178 : MethodName := ⟨RJ7, "fill", "([II)V"⟩
def RJ3 : String := "jdk/internal/util/Preconditions"
def TJ3 : u_T := fun k => match k with
  | _ => ("", "", "", false)
def tyJ3 : Nat → FieldType := fun k => match k with
  | _ => .int
abbrev wsJ30 : List Cond := u_ws RJ3 TJ3 0
theorem nmJ3 : ∀ a, a < 0 → ∀ b, b < 0 → a ≠ b → (TJ3 a).2.1 ≠ (TJ3 b).2.1 := by decide +kernel
theorem tyJ3_ok : ∀ k, k < 0 → parseFieldDescriptor (TJ3 k).2.2.1 = some (tyJ3 k) := by decide +kernel
abbrev cJ3_checkIndex_8e157 : ByteArray := prog_30_method_11_code
def yJ3_checkIndex_8e157 : MethodName := ⟨RJ3, "checkIndex", "(IILjava/util/function/BiFunction;)I"⟩
def RL : String := "WindowSaleLaw"
abbrev cL_window : ByteArray := method_3_code
def yL_window : MethodName := ⟨RL, "window", "(LWindowSale;II[J)I"⟩
abbrev cL_yet : ByteArray := method_4_code
def yL_yet : MethodName := ⟨RL, "yet", "(LWindowSale;II[J)I"⟩
abbrev cL_gain : ByteArray := method_5_code
def yL_gain : MethodName := ⟨RL, "gain", "(LWindowSale;IIII[J)I"⟩
abbrev cL_plan : ByteArray := method_6_code
def yL_plan : MethodName := ⟨RL, "plan", "(LWindowSale;IIII[J)I"⟩
abbrev cL_earns : ByteArray := method_7_code
def yL_earns : MethodName := ⟨RL, "earns", "(LWindowSale;III[J)I"⟩
abbrev cL_curve : ByteArray := method_8_code
def yL_curve : MethodName := ⟨RL, "curve", "(LWindowSale;II[J)I"⟩
abbrev cL_meant : ByteArray := method_9_code
def yL_meant : MethodName := ⟨RL, "meant", "(LWindowSale;III[J)I"⟩
abbrev cL_law : ByteArray := code
def yL_law : MethodName := ⟨RL, "law", "([I)Z"⟩
abbrev vwCl : List vw_C := [(RX0, TX0, 3), (RX1, TX1, 4), (RX2, TX2, 8), (RX3, TX3, 3), (RX4, TX4, 20), (RX5, TX5, 6), (RX6, TX6, 9), (RX7, TX7, 11), (RX8, TX8, 4), (RX9, TX9, 11), (RX10, TX10, 2), (RX11, TX11, 17), (RX12, TX12, 47)]
end
section
/-! MY ABSTRACT MEMORY. A heap of numbered cells (number i lies at the address b0 + i): shapes, and what they hold as three memories: ints, longs, references. -/
/-- the shape of a cell: an object of class number ci in vwCl (13 or more: a cell of which nothing is said), or an array -/
abbrev am_sh : Type := Nat ⊕ (FieldType × Nat)
abbrev am_S : Type := List am_sh × (Nat → Nat → Int32) × (Nat → Nat → Int64) × (Nat → Nat → Value)
/-- what is fixed in a run of the law: launch, the state at the law's entry, its arguments, the classes' numbers and slots, the array classes' numbers, addresses of outer arrays (0 the script, 1 .. static rows) and what they hold -/
abbrev am_C : Type := Launch × State × Array Value × va_G × (FieldType → ClassId) × (Nat → Nat) × (Nat → Option (Nat × (Nat → Int32)))
/-- a method: name, bytes, locals, return, handlers -/
abbrev am_M : Type := MethodName × ByteArray × Nat × Option FieldType × List (Nat × Nat × Nat × Nat)
def am_b0 (g : am_C) : Nat := g.2.1.heap.size
def am_rel (g : am_C) (v : Value) : Value := match v with
  | .ref i => .ref (am_b0 g + i)
  | .retAddr k => .ref (g.2.2.2.2.2.1 k)
  | v => v
def am_ad (g : am_C) (v : Value) : Option Nat := match v with
  | .ref i => some (am_b0 g + i)
  | .retAddr k => some (g.2.2.2.2.2.1 k)
  | _ => none
def am_kd (ty : FieldType) : Nat := match ty with
  | .int => 0
  | .byte => 0
  | .boolean => 0
  | .long => 1
  | .object _ => 2
  | .array _ => 2
  | _ => 3
def am_ty (ci : Nat) : Nat → FieldType := match ci with
  | 0 => tyX0
  | 1 => tyX1
  | 2 => tyX2
  | 3 => tyX3
  | 4 => tyX4
  | 5 => tyX5
  | 6 => tyX6
  | 7 => tyX7
  | 8 => tyX8
  | 9 => tyX9
  | 10 => tyX10
  | 11 => tyX11
  | _ => tyX12
def am_fa (σ : am_S) (o : Nat) (ty : FieldType) (k : Nat) : Value := match am_kd ty with
  | 0 => .int (σ.2.1 o k)
  | 1 => .long (σ.2.2.1 o k)
  | _ => σ.2.2.2 o k
def am_of (g : am_C) (σ : am_S) (i ci n : Nat) : List Value := (List.range n).map (fun k => am_rel g (am_fa σ i (am_ty ci k) k))
def am_ar (g : am_C) (σ : am_S) (i : Nat) (ty : FieldType) (n : Nat) : Option va_E := match am_kd ty with
  | 0 => some (.inl (g.2.2.2.2.1 ty, n, .inl (σ.2.1 i)))
  | 1 => some (.inl (g.2.2.2.2.1 ty, n, .inr (.inl (σ.2.2.1 i))))
  | 2 => some (.inl (g.2.2.2.2.1 ty, n, .inr (.inr (.inr (.inr (fun k => am_ad g (σ.2.2.2 i k)))))))
  | _ => none
def am_ce (g : am_C) (σ : am_S) (i : Nat) (h : am_sh) : Option va_E := match h with
  | .inl ci => (vwCl[ci]?).map (fun q => .inr (ci, am_of g σ i ci q.2.2))
  | .inr (ty, n) => am_ar g σ i ty n
/-- the heap holds the memory -/
def am_Rep (g : am_C) (σ : am_S) (H : Heap) : Prop :=
  H.size = am_b0 g + σ.1.length ∧
  (∀ (i : Nat) (h : am_sh) (e : va_E), σ.1[i]? = some h → am_ce g σ i h = some e → va_at g.2.2.2.1 vwCl (am_b0 g + i, e) H) ∧
  (∀ q : Nat, q < am_b0 g → H[q]? = g.2.1.heap[q]?) ∧
  (∀ o k : Nat, σ.1.length ≤ o → σ.2.1 o k = 0 ∧ σ.2.2.1 o k = 0 ∧ σ.2.2.2 o k = .null)
def am_lv (g : am_C) (lv : List (Nat × Value)) : List (Nat × Value) := lv.map (fun q => (q.1, am_rel g q.2))
/-- the frame that runs is one of M -/
def am_F (g : am_C) (M : am_M) (p : Program) (s : State) (m : MethodId) (meth : Method) (c : Code) : Prop :=
  p.tables.exec = Jvm.exec ∧ c.code = M.2.1 ∧ c.maxLocals = M.2.2.1 ∧ meth.sig.returnType = M.2.2.2.1 ∧ meth.locks = false ∧ s.vm.findClass M.1.cls = some m.cls ∧ g.2.1.WarmedH s.vm ∧ (M.1.name = "<init>" → meth.name = M.1.name) ∧ (M.1.name = "law" ∨ c.exceptionTable.toList = tableOf M.2.2.2.2) ∧ am_b0 g ≤ s.heap.size ∧ ∀ q : Nat, q < am_b0 g → s.heap[q]? = g.2.1.heap[q]?
def am_Qc (g : am_C) (post : Option (Option Value) → am_S → Prop) : Array Value → State → Outcome → State → Prop := fun _ _ o t =>
  ∃ (v : Option Value) (σ' : am_S), o = .returned (v.map (am_rel g)) ∧ post (some v) σ' ∧ am_Rep g σ' t.heap
def am_Xc (g : am_C) (post : Option (Option Value) → am_S → Prop) : String → State → State → Prop := fun E _ t =>
  E = "java/util/NoSuchElementException" ∧ ∃ σ' : am_S, post none σ' ∧ am_Rep g σ' t.heap
/-- FROM HERE the method comes to an end with 'post' (none: it throws), with at most d frames below it, mc cells of ms slots more -/
def am_K (g : am_C) (d : Nat) (M : am_M) (mc ms : Nat) (pc : Nat) (lv : List (Nat × Value)) (st : List Value) (σ : am_S) (post : Option (Option Value) → am_S → Prop) : Prop :=
  ∀ (p : Program) (e : Env) (R : Room) (s : State) (m : MethodId) (args : Array Value) (below : List Frame) (meth : Method) (c : Code) (H : Heap) (locs : List Loc) (cells slots : Nat) (ls : Array Slot),
    am_F g M p s m meth c → d ≤ R.frames → 40 * d ≤ R.locals → cells + mc ≤ R.cells → slots + ms ≤ R.slots → am_Rep g σ H → (∀ q ∈ locs, am_b0 g ≤ q.base) → lv_has ls M.2.2.1 (am_lv g lv) →
    W p g.1 e R s m args below meth c H locs cells slots (vx_MQ below (am_Qc g post) (am_Xc g post) args s (cells + mc) (slots + ms) (fun q => am_b0 g ≤ q)) (F0 m pc ls (st.map (am_rel g)))
theorem am_cat (g : am_C) (v : Value) : (am_rel g v).category = v.category := by cases v <;> rfl
theorem am_at {g : am_C} {lv : List (Nat × Value)} {j i : Nat} {v : Value} (h : lv[j]? = some (i, v)) : (am_lv g lv)[j]? = some (i, am_rel g v) := by
  simp [am_lv, h]
theorem am_filt1 (g : am_C) (i : Nat) (lv : List (Nat × Value)) : (am_lv g lv).filter (fun q => !(q.1 == i) && !(q.1 + 1 == i && q.2.category == 2)) = am_lv g (lv.filter (fun q => !(q.1 == i) && !(q.1 + 1 == i && q.2.category == 2))) := by
  induction lv with
  | nil => rfl
  | cons a l ih =>
    simp only [am_lv, List.map_cons, List.filter_cons, am_cat] at ih ⊢
    rw [ih]
    split <;> simp
theorem am_filt2 (g : am_C) (i : Nat) (lv : List (Nat × Value)) : (am_lv g lv).filter (fun q => !(q.1 == i) && (!(q.1 == i + 1) && !(q.1 + 1 == i && q.2.category == 2))) = am_lv g (lv.filter (fun q => !(q.1 == i) && (!(q.1 == i + 1) && !(q.1 + 1 == i && q.2.category == 2)))) := by
  induction lv with
  | nil => rfl
  | cons a l ih =>
    simp only [am_lv, List.map_cons, List.filter_cons, am_cat] at ih ⊢
    rw [ih]
    split <;> simp
/-- the words that stay true under warmer tables -/
def am_T : List Cond := lw_tbl.filter goodWord
/-- the number of a text among the outer things -/
def am_sx (own : String) (i : Nat) : Nat := 10 + i + 1000 * own.length
/-- what is known from the law's entry on -/
def am_G (g : am_C) : Prop :=
  (∀ w ∈ lw_tbl, w.before g.2.2.1 g.2.1 = true) ∧
  va_K g.2.2.2.1 vwCl [(g.2.2.2.2.1 .int, .int), (g.2.2.2.2.1 .byte, .byte), (g.2.2.2.2.1 .long, .long), (g.2.2.2.2.1 .boolean, .boolean), (g.2.2.2.2.1 (.object "WindowSale$Scene"), .object "WindowSale$Scene")] g.2.1 ∧
  (∀ (k n : Nat) (f : Nat → Int32), g.2.2.2.2.2.2 k = some (n, f) → n < 2 ^ 31 ∧ ∃ cell : Cell, g.2.1.heap[g.2.2.2.2.2.1 k]? = some cell ∧ g.2.1.isArrayOf cell .int ∧ cell.vm ≠ .unknown ∧ (n ≤ cell.slots.size ∧ cell.slots.size.toInt32 = Int32.ofNat n) ∧ ∀ j : Nat, j < n → cell.slots[j]? = some (.int (f j))) ∧
  (va_Z "WindowSale$Station" "USUAL" "[I" (.ref (g.2.2.2.2.2.1 1)) (fun q => am_b0 g ≤ q) g.2.1 g.2.1.heap ∧ va_Z "WindowSale$Station" "LEAST" "[I" (.ref (g.2.2.2.2.2.1 2)) (fun q => am_b0 g ≤ q) g.2.1 g.2.1.heap ∧ va_Z "WindowSale$Station" "GREATEST" "[I" (.ref (g.2.2.2.2.2.1 3)) (fun q => am_b0 g ≤ q) g.2.1 g.2.1.heap) ∧
  (∀ (own : String) (i : Nat) (tx : String), Cond.stringRef own i tx ∈ lw_tbl → vk_R own i tx (g.2.2.2.2.2.1 (am_sx own i)) g.2.1) ∧
  (g.1.stackTraces = false ∧ vx_Zq Bundle.tN "UNASSIGNED_STACK" Bundle.steD (fun q => am_b0 g ≤ q) g.2.1 g.2.1.heap ∧ vx_Zq Bundle.tN "SUPPRESSED_SENTINEL" Bundle.listD (fun q => am_b0 g ≤ q) g.2.1 g.2.1.heap)
theorem am_hts {g : am_C} (G : am_G g) {s : State} (hW : g.2.1.WarmedH s.vm) (args : Array Value) : ∀ w ∈ am_T, w.before args s = true := by
  intro w hw
  have h1 := List.mem_filter.mp hw
  exact word_at hW (good_of_word h1.2) (G.1 w h1.1)
theorem am_w {g : am_C} (G : am_G g) {s : State} (hW : g.2.1.WarmedH s.vm) (args : Array Value) {w : Cond} (h : w ∈ lw_tbl) (hg : goodWord w = true) : w.before args s = true := am_hts G hW args w (List.mem_filter.mpr ⟨h, hg⟩)
theorem am_hK {g : am_C} (G : am_G g) {s : State} (hW : g.2.1.WarmedH s.vm) : va_K g.2.2.2.1 vwCl [(g.2.2.2.2.1 .int, .int), (g.2.2.2.2.1 .byte, .byte), (g.2.2.2.2.1 .long, .long), (g.2.2.2.2.1 .boolean, .boolean), (g.2.2.2.2.1 (.object "WindowSale$Scene"), .object "WindowSale$Scene")] s := va_K.moved hW.alike G.2.1
end
section
section KR
variable {g : am_C} {d : Nat} {M : am_M} {mc ms pc : Nat} {lv : List (Nat × Value)} {st : List Value} {σ : am_S} {post : Option (Option Value) → am_S → Prop}
theorem kr_iadd {x y : Int32} (hd : decode M.2.1 pc = .ok (.iadd, 1)) (k : am_K g d M mc ms (pc + 1) lv (.int (x + y) :: st) σ post) : am_K g d M mc ms pc lv (.int y :: .int x :: st) σ post := by
  intro p e R s m args below meth c H locs cells slots ls F h1 h2 h3 h4 hR hL hl
  exact lv_iadd F.1 F.2.1 hd (k p e R s m args below meth c H locs cells slots ls F h1 h2 h3 h4 hR hL hl)
theorem kr_isub {x y : Int32} (hd : decode M.2.1 pc = .ok (.isub, 1)) (k : am_K g d M mc ms (pc + 1) lv (.int (x - y) :: st) σ post) : am_K g d M mc ms pc lv (.int y :: .int x :: st) σ post := by
  intro p e R s m args below meth c H locs cells slots ls F h1 h2 h3 h4 hR hL hl
  exact lv_isub F.1 F.2.1 hd (k p e R s m args below meth c H locs cells slots ls F h1 h2 h3 h4 hR hL hl)
theorem kr_imul {x y : Int32} (hd : decode M.2.1 pc = .ok (.imul, 1)) (k : am_K g d M mc ms (pc + 1) lv (.int (x * y) :: st) σ post) : am_K g d M mc ms pc lv (.int y :: .int x :: st) σ post := by
  intro p e R s m args below meth c H locs cells slots ls F h1 h2 h3 h4 hR hL hl
  exact lv_imul F.1 F.2.1 hd (k p e R s m args below meth c H locs cells slots ls F h1 h2 h3 h4 hR hL hl)
theorem kr_iand {x y : Int32} (hd : decode M.2.1 pc = .ok (.iand, 1)) (k : am_K g d M mc ms (pc + 1) lv (.int (x &&& y) :: st) σ post) : am_K g d M mc ms pc lv (.int y :: .int x :: st) σ post := by
  intro p e R s m args below meth c H locs cells slots ls F h1 h2 h3 h4 hR hL hl
  exact lv_iand F.1 F.2.1 hd (k p e R s m args below meth c H locs cells slots ls F h1 h2 h3 h4 hR hL hl)
theorem kr_ior {x y : Int32} (hd : decode M.2.1 pc = .ok (.ior, 1)) (k : am_K g d M mc ms (pc + 1) lv (.int (x ||| y) :: st) σ post) : am_K g d M mc ms pc lv (.int y :: .int x :: st) σ post := by
  intro p e R s m args below meth c H locs cells slots ls F h1 h2 h3 h4 hR hL hl
  exact lv_ior F.1 F.2.1 hd (k p e R s m args below meth c H locs cells slots ls F h1 h2 h3 h4 hR hL hl)
theorem kr_ixor {x y : Int32} (hd : decode M.2.1 pc = .ok (.ixor, 1)) (k : am_K g d M mc ms (pc + 1) lv (.int (x ^^^ y) :: st) σ post) : am_K g d M mc ms pc lv (.int y :: .int x :: st) σ post := by
  intro p e R s m args below meth c H locs cells slots ls F h1 h2 h3 h4 hR hL hl
  exact lv_ixor F.1 F.2.1 hd (k p e R s m args below meth c H locs cells slots ls F h1 h2 h3 h4 hR hL hl)
theorem kr_ishl {x y : Int32} (hd : decode M.2.1 pc = .ok (.ishl, 1)) (k : am_K g d M mc ms (pc + 1) lv (.int (x <<< (y &&& 31)) :: st) σ post) : am_K g d M mc ms pc lv (.int y :: .int x :: st) σ post := by
  intro p e R s m args below meth c H locs cells slots ls F h1 h2 h3 h4 hR hL hl
  exact lv_ishl F.1 F.2.1 hd (k p e R s m args below meth c H locs cells slots ls F h1 h2 h3 h4 hR hL hl)
theorem kr_ishr {x y : Int32} (hd : decode M.2.1 pc = .ok (.ishr, 1)) (k : am_K g d M mc ms (pc + 1) lv (.int (x >>> (y &&& 31)) :: st) σ post) : am_K g d M mc ms pc lv (.int y :: .int x :: st) σ post := by
  intro p e R s m args below meth c H locs cells slots ls F h1 h2 h3 h4 hR hL hl
  exact lv_ishr F.1 F.2.1 hd (k p e R s m args below meth c H locs cells slots ls F h1 h2 h3 h4 hR hL hl)
theorem kr_idiv {x y : Int32} (hd : decode M.2.1 pc = .ok (.idiv, 1)) (hne : ¬ y = 0) (k : am_K g d M mc ms (pc + 1) lv (.int (x / y) :: st) σ post) : am_K g d M mc ms pc lv (.int y :: .int x :: st) σ post := by
  intro p e R s m args below meth c H locs cells slots ls F h1 h2 h3 h4 hR hL hl
  exact lv_idiv F.1 F.2.1 hd hne (k p e R s m args below meth c H locs cells slots ls F h1 h2 h3 h4 hR hL hl)
theorem kr_irem {x y : Int32} (hd : decode M.2.1 pc = .ok (.irem, 1)) (hne : ¬ y = 0) (k : am_K g d M mc ms (pc + 1) lv (.int (x - x / y * y) :: st) σ post) : am_K g d M mc ms pc lv (.int y :: .int x :: st) σ post := by
  intro p e R s m args below meth c H locs cells slots ls F h1 h2 h3 h4 hR hL hl
  exact lv_irem F.1 F.2.1 hd hne (k p e R s m args below meth c H locs cells slots ls F h1 h2 h3 h4 hR hL hl)
theorem kr_iushr {x y : Int32} (hd : decode M.2.1 pc = .ok (.iushr, 1)) (k : am_K g d M mc ms (pc + 1) lv (.int ((x.toUInt32 >>> (y.toUInt32 &&& Int32.toUInt32 31)).toInt32) :: st) σ post) : am_K g d M mc ms pc lv (.int y :: .int x :: st) σ post := by
  intro p e R s m args below meth c H locs cells slots ls F h1 h2 h3 h4 hR hL hl
  exact lv_iushr F.1 F.2.1 hd rfl (k p e R s m args below meth c H locs cells slots ls F h1 h2 h3 h4 hR hL hl)
theorem kr_ineg {x : Int32} (hd : decode M.2.1 pc = .ok (.ineg, 1)) (k : am_K g d M mc ms (pc + 1) lv (.int (-x) :: st) σ post) : am_K g d M mc ms pc lv (.int x :: st) σ post := by
  intro p e R s m args below meth c H locs cells slots ls F h1 h2 h3 h4 hR hL hl
  exact lv_ineg F.1 F.2.1 hd (k p e R s m args below meth c H locs cells slots ls F h1 h2 h3 h4 hR hL hl)
theorem kr_land {x y : Int64} (hd : decode M.2.1 pc = .ok (.land, 1)) (k : am_K g d M mc ms (pc + 1) lv (.long (x &&& y) :: st) σ post) : am_K g d M mc ms pc lv (.long y :: .long x :: st) σ post := by
  intro p e R s m args below meth c H locs cells slots ls F h1 h2 h3 h4 hR hL hl
  exact lv_land F.1 F.2.1 hd (k p e R s m args below meth c H locs cells slots ls F h1 h2 h3 h4 hR hL hl)
theorem kr_lor {x y : Int64} (hd : decode M.2.1 pc = .ok (.lor, 1)) (k : am_K g d M mc ms (pc + 1) lv (.long (x ||| y) :: st) σ post) : am_K g d M mc ms pc lv (.long y :: .long x :: st) σ post := by
  intro p e R s m args below meth c H locs cells slots ls F h1 h2 h3 h4 hR hL hl
  exact lv_lor F.1 F.2.1 hd (k p e R s m args below meth c H locs cells slots ls F h1 h2 h3 h4 hR hL hl)
theorem kr_lshl {x : Int64} {y : Int32} (hd : decode M.2.1 pc = .ok (.lshl, 1)) (k : am_K g d M mc ms (pc + 1) lv (.long (x <<< (y.toInt64 &&& 63)) :: st) σ post) : am_K g d M mc ms pc lv (.int y :: .long x :: st) σ post := by
  intro p e R s m args below meth c H locs cells slots ls F h1 h2 h3 h4 hR hL hl
  exact lv_lshl F.1 F.2.1 hd rfl (k p e R s m args below meth c H locs cells slots ls F h1 h2 h3 h4 hR hL hl)
theorem kr_lushr {x : Int64} {y : Int32} (hd : decode M.2.1 pc = .ok (.lushr, 1)) (k : am_K g d M mc ms (pc + 1) lv (.long ((x.toUInt64 >>> (y.toInt64.toUInt64 &&& Int64.toUInt64 63)).toInt64) :: st) σ post) : am_K g d M mc ms pc lv (.int y :: .long x :: st) σ post := by
  intro p e R s m args below meth c H locs cells slots ls F h1 h2 h3 h4 hR hL hl
  exact lv_lushr F.1 F.2.1 hd rfl (k p e R s m args below meth c H locs cells slots ls F h1 h2 h3 h4 hR hL hl)
theorem kr_i2l {x : Int32} (hd : decode M.2.1 pc = .ok (.i2l, 1)) (k : am_K g d M mc ms (pc + 1) lv (.long x.toInt64 :: st) σ post) : am_K g d M mc ms pc lv (.int x :: st) σ post := by
  intro p e R s m args below meth c H locs cells slots ls F h1 h2 h3 h4 hR hL hl
  exact lv_i2l F.1 F.2.1 hd rfl (k p e R s m args below meth c H locs cells slots ls F h1 h2 h3 h4 hR hL hl)
theorem kr_l2i {x : Int64} (hd : decode M.2.1 pc = .ok (.l2i, 1)) (k : am_K g d M mc ms (pc + 1) lv (.int x.toInt32 :: st) σ post) : am_K g d M mc ms pc lv (.long x :: st) σ post := by
  intro p e R s m args below meth c H locs cells slots ls F h1 h2 h3 h4 hR hL hl
  exact lv_l2i F.1 F.2.1 hd rfl (k p e R s m args below meth c H locs cells slots ls F h1 h2 h3 h4 hR hL hl)
theorem kr_i2b {x : Int32} (hd : decode M.2.1 pc = .ok (.i2b, 1)) (k : am_K g d M mc ms (pc + 1) lv (.int x.toInt8.toInt32 :: st) σ post) : am_K g d M mc ms pc lv (.int x :: st) σ post := by
  intro p e R s m args below meth c H locs cells slots ls F h1 h2 h3 h4 hR hL hl
  exact lv_i2b F.1 F.2.1 hd rfl (k p e R s m args below meth c H locs cells slots ls F h1 h2 h3 h4 hR hL hl)
theorem kr_lcmp {x y : Int64} (hd : decode M.2.1 pc = .ok (.lcmp, 1)) (k : am_K g d M mc ms (pc + 1) lv (.int (lg_cmp x y) :: st) σ post) : am_K g d M mc ms pc lv (.long y :: .long x :: st) σ post := by
  intro p e R s m args below meth c H locs cells slots ls F h1 h2 h3 h4 hR hL hl
  exact W.lcmp F.1 F.2.1 hd (k p e R s m args below meth c H locs cells slots ls F h1 h2 h3 h4 hR hL hl)
theorem kr_iconst {n : Int} {v : Int32} (hd : decode M.2.1 pc = .ok (.iconst n, 1)) (hv : Int32.ofInt n = v) (k : am_K g d M mc ms (pc + 1) lv (.int v :: st) σ post) : am_K g d M mc ms pc lv (st) σ post := by
  intro p e R s m args below meth c H locs cells slots ls F h1 h2 h3 h4 hR hL hl
  exact lv_iconst F.1 F.2.1 hd hv (k p e R s m args below meth c H locs cells slots ls F h1 h2 h3 h4 hR hL hl)
theorem kr_bipush {n : Int} {v : Int32} (hd : decode M.2.1 pc = .ok (.bipush n, 2)) (hv : (Int8.ofInt n).toInt32 = v) (k : am_K g d M mc ms (pc + 2) lv (.int v :: st) σ post) : am_K g d M mc ms pc lv (st) σ post := by
  intro p e R s m args below meth c H locs cells slots ls F h1 h2 h3 h4 hR hL hl
  exact lv_bipush F.1 F.2.1 hd hv (k p e R s m args below meth c H locs cells slots ls F h1 h2 h3 h4 hR hL hl)
theorem kr_sipush {n : Int} {v : Int32} (hd : decode M.2.1 pc = .ok (.sipush n, 3)) (hv : (Int16.ofInt n).toInt32 = v) (k : am_K g d M mc ms (pc + 3) lv (.int v :: st) σ post) : am_K g d M mc ms pc lv (st) σ post := by
  intro p e R s m args below meth c H locs cells slots ls F h1 h2 h3 h4 hR hL hl
  exact lv_sipush F.1 F.2.1 hd hv (k p e R s m args below meth c H locs cells slots ls F h1 h2 h3 h4 hR hL hl)
theorem kr_lconst {n : Fin 2} {v : Int64} (hd : decode M.2.1 pc = .ok (.lconst n, 1)) (hv : Int64.ofNat (n : Nat) = v) (k : am_K g d M mc ms (pc + 1) lv (.long v :: st) σ post) : am_K g d M mc ms pc lv (st) σ post := by
  intro p e R s m args below meth c H locs cells slots ls F h1 h2 h3 h4 hR hL hl
  exact lv_lconst F.1 F.2.1 hd hv (k p e R s m args below meth c H locs cells slots ls F h1 h2 h3 h4 hR hL hl)
theorem kr_dup {v : Value} (hd : decode M.2.1 pc = .ok (.dup, 1)) (hc : v.category = 1) (k : am_K g d M mc ms (pc + 1) lv (v :: v :: st) σ post) : am_K g d M mc ms pc lv (v :: st) σ post := by
  intro p e R s m args below meth c H locs cells slots ls F h1 h2 h3 h4 hR hL hl
  exact lv_dup F.1 F.2.1 hd ((am_cat g v).trans hc) (k p e R s m args below meth c H locs cells slots ls F h1 h2 h3 h4 hR hL hl)
theorem kr_pop {v : Value} (hd : decode M.2.1 pc = .ok (.pop, 1)) (hc : v.category = 1) (k : am_K g d M mc ms (pc + 1) lv (st) σ post) : am_K g d M mc ms pc lv (v :: st) σ post := by
  intro p e R s m args below meth c H locs cells slots ls F h1 h2 h3 h4 hR hL hl
  exact lv_pop F.1 F.2.1 hd ((am_cat g v).trans hc) (k p e R s m args below meth c H locs cells slots ls F h1 h2 h3 h4 hR hL hl)
theorem kr_dup2 {v w : Value} (hd : decode M.2.1 pc = .ok (.dup2, 1)) (hc : v.category = 1) (hc2 : w.category = 1) (k : am_K g d M mc ms (pc + 1) lv (v :: w :: v :: w :: st) σ post) : am_K g d M mc ms pc lv (v :: w :: st) σ post := by
  intro p e R s m args below meth c H locs cells slots ls F h1 h2 h3 h4 hR hL hl
  exact lv_dup2_11 F.1 F.2.1 hd ((am_cat g v).trans hc) ((am_cat g w).trans hc2) (k p e R s m args below meth c H locs cells slots ls F h1 h2 h3 h4 hR hL hl)
theorem kr_iload_n {k : Fin 4} {x : Int32} (j : Nat) (hd : decode M.2.1 pc = .ok (.iload_n k, 1)) (hj : lv[j]? = some ((k : Nat), .int x)) (kk : am_K g d M mc ms (pc + 1) lv (.int x :: st) σ post) : am_K g d M mc ms pc lv st σ post := by
  intro p e R s m args below meth c H locs cells slots ls F h1 h2 h3 h4 hR hL hl
  exact lv_iload_n F.1 F.2.1 hd rfl (lv_at hl j (am_at hj)) (kk p e R s m args below meth c H locs cells slots ls F h1 h2 h3 h4 hR hL hl)
theorem kr_iload {i : Nat} {x : Int32} (j : Nat) (hd : decode M.2.1 pc = .ok (.iload i, 2)) (hj : lv[j]? = some (i, .int x)) (kk : am_K g d M mc ms (pc + 2) lv (.int x :: st) σ post) : am_K g d M mc ms pc lv st σ post := by
  intro p e R s m args below meth c H locs cells slots ls F h1 h2 h3 h4 hR hL hl
  exact lv_iload F.1 F.2.1 hd (lv_at hl j (am_at hj)) (kk p e R s m args below meth c H locs cells slots ls F h1 h2 h3 h4 hR hL hl)
theorem kr_lload_n {k : Fin 4} {x : Int64} (j : Nat) (hd : decode M.2.1 pc = .ok (.lload_n k, 1)) (hj : lv[j]? = some ((k : Nat), .long x)) (kk : am_K g d M mc ms (pc + 1) lv (.long x :: st) σ post) : am_K g d M mc ms pc lv st σ post := by
  intro p e R s m args below meth c H locs cells slots ls F h1 h2 h3 h4 hR hL hl
  exact lv_lload_n F.1 F.2.1 hd rfl (lv_at hl j (am_at hj)) (kk p e R s m args below meth c H locs cells slots ls F h1 h2 h3 h4 hR hL hl)
theorem kr_lload {i : Nat} {x : Int64} (j : Nat) (hd : decode M.2.1 pc = .ok (.lload i, 2)) (hj : lv[j]? = some (i, .long x)) (kk : am_K g d M mc ms (pc + 2) lv (.long x :: st) σ post) : am_K g d M mc ms pc lv st σ post := by
  intro p e R s m args below meth c H locs cells slots ls F h1 h2 h3 h4 hR hL hl
  exact lv_lload F.1 F.2.1 hd (lv_at hl j (am_at hj)) (kk p e R s m args below meth c H locs cells slots ls F h1 h2 h3 h4 hR hL hl)
theorem kr_aload_n {k : Fin 4} {x : Nat} (j : Nat) (hd : decode M.2.1 pc = .ok (.aload_n k, 1)) (hj : lv[j]? = some ((k : Nat), .ref x)) (kk : am_K g d M mc ms (pc + 1) lv (.ref x :: st) σ post) : am_K g d M mc ms pc lv st σ post := by
  intro p e R s m args below meth c H locs cells slots ls F h1 h2 h3 h4 hR hL hl
  exact lv_aload_n F.1 F.2.1 hd rfl (lv_at hl j (am_at hj)) (kk p e R s m args below meth c H locs cells slots ls F h1 h2 h3 h4 hR hL hl)
theorem kr_aload {i : Nat} {x : Nat} (j : Nat) (hd : decode M.2.1 pc = .ok (.aload i, 2)) (hj : lv[j]? = some (i, .ref x)) (kk : am_K g d M mc ms (pc + 2) lv (.ref x :: st) σ post) : am_K g d M mc ms pc lv st σ post := by
  intro p e R s m args below meth c H locs cells slots ls F h1 h2 h3 h4 hR hL hl
  exact lv_aload F.1 F.2.1 hd (lv_at hl j (am_at hj)) (kk p e R s m args below meth c H locs cells slots ls F h1 h2 h3 h4 hR hL hl)
theorem kr_aXload_n {k : Fin 4} {x : Nat} (j : Nat) (hd : decode M.2.1 pc = .ok (.aload_n k, 1)) (hj : lv[j]? = some ((k : Nat), .retAddr x)) (kk : am_K g d M mc ms (pc + 1) lv (.retAddr x :: st) σ post) : am_K g d M mc ms pc lv st σ post := by
  intro p e R s m args below meth c H locs cells slots ls F h1 h2 h3 h4 hR hL hl
  exact lv_aload_n F.1 F.2.1 hd rfl (lv_at hl j (am_at hj)) (kk p e R s m args below meth c H locs cells slots ls F h1 h2 h3 h4 hR hL hl)
theorem kr_aXload {i : Nat} {x : Nat} (j : Nat) (hd : decode M.2.1 pc = .ok (.aload i, 2)) (hj : lv[j]? = some (i, .retAddr x)) (kk : am_K g d M mc ms (pc + 2) lv (.retAddr x :: st) σ post) : am_K g d M mc ms pc lv st σ post := by
  intro p e R s m args below meth c H locs cells slots ls F h1 h2 h3 h4 hR hL hl
  exact lv_aload F.1 F.2.1 hd (lv_at hl j (am_at hj)) (kk p e R s m args below meth c H locs cells slots ls F h1 h2 h3 h4 hR hL hl)
theorem kr_istore_n {k : Fin 4} {x : Int32} {lv' : List (Nat × Value)} (hd : decode M.2.1 pc = .ok (.istore_n k, 1)) (hn : (k : Nat) < M.2.2.1) (hl' : ((k : Nat), Value.int x) :: lv.filter (fun q => !(q.1 == (k : Nat)) && !(q.1 + 1 == (k : Nat) && q.2.category == 2)) = lv') (kk : am_K g d M mc ms (pc + 1) lv' st σ post) : am_K g d M mc ms pc lv (.int x :: st) σ post := by
  intro p e R s m args below meth c H locs cells slots ls F h1 h2 h3 h4 hR hL hl
  refine lv_istore_n F.1 F.2.1 hd rfl hl hn rfl (fun ls' h' => kk p e R s m args below meth c H locs cells slots ls' F h1 h2 h3 h4 hR hL ?_)
  rw [am_filt1] at h'
  rw [← hl']
  exact h'
theorem kr_istore {i : Nat} {x : Int32} {lv' : List (Nat × Value)} (hd : decode M.2.1 pc = .ok (.istore i, 2)) (hn : i < M.2.2.1) (hl' : (i, Value.int x) :: lv.filter (fun q => !(q.1 == i) && !(q.1 + 1 == i && q.2.category == 2)) = lv') (kk : am_K g d M mc ms (pc + 2) lv' st σ post) : am_K g d M mc ms pc lv (.int x :: st) σ post := by
  intro p e R s m args below meth c H locs cells slots ls F h1 h2 h3 h4 hR hL hl
  refine lv_istore F.1 F.2.1 hd hl hn rfl (fun ls' h' => kk p e R s m args below meth c H locs cells slots ls' F h1 h2 h3 h4 hR hL ?_)
  rw [am_filt1] at h'
  rw [← hl']
  exact h'
theorem kr_lstore_n {k : Fin 4} {x : Int64} {lv' : List (Nat × Value)} (hd : decode M.2.1 pc = .ok (.lstore_n k, 1)) (hn : (k : Nat) + 1 < M.2.2.1) (hl' : ((k : Nat), Value.long x) :: lv.filter (fun q => !(q.1 == (k : Nat)) && (!(q.1 == (k : Nat) + 1) && !(q.1 + 1 == (k : Nat) && q.2.category == 2))) = lv') (kk : am_K g d M mc ms (pc + 1) lv' st σ post) : am_K g d M mc ms pc lv (.long x :: st) σ post := by
  intro p e R s m args below meth c H locs cells slots ls F h1 h2 h3 h4 hR hL hl
  refine lv_lstore_n F.1 F.2.1 hd rfl hl hn rfl (fun ls' h' => kk p e R s m args below meth c H locs cells slots ls' F h1 h2 h3 h4 hR hL ?_)
  rw [am_filt2] at h'
  rw [← hl']
  exact h'
theorem kr_lstore {i : Nat} {x : Int64} {lv' : List (Nat × Value)} (hd : decode M.2.1 pc = .ok (.lstore i, 2)) (hn : i + 1 < M.2.2.1) (hl' : (i, Value.long x) :: lv.filter (fun q => !(q.1 == i) && (!(q.1 == i + 1) && !(q.1 + 1 == i && q.2.category == 2))) = lv') (kk : am_K g d M mc ms (pc + 2) lv' st σ post) : am_K g d M mc ms pc lv (.long x :: st) σ post := by
  intro p e R s m args below meth c H locs cells slots ls F h1 h2 h3 h4 hR hL hl
  refine lv_lstore F.1 F.2.1 hd hl hn rfl (fun ls' h' => kk p e R s m args below meth c H locs cells slots ls' F h1 h2 h3 h4 hR hL ?_)
  rw [am_filt2] at h'
  rw [← hl']
  exact h'
theorem kr_astore_n {k : Fin 4} {x : Nat} {lv' : List (Nat × Value)} (hd : decode M.2.1 pc = .ok (.astore_n k, 1)) (hn : (k : Nat) < M.2.2.1) (hl' : ((k : Nat), Value.ref x) :: lv.filter (fun q => !(q.1 == (k : Nat)) && !(q.1 + 1 == (k : Nat) && q.2.category == 2)) = lv') (kk : am_K g d M mc ms (pc + 1) lv' st σ post) : am_K g d M mc ms pc lv (.ref x :: st) σ post := by
  intro p e R s m args below meth c H locs cells slots ls F h1 h2 h3 h4 hR hL hl
  refine lv_astore_n F.1 F.2.1 hd rfl hl hn rfl (fun ls' h' => kk p e R s m args below meth c H locs cells slots ls' F h1 h2 h3 h4 hR hL ?_)
  rw [am_filt1] at h'
  rw [← hl']
  exact h'
theorem kr_astore {i : Nat} {x : Nat} {lv' : List (Nat × Value)} (hd : decode M.2.1 pc = .ok (.astore i, 2)) (hn : i < M.2.2.1) (hl' : (i, Value.ref x) :: lv.filter (fun q => !(q.1 == i) && !(q.1 + 1 == i && q.2.category == 2)) = lv') (kk : am_K g d M mc ms (pc + 2) lv' st σ post) : am_K g d M mc ms pc lv (.ref x :: st) σ post := by
  intro p e R s m args below meth c H locs cells slots ls F h1 h2 h3 h4 hR hL hl
  refine lv_astore F.1 F.2.1 hd hl hn rfl (fun ls' h' => kk p e R s m args below meth c H locs cells slots ls' F h1 h2 h3 h4 hR hL ?_)
  rw [am_filt1] at h'
  rw [← hl']
  exact h'
theorem kr_aXstore_n {k : Fin 4} {x : Nat} {lv' : List (Nat × Value)} (hd : decode M.2.1 pc = .ok (.astore_n k, 1)) (hn : (k : Nat) < M.2.2.1) (hl' : ((k : Nat), Value.retAddr x) :: lv.filter (fun q => !(q.1 == (k : Nat)) && !(q.1 + 1 == (k : Nat) && q.2.category == 2)) = lv') (kk : am_K g d M mc ms (pc + 1) lv' st σ post) : am_K g d M mc ms pc lv (.retAddr x :: st) σ post := by
  intro p e R s m args below meth c H locs cells slots ls F h1 h2 h3 h4 hR hL hl
  refine lv_astore_n F.1 F.2.1 hd rfl hl hn rfl (fun ls' h' => kk p e R s m args below meth c H locs cells slots ls' F h1 h2 h3 h4 hR hL ?_)
  rw [am_filt1] at h'
  rw [← hl']
  exact h'
theorem kr_aXstore {i : Nat} {x : Nat} {lv' : List (Nat × Value)} (hd : decode M.2.1 pc = .ok (.astore i, 2)) (hn : i < M.2.2.1) (hl' : (i, Value.retAddr x) :: lv.filter (fun q => !(q.1 == i) && !(q.1 + 1 == i && q.2.category == 2)) = lv') (kk : am_K g d M mc ms (pc + 2) lv' st σ post) : am_K g d M mc ms pc lv (.retAddr x :: st) σ post := by
  intro p e R s m args below meth c H locs cells slots ls F h1 h2 h3 h4 hR hL hl
  refine lv_astore F.1 F.2.1 hd hl hn rfl (fun ls' h' => kk p e R s m args below meth c H locs cells slots ls' F h1 h2 h3 h4 hR hL ?_)
  rw [am_filt1] at h'
  rw [← hl']
  exact h'
theorem kr_iinc {i : Nat} {n : Int} {x v : Int32} {lv' : List (Nat × Value)} (j : Nat) (hd : decode M.2.1 pc = .ok (.iinc i n, 3)) (hj : lv[j]? = some (i, .int x)) (hv : x + Int32.ofInt n = v) (hn : i < M.2.2.1) (hl' : (i, Value.int v) :: lv.filter (fun q => !(q.1 == i) && !(q.1 + 1 == i && q.2.category == 2)) = lv') (kk : am_K g d M mc ms (pc + 3) lv' st σ post) : am_K g d M mc ms pc lv st σ post := by
  intro p e R s m args below meth c H locs cells slots ls F h1 h2 h3 h4 hR hL hl
  refine lv_iinc F.1 F.2.1 hd hl (k := j) (am_at hj) hv hn rfl (fun ls' h' => kk p e R s m args below meth c H locs cells slots ls' F h1 h2 h3 h4 hR hL ?_)
  rw [am_filt1] at h'
  rw [← hl']
  exact h'
theorem kr_if_eq {x : Int32} {off : Int} {tgt : Nat} (hd : decode M.2.1 pc = .ok (.ifCond .eq off, 3)) (ht : (pc : Int) + off = (tgt : Int)) (kt : x = 0 → am_K g d M mc ms tgt lv st σ post) (kf : ¬ x = 0 → am_K g d M mc ms (pc + 3) lv st σ post) : am_K g d M mc ms pc lv (.int x :: st) σ post := by
  intro p e R s m args below meth c H locs cells slots ls F h1 h2 h3 h4 hR hL hl
  exact lv_if_eq F.1 F.2.1 hd ht (fun q => kt q p e R s m args below meth c H locs cells slots ls F h1 h2 h3 h4 hR hL hl) (fun q => kf q p e R s m args below meth c H locs cells slots ls F h1 h2 h3 h4 hR hL hl)
theorem kr_if_ne {x : Int32} {off : Int} {tgt : Nat} (hd : decode M.2.1 pc = .ok (.ifCond .ne off, 3)) (ht : (pc : Int) + off = (tgt : Int)) (kt : ¬ x = 0 → am_K g d M mc ms tgt lv st σ post) (kf : x = 0 → am_K g d M mc ms (pc + 3) lv st σ post) : am_K g d M mc ms pc lv (.int x :: st) σ post := by
  intro p e R s m args below meth c H locs cells slots ls F h1 h2 h3 h4 hR hL hl
  exact lv_if_ne F.1 F.2.1 hd ht (fun q => kt q p e R s m args below meth c H locs cells slots ls F h1 h2 h3 h4 hR hL hl) (fun q => kf q p e R s m args below meth c H locs cells slots ls F h1 h2 h3 h4 hR hL hl)
theorem kr_if_lt {x : Int32} {off : Int} {tgt : Nat} (hd : decode M.2.1 pc = .ok (.ifCond .lt off, 3)) (ht : (pc : Int) + off = (tgt : Int)) (kt : x < 0 → am_K g d M mc ms tgt lv st σ post) (kf : ¬ x < 0 → am_K g d M mc ms (pc + 3) lv st σ post) : am_K g d M mc ms pc lv (.int x :: st) σ post := by
  intro p e R s m args below meth c H locs cells slots ls F h1 h2 h3 h4 hR hL hl
  exact lv_if_lt F.1 F.2.1 hd ht (fun q => kt q p e R s m args below meth c H locs cells slots ls F h1 h2 h3 h4 hR hL hl) (fun q => kf q p e R s m args below meth c H locs cells slots ls F h1 h2 h3 h4 hR hL hl)
theorem kr_if_ge {x : Int32} {off : Int} {tgt : Nat} (hd : decode M.2.1 pc = .ok (.ifCond .ge off, 3)) (ht : (pc : Int) + off = (tgt : Int)) (kt : 0 ≤ x → am_K g d M mc ms tgt lv st σ post) (kf : ¬ 0 ≤ x → am_K g d M mc ms (pc + 3) lv st σ post) : am_K g d M mc ms pc lv (.int x :: st) σ post := by
  intro p e R s m args below meth c H locs cells slots ls F h1 h2 h3 h4 hR hL hl
  exact lv_if_ge F.1 F.2.1 hd ht (fun q => kt q p e R s m args below meth c H locs cells slots ls F h1 h2 h3 h4 hR hL hl) (fun q => kf q p e R s m args below meth c H locs cells slots ls F h1 h2 h3 h4 hR hL hl)
theorem kr_if_gt {x : Int32} {off : Int} {tgt : Nat} (hd : decode M.2.1 pc = .ok (.ifCond .gt off, 3)) (ht : (pc : Int) + off = (tgt : Int)) (kt : 0 < x → am_K g d M mc ms tgt lv st σ post) (kf : ¬ 0 < x → am_K g d M mc ms (pc + 3) lv st σ post) : am_K g d M mc ms pc lv (.int x :: st) σ post := by
  intro p e R s m args below meth c H locs cells slots ls F h1 h2 h3 h4 hR hL hl
  exact lv_if_gt F.1 F.2.1 hd ht (fun q => kt q p e R s m args below meth c H locs cells slots ls F h1 h2 h3 h4 hR hL hl) (fun q => kf q p e R s m args below meth c H locs cells slots ls F h1 h2 h3 h4 hR hL hl)
theorem kr_if_le {x : Int32} {off : Int} {tgt : Nat} (hd : decode M.2.1 pc = .ok (.ifCond .le off, 3)) (ht : (pc : Int) + off = (tgt : Int)) (kt : x ≤ 0 → am_K g d M mc ms tgt lv st σ post) (kf : ¬ x ≤ 0 → am_K g d M mc ms (pc + 3) lv st σ post) : am_K g d M mc ms pc lv (.int x :: st) σ post := by
  intro p e R s m args below meth c H locs cells slots ls F h1 h2 h3 h4 hR hL hl
  exact lv_if_le F.1 F.2.1 hd ht (fun q => kt q p e R s m args below meth c H locs cells slots ls F h1 h2 h3 h4 hR hL hl) (fun q => kf q p e R s m args below meth c H locs cells slots ls F h1 h2 h3 h4 hR hL hl)
theorem kr_icmp_eq {x y : Int32} {off : Int} {tgt : Nat} (hd : decode M.2.1 pc = .ok (.if_icmp .eq off, 3)) (ht : (pc : Int) + off = (tgt : Int)) (kt : x = y → am_K g d M mc ms tgt lv st σ post) (kf : ¬ x = y → am_K g d M mc ms (pc + 3) lv st σ post) : am_K g d M mc ms pc lv (.int y :: .int x :: st) σ post := by
  intro p e R s m args below meth c H locs cells slots ls F h1 h2 h3 h4 hR hL hl
  exact lv_icmp_eq F.1 F.2.1 hd ht (fun q => kt q p e R s m args below meth c H locs cells slots ls F h1 h2 h3 h4 hR hL hl) (fun q => kf q p e R s m args below meth c H locs cells slots ls F h1 h2 h3 h4 hR hL hl)
theorem kr_icmp_ne {x y : Int32} {off : Int} {tgt : Nat} (hd : decode M.2.1 pc = .ok (.if_icmp .ne off, 3)) (ht : (pc : Int) + off = (tgt : Int)) (kt : ¬ x = y → am_K g d M mc ms tgt lv st σ post) (kf : x = y → am_K g d M mc ms (pc + 3) lv st σ post) : am_K g d M mc ms pc lv (.int y :: .int x :: st) σ post := by
  intro p e R s m args below meth c H locs cells slots ls F h1 h2 h3 h4 hR hL hl
  exact lv_icmp_ne F.1 F.2.1 hd ht (fun q => kt q p e R s m args below meth c H locs cells slots ls F h1 h2 h3 h4 hR hL hl) (fun q => kf q p e R s m args below meth c H locs cells slots ls F h1 h2 h3 h4 hR hL hl)
theorem kr_icmp_lt {x y : Int32} {off : Int} {tgt : Nat} (hd : decode M.2.1 pc = .ok (.if_icmp .lt off, 3)) (ht : (pc : Int) + off = (tgt : Int)) (kt : x < y → am_K g d M mc ms tgt lv st σ post) (kf : ¬ x < y → am_K g d M mc ms (pc + 3) lv st σ post) : am_K g d M mc ms pc lv (.int y :: .int x :: st) σ post := by
  intro p e R s m args below meth c H locs cells slots ls F h1 h2 h3 h4 hR hL hl
  exact lv_icmp_lt F.1 F.2.1 hd ht (fun q => kt q p e R s m args below meth c H locs cells slots ls F h1 h2 h3 h4 hR hL hl) (fun q => kf q p e R s m args below meth c H locs cells slots ls F h1 h2 h3 h4 hR hL hl)
theorem kr_icmp_ge {x y : Int32} {off : Int} {tgt : Nat} (hd : decode M.2.1 pc = .ok (.if_icmp .ge off, 3)) (ht : (pc : Int) + off = (tgt : Int)) (kt : y ≤ x → am_K g d M mc ms tgt lv st σ post) (kf : ¬ y ≤ x → am_K g d M mc ms (pc + 3) lv st σ post) : am_K g d M mc ms pc lv (.int y :: .int x :: st) σ post := by
  intro p e R s m args below meth c H locs cells slots ls F h1 h2 h3 h4 hR hL hl
  exact lv_icmp_ge F.1 F.2.1 hd ht (fun q => kt q p e R s m args below meth c H locs cells slots ls F h1 h2 h3 h4 hR hL hl) (fun q => kf q p e R s m args below meth c H locs cells slots ls F h1 h2 h3 h4 hR hL hl)
theorem kr_icmp_gt {x y : Int32} {off : Int} {tgt : Nat} (hd : decode M.2.1 pc = .ok (.if_icmp .gt off, 3)) (ht : (pc : Int) + off = (tgt : Int)) (kt : y < x → am_K g d M mc ms tgt lv st σ post) (kf : ¬ y < x → am_K g d M mc ms (pc + 3) lv st σ post) : am_K g d M mc ms pc lv (.int y :: .int x :: st) σ post := by
  intro p e R s m args below meth c H locs cells slots ls F h1 h2 h3 h4 hR hL hl
  exact lv_icmp_gt F.1 F.2.1 hd ht (fun q => kt q p e R s m args below meth c H locs cells slots ls F h1 h2 h3 h4 hR hL hl) (fun q => kf q p e R s m args below meth c H locs cells slots ls F h1 h2 h3 h4 hR hL hl)
theorem kr_icmp_le {x y : Int32} {off : Int} {tgt : Nat} (hd : decode M.2.1 pc = .ok (.if_icmp .le off, 3)) (ht : (pc : Int) + off = (tgt : Int)) (kt : x ≤ y → am_K g d M mc ms tgt lv st σ post) (kf : ¬ x ≤ y → am_K g d M mc ms (pc + 3) lv st σ post) : am_K g d M mc ms pc lv (.int y :: .int x :: st) σ post := by
  intro p e R s m args below meth c H locs cells slots ls F h1 h2 h3 h4 hR hL hl
  exact lv_icmp_le F.1 F.2.1 hd ht (fun q => kt q p e R s m args below meth c H locs cells slots ls F h1 h2 h3 h4 hR hL hl) (fun q => kf q p e R s m args below meth c H locs cells slots ls F h1 h2 h3 h4 hR hL hl)
theorem kr_goto {off : Int} {tgt : Nat} (hd : decode M.2.1 pc = .ok (.goto off, 3)) (ht : (pc : Int) + off = (tgt : Int)) (k : am_K g d M mc ms tgt lv st σ post) : am_K g d M mc ms pc lv st σ post := by
  intro p e R s m args below meth c H locs cells slots ls F h1 h2 h3 h4 hR hL hl
  exact lv_goto F.1 F.2.1 hd ht (k p e R s m args below meth c H locs cells slots ls F h1 h2 h3 h4 hR hL hl)
theorem kr_tableOut {dflt lo hi : Int} {offs : Array Int} {len : Nat} {x : Int32} {tgt : Nat} (hd : decode M.2.1 pc = .ok (.tableswitch dflt lo hi offs, len)) (h : x.toInt < lo ∨ hi < x.toInt) (ht : (pc : Int) + dflt = (tgt : Int)) (k : am_K g d M mc ms tgt lv st σ post) : am_K g d M mc ms pc lv (.int x :: st) σ post := by
  intro p e R s m args below meth c H locs cells slots ls F h1 h2 h3 h4 hR hL hl
  exact lv_tableOut F.1 F.2.1 hd h ht (k p e R s m args below meth c H locs cells slots ls F h1 h2 h3 h4 hR hL hl)
theorem kr_tableIn {dflt lo hi : Int} {offs : Array Int} {len : Nat} {x : Int32} {off : Int} {tgt : Nat} (hd : decode M.2.1 pc = .ok (.tableswitch dflt lo hi offs, len)) (h0 : ¬ x.toInt < lo) (h9 : ¬ hi < x.toInt) (ho : offs[(x.toInt - lo).toNat]? = some off) (ht : (pc : Int) + off = (tgt : Int)) (k : am_K g d M mc ms tgt lv st σ post) : am_K g d M mc ms pc lv (.int x :: st) σ post := by
  intro p e R s m args below meth c H locs cells slots ls F h1 h2 h3 h4 hR hL hl
  exact lv_tableIn F.1 F.2.1 hd h0 h9 ho ht (k p e R s m args below meth c H locs cells slots ls F h1 h2 h3 h4 hR hL hl)
theorem kr_lookup {dflt : Int} {ps : Array (Int × Int)} {len : Nat} {x : Int32} {off : Int} {tgt : Nat} (hd : decode M.2.1 pc = .ok (.lookupswitch dflt ps, len)) (hp : (ps.toList.zip (ps.toList.drop 1)).all (fun (a, next) => a.1 < next.1) = true) (ho : Op.lookupswitch.offset ps.toList dflt x.toInt = off) (ht : (pc : Int) + off = (tgt : Int)) (k : am_K g d M mc ms tgt lv st σ post) : am_K g d M mc ms pc lv (.int x :: st) σ post := by
  intro p e R s m args below meth c H locs cells slots ls F h1 h2 h3 h4 hR hL hl
  exact lv_lookup F.1 F.2.1 hd hp ho ht (k p e R s m args below meth c H locs cells slots ls F h1 h2 h3 h4 hR hL hl)
theorem kr_ifnonnull {x : Nat} {off : Int} {tgt : Nat} (hd : decode M.2.1 pc = .ok (.ifnonnull off, 3)) (ht : (pc : Int) + off = (tgt : Int)) (k : am_K g d M mc ms tgt lv st σ post) : am_K g d M mc ms pc lv (.ref x :: st) σ post := by
  intro p e R s m args below meth c H locs cells slots ls F h1 h2 h3 h4 hR hL hl
  exact lv_ifnonnull F.1 F.2.1 hd ht (k p e R s m args below meth c H locs cells slots ls F h1 h2 h3 h4 hR hL hl)
theorem kr_ldc (G : am_G g) {i : Nat} {v : Int32} (hd : decode M.2.1 pc = .ok (.ldc i, 2)) (hw : Cond.constant M.1.cls i v ∈ lw_tbl) (k : am_K g d M mc ms (pc + 2) lv (.int v :: st) σ post) : am_K g d M mc ms pc lv st σ post := by
  intro p e R s m args below meth c H locs cells slots ls F h1 h2 h3 h4 hR hL hl
  exact lv_ldc F.1 F.2.1 F.2.2.2.2.2.1 (am_w G F.2.2.2.2.2.2.1 args hw rfl) hd (k p e R s m args below meth c H locs cells slots ls F h1 h2 h3 h4 hR hL hl)
theorem kr_ldcw (G : am_G g) {i : Nat} {v : Int32} (hd : decode M.2.1 pc = .ok (.ldc_w i, 3)) (hw : Cond.constant M.1.cls i v ∈ lw_tbl) (k : am_K g d M mc ms (pc + 3) lv (.int v :: st) σ post) : am_K g d M mc ms pc lv st σ post := by
  intro p e R s m args below meth c H locs cells slots ls F h1 h2 h3 h4 hR hL hl
  exact lv_ldcw F.1 F.2.1 F.2.2.2.2.2.1 (am_w G F.2.2.2.2.2.2.1 args hw rfl) hd (k p e R s m args below meth c H locs cells slots ls F h1 h2 h3 h4 hR hL hl)
theorem kr_ldc2 (G : am_G g) {i : Nat} {v : Int64} (hd : decode M.2.1 pc = .ok (.ldc2_w i, 3)) (hw : Cond.constantLong M.1.cls i v ∈ lw_tbl) (k : am_K g d M mc ms (pc + 3) lv (.long v :: st) σ post) : am_K g d M mc ms pc lv st σ post := by
  intro p e R s m args below meth c H locs cells slots ls F h1 h2 h3 h4 hR hL hl
  exact lv_ldc2 F.1 F.2.1 F.2.2.2.2.2.1 (am_w G F.2.2.2.2.2.2.1 args hw rfl) hd (k p e R s m args below meth c H locs cells slots ls F h1 h2 h3 h4 hR hL hl)
theorem kr_ireturn {x : Int32} (hd : decode M.2.1 pc = .ok (.ireturn, 1)) {ty : FieldType} (hr : M.2.2.2.1 = some ty) (hn : narrow ty (.int x) = .int x) (h : post (some (some (.int x))) σ) : am_K g d M mc ms pc lv [.int x] σ post := by
  intro p e R s m args below meth c H locs cells slots ls F h1 h2 h3 h4 hR hL hl
  have hlk := F.2.2.2.2.1
  refine W.widen (Nat.le_add_right cells mc) (Nat.le_add_right slots ms) (vx_ret ?_)
  exact W.zret F.1 F.2.1 (F.2.2.2.1.trans hr) hn (fun t ht _ => ⟨some (.int x), σ, rfl, h, by rw [ht]; exact hR⟩) hL hd hlk
theorem kr_return (hd : decode M.2.1 pc = .ok (.return_, 1)) (hr : M.2.2.2.1 = none) (h : post (some (none)) σ) : am_K g d M mc ms pc lv [] σ post := by
  intro p e R s m args below meth c H locs cells slots ls F h1 h2 h3 h4 hR hL hl
  have hlk := F.2.2.2.2.1
  refine W.widen (Nat.le_add_right cells mc) (Nat.le_add_right slots ms) (vx_ret ?_)
  exact W.vret F.1 F.2.1 (F.2.2.2.1.trans hr) (fun t ht _ => ⟨none, σ, rfl, h, by rw [ht]; exact hR⟩) hL hd hlk
theorem kr_areturn {x : Nat} (hd : decode M.2.1 pc = .ok (.areturn, 1)) {C : String} (hr : M.2.2.2.1 = some (.object C)) (h : post (some (some (.ref x))) σ) : am_K g d M mc ms pc lv [.ref x] σ post := by
  intro p e R s m args below meth c H locs cells slots ls F h1 h2 h3 h4 hR hL hl
  have hlk := F.2.2.2.2.1
  refine W.widen (Nat.le_add_right cells mc) (Nat.le_add_right slots ms) (vx_ret ?_)
  exact W.aret F.1 F.2.1 (F.2.2.2.1.trans hr) (Or.inl ⟨_, rfl⟩) (Or.inr ⟨_, rfl⟩) (fun t ht _ => ⟨some (.ref x), σ, rfl, h, by rw [ht]; exact hR⟩) hL hd hlk
end KR
end
section
/-! rows that read and write the memory -/
def am_up {α : Type} (f : Nat → Nat → α) (o k : Nat) (v : α) : Nat → Nat → α := fun a b => if a = o ∧ b = k then v else f a b
theorem am_up_s {α : Type} (f : Nat → Nat → α) (o k : Nat) (v : α) : am_up f o k v o k = v := by simp [am_up]
theorem am_up_n {α : Type} (f : Nat → Nat → α) {o k : Nat} (v : α) {a b : Nat} (h : ¬ (a = o ∧ b = k)) : am_up f o k v a b = f a b := by simp [am_up, h]
theorem am_up_o {α : Type} (f : Nat → Nat → α) {o k : Nat} (v : α) {a b : Nat} (h : a ≠ o) : am_up f o k v a b = f a b := by simp [am_up, h]
abbrev am_tys (g : am_C) : List (ClassId × FieldType) := [(g.2.2.2.2.1 .int, .int), (g.2.2.2.2.1 .byte, .byte), (g.2.2.2.2.1 .long, .long), (g.2.2.2.2.1 .boolean, .boolean), (g.2.2.2.2.1 (.object "WindowSale$Scene"), .object "WindowSale$Scene")]
theorem am_P1 {D : va_G} {cl : List vw_C} {q : Nat × va_E} {H : Heap} (h : va_at D cl q H) : va_P D cl [q] H := by
  intro k x hx
  have hz : k < 1 := (List.getElem?_eq_some_iff.mp hx).1
  rw [show k = 0 by omega] at hx
  cases hx
  exact h
theorem am_lay0 : (∀ w ∈ wsX00, w ∈ lw_tbl) ∧ ∀ k, k < 3 → am_kd (tyX0 k) < 3 := ⟨by decide +kernel, by decide +kernel⟩
theorem am_lay1 : (∀ w ∈ wsX10, w ∈ lw_tbl) ∧ ∀ k, k < 4 → am_kd (tyX1 k) < 3 := ⟨by decide +kernel, by decide +kernel⟩
theorem am_lay2 : (∀ w ∈ wsX20, w ∈ lw_tbl) ∧ ∀ k, k < 8 → am_kd (tyX2 k) < 3 := ⟨by decide +kernel, by decide +kernel⟩
theorem am_lay3 : (∀ w ∈ wsX30, w ∈ lw_tbl) ∧ ∀ k, k < 3 → am_kd (tyX3 k) < 3 := ⟨by decide +kernel, by decide +kernel⟩
theorem am_lay4 : (∀ w ∈ wsX40, w ∈ lw_tbl) ∧ ∀ k, k < 20 → am_kd (tyX4 k) < 3 := ⟨by decide +kernel, by decide +kernel⟩
theorem am_lay5 : (∀ w ∈ wsX50, w ∈ lw_tbl) ∧ ∀ k, k < 6 → am_kd (tyX5 k) < 3 := ⟨by decide +kernel, by decide +kernel⟩
theorem am_lay6 : (∀ w ∈ wsX60, w ∈ lw_tbl) ∧ ∀ k, k < 9 → am_kd (tyX6 k) < 3 := ⟨by decide +kernel, by decide +kernel⟩
theorem am_lay7 : (∀ w ∈ wsX70, w ∈ lw_tbl) ∧ ∀ k, k < 11 → am_kd (tyX7 k) < 3 := ⟨by decide +kernel, by decide +kernel⟩
theorem am_lay8 : (∀ w ∈ wsX80, w ∈ lw_tbl) ∧ ∀ k, k < 4 → am_kd (tyX8 k) < 3 := ⟨by decide +kernel, by decide +kernel⟩
theorem am_lay9 : (∀ w ∈ wsX90, w ∈ lw_tbl) ∧ ∀ k, k < 11 → am_kd (tyX9 k) < 3 := ⟨by decide +kernel, by decide +kernel⟩
theorem am_lay10 : (∀ w ∈ wsX100, w ∈ lw_tbl) ∧ ∀ k, k < 2 → am_kd (tyX10 k) < 3 := ⟨by decide +kernel, by decide +kernel⟩
theorem am_lay11 : (∀ w ∈ wsX110, w ∈ lw_tbl) ∧ ∀ k, k < 17 → am_kd (tyX11 k) < 3 := ⟨by decide +kernel, by decide +kernel⟩
theorem am_lay12 : (∀ w ∈ wsX120, w ∈ lw_tbl) ∧ ∀ k, k < 47 → am_kd (tyX12 k) < 3 := ⟨by decide +kernel, by decide +kernel⟩
theorem am_goodlay {C : String} {T : u_T} {N : Nat} (h : ∀ w ∈ u_ws C T N, w ∈ lw_tbl) : ∀ w ∈ u_ws C T N, w ∈ am_T := by
  intro w hw
  refine List.mem_filter.mpr ⟨h w hw, ?_⟩
  obtain ⟨k, -, rfl⟩ := List.mem_map.mp hw
  unfold u_lay
  split <;> rfl
/-- the classes' tables -/
theorem am_lay {ci : Nat} {C : String} {T : u_T} {N : Nat} (h : vwCl[ci]? = some (C, T, N)) : (∀ w ∈ u_ws C T N, w ∈ am_T) ∧ (∀ k, k < N → parseFieldDescriptor (T k).2.2.1 = some (am_ty ci k)) ∧ (∀ a, a < N → ∀ b, b < N → a ≠ b → (T a).2.1 ≠ (T b).2.1) ∧ ∀ k, k < N → am_kd (am_ty ci k) < 3 := by
  match ci, h with
  | 0, h => cases h; exact ⟨am_goodlay am_lay0.1, tyX0_ok, nmX0, am_lay0.2⟩
  | 1, h => cases h; exact ⟨am_goodlay am_lay1.1, tyX1_ok, nmX1, am_lay1.2⟩
  | 2, h => cases h; exact ⟨am_goodlay am_lay2.1, tyX2_ok, nmX2, am_lay2.2⟩
  | 3, h => cases h; exact ⟨am_goodlay am_lay3.1, tyX3_ok, nmX3, am_lay3.2⟩
  | 4, h => cases h; exact ⟨am_goodlay am_lay4.1, tyX4_ok, nmX4, am_lay4.2⟩
  | 5, h => cases h; exact ⟨am_goodlay am_lay5.1, tyX5_ok, nmX5, am_lay5.2⟩
  | 6, h => cases h; exact ⟨am_goodlay am_lay6.1, tyX6_ok, nmX6, am_lay6.2⟩
  | 7, h => cases h; exact ⟨am_goodlay am_lay7.1, tyX7_ok, nmX7, am_lay7.2⟩
  | 8, h => cases h; exact ⟨am_goodlay am_lay8.1, tyX8_ok, nmX8, am_lay8.2⟩
  | 9, h => cases h; exact ⟨am_goodlay am_lay9.1, tyX9_ok, nmX9, am_lay9.2⟩
  | 10, h => cases h; exact ⟨am_goodlay am_lay10.1, tyX10_ok, nmX10, am_lay10.2⟩
  | 11, h => cases h; exact ⟨am_goodlay am_lay11.1, tyX11_ok, nmX11, am_lay11.2⟩
  | 12, h => cases h; exact ⟨am_goodlay am_lay12.1, tyX12_ok, nmX12, am_lay12.2⟩
  | n + 13, h => simp at h
theorem am_obj {g : am_C} {σ : am_S} {H : Heap} (hR : am_Rep g σ H) {o ci : Nat} (ho : σ.1[o]? = some (.inl ci)) {C : String} {T : u_T} {N : Nat} (hc : vwCl[ci]? = some (C, T, N)) : va_at g.2.2.2.1 vwCl (am_b0 g + o, .inr (ci, am_of g σ o ci N)) H := by
  refine hR.2.1 o _ _ ho ?_
  simp [am_ce, hc]
theorem am_of_at (g : am_C) (σ : am_S) (o ci N k : Nat) (hk : k < N) : (am_of g σ o ci N)[k]? = some (am_rel g (am_fa σ o (am_ty ci k) k)) := by
  simp [am_of, hk]
/-- the words of a field's entry -/
def am_FL (own : String) (idx ci k : Nat) : Prop := ∃ (C : String) (T : u_T) (N : Nat), vwCl[ci]? = some (C, T, N) ∧ k < N ∧ (T k).1 = C ∧ (Cond.fieldLink own idx C (T k).2.1 (T k).2.2.1 ∈ lw_tbl ∨ ∃ host, Cond.fieldLinkNest own idx C (T k).2.1 (T k).2.2.1 host ∈ lw_tbl)
theorem am_nest {g : am_C} (G : am_G g) {s : State} (hW : g.2.1.WarmedH s.vm) {own r n d h : String} {i : Nat} (hw : Cond.fieldLinkNest own i r n d h ∈ lw_tbl) (args : Array Value) : (Cond.fieldLinkNest own i r n d h).before args s = true :=
  va_Nw.use rfl (va_Nw.warmF hW (va_Nw.of rfl (G.1 _ hw)))
section KM
variable {g : am_C} {d : Nat} {M : am_M} {mc ms pc : Nat} {lv : List (Nat × Value)} {st : List Value} {σ : am_S} {post : Option (Option Value) → am_S → Prop}
theorem kr_getf (G : am_G g) {idx ci k o : Nat} {v : Value} (hf : am_FL M.1.cls idx ci k) (hd : decode M.2.1 pc = .ok (.getfield idx, 3)) (ho : σ.1[o]? = some (.inl ci)) (hv : am_fa σ o (am_ty ci k) k = v) (kk : am_K g d M mc ms (pc + 3) lv (v :: st) σ post) : am_K g d M mc ms pc lv (.ref o :: st) σ post := by
  intro p e R s m args below meth c H locs cells slots ls F h1 h2 h3 h4 hR hL hl
  obtain ⟨C, T, N, hc, hk, hC, hlk⟩ := hf
  have hv' := am_of_at g σ o ci N k hk
  rw [hv] at hv'
  have hw := kk p e R s m args below meth c H locs cells slots ls F h1 h2 h3 h4 hR hL hl
  have hP := am_P1 (am_obj hR ho hc)
  have hts := am_hts G F.2.2.2.2.2.2.1 args
  rcases hlk with hlk | ⟨host, hlk⟩
  · exact va_get F.1 F.2.1 hts (am_lay hc).1 F.2.2.2.2.2.1 (am_hK G F.2.2.2.2.2.2.1) hP 0 rfl hc k hk (am_w G F.2.2.2.2.2.2.1 args hlk rfl) (fun x hx => by rw [← hC]; exact hx) hv' hd hw
  · exact va_getN F.1 F.2.1 hts (am_lay hc).1 F.2.2.2.2.2.1 (am_hK G F.2.2.2.2.2.2.1) hP 0 rfl hc k hk (am_nest G F.2.2.2.2.2.2.1 hlk args) (fun x hx => by rw [← hC]; exact hx) hv' hd hw
end KM
/-- one place of the memory is written -/
def am_wr (σ σ' : am_S) (o k : Nat) : Prop := σ'.1 = σ.1 ∧ ∀ i j : Nat, ¬ (i = o ∧ j = k) → σ'.2.1 i j = σ.2.1 i j ∧ σ'.2.2.1 i j = σ.2.2.1 i j ∧ σ'.2.2.2 i j = σ.2.2.2 i j
theorem am_wrI (σ : am_S) (o k : Nat) (x : Int32) : am_wr σ (σ.1, am_up σ.2.1 o k x, σ.2.2.1, σ.2.2.2) o k := ⟨rfl, fun i j h => ⟨am_up_n _ _ h, rfl, rfl⟩⟩
theorem am_wrJ (σ : am_S) (o k : Nat) (x : Int64) : am_wr σ (σ.1, σ.2.1, am_up σ.2.2.1 o k x, σ.2.2.2) o k := ⟨rfl, fun i j h => ⟨rfl, am_up_n _ _ h, rfl⟩⟩
theorem am_wrR (σ : am_S) (o k : Nat) (x : Value) : am_wr σ (σ.1, σ.2.1, σ.2.2.1, am_up σ.2.2.2 o k x) o k := ⟨rfl, fun i j h => ⟨rfl, rfl, am_up_n _ _ h⟩⟩
theorem am_wr_fa {σ σ' : am_S} {o k : Nat} (h : am_wr σ σ' o k) {i j : Nat} (hn : ¬ (i = o ∧ j = k)) (ty : FieldType) : am_fa σ' i ty j = am_fa σ i ty j := by
  obtain ⟨a, b, c⟩ := h.2 i j hn
  unfold am_fa
  rw [a, b, c]
theorem am_wr_ce {g : am_C} {σ σ' : am_S} {o k : Nat} (h : am_wr σ σ' o k) {i : Nat} (hn : i ≠ o) (x : am_sh) : am_ce g σ' i x = am_ce g σ i x := by
  have h1 : σ'.2.1 i = σ.2.1 i := funext fun j => (h.2 i j (fun q => hn q.1)).1
  have h2 : σ'.2.2.1 i = σ.2.2.1 i := funext fun j => (h.2 i j (fun q => hn q.1)).2.1
  have h3 : σ'.2.2.2 i = σ.2.2.2 i := funext fun j => (h.2 i j (fun q => hn q.1)).2.2
  cases x with
  | inl ci => simp only [am_ce, am_of, am_fa, h1, h2, h3]
  | inr q => obtain ⟨ty, n⟩ := q; simp only [am_ce, am_ar, h1, h2, h3]
/-- behind a write into cell o -/
theorem am_Rep_wr {g : am_C} {σ σ' : am_S} {H H' : Heap} {o k : Nat} (hR : am_Rep g σ H) (hw : am_wr σ σ' o k) {x : am_sh} (ho : σ.1[o]? = some x) (z : H'.size = H.size) (oq : ∀ q : Nat, q ≠ am_b0 g + o → H'[q]? = H[q]?) (he : ∀ e, am_ce g σ' o x = some e → va_at g.2.2.2.1 vwCl (am_b0 g + o, e) H') : am_Rep g σ' H' := by
  obtain ⟨r1, r2, r3, r4⟩ := hR
  have hol : o < σ.1.length := (List.getElem?_eq_some_iff.mp ho).1
  refine ⟨by rw [z, r1, hw.1], fun i y e hi hy => ?_, fun q hq => ?_, fun i j hi => ?_⟩
  · rw [hw.1] at hi
    by_cases h : i = o
    · subst h
      cases Option.some.inj (hi.symm.trans ho)
      exact he e hy
    · rw [am_wr_ce hw h] at hy
      exact (r2 i y e hi hy).kept (oq _ (fun q => h (by have q' : am_b0 g + i = am_b0 g + o := q; omega)))
  · rw [oq q (by omega)]
    exact r3 q hq
  · rw [hw.1] at hi
    obtain ⟨a, b, c⟩ := hw.2 i j (fun q => by omega)
    rw [a, b, c]
    exact r4 i j hi
/-- the words of an entry that is written -/
def am_FP (own name : String) (idx ci k : Nat) : Prop := ∃ (C : String) (T : u_T) (N : Nat), vwCl[ci]? = some (C, T, N) ∧ k < N ∧ (T k).1 = C ∧ (((T k).2.2.2 = false ∧ (Cond.fieldLink own idx C (T k).2.1 (T k).2.2.1 ∈ lw_tbl ∨ ∃ host, Cond.fieldLinkNest own idx C (T k).2.1 (T k).2.2.1 host ∈ lw_tbl)) ∨ ((T k).2.2.2 = true ∧ Cond.fieldLink own idx C (T k).2.1 (T k).2.2.1 ∈ lw_tbl ∧ own = C ∧ name = "<init>"))
theorem am_of_set {g : am_C} {σ σ' : am_S} {o k ci N : Nat} (hw : am_wr σ σ' o k) (hk : k < N) : am_of g σ' o ci N = (am_of g σ o ci N).set k (am_rel g (am_fa σ' o (am_ty ci k) k)) := by
  apply List.ext_getElem?
  intro j
  by_cases hj : j < N
  · by_cases h : j = k
    · subst h
      rw [List.getElem?_set_self (by simp [am_of, hj]), am_of_at g σ' o ci N j hj]
    · rw [List.getElem?_set_ne (Ne.symm h), am_of_at g σ' o ci N j hj, am_of_at g σ o ci N j hj, am_wr_fa hw (fun q => h q.2)]
  · rw [List.getElem?_eq_none (by simp [am_of]; omega), List.getElem?_eq_none (by simp [am_of]; omega)]
section KP
variable {g : am_C} {d : Nat} {M : am_M} {mc ms pc : Nat} {lv : List (Nat × Value)} {st : List Value} {σ σ' : am_S} {post : Option (Option Value) → am_S → Prop}
theorem kr_put (G : am_G g) {idx ci k o : Nat} {v : Value} (hf : am_FP M.1.cls M.1.name idx ci k) (hd : decode M.2.1 pc = .ok (.putfield idx, 3)) (ho : σ.1[o]? = some (.inl ci)) (hn : narrow (am_ty ci k) (am_rel g v) = am_rel g v) (hfit : fits (am_ty ci k) (am_rel g v) = true) (hw : am_wr σ σ' o k) (hv : am_fa σ' o (am_ty ci k) k = v) (kk : am_K g d M mc ms (pc + 3) lv st σ' post) : am_K g d M mc ms pc lv (v :: .ref o :: st) σ post := by
  intro p e R s m args below meth c H locs cells slots ls F h1 h2 h3 h4 hR hL hl
  obtain ⟨C, T, N, hc, hk, hC, hlk⟩ := hf
  have hts := am_hts G F.2.2.2.2.2.2.1 args
  obtain ⟨hin, hty, hnm, -⟩ := am_lay hc
  have hK := am_hK G F.2.2.2.2.2.2.1
  have hown := F.2.2.2.2.2.1
  have hap := va_apart (own := M.1.cls) hts hin (am_ty ci) hty hnm hK hc
  obtain ⟨r, hr1, cell, q1, q2, q3, q4⟩ := am_obj hR ho hc
  have hr : r = (C, T, N) := Option.some.inj (hr1.symm.trans hc)
  subst hr
  obtain ⟨hS, hfc, kC, hkC, hkind⟩ := hK.1 ci _ hc
  obtain ⟨cf, kf, fi, f, hi, hsl⟩ := hS k hk
  have hi' : s.fieldFound? C (T k).2.1 (T k).2.2.1 = some (cf, kf, fi, f) := by rw [← hC]; exact hi
  have hst := (u_facts hfc hkC (u_lays hts hin hk) hi).1
  have hlen : k < (am_of g σ o ci N).length := by simp [am_of, hk]
  have go : ∀ H' : Heap, H'[am_b0 g + o]? = some (cell.setSlot f.slot (am_rel g v)) → H'.size = H.size → (∀ q, q ≠ am_b0 g + o → H'[q]? = H[q]?) → W p g.1 e R s m args below meth c H' (locs ++ [⟨am_b0 g + o, f.slot⟩]) cells slots (vx_MQ below (am_Qc g post) (am_Xc g post) args s (cells + mc) (slots + ms) (fun q => am_b0 g ≤ q)) (F0 m (pc + 3) ls (st.map (am_rel g))) := by
    intro H' e1 e2 e3
    rw [hsl] at e1
    refine kk p e R s m args below meth c H' _ cells slots ls F h1 h2 h3 h4 (am_Rep_wr hR hw ho e2 e3 ?_) ?_ hl
    · intro x hx
      have hx' : x = .inr (ci, am_of g σ' o ci N) := by
        simp [am_ce, hc] at hx
        exact hx.symm
      subst hx'
      rw [am_of_set hw hk, hv]
      exact ⟨_, hc, t_OB.to (V := updV (vp_V (am_of g σ o ci N)) k (am_rel g v)) ⟨_, e1, q2, q3, t_set q4 hap hk (am_rel g v)⟩ (fun j _ => vp_updV_set hlen (am_rel g v) j)⟩
    · intro q hq
      rcases List.mem_append.mp hq with h | h
      · exact hL q h
      · rw [List.mem_singleton.mp h]
        exact Nat.le_add_right _ _
  rcases hlk with ⟨hnf, hlk⟩ | ⟨hfin, hlk, hoC, hnm1⟩
  · have hlay := hts _ (hin _ (u_in_lay hk))
    unfold u_lay at hlay
    rw [if_neg (by rw [hnf]; decide)] at hlay
    have h6 := u_store hfc hkC hkind hlay hi (hty k hk) hn hfit
    rcases hlk with hlk | ⟨host, hlk⟩
    · exact W.putK F.1 F.2.1 (f := f) ⟨hown, am_w G F.2.2.2.2.2.2.1 args hlk rfl, ⟨_, _, _, hi'⟩, hst⟩ (by rw [q2]; exact h6) q1 q3 (by rw [hsl]; exact k2_hasslot (q4 k hk)) rfl rfl hd go
    · exact va_WputK F.1 F.2.1 (f := f) hown (am_nest G F.2.2.2.2.2.2.1 hlk args) hi' hst (by rw [q2]; exact h6) q1 q3 (by rw [hsl]; exact k2_hasslot (q4 k hk)) rfl rfl hd go
  · have hlay := hts _ (hin _ (u_in_lay hk))
    unfold u_lay at hlay
    rw [if_pos hfin] at hlay
    have hcf : m.cls = cf := by
      obtain ⟨_, _, c', _, _, _, -, -, hf', -, -, -, hown2, -⟩ := Cond.laysFinal_spec hlay
      have e1 : c' = cf := by have := hi.symm.trans hf'; simp at this; exact this.1.symm
      rw [hC, ← hoC] at hown2
      rw [← e1]; exact Option.some.inj (hown.symm.trans hown2)
    have h6 := u_fits hfc hkC hkind (Or.inr hlay) hi (hty k hk) hn hfit
    exact W.putFinK F.1 F.2.1 hown (am_w G F.2.2.2.2.2.2.1 args hlk rfl) hi' hst hcf ((F.2.2.2.2.2.2.2.1 hnm1).trans hnm1) (by rw [q2]; exact h6) q1 q3 (by rw [hsl]; exact k2_hasslot (q4 k hk)) rfl rfl hd go
theorem kr_putI (G : am_G g) {idx ci k o : Nat} {x : Int32} (hf : am_FP M.1.cls M.1.name idx ci k) (hd : decode M.2.1 pc = .ok (.putfield idx, 3)) (ho : σ.1[o]? = some (.inl ci)) (hn : narrow (am_ty ci k) (.int x) = .int x) (hfit : fits (am_ty ci k) (.int x) = true) (hk : am_kd (am_ty ci k) = 0) (kk : am_K g d M mc ms (pc + 3) lv st (σ.1, am_up σ.2.1 o k x, σ.2.2.1, σ.2.2.2) post) : am_K g d M mc ms pc lv (.int x :: .ref o :: st) σ post :=
  kr_put G hf hd ho hn hfit (am_wrI σ o k x) (by unfold am_fa; rw [hk]; show Value.int (am_up σ.2.1 o k x o k) = _; rw [am_up_s]) kk
theorem kr_putJ (G : am_G g) {idx ci k o : Nat} {x : Int64} (hf : am_FP M.1.cls M.1.name idx ci k) (hd : decode M.2.1 pc = .ok (.putfield idx, 3)) (ho : σ.1[o]? = some (.inl ci)) (hn : narrow (am_ty ci k) (.long x) = .long x) (hfit : fits (am_ty ci k) (.long x) = true) (hk : am_kd (am_ty ci k) = 1) (kk : am_K g d M mc ms (pc + 3) lv st (σ.1, σ.2.1, am_up σ.2.2.1 o k x, σ.2.2.2) post) : am_K g d M mc ms pc lv (.long x :: .ref o :: st) σ post :=
  kr_put G hf hd ho hn hfit (am_wrJ σ o k x) (by unfold am_fa; rw [hk]; show Value.long (am_up σ.2.2.1 o k x o k) = _; rw [am_up_s]) kk
theorem kr_putR (G : am_G g) {idx ci k o : Nat} {x : Nat} (hf : am_FP M.1.cls M.1.name idx ci k) (hd : decode M.2.1 pc = .ok (.putfield idx, 3)) (ho : σ.1[o]? = some (.inl ci)) (hk : am_kd (am_ty ci k) = 2) (kk : am_K g d M mc ms (pc + 3) lv st (σ.1, σ.2.1, σ.2.2.1, am_up σ.2.2.2 o k (.ref x)) post) : am_K g d M mc ms pc lv (.ref x :: .ref o :: st) σ post :=
  kr_put G hf hd ho (by cases h : am_ty ci k <;> first | rfl | (rw [h] at hk; cases hk)) (by cases h : am_ty ci k <;> first | rfl | (rw [h] at hk; cases hk)) (am_wrR σ o k (.ref x)) (by unfold am_fa; rw [hk]; show am_up σ.2.2.2 o k (.ref x) o k = _; rw [am_up_s]) kk
end KP
end
section
/-! rows of arrays, new cells, statics, texts -/
theorem am_Rep_push {g : am_C} {σ : am_S} {H H1 : Heap} {x : am_sh} (hR : am_Rep g σ H) (z : H1.size = H.size + 1) (oq : ∀ q : Nat, q < H.size → H1[q]? = H[q]?) (he : ∀ e, am_ce g σ σ.1.length x = some e → va_at g.2.2.2.1 vwCl (H.size, e) H1) : am_Rep g (σ.1 ++ [x], σ.2) H1 := by
  obtain ⟨r1, r2, r3, r4⟩ := hR
  refine ⟨by rw [z, r1]; simp; omega, fun i y e hi hy => ?_, fun q hq => ?_, fun i j hi => ?_⟩
  · have hy' : am_ce g σ i y = some e := hy
    by_cases h : i < σ.1.length
    · have hi' : σ.1[i]? = some y := by rw [← hi]; exact (List.getElem?_append_left h).symm
      exact (r2 i y e hi' hy').kept (oq _ (by show am_b0 g + i < H.size; omega))
    · have hi2 : (σ.1 ++ [x])[i]? = some y := hi
      rw [List.getElem?_append_right (by omega)] at hi2
      have hz : i - σ.1.length < 1 := (List.getElem?_eq_some_iff.mp hi2).1
      rw [show i - σ.1.length = 0 by omega] at hi2
      cases hi2
      have hie : i = σ.1.length := by omega
      subst hie
      have hh := he e hy'
      rw [r1] at hh
      exact hh
  · rw [oq q (by omega)]
    exact r3 q hq
  · refine r4 i j ?_
    have hi2 : (σ.1 ++ [x]).length ≤ i := hi
    simp at hi2
    omega
section KA
variable {g : am_C} {d : Nat} {M : am_M} {mc ms pc : Nat} {lv : List (Nat × Value)} {st : List Value} {σ : am_S} {post : Option (Option Value) → am_S → Prop}
theorem kr_iald (G : am_G g) {o n : Nat} {i : Int32} (hd : decode M.2.1 pc = .ok (.iaload, 1)) (ho : σ.1[o]? = some (.inr (.int, n))) (hin : vp_in i n) (kk : am_K g d M mc ms (pc + 1) lv (.int (σ.2.1 o i.toNatClampNeg) :: st) σ post) : am_K g d M mc ms pc lv (.int i :: .ref o :: st) σ post := by
  intro p e R s m args below meth c H locs cells slots ls F h1 h2 h3 h4 hR hL hl
  exact va_iald F.1 F.2.1 (am_hK G F.2.2.2.2.2.2.1) (am_P1 (hR.2.1 o _ _ ho rfl)) 0 0 rfl rfl hin hd (kk p e R s m args below meth c H locs cells slots ls F h1 h2 h3 h4 hR hL hl)
theorem kr_bald (G : am_G g) {o n : Nat} {i : Int32} (hd : decode M.2.1 pc = .ok (.baload, 1)) (ho : σ.1[o]? = some (.inr (.byte, n))) (hin : vp_in i n) (kk : am_K g d M mc ms (pc + 1) lv (.int (σ.2.1 o i.toNatClampNeg) :: st) σ post) : am_K g d M mc ms pc lv (.int i :: .ref o :: st) σ post := by
  intro p e R s m args below meth c H locs cells slots ls F h1 h2 h3 h4 hR hL hl
  exact va_bald F.1 F.2.1 (am_hK G F.2.2.2.2.2.2.1) (am_P1 (hR.2.1 o _ _ ho rfl)) 0 1 rfl rfl hin hd (kk p e R s m args below meth c H locs cells slots ls F h1 h2 h3 h4 hR hL hl)
theorem kr_zald (G : am_G g) {o n : Nat} {i : Int32} (hd : decode M.2.1 pc = .ok (.baload, 1)) (ho : σ.1[o]? = some (.inr (.boolean, n))) (hin : vp_in i n) (kk : am_K g d M mc ms (pc + 1) lv (.int (σ.2.1 o i.toNatClampNeg) :: st) σ post) : am_K g d M mc ms pc lv (.int i :: .ref o :: st) σ post := by
  intro p e R s m args below meth c H locs cells slots ls F h1 h2 h3 h4 hR hL hl
  exact va_zald F.1 F.2.1 (am_hK G F.2.2.2.2.2.2.1) (am_P1 (hR.2.1 o _ _ ho rfl)) 0 3 rfl rfl hin hd (kk p e R s m args below meth c H locs cells slots ls F h1 h2 h3 h4 hR hL hl)
theorem kr_lald (G : am_G g) {o n : Nat} {i : Int32} (hd : decode M.2.1 pc = .ok (.laload, 1)) (ho : σ.1[o]? = some (.inr (.long, n))) (hin : vp_in i n) (kk : am_K g d M mc ms (pc + 1) lv (.long (σ.2.2.1 o i.toNatClampNeg) :: st) σ post) : am_K g d M mc ms pc lv (.int i :: .ref o :: st) σ post := by
  intro p e R s m args below meth c H locs cells slots ls F h1 h2 h3 h4 hR hL hl
  exact va_lald F.1 F.2.1 (am_hK G F.2.2.2.2.2.2.1) (am_P1 (hR.2.1 o _ _ ho rfl)) 0 2 rfl rfl hin hd (kk p e R s m args below meth c H locs cells slots ls F h1 h2 h3 h4 hR hL hl)
theorem kr_aald (G : am_G g) {o n x : Nat} {i : Int32} (hd : decode M.2.1 pc = .ok (.aaload, 1)) (ho : σ.1[o]? = some (.inr (.object "WindowSale$Scene", n))) (hin : vp_in i n) (hv : σ.2.2.2 o i.toNatClampNeg = .ref x) (kk : am_K g d M mc ms (pc + 1) lv (.ref x :: st) σ post) : am_K g d M mc ms pc lv (.int i :: .ref o :: st) σ post := by
  intro p e R s m args below meth c H locs cells slots ls F h1 h2 h3 h4 hR hL hl
  refine va_aldq F.1 F.2.1 (am_hK G F.2.2.2.2.2.2.1) (am_P1 (hR.2.1 o _ _ ho rfl)) 0 4 rfl rfl hin hd ?_
  rw [hv]
  exact kk p e R s m args below meth c H locs cells slots ls F h1 h2 h3 h4 hR hL hl
theorem am_ext {H : Heap} {s : State} (G : am_G g) (hW : g.2.1.WarmedH s.vm) (hR : am_Rep g σ H) {x n : Nat} {f : Nat → Int32} (hX : g.2.2.2.2.2.2 x = some (n, f)) : n < 2 ^ 31 ∧ ∃ cell : Cell, H[g.2.2.2.2.2.1 x]? = some cell ∧ s.isArrayOf cell .int ∧ cell.vm ≠ .unknown ∧ (n ≤ cell.slots.size ∧ cell.slots.size.toInt32 = Int32.ofNat n) ∧ ∀ j : Nat, j < n → cell.slots[j]? = some (.int (f j)) := by
  obtain ⟨hn, cell, a1, a2, a3, a4, a5⟩ := G.2.2.1 x n f hX
  exact ⟨hn, cell, by rw [hR.2.2.1 _ (Array.getElem?_eq_some_iff.mp a1).1]; exact a1, State.isArrayOf_alike hW.alike a2, a3, a4, a5⟩
theorem kr_ialdX (G : am_G g) {x n : Nat} {f : Nat → Int32} {i : Int32} (hd : decode M.2.1 pc = .ok (.iaload, 1)) (hX : g.2.2.2.2.2.2 x = some (n, f)) (hin : vp_in i n) (kk : am_K g d M mc ms (pc + 1) lv (.int (f i.toNatClampNeg) :: st) σ post) : am_K g d M mc ms pc lv (.int i :: .retAddr x :: st) σ post := by
  intro p e R s m args below meth c H locs cells slots ls F h1 h2 h3 h4 hR hL hl
  obtain ⟨hn, cell, a1, a2, a3, a4, a5⟩ := am_ext G F.2.2.2.2.2.2.1 hR hX
  exact W.iald (v := .int (f i.toNatClampNeg)) F.1 F.2.1 a1 a2 a3 (fun q => hin (q.elim Or.inl (fun q => Or.inr (Nat.le_trans a4.1 q)))) (a5 _ (Nat.not_le.mp fun q => hin (Or.inr q))) rfl rfl hd (kk p e R s m args below meth c H locs cells slots ls F h1 h2 h3 h4 hR hL hl)
theorem kr_alenX (G : am_G g) {x n : Nat} {f : Nat → Int32} (hd : decode M.2.1 pc = .ok (.arraylength, 1)) (hX : g.2.2.2.2.2.2 x = some (n, f)) (kk : am_K g d M mc ms (pc + 1) lv (.int (nI n) :: st) σ post) : am_K g d M mc ms pc lv (.retAddr x :: st) σ post := by
  intro p e R s m args below meth c H locs cells slots ls F h1 h2 h3 h4 hR hL hl
  obtain ⟨hn, cell, a1, a2, a3, a4, a5⟩ := am_ext G F.2.2.2.2.2.2.1 hR hX
  exact W.alen (n := nI n) F.1 F.2.1 a1 a2 a4.2 rfl rfl hd (kk p e R s m args below meth c H locs cells slots ls F h1 h2 h3 h4 hR hL hl)
theorem kr_alenI (G : am_G g) {o n : Nat} (hd : decode M.2.1 pc = .ok (.arraylength, 1)) (ho : σ.1[o]? = some (.inr (.int, n))) (kk : am_K g d M mc ms (pc + 1) lv (.int (nI n) :: st) σ post) : am_K g d M mc ms pc lv (.ref o :: st) σ post := by
  intro p e R s m args below meth c H locs cells slots ls F h1 h2 h3 h4 hR hL hl
  exact va_alen F.1 F.2.1 (am_hK G F.2.2.2.2.2.2.1) (am_P1 (hR.2.1 o _ _ ho rfl)) 0 0 rfl rfl rfl hd (kk p e R s m args below meth c H locs cells slots ls F h1 h2 h3 h4 hR hL hl)
theorem kr_alenB (G : am_G g) {o n : Nat} (hd : decode M.2.1 pc = .ok (.arraylength, 1)) (ho : σ.1[o]? = some (.inr (.byte, n))) (kk : am_K g d M mc ms (pc + 1) lv (.int (nI n) :: st) σ post) : am_K g d M mc ms pc lv (.ref o :: st) σ post := by
  intro p e R s m args below meth c H locs cells slots ls F h1 h2 h3 h4 hR hL hl
  exact va_alen F.1 F.2.1 (am_hK G F.2.2.2.2.2.2.1) (am_P1 (hR.2.1 o _ _ ho rfl)) 0 1 rfl rfl rfl hd (kk p e R s m args below meth c H locs cells slots ls F h1 h2 h3 h4 hR hL hl)
theorem kr_alenJ (G : am_G g) {o n : Nat} (hd : decode M.2.1 pc = .ok (.arraylength, 1)) (ho : σ.1[o]? = some (.inr (.long, n))) (kk : am_K g d M mc ms (pc + 1) lv (.int (nI n) :: st) σ post) : am_K g d M mc ms pc lv (.ref o :: st) σ post := by
  intro p e R s m args below meth c H locs cells slots ls F h1 h2 h3 h4 hR hL hl
  exact va_alen F.1 F.2.1 (am_hK G F.2.2.2.2.2.2.1) (am_P1 (hR.2.1 o _ _ ho rfl)) 0 2 rfl rfl rfl hd (kk p e R s m args below meth c H locs cells slots ls F h1 h2 h3 h4 hR hL hl)
theorem kr_alenQ (G : am_G g) {o n : Nat} (hd : decode M.2.1 pc = .ok (.arraylength, 1)) (ho : σ.1[o]? = some (.inr (.object "WindowSale$Scene", n))) (kk : am_K g d M mc ms (pc + 1) lv (.int (nI n) :: st) σ post) : am_K g d M mc ms pc lv (.ref o :: st) σ post := by
  intro p e R s m args below meth c H locs cells slots ls F h1 h2 h3 h4 hR hL hl
  exact va_alen F.1 F.2.1 (am_hK G F.2.2.2.2.2.2.1) (am_P1 (hR.2.1 o _ _ ho rfl)) 0 4 rfl rfl rfl hd (kk p e R s m args below meth c H locs cells slots ls F h1 h2 h3 h4 hR hL hl)
theorem kr_iast (G : am_G g) {o n : Nat} {i : Int32} {x : Int32} (hd : decode M.2.1 pc = .ok (.iastore, 1)) (ho : σ.1[o]? = some (.inr (.int, n))) (hin : vp_in i n) (kk : am_K g d M mc ms (pc + 1) lv st (σ.1, am_up σ.2.1 o i.toNatClampNeg x, σ.2.2.1, σ.2.2.2) post) : am_K g d M mc ms pc lv (.int x :: .int i :: .ref o :: st) σ post := by
  intro p e R s m args below meth c H locs cells slots ls F h1 h2 h3 h4 hR hL hl
  have hcell := hR.2.1 o _ _ ho rfl
  refine W.iast F.1 F.2.1 hcell (((am_hK G F.2.2.2.2.2.2.1).2 0 _ rfl).1 n (fun j => .int (σ.2.1 o j))) (fun q => by cases q) (by show ¬ (i < 0 ∨ (arrV _ _ _).slots.size ≤ _); rw [arrV_size]; exact hin) rfl rfl hd fun H1 e1 z oq => ?_
  refine kk p e R s m args below meth c H1 _ cells slots ls F h1 h2 h3 h4 (am_Rep_wr hR (am_wrI σ o i.toNatClampNeg x) ho z oq ?_) ?_ hl
  · intro y hy9
    cases hy9
    show H1[am_b0 g + o]? = some (vp_cell _ _)
    rw [e1]
    rw [vp_cell_i, vp_cell_i, arrV_store]
    congr 2
    funext q
    by_cases hq : q = i.toNatClampNeg
    · subst hq
      simp [updV, am_up]
    · simp [updV, am_up, hq]
  · intro q hq
    rcases List.mem_append.mp hq with h | h
    · exact hL q h
    · rw [List.mem_singleton.mp h]
      exact Nat.le_add_right _ _
theorem kr_bast (G : am_G g) {o n : Nat} {i : Int32} {x y : Int32} (hd : decode M.2.1 pc = .ok (.bastore, 1)) (ho : σ.1[o]? = some (.inr (.byte, n))) (hin : vp_in i n) (hy : narrow .byte (.int x) = .int y) (kk : am_K g d M mc ms (pc + 1) lv st (σ.1, am_up σ.2.1 o i.toNatClampNeg y, σ.2.2.1, σ.2.2.2) post) : am_K g d M mc ms pc lv (.int x :: .int i :: .ref o :: st) σ post := by
  intro p e R s m args below meth c H locs cells slots ls F h1 h2 h3 h4 hR hL hl
  have hcell := hR.2.1 o _ _ ho rfl
  refine W.bast F.1 F.2.1 hcell (((am_hK G F.2.2.2.2.2.2.1).2 1 _ rfl).1 n (fun j => .int (σ.2.1 o j))) (fun q => by cases q) (by show ¬ (i < 0 ∨ (arrV _ _ _).slots.size ≤ _); rw [arrV_size]; exact hin) rfl rfl hd fun H1 e1 z oq => ?_
  refine kk p e R s m args below meth c H1 _ cells slots ls F h1 h2 h3 h4 (am_Rep_wr hR (am_wrI σ o i.toNatClampNeg y) ho z oq ?_) ?_ hl
  · intro y hy9
    cases hy9
    show H1[am_b0 g + o]? = some (vp_cell _ _)
    rw [e1]
    rw [hy]
    rw [vp_cell_i, vp_cell_i, arrV_store]
    congr 2
    funext q
    by_cases hq : q = i.toNatClampNeg
    · subst hq
      simp [updV, am_up]
    · simp [updV, am_up, hq]
  · intro q hq
    rcases List.mem_append.mp hq with h | h
    · exact hL q h
    · rw [List.mem_singleton.mp h]
      exact Nat.le_add_right _ _
theorem kr_zast (G : am_G g) {o n : Nat} {i : Int32} {x y : Int32} (hd : decode M.2.1 pc = .ok (.bastore, 1)) (ho : σ.1[o]? = some (.inr (.boolean, n))) (hin : vp_in i n) (hy : narrow .boolean (.int x) = .int y) (kk : am_K g d M mc ms (pc + 1) lv st (σ.1, am_up σ.2.1 o i.toNatClampNeg y, σ.2.2.1, σ.2.2.2) post) : am_K g d M mc ms pc lv (.int x :: .int i :: .ref o :: st) σ post := by
  intro p e R s m args below meth c H locs cells slots ls F h1 h2 h3 h4 hR hL hl
  have hcell := hR.2.1 o _ _ ho rfl
  refine W.zast F.1 F.2.1 hcell (((am_hK G F.2.2.2.2.2.2.1).2 3 _ rfl).1 n (fun j => .int (σ.2.1 o j))) (fun q => by cases q) (by show ¬ (i < 0 ∨ (arrV _ _ _).slots.size ≤ _); rw [arrV_size]; exact hin) rfl rfl hd fun H1 e1 z oq => ?_
  refine kk p e R s m args below meth c H1 _ cells slots ls F h1 h2 h3 h4 (am_Rep_wr hR (am_wrI σ o i.toNatClampNeg y) ho z oq ?_) ?_ hl
  · intro y hy9
    cases hy9
    show H1[am_b0 g + o]? = some (vp_cell _ _)
    rw [e1]
    rw [hy]
    rw [vp_cell_i, vp_cell_i, arrV_store]
    congr 2
    funext q
    by_cases hq : q = i.toNatClampNeg
    · subst hq
      simp [updV, am_up]
    · simp [updV, am_up, hq]
  · intro q hq
    rcases List.mem_append.mp hq with h | h
    · exact hL q h
    · rw [List.mem_singleton.mp h]
      exact Nat.le_add_right _ _
theorem kr_last (G : am_G g) {o n : Nat} {i : Int32} {x : Int64} (hd : decode M.2.1 pc = .ok (.lastore, 1)) (ho : σ.1[o]? = some (.inr (.long, n))) (hin : vp_in i n) (kk : am_K g d M mc ms (pc + 1) lv st (σ.1, σ.2.1, am_up σ.2.2.1 o i.toNatClampNeg x, σ.2.2.2) post) : am_K g d M mc ms pc lv (.long x :: .int i :: .ref o :: st) σ post := by
  intro p e R s m args below meth c H locs cells slots ls F h1 h2 h3 h4 hR hL hl
  have hcell := hR.2.1 o _ _ ho rfl
  refine W.last F.1 F.2.1 hcell (((am_hK G F.2.2.2.2.2.2.1).2 2 _ rfl).1 n (fun j => .long (σ.2.2.1 o j))) (fun q => by cases q) (by show ¬ (i < 0 ∨ (arrV _ _ _).slots.size ≤ _); rw [arrV_size]; exact hin) rfl rfl hd fun H1 e1 z oq => ?_
  refine kk p e R s m args below meth c H1 _ cells slots ls F h1 h2 h3 h4 (am_Rep_wr hR (am_wrJ σ o i.toNatClampNeg x) ho z oq ?_) ?_ hl
  · intro y hy9
    cases hy9
    show H1[am_b0 g + o]? = some (vp_cell _ _)
    rw [e1]
    rw [vp_cell_l, vp_cell_l, arrV_store]
    congr 2
    funext q
    by_cases hq : q = i.toNatClampNeg
    · subst hq
      simp [updV, am_up]
    · simp [updV, am_up, hq]
  · intro q hq
    rcases List.mem_append.mp hq with h | h
    · exact hL q h
    · rw [List.mem_singleton.mp h]
      exact Nat.le_add_right _ _
theorem kr_aast (G : am_G g) {o n x : Nat} {i : Int32} (hd : decode M.2.1 pc = .ok (.aastore, 1)) (ho : σ.1[o]? = some (.inr (.object "WindowSale$Scene", n))) (hx : σ.1[x]? = some (.inl 7)) (hin : vp_in i n) (kk : am_K g d M mc ms (pc + 1) lv st (σ.1, σ.2.1, σ.2.2.1, am_up σ.2.2.2 o i.toNatClampNeg (.ref x)) post) : am_K g d M mc ms pc lv (.ref x :: .int i :: .ref o :: st) σ post := by
  intro p e R s m args below meth c H locs cells slots ls F h1 h2 h3 h4 hR hL hl
  have hcell := hR.2.1 o _ _ ho rfl
  have hK := am_hK G F.2.2.2.2.2.2.1
  have hlt : i.toNatClampNeg < n := Nat.not_le.mp fun q => hin (Or.inr q)
  have h0 : ¬ i < 0 := fun q => hin (Or.inl q)
  obtain ⟨r', hr', cellV, g1, g2, g3, -⟩ := am_obj hR hx (C := RX7) (T := TX7) (N := 11) rfl
  have hcls := (hK.1 7 (RX7, TX7, 11) rfl).2
  obtain ⟨kA, comp, k1, k2, k3, -⟩ := (hK.2 4 _ rfl).2
  have hcomp : comp = g.2.2.2.1.1 7 := Option.some.inj (k3.symm.trans hcls.1)
  subst hcomp
  obtain ⟨kC, hkC, -⟩ := hcls.2
  refine W.aast F.1 F.2.1 hcell (fun q h => by cases h) (fun h => by cases h) k1 k2 rfl hkC ⟨h0, by show _ < (arrV _ _ _).slots.size; rw [arrV_size]; exact hlt⟩ g1 (fun q h => by rw [g3] at h; cases h) (by rw [g2]; exact hkC) (by rw [g2]; exact va_assign hcls) rfl rfl hd fun H1 e1 z oq => ?_
  refine kk p e R s m args below meth c H1 _ cells slots ls F h1 h2 h3 h4 (am_Rep_wr hR (am_wrR σ o i.toNatClampNeg (.ref x)) ho z oq ?_) ?_ hl
  · intro y hy9
    cases hy9
    show H1[am_b0 g + o]? = some (vp_cell _ _)
    rw [e1]
    rw [vp_cell_q, vp_cell_q, arrV_store]
    congr 2
    funext q
    by_cases hq : q = i.toNatClampNeg
    · subst hq
      simp [updV, am_up, va_rf, am_ad]
    · simp [updV, am_up, hq]
  · intro q hq
    rcases List.mem_append.mp hq with h | h
    · exact hL q h
    · rw [List.mem_singleton.mp h]
      exact Nat.le_add_right _ _
theorem am_dflt (h : ∀ k : Nat, σ.2.1 σ.1.length k = 0 ∧ σ.2.2.1 σ.1.length k = 0 ∧ σ.2.2.2 σ.1.length k = .null) {ty : FieldType} (hk : am_kd ty < 3) (j : Nat) : defaultValue ty = am_rel g (am_fa σ σ.1.length ty j) := by
  obtain ⟨a, b, c⟩ := h j
  unfold am_fa
  rw [a, b, c]
  cases ty <;> first | rfl | (exact absurd hk (by decide))
theorem kr_new (G : am_G g) {idx ci N : Nat} {C : String} {T : u_T} (hc : vwCl[ci]? = some (C, T, N)) (hd : decode M.2.1 pc = .ok (.new idx, 3)) (hlk : Cond.classLink M.1.cls idx C ∈ lw_tbl) (hin : Cond.instantiable C N ∈ lw_tbl) (hini : Cond.initialized C ∈ lw_tbl) (kk : am_K g d M mc ms (pc + 3) lv (.ref σ.1.length :: st) (σ.1 ++ [.inl ci], σ.2) post) : am_K g d M (mc + 1) (ms + N) pc lv st σ post := by
  intro p e R s m args below meth c H locs cells slots ls F h1 h2 h3 h4 hR hL hl
  have hts := am_hts G F.2.2.2.2.2.2.1 args
  have hK := am_hK G F.2.2.2.2.2.2.1
  have hKn := hK.1 ci _ hc
  obtain ⟨hlay, hty, -, hkd⟩ := am_lay hc
  have hr4 : ∀ k : Nat, σ.2.1 σ.1.length k = 0 ∧ σ.2.2.1 σ.1.length k = 0 ∧ σ.2.2.2 σ.1.length k = .null := fun k => hR.2.2.2 _ k (Nat.le_refl _)
  refine W.newcK F.1 F.2.1 F.2.2.2.2.2.1 (am_w G F.2.2.2.2.2.2.1 args hlk rfl) (am_w G F.2.2.2.2.2.2.1 args hin rfl) (am_w G F.2.2.2.2.2.2.1 args hini rfl) rfl hd (by omega) (by omega) hKn.2.1 rfl fun H1 kC hkC e1 z1 o1 => ?_
  rw [show cells + (mc + 1) = cells + 1 + mc by omega, show slots + (ms + N) = slots + N + ms by omega]
  have hh : Value.ref H.size = am_rel g (.ref σ.1.length) := by rw [hR.1]; rfl
  rw [hh]
  refine kk p e R s m args below meth c H1 locs (cells + 1) (slots + N) ls F h1 h2 (by omega) (by omega) (am_Rep_push hR z1 o1 ?_) hL hl
  intro y hy
  have hy' : y = .inr (ci, am_of g σ σ.1.length ci N) := by
    simp [am_ce, hc] at hy
    exact hy.symm
  subst hy'
  refine ⟨_, hc, (u_born (am_ty ci) hts hlay hKn hkC e1 hty).to fun j hj => ?_⟩
  show _ = vp_V _ j
  simp only [vp_V, List.getD, am_of_at g σ σ.1.length ci N j hj, Option.getD_some]
  exact am_dflt hr4 (hkd j hj) j
theorem am_ac_int : Cond.arrayClass .int ∈ lw_tbl := by decide +kernel
theorem am_ac_byte : Cond.arrayClass .byte ∈ lw_tbl := by decide +kernel
theorem am_ac_long : Cond.arrayClass .long ∈ lw_tbl := by decide +kernel
theorem am_ac_boolean : Cond.arrayClass .boolean ∈ lw_tbl := by decide +kernel
theorem kr_new_int (G : am_G g) {n : Int32} {N : Nat} (hd : decode M.2.1 pc = .ok (.newarray .int, 2)) (hn : ¬ n < 0) (hN : n.toNatClampNeg = N) (hb : N ≤ 60000000) (kk : am_K g d M mc ms (pc + 2) lv (.ref σ.1.length :: st) (σ.1 ++ [.inr (.int, N)], σ.2) post) : am_K g d M (mc + 1) (ms + N) pc lv (.int n :: st) σ post := by
  intro p e R s m args below meth c H locs cells slots ls F h1 h2 h3 h4 hR hL hl
  have hK := am_hK G F.2.2.2.2.2.2.1
  have hr4 : ∀ k : Nat, σ.2.1 σ.1.length k = 0 ∧ σ.2.2.1 σ.1.length k = 0 ∧ σ.2.2.2 σ.1.length k = .null := fun k => hR.2.2.2 _ k (Nat.le_refl _)
  refine va_newaK F.1 F.2.1 (atype := .int) (am_w G F.2.2.2.2.2.2.1 args am_ac_int rfl) rfl hd rfl hn hN (by simp only [newarray.typeOf, componentBytes]; omega) (by omega) (by omega) rfl fun H1 cA e1 z1 o1 hA hNm => ?_
  have hcA : cA = g.2.2.2.2.1 .int := Option.some.inj (hNm.symm.trans (hK.2 0 _ rfl).2)
  subst hcA
  rw [show cells + (mc + 1) = cells + 1 + mc by omega, show slots + (ms + N) = slots + N + ms by omega]
  have hh : Value.ref H.size = am_rel g (.ref σ.1.length) := by rw [hR.1]; rfl
  rw [hh]
  refine kk p e R s m args below meth c H1 locs (cells + 1) (slots + N) ls F h1 h2 (by omega) (by omega) (am_Rep_push hR z1 o1 ?_) hL hl
  intro y hy
  cases hy
  show H1[H.size]? = some (vp_cell _ _)
  rw [e1, vp_cell_i]
  congr 2
  funext q
  rw [(hr4 q).1]
  rfl
theorem kr_new_byte (G : am_G g) {n : Int32} {N : Nat} (hd : decode M.2.1 pc = .ok (.newarray .byte, 2)) (hn : ¬ n < 0) (hN : n.toNatClampNeg = N) (hb : N ≤ 60000000) (kk : am_K g d M mc ms (pc + 2) lv (.ref σ.1.length :: st) (σ.1 ++ [.inr (.byte, N)], σ.2) post) : am_K g d M (mc + 1) (ms + N) pc lv (.int n :: st) σ post := by
  intro p e R s m args below meth c H locs cells slots ls F h1 h2 h3 h4 hR hL hl
  have hK := am_hK G F.2.2.2.2.2.2.1
  have hr4 : ∀ k : Nat, σ.2.1 σ.1.length k = 0 ∧ σ.2.2.1 σ.1.length k = 0 ∧ σ.2.2.2 σ.1.length k = .null := fun k => hR.2.2.2 _ k (Nat.le_refl _)
  refine va_newaK F.1 F.2.1 (atype := .byte) (am_w G F.2.2.2.2.2.2.1 args am_ac_byte rfl) rfl hd rfl hn hN (by simp only [newarray.typeOf, componentBytes]; omega) (by omega) (by omega) rfl fun H1 cA e1 z1 o1 hA hNm => ?_
  have hcA : cA = g.2.2.2.2.1 .byte := Option.some.inj (hNm.symm.trans (hK.2 1 _ rfl).2)
  subst hcA
  rw [show cells + (mc + 1) = cells + 1 + mc by omega, show slots + (ms + N) = slots + N + ms by omega]
  have hh : Value.ref H.size = am_rel g (.ref σ.1.length) := by rw [hR.1]; rfl
  rw [hh]
  refine kk p e R s m args below meth c H1 locs (cells + 1) (slots + N) ls F h1 h2 (by omega) (by omega) (am_Rep_push hR z1 o1 ?_) hL hl
  intro y hy
  cases hy
  show H1[H.size]? = some (vp_cell _ _)
  rw [e1, vp_cell_i]
  congr 2
  funext q
  rw [(hr4 q).1]
  rfl
theorem kr_new_long (G : am_G g) {n : Int32} {N : Nat} (hd : decode M.2.1 pc = .ok (.newarray .long, 2)) (hn : ¬ n < 0) (hN : n.toNatClampNeg = N) (hb : N ≤ 60000000) (kk : am_K g d M mc ms (pc + 2) lv (.ref σ.1.length :: st) (σ.1 ++ [.inr (.long, N)], σ.2) post) : am_K g d M (mc + 1) (ms + N) pc lv (.int n :: st) σ post := by
  intro p e R s m args below meth c H locs cells slots ls F h1 h2 h3 h4 hR hL hl
  have hK := am_hK G F.2.2.2.2.2.2.1
  have hr4 : ∀ k : Nat, σ.2.1 σ.1.length k = 0 ∧ σ.2.2.1 σ.1.length k = 0 ∧ σ.2.2.2 σ.1.length k = .null := fun k => hR.2.2.2 _ k (Nat.le_refl _)
  refine va_newaK F.1 F.2.1 (atype := .long) (am_w G F.2.2.2.2.2.2.1 args am_ac_long rfl) rfl hd rfl hn hN (by simp only [newarray.typeOf, componentBytes]; omega) (by omega) (by omega) rfl fun H1 cA e1 z1 o1 hA hNm => ?_
  have hcA : cA = g.2.2.2.2.1 .long := Option.some.inj (hNm.symm.trans (hK.2 2 _ rfl).2)
  subst hcA
  rw [show cells + (mc + 1) = cells + 1 + mc by omega, show slots + (ms + N) = slots + N + ms by omega]
  have hh : Value.ref H.size = am_rel g (.ref σ.1.length) := by rw [hR.1]; rfl
  rw [hh]
  refine kk p e R s m args below meth c H1 locs (cells + 1) (slots + N) ls F h1 h2 (by omega) (by omega) (am_Rep_push hR z1 o1 ?_) hL hl
  intro y hy
  cases hy
  show H1[H.size]? = some (vp_cell _ _)
  rw [e1, vp_cell_l]
  congr 2
  funext q
  rw [(hr4 q).2.1]
  rfl
theorem kr_new_boolean (G : am_G g) {n : Int32} {N : Nat} (hd : decode M.2.1 pc = .ok (.newarray .boolean, 2)) (hn : ¬ n < 0) (hN : n.toNatClampNeg = N) (hb : N ≤ 60000000) (kk : am_K g d M mc ms (pc + 2) lv (.ref σ.1.length :: st) (σ.1 ++ [.inr (.boolean, N)], σ.2) post) : am_K g d M (mc + 1) (ms + N) pc lv (.int n :: st) σ post := by
  intro p e R s m args below meth c H locs cells slots ls F h1 h2 h3 h4 hR hL hl
  have hK := am_hK G F.2.2.2.2.2.2.1
  have hr4 : ∀ k : Nat, σ.2.1 σ.1.length k = 0 ∧ σ.2.2.1 σ.1.length k = 0 ∧ σ.2.2.2 σ.1.length k = .null := fun k => hR.2.2.2 _ k (Nat.le_refl _)
  refine va_newaK F.1 F.2.1 (atype := .boolean) (am_w G F.2.2.2.2.2.2.1 args am_ac_boolean rfl) rfl hd rfl hn hN (by simp only [newarray.typeOf, componentBytes]; omega) (by omega) (by omega) rfl fun H1 cA e1 z1 o1 hA hNm => ?_
  have hcA : cA = g.2.2.2.2.1 .boolean := Option.some.inj (hNm.symm.trans (hK.2 3 _ rfl).2)
  subst hcA
  rw [show cells + (mc + 1) = cells + 1 + mc by omega, show slots + (ms + N) = slots + N + ms by omega]
  have hh : Value.ref H.size = am_rel g (.ref σ.1.length) := by rw [hR.1]; rfl
  rw [hh]
  refine kk p e R s m args below meth c H1 locs (cells + 1) (slots + N) ls F h1 h2 (by omega) (by omega) (am_Rep_push hR z1 o1 ?_) hL hl
  intro y hy
  cases hy
  show H1[H.size]? = some (vp_cell _ _)
  rw [e1, vp_cell_i]
  congr 2
  funext q
  rw [(hr4 q).1]
  rfl
theorem am_ao : Cond.arrayOver (.object "WindowSale$Scene") ∈ lw_tbl := by decide +kernel
theorem kr_newq (G : am_G g) {idx : Nat} {n : Int32} {N : Nat} (hd : decode M.2.1 pc = .ok (.anewarray idx, 3)) (hlk : Cond.classLink M.1.cls idx "WindowSale$Scene" ∈ lw_tbl) (hn : ¬ n < 0) (hN : n.toNatClampNeg = N) (hb : N ≤ 60000000) (kk : am_K g d M mc ms (pc + 3) lv (.ref σ.1.length :: st) (σ.1 ++ [.inr (.object "WindowSale$Scene", N)], σ.2) post) : am_K g d M (mc + 1) (ms + N) pc lv (.int n :: st) σ post := by
  intro p e R s m args below meth c H locs cells slots ls F h1 h2 h3 h4 hR hL hl
  have hK := am_hK G F.2.2.2.2.2.2.1
  have hr4 : ∀ k : Nat, σ.2.1 σ.1.length k = 0 ∧ σ.2.2.1 σ.1.length k = 0 ∧ σ.2.2.2 σ.1.length k = .null := fun k => hR.2.2.2 _ k (Nat.le_refl _)
  subst hN
  have hao : va_AO "WindowSale$Scene" s := va_AO.moved F.2.2.2.2.2.2.1.alike (va_AO.of (G.1 _ am_ao))
  refine W.anew F.1 F.2.1 F.2.2.2.2.2.1 (am_w G F.2.2.2.2.2.2.1 args hlk rfl) (va_AO.use hao) rfl hd rfl hn (by omega) (by omega) (by omega) fun cA kA comp f1 f2 f3 f4 => ?_
  obtain ⟨kA9, comp9, k1, k2, k3, k4⟩ := (hK.2 4 _ rfl).2
  have hcA : cA = g.2.2.2.2.1 (.object "WindowSale$Scene") := Option.some.inj (f1.symm.trans k4)
  subst hcA
  generalize hH1 : H.push ({ cls := g.2.2.2.2.1 (.object "WindowSale$Scene"), slots := Array.replicate n.toNatClampNeg .null, vm := .none } : Cell) = H1
  have z1 : H1.size = H.size + 1 := by rw [← hH1, Array.size_push]
  have e1 : H1[H.size]? = some (arrV (g.2.2.2.2.1 (.object "WindowSale$Scene")) n.toNatClampNeg (fun _ => .null)) := by rw [← hH1, Array.getElem?_push_size, ← arrV_new]
  have o1 : ∀ q : Nat, q < H.size → H1[q]? = H[q]? := fun q hq => by rw [← hH1, Array.getElem?_push, if_neg (Nat.ne_of_lt hq)]
  rw [show cells + (mc + 1) = cells + 1 + mc by omega, show slots + (ms + n.toNatClampNeg) = slots + n.toNatClampNeg + ms by omega]
  have hh : Value.ref H.size = am_rel g (.ref σ.1.length) := by rw [hR.1]; rfl
  rw [hh]
  refine kk p e R s m args below meth c H1 locs (cells + 1) (slots + n.toNatClampNeg) ls F h1 h2 (by omega) (by omega) (am_Rep_push hR z1 o1 ?_) hL hl
  intro y hy
  cases hy
  show H1[H.size]? = some (vp_cell _ _)
  rw [e1, vp_cell_q]
  congr 2
  funext q
  rw [(hr4 q).2.2]
  rfl
theorem kr_gets (G : am_G g) {idx x : Nat} {n : String} (hd : decode M.2.1 pc = .ok (.getstatic idx, 3)) (hZ : va_Z "WindowSale$Station" n "[I" (.ref (g.2.2.2.2.2.1 x)) (fun q => am_b0 g ≤ q) g.2.1 g.2.1.heap) (hlk : Cond.fieldLink M.1.cls idx "WindowSale$Station" n "[I" ∈ lw_tbl) (kk : am_K g d M mc ms (pc + 3) lv (.retAddr x :: st) σ post) : am_K g d M mc ms pc lv st σ post := by
  intro p e R s m args below meth c H locs cells slots ls F h1 h2 h3 h4 hR hL hl
  obtain ⟨cf, kf, fi, f, a, cell, z1, z2, z3, z4, z5, z6, z7, z8⟩ := va_Z.moved F.2.2.2.2.2.2.1.alike hZ
  exact W.gets F.1 F.2.1 F.2.2.2.2.2.1 (am_w G F.2.2.2.2.2.2.1 args hlk rfl) z1 z2 z3 z4 (by rw [hR.2.2.1 a (Nat.not_le.mp z8)]; exact z5) (fun q => by rw [q] at z6; cases z6) z7 rfl hd (kk p e R s m args below meth c H locs cells slots ls F h1 h2 h3 h4 hR hL hl)
theorem kr_ldcS (G : am_G g) {idx x : Nat} {tx : String} (hd : decode M.2.1 pc = .ok (.ldc idx, 2)) (hw : Cond.stringRef M.1.cls idx tx ∈ lw_tbl) (hx : am_sx M.1.cls idx = x) (kk : am_K g d M mc ms (pc + 2) lv (.retAddr x :: st) σ post) : am_K g d M mc ms pc lv st σ post := by
  intro p e R s m args below meth c H locs cells slots ls F h1 h2 h3 h4 hR hL hl
  subst hx
  exact va_ldcS F.1 F.2.1 F.2.2.2.2.2.1 (vk_R.warm F.2.2.2.2.2.2.1 (G.2.2.2.2.1 _ _ _ hw)) hd (kk p e R s m args below meth c H locs cells slots ls F h1 h2 h3 h4 hR hL hl)
end KA
end
section
/-! calls -/
theorem am_wmono {p : Program} {l : Launch} {e : Env} {R : Room} {s : State} {m : MethodId} {args : Array Value} {below : List Frame} {meth : Method} {c : Code} {H : Heap} {locs : List Loc} {cells slots : Nat} {Q Q' : State → Prop} {f : JFrame} (hq : ∀ t, Q t → Q' t) (h : W p l e R s m args below meth c H locs cells slots Q f) : W p l e R s m args below meth c H locs cells slots Q' f := by
  intro T hT X
  obtain ⟨t, a, b⟩ := h T hT X
  exact ⟨t, a, hq t b⟩
theorem am_args (g : am_C) : ∀ (as : List Value) (i : Nat), lv_args i (as.map (am_rel g)) = am_lv g (lv_args i as)
  | [], _ => rfl
  | a :: as, i => by
    simp only [List.map_cons, lv_args, am_cat, am_args g as]
    rfl
theorem am_sl (g : am_C) (as : List Value) : (lg_sl (as.map (am_rel g))).length = (lg_sl as).length := by
  induction as with
  | nil => rfl
  | cons a l ih =>
    simp only [lg_sl, List.map_cons, List.flatMap_cons, List.length_append, am_cat] at ih ⊢
    rw [ih]
    congr 1
    split <;> rfl
/-- a method that is called by its words -/
def am_MO (M : am_M) (n : Nat) : Prop := plainName M.1.cls = true ∧ M.2.2.2.2 = [] ∧ Cond.code M.1 M.2.1 M.2.2.1 M.2.2.2.1 ∈ lw_tbl ∧ Cond.initialized M.1.cls ∈ lw_tbl ∧ (M.1.cls ≠ "java/lang/invoke/MethodHandle" ∧ M.1.cls ≠ "java/lang/invoke/VarHandle") ∧ (parseMethodDescriptor M.1.desc).map (fun d => d.parameters.length) = some n ∧ M.2.2.1 ≤ 21
def am_ML (own : String) (idx : Nat) (y : MethodName) : Prop := Cond.methodLink own idx y ∈ lw_tbl ∨ ∃ host, Cond.methodLinkNest own idx y host ∈ lw_tbl
abbrev am_rm (d mc ms : Nat) : Room := { frames := d, cells := mc, slots := ms, locals := 40 * d }
abbrev am_Pc (g : am_C) (as : List Value) (σ : am_S) : Array Value → State → Prop := va_Pc (as.map (am_rel g)) (fun U => am_Rep g σ U.heap ∧ g.2.1.WarmedH U.vm)
theorem am_blind (g : am_C) (as : List Value) (σ : am_S) : FrameBlind (am_Pc g as σ) := fun a U f mk q => ⟨q.1, q.2.1, q.2.2⟩
theorem am_body {g : am_C} {M : am_M} {n : Nat} (hO : am_MO M n) {d mc ms : Nat} {p : Program} {e : Env} {s : State} {m : MethodId} {args : Array Value} {below : List Frame} {meth : Method} {c : Code} {s₁ : State} (B : BodyLoose p g.1 M.1 (headSpec [Cond.code M.1 M.2.1 M.2.2.1 M.2.2.2.1] (am_rm d mc ms)) M.2.1 M.2.2.1 M.2.2.2.1 e s m args below meth c s₁) (hml : c.maxLocals = M.2.2.1) {σ : am_S} (hR : am_Rep g σ s.heap) (hW : g.2.1.WarmedH s.vm) : am_F g M p s m meth c := by
  refine ⟨B.exec, B.bytes, hml, B.returns, B.notSynchronized, findClass_of_methodNamed B.named, hW, fun _ => (name_of_methodNamed B.named B.method).1, Or.inr ?_, by rw [hR.1]; exact Nat.le_add_right _ _, hR.2.2.1⟩
  obtain ⟨meth9, c9, e1, e2, -, -, -, -, h7, -⟩ := Cond.code_spec B.named (atoms_spec (ws := [Cond.code M.1 M.2.1 M.2.2.1 M.2.2.2.1]) B.pre _ List.mem_cons_self)
  cases Option.some.inj (e1.symm.trans B.method)
  cases Option.some.inj (e2.symm.trans (Stand.of_body B).code)
  rw [Array.isEmpty_iff.mp h7, hO.2.1]
  rfl
theorem am_met {g : am_C} {d mc ms n : Nat} {M : am_M} {as : List Value} {σ : am_S} {post : Option (Option Value) → am_S → Prop} (hO : am_MO M n) (hlen : (lg_sl as).length ≤ M.2.2.1) (hnt : ∀ σ', ¬ post none σ') (k : am_K g d M mc ms 0 (lv_args 0 as) [] σ post) : Met g.1 M.1 [Cond.code M.1 M.2.1 M.2.2.1 M.2.2.2.1] (am_rm d mc ms) (am_Pc g as σ) (am_Qc g post) mc ms (fun q => am_b0 g ≤ q) := by
  refine Met.ofW (cc := M.2.1) (maxL := M.2.2.1) (ret := M.2.2.2.1) hO.1 rfl ?_
  intro p e s m args below meth c s₁ B hml hv
  obtain ⟨rfl, hR, hW⟩ := hv
  rw [lg_entry_eq]
  have hl := lv_entry (as.map (am_rel g)) (n := M.2.2.1) (by rw [am_sl]; exact hlen)
  rw [am_args] at hl
  have hw := k p e (am_rm d mc ms) s m (as.map (am_rel g)).toArray below meth c s.heap [] 0 0 _ (am_body hO B hml hR hW) (Nat.le_refl _) (Nat.le_refl _) (by show 0 + mc ≤ mc; omega) (by show 0 + ms ≤ ms; omega) hR (fun q h => by cases h) hl
  rw [Nat.zero_add, Nat.zero_add] at hw
  refine am_wmono ?_ hw
  intro t ht
  obtain ⟨o, a1, a2, a3 | ⟨q, -, E, ce, L, ⟨-, σ', h9, -⟩, -⟩⟩ := ht
  · exact ⟨o, a1, a2, a3⟩
  · exact absurd h9 (hnt σ')
section KC
variable {g : am_C} {d : Nat} {M M1 : am_M} {mc ms mc1 ms1 pc d1 n idx : Nat} {lv : List (Nat × Value)} {st stk as : List Value} {σ : am_S} {post post1 : Option (Option Value) → am_S → Prop}
theorem am_cb (G : am_G g) {s : State} (hW : g.2.1.WarmedH s.vm) (hO : am_MO M1 n) (hd1 : d1 + 1 ≤ d) {R : Room} (h1 : d ≤ R.frames) (h2 : 40 * d ≤ R.locals) (args : Array Value) :
    (am_rm d1 mc1 ms1).cells = mc1 ∧ (am_rm d1 mc1 ms1).slots = ms1 ∧ (am_rm d1 mc1 ms1).frames + 1 ≤ R.frames ∧ 8 + (M1.2.2.1 + 11) + (am_rm d1 mc1 ms1).locals ≤ R.locals ∧ (∀ w ∈ [Cond.code M1.1 M1.2.1 M1.2.2.1 M1.2.2.2.1], ∀ (a' : Array Value) (U : State), s.WarmedH U.vm → w.before a' U = true) ∧ Cond.code M1.1 M1.2.1 M1.2.2.1 M1.2.2.2.1 ∈ [Cond.code M1.1 M1.2.1 M1.2.2.1 M1.2.2.2.1] ∧
    (Cond.code M1.1 M1.2.1 M1.2.2.1 M1.2.2.2.1).before args s = true ∧ (Cond.initialized M1.1.cls).before args s = true ∧ (M1.1.cls ≠ "java/lang/invoke/MethodHandle" ∧ M1.1.cls ≠ "java/lang/invoke/VarHandle") ∧ (∀ sig, parseMethodDescriptor M1.1.desc = some sig → n = sig.parameters.length) := by
  obtain ⟨-, -, hcw, hini, hne, hpd, hml⟩ := hO
  refine ⟨rfl, rfl, ?_, ?_, ?_, List.mem_cons_self, am_w G hW args hcw rfl, am_w G hW args hini rfl, hne, ?_⟩
  · show d1 + 1 ≤ R.frames
    omega
  · show 8 + (M1.2.2.1 + 11) + 40 * d1 ≤ R.locals
    omega
  · intro w hw a' U hU
    rw [List.mem_singleton.mp hw]
    exact am_w G (State.WarmedH.trans hW hU) a' hcw rfl
  · intro sig h
    rw [h] at hpd
    exact (Option.some.inj hpd).symm
theorem am_ps {s : State} {H : Heap} (hW : g.2.1.WarmedH s.vm) (hR : am_Rep g σ H) : PreS s H (am_Pc g as σ) (as.map (am_rel g)) :=
  ⟨am_blind g as σ, fun U hU hWU => ⟨rfl, by rw [hU]; exact hR, State.WarmedH.trans hW hWU⟩⟩
/-- what goes on behind a call -/
theorem am_after {p : Program} {e : Env} {R : Room} {s : State} {m : MethodId} {args : Array Value} {below : List Frame} {meth : Method} {c : Code} {H : Heap} {locs : List Loc} {cells slots : Nat} {ls : Array Slot} {a9 : Array Value} (F : am_F g M p s m meth c) (h1 : d ≤ R.frames) (h2 : 40 * d ≤ R.locals) (h3 : cells + (mc1 + mc) ≤ R.cells) (h4 : slots + (ms1 + ms) ≤ R.slots) (hL : ∀ q ∈ locs, am_b0 g ≤ q.base) (hl : lv_has ls M.2.2.1 (am_lv g lv))
    (hr : va_Run p g.1 e R s m args below meth c H locs cells slots mc1 ms1 (F0 m pc ls (stk.map (am_rel g))) (st.map (am_rel g)) (am_Qc g post1 a9) (fun q => am_b0 g ≤ q)) (kk : ∀ v σ', post1 (some v) σ' → am_K g d M mc ms (pc + 3) lv (v.toList ++ st) σ' post) :
    W p g.1 e R s m args below meth c H locs cells slots (vx_MQ below (am_Qc g post) (am_Xc g post) args s (cells + (mc1 + mc)) (slots + (ms1 + ms)) (fun q => am_b0 g ≤ q)) (F0 m pc ls (stk.map (am_rel g))) := by
  intro T hT X
  obtain ⟨v, st₀, t, T', L, h0, X', hL', e1, e2, ⟨v', σ', ho, hp, hR'⟩, stp⟩ := hr T hT X
  cases ho
  rw [← Nat.add_assoc, ← Nat.add_assoc]
  have hw := kk v' σ' hp p e R s m args below meth c T'.heap (locs ++ L) (cells + mc1) (slots + ms1) ls F h1 h2 (by omega) (by omega) (by rw [e1]; exact hR') (fun q hq => by
    rcases List.mem_append.mp hq with h | h
    · exact hL q h
    · exact hL' q h) hl
  obtain ⟨t2, a1, b1⟩ := hw T' rfl X'
  refine ⟨t2, stp t2 ?_, b1⟩
  have he : (v'.map (am_rel g)).toList ++ st.map (am_rel g) = (v'.toList ++ st).map (am_rel g) := by cases v' <;> rfl
  show Steps p.tables e below (T'.setTop (F0 m (pc + 3) ls ((v'.map (am_rel g)).toList ++ st.map (am_rel g)))) t2
  rw [he]
  exact a1
theorem am_stk (hst : stk = as.reverse ++ st) : stk.map (am_rel g) = (as.map (am_rel g)).reverse ++ st.map (am_rel g) := by
  rw [hst, List.map_append, List.map_reverse]
theorem am_rest {m : MethodId} {ls : Array Slot} {x : List Value} (hroom : (st.map fun v => v.category).sum ≤ 8) : 2 * (F0 m pc ls x).monitorRoom + ((st.map (am_rel g)).map fun v => v.category).sum ≤ 8 := by
  have : (st.map (am_rel g)).map (fun v => v.category) = st.map (fun v => v.category) := by
    rw [List.map_map]
    apply List.map_congr_left
    intro v _
    exact am_cat g v
  rw [this]
  show 2 * 0 + _ ≤ 8
  omega
theorem kr_callS (G : am_G g) (hO : am_MO M1 n) (hs : Cond.static M1.1 ∈ lw_tbl) (hlk : am_ML M.1.cls idx M1.1) (hd : decode M.2.1 pc = .ok (.invokestatic idx, 3)) (hn : as.length = n) (hlen : (lg_sl as).length ≤ M1.2.2.1) (hst : stk = as.reverse ++ st) (hroom : (st.map fun v => v.category).sum ≤ 8) (hd1 : d1 + 1 ≤ d) (hnt : ∀ σ', ¬ post1 none σ') (k1 : am_K g d1 M1 mc1 ms1 0 (lv_args 0 as) [] σ post1) (kk : ∀ v σ', post1 (some v) σ' → am_K g d M mc ms (pc + 3) lv (v.toList ++ st) σ' post) : am_K g d M (mc1 + mc) (ms1 + ms) pc lv stk σ post := by
  intro p e R s m args below meth c H locs cells slots ls F h1 h2 h3 h4 hR hL hl
  have hW := F.2.2.2.2.2.2.1
  have cb := am_cb (mc1 := mc1) (ms1 := ms1) (M1 := M1) G hW hO hd1 h1 h2 args
  refine am_after (a9 := (as.map (am_rel g)).toArray) F h1 h2 h3 h4 hL hl ?_ kk
  rcases hlk with hlk | ⟨host, hlk⟩
  · exact va_runS (Ts := am_T) ⟨F.1, F.2.1, F.2.2.1, F.2.2.2.2.2.1, am_hts G hW args⟩ (am_met hO hlen hnt k1) ⟨⟨cb.1, cb.2.1, cb.2.2.1, cb.2.2.2.1, cb.2.2.2.2.1, cb.2.2.2.2.2.1, cb.2.2.2.2.2.2.1, cb.2.2.2.2.2.2.2.1, cb.2.2.2.2.2.2.2.2.1, cb.2.2.2.2.2.2.2.2.2, am_w G hW args hlk rfl⟩, am_w G hW args hs rfl⟩ (am_ps hW hR) rfl (by rw [List.length_map]; exact hn) hl.1 (am_stk hst) (am_rest hroom) hd ⟨by omega, by omega⟩
  · exact va_runSN (Ts := am_T) ⟨F.1, F.2.1, F.2.2.1, F.2.2.2.2.2.1, am_hts G hW args⟩ (am_met hO hlen hnt k1) ⟨⟨⟨cb.1, cb.2.1, cb.2.2.1, cb.2.2.2.1, cb.2.2.2.2.1, cb.2.2.2.2.2.1⟩, cb.2.2.2.2.2.2.1, cb.2.2.2.2.2.2.2.1, cb.2.2.2.2.2.2.2.2.1, cb.2.2.2.2.2.2.2.2.2, va_Nw.use rfl (va_Nw.warmM hW (va_Nw.of rfl (G.1 _ hlk)))⟩, am_w G hW args hs rfl, trivial⟩ (am_ps hW hR) rfl (by rw [List.length_map]; exact hn) hl.1 (am_stk hst) (am_rest hroom) hd ⟨by omega, by omega⟩
theorem kr_callV (G : am_G g) {o ci N : Nat} {T : u_T} (hc : vwCl[ci]? = some (M1.1.cls, T, N)) (ho : σ.1[o]? = some (.inl ci)) (hO : am_MO M1 n) (hs : Cond.instanceMethod M1.1 ∈ lw_tbl) (hsel : Cond.selects M1.1.cls M1.1 M1.1 ∈ lw_tbl) (hlk : am_ML M.1.cls idx M1.1) (hd : decode M.2.1 pc = .ok (.invokevirtual idx, 3)) (hn : as.length = n) (hlen : (lg_sl (.ref o :: as)).length ≤ M1.2.2.1) (hst : stk = as.reverse ++ .ref o :: st) (hroom : (st.map fun v => v.category).sum ≤ 8) (hd1 : d1 + 1 ≤ d) (hnt : ∀ σ', ¬ post1 none σ') (k1 : am_K g d1 M1 mc1 ms1 0 (lv_args 0 (.ref o :: as)) [] σ post1) (kk : ∀ v σ', post1 (some v) σ' → am_K g d M mc ms (pc + 3) lv (v.toList ++ st) σ' post) : am_K g d M (mc1 + mc) (ms1 + ms) pc lv stk σ post := by
  intro p e R s m args below meth c H locs cells slots ls F h1 h2 h3 h4 hR hL hl
  have hW := F.2.2.2.2.2.2.1
  have cb := am_cb (mc1 := mc1) (ms1 := ms1) (M1 := M1) G hW hO hd1 h1 h2 args
  have hpv : PreV s H M1.1.cls (am_b0 g + o) (am_Pc g (.ref o :: as) σ) (as.map (am_rel g)) := ⟨am_blind g _ σ, va_recv (am_hK G hW) (am_P1 (am_obj hR ho hc)) (q0 := 0) hc rfl, (am_ps hW hR).2⟩
  have hst' : (F0 m pc ls (stk.map (am_rel g))).stack = (as.map (am_rel g)).reverse ++ .ref (am_b0 g + o) :: st.map (am_rel g) := by
    show stk.map (am_rel g) = _
    rw [hst, List.map_append, List.map_reverse]
    rfl
  refine am_after (a9 := (Value.ref (am_b0 g + o) :: as.map (am_rel g)).toArray) F h1 h2 h3 h4 hL hl ?_ kk
  rcases hlk with hlk | ⟨host, hlk⟩
  · exact va_runV (Ts := am_T) ⟨F.1, F.2.1, F.2.2.1, F.2.2.2.2.2.1, am_hts G hW args⟩ (am_met hO hlen hnt k1) ⟨⟨cb.1, cb.2.1, cb.2.2.1, cb.2.2.2.1, cb.2.2.2.2.1, cb.2.2.2.2.2.1, cb.2.2.2.2.2.2.1, cb.2.2.2.2.2.2.2.1, cb.2.2.2.2.2.2.2.2.1, cb.2.2.2.2.2.2.2.2.2, am_w G hW args hlk rfl⟩, am_w G hW args hs rfl, am_w G hW args hsel rfl⟩ hpv rfl (by rw [List.length_map]; exact hn) hl.1 hst' (am_rest hroom) hd ⟨by omega, by omega⟩
  · exact va_runVN (Ts := am_T) ⟨F.1, F.2.1, F.2.2.1, F.2.2.2.2.2.1, am_hts G hW args⟩ (am_met hO hlen hnt k1) ⟨⟨⟨cb.1, cb.2.1, cb.2.2.1, cb.2.2.2.1, cb.2.2.2.2.1, cb.2.2.2.2.2.1⟩, cb.2.2.2.2.2.2.1, cb.2.2.2.2.2.2.2.1, cb.2.2.2.2.2.2.2.2.1, cb.2.2.2.2.2.2.2.2.2, va_Nw.use rfl (va_Nw.warmM hW (va_Nw.of rfl (G.1 _ hlk)))⟩, am_w G hW args hs rfl, am_w G hW args hsel rfl⟩ hpv rfl (by rw [List.length_map]; exact hn) hl.1 hst' (am_rest hroom) hd ⟨by omega, by omega⟩
theorem kr_callI (G : am_G g) {o : Nat} (hO : am_MO M1 n) (hret : M1.2.2.2.1 = none) (hnm : M1.1.name = "<init>") (hs : Cond.instanceMethod M1.1 ∈ lw_tbl) (hlk : am_ML M.1.cls idx M1.1) (hd : decode M.2.1 pc = .ok (.invokespecial idx, 3)) (hn : as.length = n) (hlen : (lg_sl (.ref o :: as)).length ≤ M1.2.2.1) (hst : stk = as.reverse ++ .ref o :: st) (hroom : (st.map fun v => v.category).sum ≤ 8) (hd1 : d1 + 1 ≤ d) (hnt : ∀ σ', ¬ post1 none σ') (k1 : am_K g d1 M1 mc1 ms1 0 (lv_args 0 (.ref o :: as)) [] σ post1) (kk : ∀ v σ', post1 (some v) σ' → am_K g d M mc ms (pc + 3) lv (v.toList ++ st) σ' post) : am_K g d M (mc1 + mc) (ms1 + ms) pc lv stk σ post := by
  intro p e R s m args below meth c H locs cells slots ls F h1 h2 h3 h4 hR hL hl
  have hW := F.2.2.2.2.2.2.1
  have cb := am_cb (mc1 := mc1) (ms1 := ms1) (M1 := M1) G hW hO hd1 h1 h2 args
  have hM := am_met hO hlen hnt k1
  rw [hret] at cb hM
  have hst' : (F0 m pc ls (stk.map (am_rel g))).stack = (as.map (am_rel g)).reverse ++ .ref (am_b0 g + o) :: st.map (am_rel g) := by
    show stk.map (am_rel g) = _
    rw [hst, List.map_append, List.map_reverse]
    rfl
  refine am_after (a9 := (Value.ref (am_b0 g + o) :: as.map (am_rel g)).toArray) F h1 h2 h3 h4 hL hl ?_ kk
  rcases hlk with hlk | ⟨host, hlk⟩
  · exact va_runI (Ts := am_T) ⟨F.1, F.2.1, F.2.2.1, F.2.2.2.2.2.1, am_hts G hW args⟩ hM ⟨⟨cb.1, cb.2.1, cb.2.2.1, cb.2.2.2.1, cb.2.2.2.2.1, cb.2.2.2.2.2.1, cb.2.2.2.2.2.2.1, cb.2.2.2.2.2.2.2.1, cb.2.2.2.2.2.2.2.2.1, cb.2.2.2.2.2.2.2.2.2, am_w G hW args hlk rfl⟩, hnm, am_w G hW args hs rfl⟩ (am_ps (as := .ref o :: as) hW hR) rfl (by rw [List.length_map]; exact hn) hl.1 hst' (am_rest hroom) hd ⟨by omega, by omega⟩
  · exact va_runIN (Ts := am_T) ⟨F.1, F.2.1, F.2.2.1, F.2.2.2.2.2.1, am_hts G hW args⟩ hM ⟨⟨⟨cb.1, cb.2.1, cb.2.2.1, cb.2.2.2.1, cb.2.2.2.2.1, cb.2.2.2.2.2.1⟩, cb.2.2.2.2.2.2.1, cb.2.2.2.2.2.2.2.1, cb.2.2.2.2.2.2.2.2.1, cb.2.2.2.2.2.2.2.2.2, va_Nw.use rfl (va_Nw.warmM hW (va_Nw.of rfl (G.1 _ hlk)))⟩, hnm, am_w G hW args hs rfl⟩ (am_ps (as := .ref o :: as) hW hR) rfl (by rw [List.length_map]; exact hn) hl.1 hst' (am_rest hroom) hd ⟨by omega, by omega⟩
theorem am_oi : Cond.instanceMethod Lib.objectInit ∈ lw_tbl ∧ Cond.code Lib.objectInit ⟨#[0xb1]⟩ 1 none ∈ lw_tbl := ⟨by decide +kernel, by decide +kernel⟩
theorem kr_objInit (G : am_G g) {o : Nat} (hlk : Cond.methodLink M.1.cls idx Lib.objectInit ∈ lw_tbl) (hd : decode M.2.1 pc = .ok (.invokespecial idx, 3)) (hd1 : 1 ≤ d) (hroom : (st.map fun v => v.category).sum ≤ 8) (kk : am_K g d M mc ms (pc + 3) lv st σ post) : am_K g d M mc ms pc lv (.ref o :: st) σ post := by
  intro p e R s m args below meth c H locs cells slots ls F h1 h2 h3 h4 hR hL hl
  have hW := F.2.2.2.2.2.2.1
  have hr := am_rest (g := g) (m := m) (pc := pc) (ls := ls) (x := []) hroom
  refine W.objInit F.1 F.2.1 F.2.2.2.2.2.1 (am_w G hW args hlk rfl) (am_w G hW args am_oi.1 rfl) (am_w G hW args am_oi.2 rfl) rfl (by rw [F.2.2.1]; exact hl.1) rfl hd (by omega) ?_ (kk p e R s m args below meth c H locs cells slots ls F h1 h2 h3 h4 hR hL hl)
  show 2 * 0 + _ + 12 ≤ R.locals
  have hr' : 2 * 0 + ((st.map (am_rel g)).map fun v => v.category).sum ≤ 8 := hr
  omega
end KC
end
section
/-! 'throw new NoSuchElementException("..")'. This JDK's NoSuchElementException(String) passes on by its entry 13, not 7: so the library's chain of constructors (Bundle.chainSAtoms) begins one class above it. -/
def am_six : ByteArray := ⟨#[0x2a, 0x2b, 0xb7, 0x00, 0x0d, 0xb1]⟩
theorem am_six_0 : decode am_six 0 = .ok (.aload_n 0, 1) := by decide +kernel
theorem am_six_1 : decode am_six 1 = .ok (.aload_n 1, 1) := by decide +kernel
theorem am_six_2 : decode am_six 2 = .ok (.invokespecial 13, 3) := by decide +kernel
theorem am_six_5 : decode am_six 5 = .ok (.return_, 1) := by decide +kernel
def am_nse : String := "java/util/NoSuchElementException"
def am_rte : String := "java/lang/RuntimeException"
def am_exc : List String := ["java/lang/Exception"]
/-- the words of the throw -/
def am_thr (own : String) (ic : Nat) : List Cond :=
  Bundle.throwableAtoms ++ (Bundle.throwableSAtoms ++ (Bundle.passSAtoms am_nse am_rte 13 am_six ++ (Bundle.chainSAtoms am_rte am_exc ++
  [.methodLink own ic (Bundle.initS am_nse), .instantiable am_nse 6, .selects am_nse Bundle.tFill0 Bundle.tFill0, .selects am_nse Bundle.tFill Bundle.tFill,
   .lays am_nse Bundle.tN "cause" "Ljava/lang/Throwable;", .lays am_nse Bundle.tN "stackTrace" Bundle.steD, .lays am_nse Bundle.tN "suppressedExceptions" Bundle.listD, .lays am_nse Bundle.tN "detailMessage" "Ljava/lang/String;",
   .isRef (.static Bundle.tN "UNASSIGNED_STACK" Bundle.steD), .isRef (.static Bundle.tN "SUPPRESSED_SENTINEL" Bundle.listD),
   .fieldLink Bundle.tN 198 Bundle.tN "backtrace" "Ljava/lang/Object;", .lays Bundle.tN Bundle.tN "backtrace" "Ljava/lang/Object;", .lays am_nse Bundle.tN "backtrace" "Ljava/lang/Object;"])))
set_option maxHeartbeats 4000000 in
set_option maxRecDepth 100000 in
theorem am_ctor {p : Program} {l : Launch} {e : Env} {R : Room} {s : State} {m₀ : MethodId} {args : Array Value} {below : List Frame} {meth : Method} {c : Code} {W0 : State} {locs : List Loc} {cells slots : Nat}
    (X : Stand p l e R s m₀ args below meth c W0 locs cells slots) (hexec : p.tables.exec = Jvm.exec) (htr : e.platform.stackTraces = false) {own : String} {ic : Nat}
    (hown : s.vm.findClass own = some m₀.cls) (h : ∀ a ∈ am_thr own ic, a.before args s = true)
    (hlocs : ∀ x ∈ locs, ∀ cell, s.heap[x.base]? = some cell → cell.vm.isStatics = false)
    {a : Addr} {cX : ClassId} {kX : Class} (hfoundX : s.vm.findClass am_nse = some cX) (hkX : s.vm.classes[cX]? = some kX) (hcell : W0.heap[a]? = some (freshCell cX kX)) (hnew : s.heap.size ≤ a)
    {msg : Value} (hmsg : msg.isRef = true)
    {f : JFrame} (hg : f.method = m₀) (hsize : f.locals.size = c.maxLocals) (hlocked : f.locked = none) (hentered : f.entered = []) {rest : List Value} (hstack : f.stack = msg :: .ref a :: .ref a :: rest)
    (hd6 : decode c.code f.pc = .ok (.invokespecial ic, 3)) (hd9 : decode c.code (f.pc + 3) = .ok (.athrow, 1)) (hout : ∀ x ∈ c.exceptionTable.toList, covers x (f.pc + 3) = false)
    (hRframes : 5 < R.frames) (hRlocals : 2 * f.monitorRoom + ((Value.ref a :: rest).map fun v => v.category).sum + 81 ≤ R.locals) (hlocks : meth.locks = false) :
    ∃ U : State, Steps p.tables e below (W0.setTop f) U ∧ U.status = .running ∧ Ended U below (.threw a) ∧ s.WarmedH U.vm ∧ s.sameButNew ({ U with vm := s.vm } : State) locs cells slots ∧
      ∃ ce : Cell, U.heap[a]? = some ce ∧ ce.vm = .none ∧ s.vm.findClass am_nse = some ce.cls := by
  have howns : e.platform.frameOwnsMonitors = true := by rw [X.admits.platform]
  have hfin : e.platform.finalization = false := by rw [X.admits.platform]
  have hpl : e.platform.magicAccessors = ({} : Platform).magicAccessors := by rw [X.admits.platform]
  have a' : ∀ x, x ∈ am_thr own ic → x.holds args s none s [] = true := fun x hx => h x hx
  obtain ⟨T, Z0, L, -, Y⟩ := ThrowableC.of_atoms (args := args) howns hfin hpl (fun x hx => h x (by simp only [am_thr, List.mem_append]; exact Or.inl hx))
  obtain ⟨Z, M, LZ, LM, hnZ⟩ := Init0T.ofS_atoms (args := args) hpl L Y (fun x hx => h x (by simp only [am_thr, List.mem_append]; exact Or.inr (Or.inl hx)))
  obtain ⟨P2, Ps, hlen, L2, hL, hP2m, hlink2, hlink⟩ := Bundle.chainS (args := args) hpl hnZ am_exc am_rte (by decide) (by decide) (fun x hx => h x (by simp only [am_thr, List.mem_append]; exact Or.inr (Or.inr (Or.inr (Or.inl hx)))))
  obtain ⟨P1, L1, hP1m, hP1s⟩ := PassC.ofS_atoms (args := args) (s := s) hpl (X := am_nse) (Y := am_rte) (by decide) (by decide) am_six_0 am_six_1 am_six_2 am_six_5 (fun x hx => h x (by simp only [am_thr, List.mem_append]; exact Or.inr (Or.inr (Or.inl hx))))
  have hlink1 : P1.sup = P2.m := Option.some.inj (hP1s.symm.trans hP2m)
  have hfound : s.vm.findClass am_nse = some P1.m.cls := findClass_of_methodNamed hP1m
  cases Option.some.inj (hfoundX.symm.trans hfound)
  have tail : ∀ x, x ∈ ([.methodLink own ic (Bundle.initS am_nse), .instantiable am_nse 6, .selects am_nse Bundle.tFill0 Bundle.tFill0, .selects am_nse Bundle.tFill Bundle.tFill,
   .lays am_nse Bundle.tN "cause" "Ljava/lang/Throwable;", .lays am_nse Bundle.tN "stackTrace" Bundle.steD, .lays am_nse Bundle.tN "suppressedExceptions" Bundle.listD, .lays am_nse Bundle.tN "detailMessage" "Ljava/lang/String;",
   .isRef (.static Bundle.tN "UNASSIGNED_STACK" Bundle.steD), .isRef (.static Bundle.tN "SUPPRESSED_SENTINEL" Bundle.listD),
   .fieldLink Bundle.tN 198 Bundle.tN "backtrace" "Ljava/lang/Object;", .lays Bundle.tN Bundle.tN "backtrace" "Ljava/lang/Object;", .lays am_nse Bundle.tN "backtrace" "Ljava/lang/Object;"] : List Cond) → x.before args s = true := fun x hx => h x (by simp only [am_thr, List.mem_append]; exact Or.inr (Or.inr (Or.inr (Or.inr hx))))
  obtain ⟨c1, kX', hc1, hk, hord, -, -, hn6⟩ := Cond.instantiable_spec (tail (.instantiable am_nse 6) (by simp))
  cases Option.some.inj (hc1.symm.trans hfound)
  cases Option.some.inj (hkX.symm.trans hk)
  have hsel0 : selectMethod e.platform s.vm P1.m.cls T.fill0 = .method T.fill0 := by
    obtain ⟨c2, r2, m2, q1, q2, q3, q4, -⟩ := Cond.selects_spec (tail (.selects am_nse Bundle.tFill0 Bundle.tFill0) (by simp))
    cases Option.some.inj (q1.symm.trans hfound)
    cases Option.some.inj (q2.symm.trans (State.methodFound?_of_named Y.fill0 (by decide)))
    cases Option.some.inj (q3.symm.trans Y.fill0)
    rw [Launch.admits_selectMethod X.admits]; exact q4
  have hselF : selectMethod e.platform s.vm P1.m.cls T.fill = .method T.fill := by
    obtain ⟨c2, r2, m2, q1, q2, q3, q4, -⟩ := Cond.selects_spec (tail (.selects am_nse Bundle.tFill Bundle.tFill) (by simp))
    cases Option.some.inj (q1.symm.trans hfound)
    cases Option.some.inj (q2.symm.trans (State.methodFound?_of_named Y.fill (by decide)))
    cases Option.some.inj (q3.symm.trans Y.fill)
    rw [Launch.admits_selectMethod X.admits]; exact q4
  obtain ⟨cellS0, hcS0, hiss⟩ := Y.statics
  obtain ⟨u0, hu0⟩ := Cond.staticRefV Y.unassigned L.unassignedStatic L.statics hcS0 hiss (tail (.isRef (.static Bundle.tN "UNASSIGNED_STACK" Bundle.steD)) (by simp))
  obtain ⟨sen, hsen⟩ := Cond.staticRefV Y.sentinel L.sentinelStatic L.statics hcS0 hiss (tail (.isRef (.static Bundle.tN "SUPPRESSED_SENTINEL" Bundle.listD)) (by simp))
  obtain ⟨ci198, i198, fB, hk198, hg198, ha198, hsB, -, hnB, htB, hffB⟩ := Cond.ownField (t := .object "java/lang/Object") Y.found L.cls (by decide +kernel) (tail (.fieldLink Bundle.tN 198 Bundle.tN "backtrace" "Ljava/lang/Object;") (by simp)) (tail (.lays Bundle.tN Bundle.tN "backtrace" "Ljava/lang/Object;") (by simp)) e.platform hpl
  obtain ⟨cellS, hcS', heS, -, hkeep⟩ := X.same.2.2.2.2.2 T.aS cellS0 hcS0
  have hcellS : W0.heap[T.aS]? = some cellS := hcS'
  have hout' : ∀ i, (⟨T.aS, i⟩ : Loc) ∉ locs := fun i hmem => by
    have := hlocs _ hmem cellS0 hcS0
    rw [hiss] at this; cases this
  have hknownS : cellS.vm ≠ .unknown := by
    rw [heS]; intro hu
    rw [show cellS0.vm = .unknown from hu] at hiss
    cases hiss
  have hneS : T.aS ≠ a := Nat.ne_of_lt (Nat.lt_of_lt_of_le (Array.getElem?_eq_some_iff.mp hcS0).1 hnew)
  obtain ⟨iM, hffM⟩ := Y.msg
  obtain ⟨tyC, dC, hdC, hdnC⟩ := Cond.laysAt hfound hk Y.cause (tail (.lays am_nse Bundle.tN "cause" "Ljava/lang/Throwable;") (by simp))
  obtain ⟨tyS, dS, hdS, hdnS⟩ := Cond.laysAt hfound hk Y.stack (tail (.lays am_nse Bundle.tN "stackTrace" Bundle.steD) (by simp))
  obtain ⟨tyP, dP, hdP, hdnP⟩ := Cond.laysAt hfound hk Y.supp (tail (.lays am_nse Bundle.tN "suppressedExceptions" Bundle.listD) (by simp))
  obtain ⟨tyM, dM, hdM, hdnM⟩ := Cond.laysAt hfound hk hffM (tail (.lays am_nse Bundle.tN "detailMessage" "Ljava/lang/String;") (by simp))
  obtain ⟨tyB, dB, hdB, hdnB⟩ := Cond.laysAt hfound hk hffB (tail (.lays am_nse Bundle.tN "backtrace" "Ljava/lang/Object;") (by simp))
  have bC := Cond.laysApart hdB hdC hdnB hdnC (by rw [hnB, Y.causeName]; decide)
  have bS := Cond.laysApart hdB hdS hdnB hdnS (by rw [hnB, Y.stackName]; decide)
  have bP := Cond.laysApart hdB hdP hdnB hdnP (by rw [hnB, Y.suppName]; decide)
  have hskip : SkipFacts T e.platform s (fun u => u) u0 ((preparedCellV T.toThrowableT (freshCell P1.m.cls kX) a u0 sen).withEntry W0.cur) :=
    ⟨{ ci198 := ci198, i198 := i198, fBack := fB }, ⟨hk198, hg198, ha198, hsB⟩, by
      have := fresh_default (c := P1.m.cls) tyB
      rw [htB] at this
      simpa [preparedCellV, Cell.setSlot, Cell.withEntry, Array.getElem?_setIfInBounds, bC, bS, bP, bC.symm, bS.symm, bP.symm, defaultValue] using this, fun _ _ => rfl⟩
  obtain ⟨tm, methC, cdC, kC, vm₁, hnC, -, -, -, -, -, -, -, hW₁, st1⟩ := Steps.initColdS (tb := p.tables) (e := e) (below := below) (s := s) (U := W0) X.here hexec X.warmed hpl hown (t := Bundle.initS am_nse) rfl rfl (by decide)
    (tail (.methodLink own ic (Bundle.initS am_nse)) (by simp)) (h (.instanceMethod (Bundle.initS am_nse)) (by simp only [am_thr, List.mem_append]; exact Or.inr (Or.inr (Or.inl (by simp [Bundle.passSAtoms]))))) (bytes := am_six) (maxL := 2) (h (.code (Bundle.initS am_nse) am_six 2 none) (by simp only [am_thr, List.mem_append]; exact Or.inr (Or.inr (Or.inl (by simp [Bundle.passSAtoms])))))
    (f := f) hg (a := a) (msg := msg) (rest := .ref a :: rest) hstack hd6
  cases Option.some.inj (hnC.symm.trans hP1m)
  have X₁ := X.noted hW₁
  obtain ⟨vm₂, X₂, st2⟩ := X₁.ctorMessageOffV hexec (g := { f with stack := .ref a :: rest }) hg hsize T L Z LZ M LM (P1 :: P2 :: Ps)
    (fun P hP => by
      rcases List.mem_cons.mp hP with rfl | hP
      · exact L1
      · rcases List.mem_cons.mp hP with rfl | hP
        · exact L2
        · exact hL P hP) ⟨hlink1, hlink2, hlink⟩ (u0 := u0) (sen := sen) (self := a) hmsg (cell := freshCell P1.m.cls kX) (cellS := cellS)
    hcell (fun _ => by simp) (by simp) rfl rfl hsel0 hselF hcellS hneS hknownS (by rw [hkeep _ (hout' _)]; exact hu0) (by rw [hkeep _ (hout' _)]; exact hsen)
    (Takes.of_laid hk hord tyC (by rw [Y.causeType]; rfl)) (Takes.of_laid hk hord tyS (by rw [Y.stackType]; exact fits_refV_array _ u0)) (Takes.of_laid hk hord tyP (by rw [Y.suppType]; exact fits_refV_object _ sen))
    (Takes.of_laid hk hord tyM (by rw [Y.msgType]; exact fits_refV_object _ ⟨msg, hmsg⟩)) Y.objLocals hskip htr [] hd6
    (by simp only [List.length_cons, hlen, am_exc, List.length_nil]; omega) (by simp only [List.length_cons, hlen, am_exc, List.length_nil]; exact hRlocals)
  obtain ⟨hwalk, hrun, hended, hWU, hsame⟩ := X₂.athrowLeaves hexec (g := { f with stack := .ref a :: rest, pc := f.pc + 3 }) hg hlocked hentered hout (a := a) (rest := rest) rfl hd9
  have hlt : a < ((W0.setVm vm₁).setVm vm₂).heap.size := (Array.getElem?_eq_some_iff.mp hcell).1
  have hU := heapAt_setCell_self (s := (W0.setVm vm₁).setVm vm₂) (plainBareV T.toThrowableT (freshCell P1.m.cls kX) a u0 sen msg) hlt
  refine ⟨_, st1 _ (fun acts => ?_), hrun, hended, hWU, hsame.weaken (fun y hy hlt' => ?_) (Nat.le_refl _) (Nat.le_refl _), _, hU, rfl, hfound⟩
  · rw [doInvoke_state]
    exact st2 _ hwalk
  · rcases List.mem_append.mp hy with h1 | h1
    · exact h1
    · exfalso
      have hb : y.base = a := by
        simp only [List.mem_cons, List.not_mem_nil, or_false] at h1
        rcases h1 with rfl | rfl | rfl | rfl | rfl <;> rfl
      rw [hb] at hlt'
      exact Nat.not_lt.mpr hnew hlt'
end
section
/-! the throw as a row; a call that may throw, in a method that catches it and answers 1; calls of such methods -/
def am_isD (w : Cond) : Bool := match w with
  | .declares _ => true
  | _ => false
def am_hw (w : Cond) : Bool := decide (w = .isRef (.static Bundle.tN "UNASSIGNED_STACK" Bundle.steD)) || decide (w = .isRef (.static Bundle.tN "SUPPRESSED_SENTINEL" Bundle.listD)) || decide (w = .laysStatic Bundle.tN "UNASSIGNED_STACK" Bundle.steD) || decide (w = .laysStatic Bundle.tN "SUPPRESSED_SENTINEL" Bundle.listD)
theorem am_thr_ok : (am_thr RX11 155).all (fun w => am_hw w || (decide (w ∈ lw_tbl) && (goodWord w || am_isD w))) = true := by decide +kernel
theorem am_thr_at {g : am_C} (G : am_G g) {s : State} (hW : g.2.1.WarmedH s.vm) (hq : ∀ q : Nat, q < am_b0 g → s.heap[q]? = g.2.1.heap[q]?) (args : Array Value) : ∀ w ∈ am_thr RX11 155, w.before args s = true := by
  intro w hw
  have h := List.all_eq_true.mp am_thr_ok w hw
  have hU : vx_Zq Bundle.tN "UNASSIGNED_STACK" Bundle.steD (fun q => am_b0 g ≤ q) s s.heap := vx_Zq.moved hW.alike (G.2.2.2.2.2.2.1.kept (fun a ha _ => hq a ha))
  have hN : vx_Zq Bundle.tN "SUPPRESSED_SENTINEL" Bundle.listD (fun q => am_b0 g ≤ q) s s.heap := vx_Zq.moved hW.alike (G.2.2.2.2.2.2.2.kept (fun a ha _ => hq a ha))
  rw [Bool.or_eq_true] at h
  rcases h with h | h
  · simp only [am_hw, Bool.or_eq_true, decide_eq_true_eq] at h
    rcases h with ((h | h) | h) | h
    · rw [h]; exact vx_isRefq hU.1
    · rw [h]; exact vx_isRefq hN.1
    · rw [h]; exact hU.2.word
    · rw [h]; exact hN.2.word
  · rw [Bool.and_eq_true, decide_eq_true_eq, Bool.or_eq_true] at h
    obtain ⟨h1, h2 | h2⟩ := h
    · exact am_w G hW args h1 h2
    · match w, h1, h2 with
      | .declares x, h1, _ => exact va_Nw.use rfl (va_Nw.warmD hW (va_Nw.of rfl (G.1 _ h1)))
theorem am_Rep_junk {g : am_C} {σ : am_S} {H H1 : Heap} (hR : am_Rep g σ H) (z : H.size ≤ H1.size) (oq : ∀ q : Nat, q < H.size → H1[q]? = H[q]?) : am_Rep g (σ.1 ++ List.replicate (H1.size - H.size) (.inl 99), σ.2) H1 := by
  obtain ⟨r1, r2, r3, r4⟩ := hR
  refine ⟨?_, fun i y e hi hy => ?_, fun q hq => ?_, fun i j hi => ?_⟩
  · show H1.size = am_b0 g + (σ.1 ++ List.replicate (H1.size - H.size) (Sum.inl 99)).length
    rw [List.length_append, List.length_replicate]
    omega
  · have hy' : am_ce g σ i y = some e := hy
    have hi2 : (σ.1 ++ List.replicate (H1.size - H.size) (Sum.inl 99))[i]? = some y := hi
    by_cases h : i < σ.1.length
    · rw [List.getElem?_append_left h] at hi2
      exact (r2 i y e hi2 hy').kept (oq _ (by show am_b0 g + i < H.size; omega))
    · rw [List.getElem?_append_right (by omega)] at hi2
      have := List.eq_of_mem_replicate (List.mem_of_getElem? hi2)
      subst this
      cases hy'
  · rw [oq q (by omega)]
    exact r3 q hq
  · refine r4 i j ?_
    have hi2 : (σ.1 ++ List.replicate (H1.size - H.size) (Sum.inl 99)).length ≤ i := hi
    rw [List.length_append] at hi2
    omega
theorem am_ini_nse : Cond.initialized am_nse ∈ lw_tbl ∧ Cond.castable am_nse am_nse ∈ lw_tbl := ⟨by decide +kernel, by decide +kernel⟩
section KT
variable {g : am_C} {d : Nat} {M M1 : am_M} {mc ms mc1 ms1 pc d1 n idx : Nat} {lv : List (Nat × Value)} {st stk as : List Value} {σ : am_S} {post post1 : Option (Option Value) → am_S → Prop}
set_option maxHeartbeats 4000000 in
/-- the throw, from behind the text on: the text by whatever step -/
theorem am_throw (G : am_G g) {ik : Nat} {ln : Nat} (hown : M.1.cls = RX11) (hnl : M.1.name ≠ "law") (hh : M.2.2.2.2 = []) (d0 : decode M.2.1 pc = .ok (.new ik, 3)) (d3 : decode M.2.1 (pc + 3) = .ok (.dup, 1)) (d6 : decode M.2.1 (pc + 4 + ln) = .ok (.invokespecial 155, 3)) (d9 : decode M.2.1 (pc + 4 + ln + 3) = .ok (.athrow, 1)) (hk : Cond.classLink RX11 ik am_nse ∈ lw_tbl) (hd1 : 6 ≤ d) (hroom : (st.map fun v => v.category).sum ≤ 8) (hp : ∀ J : List am_sh, (∀ x ∈ J, x = .inl 99) → post none (σ.1 ++ J, σ.2)) (sa : Nat)
    (htext : ∀ (p : Program) (e : Env) (R : Room) (s : State) (m : MethodId) (args : Array Value) (below : List Frame) (meth : Method) (c : Code) (T : State) (locs : List Loc) (cells slots : Nat), p.tables.exec = Jvm.exec → c.code = M.2.1 → s.vm.findClass RX11 = some m.cls → g.2.1.WarmedH s.vm → Stand p g.1 e R s m args below meth c T locs cells slots → ∀ (f : JFrame), f.method = m → f.pc = pc + 4 → ∀ target, Steps p.tables e below (T.setTop { f with pc := f.pc + ln, stack := .ref sa :: f.stack }) target → Steps p.tables e below (T.setTop f) target) :
    am_K g d M (mc + 1) (ms + 6) pc lv st σ post := by
  intro p e R s m args below meth c H locs cells slots ls F h1 h2 h3 h4 hR hL hl T hT X
  have hW := F.2.2.2.2.2.2.1
  have hexec := F.1
  have hb := F.2.1
  have htr : e.platform.stackTraces = false := (show e.platform.stackTraces = g.1.stackTraces by rw [X.admits.platform]).trans G.2.2.2.2.2.1
  have Y := vx_rebase X (R' := { frames := R.frames, locals := R.locals, cells := 1, slots := 6 }) (Nat.le_refl _) (Nat.le_refl _) (by show cells + 1 ≤ R.cells; omega) (by show slots + 6 ≤ R.slots; omega)
  obtain ⟨s', hA⟩ : ∃ z, z = (T.setVm s.vm).setFrames (.invoking m args :: below) := ⟨_, rfl⟩
  rw [← hA] at Y
  have hvm : s'.vm = s.vm := by rw [hA]; rfl
  have hhp : s'.heap = H := by rw [hA]; exact hT
  have hW' : g.2.1.WarmedH s'.vm := by rw [hvm]; exact hW
  have hW0 : s.WarmedH s'.vm := by rw [hvm]; exact State.WarmedH.refl s
  have hwd := am_thr_at G hW' (by rw [hhp]; exact hR.2.2.1) args
  have hown' : s'.vm.findClass RX11 = some m.cls := by rw [hvm, ← hown]; exact F.2.2.2.2.2.1
  have hins : (Cond.instantiable am_nse 6).before args s' = true := hwd _ (by simp [am_thr])
  obtain ⟨vm₁, cX, kX, hfX, hkX, -, -, X₁, st1⟩ := Y.newCold hexec (own := RX11) (C := am_nse) (index := ik) (n := 6) hown' (am_w G hW' args hk rfl) hins (am_w G hW' args am_ini_nse.1 rfl)
    (g := F0 m pc ls (st.map (am_rel g))) rfl (by rw [hb]; exact d0) (Nat.le_refl _) (Nat.le_refl _)
  generalize hT1 : (T.setVm vm₁).pushCell { cls := cX, slots := kX.instanceTypes.map defaultValue, vm := .none } = T1 at X₁ st1
  have hcat : (Value.ref T.heap.size).category = 1 := rfl
  have hcellA : T1.heap[T.heap.size]? = some (freshCell cX kX) := by rw [← hT1]; exact State.heap_pushCell_size _ _
  have d3' : decode c.code (pc + 3) = .ok (.dup, 1) := by rw [hb]; exact d3
  have hrm := am_rest (g := g) (m := m) (pc := pc) (ls := ls) (x := []) hroom
  have hrm' : 2 * 0 + ((st.map (am_rel g)).map fun v => v.category).sum ≤ 8 := hrm
  obtain ⟨U, hsteps, hrun, hend, hWU, hsame, ce, hce, hcv, hcl⟩ := am_ctor X₁ hexec htr (own := RX11) (ic := 155) hown' hwd (fun x hx => nomatch hx) hfX hkX hcellA (by rw [hhp, hT]; exact Nat.le_refl _) (msg := .ref sa) rfl
    (f := { method := m, pc := pc + 4 + ln, locals := ls, stack := .ref sa :: .ref T.heap.size :: .ref T.heap.size :: st.map (am_rel g), locked := none }) rfl (by rw [F.2.2.1]; exact hl.1) rfl rfl (rest := st.map (am_rel g)) rfl
    (by rw [hb]; exact d6) (by rw [hb]; exact d9) (by rw [F.2.2.2.2.2.2.2.2.1.resolve_left hnl, hh]; intro x hx; cases hx) (by show 5 < R.frames; omega) (by show 2 * 0 + _ + 81 ≤ R.locals; simp only [List.map_cons, List.sum_cons, hcat]; omega) F.2.2.2.2.1
  obtain ⟨f1, f2⟩ := vx_frame hsame
  rw [hhp] at f1 f2
  have hWs : s.WarmedH U.vm := State.WarmedH.trans hW0 hWU
  have hall : s.sameButNew ({ U with vm := s.vm } : State) locs (cells + (mc + 1)) (slots + (ms + 6)) := by
    subst hA
    obtain ⟨e1, e2⟩ := hsame
    rw [State.setFrames_setFrames] at e1
    have h2 : (T.setVm s.vm).sameButNew ({ U with vm := s.vm } : State) [] (0 + 1) (0 + 6) := ⟨e1, e2⟩
    have h3 := X.same.trans h2
    rw [List.append_nil] at h3
    exact h3.mono (by omega) (by omega)
  refine ⟨U, ?_, .threw T.heap.size, hrun, hend, Or.inr ⟨T.heap.size, rfl, am_nse, ce, locs, ⟨rfl, _, hp _ (fun x hx => List.eq_of_mem_replicate hx), am_Rep_junk hR f1 (fun q hq => f2 q hq (fun z hz => nomatch hz))⟩, hce, hcv, by rw [hvm] at hcl; exact hcl, hWs, hall, hL⟩⟩
  refine st1 _ ?_
  show Steps p.tables e below (T1.setTop { method := m, pc := pc + 3, locals := ls, stack := .ref T.heap.size :: st.map (am_rel g), locked := none }) _
  jvm_step X₁.here [X₁.here.top, hexec, d3', Value.category]
  exact htext p e _ s' m args below meth c T1 _ _ _ hexec hb hown' hW' X₁ { method := m, pc := pc + 4, locals := ls, stack := .ref T.heap.size :: .ref T.heap.size :: st.map (am_rel g), locked := none } rfl rfl _ hsteps
theorem kr_throwS (G : am_G g) {ik is : Nat} {tx : String} (hown : M.1.cls = RX11) (hnl : M.1.name ≠ "law") (hh : M.2.2.2.2 = []) (d0 : decode M.2.1 pc = .ok (.new ik, 3)) (d3 : decode M.2.1 (pc + 3) = .ok (.dup, 1)) (d4 : decode M.2.1 (pc + 4) = .ok (.ldc is, 2)) (d6 : decode M.2.1 (pc + 6) = .ok (.invokespecial 155, 3)) (d9 : decode M.2.1 (pc + 9) = .ok (.athrow, 1)) (hk : Cond.classLink RX11 ik am_nse ∈ lw_tbl) (hs : Cond.stringRef RX11 is tx ∈ lw_tbl) (hd1 : 6 ≤ d) (hroom : (st.map fun v => v.category).sum ≤ 8) (hp : ∀ J : List am_sh, (∀ x ∈ J, x = .inl 99) → post none (σ.1 ++ J, σ.2)) : am_K g d M (mc + 1) (ms + 6) pc lv st σ post := by
  refine am_throw G (ln := 2) hown hnl hh d0 d3 d6 d9 hk hd1 hroom hp (g.2.2.2.2.2.1 (am_sx RX11 is)) ?_
  intro p e R s m args below meth c T locs cells slots hx hb ho hW X f hf hpc target htg
  have hstr := vk_R.warm hW (G.2.2.2.2.1 _ _ _ hs)
  have h1 : decode c.code f.pc = .ok (.ldc is, 2) := by rw [hb, hpc]; exact d4
  exact X.ldcString hx (own := RX11) (text := tx) (index := is) ho hstr.1 hstr.2 hf h1 target htg
theorem kr_throwSW (G : am_G g) {ik is : Nat} {tx : String} (hown : M.1.cls = RX11) (hnl : M.1.name ≠ "law") (hh : M.2.2.2.2 = []) (d0 : decode M.2.1 pc = .ok (.new ik, 3)) (d3 : decode M.2.1 (pc + 3) = .ok (.dup, 1)) (d4 : decode M.2.1 (pc + 4) = .ok (.ldc_w is, 3)) (d6 : decode M.2.1 (pc + 7) = .ok (.invokespecial 155, 3)) (d9 : decode M.2.1 (pc + 10) = .ok (.athrow, 1)) (hk : Cond.classLink RX11 ik am_nse ∈ lw_tbl) (hs : Cond.stringRef RX11 is tx ∈ lw_tbl) (hd1 : 6 ≤ d) (hroom : (st.map fun v => v.category).sum ≤ 8) (hp : ∀ J : List am_sh, (∀ x ∈ J, x = .inl 99) → post none (σ.1 ++ J, σ.2)) : am_K g d M (mc + 1) (ms + 6) pc lv st σ post := by
  refine am_throw G (ln := 3) hown hnl hh d0 d3 d6 d9 hk hd1 hroom hp (g.2.2.2.2.2.1 (am_sx RX11 is)) ?_
  intro p e R s m args below meth c T locs cells slots hx hb ho hW X f hf hpc target htg
  have hstr := vk_R.warm hW (G.2.2.2.2.1 _ _ _ hs)
  have h1 : decode c.code f.pc = .ok (.ldc_w is, 3) := by rw [hb, hpc]; exact d4
  exact X.ldcStringW hx (own := RX11) (text := tx) (index := is) ho hstr.1 hstr.2 hf h1 target htg
theorem am_vmet (hO : am_MO M1 n) (hlen : (lg_sl as).length ≤ M1.2.2.1) (k : am_K g d M1 mc ms 0 (lv_args 0 as) [] σ post) : vx_Met g.1 M1.1 [Cond.code M1.1 M1.2.1 M1.2.2.1 M1.2.2.2.1] (am_rm d mc ms) (am_Pc g as σ) (am_Qc g post) (am_Xc g post) mc ms (fun q => am_b0 g ≤ q) := by
  refine vx_ofW (cc := M1.2.1) (maxL := M1.2.2.1) (ret := M1.2.2.2.1) hO.1 rfl ?_
  intro p e s m args below meth c s₁ B hml _ hv
  obtain ⟨rfl, hR, hW⟩ := hv
  rw [lg_entry_eq]
  have hl := lv_entry (as.map (am_rel g)) (n := M1.2.2.1) (by rw [am_sl]; exact hlen)
  rw [am_args] at hl
  have hw := k p e (am_rm d mc ms) s m (as.map (am_rel g)).toArray below meth c s.heap [] 0 0 _ (am_body hO B hml hR hW) (Nat.le_refl _) (Nat.le_refl _) (by show 0 + mc ≤ mc; omega) (by show 0 + ms ≤ ms; omega) hR (fun q h => by cases h) hl
  rw [Nat.zero_add, Nat.zero_add] at hw
  exact hw
set_option maxHeartbeats 4000000 in
theorem kr_try (G : am_G g) {o ci N : Nat} {T : u_T} (hc : vwCl[ci]? = some (M1.1.cls, T, N)) (ho : σ.1[o]? = some (.inl ci)) (hO : am_MO M1 n) (hs : Cond.instanceMethod M1.1 ∈ lw_tbl) (hsel : Cond.selects M1.1.cls M1.1 M1.1 ∈ lw_tbl) (hlk : Cond.methodLink M.1.cls idx M1.1 ∈ lw_tbl) (hd : decode M.2.1 pc = .ok (.invokevirtual idx, 3)) (hn : as.length = n) (hlen : (lg_sl (.ref o :: as)).length ≤ M1.2.2.1) (hst : stk = as.reverse ++ .ref o :: st) (hroom : (st.map fun v => v.category).sum ≤ 8) (hd1 : d1 + 1 ≤ d)
    {ta tb th tc li : Nat} (hnl : M.1.name ≠ "law") (hh : M.2.2.2.2 = [(ta, tb, th, tc)]) (hcov : covers ⟨ta, tb, th, tc⟩ pc = true) (hct : tc ≠ 0) (hck : Cond.classLink M.1.cls tc am_nse ∈ lw_tbl) (dh : decode M.2.1 th = .ok (.astore li, 2)) (di : decode M.2.1 (th + 2) = .ok (.iconst 1, 1)) (dr : decode M.2.1 (th + 2 + 1) = .ok (.ireturn, 1)) (hli : li < M.2.2.1) (hret : M.2.2.2.1 = some .int)
    (k1 : am_K g d1 M1 mc1 ms1 0 (lv_args 0 (.ref o :: as)) [] σ post1) (kk : ∀ v σ', post1 (some v) σ' → am_K g d M mc ms (pc + 3) lv (v.toList ++ st) σ' post) (kx : ∀ σ', post1 none σ' → post (some (some (.int 1))) σ') : am_K g d M (mc1 + mc) (ms1 + ms) pc lv stk σ post := by
  intro p e R s m args below meth c H locs cells slots ls F h1 h2 h3 h4 hR hL hl
  have hW := F.2.2.2.2.2.2.1
  have cb := am_cb (mc1 := mc1) (ms1 := ms1) (M1 := M1) G hW hO hd1 h1 h2 args
  have hpv : PreV s H M1.1.cls (am_b0 g + o) (am_Pc g (.ref o :: as) σ) (as.map (am_rel g)) := ⟨am_blind g _ σ, va_recv (am_hK G hW) (am_P1 (am_obj hR ho hc)) (q0 := 0) hc rfl, (am_ps hW hR).2⟩
  have hst' : (F0 m pc ls (stk.map (am_rel g))).stack = (as.map (am_rel g)).reverse ++ .ref (am_b0 g + o) :: st.map (am_rel g) := by
    show stk.map (am_rel g) = _
    rw [hst, List.map_append, List.map_reverse]
    rfl
  have hr := vx_runV (Ts := am_T) ⟨F.1, F.2.1, F.2.2.1, F.2.2.2.2.2.1, am_hts G hW args⟩ (am_vmet hO hlen k1) (cells := cells) (slots := slots) (e := e) (below := below) (meth := meth) (locs := locs) ⟨⟨cb.1, cb.2.1, cb.2.2.1, cb.2.2.2.1, cb.2.2.2.2.1, cb.2.2.2.2.2.1, cb.2.2.2.2.2.2.1, cb.2.2.2.2.2.2.2.1, cb.2.2.2.2.2.2.2.2.1, cb.2.2.2.2.2.2.2.2.2, am_w G hW args hlk rfl⟩, am_w G hW args hs rfl, am_w G hW args hsel rfl⟩ hpv rfl (by rw [List.length_map]; exact hn) hl.1 hst' (am_rest hroom) hd ⟨by omega, by omega⟩
  intro T' hT X
  rcases hr T' hT X with ⟨v, st₀, t, T2, L, h0, X', hL', e1, e2, ⟨v', σ', ho', hp', hR'⟩, stp⟩ | ⟨q, st₀, t, T2, L, E, ce, h0, X', hL', e1, e2, ⟨hE, σ', hp', hR'⟩, hce, hcv, hcl, stp⟩
  · cases ho'
    rw [← Nat.add_assoc, ← Nat.add_assoc]
    have hw := kk v' σ' hp' p e R s m args below meth c T2.heap (locs ++ L) (cells + mc1) (slots + ms1) ls F h1 h2 (by omega) (by omega) (by rw [e1]; exact hR') (fun q hq => by
      rcases List.mem_append.mp hq with h | h
      · exact hL q h
      · exact hL' q h) hl
    obtain ⟨t2, a1, b1⟩ := hw T2 rfl X'
    refine ⟨t2, stp t2 ?_, b1⟩
    have he : (v'.map (am_rel g)).toList ++ st.map (am_rel g) = (v'.toList ++ st).map (am_rel g) := by cases v' <;> rfl
    show Steps p.tables e below (T2.setTop (F0 m (pc + 3) ls ((v'.map (am_rel g)).toList ++ st.map (am_rel g)))) t2
    rw [he]
    exact a1
  · subst hE
    have hwx : vx_W p g.1 e R s m args below meth c T2.heap (locs ++ L) (cells + mc1) (slots + ms1) (vx_MQ below (am_Qc g post) (am_Xc g post) args s (cells + (mc1 + mc)) (slots + (ms1 + ms)) (fun q => am_b0 g ≤ q)) (F0 m pc ls (st.map (am_rel g))) q := by
      refine vx_catch (own := M.1.cls) (name := am_nse) (E := am_nse) (ce := ce) F.2.2.2.2.2.1 [] ⟨ta, tb, th, tc⟩ [] (by rw [F.2.2.2.2.2.2.2.2.1.resolve_left hnl, hh]; rfl) (fun z hz => by cases hz) hcov hct (am_w G hW args hck rfl) (va_Nw.use rfl (va_Nw.warmC hW (va_Nw.of rfl (G.1 _ am_ini_nse.2)))) (by rw [e1]; exact hce) hcv hcl ?_
      refine lv_astore F.1 F.2.1 dh hl hli rfl (fun ls' h' => ?_)
      refine lv_iconst (v := 1) F.1 F.2.1 di (by decide) ?_
      rw [← Nat.add_assoc, ← Nat.add_assoc]
      refine W.widen (Nat.le_add_right _ mc) (Nat.le_add_right _ ms) (vx_ret ?_)
      exact W.iret F.1 F.2.1 (F.2.2.2.1.trans hret) (fun t3 ht3 _ => ⟨some (.int 1), σ', rfl, kx σ' hp', by rw [ht3, e1]; exact hR'⟩) (fun z hz => by
        rcases List.mem_append.mp hz with h | h
        · exact hL z h
        · exact hL' z h) dr F.2.2.2.2.1
    obtain ⟨t2, a1, b1⟩ := hwx T2 rfl X'
    exact ⟨t2, stp.trans a1, b1⟩
/-- a method with a table -/
def am_MW (M : am_M) (n : Nat) : Prop := plainName M.1.cls = true ∧ Cond.codeWith M.1 M.2.1 M.2.2.1 M.2.2.2.1 M.2.2.2.2 ∈ lw_tbl ∧ Cond.initialized M.1.cls ∈ lw_tbl ∧ (M.1.cls ≠ "java/lang/invoke/MethodHandle" ∧ M.1.cls ≠ "java/lang/invoke/VarHandle") ∧ (parseMethodDescriptor M.1.desc).map (fun d => d.parameters.length) = some n ∧ M.2.2.1 ≤ 21
theorem am_metW (hO : am_MW M1 n) (hlen : (lg_sl as).length ≤ M1.2.2.1) (hnt : ∀ σ', ¬ post none σ') (k : am_K g d M1 mc ms 0 (lv_args 0 as) [] σ post) : Met g.1 M1.1 [Cond.codeWith M1.1 M1.2.1 M1.2.2.1 M1.2.2.2.1 M1.2.2.2.2] (am_rm d mc ms) (am_Pc g as σ) (am_Qc g post) mc ms (fun q => am_b0 g ≤ q) := by
  refine va_MetW (cc := M1.2.1) (maxL := M1.2.2.1) (ret := M1.2.2.2.1) (hh := M1.2.2.2.2) hO.1 rfl ?_
  intro p e s m args below meth c s₁ B hml hv
  obtain ⟨rfl, hR, hW⟩ := hv
  rw [lg_entry_eq]
  have hl := lv_entry (as.map (am_rel g)) (n := M1.2.2.1) (by rw [am_sl]; exact hlen)
  rw [am_args] at hl
  have hF : am_F g M1 p s m meth c := ⟨B.exec, B.bytes, hml, B.returns, B.notSynchronized, findClass_of_methodNamed B.named, hW, fun _ => (name_of_methodNamed B.named B.method).1, Or.inr (vx_table (x := M1.1) B (atoms_spec (ws := [Cond.codeWith M1.1 M1.2.1 M1.2.2.1 M1.2.2.2.1 M1.2.2.2.2]) B.pre _ List.mem_cons_self)), by rw [hR.1]; exact Nat.le_add_right _ _, hR.2.2.1⟩
  have hw := k p e (am_rm d mc ms) s m (as.map (am_rel g)).toArray below meth c s.heap [] 0 0 _ hF (Nat.le_refl _) (Nat.le_refl _) (by show 0 + mc ≤ mc; omega) (by show 0 + ms ≤ ms; omega) hR (fun q h => by cases h) hl
  rw [Nat.zero_add, Nat.zero_add] at hw
  refine am_wmono ?_ hw
  intro t ht
  obtain ⟨o, a1, a2, a3 | ⟨q, -, E, ce, L, ⟨-, σ', h9, -⟩, -⟩⟩ := ht
  · exact ⟨o, a1, a2, a3⟩
  · exact absurd h9 (hnt σ')
theorem kr_callSW (G : am_G g) (hO : am_MW M1 n) (hs : Cond.static M1.1 ∈ lw_tbl) (hlk : Cond.methodLink M.1.cls idx M1.1 ∈ lw_tbl) (hd : decode M.2.1 pc = .ok (.invokestatic idx, 3)) (hn : as.length = n) (hlen : (lg_sl as).length ≤ M1.2.2.1) (hst : stk = as.reverse ++ st) (hroom : (st.map fun v => v.category).sum ≤ 8) (hd1 : d1 + 1 ≤ d) (hnt : ∀ σ', ¬ post1 none σ') (k1 : am_K g d1 M1 mc1 ms1 0 (lv_args 0 as) [] σ post1) (kk : ∀ v σ', post1 (some v) σ' → am_K g d M mc ms (pc + 3) lv (v.toList ++ st) σ' post) : am_K g d M (mc1 + mc) (ms1 + ms) pc lv stk σ post := by
  intro p e R s m args below meth c H locs cells slots ls F h1 h2 h3 h4 hR hL hl
  have hW := F.2.2.2.2.2.2.1
  obtain ⟨hO1, hO2, hO3, hO4, hO5, hO6⟩ := hO
  refine am_after (a9 := (as.map (am_rel g)).toArray) F h1 h2 h3 h4 hL hl ?_ kk
  refine vx_runSW (n := n) (Ts := am_T) ⟨F.1, F.2.1, F.2.2.1, F.2.2.2.2.2.1, am_hts G hW args⟩ (am_metW (d := d1) (mc := mc1) (ms := ms1) ⟨hO1, hO2, hO3, hO4, hO5, hO6⟩ hlen hnt k1) ⟨⟨rfl, rfl, ?_, ?_, ?_, List.mem_cons_self⟩, ?_, am_w G hW args hO3 rfl, hO4, ?_, am_w G hW args hlk rfl, am_w G hW args hs rfl⟩ (am_ps hW hR) rfl (by rw [List.length_map]; exact hn) hl.1 (am_stk hst) (am_rest hroom) hd ⟨by omega, by omega⟩
  · show d1 + 1 ≤ R.frames
    omega
  · show 8 + (M1.2.2.1 + 11) + 40 * d1 ≤ R.locals
    omega
  · intro w hw a' U hU
    rw [List.mem_singleton.mp hw]
    exact am_w G (State.WarmedH.trans hW hU) a' hO2 rfl
  · exact am_w G hW args hO2 rfl
  · intro sig h
    rw [h] at hO5
    exact (Option.some.inj hO5).symm
end KT
end
section
/-! the law's entry: what is known there, as am_G has it -/
def am_s0 : am_S := ([], fun _ _ => 0, fun _ _ => 0, fun _ _ => .null)
def am_usual (k : Nat) : Int32 := ([1, 12, 6, 6, 0, 6, 3, 1] : List Int32).getD k 0
def am_least (k : Nat) : Int32 := ([1, 0, 0, 0, 0, 0, 0, 0] : List Int32).getD k 0
def am_great (k : Nat) : Int32 := ([5, 24, 12, 12, 30, 11, 12, 99] : List Int32).getD k 0
def am_X (L : Nat) (xs : Nat → Int32) : Nat → Option (Nat × (Nat → Int32)) := fun k => if k = 0 then some (L, xs) else if k = 1 then some (8, am_usual) else if k = 2 then some (8, am_least) else if k = 3 then some (8, am_great) else none
def am_strl : List (String × Nat × String) := [("WindowSale$Station", 77, "walk basket honest shy whistle again runner cost window stands"), ("WindowSale$Log", 36, "train at fruit coin up down waits"), ("WindowSale$Sentence", 68, "not open fair ahead price takes bought number"), ("WindowSale$Sentence", 49, "and"), ("WindowSale$Sentence", 62, "or"), ("WindowSale", 153, "no such window"), ("WindowSale", 177, "nothing such of a window"), ("WindowSale", 258, "no such chance"), ("WindowSale", 264, "none can be so"), ("WindowSale", 273, "no such sale"), ("WindowSale", 286, "no such plan"), ("WindowSale", 327, "no such seller"), ("WindowSale", 332, "no such sellers"), ("WindowSale", 380, "it can't be")]
theorem am_strs : lw_tbl.all (fun w => match w with | .stringRef o i t => decide ((o, i, t) ∈ am_strl) | _ => true) = true := by decide +kernel
def am_sa (s : State) (k : Nat) : Nat := match am_strl.find? (fun q => am_sx q.1 q.2.1 == k) with
  | some q => (match (Term.string q.1 q.2.1).eval #[] s none [] s with
    | some (.ref a) => a
    | _ => 0)
  | none => 0
theorem am_strf : am_strl.all (fun q => decide (am_strl.find? (fun r => am_sx r.1 r.2.1 == am_sx q.1 q.2.1) = some q)) = true := by decide +kernel
theorem am_sa_of {s : State} {q : String × Nat × String} (hq : q ∈ am_strl) {a : Nat} (h : (Term.string q.1 q.2.1).eval #[] s none [] s = some (.ref a)) : am_sa s (am_sx q.1 q.2.1) = a := by
  have h1 := of_decide_eq_true (List.all_eq_true.mp am_strf q hq)
  unfold am_sa
  rw [h1]
  show (match (Term.string q.1 q.2.1).eval #[] s none [] s with | some (.ref a) => a | _ => 0) = a
  rw [h]
theorem am_flat_str {b : Nat} {s : State} (hgv : (Jvm.Cond.and given_1 narrow_1).before #[Value.ref b] s = true) : ∀ q ∈ am_strl, (Cond.exactly (Term.string q.1 q.2.1) "java/lang/String").before #[Value.ref b] s = true := by
  have hs := flat_of_before _ hgv
  intro q hq
  simp only [am_strl, List.mem_cons, List.not_mem_nil, or_false] at hq
  rcases hq with rfl | rfl | rfl | rfl | rfl | rfl | rfl | rfl | rfl | rfl | rfl | rfl | rfl | rfl <;> exact hs _ (by decide +kernel)
theorem am_arr {s : State} {args : Array Value} {ty : FieldType} (h : (Cond.arrayClass ty).before args s = true) : ∃ cA : ClassId, ArrOfT s cA ty ∧ s.vm.findClass ("[" ++ ty.toString) = some cA := by
  obtain ⟨cA, kA, comp, h1, h2, h3⟩ := Cond.arrayClass_spec (args := args) (first := s) (o := none) (s := s) (idx := []) h
  exact ⟨cA, fun n z => ⟨fun k h => (by cases h), kA, h2, comp, h3⟩, h1⟩
theorem am_stat {b : Nat} {s : State} {n : String} {f : Nat → Int32} (hl : (Cond.laysStatic "WindowSale$Station" n "[I").before #[Value.ref b] s = true) (hini : (Cond.initialized "WindowSale$Station").before #[Value.ref b] s = true)
    (ha : (Cond.arrayOf (.static "WindowSale$Station" n "[I") .int).before #[Value.ref b] s = true) (hlen : (Cond.eq (.length (.static "WindowSale$Station" n "[I")) (.int 8)).before #[Value.ref b] s = true) (he : ∀ j : Nat, j < 8 → (Cond.eq (.elem (.static "WindowSale$Station" n "[I") (.int (Int32.ofNat j))) (.int (f j))).before #[Value.ref b] s = true) :
    ∃ t : Nat, va_Z "WindowSale$Station" n "[I" (.ref t) (fun q => s.heap.size ≤ q) s s.heap ∧ va_T .int t 8 (fun j => .int (f j)) (fun q => s.heap.size ≤ q) s s.heap := by
  obtain ⟨t, h1, h2⟩ := va_Tof (N := 8) (f := fun j => .int (f j)) (A := fun q => s.heap.size ≤ q) (by decide) ha (va_eqt hlen) (fun j hj => va_eqt (he j hj)) (fun a ha => Nat.not_le.mpr ha)
  exact ⟨t, va_Zof hl hini h1 (fun a ha => Nat.not_le.mpr ha), h2⟩
theorem am_T_ext {s : State} {t : Nat} {f : Nat → Int32} (h : va_T .int t 8 (fun j => .int (f j)) (fun q => s.heap.size ≤ q) s s.heap) : 8 < 2 ^ 31 ∧ ∃ cell : Cell, s.heap[t]? = some cell ∧ s.isArrayOf cell .int ∧ cell.vm ≠ .unknown ∧ (8 ≤ cell.slots.size ∧ cell.slots.size.toInt32 = Int32.ofNat 8) ∧ ∀ j : Nat, j < 8 → cell.slots[j]? = some (.int (f j)) := by
  obtain ⟨cell, h1, h2, h3, h4, h5, h6, -⟩ := h
  exact ⟨by decide, cell, h1, h2, h3, ⟨h4, h5⟩, h6⟩
theorem am_lt8 {P : Nat → Prop} (h0 : P 0) (h1 : P 1) (h2 : P 2) (h3 : P 3) (h4 : P 4) (h5 : P 5) (h6 : P 6) (h7 : P 7) : ∀ j : Nat, j < 8 → P j := by
  intro j hj
  rcases (show j = 0 ∨ j = 1 ∨ j = 2 ∨ j = 3 ∨ j = 4 ∨ j = 5 ∨ j = 6 ∨ j = 7 by omega) with rfl | rfl | rfl | rfl | rfl | rfl | rfl | rfl <;> assumption
set_option maxHeartbeats 4000000 in
set_option maxRecDepth 100000 in
theorem am_start {s : State} (l : Launch) (hlf : l.flags = flags0) {b L : Nat} {xs : Nat → Int32} (hL : L < 2 ^ 31) (hts : ∀ w ∈ lw_tbl, w.before #[Value.ref b] s = true) (hX : va_X b L xs s s.heap) (hgv : (Jvm.Cond.and given_1 narrow_1).before #[Value.ref b] s = true) :
    ∃ g : am_C, g.1 = l ∧ g.2.1 = s ∧ g.2.2.2.2.2.1 0 = b ∧ g.2.2.2.2.2.2 = am_X L xs ∧ am_G g := by
  have hs := flat_of_before _ hgv
  obtain ⟨c0, iS0, hKn0⟩ := u_known (C := RX0) (T := TX0) (N := 3) (n := 3) hts am_lay0.1 (hts (.instantiable RX0 3) (by decide +kernel))
  obtain ⟨c1, iS1, hKn1⟩ := u_known (C := RX1) (T := TX1) (N := 4) (n := 4) hts am_lay1.1 (hts (.instantiable RX1 4) (by decide +kernel))
  obtain ⟨c2, iS2, hKn2⟩ := u_known (C := RX2) (T := TX2) (N := 8) (n := 8) hts am_lay2.1 (hts (.instantiable RX2 8) (by decide +kernel))
  obtain ⟨c3, iS3, hKn3⟩ := u_known (C := RX3) (T := TX3) (N := 3) (n := 3) hts am_lay3.1 (hts (.instantiable RX3 3) (by decide +kernel))
  obtain ⟨c4, iS4, hKn4⟩ := u_known (C := RX4) (T := TX4) (N := 20) (n := 20) hts am_lay4.1 (hts (.instantiable RX4 20) (by decide +kernel))
  obtain ⟨c5, iS5, hKn5⟩ := u_known (C := RX5) (T := TX5) (N := 6) (n := 6) hts am_lay5.1 (hts (.instantiable RX5 6) (by decide +kernel))
  obtain ⟨c6, iS6, hKn6⟩ := u_known (C := RX6) (T := TX6) (N := 9) (n := 9) hts am_lay6.1 (hts (.instantiable RX6 9) (by decide +kernel))
  obtain ⟨c7, iS7, hKn7⟩ := u_known (C := RX7) (T := TX7) (N := 11) (n := 11) hts am_lay7.1 (hts (.instantiable RX7 11) (by decide +kernel))
  obtain ⟨c8, iS8, hKn8⟩ := u_known (C := RX8) (T := TX8) (N := 4) (n := 4) hts am_lay8.1 (hts (.instantiable RX8 4) (by decide +kernel))
  obtain ⟨c9, iS9, hKn9⟩ := u_known (C := RX9) (T := TX9) (N := 11) (n := 11) hts am_lay9.1 (hts (.instantiable RX9 11) (by decide +kernel))
  obtain ⟨c10, iS10, hKn10⟩ := u_known (C := RX10) (T := TX10) (N := 2) (n := 2) hts am_lay10.1 (hts (.instantiable RX10 2) (by decide +kernel))
  obtain ⟨c11, iS11, hKn11⟩ := u_known (C := RX11) (T := TX11) (N := 17) (n := 17) hts am_lay11.1 (hts (.instantiable RX11 17) (by decide +kernel))
  obtain ⟨c12, iS12, hKn12⟩ := u_known (C := RX12) (T := TX12) (N := 47) (n := 47) hts am_lay12.1 (hts (.instantiable RX12 47) (by decide +kernel))
  obtain ⟨dC, dI, hKc⟩ : ∃ (dC : Nat → ClassId) (dI : Nat → Nat → Nat), ∀ (k : Nat) (q : vw_C), vwCl[k]? = some q → u_Kn s q.1 q.2.1 q.2.2 (dC k) (dI k) := by
    refine ⟨fun k => if k = 0 then c0 else if k = 1 then c1 else if k = 2 then c2 else if k = 3 then c3 else if k = 4 then c4 else if k = 5 then c5 else if k = 6 then c6 else if k = 7 then c7 else if k = 8 then c8 else if k = 9 then c9 else if k = 10 then c10 else if k = 11 then c11 else c12, fun k => if k = 0 then iS0 else if k = 1 then iS1 else if k = 2 then iS2 else if k = 3 then iS3 else if k = 4 then iS4 else if k = 5 then iS5 else if k = 6 then iS6 else if k = 7 then iS7 else if k = 8 then iS8 else if k = 9 then iS9 else if k = 10 then iS10 else if k = 11 then iS11 else iS12, ?_⟩
    intro k q hq
    match k, hq with
    | 0, hq => cases hq; exact hKn0
    | 1, hq => cases hq; exact hKn1
    | 2, hq => cases hq; exact hKn2
    | 3, hq => cases hq; exact hKn3
    | 4, hq => cases hq; exact hKn4
    | 5, hq => cases hq; exact hKn5
    | 6, hq => cases hq; exact hKn6
    | 7, hq => cases hq; exact hKn7
    | 8, hq => cases hq; exact hKn8
    | 9, hq => cases hq; exact hKn9
    | 10, hq => cases hq; exact hKn10
    | 11, hq => cases hq; exact hKn11
    | 12, hq => cases hq; exact hKn12
    | k + 13, hq => simp at hq
  obtain ⟨aI, hI1, hI2⟩ := am_arr (hts _ am_ac_int)
  obtain ⟨aB, hB1, hB2⟩ := am_arr (hts _ am_ac_byte)
  obtain ⟨aJ, hJ1, hJ2⟩ := am_arr (hts _ am_ac_long)
  obtain ⟨aZ, hZ1, hZ2⟩ := am_arr (hts _ am_ac_boolean)
  obtain ⟨compO, aO, kO, hO1, -, hO3, hO4, hO5⟩ := Cond.arrayOver_spec (hts _ am_ao)
  have hini : (Cond.initialized "WindowSale$Station").before #[Value.ref b] s = true := hts _ (by decide +kernel)
  obtain ⟨t1, hU1, hU2⟩ := am_stat (f := am_usual) (n := "USUAL") (hts _ (by decide +kernel)) hini (hs _ (by decide +kernel)) (hs _ (by decide +kernel)) (am_lt8 (hs _ (by decide +kernel)) (hs _ (by decide +kernel)) (hs _ (by decide +kernel)) (hs _ (by decide +kernel)) (hs _ (by decide +kernel)) (hs _ (by decide +kernel)) (hs _ (by decide +kernel)) (hs _ (by decide +kernel)))
  obtain ⟨t2, hV1, hV2⟩ := am_stat (f := am_least) (n := "LEAST") (hts _ (by decide +kernel)) hini (hs _ (by decide +kernel)) (hs _ (by decide +kernel)) (am_lt8 (hs _ (by decide +kernel)) (hs _ (by decide +kernel)) (hs _ (by decide +kernel)) (hs _ (by decide +kernel)) (hs _ (by decide +kernel)) (hs _ (by decide +kernel)) (hs _ (by decide +kernel)) (hs _ (by decide +kernel)))
  obtain ⟨t3, hW1, hW2⟩ := am_stat (f := am_great) (n := "GREATEST") (hts _ (by decide +kernel)) hini (hs _ (by decide +kernel)) (hs _ (by decide +kernel)) (am_lt8 (hs _ (by decide +kernel)) (hs _ (by decide +kernel)) (hs _ (by decide +kernel)) (hs _ (by decide +kernel)) (hs _ (by decide +kernel)) (hs _ (by decide +kernel)) (hs _ (by decide +kernel)) (hs _ (by decide +kernel)))
  obtain ⟨xa, x0, x1, x2, x3, x9⟩ : ∃ xa : Nat → Nat, xa 0 = b ∧ xa 1 = t1 ∧ xa 2 = t2 ∧ xa 3 = t3 ∧ ∀ k, 10 ≤ k → xa k = am_sa s k := by
    refine ⟨fun k => if k = 0 then b else if k = 1 then t1 else if k = 2 then t2 else if k = 3 then t3 else am_sa s k, rfl, rfl, rfl, rfl, fun k hk => ?_⟩
    show (if k = 0 then b else if k = 1 then t1 else if k = 2 then t2 else if k = 3 then t3 else am_sa s k) = _
    rw [if_neg (by omega), if_neg (by omega), if_neg (by omega), if_neg (by omega)]
  obtain ⟨cA, cA1, cA2, cA3, cA4, cA5⟩ : ∃ cA : FieldType → ClassId, cA .int = aI ∧ cA .byte = aB ∧ cA .long = aJ ∧ cA .boolean = aZ ∧ cA (.object "WindowSale$Scene") = aO :=
    ⟨fun ty => match ty with | .int => aI | .byte => aB | .long => aJ | .boolean => aZ | _ => aO, rfl, rfl, rfl, rfl, rfl⟩
  refine ⟨(l, s, #[Value.ref b], (dC, dI), cA, xa, am_X L xs), rfl, rfl, x0, rfl, hts, ?_, ?_, ?_, ?_, ?_⟩
  · refine ⟨hKc, fun k q hq => ?_⟩
    have hq' : [(cA .int, FieldType.int), (cA .byte, .byte), (cA .long, .long), (cA .boolean, .boolean), (cA (.object "WindowSale$Scene"), .object "WindowSale$Scene")][k]? = some q := hq
    rw [cA1, cA2, cA3, cA4, cA5] at hq'
    match k, hq' with
    | 0, hq' => cases hq'; exact ⟨hI1, hI2⟩
    | 1, hq' => cases hq'; exact ⟨hB1, hB2⟩
    | 2, hq' => cases hq'; exact ⟨hJ1, hJ2⟩
    | 3, hq' => cases hq'; exact ⟨hZ1, hZ2⟩
    | 4, hq' => cases hq'; exact ⟨fun n z => ⟨fun k h => (by cases h), kO, hO3, compO, hO4⟩, kO, compO, hO3, hO4, hO1, hO5⟩
    | k + 5, hq' => simp at hq'
  · intro k n f hk
    have hk' : am_X L xs k = some (n, f) := hk
    unfold am_X at hk'
    by_cases e0 : k = 0
    · rw [if_pos e0] at hk'
      cases hk'
      subst e0
      obtain ⟨scr, a1, a2, a3, a4, a5⟩ := hX
      refine ⟨hL, scr, ?_, a2, a3, ⟨by rw [a4]; exact Nat.le_refl _, by rw [a4]⟩, a5⟩
      show s.heap[xa 0]? = _
      rw [x0]
      exact a1
    · rw [if_neg e0] at hk'
      by_cases e1 : k = 1
      · rw [if_pos e1] at hk'
        cases hk'
        subst e1
        show _ ∧ ∃ cell : Cell, s.heap[xa 1]? = some cell ∧ _
        rw [x1]
        exact am_T_ext hU2
      · rw [if_neg e1] at hk'
        by_cases e2 : k = 2
        · rw [if_pos e2] at hk'
          cases hk'
          subst e2
          show _ ∧ ∃ cell : Cell, s.heap[xa 2]? = some cell ∧ _
          rw [x2]
          exact am_T_ext hV2
        · rw [if_neg e2] at hk'
          by_cases e3 : k = 3
          · rw [if_pos e3] at hk'
            cases hk'
            subst e3
            show _ ∧ ∃ cell : Cell, s.heap[xa 3]? = some cell ∧ _
            rw [x3]
            exact am_T_ext hW2
          · rw [if_neg e3] at hk'
            cases hk'
  · show va_Z _ _ _ (.ref (xa 1)) _ s s.heap ∧ va_Z _ _ _ (.ref (xa 2)) _ s s.heap ∧ va_Z _ _ _ (.ref (xa 3)) _ s s.heap
    rw [x1, x2, x3]
    exact ⟨hU1, hV1, hW1⟩
  · intro own i tx hw
    have hm : (own, i, tx) ∈ am_strl := by
      have h9 := List.all_eq_true.mp am_strs _ hw
      exact of_decide_eq_true h9
    obtain ⟨a, c, cell, k, h1, -⟩ := Cond.exactly_spec (args := #[Value.ref b]) (first := s) (o := none) (s := s) (idx := []) (am_flat_str hgv _ hm)
    have h2 := am_sa_of (q := (own, i, tx)) hm h1
    show vk_R own i tx (xa (am_sx own i)) s
    rw [x9 _ (by unfold am_sx; omega), h2]
    exact vk_R.of (hts _ hw) h1
  · refine ⟨?_, ?_, ?_⟩
    · show l.stackTraces = false
      unfold Launch.stackTraces
      rw [hlf]
      decide +kernel
    · exact vx_Zqof (hts _ (by decide +kernel)) (hts _ (by decide +kernel)) (hs _ (by decide +kernel)) (fun a ha => Nat.not_le.mpr ha)
    · exact vx_Zqof (hts _ (by decide +kernel)) (hts _ (by decide +kernel)) (hs _ (by decide +kernel)) (fun a ha => Nat.not_le.mpr ha)
theorem am_Rep0 {g : am_C} : am_Rep g am_s0 g.2.1.heap := by
  refine ⟨rfl, fun i h e hi _ => ?_, fun _ _ => rfl, fun _ _ _ => ⟨rfl, rfl, rfl⟩⟩
  simp [am_s0] at hi
end
section
/-! small helps for walks that a program writes -/
section KH
variable {g : am_C} {d : Nat} {M M1 : am_M} {mc ms mc1 ms1 pc d1 n idx : Nat} {lv : List (Nat × Value)} {st stk as : List Value} {σ σ1 : am_S} {post post1 : Option (Option Value) → am_S → Prop}
theorem kr_top {x y : Value} (h : x = y) (k : am_K g d M mc ms pc lv (y :: st) σ post) : am_K g d M mc ms pc lv (x :: st) σ post := by rw [h]; exact k
theorem kr_topi {x y : Int32} (h : x = y) (k : am_K g d M mc ms pc lv (.int y :: st) σ post) : am_K g d M mc ms pc lv (.int x :: st) σ post := by rw [h]; exact k
theorem kr_mono (h : ∀ r σ', post1 r σ' → post r σ') (k : am_K g d M mc ms pc lv st σ post1) : am_K g d M mc ms pc lv st σ post := by
  intro p e R s m args below meth c H locs cells slots ls F h1 h2 h3 h4 hR hL hl
  refine am_wmono ?_ (k p e R s m args below meth c H locs cells slots ls F h1 h2 h3 h4 hR hL hl)
  intro t ht
  obtain ⟨o, a1, a2, ⟨⟨v, σ', ho, hp, hr⟩, L9, f1⟩ | ⟨q, e1, E, ce, L9, ⟨e2, σ', h9, hr⟩, e3⟩⟩ := ht
  · exact ⟨o, a1, a2, Or.inl ⟨⟨v, σ', ho, h _ _ hp, hr⟩, L9, f1⟩⟩
  · exact ⟨o, a1, a2, Or.inr ⟨q, e1, E, ce, L9, ⟨e2, σ', h _ _ h9, hr⟩, e3⟩⟩
/-- fewer cells, fewer frames are enough -/
theorem kr_less {d2 mc2 ms2 : Nat} (hd : d2 ≤ d) (hc : mc2 ≤ mc) (hs : ms2 ≤ ms) (k : am_K g d2 M mc2 ms2 pc lv st σ post) : am_K g d M mc ms pc lv st σ post := by
  intro p e R s m args below meth c H locs cells slots ls F h1 h2 h3 h4 hR hL hl
  refine am_wmono ?_ (k p e R s m args below meth c H locs cells slots ls F (by omega) (by omega) (by omega) (by omega) hR hL hl)
  intro t ht
  obtain ⟨o, a1, a2, ⟨h5, L9, ⟨f1, f2, f3⟩, f4⟩ | ⟨q, e1, E, ce, L9, h5, e3, e4, e5, e6, e7, e8⟩⟩ := ht
  · exact ⟨o, a1, a2, Or.inl ⟨h5, L9, ⟨f1, f2, f3.mono (by omega) (by omega)⟩, f4⟩⟩
  · exact ⟨o, a1, a2, Or.inr ⟨q, e1, E, ce, L9, h5, e3, e4, e5, e6, e7.mono (by omega) (by omega), e8⟩⟩
/-- ends that calls come to: just this answer and this memory; some int and this memory -/
abbrev am_to (v : Option Value) (σ1 : am_S) : Option (Option Value) → am_S → Prop := fun r s' => r = some v ∧ s' = σ1
theorem am_to_nt (v : Option Value) (σ1 : am_S) : ∀ σ', ¬ am_to v σ1 none σ' := fun _ h => by cases h.1
abbrev am_any (σ1 : am_S) : Option (Option Value) → am_S → Prop := fun r s' => (∃ x : Int32, r = some (some (.int x))) ∧ s' = σ1
theorem am_any_nt (σ1 : am_S) : ∀ σ', ¬ am_any σ1 none σ' := fun _ h => by obtain ⟨⟨x, h⟩, -⟩ := h; cases h
theorem am_toK {v : Option Value} (k : am_K g d M mc ms pc lv (v.toList ++ st) σ1 post) : ∀ w σ', am_to v σ1 (some w) σ' → am_K g d M mc ms pc lv (w.toList ++ st) σ' post := by
  intro w σ' h
  obtain ⟨h1, rfl⟩ := h
  cases h1
  exact k
theorem am_anyK (k : ∀ x : Int32, am_K g d M mc ms pc lv (.int x :: st) σ1 post) : ∀ w σ', am_any σ1 (some w) σ' → am_K g d M mc ms pc lv (w.toList ++ st) σ' post := by
  intro w σ' h
  obtain ⟨⟨x, h1⟩, rfl⟩ := h
  cases h1
  exact k x
theorem am_ap {S : List am_sh} {o : Nat} {x y : am_sh} (h : S[o]? = some x) : (S ++ [y])[o]? = some x := by
  rw [List.getElem?_append_left (List.getElem?_eq_some_iff.mp h).1]
  exact h
theorem am_last {S : List am_sh} {n : Nat} {x : am_sh} (h : S.length = n) : (S ++ [x])[n]? = some x := by
  rw [← h]
  simp
theorem am_len {S : List am_sh} {n : Nat} {x : am_sh} (h : S.length = n) : (S ++ [x]).length = n + 1 := by simp [h]
theorem kr_newn (G : am_G g) {ci N k : Nat} {C : String} {T : u_T} (hn : σ.1.length = k) (hc : vwCl[ci]? = some (C, T, N)) (hd : decode M.2.1 pc = .ok (.new idx, 3)) (hlk : Cond.classLink M.1.cls idx C ∈ lw_tbl) (hin : Cond.instantiable C N ∈ lw_tbl) (hini : Cond.initialized C ∈ lw_tbl) (kk : am_K g d M mc ms (pc + 3) lv (.ref k :: st) (σ.1 ++ [.inl ci], σ.2) post) : am_K g d M (mc + 1) (ms + N) pc lv st σ post := by
  subst hn
  exact kr_new G hc hd hlk hin hini kk
theorem kr_newn_int (G : am_G g) {x : Int32} {N k : Nat} (hn : σ.1.length = k) (hd : decode M.2.1 pc = .ok (.newarray .int, 2)) (h0 : ¬ x < 0) (hN : x.toNatClampNeg = N) (hb : N ≤ 60000000) (kk : am_K g d M mc ms (pc + 2) lv (.ref k :: st) (σ.1 ++ [.inr (.int, N)], σ.2) post) : am_K g d M (mc + 1) (ms + N) pc lv (.int x :: st) σ post := by
  subst hn
  exact kr_new_int G hd h0 hN hb kk
theorem kr_newn_byte (G : am_G g) {x : Int32} {N k : Nat} (hn : σ.1.length = k) (hd : decode M.2.1 pc = .ok (.newarray .byte, 2)) (h0 : ¬ x < 0) (hN : x.toNatClampNeg = N) (hb : N ≤ 60000000) (kk : am_K g d M mc ms (pc + 2) lv (.ref k :: st) (σ.1 ++ [.inr (.byte, N)], σ.2) post) : am_K g d M (mc + 1) (ms + N) pc lv (.int x :: st) σ post := by
  subst hn
  exact kr_new_byte G hd h0 hN hb kk
theorem kr_newn_long (G : am_G g) {x : Int32} {N k : Nat} (hn : σ.1.length = k) (hd : decode M.2.1 pc = .ok (.newarray .long, 2)) (h0 : ¬ x < 0) (hN : x.toNatClampNeg = N) (hb : N ≤ 60000000) (kk : am_K g d M mc ms (pc + 2) lv (.ref k :: st) (σ.1 ++ [.inr (.long, N)], σ.2) post) : am_K g d M (mc + 1) (ms + N) pc lv (.int x :: st) σ post := by
  subst hn
  exact kr_new_long G hd h0 hN hb kk
theorem kr_newn_boolean (G : am_G g) {x : Int32} {N k : Nat} (hn : σ.1.length = k) (hd : decode M.2.1 pc = .ok (.newarray .boolean, 2)) (h0 : ¬ x < 0) (hN : x.toNatClampNeg = N) (hb : N ≤ 60000000) (kk : am_K g d M mc ms (pc + 2) lv (.ref k :: st) (σ.1 ++ [.inr (.boolean, N)], σ.2) post) : am_K g d M (mc + 1) (ms + N) pc lv (.int x :: st) σ post := by
  subst hn
  exact kr_new_boolean G hd h0 hN hb kk
theorem kr_newnq (G : am_G g) {x : Int32} {N k : Nat} (hn : σ.1.length = k) (hd : decode M.2.1 pc = .ok (.anewarray idx, 3)) (hlk : Cond.classLink M.1.cls idx "WindowSale$Scene" ∈ lw_tbl) (h0 : ¬ x < 0) (hN : x.toNatClampNeg = N) (hb : N ≤ 60000000) (kk : am_K g d M mc ms (pc + 3) lv (.ref k :: st) (σ.1 ++ [.inr (.object "WindowSale$Scene", N)], σ.2) post) : am_K g d M (mc + 1) (ms + N) pc lv (.int x :: st) σ post := by
  subst hn
  exact kr_newq G hd hlk h0 hN hb kk
end KH
end
section
/-! Math.max, Math.min, Math.abs of ints -/
theorem am_math : (Cond.initialized "java/lang/Math" ∈ lw_tbl ∧ Cond.static Lib.Math.max.name ∈ lw_tbl ∧ Cond.code Lib.Math.max.name Lib.Math.max.code 2 (some .int) ∈ lw_tbl) ∧ (Cond.static Lib.Math.min.name ∈ lw_tbl ∧ Cond.code Lib.Math.min.name Lib.Math.min.code 2 (some .int) ∈ lw_tbl) ∧ Cond.static Lib.Math.abs.name ∈ lw_tbl ∧ Cond.code Lib.Math.abs.name Lib.Math.abs.code 1 (some .int) ∈ lw_tbl := by decide +kernel
section KMA
variable {g : am_C} {d : Nat} {M : am_M} {mc ms pc idx : Nat} {lv : List (Nat × Value)} {st : List Value} {σ : am_S} {post : Option (Option Value) → am_S → Prop}
theorem kr_mmax (G : am_G g) {x y : Int32} (hlk : Cond.methodLink M.1.cls idx Lib.Math.max.name ∈ lw_tbl) (hd : decode M.2.1 pc = .ok (.invokestatic idx, 3)) (hd1 : 1 ≤ d) (hroom : (st.map fun v => v.category).sum ≤ 8) (kk : am_K g d M mc ms (pc + 3) lv (.int (if x < y then y else x) :: st) σ post) : am_K g d M mc ms pc lv (.int y :: .int x :: st) σ post := by
  intro p e R s m args below meth c H locs cells slots ls F h1 h2 h3 h4 hR hL hl
  have hW := F.2.2.2.2.2.2.1
  have hr : 2 * 0 + ((st.map (am_rel g)).map fun v => v.category).sum ≤ 8 := am_rest (g := g) (m := m) (pc := pc) (ls := ls) (x := []) hroom
  exact va_mmax F.1 F.2.1 (F.2.2.1.trans hl.1.symm) F.2.2.2.2.2.1 (am_w G hW args hlk rfl) (am_w G hW args am_math.1.2.1 rfl) (am_w G hW args am_math.1.1 rfl) (am_w G hW args am_math.1.2.2 rfl) (by omega) (by omega) (by omega) (by omega) hd (kk p e R s m args below meth c H locs cells slots ls F h1 h2 h3 h4 hR hL hl)
theorem kr_mmin (G : am_G g) {x y : Int32} (hlk : Cond.methodLink M.1.cls idx Lib.Math.min.name ∈ lw_tbl) (hd : decode M.2.1 pc = .ok (.invokestatic idx, 3)) (hd1 : 1 ≤ d) (hroom : (st.map fun v => v.category).sum ≤ 8) (kk : am_K g d M mc ms (pc + 3) lv (.int (if y < x then y else x) :: st) σ post) : am_K g d M mc ms pc lv (.int y :: .int x :: st) σ post := by
  intro p e R s m args below meth c H locs cells slots ls F h1 h2 h3 h4 hR hL hl
  have hW := F.2.2.2.2.2.2.1
  have hr : 2 * 0 + ((st.map (am_rel g)).map fun v => v.category).sum ≤ 8 := am_rest (g := g) (m := m) (pc := pc) (ls := ls) (x := []) hroom
  exact va_mmin F.1 F.2.1 (F.2.2.1.trans hl.1.symm) F.2.2.2.2.2.1 (am_w G hW args hlk rfl) (am_w G hW args am_math.2.1.1 rfl) (am_w G hW args am_math.1.1 rfl) (am_w G hW args am_math.2.1.2 rfl) (by omega) (by omega) (by omega) (by omega) hd (kk p e R s m args below meth c H locs cells slots ls F h1 h2 h3 h4 hR hL hl)
theorem kr_mabs (G : am_G g) {x : Int32} (hlk : Cond.methodLink M.1.cls idx Lib.Math.abs.name ∈ lw_tbl) (hd : decode M.2.1 pc = .ok (.invokestatic idx, 3)) (hd1 : 1 ≤ d) (hroom : (st.map fun v => v.category).sum ≤ 8) (kk : am_K g d M mc ms (pc + 3) lv (.int (if 0 ≤ x then x else 0 - x) :: st) σ post) : am_K g d M mc ms pc lv (.int x :: st) σ post := by
  intro p e R s m args below meth c H locs cells slots ls F h1 h2 h3 h4 hR hL hl
  have hW := F.2.2.2.2.2.2.1
  have hr : 2 * 0 + ((st.map (am_rel g)).map fun v => v.category).sum ≤ 8 := am_rest (g := g) (m := m) (pc := pc) (ls := ls) (x := []) hroom
  exact va_mabs F.1 F.2.1 (F.2.2.1.trans hl.1.symm) F.2.2.2.2.2.1 (am_w G hW args hlk rfl) (am_w G hW args am_math.2.2.1 rfl) (am_w G hW args am_math.1.1 rfl) (am_w G hW args am_math.2.2.2 rfl) (by omega) (by omega) (by omega) (by omega) hd (kk p e R s m args below meth c H locs cells slots ls F h1 h2 h3 h4 hR hL hl)
end KMA
end
section
/-! AN EXECUTOR over my abstract memory, with words that are not known: it tries every road; what it says true of is proved in the parts behind. Written so that the kernel runs it: all that goes into the next state is forced first (the functions go on with K).
Std.Format serves as a type of trees. An int: .nest n .nil (the number n), .tag k .line (the word k), .tag o (.append a b) (the operation o of two). A trie: .append v (.append l r). -/
abbrev ex_F : Type := Std.Format
abbrev ex_V : Type := ex_F ⊕ (Nat ⊕ (Nat ⊕ Option Nat))
abbrev ex_L : Type := List (Nat × ex_V)
/-- pc, instruction, length, next pc, what the links lead to -/
abbrev ex_E : Type := Nat × Instr × Nat × Nat × List Nat
/-- a method: itself, what its words are, its code in blocks of 32 bytes -/
abbrev ex_T : Type := am_M × List Nat × List (List ex_E)
/-- method, the code that comes next, pc, depth left, cells left, slots left, locals, stack -/
abbrev ex_Fr : Type := ex_T × List ex_E × Nat × Nat × Nat × Nat × ex_L × List ex_V
/-- number of cells, whether more cells lie behind them, shapes, ints, longs, references -/
abbrev ex_Me : Type := Nat × Bool × ex_F × ex_F × ex_F × ex_F
abbrev ex_Pa : Type := List (ex_F × Int × Int)
abbrev ex_K : Type := ex_T → List ex_E → Nat → Nat → Nat → Nat → ex_L → List ex_V → List ex_Fr → ex_Me → ex_Pa → Bool
abbrev ex_c (n : Int) : ex_F := .nest n .nil
abbrev ex_len : ex_F := .tag 100 .line
/-! forcing -/
noncomputable def ex_fN {β : Type} (n : Nat) (K : Nat → β) : β := Nat.casesOn n (K 0) (fun m => K (m + 1))
noncomputable def ex_fI {β : Type} (n : Int) (K : Int → β) : β := Int.casesOn n (fun m => ex_fN m fun m => K (.ofNat m)) (fun m => ex_fN m fun m => K (.negSucc m))
def ex_fF {β : Type} (e : ex_F) (K : ex_F → β) : β := match e with
  | .nil => K .nil
  | .line => K .line
  | .align b => K (.align b)
  | .text s => K (.text s)
  | .nest n f => K (.nest n f)
  | .append a b => K (.append a b)
  | .group a b => K (.group a b)
  | .tag n f => K (.tag n f)
theorem ex_fN_eq {β : Type} (n : Nat) (K : Nat → β) : ex_fN n K = K n := by cases n <;> rfl
theorem ex_fI_eq {β : Type} (n : Int) (K : Int → β) : ex_fI n K = K n := by
  cases n with
  | ofNat m => exact ex_fN_eq m (fun m => K (.ofNat m))
  | negSucc m => exact ex_fN_eq m (fun m => K (.negSucc m))
theorem ex_fF_eq {β : Type} (e : ex_F) (K : ex_F → β) : ex_fF e K = K e := by cases e <;> rfl
/-! lists -/
noncomputable def ex_nth {α : Type} (l : List α) (n : Nat) : Option α := List.rec (motive := fun _ => Nat → Option α) (fun _ => none) (fun a _ ih n => Nat.casesOn n (some a) ih) l n
theorem ex_nth_mem {α : Type} {l : List α} {n : Nat} {a : α} (h : ex_nth l n = some a) : a ∈ l := by
  induction l generalizing n with
  | nil => cases h
  | cons b l ih =>
    cases n with
    | zero => cases h; exact List.mem_cons_self
    | succ m => exact List.mem_cons_of_mem _ (ih h)
noncomputable def ex_drop (l : List ex_E) (pc : Nat) : List ex_E := List.rec (motive := fun _ => List ex_E) [] (fun e l ih => bif e.1.beq pc then e :: l else ih) l
theorem ex_drop_mem {l : List ex_E} {pc : Nat} : ∀ e ∈ ex_drop l pc, e ∈ l := by
  induction l with
  | nil => intro e h; exact h
  | cons b l ih =>
    intro e h
    have h' : e ∈ (bif b.1.beq pc then b :: l else ex_drop l pc) := h
    cases hb : b.1.beq pc with
    | true => rw [hb] at h'; exact h'
    | false => rw [hb] at h'; exact List.mem_cons_of_mem _ (ih e h')
noncomputable def ex_look (T : ex_T) (pc : Nat) : List ex_E := match ex_nth T.2.2 (pc / 32) with
  | none => []
  | some b => ex_drop b pc
theorem ex_look_mem {T : ex_T} {pc : Nat} : ∀ e ∈ ex_look T pc, ∃ b ∈ T.2.2, e ∈ b := by
  intro e h
  unfold ex_look at h
  split at h
  · cases h
  · rename_i b hb
    exact ⟨b, ex_nth_mem hb, ex_drop_mem e h⟩
/-! tries -/
theorem ex_beq (k n : Nat) : k.beq n = decide (k = n) := by
  by_cases h : k = n
  · rw [decide_eq_true h, h]; exact Nat.beq_refl n
  · rw [decide_eq_false h]; exact Bool.eq_false_iff.mpr (fun q => h (Nat.eq_of_beq_eq_true q))
def ex_node (t : ex_F) : ex_F × ex_F × ex_F := match t with
  | .append w (.append l r) => (w, l, r)
  | _ => (.nil, .nil, .nil)
noncomputable def ex_get1 (ih : ex_F → Nat → ex_F) (t : ex_F) (k : Nat) : ex_F := match t with
  | .append v (.append l r) => bif k.beq 0 then v else bif (k % 2).beq 1 then ex_fN (k / 2) fun q => ih l q else ex_fN (k / 2 - 1) fun q => ih r q
  | _ => .nil
noncomputable def ex_get (d : Nat) : ex_F → Nat → ex_F := Nat.rec (motive := fun _ => ex_F → Nat → ex_F) (fun _ _ => .nil) (fun _ ih => ex_get1 ih) d
def ex_put1 (ih : ex_F → Nat → ex_F → ex_F) (t : ex_F) (k : Nat) (v : ex_F) : ex_F := match ex_node t with
  | (w, l, r) => bif k.beq 0 then .append v (.append l r) else bif (k % 2).beq 1 then .append w (.append (ih l (k / 2) v) r) else .append w (.append l (ih r (k / 2 - 1) v))
noncomputable def ex_put (d : Nat) : ex_F → Nat → ex_F → ex_F := Nat.rec (motive := fun _ => ex_F → Nat → ex_F → ex_F) (fun t _ _ => t) (fun _ ih => ex_put1 ih) d
noncomputable def ex_set1 (ih : ex_F → Nat → ex_F → (ex_F → Bool) → Bool) (t : ex_F) (k : Nat) (v : ex_F) (K : ex_F → Bool) : Bool := match ex_node t with
  | (w, l, r) => bif k.beq 0 then K (.append v (.append l r)) else bif (k % 2).beq 1 then ex_fN (k / 2) fun q => ih l q v fun l' => K (.append w (.append l' r)) else ex_fN (k / 2 - 1) fun q => ih r q v fun r' => K (.append w (.append l r'))
noncomputable def ex_set (d : Nat) : ex_F → Nat → ex_F → (ex_F → Bool) → Bool := Nat.rec (motive := fun _ => ex_F → Nat → ex_F → (ex_F → Bool) → Bool) (fun t _ _ K => K t) (fun _ ih => ex_set1 ih) d
theorem ex_set_eq (d : Nat) : ∀ (t : ex_F) (k : Nat) (v : ex_F) (K : ex_F → Bool), ex_set d t k v K = K (ex_put d t k v) := by
  induction d with
  | zero => intro t k v K; rfl
  | succ d ih =>
    intro t k v K
    show ex_set1 (ex_set d) t k v K = K (ex_put1 (ex_put d) t k v)
    unfold ex_set1 ex_put1
    rcases ex_node t with ⟨w, l, r⟩
    dsimp only
    rw [ex_fN_eq, ex_fN_eq, ih, ih]
    cases k.beq 0
    · cases (k % 2).beq 1 <;> rfl
    · rfl
theorem ex_get_nil (d k : Nat) : ex_get d .nil k = .nil := by cases d <;> rfl
theorem ex_get_s (d : Nat) (w l r : ex_F) (k : Nat) : ex_get (d + 1) (.append w (.append l r)) k = if k = 0 then w else if k % 2 = 1 then ex_get d l (k / 2) else ex_get d r (k / 2 - 1) := by
  show (bif k.beq 0 then w else bif (k % 2).beq 1 then ex_fN (k / 2) fun q => ex_get d l q else ex_fN (k / 2 - 1) fun q => ex_get d r q) = _
  rw [ex_fN_eq, ex_fN_eq, ex_beq, ex_beq]
  by_cases h : k = 0
  · simp [h]
  · by_cases h2 : k % 2 = 1 <;> simp [h, h2]
theorem ex_get_n (d : Nat) (t : ex_F) (k : Nat) : ex_get (d + 1) t k = ex_get (d + 1) (.append (ex_node t).1 (.append (ex_node t).2.1 (ex_node t).2.2)) k := by
  unfold ex_node
  split
  · rfl
  · rename_i h
    rw [ex_get_s, ex_get_nil, ex_get_nil]
    have e1 : ex_get (d + 1) t k = .nil := by
      show ex_get1 (ex_get d) t k = .nil
      unfold ex_get1
      split
      · exact absurd rfl (h _ _ _)
      · rfl
    rw [e1]
    split
    · rfl
    · split <;> rfl
theorem ex_put_s (d : Nat) (t : ex_F) (k : Nat) (v : ex_F) : ∃ w l r : ex_F, (∀ q, ex_get (d + 1) t q = ex_get (d + 1) (.append w (.append l r)) q) ∧ ex_put (d + 1) t k v = if k = 0 then .append v (.append l r) else if k % 2 = 1 then .append w (.append (ex_put d l (k / 2) v) r) else .append w (.append l (ex_put d r (k / 2 - 1) v)) := by
  refine ⟨(ex_node t).1, (ex_node t).2.1, (ex_node t).2.2, fun q => ex_get_n d t q, ?_⟩
  show ex_put1 (ex_put d) t k v = _
  unfold ex_put1
  rcases ex_node t with ⟨w, l, r⟩
  dsimp only
  rw [ex_beq, ex_beq]
  by_cases h : k = 0
  · simp [h]
  · by_cases h2 : k % 2 = 1 <;> simp [h, h2]
theorem ex_get_put (d : Nat) : ∀ (t : ex_F) (k q : Nat) (v : ex_F), k + 1 < 2 ^ d → q + 1 < 2 ^ d → ex_get d (ex_put d t k v) q = if q = k then v else ex_get d t q := by
  induction d with
  | zero => intro t k q v h; omega
  | succ d ih =>
    intro t k q v hk hq
    obtain ⟨w, l, r, hg, hp⟩ := ex_put_s d t k v
    rw [hp, hg]
    have hpow : 2 ^ (d + 1) = 2 * 2 ^ d := by rw [Nat.pow_succ]; omega
    by_cases h0 : k = 0
    · rw [if_pos h0, ex_get_s, ex_get_s]
      by_cases hq0 : q = 0
      · rw [if_pos hq0, if_pos (by omega)]
      · rw [if_neg (show ¬ q = k by omega), if_neg hq0, if_neg hq0]
    · rw [if_neg h0]
      by_cases h1 : k % 2 = 1
      · rw [if_pos h1, ex_get_s, ex_get_s]
        by_cases hq0 : q = 0
        · rw [if_pos hq0, if_neg (by omega), if_pos hq0]
        · rw [if_neg hq0, if_neg hq0]
          by_cases hq1 : q % 2 = 1
          · rw [if_pos hq1, if_pos hq1, ih _ _ _ _ (by omega) (by omega)]
            by_cases e : q = k
            · rw [if_pos e, if_pos (by omega)]
            · rw [if_neg e, if_neg (by omega)]
          · rw [if_neg hq1, if_neg hq1, if_neg (by omega)]
      · rw [if_neg h1, ex_get_s, ex_get_s]
        by_cases hq0 : q = 0
        · rw [if_pos hq0, if_neg (by omega), if_pos hq0]
        · rw [if_neg hq0, if_neg hq0]
          by_cases hq1 : q % 2 = 1
          · rw [if_pos hq1, if_pos hq1, if_neg (by omega)]
          · rw [if_neg hq1, if_neg hq1, ih _ _ _ _ (by omega) (by omega)]
            by_cases e : q = k
            · rw [if_pos e, if_pos (by omega)]
            · rw [if_neg e, if_neg (by omega)]
end
section
/-! ints with unknown words, intervals, forks -/
def ex_bin (o : Nat) (x y : Int32) : Int32 := match o with
  | 0 => x + y
  | 1 => x - y
  | 2 => x * y
  | 3 => x &&& y
  | 4 => x ||| y
  | 5 => x ^^^ y
  | 6 => x <<< (y &&& 31)
  | 7 => x >>> (y &&& 31)
  | 8 => (x.toUInt32 >>> (y.toUInt32 &&& Int32.toUInt32 31)).toInt32
  | 9 => x / y
  | 10 => x - x / y * y
  | _ => x.toInt8.toInt32
def ex_i (ρ : Nat → Int32) : ex_F → Int32
  | .nest n .nil => Int32.ofInt n
  | .tag k .line => ρ k
  | .tag o (.append a b) => ex_bin o (ex_i ρ a) (ex_i ρ b)
  | _ => 0
def ex_ev (ρ : Nat → Int32) : ex_V → Value
  | .inl e => .int (ex_i ρ e)
  | .inr (.inl n) => .long (Int64.ofNat n)
  | .inr (.inr (.inl o)) => .ref o
  | .inr (.inr (.inr (some k))) => .retAddr k
  | .inr (.inr (.inr none)) => .null
def ex_P (ρ : Nat → Int32) (pa : ex_Pa) : Prop := ∀ q ∈ pa, q.2.1 ≤ (ex_i ρ q.1).toInt ∧ (ex_i ρ q.1).toInt ≤ q.2.2
theorem ex_P.cons {ρ : Nat → Int32} {pa : ex_Pa} {e : ex_F} {lo hi : Int} (h : ex_P ρ pa) (h1 : lo ≤ (ex_i ρ e).toInt) (h2 : (ex_i ρ e).toInt ≤ hi) : ex_P ρ ((e, lo, hi) :: pa) := by
  intro q hq
  rcases List.mem_cons.mp hq with rfl | hq
  · exact ⟨h1, h2⟩
  · exact h q hq
def ex_same : ex_F → ex_F → Bool
  | .nil, .nil => true
  | .line, .line => true
  | .nest a x, .nest b y => decide (a = b) && ex_same x y
  | .tag a x, .tag b y => a.beq b && ex_same x y
  | .append a x, .append b y => ex_same a b && ex_same x y
  | _, _ => false
theorem ex_same_eq {a b : ex_F} (h : ex_same a b = true) : a = b := by
  induction a generalizing b with
  | nil => cases b <;> simp [ex_same] at h ⊢
  | line => cases b <;> simp [ex_same] at h ⊢
  | nest n x ih =>
    cases b <;> simp [ex_same] at h
    rw [h.1, ih h.2]
  | tag n x ih =>
    cases b <;> simp [ex_same] at h
    rw [h.1, ih h.2]
  | append x y ih1 ih2 =>
    cases b <;> simp [ex_same] at h
    rw [ih1 h.1, ih2 h.2]
  | align x => cases b <;> simp [ex_same] at h
  | text x => cases b <;> simp [ex_same] at h
  | group x y => cases b <;> simp [ex_same] at h
/-- what is known of any int, and of one cut by a mask -/
def ex_dv (e : ex_F) (K : Int → Int → Bool) : Bool := match e with
  | .tag 3 (.append _ (.nest (.ofNat c) .nil)) => bif decide (c < 2147483648) then K 0 (.ofNat c) else K (-2147483648) 2147483647
  | _ => K (-2147483648) 2147483647
noncomputable def ex_iv (pa : ex_Pa) (e : ex_F) (K : Int → Int → Bool) : Bool := List.rec (motive := fun _ => Bool) (ex_dv e K) (fun q _ ih => bif ex_same q.1 e then K q.2.1 q.2.2 else ih) pa
theorem ex_and_le (x : Int32) {c : Nat} (hc : c < 2147483648) : 0 ≤ (x &&& Int32.ofInt (.ofNat c)).toInt ∧ (x &&& Int32.ofInt (.ofNat c)).toInt ≤ c := by
  have e1 : (x &&& Int32.ofInt (.ofNat c)).toInt = (x.toBitVec &&& BitVec.ofNat 32 c).toInt := by
    show (x.toBitVec &&& (Int32.ofInt (c : Int)).toBitVec).toInt = _
    rw [Int32.ofInt_eq_ofNat]; rfl
  have e2 : (x.toBitVec &&& BitVec.ofNat 32 c).toNat ≤ c := by
    rw [BitVec.toNat_and]
    refine Nat.le_trans Nat.and_le_right ?_
    rw [BitVec.toNat_ofNat]
    exact Nat.mod_le _ _
  have e3 : (x.toBitVec &&& BitVec.ofNat 32 c).toInt = ((x.toBitVec &&& BitVec.ofNat 32 c).toNat : Int) := by
    rw [BitVec.toInt_eq_toNat_of_lt]
    omega
  rw [e1, e3]
  omega
section EX
variable {ρ : Nat → Int32} {pa : ex_Pa}
theorem ex_dv_ok {e : ex_F} {K : Int → Int → Bool} (h : ex_dv e K = true) : ∃ lo hi, lo ≤ (ex_i ρ e).toInt ∧ (ex_i ρ e).toInt ≤ hi ∧ K lo hi = true := by
  have full : K (-2147483648) 2147483647 = true → ∃ lo hi, lo ≤ (ex_i ρ e).toInt ∧ (ex_i ρ e).toInt ≤ hi ∧ K lo hi = true := fun hk =>
    ⟨_, _, by have := Int32.le_toInt (ex_i ρ e); omega, by have := Int32.toInt_lt (ex_i ρ e); omega, hk⟩
  unfold ex_dv at h
  split at h
  · rename_i a c
    by_cases hc : c < 2147483648
    · rw [decide_eq_true hc] at h
      have := ex_and_le (ex_i ρ a) hc
      exact ⟨_, _, this.1, this.2, h⟩
    · rw [decide_eq_false hc] at h
      exact full h
  · exact full h
theorem ex_iv_ok (hp : ex_P ρ pa) {e : ex_F} {K : Int → Int → Bool} (h : ex_iv pa e K = true) : ∃ lo hi, lo ≤ (ex_i ρ e).toInt ∧ (ex_i ρ e).toInt ≤ hi ∧ K lo hi = true := by
  induction pa with
  | nil => exact ex_dv_ok h
  | cons q pa ih =>
    have h' : (bif ex_same q.1 e then K q.2.1 q.2.2 else ex_iv pa e K) = true := h
    cases hs : ex_same q.1 e with
    | true =>
      rw [hs] at h'
      have := hp q List.mem_cons_self
      rw [ex_same_eq hs] at this
      exact ⟨_, _, this.1, this.2, h'⟩
    | false =>
      rw [hs] at h'
      exact ih (fun z hz => hp z (List.mem_cons_of_mem _ hz)) h'
noncomputable def ex_all (n : Nat) (lo : Int) (K : Int → Bool) : Bool := Nat.rec (motive := fun _ => Int → Bool) (fun _ => true) (fun _ ih v => ex_fI v fun v => K v && ih (v + 1)) n lo
theorem ex_all_ok {K : Int → Bool} (n : Nat) : ∀ {lo : Int}, ex_all n lo K = true → ∀ v : Int, lo ≤ v → v < lo + n → K v = true := by
  induction n with
  | zero => intro lo _ v h1 h2; omega
  | succ n ih =>
    intro lo h v h1 h2
    have h' : (ex_fI lo fun v => K v && ex_all n (v + 1) K) = true := h
    rw [ex_fI_eq, Bool.and_eq_true] at h'
    by_cases e : v = lo
    · rw [e]; exact h'.1
    · exact ih h'.2 v (by omega) (by omega)
/-- an operand: a number where its interval is small -/
noncomputable def ex_opd (pa : ex_Pa) (e : ex_F) (K : ex_Pa → ex_F → Bool) : Bool := match e with
  | .nest n .nil => K pa (.nest n .nil)
  | _ => ex_iv pa e fun lo hi => bif decide (lo = hi) then K pa (.nest lo .nil) else bif decide (hi - lo ≤ 64) then ex_all ((hi - lo).toNat + 1) lo (fun v => K ((e, v, v) :: pa) (.nest v .nil)) else K pa e
theorem ex_of_toInt {x : Int32} {n : Int} (h : x.toInt = n) : Int32.ofInt n = x := by rw [← h, Int32.ofInt_toInt]
theorem ex_opd_ok (hp : ex_P ρ pa) {e : ex_F} {K : ex_Pa → ex_F → Bool} (h : ex_opd pa e K = true) : ∃ pa' e', ex_P ρ pa' ∧ ex_i ρ e' = ex_i ρ e ∧ K pa' e' = true := by
  unfold ex_opd at h
  split at h
  · exact ⟨_, _, hp, rfl, h⟩
  · obtain ⟨lo, hi, h1, h2, h3⟩ := ex_iv_ok hp h
    by_cases e1 : lo = hi
    · rw [decide_eq_true e1] at h3
      exact ⟨_, .nest lo .nil, hp, ex_of_toInt (x := ex_i ρ e) (n := lo) (by omega), h3⟩
    · rw [decide_eq_false e1] at h3
      by_cases e2 : hi - lo ≤ 64
      · rw [decide_eq_true e2] at h3
        simp only [cond_true, cond_false] at h3
        have := ex_all_ok _ h3 (ex_i ρ e).toInt h1 (by omega)
        exact ⟨_, .nest (ex_i ρ e).toInt .nil, hp.cons (e := e) (Int.le_refl _) (Int.le_refl _), ex_of_toInt rfl, this⟩
      · rw [decide_eq_false e2] at h3
        exact ⟨_, _, hp, rfl, h3⟩
/-- a number, by trying all -/
noncomputable def ex_conc (pa : ex_Pa) (e : ex_F) (K : ex_Pa → Int → Bool) : Bool := match e with
  | .nest n .nil => K pa n
  | _ => ex_iv pa e fun lo hi => bif decide (lo = hi) then K pa lo else bif decide (hi - lo ≤ 64) then ex_all ((hi - lo).toNat + 1) lo (fun v => K ((e, v, v) :: pa) v) else false
theorem ex_conc_ok (hp : ex_P ρ pa) {e : ex_F} {K : ex_Pa → Int → Bool} (h : ex_conc pa e K = true) : ∃ pa' n, ex_P ρ pa' ∧ ex_i ρ e = Int32.ofInt n ∧ K pa' n = true := by
  unfold ex_conc at h
  split at h
  · exact ⟨_, _, hp, rfl, h⟩
  · obtain ⟨lo, hi, h1, h2, h3⟩ := ex_iv_ok hp h
    by_cases e1 : lo = hi
    · rw [decide_eq_true e1] at h3
      exact ⟨_, lo, hp, (ex_of_toInt (x := ex_i ρ e) (n := lo) (by omega)).symm, h3⟩
    · rw [decide_eq_false e1] at h3
      by_cases e2 : hi - lo ≤ 64
      · rw [decide_eq_true e2] at h3
        simp only [cond_true, cond_false] at h3
        have := ex_all_ok _ h3 (ex_i ρ e).toInt h1 (by omega)
        exact ⟨_, (ex_i ρ e).toInt, hp.cons (e := e) (Int.le_refl _) (Int.le_refl _), (ex_of_toInt rfl).symm, this⟩
      · rw [decide_eq_false e2] at h3
        cases h3
noncomputable def ex_fold (o : Nat) (a b : ex_F) (K : ex_F → Bool) : Bool := match a with
  | .nest x .nil => (match b with
    | .nest y .nil => ex_fI (ex_bin o (Int32.ofInt x) (Int32.ofInt y)).toInt fun z => K (.nest z .nil)
    | _ => K (.tag o (.append a b)))
  | _ => K (.tag o (.append a b))
theorem ex_fold_ok {o : Nat} {a b : ex_F} {K : ex_F → Bool} (h : ex_fold o a b K = true) : ∃ e, ex_i ρ e = ex_bin o (ex_i ρ a) (ex_i ρ b) ∧ K e = true := by
  unfold ex_fold at h
  split at h
  · split at h
    · rw [ex_fI_eq] at h
      exact ⟨.nest _ .nil, Int32.ofInt_toInt _, h⟩
    · exact ⟨_, rfl, h⟩
  · exact ⟨_, rfl, h⟩
/-- below k, or not -/
noncomputable def ex_lt3 (pa : ex_Pa) (e : ex_F) (k : Int) (Kt Kf : ex_Pa → Bool) : Bool := match e with
  | .nest n .nil => bif decide ((Int32.ofInt n).toInt < k) then Kt pa else Kf pa
  | _ => ex_iv pa e fun lo hi => bif decide (hi < k) then Kt pa else bif decide (k ≤ lo) then Kf pa else ex_fI k fun k => (ex_fI (k - 1) fun k1 => Kt ((e, lo, k1) :: pa)) && Kf ((e, k, hi) :: pa)
theorem ex_lt3_ok (hp : ex_P ρ pa) {e : ex_F} {k : Int} {Kt Kf : ex_Pa → Bool} (h : ex_lt3 pa e k Kt Kf = true) : ∃ pa', ex_P ρ pa' ∧ (((ex_i ρ e).toInt < k ∧ Kt pa' = true) ∨ (¬ (ex_i ρ e).toInt < k ∧ Kf pa' = true)) := by
  unfold ex_lt3 at h
  split at h
  · rename_i n
    by_cases e1 : (Int32.ofInt n).toInt < k
    · rw [decide_eq_true e1] at h
      exact ⟨_, hp, Or.inl ⟨e1, h⟩⟩
    · rw [decide_eq_false e1] at h
      exact ⟨_, hp, Or.inr ⟨e1, h⟩⟩
  · obtain ⟨lo, hi, h1, h2, h3⟩ := ex_iv_ok hp h
    by_cases e1 : hi < k
    · rw [decide_eq_true e1] at h3
      exact ⟨_, hp, Or.inl ⟨by omega, h3⟩⟩
    · rw [decide_eq_false e1] at h3
      by_cases e2 : k ≤ lo
      · rw [decide_eq_true e2] at h3
        exact ⟨_, hp, Or.inr ⟨by omega, h3⟩⟩
      · rw [decide_eq_false e2] at h3
        simp only [cond_false, ex_fI_eq, Bool.and_eq_true] at h3
        by_cases e3 : (ex_i ρ e).toInt < k
        · exact ⟨_, hp.cons h1 (by omega), Or.inl ⟨e3, h3.1⟩⟩
        · exact ⟨_, hp.cons (by omega) h2, Or.inr ⟨e3, h3.2⟩⟩
/-- k, or not -/
noncomputable def ex_eq3 (pa : ex_Pa) (e : ex_F) (k : Int) (Kt Kf : ex_Pa → Bool) : Bool := match e with
  | .nest n .nil => bif decide ((Int32.ofInt n).toInt = k) then Kt pa else Kf pa
  | _ => ex_iv pa e fun lo hi => bif decide (hi < k) then Kf pa else bif decide (k < lo) then Kf pa else bif decide (lo = hi) then Kt pa else ex_fI k fun k => Kt ((e, k, k) :: pa) && ((bif decide (lo < k) then (ex_fI (k - 1) fun k1 => Kf ((e, lo, k1) :: pa)) else true) && (bif decide (k < hi) then (ex_fI (k + 1) fun k1 => Kf ((e, k1, hi) :: pa)) else true))
theorem ex_eq3_ok (hp : ex_P ρ pa) {e : ex_F} {k : Int} {Kt Kf : ex_Pa → Bool} (h : ex_eq3 pa e k Kt Kf = true) : ∃ pa', ex_P ρ pa' ∧ (((ex_i ρ e).toInt = k ∧ Kt pa' = true) ∨ (¬ (ex_i ρ e).toInt = k ∧ Kf pa' = true)) := by
  unfold ex_eq3 at h
  split at h
  · rename_i n
    by_cases e1 : (Int32.ofInt n).toInt = k
    · rw [decide_eq_true e1] at h
      exact ⟨_, hp, Or.inl ⟨e1, h⟩⟩
    · rw [decide_eq_false e1] at h
      exact ⟨_, hp, Or.inr ⟨e1, h⟩⟩
  · obtain ⟨lo, hi, h1, h2, h3⟩ := ex_iv_ok hp h
    by_cases e1 : hi < k
    · rw [decide_eq_true e1] at h3
      exact ⟨_, hp, Or.inr ⟨by omega, h3⟩⟩
    · rw [decide_eq_false e1] at h3
      by_cases e2 : k < lo
      · rw [decide_eq_true e2] at h3
        exact ⟨_, hp, Or.inr ⟨by omega, h3⟩⟩
      · rw [decide_eq_false e2] at h3
        by_cases e3 : lo = hi
        · rw [decide_eq_true e3] at h3
          exact ⟨_, hp, Or.inl ⟨by omega, h3⟩⟩
        · rw [decide_eq_false e3] at h3
          simp only [cond_false, ex_fI_eq, Bool.and_eq_true] at h3
          obtain ⟨a1, a2, a3⟩ := h3
          by_cases e4 : (ex_i ρ e).toInt = k
          · exact ⟨_, hp.cons (Int.le_of_eq e4.symm) (Int.le_of_eq e4), Or.inl ⟨e4, a1⟩⟩
          · by_cases e5 : (ex_i ρ e).toInt < k
            · rw [decide_eq_true (show lo < k by omega)] at a2
              exact ⟨_, hp.cons h1 (by omega), Or.inr ⟨e4, a2⟩⟩
            · rw [decide_eq_true (show k < hi by omega)] at a3
              exact ⟨_, hp.cons (by omega) h2, Or.inr ⟨e4, a3⟩⟩
def ex_rel (r : Nat) (x y : Int) : Prop := match r with
  | 0 => x = y
  | 1 => ¬ x = y
  | 2 => x < y
  | 3 => y ≤ x
  | 4 => y < x
  | _ => x ≤ y
noncomputable def ex_cmpk (pa : ex_Pa) (r : Nat) (e : ex_F) (k : Int) (Kt Kf : ex_Pa → Bool) : Bool := match r with
  | 0 => ex_eq3 pa e k Kt Kf
  | 1 => ex_eq3 pa e k Kf Kt
  | 2 => ex_lt3 pa e k Kt Kf
  | 3 => ex_lt3 pa e k Kf Kt
  | 4 => ex_lt3 pa e (k + 1) Kf Kt
  | _ => ex_lt3 pa e (k + 1) Kt Kf
theorem ex_cmpk_ok (hp : ex_P ρ pa) {r : Nat} {e : ex_F} {k : Int} {Kt Kf : ex_Pa → Bool} (h : ex_cmpk pa r e k Kt Kf = true) : ∃ pa', ex_P ρ pa' ∧ ((ex_rel r (ex_i ρ e).toInt k ∧ Kt pa' = true) ∨ (¬ ex_rel r (ex_i ρ e).toInt k ∧ Kf pa' = true)) := by
  unfold ex_cmpk at h
  split at h
  · exact ex_eq3_ok hp h
  · obtain ⟨pa', a, b | b⟩ := ex_eq3_ok hp h
    · exact ⟨pa', a, Or.inr ⟨fun z => z b.1, b.2⟩⟩
    · exact ⟨pa', a, Or.inl b⟩
  · exact ex_lt3_ok hp h
  · obtain ⟨pa', a, b | b⟩ := ex_lt3_ok hp h
    · exact ⟨pa', a, Or.inr ⟨by simp only [ex_rel]; omega, b.2⟩⟩
    · exact ⟨pa', a, Or.inl ⟨by simp only [ex_rel]; omega, b.2⟩⟩
  · obtain ⟨pa', a, b | b⟩ := ex_lt3_ok hp h
    · exact ⟨pa', a, Or.inr ⟨by simp only [ex_rel]; omega, b.2⟩⟩
    · exact ⟨pa', a, Or.inl ⟨by simp only [ex_rel]; omega, b.2⟩⟩
  · rename_i h0 h1 h2 h3 h4
    obtain ⟨pa', a, b⟩ := ex_lt3_ok hp h
    refine ⟨pa', a, ?_⟩
    match r, h0, h1, h2, h3, h4 with
    | r + 5, _, _, _, _, _ =>
      rcases b with b | b
      · exact Or.inl ⟨by simp only [ex_rel]; omega, b.2⟩
      · exact Or.inr ⟨by simp only [ex_rel]; omega, b.2⟩
/-- the relation, turned round -/
def ex_turn (r : Nat) : Nat := match r with
  | 0 => 0
  | 1 => 1
  | 2 => 4
  | 3 => 5
  | 4 => 2
  | _ => 3
theorem ex_turn_ok (r : Nat) (x y : Int) : ex_rel (ex_turn r) x y ↔ ex_rel r y x := by
  match r with
  | 0 => exact eq_comm
  | 1 => exact not_congr eq_comm
  | 2 => exact Iff.rfl
  | 3 => exact Iff.rfl
  | 4 => exact Iff.rfl
  | r + 5 => exact Iff.rfl
noncomputable def ex_cmp (pa : ex_Pa) (r : Nat) (x y : ex_F) (Kt Kf : ex_Pa → Bool) : Bool := match y with
  | .nest n .nil => ex_fI (Int32.ofInt n).toInt fun k => ex_cmpk pa r x k Kt Kf
  | _ => match x with
    | .nest n .nil => ex_fI (Int32.ofInt n).toInt fun k => ex_cmpk pa (ex_turn r) y k Kt Kf
    | _ => bif ex_same x y then ex_cmpk pa r (.nest 0 .nil) 0 Kt Kf else false
theorem ex_cmp_ok (hp : ex_P ρ pa) {r : Nat} {x y : ex_F} {Kt Kf : ex_Pa → Bool} (h : ex_cmp pa r x y Kt Kf = true) : ∃ pa', ex_P ρ pa' ∧ ((ex_rel r (ex_i ρ x).toInt (ex_i ρ y).toInt ∧ Kt pa' = true) ∨ (¬ ex_rel r (ex_i ρ x).toInt (ex_i ρ y).toInt ∧ Kf pa' = true)) := by
  unfold ex_cmp at h
  split at h
  · rw [ex_fI_eq] at h
    exact ex_cmpk_ok hp h
  · split at h
    · rw [ex_fI_eq] at h
      obtain ⟨pa', a, b⟩ := ex_cmpk_ok hp h
      simp only [ex_turn_ok] at b
      exact ⟨pa', a, b⟩
    · cases hs : ex_same x y with
      | true =>
        rw [hs] at h
        have h' : ex_cmpk pa r (.nest 0 .nil) 0 Kt Kf = true := h
        obtain ⟨pa', a, b⟩ := ex_cmpk_ok hp h'
        refine ⟨pa', a, ?_⟩
        have hz : ∀ z : Int, ex_rel r z z ↔ ex_rel r (ex_i ρ (.nest 0 .nil)).toInt 0 := by
          intro z
          match r with
          | 0 => exact ⟨fun _ => rfl, fun _ => rfl⟩
          | 1 => exact ⟨fun w => absurd rfl w, fun w => absurd rfl w⟩
          | 2 => exact ⟨fun w => absurd w (Int.lt_irrefl _), fun w => absurd w (Int.lt_irrefl _)⟩
          | 3 => exact ⟨fun _ => Int.le_refl _, fun _ => Int.le_refl _⟩
          | 4 => exact ⟨fun w => absurd w (Int.lt_irrefl _), fun w => absurd w (Int.lt_irrefl _)⟩
          | r + 5 => exact ⟨fun _ => Int.le_refl _, fun _ => Int.le_refl _⟩
        rw [← ex_same_eq hs, hz]
        exact b
      | false => rw [hs] at h; cases h
end EX
end
section
/-! one step of the executor -/
def ex_cat (v : ex_V) : Nat := match v with
  | .inr (.inl _) => 2
  | _ => 1
noncomputable def ex_cats (l : List ex_V) : Nat := List.rec (motive := fun _ => Nat) 0 (fun v _ ih => ex_cat v + ih) l
noncomputable def ex_fnd (lv : ex_L) (i : Nat) : Option ex_V := List.rec (motive := fun _ => Option ex_V) none (fun q _ ih => bif q.1.beq i then some q.2 else ih) lv
/-- the locals without number i -/
noncomputable def ex_fil (lv : ex_L) (i : Nat) (K : ex_L → Bool) : Bool := List.rec (motive := fun _ => (ex_L → Bool) → Bool) (fun K => K []) (fun q _ ih K => bif (!(q.1 == i) && !(q.1 + 1 == i && ex_cat q.2 == 2)) then ih (fun r => K (q :: r)) else ih K) lv K
noncomputable def ex_pop (n : Nat) (st acc : List ex_V) (K : List ex_V → List ex_V → Bool) : Bool := Nat.rec (motive := fun _ => List ex_V → List ex_V → Bool) (fun st acc => K acc st) (fun _ ih st acc => match st with
  | [] => false
  | v :: st => ih st (v :: acc)) n st acc
noncomputable def ex_args (i : Nat) (as : List ex_V) (K : ex_L → Bool) : Bool := List.rec (motive := fun _ => Nat → (ex_L → Bool) → Bool) (fun _ K => K []) (fun v _ ih i K => bif ex_cat v == 2 then ex_fN (i + 2) fun i2 => ih i2 (fun r => K ((i, v) :: r)) else ex_fN (i + 1) fun i2 => ih i2 (fun r => K ((i, v) :: r))) as i K
/-! the memory -/
noncomputable def ex_rd (t : ex_F) (o k : Nat) : ex_F := ex_get 16 (ex_get 16 t o) k
noncomputable def ex_wr (t : ex_F) (o k : Nat) (v : ex_F) : ex_F := ex_put 16 t o (ex_put 16 (ex_get 16 t o) k v)
noncomputable def ex_wrK (t : ex_F) (o k : Nat) (v : ex_F) (K : ex_F → Bool) : Bool := ex_fF (ex_get 16 t o) fun u => ex_set 16 u k v fun u' => ex_set 16 t o u' K
theorem ex_wrK_eq (t : ex_F) (o k : Nat) (v : ex_F) (K : ex_F → Bool) : ex_wrK t o k v K = K (ex_wr t o k v) := by
  unfold ex_wrK ex_wr
  rw [ex_fF_eq, ex_set_eq, ex_set_eq]
theorem ex_rd_wr {t : ex_F} {o k a b : Nat} {v : ex_F} (ho : o < 65535) (hk : k < 65535) (ha : a < 65535) (hb : b < 65535) : ex_rd (ex_wr t o k v) a b = if a = o ∧ b = k then v else ex_rd t a b := by
  unfold ex_rd ex_wr
  rw [ex_get_put 16 _ _ _ _ (by omega) (by omega)]
  by_cases h : a = o
  · rw [if_pos h, ex_get_put 16 _ _ _ _ (by omega) (by omega)]
    by_cases h2 : b = k
    · rw [if_pos h2, if_pos ⟨h, h2⟩]
    · rw [if_neg h2, if_neg (fun q => h2 q.2), h]
  · rw [if_neg h, if_neg (fun q => h q.1)]
def ex_ty (t : Nat) : FieldType := match t with
  | 0 => .int
  | 1 => .byte
  | 2 => .long
  | 3 => .boolean
  | _ => .object "WindowSale$Scene"
def ex_sh (e : ex_F) : Option am_sh := match e with
  | .tag c .nil => some (.inl c)
  | .tag t (.tag n .nil) => some (.inr (ex_ty t, n))
  | _ => none
def ex_j (e : ex_F) : Int64 := match e with
  | .tag n .nil => Int64.ofNat n
  | _ => 0
def ex_rv (e : ex_F) : Value := match e with
  | .tag o .nil => .ref o
  | .tag k .line => .retAddr k
  | _ => .null
def ex_R (ρ : Nat → Int32) (me : ex_Me) (σ : am_S) : Prop :=
  (me.2.1 = false → σ.1.length = me.1) ∧
  (∀ (o : Nat) (h : am_sh), o < 65535 → ex_sh (ex_get 16 me.2.2.1 o) = some h → σ.1[o]? = some h) ∧
  ∀ o k : Nat, o < 65535 → k < 65535 → σ.2.1 o k = ex_i ρ (ex_rd me.2.2.2.1 o k) ∧ σ.2.2.1 o k = ex_j (ex_rd me.2.2.2.2.1 o k) ∧ σ.2.2.2 o k = ex_rv (ex_rd me.2.2.2.2.2 o k)
/-- an int as it is read: nothing written is 0 -/
def ex_n0 (e : ex_F) (K : ex_F → Bool) : Bool := match e with
  | .nil => K (.nest 0 .nil)
  | .nest n f => K (.nest n f)
  | .tag n f => K (.tag n f)
  | _ => false
theorem ex_n0_ok {ρ : Nat → Int32} {e : ex_F} {K : ex_F → Bool} (h : ex_n0 e K = true) : ∃ e', ex_i ρ e' = ex_i ρ e ∧ K e' = true := by
  unfold ex_n0 at h
  split at h
  · exact ⟨.nest 0 .nil, rfl, h⟩
  · exact ⟨_, rfl, h⟩
  · exact ⟨_, rfl, h⟩
  · cases h
/-- the shape of an object, of an array -/
noncomputable def ex_isO (me : ex_Me) (o ci : Nat) : Bool := o.blt 65535 && (match ex_get 16 me.2.2.1 o with
  | .tag c .nil => c.beq ci
  | _ => false)
noncomputable def ex_isA (me : ex_Me) (o : Nat) (K : Nat → Nat → Bool) : Bool := o.blt 65535 && (match ex_get 16 me.2.2.1 o with
  | .tag t (.tag n .nil) => K t n
  | _ => false)
/-- an index into n places -/
noncomputable def ex_ix (pa : ex_Pa) (i : ex_F) (n : Nat) (K : ex_Pa → Nat → Bool) : Bool := ex_conc pa i fun pa v => match v with
  | .ofNat j => bif j.blt n && j.blt 65535 then K pa j else false
  | .negSucc _ => false
def ex_usual : List Int := [1, 12, 6, 6, 0, 6, 3, 1]
def ex_least : List Int := [1, 0, 0, 0, 0, 0, 0, 0]
def ex_great : List Int := [5, 24, 12, 12, 30, 11, 12, 99]
noncomputable def ex_row (k : Nat) (j : Nat) : Option Int := match k with
  | 1 => ex_nth ex_usual j
  | 2 => ex_nth ex_least j
  | 3 => ex_nth ex_great j
  | _ => none
section ST
variable (K : ex_K) (T : ex_T) (cd : List ex_E) (nx d mc ms : Nat) (lv : ex_L) (st : List ex_V) (fs : List ex_Fr) (me : ex_Me) (pa : ex_Pa)
noncomputable def ex_iload (i : Nat) : Bool := match ex_fnd lv i with
  | some (.inl e) => K T cd nx d mc ms lv (.inl e :: st) fs me pa
  | _ => false
noncomputable def ex_aload (i : Nat) : Bool := match ex_fnd lv i with
  | some (.inr (.inr (.inl o))) => K T cd nx d mc ms lv (.inr (.inr (.inl o)) :: st) fs me pa
  | some (.inr (.inr (.inr (some k)))) => K T cd nx d mc ms lv (.inr (.inr (.inr (some k))) :: st) fs me pa
  | _ => false
noncomputable def ex_istore (i : Nat) : Bool := match st with
  | .inl e :: st => ex_fil lv i fun r => K T cd nx d mc ms ((i, .inl e) :: r) st fs me pa
  | _ => false
noncomputable def ex_astore (i : Nat) : Bool := match st with
  | .inr (.inr (.inl o)) :: st => ex_fil lv i fun r => K T cd nx d mc ms ((i, .inr (.inr (.inl o))) :: r) st fs me pa
  | .inr (.inr (.inr (some k))) :: st => ex_fil lv i fun r => K T cd nx d mc ms ((i, .inr (.inr (.inr (some k)))) :: r) st fs me pa
  | _ => false
noncomputable def ex_iinc (i : Nat) (n : Int) : Bool := match ex_fnd lv i with
  | some (.inl e) => ex_opd pa e fun pa e => ex_fold 0 e (.nest n .nil) fun e => ex_fil lv i fun r => K T cd nx d mc ms ((i, .inl e) :: r) st fs me pa
  | _ => false
noncomputable def ex_arith (o : Nat) : Bool := match st with
  | .inl y :: .inl x :: st => ex_opd pa x fun pa x => ex_opd pa y fun pa y => ex_fold o x y fun e => K T cd nx d mc ms lv (.inl e :: st) fs me pa
  | _ => false
noncomputable def ex_divi (o : Nat) : Bool := match st with
  | .inl (.nest n .nil) :: .inl x :: st => bif decide (Int32.ofInt n = 0) then false else ex_opd pa x fun pa x => ex_fold o x (.nest n .nil) fun e => K T cd nx d mc ms lv (.inl e :: st) fs me pa
  | _ => false
noncomputable def ex_un (o : Nat) : Bool := match st with
  | .inl x :: st => ex_opd pa x fun pa x => ex_fold o x (.nest 0 .nil) fun e => K T cd nx d mc ms lv (.inl e :: st) fs me pa
  | _ => false
noncomputable def ex_if (r tgt : Nat) : Bool := match st with
  | .inl x :: st => ex_cmp pa r x (.nest 0 .nil) (fun pa => K T [] tgt d mc ms lv st fs me pa) (fun pa => K T cd nx d mc ms lv st fs me pa)
  | _ => false
noncomputable def ex_icmp (r tgt : Nat) : Bool := match st with
  | .inl y :: .inl x :: st => ex_opd pa x fun pa x => ex_cmp pa r x y (fun pa => K T [] tgt d mc ms lv st fs me pa) (fun pa => K T cd nx d mc ms lv st fs me pa)
  | _ => false
/-- to the place that an offset leads to -/
noncomputable def ex_jump (pc : Nat) (off : Int) (st : List ex_V) (pa : ex_Pa) : Bool := match (pc : Int) + off with
  | .ofNat t => ex_fN t fun t => K T [] t d mc ms lv st fs me pa
  | .negSucc _ => false
noncomputable def ex_table (pc : Nat) (dflt lo hi : Int) (offs : Array Int) : Bool := match st with
  | .inl x :: st => ex_lt3 pa x lo (fun pa => ex_jump K T d mc ms lv fs me pc dflt st pa) fun pa => ex_lt3 pa x (hi + 1) (fun pa => ex_conc pa x fun pa v => match ex_nth offs.toList ((Int32.ofInt v).toInt - lo).toNat with
      | some off => ex_jump K T d mc ms lv fs me pc off st pa
      | none => false) fun pa => ex_jump K T d mc ms lv fs me pc dflt st pa
  | _ => false
noncomputable def ex_lookl (pc : Nat) (dflt : Int) (x : ex_F) (st : List ex_V) (ps : List (Int × Int)) (pa : ex_Pa) : Bool := List.rec (motive := fun _ => ex_Pa → Bool) (fun pa => ex_jump K T d mc ms lv fs me pc dflt st pa) (fun q _ ih pa => ex_eq3 pa x q.1 (fun pa => ex_jump K T d mc ms lv fs me pc q.2 st pa) ih) ps pa
noncomputable def ex_lookup (pc : Nat) (dflt : Int) (ps : Array (Int × Int)) : Bool := match st with
  | .inl x :: st => ex_lookl K T d mc ms lv fs me pc dflt x st ps.toList pa
  | _ => false
noncomputable def ex_getf (ex : List Nat) : Bool := match ex with
  | [ci, k, kd, _] => (match st with
    | .inr (.inr (.inl o)) :: st => ex_isO me o ci && k.blt 65535 && (match kd with
      | 0 => ex_n0 (ex_rd me.2.2.2.1 o k) fun e => K T cd nx d mc ms lv (.inl e :: st) fs me pa
      | 2 => (match ex_rd me.2.2.2.2.2 o k with
        | .tag r .nil => K T cd nx d mc ms lv (.inr (.inr (.inl r)) :: st) fs me pa
        | _ => false)
      | _ => false)
    | _ => false)
  | _ => false
noncomputable def ex_putf (ex : List Nat) : Bool := match me with
  | (mn, mj, mS, ti, tj, tr) => match ex with
  | [ci, k, kd, _] => (match st with
    | .inl e :: .inr (.inr (.inl o)) :: st => ex_isO (mn, mj, mS, ti, tj, tr) o ci && k.blt 65535 && (match kd with
      | 0 => ex_wrK ti o k e fun t => K T cd nx d mc ms lv st fs (mn, mj, mS, t, tj, tr) pa
      | 3 => (match e with
        | .nest n .nil => decide (narrow (am_ty ci k) (.int (Int32.ofInt n)) = .int (Int32.ofInt n)) && (fits (am_ty ci k) (.int (Int32.ofInt n)) && ex_wrK ti o k (.nest n .nil) fun t => K T cd nx d mc ms lv st fs (mn, mj, mS, t, tj, tr) pa)
        | _ => false)
      | _ => false)
    | .inr (.inl n) :: .inr (.inr (.inl o)) :: st => ex_isO (mn, mj, mS, ti, tj, tr) o ci && k.blt 65535 && (match kd with
      | 1 => ex_wrK tj o k (.tag n .nil) fun t => K T cd nx d mc ms lv st fs (mn, mj, mS, ti, t, tr) pa
      | _ => false)
    | .inr (.inr (.inl r)) :: .inr (.inr (.inl o)) :: st => ex_isO (mn, mj, mS, ti, tj, tr) o ci && k.blt 65535 && (match kd with
      | 2 => ex_wrK tr o k (.tag r .nil) fun t => K T cd nx d mc ms lv st fs (mn, mj, mS, ti, tj, t) pa
      | _ => false)
    | _ => false)
  | _ => false
/-- a new cell of shape s with N slots -/
noncomputable def ex_newc (s : ex_F) (N : Nat) (st : List ex_V) (pa : ex_Pa) : Bool := match me with
  | (n, jk, S, ti, tj, tr) => bif !jk && n.blt 65535 && Nat.ble 1 mc && N.ble ms then ex_fN (mc - 1) fun mc1 => ex_fN (ms - N) fun ms1 => ex_fN (n + 1) fun n1 => ex_set 16 S n s fun S1 => K T cd nx d mc1 ms1 lv (.inr (.inr (.inl n)) :: st) fs (n1, false, S1, ti, tj, tr) pa else false
noncomputable def ex_newa (t : Nat) : Bool := match st with
  | .inl x :: st => ex_conc pa x fun pa v => match v with
    | .ofNat N => bif N.ble 60000000 then ex_newc K T cd nx d mc ms lv fs me (.tag t (.tag N .nil)) N st pa else false
    | .negSucc _ => false
  | _ => false
noncomputable def ex_alen : Bool := match st with
  | .inr (.inr (.inl o)) :: st => ex_isA me o fun t n => t != 3 && K T cd nx d mc ms lv (.inl (.nest (.ofNat n) .nil) :: st) fs me pa
  | .inr (.inr (.inr (some 0))) :: st => ex_conc pa ex_len fun pa v => K T cd nx d mc ms lv (.inl (.nest v .nil) :: st) fs me pa
  | .inr (.inr (.inr (some k))) :: st => k.blt 4 && K T cd nx d mc ms lv (.inl (.nest 8 .nil) :: st) fs me pa
  | _ => false
/-- ints out of an array whose type number is one of two -/
noncomputable def ex_iald (t1 t2 : Nat) : Bool := match st with
  | .inl i :: .inr (.inr (.inl o)) :: st => ex_isA me o fun t n => (t.beq t1 || t.beq t2) && ex_ix pa i n fun pa j => ex_n0 (ex_rd me.2.2.2.1 o j) fun e => K T cd nx d mc ms lv (.inl e :: st) fs me pa
  | .inl i :: .inr (.inr (.inr (some k))) :: st => t1.beq 0 && (match k with
    | 0 => ex_ix pa i 100 fun pa j => ex_iv pa ex_len fun lo _ => decide (.ofNat j < lo) && K T cd nx d mc ms lv (.inl (.tag j .line) :: st) fs me pa
    | k => ex_ix pa i 8 fun pa j => match ex_row k j with
      | some v => ex_fI v fun v => K T cd nx d mc ms lv (.inl (.nest v .nil) :: st) fs me pa
      | none => false)
  | _ => false
noncomputable def ex_aald : Bool := match st with
  | .inl i :: .inr (.inr (.inl o)) :: st => ex_isA me o fun t n => t.beq 4 && ex_ix pa i n fun pa j => match ex_rd me.2.2.2.2.2 o j with
    | .tag r .nil => K T cd nx d mc ms lv (.inr (.inr (.inl r)) :: st) fs me pa
    | _ => false
  | _ => false
noncomputable def ex_iast : Bool := match me with
  | (mn, mj, mS, ti, tj, tr) => match st with
  | .inl x :: .inl i :: .inr (.inr (.inl o)) :: st => ex_isA (mn, mj, mS, ti, tj, tr) o fun t n => t.beq 0 && ex_ix pa i n fun pa j => ex_wrK ti o j x fun tw => K T cd nx d mc ms lv st fs (mn, mj, mS, tw, tj, tr) pa
  | _ => false
noncomputable def ex_bast : Bool := match me with
  | (mn, mj, mS, ti, tj, tr) => match st with
  | .inl x :: .inl i :: .inr (.inr (.inl o)) :: st => ex_isA (mn, mj, mS, ti, tj, tr) o fun t n => (match t with
    | 1 => ex_ix pa i n fun pa j => ex_fold 11 x (.nest 0 .nil) fun e => ex_wrK ti o j e fun tw => K T cd nx d mc ms lv st fs (mn, mj, mS, tw, tj, tr) pa
    | 3 => ex_ix pa i n fun pa j => ex_fold 3 x (.nest 1 .nil) fun e => ex_wrK ti o j e fun tw => K T cd nx d mc ms lv st fs (mn, mj, mS, tw, tj, tr) pa
    | _ => false)
  | _ => false
noncomputable def ex_aast : Bool := match me with
  | (mn, mj, mS, ti, tj, tr) => match st with
  | .inr (.inr (.inl r)) :: .inl i :: .inr (.inr (.inl o)) :: st => ex_isO (mn, mj, mS, ti, tj, tr) r 7 && ex_isA (mn, mj, mS, ti, tj, tr) o fun t n => t.beq 4 && ex_ix pa i n fun pa j => ex_wrK tr o j (.tag r .nil) fun tw => K T cd nx d mc ms lv st fs (mn, mj, mS, ti, tj, tw) pa
  | _ => false
/-- into a method -/
noncomputable def ex_enter (T2 : ex_T) (bc bs : Nat) (as rest : List ex_V) : Bool := bif (ex_cats rest).ble 8 && (ex_cats as).ble T2.1.2.2.1 && bc.ble mc && bs.ble ms && Nat.ble 1 d then ex_fN (d - 1) fun d1 => ex_fN (mc - bc) fun mc1 => ex_fN (ms - bs) fun ms1 => ex_args 0 as fun l => K T2 [] 0 d1 bc bs l [] ((T, cd, nx, d, mc1, ms1, lv, rest) :: fs) me pa else false
noncomputable def ex_calls (mt : Nat → Option ex_T) (mi2 : Nat) : Bool := match mt mi2 with
  | some T2 => (match T2.2.1 with
    | [0, n, bc, bs, _, _, _, _, _] => ex_pop n st [] fun as rest => ex_enter K T cd nx d mc ms lv fs me pa T2 bc bs as rest
    | _ => false)
  | none => false
noncomputable def ex_callv (mt : Nat → Option ex_T) (mi2 : Nat) : Bool := match mt mi2 with
  | some T2 => (match T2.2.1 with
    | [1, n, bc, bs, ci, _, _, _, _] => ex_pop n st [] fun as rest => (match rest with
    | .inr (.inr (.inl o)) :: rest => ex_isO me o ci && ex_enter K T cd nx d mc ms lv fs me pa T2 bc bs (.inr (.inr (.inl o)) :: as) rest
      | _ => false)
    | _ => false)
  | none => false
noncomputable def ex_calli (mt : Nat → Option ex_T) (mi2 : Nat) : Bool := match mt mi2 with
  | some T2 => (match T2.2.1 with
    | [2, n, bc, bs, _, _, _, _, _] => ex_pop n st [] fun as rest => (match rest with
    | .inr (.inr (.inl o)) :: rest => ex_enter K T cd nx d mc ms lv fs me pa T2 bc bs (.inr (.inr (.inl o)) :: as) rest
      | _ => false)
    | _ => false)
  | none => false
/-- back to the caller -/
noncomputable def ex_back (v : Option ex_V) : Bool := match fs with
  | (T, cd, pc, d, mc, ms, lv, st) :: fs => (match v with
    | some x => K T cd pc d mc ms lv (x :: st) fs me pa
    | none => K T cd pc d mc ms lv st fs me pa)
  | [] => false
noncomputable def ex_iret (ty : FieldType) : Bool := match st with
  | [.inl e] => (match ty with
    | .int => ex_back K fs me pa (some (.inl e))
    | ty => ex_opd pa e fun pa e => match e with
      | .nest n .nil => decide (narrow ty (.int (Int32.ofInt n)) = .int (Int32.ofInt n)) && (match fs with
        | [] => decide (n = 1)
        | fs => ex_back K fs me pa (some (.inl (.nest n .nil))))
      | _ => false)
  | _ => false
noncomputable def ex_throw : Bool := match me with
  | (mn, mj, mS, ti, tj, tr) => bif (ex_cats st).ble 8 && Nat.ble 6 d && Nat.ble 1 mc && Nat.ble 6 ms then (match fs with
  | f :: (T2, cd2, pc2, d2, mc2, ms2, lv2, st2) :: fs2 => (match f.1.1.2.2.2.2 with
      | [] => false
      | _ => K T2 cd2 pc2 d2 mc2 ms2 lv2 (.inl (.nest 1 .nil) :: st2) fs2 (mn, true, mS, ti, tj, tr) pa)
  | _ => false) else false
/-- Math.max, min, abs -/
noncomputable def ex_math (w : Nat) : Bool := bif (ex_cats st).ble 10 && Nat.ble 1 d then (match w with
  | 0 => (match st with
    | .inl y :: .inl x :: st => ex_cmp pa 2 x y (fun pa => K T cd nx d mc ms lv (.inl y :: st) fs me pa) (fun pa => K T cd nx d mc ms lv (.inl x :: st) fs me pa)
    | _ => false)
  | 1 => (match st with
    | .inl y :: .inl x :: st => ex_cmp pa 2 y x (fun pa => K T cd nx d mc ms lv (.inl y :: st) fs me pa) (fun pa => K T cd nx d mc ms lv (.inl x :: st) fs me pa)
    | _ => false)
  | _ => (match st with
    | .inl x :: st => (ex_cats st).ble 8 && ex_cmp pa 3 x (.nest 0 .nil) (fun pa => K T cd nx d mc ms lv (.inl x :: st) fs me pa) (fun pa => ex_fold 1 (.nest 0 .nil) x fun e => K T cd nx d mc ms lv (.inl e :: st) fs me pa)
    | _ => false)) else false
end ST
def ex_cc (c : ClassFile.Cond) : Nat := match c with
  | .eq => 0
  | .ne => 1
  | .lt => 2
  | .ge => 3
  | .gt => 4
  | .le => 5
abbrev ex_H : Type := (Nat → Option ex_T) → ex_K → ex_T → List ex_E → Nat → Nat → List Nat → Nat → Nat → Nat → ex_L → List ex_V → List ex_Fr → ex_Me → ex_Pa → Bool
def hx_no : ex_H := fun _ _ _ _ _ _ _ _ _ _ _ _ _ _ _ => false
noncomputable def hx_aaload : ex_H := fun mt K T cd pc nx ex d mc ms lv st fs me pa => ex_aald K T cd nx d mc ms lv st fs me pa
noncomputable def hx_aastore : ex_H := fun mt K T cd pc nx ex d mc ms lv st fs me pa => ex_aast K T cd nx d mc ms lv st fs me pa
noncomputable def hx_aload (k : Nat) : ex_H := fun mt K T cd pc nx ex d mc ms lv st fs me pa => ex_aload K T cd nx d mc ms lv st fs me pa k
noncomputable def hx_aload_n (k : Fin 4) : ex_H := fun mt K T cd pc nx ex d mc ms lv st fs me pa => ex_aload K T cd nx d mc ms lv st fs me pa k.val
noncomputable def hx_anewarray : ex_H := fun mt K T cd pc nx ex d mc ms lv st fs me pa => ex_newa K T cd nx d mc ms lv st fs me pa 4
noncomputable def hx_areturn : ex_H := fun mt K T cd pc nx ex d mc ms lv st fs me pa => match T.1.2.2.2.1 with
    | some (.object _) => (match st with
      | [.inr (.inr (.inl o))] => ex_back K fs me pa (some (.inr (.inr (.inl o))))
      | _ => false)
    | _ => false
noncomputable def hx_arraylength : ex_H := fun mt K T cd pc nx ex d mc ms lv st fs me pa => ex_alen K T cd nx d mc ms lv st fs me pa
noncomputable def hx_astore (k : Nat) : ex_H := fun mt K T cd pc nx ex d mc ms lv st fs me pa => ex_astore K T cd nx d mc ms lv st fs me pa k
noncomputable def hx_astore_n (k : Fin 4) : ex_H := fun mt K T cd pc nx ex d mc ms lv st fs me pa => ex_astore K T cd nx d mc ms lv st fs me pa k.val
noncomputable def hx_baload : ex_H := fun mt K T cd pc nx ex d mc ms lv st fs me pa => ex_iald K T cd nx d mc ms lv st fs me pa 1 3
noncomputable def hx_bastore : ex_H := fun mt K T cd pc nx ex d mc ms lv st fs me pa => ex_bast K T cd nx d mc ms lv st fs me pa
noncomputable def hx_bipush (n : Int) : ex_H := fun mt K T cd pc nx ex d mc ms lv st fs me pa => ex_fI n fun n => K T cd nx d mc ms lv (.inl (.nest n .nil) :: st) fs me pa
noncomputable def hx_dup : ex_H := fun mt K T cd pc nx ex d mc ms lv st fs me pa => match st with
    | v :: st => (ex_cat v).beq 1 && K T cd nx d mc ms lv (v :: v :: st) fs me pa
    | _ => false
noncomputable def hx_dup2 : ex_H := fun mt K T cd pc nx ex d mc ms lv st fs me pa => match st with
    | v :: w :: st => (ex_cat v).beq 1 && ((ex_cat w).beq 1 && K T cd nx d mc ms lv (v :: w :: v :: w :: st) fs me pa)
    | _ => false
noncomputable def hx_getfield : ex_H := fun mt K T cd pc nx ex d mc ms lv st fs me pa => ex_getf K T cd nx d mc ms lv st fs me pa ex
noncomputable def hx_getstatic : ex_H := fun mt K T cd pc nx ex d mc ms lv st fs me pa => match ex with
    | [k, _] => K T cd nx d mc ms lv (.inr (.inr (.inr (some k))) :: st) fs me pa
    | _ => false
noncomputable def hx_goto : ex_H := fun mt K T cd pc nx ex d mc ms lv st fs me pa => match ex with
    | [tgt] => K T [] tgt d mc ms lv st fs me pa
    | _ => false
noncomputable def hx_i2b : ex_H := fun mt K T cd pc nx ex d mc ms lv st fs me pa => ex_un K T cd nx d mc ms lv st fs me pa 11
noncomputable def hx_iadd : ex_H := fun mt K T cd pc nx ex d mc ms lv st fs me pa => ex_arith K T cd nx d mc ms lv st fs me pa 0
noncomputable def hx_iaload : ex_H := fun mt K T cd pc nx ex d mc ms lv st fs me pa => ex_iald K T cd nx d mc ms lv st fs me pa 0 0
noncomputable def hx_iand : ex_H := fun mt K T cd pc nx ex d mc ms lv st fs me pa => ex_arith K T cd nx d mc ms lv st fs me pa 3
noncomputable def hx_iastore : ex_H := fun mt K T cd pc nx ex d mc ms lv st fs me pa => ex_iast K T cd nx d mc ms lv st fs me pa
noncomputable def hx_iconst (n : Int) : ex_H := fun mt K T cd pc nx ex d mc ms lv st fs me pa => ex_fI n fun n => K T cd nx d mc ms lv (.inl (.nest n .nil) :: st) fs me pa
noncomputable def hx_if_icmp (c : ClassFile.Cond) : ex_H := fun mt K T cd pc nx ex d mc ms lv st fs me pa => match ex with
    | [tgt] => ex_icmp K T cd nx d mc ms lv st fs me pa (ex_cc c) tgt
    | _ => false
noncomputable def hx_ifCond (c : ClassFile.Cond) : ex_H := fun mt K T cd pc nx ex d mc ms lv st fs me pa => match ex with
    | [tgt] => ex_if K T cd nx d mc ms lv st fs me pa (ex_cc c) tgt
    | _ => false
noncomputable def hx_ifnonnull : ex_H := fun mt K T cd pc nx ex d mc ms lv st fs me pa => match ex with
    | [tgt] => (match st with
      | .inr (.inr (.inl _)) :: st => K T [] tgt d mc ms lv st fs me pa
      | _ => false)
    | _ => false
noncomputable def hx_iinc (i : Nat) (n : Int) : ex_H := fun mt K T cd pc nx ex d mc ms lv st fs me pa => ex_iinc K T cd nx d mc ms lv st fs me pa i n
noncomputable def hx_iload (k : Nat) : ex_H := fun mt K T cd pc nx ex d mc ms lv st fs me pa => ex_iload K T cd nx d mc ms lv st fs me pa k
noncomputable def hx_iload_n (k : Fin 4) : ex_H := fun mt K T cd pc nx ex d mc ms lv st fs me pa => ex_iload K T cd nx d mc ms lv st fs me pa k.val
noncomputable def hx_imul : ex_H := fun mt K T cd pc nx ex d mc ms lv st fs me pa => ex_arith K T cd nx d mc ms lv st fs me pa 2
noncomputable def hx_invokespecial : ex_H := fun mt K T cd pc nx ex d mc ms lv st fs me pa => match ex with
    | [0, mi2, _] => ex_calli K T cd nx d mc ms lv st fs me pa mt mi2
    | [1, _] => (match st with
      | .inr (.inr (.inl _)) :: st => (ex_cats st).ble 8 && (Nat.ble 1 d && K T cd nx d mc ms lv st fs me pa)
      | _ => false)
    | _ => false
noncomputable def hx_invokestatic : ex_H := fun mt K T cd pc nx ex d mc ms lv st fs me pa => match ex with
    | [0, mi2, _] => ex_calls K T cd nx d mc ms lv st fs me pa mt mi2
    | [1, w, _, _] => ex_math K T cd nx d mc ms lv st fs me pa w
    | _ => false
noncomputable def hx_invokevirtual : ex_H := fun mt K T cd pc nx ex d mc ms lv st fs me pa => match ex with
    | [0, mi2, _] => ex_callv K T cd nx d mc ms lv st fs me pa mt mi2
    | [1, mi2, _, _, _] => ex_callv K T cd nx d mc ms lv st fs me pa mt mi2
    | _ => false
noncomputable def hx_ior : ex_H := fun mt K T cd pc nx ex d mc ms lv st fs me pa => ex_arith K T cd nx d mc ms lv st fs me pa 4
noncomputable def hx_irem : ex_H := fun mt K T cd pc nx ex d mc ms lv st fs me pa => ex_divi K T cd nx d mc ms lv st fs me pa 10
noncomputable def hx_ireturn : ex_H := fun mt K T cd pc nx ex d mc ms lv st fs me pa => match T.1.2.2.2.1 with
    | some ty => ex_iret K st fs me pa ty
    | none => false
noncomputable def hx_ishr : ex_H := fun mt K T cd pc nx ex d mc ms lv st fs me pa => ex_arith K T cd nx d mc ms lv st fs me pa 7
noncomputable def hx_istore (k : Nat) : ex_H := fun mt K T cd pc nx ex d mc ms lv st fs me pa => ex_istore K T cd nx d mc ms lv st fs me pa k
noncomputable def hx_istore_n (k : Fin 4) : ex_H := fun mt K T cd pc nx ex d mc ms lv st fs me pa => ex_istore K T cd nx d mc ms lv st fs me pa k.val
noncomputable def hx_isub : ex_H := fun mt K T cd pc nx ex d mc ms lv st fs me pa => ex_arith K T cd nx d mc ms lv st fs me pa 1
noncomputable def hx_iushr : ex_H := fun mt K T cd pc nx ex d mc ms lv st fs me pa => ex_arith K T cd nx d mc ms lv st fs me pa 8
noncomputable def hx_ldc : ex_H := fun mt K T cd pc nx ex d mc ms lv st fs me pa => match ex with
    | [r, _] => K T cd nx d mc ms lv (.inl (.nest (.ofNat r) .nil) :: st) fs me pa
    | [k, _, _] => K T cd nx d mc ms lv (.inr (.inr (.inr (some k))) :: st) fs me pa
    | _ => false
noncomputable def hx_ldc_w : ex_H := fun mt K T cd pc nx ex d mc ms lv st fs me pa => match ex with
    | [r, _] => K T cd nx d mc ms lv (.inl (.nest (.ofNat r) .nil) :: st) fs me pa
    | _ => false
noncomputable def hx_ldc2_w : ex_H := fun mt K T cd pc nx ex d mc ms lv st fs me pa => match ex with
    | [r, _] => K T cd nx d mc ms lv (.inr (.inl r) :: st) fs me pa
    | _ => false
noncomputable def hx_lookupswitch (dflt : Int) (ps : Array (Int × Int)) : ex_H := fun mt K T cd pc nx ex d mc ms lv st fs me pa => ex_lookup K T d mc ms lv st fs me pa pc dflt ps
noncomputable def hx_new : ex_H := fun mt K T cd pc nx ex d mc ms lv st fs me pa => match ex with
    | [0, ci, N, _, _, _] => ex_newc K T cd nx d mc ms lv fs me (.tag ci .nil) N st pa
    | [1, _, _, _, _] => ex_throw K d mc ms st fs me pa
    | _ => false
noncomputable def hx_newarray (t : ClassFile.ArrayType) : ex_H := fun mt K T cd pc nx ex d mc ms lv st fs me pa => match t with
    | .int => ex_newa K T cd nx d mc ms lv st fs me pa 0
    | .byte => ex_newa K T cd nx d mc ms lv st fs me pa 1
    | .long => ex_newa K T cd nx d mc ms lv st fs me pa 2
    | .boolean => ex_newa K T cd nx d mc ms lv st fs me pa 3
    | _ => false
noncomputable def hx_putfield : ex_H := fun mt K T cd pc nx ex d mc ms lv st fs me pa => ex_putf K T cd nx d mc ms lv st fs me pa ex
noncomputable def hx_return_ : ex_H := fun mt K T cd pc nx ex d mc ms lv st fs me pa => match T.1.2.2.2.1 with
    | none => (match st with
      | [] => ex_back K fs me pa none
      | _ => false)
    | some _ => false
noncomputable def hx_sipush (n : Int) : ex_H := fun mt K T cd pc nx ex d mc ms lv st fs me pa => ex_fI n fun n => K T cd nx d mc ms lv (.inl (.nest n .nil) :: st) fs me pa
noncomputable def hx_tableswitch (dflt lo hi : Int) (offs : Array Int) : ex_H := fun mt K T cd pc nx ex d mc ms lv st fs me pa => ex_table K T d mc ms lv st fs me pa pc dflt lo hi offs
noncomputable def ex_op (ins : Instr) : ex_H := @Instr.rec (fun _ => ex_H) hx_aaload hx_aastore hx_no hx_aload hx_aload_n (fun _ => hx_anewarray) hx_areturn hx_arraylength hx_astore hx_astore_n hx_no hx_baload hx_bastore hx_bipush hx_no hx_no (fun _ => hx_no) hx_no hx_no hx_no hx_no hx_no hx_no (fun _ => hx_no) (fun _ => hx_no) hx_no (fun _ => hx_no) (fun _ => hx_no) hx_no hx_no hx_no hx_no (fun _ => hx_no) (fun _ => hx_no) hx_no hx_dup hx_no hx_no hx_dup2 hx_no hx_no hx_no hx_no hx_no hx_no hx_no hx_no (fun _ => hx_no) (fun _ => hx_no) hx_no (fun _ => hx_no) (fun _ => hx_no) hx_no hx_no hx_no hx_no (fun _ => hx_no) (fun _ => hx_no) hx_no (fun _ => hx_getfield) (fun _ => hx_getstatic) (fun _ => hx_goto) (fun _ => hx_no) hx_i2b hx_no hx_no hx_no hx_no hx_no hx_iadd hx_iaload hx_iand hx_iastore hx_iconst hx_no (fun _ _ => hx_no) (fun c _ => hx_if_icmp c) (fun c _ => hx_ifCond c) (fun _ => hx_ifnonnull) (fun _ => hx_no) hx_iinc hx_iload hx_iload_n hx_imul hx_no (fun _ => hx_no) (fun _ => hx_no) (fun _ _ => hx_no) (fun _ => hx_invokespecial) (fun _ => hx_invokestatic) (fun _ => hx_invokevirtual) hx_ior hx_irem hx_ireturn hx_no hx_ishr hx_istore hx_istore_n hx_isub hx_iushr hx_no (fun _ => hx_no) (fun _ => hx_no) hx_no hx_no hx_no hx_no hx_no hx_no hx_no hx_no (fun _ => hx_no) (fun _ => hx_ldc) (fun _ => hx_ldc_w) (fun _ => hx_ldc2_w) hx_no (fun _ => hx_no) (fun _ => hx_no) hx_no hx_no hx_lookupswitch hx_no hx_no hx_no hx_no hx_no (fun _ => hx_no) (fun _ => hx_no) hx_no hx_no hx_no hx_no hx_no (fun _ _ => hx_no) (fun _ => hx_new) hx_newarray hx_no hx_no hx_no (fun _ => hx_putfield) (fun _ => hx_no) (fun _ => hx_no) hx_return_ hx_no hx_no hx_sipush hx_no hx_tableswitch ins
noncomputable def ex_run (mt : Nat → Option ex_T) (n : Nat) : ex_K := Nat.rec (motive := fun _ => ex_K) (fun _ _ _ _ _ _ _ _ _ _ _ => false) (fun _ K T cd pc d mc ms lv st fs me pa => match cd with
  | (p, ins, _, nx, ex) :: cd => bif p.beq pc then ex_op ins mt K T cd pc nx ex d mc ms lv st fs me pa else false
  | [] => (match ex_look T pc with
    | (p, ins, _, nx, ex) :: cd => bif p.beq pc then ex_op ins mt K T cd pc nx ex d mc ms lv st fs me pa else false
    | [] => false)) n
end
section
/-! what the tables must keep to -/
def ex_mem (p : Nat) (w : Jvm.Cond) : Bool := match lw_tbl[p]? with
  | some u => decide (u = w)
  | none => false
theorem ex_mem_ok {p : Nat} {w : Jvm.Cond} (h : ex_mem p w = true) : w ∈ lw_tbl := by
  unfold ex_mem at h
  split at h
  · rename_i u hu
    rw [← of_decide_eq_true h]
    exact List.mem_of_getElem? hu
  · cases h
def ex_flk (own : String) (idx : Nat) (C nm ds : String) (p : Nat) : Bool := match lw_tbl[p]? with
  | some (.fieldLink a b c d e) => decide (a = own) && (decide (b = idx) && (decide (c = C) && (decide (d = nm) && decide (e = ds))))
  | some (.fieldLinkNest a b c d e _) => decide (a = own) && (decide (b = idx) && (decide (c = C) && (decide (d = nm) && decide (e = ds))))
  | _ => false
theorem ex_flk_ok {own : String} {idx : Nat} {C nm ds : String} {p : Nat} (h : ex_flk own idx C nm ds p = true) : Cond.fieldLink own idx C nm ds ∈ lw_tbl ∨ ∃ host, Cond.fieldLinkNest own idx C nm ds host ∈ lw_tbl := by
  unfold ex_flk at h
  split at h
  · rename_i a b c d e hu
    simp only [Bool.and_eq_true, decide_eq_true_eq] at h
    obtain ⟨rfl, rfl, rfl, rfl, rfl⟩ := h
    exact Or.inl (List.mem_of_getElem? hu)
  · rename_i a b c d e w hu
    simp only [Bool.and_eq_true, decide_eq_true_eq] at h
    obtain ⟨rfl, rfl, rfl, rfl, rfl⟩ := h
    exact Or.inr ⟨w, List.mem_of_getElem? hu⟩
  · cases h
def ex_mlk (own : String) (idx : Nat) (y : MethodName) (p : Nat) : Bool := match lw_tbl[p]? with
  | some (.methodLink a b c) => decide (a = own) && (decide (b = idx) && decide (c = y))
  | some (.methodLinkNest a b c _) => decide (a = own) && (decide (b = idx) && decide (c = y))
  | _ => false
theorem ex_mlk_ok {own : String} {idx : Nat} {y : MethodName} {p : Nat} (h : ex_mlk own idx y p = true) : am_ML own idx y := by
  unfold ex_mlk at h
  split at h
  · rename_i a b c hu
    simp only [Bool.and_eq_true, decide_eq_true_eq] at h
    obtain ⟨rfl, rfl, rfl⟩ := h
    exact Or.inl (List.mem_of_getElem? hu)
  · rename_i a b c w hu
    simp only [Bool.and_eq_true, decide_eq_true_eq] at h
    obtain ⟨rfl, rfl, rfl⟩ := h
    exact Or.inr ⟨w, List.mem_of_getElem? hu⟩
  · cases h
def ex_ln (ins : Instr) (len : Nat) : Bool := match ins with
  | .tableswitch _ _ _ _ => true
  | .lookupswitch _ _ => true
  | .bipush _ => len.beq 2
  | .iload _ => len.beq 2
  | .aload _ => len.beq 2
  | .istore _ => len.beq 2
  | .astore _ => len.beq 2
  | .ldc _ => len.beq 2
  | .newarray _ => len.beq 2
  | .sipush _ => len.beq 3
  | .iinc _ _ => len.beq 3
  | .ifCond _ _ => len.beq 3
  | .if_icmp _ _ => len.beq 3
  | .goto _ => len.beq 3
  | .ifnonnull _ => len.beq 3
  | .ldc_w _ => len.beq 3
  | .ldc2_w _ => len.beq 3
  | .getstatic _ => len.beq 3
  | .getfield _ => len.beq 3
  | .putfield _ => len.beq 3
  | .new _ => len.beq 3
  | .anewarray _ => len.beq 3
  | .invokestatic _ => len.beq 3
  | .invokevirtual _ => len.beq 3
  | .invokespecial _ => len.beq 3
  | _ => len.beq 1
def ex_dec (c : ByteArray) (pc : Nat) (ins : Instr) (len : Nat) : Bool := decide (decode c pc = .ok (ins, len))
def ex_lk (mt : Nat → Option ex_T) (T : ex_T) (pc : Nat) (ins : Instr) (ex : List Nat) : Bool := match ins with
  | .bipush n => decide ((Int8.ofInt n).toInt32 = Int32.ofInt n)
  | .sipush n => decide ((Int16.ofInt n).toInt32 = Int32.ofInt n)
  | .istore_n k => decide (k.val < T.1.2.2.1)
  | .istore k => decide (k < T.1.2.2.1)
  | .astore_n k => decide (k.val < T.1.2.2.1)
  | .astore k => decide (k < T.1.2.2.1)
  | .iinc k _ => decide (k < T.1.2.2.1)
  | .ifCond _ off => (match ex with
    | [t] => decide ((pc : Int) + off = (t : Int))
    | _ => true)
  | .if_icmp _ off => (match ex with
    | [t] => decide ((pc : Int) + off = (t : Int))
    | _ => true)
  | .goto off => (match ex with
    | [t] => decide ((pc : Int) + off = (t : Int))
    | _ => true)
  | .ifnonnull off => (match ex with
    | [t] => decide ((pc : Int) + off = (t : Int))
    | _ => true)
  | .lookupswitch _ ps => (ps.toList.zip (ps.toList.drop 1)).all (fun (a, next) => a.1 < next.1)
  | .ldc i => (match ex with
    | [r, p] => ex_mem p (.constant T.1.1.cls i (Int32.ofInt (.ofNat r)))
    | [k, p, _] => decide (am_sx T.1.1.cls i = k) && (match lw_tbl[p]? with
      | some (.stringRef o j _) => decide (o = T.1.1.cls) && decide (j = i)
      | _ => false)
    | _ => true)
  | .ldc_w i => (match ex with
    | [r, p] => ex_mem p (.constant T.1.1.cls i (Int32.ofInt (.ofNat r)))
    | _ => true)
  | .ldc2_w i => (match ex with
    | [r, p] => ex_mem p (.constantLong T.1.1.cls i (Int64.ofNat r))
    | _ => true)
  | .getstatic i => (match ex with
    | [1, p] => ex_mem p (.fieldLink T.1.1.cls i "WindowSale$Station" "USUAL" "[I")
    | [2, p] => ex_mem p (.fieldLink T.1.1.cls i "WindowSale$Station" "LEAST" "[I")
    | [3, p] => ex_mem p (.fieldLink T.1.1.cls i "WindowSale$Station" "GREATEST" "[I")
    | [_, _] => false
    | _ => true)
  | .getfield i => (match ex with
    | [ci, k, kd, p] => (match vwCl[ci]? with
      | some (C, U, N) => decide (k < N) && (decide ((U k).1 = C) && (ex_flk T.1.1.cls i C (U k).2.1 (U k).2.2.1 p && decide (am_kd (am_ty ci k) = kd)))
      | none => false)
    | _ => true)
  | .putfield i => (match ex with
    | [ci, k, kd, p] => (match vwCl[ci]? with
      | some (C, U, N) => decide (k < N) && (decide ((U k).1 = C) && ((match (U k).2.2.2 with
          | false => ex_flk T.1.1.cls i C (U k).2.1 (U k).2.2.1 p
          | true => ex_mem p (.fieldLink T.1.1.cls i C (U k).2.1 (U k).2.2.1) && (decide (T.1.1.cls = C) && decide (T.1.1.name = "<init>"))) && (match kd with
          | 0 => decide (am_ty ci k = .int)
          | 1 => decide (am_ty ci k = .long)
          | 2 => decide (am_kd (am_ty ci k) = 2)
          | _ => decide (am_kd (am_ty ci k) = 0))))
      | none => false)
    | _ => true)
  | .new i => (match ex with
    | [0, ci, N, p1, p2, p3] => (match vwCl[ci]? with
      | some (C, _, N1) => decide (N1 = N) && (ex_mem p1 (.classLink T.1.1.cls i C) && (ex_mem p2 (.instantiable C N) && ex_mem p3 (.initialized C)))
      | none => false)
    | [1, is, wd, p1, p2] => decide (T.1.1.cls = RX11) && (decide (T.1.1.name ≠ "law") && (decide (T.1.2.2.2.2 = []) && (ex_dec T.1.2.1 (pc + 3) .dup 1 && (ex_mem p1 (.classLink RX11 i am_nse) && ((match lw_tbl[p2]? with
      | some (.stringRef o j _) => decide (o = RX11) && decide (j = is)
      | _ => false) && (match wd with
      | 0 => ex_dec T.1.2.1 (pc + 4) (.ldc is) 2 && (ex_dec T.1.2.1 (pc + 6) (.invokespecial 155) 3 && ex_dec T.1.2.1 (pc + 9) .athrow 1)
      | _ => ex_dec T.1.2.1 (pc + 4) (.ldc_w is) 3 && (ex_dec T.1.2.1 (pc + 7) (.invokespecial 155) 3 && ex_dec T.1.2.1 (pc + 10) .athrow 1)))))))
    | _ => true)
  | .anewarray i => (match ex with
    | [p] => ex_mem p (.classLink T.1.1.cls i "WindowSale$Scene")
    | _ => false)
  | .invokestatic i => (match ex with
    | [0, mi2, p] => (match mt mi2 with
      | some T2 => decide (T.1.2.2.2.2 = []) && (match T2.1.2.2.2.2 with
        | [] => ex_mlk T.1.1.cls i T2.1.1 p
        | _ => ex_mem p (.methodLink T.1.1.cls i T2.1.1))
      | none => true)
    | [1, 0, p, _] => ex_mem p (.methodLink T.1.1.cls i Lib.Math.max.name)
    | [1, 1, p, _] => ex_mem p (.methodLink T.1.1.cls i Lib.Math.min.name)
    | [1, _, p, _] => ex_mem p (.methodLink T.1.1.cls i Lib.Math.abs.name)
    | _ => true)
  | .invokevirtual i => (match ex with
    | [0, mi2, p] => (match mt mi2 with
      | some T2 => decide (T.1.2.2.2.2 = []) && ex_mlk T.1.1.cls i T2.1.1 p
      | none => true)
    | [1, mi2, p, li, pck] => (match mt mi2 with
      | some T2 => (match T.1.2.2.2.2 with
        | [(ta, tb, th, tc)] => decide (T.1.1.name ≠ "law") && (covers ⟨ta, tb, th, tc⟩ pc && (decide (tc ≠ 0) && (ex_mem pck (.classLink T.1.1.cls tc am_nse) && (ex_dec T.1.2.1 th (.astore li) 2 && (ex_dec T.1.2.1 (th + 2) (.iconst 1) 1 && (ex_dec T.1.2.1 (th + 2 + 1) .ireturn 1 && (decide (li < T.1.2.2.1) && (decide (T.1.2.2.2.1 = some .int) && ex_mem p (.methodLink T.1.1.cls i T2.1.1)))))))))
        | _ => false)
      | none => true)
    | _ => true)
  | .invokespecial i => (match ex with
    | [0, mi2, p] => (match mt mi2 with
      | some T2 => decide (T.1.2.2.2.2 = []) && ex_mlk T.1.1.cls i T2.1.1 p
      | none => true)
    | [1, p] => ex_mem p (.methodLink T.1.1.cls i Lib.objectInit)
    | _ => true)
  | _ => true
def ex_chk (mt : Nat → Option ex_T) (T : ex_T) (e : ex_E) : Bool := ex_dec T.1.2.1 e.1 e.2.1 e.2.2.1 && (ex_ln e.2.1 e.2.2.1 && (e.2.2.2.1.beq (e.1 + e.2.2.1) && ex_lk mt T e.1 e.2.1 e.2.2.2.2))
def ex_mok (T : ex_T) : Bool := match T.2.1 with
  | [kind, n, _, _, ci, pcode, pini, pst, psel] => plainName T.1.1.cls && ((match T.1.2.2.2.2 with
      | [] => ex_mem pcode (.code T.1.1 T.1.2.1 T.1.2.2.1 T.1.2.2.2.1)
      | _ => ex_mem pcode (.codeWith T.1.1 T.1.2.1 T.1.2.2.1 T.1.2.2.2.1 T.1.2.2.2.2)) && (ex_mem pini (.initialized T.1.1.cls) && (decide (T.1.1.cls ≠ "java/lang/invoke/MethodHandle" ∧ T.1.1.cls ≠ "java/lang/invoke/VarHandle") && (decide ((parseMethodDescriptor T.1.1.desc).map (fun d => d.parameters.length) = some n) && (decide (T.1.2.2.1 ≤ 21) && (match kind with
      | 0 => ex_mem pst (.static T.1.1)
      | 1 => ex_mem pst (.instanceMethod T.1.1) && (ex_mem psel (.selects T.1.1.cls T.1.1 T.1.1) && ((match vwCl[ci]? with
        | some q => decide (q.1 = T.1.1.cls)
        | none => false) && decide (T.1.2.2.2.2 = [])))
      | _ => ex_mem pst (.instanceMethod T.1.1) && (decide (T.1.1.name = "<init>") && (decide (T.1.2.2.2.1 = none) && decide (T.1.2.2.2.2 = [])))))))))
  | _ => true
def ex_tok (mt : Nat → Option ex_T) (T : ex_T) : Bool := ex_mok T && T.2.2.all (fun b => b.all fun e => ex_chk mt T e)
theorem ex_tok_at {mt : Nat → Option ex_T} {T : ex_T} (h : ex_tok mt T = true) {pc : Nat} : ∀ e ∈ ex_look T pc, ex_chk mt T e = true := by
  intro e he
  unfold ex_tok at h
  rw [Bool.and_eq_true] at h
  obtain ⟨b, hb, hm⟩ := ex_look_mem e he
  exact List.all_eq_true.mp (List.all_eq_true.mp h.2 b hb) e hm
end
section
/-! what the executor says true of, is so: pieces -/
def ex_lv (ρ : Nat → Int32) (lv : ex_L) : List (Nat × Value) := lv.map (fun q => (q.1, ex_ev ρ q.2))
def ex_okF (mt : Nat → Option ex_T) (T : ex_T) (cd : List ex_E) : Prop := ex_tok mt T = true ∧ ∀ e ∈ cd, ex_chk mt T e = true
def ex_C (g : am_C) (ρ : Nat → Int32) (mt : Nat → Option ex_T) (K : ex_K) (Q : List ex_Fr → Option (Option Value) → am_S → Prop) : Prop :=
  am_G g ∧ (∃ (L : Nat) (xs : Nat → Int32), g.2.2.2.2.2.2 = am_X L xs ∧ L ≤ 6 ∧ (∀ k, k < 100 → ρ k = xs k) ∧ ρ 100 = Int32.ofNat L) ∧
  (∀ mi T, mt mi = some T → ex_tok mt T = true) ∧
  (∀ (T : ex_T) (cd : List ex_E) (pc d mc ms : Nat) (lv : ex_L) (st : List ex_V) (fs : List ex_Fr) (me : ex_Me) (pa : ex_Pa) (σ : am_S), K T cd pc d mc ms lv st fs me pa = true → ex_okF mt T cd → ex_P ρ pa → ex_R ρ me σ → am_K g d T.1 mc ms pc (ex_lv ρ lv) (st.map (ex_ev ρ)) σ (Q fs)) ∧
  (∀ σ, Q [] (some (some (.int 1))) σ) ∧
  (∀ (T : ex_T) (cd : List ex_E) (pc d mc ms : Nat) (lv : ex_L) (st : List ex_V) (fs : List ex_Fr) (v : Option ex_V) (me : ex_Me) (pa : ex_Pa) (σ : am_S), K T cd pc d mc ms lv (v.toList ++ st) fs me pa = true → ex_P ρ pa → ex_R ρ me σ → Q ((T, cd, pc, d, mc, ms, lv, st) :: fs) (some (v.map (ex_ev ρ))) σ) ∧
  (∀ (f : ex_Fr) (T : ex_T) (cd : List ex_E) (pc d mc ms : Nat) (lv : ex_L) (st : List ex_V) (fs : List ex_Fr) (me : ex_Me) (pa : ex_Pa) (σ : am_S), f.1.1.2.2.2.2 ≠ [] → K T cd pc d mc ms lv (.inl (.nest 1 .nil) :: st) fs me pa = true → ex_P ρ pa → ex_R ρ me σ → Q (f :: (T, cd, pc, d, mc, ms, lv, st) :: fs) none σ) ∧
  (∀ (T : ex_T) (cd : List ex_E) (pc d mc ms : Nat) (lv : ex_L) (st : List ex_V) (fs : List ex_Fr) (v : Option Value) (σ : am_S), Q ((T, cd, pc, d, mc, ms, lv, st) :: fs) (some v) σ → ex_okF mt T cd → am_K g d T.1 mc ms pc (ex_lv ρ lv) (v.toList ++ st.map (ex_ev ρ)) σ (Q fs)) ∧
  (∀ (f : ex_Fr) (fs : List ex_Fr) (σ : am_S), Q (f :: fs) none σ → f.1.1.2.2.2.2 ≠ [] ∧ Q fs (some (some (.int 1))) σ)
theorem ex_fnd_ok {lv : ex_L} {i : Nat} {v : ex_V} (h : ex_fnd lv i = some v) : ∃ j : Nat, lv[j]? = some (i, v) := by
  induction lv with
  | nil => cases h
  | cons q lv ih =>
    have h' : (bif q.1.beq i then some q.2 else ex_fnd lv i) = some v := h
    cases hb : q.1.beq i with
    | true =>
      rw [hb] at h'
      cases h'
      exact ⟨0, by rw [← Nat.eq_of_beq_eq_true hb]; rfl⟩
    | false =>
      rw [hb] at h'
      obtain ⟨j, hj⟩ := ih h'
      exact ⟨j + 1, hj⟩
theorem ex_lv_at {ρ : Nat → Int32} {lv : ex_L} {j i : Nat} {v : ex_V} (h : lv[j]? = some (i, v)) : (ex_lv ρ lv)[j]? = some (i, ex_ev ρ v) := by
  simp [ex_lv, h]
theorem ex_cat_ok (ρ : Nat → Int32) (v : ex_V) : (ex_ev ρ v).category = ex_cat v := by
  match v with
  | .inl _ => rfl
  | .inr (.inl _) => rfl
  | .inr (.inr (.inl _)) => rfl
  | .inr (.inr (.inr (some _))) => rfl
  | .inr (.inr (.inr none)) => rfl
theorem ex_fil_ok {ρ : Nat → Int32} {lv : ex_L} {i : Nat} {K : ex_L → Bool} (h : ex_fil lv i K = true) : ∃ r, (ex_lv ρ lv).filter (fun q => !(q.1 == i) && !(q.1 + 1 == i && q.2.category == 2)) = ex_lv ρ r ∧ K r = true := by
  induction lv generalizing K with
  | nil => exact ⟨[], rfl, h⟩
  | cons q lv ih =>
    have h' : (bif (!(q.1 == i) && !(q.1 + 1 == i && ex_cat q.2 == 2)) then ex_fil lv i (fun r => K (q :: r)) else ex_fil lv i K) = true := h
    have hc : (!(q.1 == i) && !(q.1 + 1 == i && (ex_ev ρ q.2).category == 2)) = (!(q.1 == i) && !(q.1 + 1 == i && ex_cat q.2 == 2)) := by rw [ex_cat_ok]
    cases hb : (!(q.1 == i) && !(q.1 + 1 == i && ex_cat q.2 == 2)) with
    | true =>
      rw [hb] at h' hc
      obtain ⟨r, e1, e2⟩ := ih h'
      refine ⟨q :: r, ?_, e2⟩
      have e3 : ex_lv ρ (q :: lv) = (q.1, ex_ev ρ q.2) :: ex_lv ρ lv := rfl
      rw [e3]
      simp only [List.filter_cons]
      rw [if_pos hc, e1]
      rfl
    | false =>
      rw [hb] at h' hc
      obtain ⟨r, e1, e2⟩ := ih h'
      refine ⟨r, ?_, e2⟩
      have e3 : ex_lv ρ (q :: lv) = (q.1, ex_ev ρ q.2) :: ex_lv ρ lv := rfl
      rw [e3]
      simp only [List.filter_cons]
      rw [if_neg (by rw [hc]; decide), e1]
theorem ex_pop_ok {n : Nat} {K : List ex_V → List ex_V → Bool} : ∀ {st acc : List ex_V}, ex_pop n st acc K = true → ∃ as rest, as.length = n ∧ st = as.reverse ++ rest ∧ K (as ++ acc) rest = true := by
  induction n with
  | zero => intro st acc h; exact ⟨[], st, rfl, rfl, h⟩
  | succ n ih =>
    intro st acc h
    match st, h with
    | v :: st, h =>
      have h' : ex_pop n st (v :: acc) K = true := h
      obtain ⟨as, rest, h1, h2, h3⟩ := ih h'
      refine ⟨as ++ [v], rest, by simp [h1], by simp [h2], by simpa using h3⟩
theorem ex_args_ok {ρ : Nat → Int32} {as : List ex_V} : ∀ {i : Nat} {K : ex_L → Bool}, ex_args i as K = true → ∃ l, lv_args i (as.map (ex_ev ρ)) = ex_lv ρ l ∧ K l = true := by
  induction as with
  | nil => intro i K h; exact ⟨[], rfl, h⟩
  | cons v as ih =>
    intro i K h
    have h' : (bif ex_cat v == 2 then ex_fN (i + 2) fun i2 => ex_args i2 as (fun r => K ((i, v) :: r)) else ex_fN (i + 1) fun i2 => ex_args i2 as (fun r => K ((i, v) :: r))) = true := h
    rw [ex_fN_eq, ex_fN_eq] at h'
    show ∃ l, (i, ex_ev ρ v) :: lv_args (if (ex_ev ρ v).category = 2 then i + 2 else i + 1) (as.map (ex_ev ρ)) = ex_lv ρ l ∧ K l = true
    rw [ex_cat_ok]
    by_cases hc : ex_cat v = 2
    · rw [if_pos hc]
      rw [show (ex_cat v == 2) = true by rw [hc]; rfl] at h'
      obtain ⟨l, e1, e2⟩ := ih h'
      exact ⟨(i, v) :: l, by rw [e1]; rfl, e2⟩
    · rw [if_neg hc]
      rw [show (ex_cat v == 2) = false from beq_eq_false_iff_ne.mpr hc] at h'
      obtain ⟨l, e1, e2⟩ := ih h'
      exact ⟨(i, v) :: l, by rw [e1]; rfl, e2⟩
theorem ex_cats_ok (ρ : Nat → Int32) (l : List ex_V) : ((l.map (ex_ev ρ)).map fun v => v.category).sum = ex_cats l := by
  induction l with
  | nil => rfl
  | cons v l ih =>
    simp only [List.map_cons, List.sum_cons, ih, ex_cat_ok]
    rfl
theorem ex_sl_ok (ρ : Nat → Int32) (l : List ex_V) : (lg_sl (l.map (ex_ev ρ))).length = ex_cats l := by
  induction l with
  | nil => rfl
  | cons v l ih =>
    have e : ex_cats (v :: l) = ex_cat v + ex_cats l := rfl
    rw [e, ← ih]
    simp only [lg_sl, List.map_cons, List.flatMap_cons, List.length_append, ex_cat_ok]
    congr 1
    match v with
    | .inl _ => rfl
    | .inr (.inl _) => rfl
    | .inr (.inr (.inl _)) => rfl
    | .inr (.inr (.inr (some _))) => rfl
    | .inr (.inr (.inr none)) => rfl
/-! the memory -/
section MEM
variable {ρ : Nat → Int32} {me : ex_Me} {σ : am_S} {o k : Nat}
theorem ex_R.wrI (h : ex_R ρ me σ) (ho : o < 65535) (hk : k < 65535) {e : ex_F} {x : Int32} (hx : ex_i ρ e = x) : ex_R ρ (me.1, me.2.1, me.2.2.1, ex_wr me.2.2.2.1 o k e, me.2.2.2.2.1, me.2.2.2.2.2) (σ.1, am_up σ.2.1 o k x, σ.2.2.1, σ.2.2.2) := by
  refine ⟨h.1, h.2.1, fun a b ha hb => ⟨?_, (h.2.2 a b ha hb).2.1, (h.2.2 a b ha hb).2.2⟩⟩
  show am_up σ.2.1 o k x a b = ex_i ρ (ex_rd (ex_wr me.2.2.2.1 o k e) a b)
  rw [ex_rd_wr ho hk ha hb]
  unfold am_up
  split
  · exact hx.symm
  · exact (h.2.2 a b ha hb).1
theorem ex_R.wrJ (h : ex_R ρ me σ) (ho : o < 65535) (hk : k < 65535) {e : ex_F} {x : Int64} (hx : ex_j e = x) : ex_R ρ (me.1, me.2.1, me.2.2.1, me.2.2.2.1, ex_wr me.2.2.2.2.1 o k e, me.2.2.2.2.2) (σ.1, σ.2.1, am_up σ.2.2.1 o k x, σ.2.2.2) := by
  refine ⟨h.1, h.2.1, fun a b ha hb => ⟨(h.2.2 a b ha hb).1, ?_, (h.2.2 a b ha hb).2.2⟩⟩
  show am_up σ.2.2.1 o k x a b = ex_j (ex_rd (ex_wr me.2.2.2.2.1 o k e) a b)
  rw [ex_rd_wr ho hk ha hb]
  unfold am_up
  split
  · exact hx.symm
  · exact (h.2.2 a b ha hb).2.1
theorem ex_R.wrR (h : ex_R ρ me σ) (ho : o < 65535) (hk : k < 65535) {e : ex_F} {x : Value} (hx : ex_rv e = x) : ex_R ρ (me.1, me.2.1, me.2.2.1, me.2.2.2.1, me.2.2.2.2.1, ex_wr me.2.2.2.2.2 o k e) (σ.1, σ.2.1, σ.2.2.1, am_up σ.2.2.2 o k x) := by
  refine ⟨h.1, h.2.1, fun a b ha hb => ⟨(h.2.2 a b ha hb).1, (h.2.2 a b ha hb).2.1, ?_⟩⟩
  show am_up σ.2.2.2 o k x a b = ex_rv (ex_rd (ex_wr me.2.2.2.2.2 o k e) a b)
  rw [ex_rd_wr ho hk ha hb]
  unfold am_up
  split
  · exact hx.symm
  · exact (h.2.2 a b ha hb).2.2
theorem ex_isO_ok (h : ex_R ρ me σ) {ci : Nat} (hb : ex_isO me o ci = true) : o < 65535 ∧ σ.1[o]? = some (.inl ci) := by
  unfold ex_isO at hb
  rw [Bool.and_eq_true] at hb
  have ho : o < 65535 := by simpa using hb.1
  refine ⟨ho, ?_⟩
  have h2 := hb.2
  split at h2
  · rename_i c hc
    rw [← Nat.eq_of_beq_eq_true h2]
    exact h.2.1 o _ ho (by rw [hc]; rfl)
  · cases h2
theorem ex_isA_ok (h : ex_R ρ me σ) {K : Nat → Nat → Bool} (hb : ex_isA me o K = true) : o < 65535 ∧ ∃ t n, σ.1[o]? = some (.inr (ex_ty t, n)) ∧ K t n = true := by
  unfold ex_isA at hb
  rw [Bool.and_eq_true] at hb
  have ho : o < 65535 := by simpa using hb.1
  refine ⟨ho, ?_⟩
  have h2 := hb.2
  split at h2
  · rename_i t n hc
    exact ⟨t, n, h.2.1 o _ ho (by rw [hc]; rfl), h2⟩
  · cases h2
theorem ex_ofNat_lt {j : Nat} (h : j < 2 ^ 31) : (Int32.ofInt (.ofNat j)).toNatClampNeg = j ∧ ¬ Int32.ofInt (.ofNat j) < 0 := by
  have e : Int32.ofInt (.ofNat j) = Int32.ofNat j := Int32.ofInt_eq_ofNat
  rw [e]
  refine ⟨Int32.toNatClampNeg_ofNat_of_lt h, ?_⟩
  rw [Int32.lt_iff_toInt_lt, Int32.toInt_ofNat_of_lt h]
  show ¬ (j : Int) < 0
  omega
theorem ex_ix_ok {pa : ex_Pa} (hp : ex_P ρ pa) {i : ex_F} {n : Nat} {K : ex_Pa → Nat → Bool} (h : ex_ix pa i n K = true) : ∃ pa' j, ex_P ρ pa' ∧ vp_in (ex_i ρ i) n ∧ (ex_i ρ i).toNatClampNeg = j ∧ j < n ∧ j < 65535 ∧ K pa' j = true := by
  obtain ⟨pa', v, h1, h2, h3⟩ := ex_conc_ok hp h
  cases v with
  | negSucc j => cases h3
  | ofNat j =>
    simp only at h3
    cases hb : (j.blt n && j.blt 65535) with
    | false => rw [hb] at h3; cases h3
    | true =>
      rw [hb] at h3
      rw [Bool.and_eq_true] at hb
      have j1 : j < n := by simpa using hb.1
      have j2 : j < 65535 := by simpa using hb.2
      have := ex_ofNat_lt (j := j) (by omega)
      rw [h2]
      refine ⟨pa', j, h1, ?_, this.1, j1, j2, h3⟩
      unfold vp_in
      rw [this.1]
      rintro (q | q)
      · exact this.2 q
      · omega
end MEM
end
section
/-! each step of the executor is a row -/
theorem ex_rel_eq (x y : Int32) : ex_rel 0 x.toInt y.toInt ↔ x = y := Int32.toInt_inj
theorem ex_rel_ne (x y : Int32) : ex_rel 1 x.toInt y.toInt ↔ ¬ x = y := not_congr Int32.toInt_inj
theorem ex_rel_lt (x y : Int32) : ex_rel 2 x.toInt y.toInt ↔ x < y := Int32.lt_iff_toInt_lt.symm
theorem ex_rel_ge (x y : Int32) : ex_rel 3 x.toInt y.toInt ↔ y ≤ x := Int32.le_iff_toInt_le.symm
theorem ex_rel_gt (x y : Int32) : ex_rel 4 x.toInt y.toInt ↔ y < x := Int32.lt_iff_toInt_lt.symm
theorem ex_rel_le (x y : Int32) : ex_rel 5 x.toInt y.toInt ↔ x ≤ y := Int32.le_iff_toInt_le.symm
section KX
variable {g : am_C} {ρ : Nat → Int32} {mt : Nat → Option ex_T} {K : ex_K} {Q : List ex_Fr → Option (Option Value) → am_S → Prop} {T : ex_T} {cd : List ex_E} {pc nx d mc ms : Nat} {lv : ex_L} {st : List ex_V} {fs : List ex_Fr} {me : ex_Me} {pa : ex_Pa} {σ : am_S} {lw : List (Nat × Value)} {sw : List Value} {post : Option (Option Value) → am_S → Prop}
theorem kr_if {M : am_M} {x : Int32} {c : ClassFile.Cond} {off : Int} {tgt : Nat} (hd : decode M.2.1 pc = .ok (.ifCond c off, 3)) (ht : (pc : Int) + off = (tgt : Int)) (kt : ex_rel (ex_cc c) x.toInt (0 : Int32).toInt → am_K g d M mc ms tgt lw sw σ post) (kf : ¬ ex_rel (ex_cc c) x.toInt (0 : Int32).toInt → am_K g d M mc ms (pc + 3) lw sw σ post) : am_K g d M mc ms pc lw (.int x :: sw) σ post := by
  cases c with
  | eq => exact kr_if_eq hd ht (fun q => kt ((ex_rel_eq _ _).mpr q)) (fun q => kf (fun z => q ((ex_rel_eq _ _).mp z)))
  | ne => exact kr_if_ne hd ht (fun q => kt ((ex_rel_ne _ _).mpr q)) (fun q => kf (fun z => ((ex_rel_ne _ _).mp z) q))
  | lt => exact kr_if_lt hd ht (fun q => kt ((ex_rel_lt _ _).mpr q)) (fun q => kf (fun z => q ((ex_rel_lt _ _).mp z)))
  | ge => exact kr_if_ge hd ht (fun q => kt ((ex_rel_ge _ _).mpr q)) (fun q => kf (fun z => q ((ex_rel_ge _ _).mp z)))
  | gt => exact kr_if_gt hd ht (fun q => kt ((ex_rel_gt _ _).mpr q)) (fun q => kf (fun z => q ((ex_rel_gt _ _).mp z)))
  | le => exact kr_if_le hd ht (fun q => kt ((ex_rel_le _ _).mpr q)) (fun q => kf (fun z => q ((ex_rel_le _ _).mp z)))
theorem kr_icmp {M : am_M} {x y : Int32} {c : ClassFile.Cond} {off : Int} {tgt : Nat} (hd : decode M.2.1 pc = .ok (.if_icmp c off, 3)) (ht : (pc : Int) + off = (tgt : Int)) (kt : ex_rel (ex_cc c) x.toInt y.toInt → am_K g d M mc ms tgt lw sw σ post) (kf : ¬ ex_rel (ex_cc c) x.toInt y.toInt → am_K g d M mc ms (pc + 3) lw sw σ post) : am_K g d M mc ms pc lw (.int y :: .int x :: sw) σ post := by
  cases c with
  | eq => exact kr_icmp_eq hd ht (fun q => kt ((ex_rel_eq _ _).mpr q)) (fun q => kf (fun z => q ((ex_rel_eq _ _).mp z)))
  | ne => exact kr_icmp_ne hd ht (fun q => kt ((ex_rel_ne _ _).mpr q)) (fun q => kf (fun z => ((ex_rel_ne _ _).mp z) q))
  | lt => exact kr_icmp_lt hd ht (fun q => kt ((ex_rel_lt _ _).mpr q)) (fun q => kf (fun z => q ((ex_rel_lt _ _).mp z)))
  | ge => exact kr_icmp_ge hd ht (fun q => kt ((ex_rel_ge _ _).mpr q)) (fun q => kf (fun z => q ((ex_rel_ge _ _).mp z)))
  | gt => exact kr_icmp_gt hd ht (fun q => kt ((ex_rel_gt _ _).mpr q)) (fun q => kf (fun z => q ((ex_rel_gt _ _).mp z)))
  | le => exact kr_icmp_le hd ht (fun q => kt ((ex_rel_le _ _).mpr q)) (fun q => kf (fun z => q ((ex_rel_le _ _).mp z)))
theorem ex_goK (C : ex_C g ρ mt K Q) (h : K T cd pc d mc ms lv st fs me pa = true) (ok : ex_okF mt T cd) (hp : ex_P ρ pa) (hr : ex_R ρ me σ) : am_K g d T.1 mc ms pc (ex_lv ρ lv) (st.map (ex_ev ρ)) σ (Q fs) := C.2.2.2.1 T cd pc d mc ms lv st fs me pa σ h ok hp hr
theorem ex_ok0 {T : ex_T} {cd : List ex_E} (ok : ex_okF mt T cd) : ex_okF mt T [] := ⟨ok.1, fun e h => by cases h⟩
theorem ok_iload (C : ex_C g ρ mt K Q) (ok : ex_okF mt T cd) (hp : ex_P ρ pa) (hr : ex_R ρ me σ) {i : Nat} (row : ∀ (j : Nat) (x : Int32), (ex_lv ρ lv)[j]? = some (i, .int x) → am_K g d T.1 mc ms nx (ex_lv ρ lv) (.int x :: st.map (ex_ev ρ)) σ (Q fs) → am_K g d T.1 mc ms pc (ex_lv ρ lv) (st.map (ex_ev ρ)) σ (Q fs)) (h : ex_iload K T cd nx d mc ms lv st fs me pa i = true) : am_K g d T.1 mc ms pc (ex_lv ρ lv) (st.map (ex_ev ρ)) σ (Q fs) := by
  unfold ex_iload at h
  split at h
  · rename_i e he
    obtain ⟨j, hj⟩ := ex_fnd_ok he
    exact row j _ (ex_lv_at hj) (ex_goK C h ok hp hr)
  · cases h
theorem ok_aload (C : ex_C g ρ mt K Q) (ok : ex_okF mt T cd) (hp : ex_P ρ pa) (hr : ex_R ρ me σ) {i : Nat} (row : ∀ (j : Nat) (x : Nat), (ex_lv ρ lv)[j]? = some (i, .ref x) → am_K g d T.1 mc ms nx (ex_lv ρ lv) (.ref x :: st.map (ex_ev ρ)) σ (Q fs) → am_K g d T.1 mc ms pc (ex_lv ρ lv) (st.map (ex_ev ρ)) σ (Q fs)) (rowX : ∀ (j : Nat) (x : Nat), (ex_lv ρ lv)[j]? = some (i, .retAddr x) → am_K g d T.1 mc ms nx (ex_lv ρ lv) (.retAddr x :: st.map (ex_ev ρ)) σ (Q fs) → am_K g d T.1 mc ms pc (ex_lv ρ lv) (st.map (ex_ev ρ)) σ (Q fs)) (h : ex_aload K T cd nx d mc ms lv st fs me pa i = true) : am_K g d T.1 mc ms pc (ex_lv ρ lv) (st.map (ex_ev ρ)) σ (Q fs) := by
  unfold ex_aload at h
  split at h
  · rename_i e he
    obtain ⟨j, hj⟩ := ex_fnd_ok he
    exact row j _ (ex_lv_at hj) (ex_goK C h ok hp hr)
  · rename_i e he
    obtain ⟨j, hj⟩ := ex_fnd_ok he
    exact rowX j _ (ex_lv_at hj) (ex_goK C h ok hp hr)
  · cases h
theorem ok_istore (C : ex_C g ρ mt K Q) (ok : ex_okF mt T cd) (hp : ex_P ρ pa) (hr : ex_R ρ me σ) {i : Nat} (row : ∀ (x : Int32) (lv' : List (Nat × Value)) (sw : List Value), (i, Value.int x) :: (ex_lv ρ lv).filter (fun q => !(q.1 == i) && !(q.1 + 1 == i && q.2.category == 2)) = lv' → am_K g d T.1 mc ms nx lv' sw σ (Q fs) → am_K g d T.1 mc ms pc (ex_lv ρ lv) (.int x :: sw) σ (Q fs)) (h : ex_istore K T cd nx d mc ms lv st fs me pa i = true) : am_K g d T.1 mc ms pc (ex_lv ρ lv) (st.map (ex_ev ρ)) σ (Q fs) := by
  unfold ex_istore at h
  split at h
  · rename_i e st'
    obtain ⟨r, e1, e2⟩ := ex_fil_ok (ρ := ρ) h
    exact row _ _ _ rfl (by rw [e1]; exact ex_goK C e2 ok hp hr)
  · cases h
theorem ok_astore (C : ex_C g ρ mt K Q) (ok : ex_okF mt T cd) (hp : ex_P ρ pa) (hr : ex_R ρ me σ) {i : Nat} (row : ∀ (x : Nat) (lv' : List (Nat × Value)) (sw : List Value), (i, Value.ref x) :: (ex_lv ρ lv).filter (fun q => !(q.1 == i) && !(q.1 + 1 == i && q.2.category == 2)) = lv' → am_K g d T.1 mc ms nx lv' sw σ (Q fs) → am_K g d T.1 mc ms pc (ex_lv ρ lv) (.ref x :: sw) σ (Q fs)) (rowX : ∀ (x : Nat) (lv' : List (Nat × Value)) (sw : List Value), (i, Value.retAddr x) :: (ex_lv ρ lv).filter (fun q => !(q.1 == i) && !(q.1 + 1 == i && q.2.category == 2)) = lv' → am_K g d T.1 mc ms nx lv' sw σ (Q fs) → am_K g d T.1 mc ms pc (ex_lv ρ lv) (.retAddr x :: sw) σ (Q fs)) (h : ex_astore K T cd nx d mc ms lv st fs me pa i = true) : am_K g d T.1 mc ms pc (ex_lv ρ lv) (st.map (ex_ev ρ)) σ (Q fs) := by
  unfold ex_astore at h
  split at h
  · obtain ⟨r, e1, e2⟩ := ex_fil_ok (ρ := ρ) h
    exact row _ _ _ rfl (by rw [e1]; exact ex_goK C e2 ok hp hr)
  · obtain ⟨r, e1, e2⟩ := ex_fil_ok (ρ := ρ) h
    exact rowX _ _ _ rfl (by rw [e1]; exact ex_goK C e2 ok hp hr)
  · cases h
theorem ok_iinc (C : ex_C g ρ mt K Q) (ok : ex_okF mt T cd) (hp : ex_P ρ pa) (hr : ex_R ρ me σ) {i : Nat} {n : Int} (hn : i < T.1.2.2.1) (hd : decode T.1.2.1 pc = .ok (.iinc i n, 3)) (h : ex_iinc K T cd (pc + 3) d mc ms lv st fs me pa i n = true) : am_K g d T.1 mc ms pc (ex_lv ρ lv) (st.map (ex_ev ρ)) σ (Q fs) := by
  unfold ex_iinc at h
  split at h
  · rename_i e he
    obtain ⟨j, hj⟩ := ex_fnd_ok he
    obtain ⟨pa', e', hp', h1, h2⟩ := ex_opd_ok hp h
    obtain ⟨e2, h3, h4⟩ := ex_fold_ok (ρ := ρ) h2
    obtain ⟨r, h5, h6⟩ := ex_fil_ok (ρ := ρ) h4
    refine kr_iinc j hd (ex_lv_at hj) (v := ex_i ρ e2) ?_ hn rfl ?_
    · rw [h3, ← h1]; rfl
    · rw [h5]; exact ex_goK C h6 ok hp' hr
  · cases h
theorem ok_arith (C : ex_C g ρ mt K Q) (ok : ex_okF mt T cd) (hp : ex_P ρ pa) (hr : ex_R ρ me σ) {o : Nat} (row : ∀ (x y : Int32) (sw : List Value), am_K g d T.1 mc ms nx (ex_lv ρ lv) (.int (ex_bin o x y) :: sw) σ (Q fs) → am_K g d T.1 mc ms pc (ex_lv ρ lv) (.int y :: .int x :: sw) σ (Q fs)) (h : ex_arith K T cd nx d mc ms lv st fs me pa o = true) : am_K g d T.1 mc ms pc (ex_lv ρ lv) (st.map (ex_ev ρ)) σ (Q fs) := by
  unfold ex_arith at h
  split at h
  · obtain ⟨pa1, e1, hp1, h1, h2⟩ := ex_opd_ok hp h
    obtain ⟨pa2, e2, hp2, h3, h4⟩ := ex_opd_ok hp1 h2
    obtain ⟨e3, h5, h6⟩ := ex_fold_ok (ρ := ρ) h4
    refine row _ _ _ ?_
    rw [← h1, ← h3, ← h5]
    exact ex_goK C h6 ok hp2 hr
  · cases h
theorem ok_divi (C : ex_C g ρ mt K Q) (ok : ex_okF mt T cd) (hp : ex_P ρ pa) (hr : ex_R ρ me σ) {o : Nat} (row : ∀ (x y : Int32) (sw : List Value), ¬ y = 0 → am_K g d T.1 mc ms nx (ex_lv ρ lv) (.int (ex_bin o x y) :: sw) σ (Q fs) → am_K g d T.1 mc ms pc (ex_lv ρ lv) (.int y :: .int x :: sw) σ (Q fs)) (h : ex_divi K T cd nx d mc ms lv st fs me pa o = true) : am_K g d T.1 mc ms pc (ex_lv ρ lv) (st.map (ex_ev ρ)) σ (Q fs) := by
  unfold ex_divi at h
  split at h
  · rename_i n x st'
    by_cases hz : Int32.ofInt n = 0
    · rw [decide_eq_true hz] at h; cases h
    · rw [decide_eq_false hz] at h
      simp only [cond_false] at h
      obtain ⟨pa1, e1, hp1, h1, h2⟩ := ex_opd_ok hp h
      obtain ⟨e3, h5, h6⟩ := ex_fold_ok (ρ := ρ) h2
      refine row _ _ _ hz ?_
      rw [← h1]
      rw [← h5]
      exact ex_goK C h6 ok hp1 hr
  · cases h
theorem ok_un (C : ex_C g ρ mt K Q) (ok : ex_okF mt T cd) (hp : ex_P ρ pa) (hr : ex_R ρ me σ) {o : Nat} (row : ∀ (x : Int32) (sw : List Value), am_K g d T.1 mc ms nx (ex_lv ρ lv) (.int (ex_bin o x (Int32.ofInt 0)) :: sw) σ (Q fs) → am_K g d T.1 mc ms pc (ex_lv ρ lv) (.int x :: sw) σ (Q fs)) (h : ex_un K T cd nx d mc ms lv st fs me pa o = true) : am_K g d T.1 mc ms pc (ex_lv ρ lv) (st.map (ex_ev ρ)) σ (Q fs) := by
  unfold ex_un at h
  split at h
  · obtain ⟨pa1, e1, hp1, h1, h2⟩ := ex_opd_ok hp h
    obtain ⟨e3, h5, h6⟩ := ex_fold_ok (ρ := ρ) h2
    refine row _ _ ?_
    rw [← h1]
    have h7 : ex_i ρ e3 = ex_bin o (ex_i ρ e1) (Int32.ofInt 0) := h5
    rw [← h7]
    exact ex_goK C h6 ok hp1 hr
  · cases h
theorem ok_if (C : ex_C g ρ mt K Q) (ok : ex_okF mt T cd) (hp : ex_P ρ pa) (hr : ex_R ρ me σ) {c : ClassFile.Cond} {off : Int} {tgt : Nat} (hd : decode T.1.2.1 pc = .ok (.ifCond c off, 3)) (ht : (pc : Int) + off = (tgt : Int)) (h : ex_if K T cd (pc + 3) d mc ms lv st fs me pa (ex_cc c) tgt = true) : am_K g d T.1 mc ms pc (ex_lv ρ lv) (st.map (ex_ev ρ)) σ (Q fs) := by
  unfold ex_if at h
  split at h
  · obtain ⟨pa1, hp1, ⟨h1, h2⟩ | ⟨h1, h2⟩⟩ := ex_cmp_ok hp h
    · exact kr_if hd ht (fun _ => ex_goK C h2 (ex_ok0 ok) hp1 hr) (fun q => absurd h1 q)
    · exact kr_if hd ht (fun q => absurd q h1) (fun _ => ex_goK C h2 ok hp1 hr)
  · cases h
theorem ok_icmp (C : ex_C g ρ mt K Q) (ok : ex_okF mt T cd) (hp : ex_P ρ pa) (hr : ex_R ρ me σ) {c : ClassFile.Cond} {off : Int} {tgt : Nat} (hd : decode T.1.2.1 pc = .ok (.if_icmp c off, 3)) (ht : (pc : Int) + off = (tgt : Int)) (h : ex_icmp K T cd (pc + 3) d mc ms lv st fs me pa (ex_cc c) tgt = true) : am_K g d T.1 mc ms pc (ex_lv ρ lv) (st.map (ex_ev ρ)) σ (Q fs) := by
  unfold ex_icmp at h
  split at h
  · obtain ⟨pa0, e0, hp0, h0, h9⟩ := ex_opd_ok hp h
    obtain ⟨pa1, hp1, ⟨h1, h2⟩ | ⟨h1, h2⟩⟩ := ex_cmp_ok hp0 h9
    · rw [h0] at h1
      exact kr_icmp hd ht (fun _ => ex_goK C h2 (ex_ok0 ok) hp1 hr) (fun q => absurd h1 q)
    · rw [h0] at h1
      exact kr_icmp hd ht (fun q => absurd q h1) (fun _ => ex_goK C h2 ok hp1 hr)
  · cases h
theorem ok_jump (C : ex_C g ρ mt K Q) (ok : ex_okF mt T cd) (hp : ex_P ρ pa) (hr : ex_R ρ me σ) {off : Int} (h : ex_jump K T d mc ms lv fs me pc off st pa = true) : ∃ tgt : Nat, (pc : Int) + off = (tgt : Int) ∧ am_K g d T.1 mc ms tgt (ex_lv ρ lv) (st.map (ex_ev ρ)) σ (Q fs) := by
  unfold ex_jump at h
  split at h
  · rename_i t ht
    rw [ex_fN_eq] at h
    exact ⟨t, ht, ex_goK C h (ex_ok0 ok) hp hr⟩
  · cases h
theorem ex_nth_get {α : Type} {l : List α} {n : Nat} {a : α} (h : ex_nth l n = some a) : l[n]? = some a := by
  induction l generalizing n with
  | nil => cases h
  | cons b l ih =>
    cases n with
    | zero => exact h
    | succ m => exact ih h
theorem ok_table (C : ex_C g ρ mt K Q) (ok : ex_okF mt T cd) (hp : ex_P ρ pa) (hr : ex_R ρ me σ) {dflt lo hi : Int} {offs : Array Int} {len : Nat} (hd : decode T.1.2.1 pc = .ok (.tableswitch dflt lo hi offs, len)) (h : ex_table K T d mc ms lv st fs me pa pc dflt lo hi offs = true) : am_K g d T.1 mc ms pc (ex_lv ρ lv) (st.map (ex_ev ρ)) σ (Q fs) := by
  unfold ex_table at h
  split at h
  · obtain ⟨pa1, hp1, ⟨h1, h2⟩ | ⟨h1, h2⟩⟩ := ex_lt3_ok hp h
    · obtain ⟨t, ht, hk⟩ := ok_jump C ok hp1 hr h2
      exact kr_tableOut hd (Or.inl h1) ht hk
    · obtain ⟨pa2, hp2, ⟨h3, h4⟩ | ⟨h3, h4⟩⟩ := ex_lt3_ok hp1 h2
      · obtain ⟨pa3, v, hp3, h5, h6⟩ := ex_conc_ok hp2 h4
        split at h6
        · rename_i off hoff
          obtain ⟨t, ht, hk⟩ := ok_jump C ok hp3 hr h6
          have hx := ex_nth_get hoff
          rw [← h5, Array.getElem?_toList] at hx
          exact kr_tableIn hd h1 (by omega) hx ht hk
        · cases h6
      · obtain ⟨t, ht, hk⟩ := ok_jump C ok hp2 hr h4
        exact kr_tableOut hd (Or.inr (by omega)) ht hk
  · cases h
theorem ok_lookl (C : ex_C g ρ mt K Q) (ok : ex_okF mt T cd) (hr : ex_R ρ me σ) {dflt : Int} {x : ex_F} {ps : List (Int × Int)} : ∀ {pa : ex_Pa}, ex_P ρ pa → ex_lookl K T d mc ms lv fs me pc dflt x st ps pa = true → ∃ tgt : Nat, (pc : Int) + Op.lookupswitch.offset ps dflt (ex_i ρ x).toInt = (tgt : Int) ∧ am_K g d T.1 mc ms tgt (ex_lv ρ lv) (st.map (ex_ev ρ)) σ (Q fs) := by
  induction ps with
  | nil => intro pa hp h; exact ok_jump C ok hp hr h
  | cons q ps ih =>
    intro pa hp h
    obtain ⟨pa1, hp1, ⟨h1, h2⟩ | ⟨h1, h2⟩⟩ := ex_eq3_ok (Kt := fun pa => ex_jump K T d mc ms lv fs me pc q.2 st pa) (Kf := ex_lookl K T d mc ms lv fs me pc dflt x st ps) hp h
    · obtain ⟨t, ht, hk⟩ := ok_jump C ok hp1 hr h2
      refine ⟨t, ?_, hk⟩
      obtain ⟨a, o⟩ := q
      rw [Op.lookupswitch.offset_cons, if_pos h1.symm]
      exact ht
    · obtain ⟨t, ht, hk⟩ := ih hp1 h2
      refine ⟨t, ?_, hk⟩
      obtain ⟨a, o⟩ := q
      rw [Op.lookupswitch.offset_cons, if_neg (fun z => h1 z.symm)]
      exact ht
theorem ok_lookup (C : ex_C g ρ mt K Q) (ok : ex_okF mt T cd) (hp : ex_P ρ pa) (hr : ex_R ρ me σ) {dflt : Int} {ps : Array (Int × Int)} {len : Nat} (hd : decode T.1.2.1 pc = .ok (.lookupswitch dflt ps, len)) (hs : (ps.toList.zip (ps.toList.drop 1)).all (fun (a, next) => a.1 < next.1) = true) (h : ex_lookup K T d mc ms lv st fs me pa pc dflt ps = true) : am_K g d T.1 mc ms pc (ex_lv ρ lv) (st.map (ex_ev ρ)) σ (Q fs) := by
  unfold ex_lookup at h
  split at h
  · obtain ⟨t, ht, hk⟩ := ok_lookl C ok hr hp h
    exact kr_lookup hd hs rfl ht hk
  · cases h
end KX
end
section
/-! steps that touch the memory; calls; ends -/
theorem ex_blt {a b : Nat} (h : a.blt b = true) : a < b := by simpa using h
theorem ex_ble {a b : Nat} (h : a.ble b = true) : a ≤ b := by simpa using h
theorem ex_fa0 {σ : am_S} {o k : Nat} {ty : FieldType} (h : am_kd ty = 0) : am_fa σ o ty k = .int (σ.2.1 o k) := by unfold am_fa; rw [h]; rfl
theorem ex_fa2 {σ : am_S} {o k : Nat} {ty : FieldType} (h : am_kd ty = 2) : am_fa σ o ty k = σ.2.2.2 o k := by unfold am_fa; rw [h]; rfl
section KY
variable {g : am_C} {ρ : Nat → Int32} {mt : Nat → Option ex_T} {K : ex_K} {Q : List ex_Fr → Option (Option Value) → am_S → Prop} {T : ex_T} {cd : List ex_E} {pc nx d mc ms : Nat} {lv : ex_L} {st : List ex_V} {fs : List ex_Fr} {me : ex_Me} {pa : ex_Pa} {σ : am_S}
theorem ok_getf (C : ex_C g ρ mt K Q) (ok : ex_okF mt T cd) (hp : ex_P ρ pa) (hr : ex_R ρ me σ) {i : Nat} {ex : List Nat} (hd : decode T.1.2.1 pc = .ok (.getfield i, 3)) (hl : ex_lk mt T pc (.getfield i) ex = true) (h : ex_getf K T cd (pc + 3) d mc ms lv st fs me pa ex = true) : am_K g d T.1 mc ms pc (ex_lv ρ lv) (st.map (ex_ev ρ)) σ (Q fs) := by
  unfold ex_getf at h
  split at h
  · rename_i ci k kd p
    unfold ex_lk at hl
    simp only at hl
    split at hl
    · rename_i C1 U N hc
      simp only [Bool.and_eq_true, decide_eq_true_eq] at hl
      obtain ⟨l1, l2, l3, l4⟩ := hl
      have hf : am_FL T.1.1.cls i ci k := ⟨C1, U, N, hc, l1, l2, ex_flk_ok l3⟩
      split at h
      · rename_i o st'
        rw [Bool.and_eq_true, Bool.and_eq_true] at h
        obtain ⟨⟨h1, h2⟩, h3⟩ := h
        obtain ⟨ho, hs⟩ := ex_isO_ok hr h1
        have hk := ex_blt h2
        split at h3
        · obtain ⟨e, e1, e2⟩ := ex_n0_ok (ρ := ρ) h3
          refine kr_getf C.1 hf hd hs (v := .int (ex_i ρ e)) ?_ (ex_goK C e2 ok hp hr)
          rw [ex_fa0 l4, e1, (hr.2.2 o k ho hk).1]
        · split at h3
          · rename_i r hrd
            refine kr_getf C.1 hf hd hs (v := .ref r) ?_ (ex_goK C h3 ok hp hr)
            rw [ex_fa2 l4, (hr.2.2 o k ho hk).2.2, hrd]
            rfl
          · cases h3
        · cases h3
      · cases h
    · cases hl
  · cases h
theorem ok_putf (C : ex_C g ρ mt K Q) (ok : ex_okF mt T cd) (hp : ex_P ρ pa) (hr : ex_R ρ me σ) {i : Nat} {ex : List Nat} (hd : decode T.1.2.1 pc = .ok (.putfield i, 3)) (hl : ex_lk mt T pc (.putfield i) ex = true) (h : ex_putf K T cd (pc + 3) d mc ms lv st fs me pa ex = true) : am_K g d T.1 mc ms pc (ex_lv ρ lv) (st.map (ex_ev ρ)) σ (Q fs) := by
  obtain ⟨mn, mj, mS, ti, tj, tr⟩ := me
  unfold ex_putf at h
  simp only at h
  split at h
  · rename_i ci k kd p
    unfold ex_lk at hl
    simp only at hl
    split at hl
    · rename_i C1 U N hc
      rw [Bool.and_eq_true, Bool.and_eq_true, Bool.and_eq_true, decide_eq_true_eq, decide_eq_true_eq] at hl
      obtain ⟨l1, l2, l3, l4⟩ := hl
      have hf : am_FP T.1.1.cls T.1.1.name i ci k := by
        refine ⟨C1, U, N, hc, l1, l2, ?_⟩
        split at l3
        · rename_i hfin
          exact Or.inl ⟨hfin, ex_flk_ok l3⟩
        · rename_i hfin
          simp only [Bool.and_eq_true, decide_eq_true_eq] at l3
          exact Or.inr ⟨hfin, ex_mem_ok l3.1, l3.2.1, l3.2.2⟩
      split at h
      · rename_i e o st'
        rw [Bool.and_eq_true, Bool.and_eq_true] at h
        obtain ⟨⟨h1, h2⟩, h3⟩ := h
        obtain ⟨ho, hs⟩ := ex_isO_ok hr h1
        have hk := ex_blt h2
        split at h3
        · have l5 : am_ty ci k = .int := of_decide_eq_true l4
          rw [ex_wrK_eq] at h3
          exact kr_putI C.1 hf hd hs (by rw [l5]; rfl) (by rw [l5]; rfl) (by rw [l5]; rfl) (ex_goK C h3 ok hp (hr.wrI ho hk rfl))
        · split at h3
          · rename_i n
            rw [Bool.and_eq_true, Bool.and_eq_true, ex_wrK_eq] at h3
            obtain ⟨a1, a2, a3⟩ := h3
            have l5 : am_kd (am_ty ci k) = 0 := of_decide_eq_true l4
            exact kr_putI C.1 hf hd hs (of_decide_eq_true a1) a2 l5 (ex_goK C a3 ok hp (hr.wrI ho hk rfl))
          · cases h3
        · cases h3
      · rename_i n o st'
        rw [Bool.and_eq_true, Bool.and_eq_true] at h
        obtain ⟨⟨h1, h2⟩, h3⟩ := h
        obtain ⟨ho, hs⟩ := ex_isO_ok hr h1
        have hk := ex_blt h2
        split at h3
        · have l5 : am_ty ci k = .long := of_decide_eq_true l4
          rw [ex_wrK_eq] at h3
          exact kr_putJ C.1 hf hd hs (by rw [l5]; rfl) (by rw [l5]; rfl) (by rw [l5]; rfl) (ex_goK C h3 ok hp (hr.wrJ ho hk rfl))
        · cases h3
      · rename_i r o st'
        rw [Bool.and_eq_true, Bool.and_eq_true] at h
        obtain ⟨⟨h1, h2⟩, h3⟩ := h
        obtain ⟨ho, hs⟩ := ex_isO_ok hr h1
        have hk := ex_blt h2
        split at h3
        · have l5 : am_kd (am_ty ci k) = 2 := of_decide_eq_true l4
          rw [ex_wrK_eq] at h3
          exact kr_putR C.1 hf hd hs l5 (ex_goK C h3 ok hp (hr.wrR ho hk rfl))
        · cases h3
      · cases h
    · cases hl
  · cases h
theorem ok_newc (C : ex_C g ρ mt K Q) (ok : ex_okF mt T cd) (hp : ex_P ρ pa) (hr : ex_R ρ me σ) {s : ex_F} {N : Nat} {x : am_sh} (hx : ex_sh s = some x) {sw : List Value} (row : ∀ (k mc1 ms1 : Nat), σ.1.length = k → am_K g d T.1 mc1 ms1 nx (ex_lv ρ lv) (.ref k :: st.map (ex_ev ρ)) (σ.1 ++ [x], σ.2) (Q fs) → am_K g d T.1 (mc1 + 1) (ms1 + N) pc (ex_lv ρ lv) sw σ (Q fs)) (h : ex_newc K T cd nx d mc ms lv fs me s N st pa = true) : am_K g d T.1 mc ms pc (ex_lv ρ lv) sw σ (Q fs) := by
  obtain ⟨mn, mj, mS, ti, tj, tr⟩ := me
  unfold ex_newc at h
  simp only at h
  cases hb : (!mj && mn.blt 65535 && Nat.ble 1 mc && N.ble ms) with
  | false => rw [hb] at h; cases h
  | true =>
    rw [hb] at h
    simp only [cond_true, ex_fN_eq, ex_set_eq] at h
    simp only [Bool.and_eq_true, Bool.not_eq_true'] at hb
    obtain ⟨⟨⟨b1, b2⟩, b3⟩, b4⟩ := hb
    have c2 := ex_blt b2
    have c3 := ex_ble b3
    have c4 := ex_ble b4
    have hlen : σ.1.length = mn := hr.1 b1
    have := row mn (mc - 1) (ms - N) hlen (ex_goK C h ok hp ?_)
    · rw [show mc - 1 + 1 = mc by omega, show ms - N + N = ms by omega] at this
      exact this
    · refine ⟨fun _ => ?_, fun o y ho hy => ?_, hr.2.2⟩
      · show (σ.1 ++ [x]).length = mn + 1
        simp [hlen]
      · have hy' : ex_sh (ex_get 16 (ex_put 16 mS mn s) o) = some y := hy
        rw [ex_get_put 16 _ _ _ _ (by omega) (by omega)] at hy'
        by_cases e : o = mn
        · rw [if_pos e, hx] at hy'
          cases hy'
          rw [e]
          exact am_last hlen
        · rw [if_neg e] at hy'
          exact am_ap (hr.2.1 o y ho hy')
theorem ok_newa (C : ex_C g ρ mt K Q) (ok : ex_okF mt T cd) (hp : ex_P ρ pa) (hr : ex_R ρ me σ) {t : Nat} (row : ∀ (z : Int32) (N k mc1 ms1 : Nat) (sw : List Value), ¬ z < 0 → z.toNatClampNeg = N → N ≤ 60000000 → σ.1.length = k → am_K g d T.1 mc1 ms1 nx (ex_lv ρ lv) (.ref k :: sw) (σ.1 ++ [.inr (ex_ty t, N)], σ.2) (Q fs) → am_K g d T.1 (mc1 + 1) (ms1 + N) pc (ex_lv ρ lv) (.int z :: sw) σ (Q fs)) (h : ex_newa K T cd nx d mc ms lv st fs me pa t = true) : am_K g d T.1 mc ms pc (ex_lv ρ lv) (st.map (ex_ev ρ)) σ (Q fs) := by
  unfold ex_newa at h
  split at h
  · rename_i x st'
    obtain ⟨pa', v, hp', h1, h2⟩ := ex_conc_ok hp h
    cases v with
    | negSucc j => cases h2
    | ofNat N =>
      simp only at h2
      cases hb : N.ble 60000000 with
      | false => rw [hb] at h2; cases h2
      | true =>
        rw [hb] at h2
        simp only [cond_true] at h2
        have hN := ex_ble hb
        have := ex_ofNat_lt (j := N) (by omega)
        rw [← h1] at this
        exact ok_newc C ok hp' hr rfl (fun k mc1 ms1 hk kk => row (ex_i ρ x) N k mc1 ms1 _ this.2 this.1 hN hk kk) h2
  · cases h
theorem ok_alen (C : ex_C g ρ mt K Q) (ok : ex_okF mt T cd) (hp : ex_P ρ pa) (hr : ex_R ρ me σ) (hd : decode T.1.2.1 pc = .ok (.arraylength, 1)) (h : ex_alen K T cd (pc + 1) d mc ms lv st fs me pa = true) : am_K g d T.1 mc ms pc (ex_lv ρ lv) (st.map (ex_ev ρ)) σ (Q fs) := by
  obtain ⟨L, xs, hX, hL, hρ, hρL⟩ := C.2.1
  unfold ex_alen at h
  split at h
  · rename_i o st'
    obtain ⟨ho, t, n, h1, h2⟩ := ex_isA_ok hr h
    rw [Bool.and_eq_true] at h2
    have hk := ex_goK C h2.2 ok hp hr
    have hk' : am_K g d T.1 mc ms (pc + 1) (ex_lv ρ lv) (.int (nI n) :: st'.map (ex_ev ρ)) σ (Q fs) := by
      have e : Int32.ofInt (.ofNat n) = nI n := Int32.ofInt_eq_ofNat
      rw [← e]
      exact hk
    match t, h1, h2 with
    | 0, h1, _ => exact kr_alenI C.1 hd h1 hk'
    | 1, h1, _ => exact kr_alenB C.1 hd h1 hk'
    | 2, h1, _ => exact kr_alenJ C.1 hd h1 hk'
    | 3, _, h2 => exact absurd h2.1 (by decide)
    | t + 4, h1, _ => exact kr_alenQ C.1 hd h1 hk'
  · rename_i st'
    obtain ⟨pa', v, hp', h1, h2⟩ := ex_conc_ok hp h
    have hx : g.2.2.2.2.2.2 0 = some (L, xs) := by rw [hX]; rfl
    refine kr_alenX C.1 hd hx ?_
    have e : nI L = Int32.ofInt v := by
      rw [← h1]
      exact hρL.symm
    rw [e]
    exact ex_goK C h2 ok hp' hr
  · rename_i k st' hk0
    rw [Bool.and_eq_true] at h
    have hk4 := ex_blt h.1
    have hx : ∃ f, g.2.2.2.2.2.2 k = some (8, f) := by
      rw [hX]
      rcases (show k = 0 ∨ k = 1 ∨ k = 2 ∨ k = 3 by omega) with rfl | rfl | rfl | rfl
      · exact (hk0 rfl).elim
      · exact ⟨_, rfl⟩
      · exact ⟨_, rfl⟩
      · exact ⟨_, rfl⟩
    obtain ⟨f, hx⟩ := hx
    exact kr_alenX C.1 hd hx (ex_goK C h.2 ok hp hr)
  · cases h
theorem ex_row_ok {L : Nat} {xs : Nat → Int32} {k j : Nat} {v : Int} (hj : j < 8) (h : ex_row k j = some v) : ∃ f, am_X L xs k = some (8, f) ∧ f j = Int32.ofInt v := by
  unfold ex_row at h
  split at h
  · refine ⟨am_usual, rfl, ?_⟩
    rcases (show j = 0 ∨ j = 1 ∨ j = 2 ∨ j = 3 ∨ j = 4 ∨ j = 5 ∨ j = 6 ∨ j = 7 by omega) with rfl | rfl | rfl | rfl | rfl | rfl | rfl | rfl <;> (cases h; rfl)
  · refine ⟨am_least, rfl, ?_⟩
    rcases (show j = 0 ∨ j = 1 ∨ j = 2 ∨ j = 3 ∨ j = 4 ∨ j = 5 ∨ j = 6 ∨ j = 7 by omega) with rfl | rfl | rfl | rfl | rfl | rfl | rfl | rfl <;> (cases h; rfl)
  · refine ⟨am_great, rfl, ?_⟩
    rcases (show j = 0 ∨ j = 1 ∨ j = 2 ∨ j = 3 ∨ j = 4 ∨ j = 5 ∨ j = 6 ∨ j = 7 by omega) with rfl | rfl | rfl | rfl | rfl | rfl | rfl | rfl <;> (cases h; rfl)
  · cases h
theorem ok_iald (C : ex_C g ρ mt K Q) (ok : ex_okF mt T cd) (hp : ex_P ρ pa) (hr : ex_R ρ me σ) {t1 t2 : Nat} (row : ∀ (t o n : Nat) (i : Int32) (sw : List Value), t = t1 ∨ t = t2 → σ.1[o]? = some (.inr (ex_ty t, n)) → vp_in i n → am_K g d T.1 mc ms nx (ex_lv ρ lv) (.int (σ.2.1 o i.toNatClampNeg) :: sw) σ (Q fs) → am_K g d T.1 mc ms pc (ex_lv ρ lv) (.int i :: .ref o :: sw) σ (Q fs)) (rowX : t1 = 0 → ∀ (x n : Nat) (f : Nat → Int32) (i : Int32) (sw : List Value), g.2.2.2.2.2.2 x = some (n, f) → vp_in i n → am_K g d T.1 mc ms nx (ex_lv ρ lv) (.int (f i.toNatClampNeg) :: sw) σ (Q fs) → am_K g d T.1 mc ms pc (ex_lv ρ lv) (.int i :: .retAddr x :: sw) σ (Q fs)) (h : ex_iald K T cd nx d mc ms lv st fs me pa t1 t2 = true) : am_K g d T.1 mc ms pc (ex_lv ρ lv) (st.map (ex_ev ρ)) σ (Q fs) := by
  obtain ⟨L, xs, hX, hL, hρ, hρL⟩ := C.2.1
  unfold ex_iald at h
  split at h
  · rename_i i o st'
    obtain ⟨ho, t, n, h1, h2⟩ := ex_isA_ok hr h
    rw [Bool.and_eq_true, Bool.or_eq_true] at h2
    obtain ⟨h3, h4⟩ := h2
    obtain ⟨pa', j, hp', h5, h6, h7, h8, h9⟩ := ex_ix_ok hp h4
    obtain ⟨e, e1, e2⟩ := ex_n0_ok (ρ := ρ) h9
    refine row t o n _ _ (h3.imp Nat.eq_of_beq_eq_true Nat.eq_of_beq_eq_true) h1 h5 ?_
    rw [h6, (hr.2.2 o j ho h8).1, ← e1]
    exact ex_goK C e2 ok hp' hr
  · rename_i i k st'
    rw [Bool.and_eq_true] at h
    have ht := Nat.eq_of_beq_eq_true h.1
    have h0 := h.2
    split at h0
    · obtain ⟨pa', j, hp', h5, h6, h7, h8, h9⟩ := ex_ix_ok hp h0
      obtain ⟨lo, hi, a1, a2, a3⟩ := ex_iv_ok hp' h9
      rw [Bool.and_eq_true, decide_eq_true_eq] at a3
      have hLt : (ex_i ρ ex_len).toInt = L := by
        show (ρ 100).toInt = L
        rw [hρL]
        exact Int32.toInt_ofNat_of_lt (by omega)
      have hjL : j < L := by
        have q1 := a3.1
        have q2 : ((j : Nat) : Int) < lo := q1
        omega
      have hx : g.2.2.2.2.2.2 0 = some (L, xs) := by rw [hX]; rfl
      refine rowX ht 0 L xs _ _ hx ?_ ?_
      · unfold vp_in at h5 ⊢
        rw [h6] at h5 ⊢
        rintro (q | q)
        · exact h5 (Or.inl q)
        · omega
      · rw [h6, ← hρ j h7]
        exact ex_goK C a3.2 ok hp' hr
    · obtain ⟨pa', j, hp', h5, h6, h7, h8, h9⟩ := ex_ix_ok hp h0
      split at h9
      · rename_i v hv
        rw [ex_fI_eq] at h9
        obtain ⟨f, hf, hfv⟩ := ex_row_ok (L := L) (xs := xs) h7 hv
        refine rowX ht k 8 f _ _ (by rw [hX]; exact hf) h5 ?_
        rw [h6, hfv]
        exact ex_goK C h9 ok hp' hr
      · cases h9
  · cases h
theorem ok_aald (C : ex_C g ρ mt K Q) (ok : ex_okF mt T cd) (hp : ex_P ρ pa) (hr : ex_R ρ me σ) (hd : decode T.1.2.1 pc = .ok (.aaload, 1)) (h : ex_aald K T cd (pc + 1) d mc ms lv st fs me pa = true) : am_K g d T.1 mc ms pc (ex_lv ρ lv) (st.map (ex_ev ρ)) σ (Q fs) := by
  unfold ex_aald at h
  split at h
  · rename_i i o st'
    obtain ⟨ho, t, n, h1, h2⟩ := ex_isA_ok hr h
    rw [Bool.and_eq_true] at h2
    have ht := Nat.eq_of_beq_eq_true h2.1
    obtain ⟨pa', j, hp', h5, h6, h7, h8, h9⟩ := ex_ix_ok hp h2.2
    split at h9
    · rename_i r hrd
      subst ht
      refine kr_aald C.1 hd h1 h5 (x := r) ?_ (ex_goK C h9 ok hp' hr)
      rw [h6, (hr.2.2 o j ho h8).2.2, hrd]
      rfl
    · cases h9
  · cases h
theorem ok_iast (C : ex_C g ρ mt K Q) (ok : ex_okF mt T cd) (hp : ex_P ρ pa) (hr : ex_R ρ me σ) (hd : decode T.1.2.1 pc = .ok (.iastore, 1)) (h : ex_iast K T cd (pc + 1) d mc ms lv st fs me pa = true) : am_K g d T.1 mc ms pc (ex_lv ρ lv) (st.map (ex_ev ρ)) σ (Q fs) := by
  obtain ⟨mn, mj, mS, ti, tj, tr⟩ := me
  unfold ex_iast at h
  simp only at h
  split at h
  · rename_i x i o st'
    obtain ⟨ho, t, n, h1, h2⟩ := ex_isA_ok hr h
    rw [Bool.and_eq_true] at h2
    have ht := Nat.eq_of_beq_eq_true h2.1
    obtain ⟨pa', j, hp', h5, h6, h7, h8, h9⟩ := ex_ix_ok hp h2.2
    rw [ex_wrK_eq] at h9
    subst ht
    refine kr_iast C.1 hd h1 h5 ?_
    rw [h6]
    exact ex_goK C h9 ok hp' (hr.wrI ho h8 rfl)
  · cases h
theorem ok_bast (C : ex_C g ρ mt K Q) (ok : ex_okF mt T cd) (hp : ex_P ρ pa) (hr : ex_R ρ me σ) (hd : decode T.1.2.1 pc = .ok (.bastore, 1)) (h : ex_bast K T cd (pc + 1) d mc ms lv st fs me pa = true) : am_K g d T.1 mc ms pc (ex_lv ρ lv) (st.map (ex_ev ρ)) σ (Q fs) := by
  obtain ⟨mn, mj, mS, ti, tj, tr⟩ := me
  unfold ex_bast at h
  simp only at h
  split at h
  · rename_i x i o st'
    obtain ⟨ho, t, n, h1, h2⟩ := ex_isA_ok hr h
    split at h2
    · obtain ⟨pa', j, hp', h5, h6, h7, h8, h9⟩ := ex_ix_ok hp h2
      obtain ⟨e, e1, e2⟩ := ex_fold_ok (ρ := ρ) h9
      rw [ex_wrK_eq] at e2
      refine kr_bast C.1 hd h1 h5 (y := (ex_i ρ x).toInt8.toInt32) rfl ?_
      rw [h6]
      exact ex_goK C e2 ok hp' (hr.wrI ho h8 e1)
    · obtain ⟨pa', j, hp', h5, h6, h7, h8, h9⟩ := ex_ix_ok hp h2
      obtain ⟨e, e1, e2⟩ := ex_fold_ok (ρ := ρ) h9
      rw [ex_wrK_eq] at e2
      refine kr_zast C.1 hd h1 h5 (y := ex_i ρ x &&& 1) rfl ?_
      rw [h6]
      exact ex_goK C e2 ok hp' (hr.wrI ho h8 e1)
    · cases h2
  · cases h
theorem ok_aast (C : ex_C g ρ mt K Q) (ok : ex_okF mt T cd) (hp : ex_P ρ pa) (hr : ex_R ρ me σ) (hd : decode T.1.2.1 pc = .ok (.aastore, 1)) (h : ex_aast K T cd (pc + 1) d mc ms lv st fs me pa = true) : am_K g d T.1 mc ms pc (ex_lv ρ lv) (st.map (ex_ev ρ)) σ (Q fs) := by
  obtain ⟨mn, mj, mS, ti, tj, tr⟩ := me
  unfold ex_aast at h
  simp only at h
  split at h
  · rename_i r i o st'
    rw [Bool.and_eq_true] at h
    obtain ⟨-, hs⟩ := ex_isO_ok hr h.1
    obtain ⟨ho, t, n, h1, h2⟩ := ex_isA_ok hr h.2
    rw [Bool.and_eq_true] at h2
    have ht := Nat.eq_of_beq_eq_true h2.1
    obtain ⟨pa', j, hp', h5, h6, h7, h8, h9⟩ := ex_ix_ok hp h2.2
    rw [ex_wrK_eq] at h9
    subst ht
    refine kr_aast C.1 hd h1 hs h5 ?_
    rw [h6]
    exact ex_goK C h9 ok hp' (hr.wrR ho h8 rfl)
  · cases h
end KY
end
section
/-! calls and ends of methods -/
/-- a method's words -/
theorem ex_mok_S {mt : Nat → Option ex_T} {T : ex_T} (h : ex_tok mt T = true) {n bc bs ci p1 p2 p3 p4 : Nat} (hm : T.2.1 = [0, n, bc, bs, ci, p1, p2, p3, p4]) : (T.1.2.2.2.2 = [] → am_MO T.1 n) ∧ (T.1.2.2.2.2 ≠ [] → am_MW T.1 n) ∧ Cond.static T.1.1 ∈ lw_tbl := by
  unfold ex_tok at h
  rw [Bool.and_eq_true] at h
  have h1 := h.1
  unfold ex_mok at h1
  rw [hm] at h1
  simp only [Bool.and_eq_true, decide_eq_true_eq] at h1
  obtain ⟨a1, a2, a3, a4, a5, a6, a7⟩ := h1
  refine ⟨fun hh => ?_, fun hh => ?_, ex_mem_ok a7⟩
  · rw [hh] at a2
    exact ⟨a1, hh, ex_mem_ok a2, ex_mem_ok a3, a4, a5, a6⟩
  · split at a2
    · rename_i hq
      exact absurd hq hh
    · exact ⟨a1, ex_mem_ok a2, ex_mem_ok a3, a4, a5, a6⟩
theorem ex_mok_V {mt : Nat → Option ex_T} {T : ex_T} (h : ex_tok mt T = true) {n bc bs ci p1 p2 p3 p4 : Nat} (hm : T.2.1 = [1, n, bc, bs, ci, p1, p2, p3, p4]) : am_MO T.1 n ∧ Cond.instanceMethod T.1.1 ∈ lw_tbl ∧ Cond.selects T.1.1.cls T.1.1 T.1.1 ∈ lw_tbl ∧ ∃ (U : u_T) (N : Nat), vwCl[ci]? = some (T.1.1.cls, U, N) := by
  unfold ex_tok at h
  rw [Bool.and_eq_true] at h
  have h1 := h.1
  unfold ex_mok at h1
  rw [hm] at h1
  simp only [Bool.and_eq_true, decide_eq_true_eq] at h1
  obtain ⟨a1, a2, a3, a4, a5, a6, a7, a8, a9, hh⟩ := h1
  rw [hh] at a2
  refine ⟨⟨a1, hh, ex_mem_ok a2, ex_mem_ok a3, a4, a5, a6⟩, ex_mem_ok a7, ex_mem_ok a8, ?_⟩
  split at a9
  · rename_i q hq
    have e := of_decide_eq_true a9
    refine ⟨q.2.1, q.2.2, ?_⟩
    rw [hq, ← e]
  · cases a9
theorem ex_mok_I {mt : Nat → Option ex_T} {T : ex_T} (h : ex_tok mt T = true) {n bc bs ci p1 p2 p3 p4 : Nat} (hm : T.2.1 = [2, n, bc, bs, ci, p1, p2, p3, p4]) : am_MO T.1 n ∧ Cond.instanceMethod T.1.1 ∈ lw_tbl ∧ T.1.1.name = "<init>" ∧ T.1.2.2.2.1 = none := by
  unfold ex_tok at h
  rw [Bool.and_eq_true] at h
  have h1 := h.1
  unfold ex_mok at h1
  rw [hm] at h1
  simp only [Bool.and_eq_true, decide_eq_true_eq] at h1
  obtain ⟨a1, a2, a3, a4, a5, a6, a7, a8, a9, hh⟩ := h1
  rw [hh] at a2
  exact ⟨⟨a1, hh, ex_mem_ok a2, ex_mem_ok a3, a4, a5, a6⟩, ex_mem_ok a7, a8, a9⟩
section KZ
variable {g : am_C} {ρ : Nat → Int32} {mt : Nat → Option ex_T} {K : ex_K} {Q : List ex_Fr → Option (Option Value) → am_S → Prop} {T T2 : ex_T} {cd : List ex_E} {pc nx d mc ms bc bs : Nat} {lv : ex_L} {st as rest : List ex_V} {fs : List ex_Fr} {me : ex_Me} {pa : ex_Pa} {σ : am_S}
theorem ok_enter (C : ex_C g ρ mt K Q) (ok2 : ex_tok mt T2 = true) (hp : ex_P ρ pa) (hr : ex_R ρ me σ) (h : ex_enter K T cd nx d mc ms lv fs me pa T2 bc bs as rest = true) : ∃ d1 mc1 ms1, d1 + 1 ≤ d ∧ mc = bc + mc1 ∧ ms = bs + ms1 ∧ (((rest.map (ex_ev ρ)).map fun v => v.category).sum ≤ 8) ∧ (lg_sl (as.map (ex_ev ρ))).length ≤ T2.1.2.2.1 ∧ am_K g d1 T2.1 bc bs 0 (lv_args 0 (as.map (ex_ev ρ))) [] σ (Q ((T, cd, nx, d, mc1, ms1, lv, rest) :: fs)) := by
  unfold ex_enter at h
  cases hb : ((ex_cats rest).ble 8 && (ex_cats as).ble T2.1.2.2.1 && bc.ble mc && bs.ble ms && Nat.ble 1 d) with
  | false => rw [hb] at h; cases h
  | true =>
    rw [hb] at h
    simp only [cond_true, ex_fN_eq] at h
    simp only [Bool.and_eq_true] at hb
    obtain ⟨⟨⟨⟨b1, b2⟩, b3⟩, b4⟩, b5⟩ := hb
    have c1 := ex_ble b1
    have c2 := ex_ble b2
    have c3 := ex_ble b3
    have c4 := ex_ble b4
    have c5 := ex_ble b5
    obtain ⟨l, e1, e2⟩ := ex_args_ok (ρ := ρ) h
    refine ⟨d - 1, mc - bc, ms - bs, by omega, by omega, by omega, by rw [ex_cats_ok]; exact c1, by rw [ex_sl_ok]; exact c2, ?_⟩
    rw [e1]
    exact ex_goK C e2 ⟨ok2, fun e he => by cases he⟩ hp hr
theorem ok_nt (C : ex_C g ρ mt K Q) {f : ex_Fr} (hh : f.1.1.2.2.2.2 = []) : ∀ σ', ¬ Q (f :: fs) none σ' := fun σ' q => (C.2.2.2.2.2.2.2.2 f fs σ' q).1 hh
theorem ok_kk (C : ex_C g ρ mt K Q) (ok : ex_okF mt T cd) : ∀ (v : Option Value) (σ' : am_S), Q ((T, cd, nx, d, mc, ms, lv, rest) :: fs) (some v) σ' → am_K g d T.1 mc ms nx (ex_lv ρ lv) (v.toList ++ rest.map (ex_ev ρ)) σ' (Q fs) := fun v σ' q => C.2.2.2.2.2.2.2.1 T cd nx d mc ms lv rest fs v σ' q ok
theorem ex_st_map {as rest : List ex_V} (h : st = as.reverse ++ rest) : st.map (ex_ev ρ) = (as.map (ex_ev ρ)).reverse ++ rest.map (ex_ev ρ) := by
  rw [h, List.map_append, List.map_reverse]
theorem ok_calls (C : ex_C g ρ mt K Q) (ok : ex_okF mt T cd) (hp : ex_P ρ pa) (hr : ex_R ρ me σ) {i mi2 p : Nat} (hd : decode T.1.2.1 pc = .ok (.invokestatic i, 3)) (hl : ex_lk mt T pc (.invokestatic i) [0, mi2, p] = true) (h : ex_calls K T cd (pc + 3) d mc ms lv st fs me pa mt mi2 = true) : am_K g d T.1 mc ms pc (ex_lv ρ lv) (st.map (ex_ev ρ)) σ (Q fs) := by
  unfold ex_calls at h
  split at h
  · rename_i T2 hT2
    unfold ex_lk at hl
    simp only [hT2] at hl
    rw [Bool.and_eq_true, decide_eq_true_eq] at hl
    obtain ⟨l1, l2⟩ := hl
    have ok2 := C.2.2.1 mi2 T2 hT2
    split at h
    · rename_i n bc bs ci p1 p2 p3 p4 hm
      obtain ⟨m1, m2, m3⟩ := ex_mok_S ok2 hm
      obtain ⟨as, rest, h1, h2, h3⟩ := ex_pop_ok h
      rw [List.append_nil] at h3
      obtain ⟨d1, mc1, ms1, e1, e2, e3, e4, e5, e6⟩ := ok_enter C ok2 hp hr h3
      rw [e2, e3]
      split at l2
      · rename_i hh
        exact kr_callS C.1 (m1 hh) m3 (ex_mlk_ok l2) hd (by rw [List.length_map]; exact h1) e5 (ex_st_map h2) e4 e1 (ok_nt C l1) e6 (ok_kk C ok)
      · rename_i hh
        exact kr_callSW C.1 (m2 hh) m3 (ex_mem_ok l2) hd (by rw [List.length_map]; exact h1) e5 (ex_st_map h2) e4 e1 (ok_nt C l1) e6 (ok_kk C ok)
    · cases h
  · cases h
theorem ok_callv (C : ex_C g ρ mt K Q) (ok : ex_okF mt T cd) (hp : ex_P ρ pa) (hr : ex_R ρ me σ) {i mi2 p : Nat} (hd : decode T.1.2.1 pc = .ok (.invokevirtual i, 3)) (hl : ex_lk mt T pc (.invokevirtual i) [0, mi2, p] = true) (h : ex_callv K T cd (pc + 3) d mc ms lv st fs me pa mt mi2 = true) : am_K g d T.1 mc ms pc (ex_lv ρ lv) (st.map (ex_ev ρ)) σ (Q fs) := by
  unfold ex_callv at h
  split at h
  · rename_i T2 hT2
    unfold ex_lk at hl
    simp only [hT2] at hl
    rw [Bool.and_eq_true, decide_eq_true_eq] at hl
    obtain ⟨l1, l2⟩ := hl
    have ok2 := C.2.2.1 mi2 T2 hT2
    split at h
    · rename_i n bc bs ci p1 p2 p3 p4 hm
      obtain ⟨m1, m2, m3, U, N, m4⟩ := ex_mok_V ok2 hm
      obtain ⟨as, rest, h1, h2, h3⟩ := ex_pop_ok h
      rw [List.append_nil] at h3
      split at h3
      · rename_i o rest'
        rw [Bool.and_eq_true] at h3
        obtain ⟨-, hs⟩ := ex_isO_ok hr h3.1
        obtain ⟨d1, mc1, ms1, e1, e2, e3, e4, e5, e6⟩ := ok_enter C ok2 hp hr h3.2
        rw [e2, e3]
        exact kr_callV C.1 m4 hs m1 m2 m3 (ex_mlk_ok l2) hd (as := as.map (ex_ev ρ)) (by rw [List.length_map]; exact h1) e5 (ex_st_map h2) e4 e1 (ok_nt C l1) e6 (ok_kk C ok)
      · cases h3
    · cases h
  · cases h
theorem ok_try (C : ex_C g ρ mt K Q) (ok : ex_okF mt T cd) (hp : ex_P ρ pa) (hr : ex_R ρ me σ) {i mi2 p li pck : Nat} (hd : decode T.1.2.1 pc = .ok (.invokevirtual i, 3)) (hl : ex_lk mt T pc (.invokevirtual i) [1, mi2, p, li, pck] = true) (h : ex_callv K T cd (pc + 3) d mc ms lv st fs me pa mt mi2 = true) : am_K g d T.1 mc ms pc (ex_lv ρ lv) (st.map (ex_ev ρ)) σ (Q fs) := by
  unfold ex_callv at h
  split at h
  · rename_i T2 hT2
    unfold ex_lk at hl
    simp only [hT2] at hl
    split at hl
    · rename_i ta tb th tc hh
      simp only [Bool.and_eq_true, decide_eq_true_eq] at hl
      obtain ⟨l1, l2, l3, l4, l5, l6, l7, l8, l9, l10⟩ := hl
      have ok2 := C.2.2.1 mi2 T2 hT2
      split at h
      · rename_i n bc bs ci p1 p2 p3 p4 hm
        obtain ⟨m1, m2, m3, U, N, m4⟩ := ex_mok_V ok2 hm
        obtain ⟨as, rest, h1, h2, h3⟩ := ex_pop_ok h
        rw [List.append_nil] at h3
        split at h3
        · rename_i o rest'
          rw [Bool.and_eq_true] at h3
          obtain ⟨-, hs⟩ := ex_isO_ok hr h3.1
          obtain ⟨d1, mc1, ms1, e1, e2, e3, e4, e5, e6⟩ := ok_enter C ok2 hp hr h3.2
          rw [e2, e3]
          exact kr_try C.1 m4 hs m1 m2 m3 (ex_mem_ok l10) hd (as := as.map (ex_ev ρ)) (by rw [List.length_map]; exact h1) e5 (ex_st_map h2) e4 e1 l1 hh (by simpa [covers] using l2) l3 (ex_mem_ok l4) (of_decide_eq_true l5) (of_decide_eq_true l6) (of_decide_eq_true l7) l8 l9 e6 (ok_kk C ok) (fun σ' q => (C.2.2.2.2.2.2.2.2 _ fs σ' q).2)
        · cases h3
      · cases h
    · cases hl
  · cases h
theorem ok_calli (C : ex_C g ρ mt K Q) (ok : ex_okF mt T cd) (hp : ex_P ρ pa) (hr : ex_R ρ me σ) {i mi2 p : Nat} (hd : decode T.1.2.1 pc = .ok (.invokespecial i, 3)) (hl : ex_lk mt T pc (.invokespecial i) [0, mi2, p] = true) (h : ex_calli K T cd (pc + 3) d mc ms lv st fs me pa mt mi2 = true) : am_K g d T.1 mc ms pc (ex_lv ρ lv) (st.map (ex_ev ρ)) σ (Q fs) := by
  unfold ex_calli at h
  split at h
  · rename_i T2 hT2
    unfold ex_lk at hl
    simp only [hT2] at hl
    rw [Bool.and_eq_true, decide_eq_true_eq] at hl
    obtain ⟨l1, l2⟩ := hl
    have ok2 := C.2.2.1 mi2 T2 hT2
    split at h
    · rename_i n bc bs ci p1 p2 p3 p4 hm
      obtain ⟨m1, m2, m3, m4⟩ := ex_mok_I ok2 hm
      obtain ⟨as, rest, h1, h2, h3⟩ := ex_pop_ok h
      rw [List.append_nil] at h3
      split at h3
      · rename_i o rest'
        obtain ⟨d1, mc1, ms1, e1, e2, e3, e4, e5, e6⟩ := ok_enter C ok2 hp hr h3
        rw [e2, e3]
        exact kr_callI C.1 m1 m4 m3 m2 (ex_mlk_ok l2) hd (as := as.map (ex_ev ρ)) (by rw [List.length_map]; exact h1) e5 (ex_st_map h2) e4 e1 (ok_nt C l1) e6 (ok_kk C ok)
      · cases h3
    · cases h
  · cases h
theorem ok_back (C : ex_C g ρ mt K Q) (hp : ex_P ρ pa) (hr : ex_R ρ me σ) {v : Option ex_V} (h : ex_back K fs me pa v = true) : Q fs (some (v.map (ex_ev ρ))) σ := by
  unfold ex_back at h
  split at h
  · split at h
    · exact C.2.2.2.2.2.1 _ _ _ _ _ _ _ _ _ (some _) me pa σ h hp hr
    · exact C.2.2.2.2.2.1 _ _ _ _ _ _ _ _ _ none me pa σ h hp hr
  · cases h
theorem ok_iret (C : ex_C g ρ mt K Q) (hp : ex_P ρ pa) (hr : ex_R ρ me σ) {ty : FieldType} (hret : T.1.2.2.2.1 = some ty) (hd : decode T.1.2.1 pc = .ok (.ireturn, 1)) (h : ex_iret K st fs me pa ty = true) : am_K g d T.1 mc ms pc (ex_lv ρ lv) (st.map (ex_ev ρ)) σ (Q fs) := by
  unfold ex_iret at h
  split at h
  · rename_i e
    split at h
    · exact kr_ireturn hd hret rfl (ok_back C hp hr h)
    · rename_i hne
      obtain ⟨pa', e', hp', h1, h2⟩ := ex_opd_ok hp h
      split at h2
      · rename_i n
        rw [Bool.and_eq_true, decide_eq_true_eq] at h2
        obtain ⟨h3, h4⟩ := h2
        have h1' : Int32.ofInt n = ex_i ρ e := h1
        have hn : narrow ty (.int (ex_i ρ e)) = .int (ex_i ρ e) := by rw [← h1']; exact h3
        split at h4
        · have hn1 : n = 1 := of_decide_eq_true h4
          refine kr_ireturn hd hret hn ?_
          rw [← h1', hn1]
          exact C.2.2.2.2.1 σ
        · have := ok_back C hp' hr h4
          refine kr_ireturn hd hret hn ?_
          rw [← h1']
          exact this
      · cases h2
  · cases h
theorem ok_throw (C : ex_C g ρ mt K Q) (hp : ex_P ρ pa) (hr : ex_R ρ me σ) {i is wd p1 p2 : Nat} (hd : decode T.1.2.1 pc = .ok (.new i, 3)) (hl : ex_lk mt T pc (.new i) [1, is, wd, p1, p2] = true) (h : ex_throw K d mc ms st fs me pa = true) : am_K g d T.1 mc ms pc (ex_lv ρ lv) (st.map (ex_ev ρ)) σ (Q fs) := by
  obtain ⟨mn, mj, mS, ti, tj, tr⟩ := me
  unfold ex_throw at h
  simp only at h
  unfold ex_lk at hl
  simp only at hl
  rw [Bool.and_eq_true, Bool.and_eq_true, Bool.and_eq_true, Bool.and_eq_true, Bool.and_eq_true, Bool.and_eq_true, decide_eq_true_eq, decide_eq_true_eq, decide_eq_true_eq] at hl
  obtain ⟨l1, l2, l3, l4, l5, l6, l7⟩ := hl
  cases hb : ((ex_cats st).ble 8 && Nat.ble 6 d && Nat.ble 1 mc && Nat.ble 6 ms) with
  | false => rw [hb] at h; cases h
  | true =>
    rw [hb] at h
    simp only [Bool.and_eq_true] at hb
    obtain ⟨⟨⟨b1, b2⟩, b3⟩, b4⟩ := hb
    have c1 := ex_ble b1
    have c2 := ex_ble b2
    have c3 := ex_ble b3
    have c4 := ex_ble b4
    simp only [cond_true] at h
    have hs : ∃ tx, Cond.stringRef RX11 is tx ∈ lw_tbl := by
      split at l6
      · rename_i o j tx hq
        simp only [Bool.and_eq_true, decide_eq_true_eq] at l6
        obtain ⟨rfl, rfl⟩ := l6
        exact ⟨tx, List.mem_of_getElem? hq⟩
      · cases l6
    obtain ⟨tx, hs⟩ := hs
    have hroom : ((st.map (ex_ev ρ)).map fun v => v.category).sum ≤ 8 := by rw [ex_cats_ok]; exact c1
    have hpost : ∀ J : List am_sh, (∀ x ∈ J, x = .inl 99) → Q fs none (σ.1 ++ J, σ.2) := by
      intro J _
      split at h
      · rename_i f T2 cd2 pc2 d2 mc2 ms2 lv2 st2 fs2
        split at h
        · cases h
        · rename_i hh
          refine C.2.2.2.2.2.2.1 f T2 cd2 pc2 d2 mc2 ms2 lv2 st2 fs2 _ pa _ hh h hp ?_
          refine ⟨fun z => (by cases z), fun o y ho hy => ?_, hr.2.2⟩
          have := hr.2.1 o y ho hy
          show (σ.1 ++ J)[o]? = some y
          rw [List.getElem?_append_left (List.getElem?_eq_some_iff.mp this).1]
          exact this
      · cases h
    rw [show mc = mc - 1 + 1 by omega, show ms = ms - 6 + 6 by omega]
    split at l7
    · simp only [Bool.and_eq_true] at l7
      exact kr_throwS C.1 l1 l2 l3 hd (of_decide_eq_true l4) (of_decide_eq_true l7.1) (of_decide_eq_true l7.2.1) (of_decide_eq_true l7.2.2) (ex_mem_ok l5) hs c2 hroom hpost
    · simp only [Bool.and_eq_true] at l7
      exact kr_throwSW C.1 l1 l2 l3 hd (of_decide_eq_true l4) (of_decide_eq_true l7.1) (of_decide_eq_true l7.2.1) (of_decide_eq_true l7.2.2) (ex_mem_ok l5) hs c2 hroom hpost
theorem ok_math (C : ex_C g ρ mt K Q) (ok : ex_okF mt T cd) (hp : ex_P ρ pa) (hr : ex_R ρ me σ) {i w p z : Nat} (hd : decode T.1.2.1 pc = .ok (.invokestatic i, 3)) (hl : ex_lk mt T pc (.invokestatic i) [1, w, p, z] = true) (h : ex_math K T cd (pc + 3) d mc ms lv st fs me pa w = true) : am_K g d T.1 mc ms pc (ex_lv ρ lv) (st.map (ex_ev ρ)) σ (Q fs) := by
  unfold ex_math at h
  cases hb : ((ex_cats st).ble 10 && Nat.ble 1 d) with
  | false => rw [hb] at h; cases h
  | true =>
    rw [hb] at h
    simp only [cond_true] at h
    simp only [Bool.and_eq_true] at hb
    have c1 := ex_ble hb.1
    have c2 := ex_ble hb.2
    split at h
    · split at h
      · rename_i y x st'
        have hroom : ((st'.map (ex_ev ρ)).map fun v => v.category).sum ≤ 8 := by
          rw [ex_cats_ok]
          have c3 : 1 + (1 + ex_cats st') ≤ 10 := c1
          omega
        obtain ⟨pa1, hp1, ⟨h1, h2⟩ | ⟨h1, h2⟩⟩ := ex_cmp_ok hp h
        · refine kr_mmax C.1 (ex_mem_ok hl) hd c2 hroom ?_
          rw [if_pos ((ex_rel_lt _ _).mp h1)]
          exact ex_goK C h2 ok hp1 hr
        · refine kr_mmax C.1 (ex_mem_ok hl) hd c2 hroom ?_
          rw [if_neg (fun q => h1 ((ex_rel_lt _ _).mpr q))]
          exact ex_goK C h2 ok hp1 hr
      · cases h
    · split at h
      · rename_i y x st'
        have hroom : ((st'.map (ex_ev ρ)).map fun v => v.category).sum ≤ 8 := by
          rw [ex_cats_ok]
          have c3 : 1 + (1 + ex_cats st') ≤ 10 := c1
          omega
        obtain ⟨pa1, hp1, ⟨h1, h2⟩ | ⟨h1, h2⟩⟩ := ex_cmp_ok hp h
        · refine kr_mmin C.1 (ex_mem_ok hl) hd c2 hroom ?_
          rw [if_pos ((ex_rel_lt _ _).mp h1)]
          exact ex_goK C h2 ok hp1 hr
        · refine kr_mmin C.1 (ex_mem_ok hl) hd c2 hroom ?_
          rw [if_neg (fun q => h1 ((ex_rel_lt _ _).mpr q))]
          exact ex_goK C h2 ok hp1 hr
      · cases h
    · rename_i w0 w1
      have hlk : Cond.methodLink T.1.1.cls i Lib.Math.abs.name ∈ lw_tbl := by
        match w, w0, w1, hl with
        | w + 2, _, _, hl => exact ex_mem_ok hl
      split at h
      · rename_i x st'
        rw [Bool.and_eq_true] at h
        have hroom : ((st'.map (ex_ev ρ)).map fun v => v.category).sum ≤ 8 := by
          rw [ex_cats_ok]
          exact ex_ble h.1
        obtain ⟨pa1, hp1, h9⟩ := ex_cmp_ok hp h.2
        have ez : ex_i ρ (.nest 0 .nil) = 0 := rfl
        rw [ez] at h9
        rcases h9 with ⟨h1, h2⟩ | ⟨h1, h2⟩
        · refine kr_mabs C.1 hlk hd c2 hroom ?_
          rw [if_pos ((ex_rel_ge _ _).mp h1)]
          exact ex_goK C h2 ok hp1 hr
        · refine kr_mabs C.1 hlk hd c2 hroom ?_
          rw [if_neg (fun q => h1 ((ex_rel_ge _ _).mpr q))]
          obtain ⟨e, e1, e2⟩ := ex_fold_ok (ρ := ρ) h2
          have e3 : ex_i ρ e = 0 - ex_i ρ x := e1
          rw [← e3]
          exact ex_goK C e2 ok hp1 hr
      · cases h
end KZ
end
section
/-! the executor's steps, all together, and its runs -/
section KW
variable {g : am_C} {ρ : Nat → Int32} {mt : Nat → Option ex_T} {K : ex_K} {Q : List ex_Fr → Option (Option Value) → am_S → Prop} {T : ex_T} {cd : List ex_E} {pc nx len d mc ms : Nat} {lv : ex_L} {st : List ex_V} {fs : List ex_Fr} {me : ex_Me} {pa : ex_Pa} {σ : am_S}
set_option maxHeartbeats 4000000 in
theorem ok_step (C : ex_C g ρ mt K Q) (ok : ex_okF mt T cd) (hp : ex_P ρ pa) (hr : ex_R ρ me σ) {ins : Instr} {ex : List Nat} (hd : decode T.1.2.1 pc = .ok (ins, len)) (hn : ex_ln ins len = true) (hx : nx = pc + len) (hl : ex_lk mt T pc ins ex = true) (h : ex_op ins mt K T cd pc nx ex d mc ms lv st fs me pa = true) : am_K g d T.1 mc ms pc (ex_lv ρ lv) (st.map (ex_ev ρ)) σ (Q fs) := by
  subst hx
  cases ins with
  | iconst n =>
    cases Nat.eq_of_beq_eq_true hn
    have h' : ex_fI n (fun n => K T cd (pc + 1) d mc ms lv (.inl (.nest n .nil) :: st) fs me pa) = true := h
    rw [ex_fI_eq] at h'
    exact kr_iconst hd rfl (ex_goK C h' ok hp hr)
  | bipush n =>
    cases Nat.eq_of_beq_eq_true hn
    have h' : ex_fI n (fun n => K T cd (pc + 2) d mc ms lv (.inl (.nest n .nil) :: st) fs me pa) = true := h
    rw [ex_fI_eq] at h'
    exact kr_bipush hd (of_decide_eq_true hl) (ex_goK C h' ok hp hr)
  | sipush n =>
    cases Nat.eq_of_beq_eq_true hn
    have h' : ex_fI n (fun n => K T cd (pc + 3) d mc ms lv (.inl (.nest n .nil) :: st) fs me pa) = true := h
    rw [ex_fI_eq] at h'
    exact kr_sipush hd (of_decide_eq_true hl) (ex_goK C h' ok hp hr)
  | iload_n k => cases Nat.eq_of_beq_eq_true hn; exact ok_iload C ok hp hr (fun j x hj kk => kr_iload_n j hd hj kk) h
  | iload k => cases Nat.eq_of_beq_eq_true hn; exact ok_iload C ok hp hr (fun j x hj kk => kr_iload j hd hj kk) h
  | aload_n k => cases Nat.eq_of_beq_eq_true hn; exact ok_aload C ok hp hr (fun j x hj kk => kr_aload_n j hd hj kk) (fun j x hj kk => kr_aXload_n j hd hj kk) h
  | aload k => cases Nat.eq_of_beq_eq_true hn; exact ok_aload C ok hp hr (fun j x hj kk => kr_aload j hd hj kk) (fun j x hj kk => kr_aXload j hd hj kk) h
  | istore_n k => cases Nat.eq_of_beq_eq_true hn; exact ok_istore C ok hp hr (fun x lv' sw hl' kk => kr_istore_n hd (of_decide_eq_true hl) hl' kk) h
  | istore k => cases Nat.eq_of_beq_eq_true hn; exact ok_istore C ok hp hr (fun x lv' sw hl' kk => kr_istore hd (of_decide_eq_true hl) hl' kk) h
  | astore_n k => cases Nat.eq_of_beq_eq_true hn; exact ok_astore C ok hp hr (fun x lv' sw hl' kk => kr_astore_n hd (of_decide_eq_true hl) hl' kk) (fun x lv' sw hl' kk => kr_aXstore_n hd (of_decide_eq_true hl) hl' kk) h
  | astore k => cases Nat.eq_of_beq_eq_true hn; exact ok_astore C ok hp hr (fun x lv' sw hl' kk => kr_astore hd (of_decide_eq_true hl) hl' kk) (fun x lv' sw hl' kk => kr_aXstore hd (of_decide_eq_true hl) hl' kk) h
  | iinc i n => cases Nat.eq_of_beq_eq_true hn; exact ok_iinc C ok hp hr (of_decide_eq_true hl) hd h
  | iadd => cases Nat.eq_of_beq_eq_true hn; exact ok_arith C ok hp hr (fun x y sw kk => kr_iadd hd kk) h
  | isub => cases Nat.eq_of_beq_eq_true hn; exact ok_arith C ok hp hr (fun x y sw kk => kr_isub hd kk) h
  | imul => cases Nat.eq_of_beq_eq_true hn; exact ok_arith C ok hp hr (fun x y sw kk => kr_imul hd kk) h
  | iand => cases Nat.eq_of_beq_eq_true hn; exact ok_arith C ok hp hr (fun x y sw kk => kr_iand hd kk) h
  | ior => cases Nat.eq_of_beq_eq_true hn; exact ok_arith C ok hp hr (fun x y sw kk => kr_ior hd kk) h
  | ishr => cases Nat.eq_of_beq_eq_true hn; exact ok_arith C ok hp hr (fun x y sw kk => kr_ishr hd kk) h
  | iushr => cases Nat.eq_of_beq_eq_true hn; exact ok_arith C ok hp hr (fun x y sw kk => kr_iushr hd kk) h
  | irem => cases Nat.eq_of_beq_eq_true hn; exact ok_divi C ok hp hr (fun x y sw hy kk => kr_irem hd hy kk) h
  | i2b => cases Nat.eq_of_beq_eq_true hn; exact ok_un C ok hp hr (fun x sw kk => kr_i2b hd kk) h
  | ifCond c off =>
    cases Nat.eq_of_beq_eq_true hn
    match ex, hl, h with
    | [tgt], hl, h => exact ok_if C ok hp hr hd (of_decide_eq_true hl) h
  | if_icmp c off =>
    cases Nat.eq_of_beq_eq_true hn
    match ex, hl, h with
    | [tgt], hl, h => exact ok_icmp C ok hp hr hd (of_decide_eq_true hl) h
  | goto off =>
    cases Nat.eq_of_beq_eq_true hn
    match ex, hl, h with
    | [tgt], hl, h => exact kr_goto hd (of_decide_eq_true hl) (ex_goK C h (ex_ok0 ok) hp hr)
  | ifnonnull off =>
    cases Nat.eq_of_beq_eq_true hn
    match ex, hl, st, h with
    | [tgt], hl, .inr (.inr (.inl r)) :: st, h => exact kr_ifnonnull hd (of_decide_eq_true hl) (ex_goK C h (ex_ok0 ok) hp hr)
  | tableswitch dflt lo hi offs => exact ok_table C ok hp hr hd h
  | lookupswitch dflt ps => exact ok_lookup C ok hp hr hd hl h
  | dup =>
    cases Nat.eq_of_beq_eq_true hn
    match st, h with
    | v :: st, h =>
      have h' : ((ex_cat v).beq 1 && K T cd (pc + 1) d mc ms lv (v :: v :: st) fs me pa) = true := h
      rw [Bool.and_eq_true] at h'
      exact kr_dup hd ((ex_cat_ok ρ v).trans (Nat.eq_of_beq_eq_true h'.1)) (ex_goK C h'.2 ok hp hr)
  | dup2 =>
    cases Nat.eq_of_beq_eq_true hn
    match st, h with
    | v :: w :: st, h =>
      have h' : ((ex_cat v).beq 1 && ((ex_cat w).beq 1 && K T cd (pc + 1) d mc ms lv (v :: w :: v :: w :: st) fs me pa)) = true := h
      rw [Bool.and_eq_true, Bool.and_eq_true] at h'
      exact kr_dup2 hd ((ex_cat_ok ρ v).trans (Nat.eq_of_beq_eq_true h'.1)) ((ex_cat_ok ρ w).trans (Nat.eq_of_beq_eq_true h'.2.1)) (ex_goK C h'.2.2 ok hp hr)
  | ldc i =>
    cases Nat.eq_of_beq_eq_true hn
    match ex, hl, h with
    | [r, p], hl, h => exact kr_ldc C.1 hd (ex_mem_ok hl) (ex_goK C h ok hp hr)
    | [k, p, z], hl, h =>
      have hl' : (decide (am_sx T.1.1.cls i = k) && (match lw_tbl[p]? with
        | some (.stringRef o j _) => decide (o = T.1.1.cls) && decide (j = i)
        | _ => false)) = true := hl
      rw [Bool.and_eq_true, decide_eq_true_eq] at hl'
      obtain ⟨l1, l2⟩ := hl'
      split at l2
      · rename_i o j tx hq
        simp only [Bool.and_eq_true, decide_eq_true_eq] at l2
        rw [l2.1, l2.2] at hq
        exact kr_ldcS C.1 hd (List.mem_of_getElem? hq) l1 (ex_goK C h ok hp hr)
      · cases l2
  | ldc_w i =>
    cases Nat.eq_of_beq_eq_true hn
    match ex, hl, h with
    | [r, p], hl, h => exact kr_ldcw C.1 hd (ex_mem_ok hl) (ex_goK C h ok hp hr)
  | ldc2_w i =>
    cases Nat.eq_of_beq_eq_true hn
    match ex, hl, h with
    | [r, p], hl, h => exact kr_ldc2 C.1 hd (ex_mem_ok hl) (ex_goK C h ok hp hr)
  | getstatic i =>
    cases Nat.eq_of_beq_eq_true hn
    match ex, hl, h with
    | [1, p], hl, h => exact kr_gets C.1 hd C.1.2.2.2.1.1 (ex_mem_ok hl) (ex_goK C h ok hp hr)
    | [2, p], hl, h => exact kr_gets C.1 hd C.1.2.2.2.1.2.1 (ex_mem_ok hl) (ex_goK C h ok hp hr)
    | [3, p], hl, h => exact kr_gets C.1 hd C.1.2.2.2.1.2.2 (ex_mem_ok hl) (ex_goK C h ok hp hr)
    | [0, p], hl, h => exact Bool.noConfusion (show false = true from hl)
    | [k + 4, p], hl, h => exact Bool.noConfusion (show false = true from hl)
  | getfield i => cases Nat.eq_of_beq_eq_true hn; exact ok_getf C ok hp hr hd hl h
  | putfield i => cases Nat.eq_of_beq_eq_true hn; exact ok_putf C ok hp hr hd hl h
  | new i =>
    cases Nat.eq_of_beq_eq_true hn
    match ex, hl, h with
    | [0, ci, N, p1, p2, p3], hl, h =>
      unfold ex_lk at hl
      simp only at hl
      split at hl
      · rename_i C1 U N1 hc
        simp only [Bool.and_eq_true, decide_eq_true_eq] at hl
        obtain ⟨rfl, l2, l3, l4⟩ := hl
        exact ok_newc C ok hp hr (x := .inl ci) rfl (fun k mc1 ms1 hk kk => kr_newn C.1 hk hc hd (ex_mem_ok l2) (ex_mem_ok l3) (ex_mem_ok l4) kk) h
      · cases hl
    | [1, is, wd, p1, p2], hl, h => exact ok_throw C hp hr hd hl h
  | newarray t =>
    cases Nat.eq_of_beq_eq_true hn
    cases t with
    | int => exact ok_newa C ok hp hr (t := 0) (fun z N k mc1 ms1 sw h0 hN hb hk kk => kr_newn_int C.1 hk hd h0 hN hb kk) h
    | byte => exact ok_newa C ok hp hr (t := 1) (fun z N k mc1 ms1 sw h0 hN hb hk kk => kr_newn_byte C.1 hk hd h0 hN hb kk) h
    | long => exact ok_newa C ok hp hr (t := 2) (fun z N k mc1 ms1 sw h0 hN hb hk kk => kr_newn_long C.1 hk hd h0 hN hb kk) h
    | boolean => exact ok_newa C ok hp hr (t := 3) (fun z N k mc1 ms1 sw h0 hN hb hk kk => kr_newn_boolean C.1 hk hd h0 hN hb kk) h
    | _ => exact Bool.noConfusion (show false = true from h)
  | anewarray i =>
    cases Nat.eq_of_beq_eq_true hn
    match ex, hl with
    | [p], hl => exact ok_newa C ok hp hr (t := 4) (fun z N k mc1 ms1 sw h0 hN hb hk kk => kr_newnq C.1 hk hd (ex_mem_ok hl) h0 hN hb kk) h
  | arraylength => cases Nat.eq_of_beq_eq_true hn; exact ok_alen C ok hp hr hd h
  | iaload =>
    cases Nat.eq_of_beq_eq_true hn
    refine ok_iald C ok hp hr (t1 := 0) (t2 := 0) (fun t o n i sw ht ho hi kk => ?_) (fun _ x n f i sw hX hi kk => kr_ialdX C.1 hd hX hi kk) h
    have ht0 : t = 0 := ht.elim id id
    subst ht0
    exact kr_iald C.1 hd ho hi kk
  | baload =>
    cases Nat.eq_of_beq_eq_true hn
    refine ok_iald C ok hp hr (t1 := 1) (t2 := 3) (fun t o n i sw ht ho hi kk => ?_) (fun z => absurd z (by decide)) h
    rcases ht with ht | ht
    · subst ht
      exact kr_bald C.1 hd ho hi kk
    · subst ht
      exact kr_zald C.1 hd ho hi kk
  | aaload => cases Nat.eq_of_beq_eq_true hn; exact ok_aald C ok hp hr hd h
  | iastore => cases Nat.eq_of_beq_eq_true hn; exact ok_iast C ok hp hr hd h
  | bastore => cases Nat.eq_of_beq_eq_true hn; exact ok_bast C ok hp hr hd h
  | aastore => cases Nat.eq_of_beq_eq_true hn; exact ok_aast C ok hp hr hd h
  | invokestatic i =>
    cases Nat.eq_of_beq_eq_true hn
    match ex, hl, h with
    | [0, mi2, p], hl, h => exact ok_calls C ok hp hr hd hl h
    | [1, w, p, z], hl, h => exact ok_math C ok hp hr hd hl h
  | invokevirtual i =>
    cases Nat.eq_of_beq_eq_true hn
    match ex, hl, h with
    | [0, mi2, p], hl, h => exact ok_callv C ok hp hr hd hl h
    | [1, mi2, p, li, pck], hl, h => exact ok_try C ok hp hr hd hl h
  | invokespecial i =>
    cases Nat.eq_of_beq_eq_true hn
    match ex, hl, h with
    | [0, mi2, p], hl, h => exact ok_calli C ok hp hr hd hl h
    | [1, p], hl, h =>
      match st, h with
      | .inr (.inr (.inl o)) :: st, h =>
        have h' : ((ex_cats st).ble 8 && (Nat.ble 1 d && K T cd (pc + 3) d mc ms lv st fs me pa)) = true := h
        rw [Bool.and_eq_true, Bool.and_eq_true] at h'
        exact kr_objInit C.1 (ex_mem_ok hl) hd (ex_ble h'.2.1) (by rw [ex_cats_ok]; exact ex_ble h'.1) (ex_goK C h'.2.2 ok hp hr)
  | ireturn =>
    cases Nat.eq_of_beq_eq_true hn
    have h' : (match T.1.2.2.2.1 with
      | some ty => ex_iret K st fs me pa ty
      | none => false) = true := h
    split at h'
    · rename_i ty hty
      exact ok_iret C hp hr hty hd h'
    · cases h'
  | return_ =>
    cases Nat.eq_of_beq_eq_true hn
    have h' : hx_return_ mt K T cd pc (pc + 1) ex d mc ms lv st fs me pa = true := h
    unfold hx_return_ at h'
    split at h'
    · rename_i hty
      split at h'
      · exact kr_return hd hty (ok_back C hp hr h')
      · cases h'
    · cases h'
  | areturn =>
    cases Nat.eq_of_beq_eq_true hn
    have h' : hx_areturn mt K T cd pc (pc + 1) ex d mc ms lv st fs me pa = true := h
    unfold hx_areturn at h'
    split at h'
    · rename_i hty
      split at h'
      · exact kr_areturn hd hty (ok_back C hp hr h')
      · cases h'
    · cases h'
  | _ => exact Bool.noConfusion (show false = true from h)
end KW
/-! the end of a method under fs -/
def ex_Q (ρ : Nat → Int32) (mt : Nat → Option ex_T) (n : Nat) (fs : List ex_Fr) (r : Option (Option Value)) (σ : am_S) : Prop := match fs with
  | [] => r = some (some (.int 1))
  | f :: fs => ∃ (m : Nat) (me : ex_Me) (pa : ex_Pa), m < n ∧ ex_P ρ pa ∧ ex_R ρ me σ ∧ ((∃ v : Option ex_V, r = some (v.map (ex_ev ρ)) ∧ ex_run mt m f.1 f.2.1 f.2.2.1 f.2.2.2.1 f.2.2.2.2.1 f.2.2.2.2.2.1 f.2.2.2.2.2.2.1 (v.toList ++ f.2.2.2.2.2.2.2) fs me pa = true) ∨ (r = none ∧ f.1.1.2.2.2.2 ≠ [] ∧ ∃ (f2 : ex_Fr) (fs2 : List ex_Fr), fs = f2 :: fs2 ∧ ex_run mt m f2.1 f2.2.1 f2.2.2.1 f2.2.2.2.1 f2.2.2.2.2.1 f2.2.2.2.2.2.1 f2.2.2.2.2.2.2.1 (.inl (.nest 1 .nil) :: f2.2.2.2.2.2.2.2) fs2 me pa = true))
theorem ex_Q_mono {ρ : Nat → Int32} {mt : Nat → Option ex_T} {n n' : Nat} (h : n ≤ n') {fs : List ex_Fr} : ∀ r σ, ex_Q ρ mt n fs r σ → ex_Q ρ mt n' fs r σ := by
  intro r σ q
  match fs, q with
  | [], q => exact q
  | f :: fs, ⟨m, me, pa, h1, h2⟩ => exact ⟨m, me, pa, by omega, h2⟩
theorem ex_chk_at {mt : Nat → Option ex_T} {T : ex_T} {e : ex_E} (h : ex_chk mt T e = true) : decode T.1.2.1 e.1 = .ok (e.2.1, e.2.2.1) ∧ ex_ln e.2.1 e.2.2.1 = true ∧ e.2.2.2.1 = e.1 + e.2.2.1 ∧ ex_lk mt T e.1 e.2.1 e.2.2.2.2 = true := by
  unfold ex_chk at h
  rw [Bool.and_eq_true, Bool.and_eq_true, Bool.and_eq_true] at h
  exact ⟨of_decide_eq_true h.1, h.2.1, Nat.eq_of_beq_eq_true h.2.2.1, h.2.2.2⟩
theorem ok_run {g : am_C} {ρ : Nat → Int32} {mt : Nat → Option ex_T} (G : am_G g) {L : Nat} {xs : Nat → Int32} (hX : g.2.2.2.2.2.2 = am_X L xs) (hL : L ≤ 6) (hρ : ∀ k, k < 100 → ρ k = xs k) (hρL : ρ 100 = Int32.ofNat L) (hmt : ∀ mi T, mt mi = some T → ex_tok mt T = true) (n : Nat) :
    ∀ m, m ≤ n → ∀ (T : ex_T) (cd : List ex_E) (pc d mc ms : Nat) (lv : ex_L) (st : List ex_V) (fs : List ex_Fr) (me : ex_Me) (pa : ex_Pa) (σ : am_S), ex_run mt m T cd pc d mc ms lv st fs me pa = true → ex_okF mt T cd → ex_P ρ pa → ex_R ρ me σ → am_K g d T.1 mc ms pc (ex_lv ρ lv) (st.map (ex_ev ρ)) σ (ex_Q ρ mt m fs) := by
  induction n with
  | zero =>
    intro m hm T cd pc d mc ms lv st fs me pa σ h
    cases Nat.le_zero.mp hm
    exact Bool.noConfusion (show false = true from h)
  | succ n ih =>
    intro m hm
    by_cases hmn : m ≤ n
    · exact ih m hmn
    · have hm1 : m = n + 1 := by omega
      subst hm1
      intro T cd pc d mc ms lv st fs me pa σ h ok hp hr
      have C : ex_C g ρ mt (ex_run mt n) (ex_Q ρ mt (n + 1)) := by
        refine ⟨G, ⟨L, xs, hX, hL, hρ, hρL⟩, hmt, ?_, ?_, ?_, ?_, ?_, ?_⟩
        · intro T cd pc d mc ms lv st fs me pa σ h ok hp hr
          exact kr_mono (ex_Q_mono (by omega)) (ih n (Nat.le_refl n) T cd pc d mc ms lv st fs me pa σ h ok hp hr)
        · intro σ; rfl
        · intro T cd pc d mc ms lv st fs v me pa σ h hp hr
          exact ⟨n, me, pa, by omega, hp, hr, Or.inl ⟨v, rfl, h⟩⟩
        · intro f T cd pc d mc ms lv st fs me pa σ hh h hp hr
          exact ⟨n, me, pa, by omega, hp, hr, Or.inr ⟨rfl, hh, _, _, rfl, h⟩⟩
        · intro T cd pc d mc ms lv st fs v σ q ok
          obtain ⟨m, me, pa, h1, hp, hr, ⟨w, h2, h3⟩ | ⟨h2, -⟩⟩ := q
          · have hv : v = w.map (ex_ev ρ) := Option.some.inj h2
            have := kr_mono (ex_Q_mono (by omega : m ≤ n + 1)) (ih m (by omega) T cd pc d mc ms lv (w.toList ++ st) fs me pa σ h3 ok hp hr)
            rw [hv]
            cases w with
            | none => exact this
            | some w => exact this
          · cases h2
        · intro f fs σ q
          obtain ⟨m, me, pa, h1, hp, hr, ⟨w, h2, h3⟩ | ⟨-, hh, f2, fs2, hfs, h3⟩⟩ := q
          · cases h2
          · refine ⟨hh, ?_⟩
            subst hfs
            exact ⟨m, me, pa, h1, hp, hr, Or.inl ⟨some (.inl (.nest 1 .nil)), rfl, h3⟩⟩
      have go : ∀ (e : ex_E) (cd : List ex_E), (∀ z ∈ e :: cd, ex_chk mt T z = true) → (bif e.1.beq pc then ex_op e.2.1 mt (ex_run mt n) T cd pc e.2.2.2.1 e.2.2.2.2 d mc ms lv st fs me pa else false) = true → am_K g d T.1 mc ms pc (ex_lv ρ lv) (st.map (ex_ev ρ)) σ (ex_Q ρ mt (n + 1) fs) := by
        intro e cd hz hb
        cases hpc : e.1.beq pc with
        | false => rw [hpc] at hb; cases hb
        | true =>
          rw [hpc] at hb
          have e1 := Nat.eq_of_beq_eq_true hpc
          obtain ⟨a1, a2, a3, a4⟩ := ex_chk_at (hz e List.mem_cons_self)
          rw [e1] at a1 a3 a4
          exact ok_step C ⟨ok.1, fun z hz' => hz z (List.mem_cons_of_mem _ hz')⟩ hp hr a1 a2 a3 a4 hb
      match cd, ok, h with
      | e :: cd, ok, h => exact go e cd ok.2 h
      | [], ok, h =>
        have h' : (match ex_look T pc with
          | (p, ins, _, nx, ex) :: cd => bif p.beq pc then ex_op ins mt (ex_run mt n) T cd pc nx ex d mc ms lv st fs me pa else false
          | [] => false) = true := h
        split at h'
        · rename_i p ins z nx ex cd hlook
          refine go (p, ins, z, nx, ex) cd ?_ h'
          rw [← hlook]
          exact ex_tok_at ok.1
        · cases h'
end
section
/-! the methods that are reached, as the executor reads them (written by a program) -/
abbrev mL_law : am_M := (yL_law, cL_law, 7, some (.boolean), [])
noncomputable def bL_law_0 : List ex_E := [(0, .new 8, 3, 3, [0, 11, 17, 126, 127, 102]), (3, .dup, 1, 4, []), (4, .invokespecial 35, 3, 7, [0, 34, 128]), (7, .astore_n 1, 1, 8, []), (8, .new 36, 3, 11, [0, 12, 47, 1551, 1545, 115]), (11, .dup, 1, 12, []), (12, .invokespecial 38, 3, 15, [0, 89, 1552]), (15, .astore_n 2, 1, 16, []), (16, .iconst 1, 1, 17, []), (17, .newarray .long, 2, 19, []), (19, .astore_n 3, 1, 20, []), (20, .iconst 0, 1, 21, []), (21, .istore 4, 2, 23, []), (23, .iload 4, 2, 25, []), (25, .aload_n 0, 1, 26, []), (26, .arraylength, 1, 27, []), (27, .bipush 6, 2, 29, []), (29, .isub, 1, 30, []), (30, .if_icmp .gt 1712, 3, 33, [1742])]
noncomputable def bL_law_1 : List ex_E := [(33, .aload_n 0, 1, 34, []), (34, .iload 4, 2, 36, []), (36, .iaload, 1, 37, []), (37, .bipush 63, 2, 39, []), (39, .iand, 1, 40, []), (40, .tableswitch 1696 0 42 #[188, 261, 286, 299, 312, 380, 417, 442, 479, 504, 529, 554, 579, 592, 605, 618, 686, 778, 815, 840, 932, 957, 994, 1007, 1087, 1155, 1192, 1253, 1266, 1303, 1328, 1353, 1433, 1446, 1459, 1496, 1533, 1558, 1583, 1596, 1621, 1646, 1671], 188, 228, [])]
noncomputable def bL_law_7 : List ex_E := [(228, .aload_n 1, 1, 229, []), (229, .aload_n 0, 1, 230, []), (230, .iload 4, 2, 232, []), (232, .iconst 1, 1, 233, []), (233, .iadd, 1, 234, []), (234, .iaload, 1, 235, []), (235, .aload_n 0, 1, 236, []), (236, .iload 4, 2, 238, []), (238, .iconst 2, 1, 239, []), (239, .iadd, 1, 240, []), (240, .iaload, 1, 241, []), (241, .aload_n 0, 1, 242, []), (242, .iload 4, 2, 244, []), (244, .iconst 3, 1, 245, []), (245, .iadd, 1, 246, []), (246, .iaload, 1, 247, []), (247, .aload_n 0, 1, 248, []), (248, .iload 4, 2, 250, []), (250, .iconst 4, 1, 251, []), (251, .iadd, 1, 252, []), (252, .iaload, 1, 253, []), (253, .aload_n 0, 1, 254, []), (254, .iload 4, 2, 256, [])]
noncomputable def bL_law_8 : List ex_E := [(256, .iconst 5, 1, 257, []), (257, .iadd, 1, 258, []), (258, .iaload, 1, 259, []), (259, .invokevirtual 39, 3, 262, [0, 28, 580]), (262, .aload_n 2, 1, 263, []), (263, .aload_n 0, 1, 264, []), (264, .iload 4, 2, 266, []), (266, .iconst 1, 1, 267, []), (267, .iadd, 1, 268, []), (268, .iaload, 1, 269, []), (269, .aload_n 0, 1, 270, []), (270, .iload 4, 2, 272, []), (272, .iconst 2, 1, 273, []), (273, .iadd, 1, 274, []), (274, .iaload, 1, 275, []), (275, .aload_n 0, 1, 276, []), (276, .iload 4, 2, 278, []), (278, .iconst 3, 1, 279, []), (279, .iadd, 1, 280, []), (280, .iaload, 1, 281, []), (281, .aload_n 0, 1, 282, []), (282, .iload 4, 2, 284, []), (284, .iconst 4, 1, 285, []), (285, .iadd, 1, 286, []), (286, .iaload, 1, 287, []), (287, .aload_n 0, 1, 288, [])]
noncomputable def bL_law_9 : List ex_E := [(288, .iload 4, 2, 290, []), (290, .iconst 5, 1, 291, []), (291, .iadd, 1, 292, []), (292, .iaload, 1, 293, []), (293, .invokevirtual 43, 3, 296, [0, 81, 1538]), (296, .if_icmp .eq 1440, 3, 299, [1736]), (301, .aload_n 1, 1, 302, []), (302, .aload_n 0, 1, 303, []), (303, .iload 4, 2, 305, []), (305, .iconst 1, 1, 306, []), (306, .iadd, 1, 307, []), (307, .iaload, 1, 308, []), (308, .invokevirtual 44, 3, 311, [0, 25, 592]), (311, .aload_n 2, 1, 312, []), (312, .aload_n 0, 1, 313, []), (313, .iload 4, 2, 315, []), (315, .iconst 1, 1, 316, []), (316, .iadd, 1, 317, []), (317, .iaload, 1, 318, []), (318, .invokevirtual 48, 3, 321, [0, 79, 1547])]
noncomputable def bL_law_10 : List ex_E := [(321, .if_icmp .eq 1415, 3, 324, [1736]), (326, .aload_n 1, 1, 327, []), (327, .invokevirtual 49, 3, 330, [0, 56, 596]), (330, .aload_n 2, 1, 331, []), (331, .invokevirtual 53, 3, 334, [0, 122, 1703]), (334, .if_icmp .eq 1402, 3, 337, [1736]), (339, .aload_n 1, 1, 340, []), (340, .invokevirtual 54, 3, 343, [0, 27, 760]), (343, .aload_n 2, 1, 344, []), (344, .invokevirtual 57, 3, 347, [0, 80, 1776]), (347, .if_icmp .eq 1389, 3, 350, [1736])]
noncomputable def bL_law_11 : List ex_E := [(352, .aload_n 1, 1, 353, []), (353, .aload_n 0, 1, 354, []), (354, .iload 4, 2, 356, []), (356, .iconst 1, 1, 357, []), (357, .iadd, 1, 358, []), (358, .iaload, 1, 359, []), (359, .aload_n 0, 1, 360, []), (360, .iload 4, 2, 362, []), (362, .iconst 2, 1, 363, []), (363, .iadd, 1, 364, []), (364, .iaload, 1, 365, []), (365, .aload_n 3, 1, 366, []), (366, .invokestatic 58, 3, 369, [0, 7, 1387]), (369, .istore 5, 2, 371, []), (371, .aload_n 2, 1, 372, []), (372, .aload_n 0, 1, 373, []), (373, .iload 4, 2, 375, []), (375, .iconst 1, 1, 376, []), (376, .iadd, 1, 377, []), (377, .iaload, 1, 378, []), (378, .aload_n 0, 1, 379, []), (379, .iload 4, 2, 381, []), (381, .iconst 2, 1, 382, []), (382, .iadd, 1, 383, []), (383, .iaload, 1, 384, [])]
noncomputable def bL_law_12 : List ex_E := [(384, .invokevirtual 63, 3, 387, [0, 137, 1780]), (387, .istore 6, 2, 389, []), (389, .aload_n 2, 1, 390, []), (390, .invokevirtual 64, 3, 393, [0, 125, 1534]), (393, .iload 5, 2, 395, []), (395, .if_icmp .eq 5, 3, 398, [400]), (400, .iload 5, 2, 402, []), (402, .ifCond .ne 15, 3, 405, [417])]
noncomputable def bL_law_13 : List ex_E := [(417, .goto 1319, 3, 420, [1736]), (420, .aload_n 1, 1, 421, []), (421, .aload_n 0, 1, 422, []), (422, .iload 4, 2, 424, []), (424, .iconst 1, 1, 425, []), (425, .iadd, 1, 426, []), (426, .iaload, 1, 427, []), (427, .aload_n 0, 1, 428, []), (428, .iload 4, 2, 430, []), (430, .iconst 2, 1, 431, []), (431, .iadd, 1, 432, []), (432, .iaload, 1, 433, []), (433, .invokevirtual 67, 3, 436, [0, 55, 764]), (436, .aload_n 2, 1, 437, []), (437, .aload_n 0, 1, 438, []), (438, .iload 4, 2, 440, []), (440, .iconst 1, 1, 441, []), (441, .iadd, 1, 442, []), (442, .iaload, 1, 443, []), (443, .aload_n 0, 1, 444, []), (444, .iload 4, 2, 446, []), (446, .iconst 2, 1, 447, []), (447, .iadd, 1, 448, [])]
noncomputable def bL_law_14 : List ex_E := [(448, .iaload, 1, 449, []), (449, .invokevirtual 70, 3, 452, [0, 119, 1792]), (452, .if_icmp .eq 1284, 3, 455, [1736]), (457, .aload_n 1, 1, 458, []), (458, .aload_n 0, 1, 459, []), (459, .iload 4, 2, 461, []), (461, .iconst 1, 1, 462, []), (462, .iadd, 1, 463, []), (463, .iaload, 1, 464, []), (464, .invokevirtual 71, 3, 467, [0, 44, 773]), (467, .aload_n 2, 1, 468, []), (468, .aload_n 0, 1, 469, []), (469, .iload 4, 2, 471, []), (471, .iconst 1, 1, 472, []), (472, .iadd, 1, 473, []), (473, .iaload, 1, 474, []), (474, .invokevirtual 75, 3, 477, [0, 104, 1811]), (477, .if_icmp .eq 1259, 3, 480, [1736])]
noncomputable def bL_law_15 : List ex_E := [(482, .aload_n 1, 1, 483, []), (483, .aload_n 0, 1, 484, []), (484, .iload 4, 2, 486, []), (486, .iconst 1, 1, 487, []), (487, .iadd, 1, 488, []), (488, .iaload, 1, 489, []), (489, .aload_n 0, 1, 490, []), (490, .iload 4, 2, 492, []), (492, .iconst 2, 1, 493, []), (493, .iadd, 1, 494, []), (494, .iaload, 1, 495, []), (495, .invokevirtual 76, 3, 498, [0, 58, 786]), (498, .aload_n 2, 1, 499, []), (499, .aload_n 0, 1, 500, []), (500, .iload 4, 2, 502, []), (502, .iconst 1, 1, 503, []), (503, .iadd, 1, 504, []), (504, .iaload, 1, 505, []), (505, .aload_n 0, 1, 506, []), (506, .iload 4, 2, 508, []), (508, .iconst 2, 1, 509, []), (509, .iadd, 1, 510, []), (510, .iaload, 1, 511, []), (511, .invokevirtual 79, 3, 514, [0, 127, 1819])]
noncomputable def bL_law_16 : List ex_E := [(514, .if_icmp .eq 1222, 3, 517, [1736]), (519, .aload_n 1, 1, 520, []), (520, .aload_n 0, 1, 521, []), (521, .iload 4, 2, 523, []), (523, .iconst 1, 1, 524, []), (524, .iadd, 1, 525, []), (525, .iaload, 1, 526, []), (526, .invokevirtual 80, 3, 529, [0, 14, 821]), (529, .aload_n 2, 1, 530, []), (530, .aload_n 0, 1, 531, []), (531, .iload 4, 2, 533, []), (533, .iconst 1, 1, 534, []), (534, .iadd, 1, 535, []), (535, .iaload, 1, 536, []), (536, .invokevirtual 83, 3, 539, [0, 67, 1831]), (539, .if_icmp .eq 1197, 3, 542, [1736])]
noncomputable def bL_law_17 : List ex_E := [(544, .aload_n 1, 1, 545, []), (545, .aload_n 0, 1, 546, []), (546, .iload 4, 2, 548, []), (548, .iconst 1, 1, 549, []), (549, .iadd, 1, 550, []), (550, .iaload, 1, 551, []), (551, .invokevirtual 84, 3, 554, [0, 51, 833]), (554, .aload_n 2, 1, 555, []), (555, .aload_n 0, 1, 556, []), (556, .iload 4, 2, 558, []), (558, .iconst 1, 1, 559, []), (559, .iadd, 1, 560, []), (560, .iaload, 1, 561, []), (561, .invokevirtual 87, 3, 564, [0, 115, 1839]), (564, .if_icmp .eq 1172, 3, 567, [1736]), (569, .aload_n 1, 1, 570, []), (570, .aload_n 0, 1, 571, []), (571, .iload 4, 2, 573, []), (573, .iconst 1, 1, 574, []), (574, .iadd, 1, 575, []), (575, .iaload, 1, 576, [])]
noncomputable def bL_law_18 : List ex_E := [(576, .invokevirtual 88, 3, 579, [0, 62, 903]), (579, .aload_n 2, 1, 580, []), (580, .aload_n 0, 1, 581, []), (581, .iload 4, 2, 583, []), (583, .iconst 1, 1, 584, []), (584, .iadd, 1, 585, []), (585, .iaload, 1, 586, []), (586, .invokevirtual 91, 3, 589, [0, 131, 1875]), (589, .if_icmp .eq 1147, 3, 592, [1736]), (594, .aload_n 1, 1, 595, []), (595, .aload_n 0, 1, 596, []), (596, .iload 4, 2, 598, []), (598, .iconst 1, 1, 599, []), (599, .iadd, 1, 600, []), (600, .iaload, 1, 601, []), (601, .invokevirtual 92, 3, 604, [0, 61, 916]), (604, .aload_n 2, 1, 605, []), (605, .aload_n 0, 1, 606, []), (606, .iload 4, 2, 608, [])]
noncomputable def bL_law_19 : List ex_E := [(608, .iconst 1, 1, 609, []), (609, .iadd, 1, 610, []), (610, .iaload, 1, 611, []), (611, .invokevirtual 95, 3, 614, [0, 130, 1887]), (614, .if_icmp .eq 1122, 3, 617, [1736]), (619, .aload_n 1, 1, 620, []), (620, .invokevirtual 96, 3, 623, [0, 60, 924]), (623, .aload_n 2, 1, 624, []), (624, .invokevirtual 99, 3, 627, [0, 129, 1895]), (627, .if_icmp .eq 1109, 3, 630, [1736]), (632, .aload_n 1, 1, 633, []), (633, .invokevirtual 100, 3, 636, [0, 38, 932]), (636, .aload_n 2, 1, 637, []), (637, .invokevirtual 103, 3, 640, [0, 96, 1899])]
noncomputable def bL_law_20 : List ex_E := [(640, .if_icmp .eq 1096, 3, 643, [1736]), (645, .aload_n 1, 1, 646, []), (646, .invokevirtual 104, 3, 649, [0, 30, 936]), (649, .aload_n 2, 1, 650, []), (650, .invokevirtual 107, 3, 653, [0, 85, 1903]), (653, .if_icmp .eq 1083, 3, 656, [1736]), (658, .aload_n 1, 1, 659, []), (659, .aload_n 0, 1, 660, []), (660, .iload 4, 2, 662, []), (662, .iconst 1, 1, 663, []), (663, .iadd, 1, 664, []), (664, .iaload, 1, 665, []), (665, .aload_n 0, 1, 666, []), (666, .iload 4, 2, 668, []), (668, .iconst 2, 1, 669, []), (669, .iadd, 1, 670, []), (670, .iaload, 1, 671, []), (671, .aload_n 3, 1, 672, [])]
noncomputable def bL_law_21 : List ex_E := [(672, .invokestatic 108, 3, 675, [0, 8, 1464]), (675, .istore 5, 2, 677, []), (677, .aload_n 2, 1, 678, []), (678, .aload_n 0, 1, 679, []), (679, .iload 4, 2, 681, []), (681, .iconst 1, 1, 682, []), (682, .iadd, 1, 683, []), (683, .iaload, 1, 684, []), (684, .aload_n 0, 1, 685, []), (685, .iload 4, 2, 687, []), (687, .iconst 2, 1, 688, []), (688, .iadd, 1, 689, []), (689, .iaload, 1, 690, []), (690, .invokevirtual 110, 3, 693, [0, 138, 1911]), (693, .istore 6, 2, 695, []), (695, .aload_n 2, 1, 696, []), (696, .invokevirtual 64, 3, 699, [0, 125, 1534]), (699, .iload 5, 2, 701, []), (701, .if_icmp .eq 5, 3, 704, [706])]
noncomputable def bL_law_22 : List ex_E := [(706, .iload 5, 2, 708, []), (708, .ifCond .ne 15, 3, 711, [723]), (723, .goto 1013, 3, 726, [1736]), (726, .aload_n 1, 1, 727, []), (727, .aload_n 0, 1, 728, []), (728, .iload 4, 2, 730, []), (730, .iconst 1, 1, 731, []), (731, .iadd, 1, 732, []), (732, .iaload, 1, 733, []), (733, .aload_n 0, 1, 734, []), (734, .iload 4, 2, 736, [])]
noncomputable def bL_law_23 : List ex_E := [(736, .iconst 2, 1, 737, []), (737, .iadd, 1, 738, []), (738, .iaload, 1, 739, []), (739, .aload_n 0, 1, 740, []), (740, .iload 4, 2, 742, []), (742, .iconst 3, 1, 743, []), (743, .iadd, 1, 744, []), (744, .iaload, 1, 745, []), (745, .aload_n 0, 1, 746, []), (746, .iload 4, 2, 748, []), (748, .iconst 4, 1, 749, []), (749, .iadd, 1, 750, []), (750, .iaload, 1, 751, []), (751, .aload_n 3, 1, 752, []), (752, .invokestatic 111, 3, 755, [0, 4, 1484]), (755, .istore 5, 2, 757, []), (757, .aload_n 2, 1, 758, []), (758, .aload_n 0, 1, 759, []), (759, .iload 4, 2, 761, []), (761, .iconst 1, 1, 762, []), (762, .iadd, 1, 763, []), (763, .iaload, 1, 764, []), (764, .aload_n 0, 1, 765, []), (765, .iload 4, 2, 767, []), (767, .iconst 2, 1, 768, [])]
noncomputable def bL_law_24 : List ex_E := [(768, .iadd, 1, 769, []), (769, .iaload, 1, 770, []), (770, .aload_n 0, 1, 771, []), (771, .iload 4, 2, 773, []), (773, .iconst 3, 1, 774, []), (774, .iadd, 1, 775, []), (775, .iaload, 1, 776, []), (776, .aload_n 0, 1, 777, []), (777, .iload 4, 2, 779, []), (779, .iconst 4, 1, 780, []), (780, .iadd, 1, 781, []), (781, .iaload, 1, 782, []), (782, .invokevirtual 114, 3, 785, [0, 83, 1918]), (785, .istore 6, 2, 787, []), (787, .aload_n 2, 1, 788, []), (788, .invokevirtual 64, 3, 791, [0, 125, 1534]), (791, .iload 5, 2, 793, []), (793, .if_icmp .eq 5, 3, 796, [798]), (798, .iload 5, 2, 800, [])]
noncomputable def bL_law_25 : List ex_E := [(800, .ifCond .ne 15, 3, 803, [815]), (815, .goto 921, 3, 818, [1736]), (818, .aload_n 1, 1, 819, []), (819, .aload_n 0, 1, 820, []), (820, .iload 4, 2, 822, []), (822, .iconst 1, 1, 823, []), (823, .iadd, 1, 824, []), (824, .iaload, 1, 825, []), (825, .aload_n 0, 1, 826, []), (826, .iload 4, 2, 828, []), (828, .iconst 2, 1, 829, []), (829, .iadd, 1, 830, []), (830, .iaload, 1, 831, []), (831, .invokevirtual 115, 3, 834, [0, 16, 951])]
noncomputable def bL_law_26 : List ex_E := [(834, .aload_n 2, 1, 835, []), (835, .aload_n 0, 1, 836, []), (836, .iload 4, 2, 838, []), (838, .iconst 1, 1, 839, []), (839, .iadd, 1, 840, []), (840, .iaload, 1, 841, []), (841, .aload_n 0, 1, 842, []), (842, .iload 4, 2, 844, []), (844, .iconst 2, 1, 845, []), (845, .iadd, 1, 846, []), (846, .iaload, 1, 847, []), (847, .invokevirtual 118, 3, 850, [0, 69, 1934]), (850, .if_icmp .eq 886, 3, 853, [1736]), (855, .aload_n 1, 1, 856, []), (856, .aload_n 0, 1, 857, []), (857, .iload 4, 2, 859, []), (859, .iconst 1, 1, 860, []), (860, .iadd, 1, 861, []), (861, .iaload, 1, 862, []), (862, .invokevirtual 119, 3, 865, [0, 59, 974])]
noncomputable def bL_law_27 : List ex_E := [(865, .aload_n 2, 1, 866, []), (866, .aload_n 0, 1, 867, []), (867, .iload 4, 2, 869, []), (869, .iconst 1, 1, 870, []), (870, .iadd, 1, 871, []), (871, .iaload, 1, 872, []), (872, .invokevirtual 122, 3, 875, [0, 128, 1942]), (875, .if_icmp .eq 861, 3, 878, [1736]), (880, .aload_n 1, 1, 881, []), (881, .aload_n 0, 1, 882, []), (882, .iload 4, 2, 884, []), (884, .iconst 1, 1, 885, []), (885, .iadd, 1, 886, []), (886, .iaload, 1, 887, []), (887, .aload_n 0, 1, 888, []), (888, .iload 4, 2, 890, []), (890, .iconst 2, 1, 891, []), (891, .iadd, 1, 892, []), (892, .iaload, 1, 893, []), (893, .aload_n 0, 1, 894, []), (894, .iload 4, 2, 896, [])]
noncomputable def bL_law_28 : List ex_E := [(896, .iconst 3, 1, 897, []), (897, .iadd, 1, 898, []), (898, .iaload, 1, 899, []), (899, .aload_n 0, 1, 900, []), (900, .iload 4, 2, 902, []), (902, .iconst 4, 1, 903, []), (903, .iadd, 1, 904, []), (904, .iaload, 1, 905, []), (905, .aload_n 3, 1, 906, []), (906, .invokestatic 123, 3, 909, [0, 6, 1493]), (909, .istore 5, 2, 911, []), (911, .aload_n 2, 1, 912, []), (912, .aload_n 0, 1, 913, []), (913, .iload 4, 2, 915, []), (915, .iconst 1, 1, 916, []), (916, .iadd, 1, 917, []), (917, .iaload, 1, 918, []), (918, .aload_n 0, 1, 919, []), (919, .iload 4, 2, 921, []), (921, .iconst 2, 1, 922, []), (922, .iadd, 1, 923, []), (923, .iaload, 1, 924, []), (924, .aload_n 0, 1, 925, []), (925, .iload 4, 2, 927, []), (927, .iconst 3, 1, 928, [])]
noncomputable def bL_law_29 : List ex_E := [(928, .iadd, 1, 929, []), (929, .iaload, 1, 930, []), (930, .aload_n 0, 1, 931, []), (931, .iload 4, 2, 933, []), (933, .iconst 4, 1, 934, []), (934, .iadd, 1, 935, []), (935, .iaload, 1, 936, []), (936, .invokevirtual 125, 3, 939, [0, 108, 1946]), (939, .istore 6, 2, 941, []), (941, .aload_n 2, 1, 942, []), (942, .invokevirtual 64, 3, 945, [0, 125, 1534]), (945, .iload 5, 2, 947, []), (947, .if_icmp .eq 5, 3, 950, [952]), (952, .iload 5, 2, 954, []), (954, .ifCond .ne 15, 3, 957, [969])]
noncomputable def bL_law_30 : List ex_E := [(969, .goto 767, 3, 972, [1736]), (972, .aload_n 1, 1, 973, []), (973, .aload_n 0, 1, 974, []), (974, .iload 4, 2, 976, []), (976, .iconst 1, 1, 977, []), (977, .iadd, 1, 978, []), (978, .iaload, 1, 979, []), (979, .invokevirtual 126, 3, 982, [0, 15, 979]), (982, .aload_n 2, 1, 983, []), (983, .aload_n 0, 1, 984, []), (984, .iload 4, 2, 986, []), (986, .iconst 1, 1, 987, []), (987, .iadd, 1, 988, []), (988, .iaload, 1, 989, []), (989, .invokevirtual 129, 3, 992, [0, 68, 1979])]
noncomputable def bL_law_31 : List ex_E := [(992, .if_icmp .eq 744, 3, 995, [1736]), (997, .aload_n 1, 1, 998, []), (998, .aload_n 0, 1, 999, []), (999, .iload 4, 2, 1001, []), (1001, .iconst 1, 1, 1002, []), (1002, .iadd, 1, 1003, []), (1003, .iaload, 1, 1004, []), (1004, .aload_n 0, 1, 1005, []), (1005, .iload 4, 2, 1007, []), (1007, .iconst 2, 1, 1008, []), (1008, .iadd, 1, 1009, []), (1009, .iaload, 1, 1010, []), (1010, .invokevirtual 130, 3, 1013, [0, 50, 1076]), (1013, .aload_n 2, 1, 1014, []), (1014, .aload_n 0, 1, 1015, []), (1015, .iload 4, 2, 1017, []), (1017, .iconst 1, 1, 1018, []), (1018, .iadd, 1, 1019, []), (1019, .iaload, 1, 1020, []), (1020, .aload_n 0, 1, 1021, []), (1021, .iload 4, 2, 1023, []), (1023, .iconst 2, 1, 1024, [])]
noncomputable def bL_law_32 : List ex_E := [(1024, .iadd, 1, 1025, []), (1025, .iaload, 1, 1026, []), (1026, .invokevirtual 133, 3, 1029, [0, 113, 1995]), (1029, .if_icmp .eq 707, 3, 1032, [1736]), (1034, .aload_n 1, 1, 1035, []), (1035, .invokevirtual 134, 3, 1038, [0, 52, 1086]), (1038, .aload_n 2, 1, 1039, []), (1039, .invokevirtual 137, 3, 1042, [0, 116, 1999]), (1042, .if_icmp .eq 694, 3, 1045, [1736]), (1047, .aload_n 1, 1, 1048, []), (1048, .aload_n 0, 1, 1049, []), (1049, .iload 4, 2, 1051, []), (1051, .iconst 1, 1, 1052, []), (1052, .iadd, 1, 1053, []), (1053, .iaload, 1, 1054, []), (1054, .aload_n 0, 1, 1055, []), (1055, .iload 4, 2, 1057, [])]
noncomputable def bL_law_33 : List ex_E := [(1057, .iconst 2, 1, 1058, []), (1058, .iadd, 1, 1059, []), (1059, .iaload, 1, 1060, []), (1060, .aload_n 0, 1, 1061, []), (1061, .iload 4, 2, 1063, []), (1063, .iconst 3, 1, 1064, []), (1064, .iadd, 1, 1065, []), (1065, .iaload, 1, 1066, []), (1066, .aload_n 3, 1, 1067, []), (1067, .invokestatic 138, 3, 1070, [0, 3, 1505]), (1070, .istore 5, 2, 1072, []), (1072, .aload_n 2, 1, 1073, []), (1073, .aload_n 0, 1, 1074, []), (1074, .iload 4, 2, 1076, []), (1076, .iconst 1, 1, 1077, []), (1077, .iadd, 1, 1078, []), (1078, .iaload, 1, 1079, []), (1079, .aload_n 0, 1, 1080, []), (1080, .iload 4, 2, 1082, []), (1082, .iconst 2, 1, 1083, []), (1083, .iadd, 1, 1084, []), (1084, .iaload, 1, 1085, []), (1085, .aload_n 0, 1, 1086, []), (1086, .iload 4, 2, 1088, [])]
noncomputable def bL_law_34 : List ex_E := [(1088, .iconst 3, 1, 1089, []), (1089, .iadd, 1, 1090, []), (1090, .iaload, 1, 1091, []), (1091, .invokevirtual 141, 3, 1094, [0, 78, 2015]), (1094, .istore 6, 2, 1096, []), (1096, .aload_n 2, 1, 1097, []), (1097, .invokevirtual 64, 3, 1100, [0, 125, 1534]), (1100, .iload 5, 2, 1102, []), (1102, .if_icmp .eq 5, 3, 1105, [1107]), (1107, .iload 5, 2, 1109, []), (1109, .ifCond .ne 15, 3, 1112, [1124])]
noncomputable def bL_law_35 : List ex_E := [(1124, .goto 612, 3, 1127, [1736]), (1127, .aload_n 1, 1, 1128, []), (1128, .aload_n 0, 1, 1129, []), (1129, .iload 4, 2, 1131, []), (1131, .iconst 1, 1, 1132, []), (1132, .iadd, 1, 1133, []), (1133, .iaload, 1, 1134, []), (1134, .aload_n 0, 1, 1135, []), (1135, .iload 4, 2, 1137, []), (1137, .iconst 2, 1, 1138, []), (1138, .iadd, 1, 1139, []), (1139, .iaload, 1, 1140, []), (1140, .aload_n 3, 1, 1141, []), (1141, .invokestatic 142, 3, 1144, [0, 2, 1514]), (1144, .istore 5, 2, 1146, []), (1146, .aload_n 2, 1, 1147, []), (1147, .aload_n 0, 1, 1148, []), (1148, .iload 4, 2, 1150, []), (1150, .iconst 1, 1, 1151, []), (1151, .iadd, 1, 1152, [])]
noncomputable def bL_law_36 : List ex_E := [(1152, .iaload, 1, 1153, []), (1153, .aload_n 0, 1, 1154, []), (1154, .iload 4, 2, 1156, []), (1156, .iconst 2, 1, 1157, []), (1157, .iadd, 1, 1158, []), (1158, .iaload, 1, 1159, []), (1159, .invokevirtual 144, 3, 1162, [0, 76, 2019]), (1162, .istore 6, 2, 1164, []), (1164, .aload_n 2, 1, 1165, []), (1165, .invokevirtual 64, 3, 1168, [0, 125, 1534]), (1168, .iload 5, 2, 1170, []), (1170, .if_icmp .eq 5, 3, 1173, [1175]), (1175, .iload 5, 2, 1177, []), (1177, .ifCond .ne 15, 3, 1180, [1192])]
noncomputable def bL_law_37 : List ex_E := [(1192, .goto 544, 3, 1195, [1736]), (1195, .aload_n 1, 1, 1196, []), (1196, .aload_n 0, 1, 1197, []), (1197, .iload 4, 2, 1199, []), (1199, .iconst 1, 1, 1200, []), (1200, .iadd, 1, 1201, []), (1201, .iaload, 1, 1202, []), (1202, .aload_n 0, 1, 1203, []), (1203, .iload 4, 2, 1205, []), (1205, .iconst 2, 1, 1206, []), (1206, .iadd, 1, 1207, []), (1207, .iaload, 1, 1208, []), (1208, .invokevirtual 145, 3, 1211, [0, 54, 1121]), (1211, .aload_n 2, 1, 1212, []), (1212, .aload_n 0, 1, 1213, []), (1213, .iload 4, 2, 1215, []), (1215, .iconst 1, 1, 1216, [])]
noncomputable def bL_law_38 : List ex_E := [(1216, .iadd, 1, 1217, []), (1217, .iaload, 1, 1218, []), (1218, .aload_n 0, 1, 1219, []), (1219, .iload 4, 2, 1221, []), (1221, .iconst 2, 1, 1222, []), (1222, .iadd, 1, 1223, []), (1223, .iaload, 1, 1224, []), (1224, .invokevirtual 148, 3, 1227, [0, 118, 2023]), (1227, .if_icmp .eq 509, 3, 1230, [1736]), (1232, .aload_n 1, 1, 1233, []), (1233, .aload_n 0, 1, 1234, []), (1234, .iload 4, 2, 1236, []), (1236, .iconst 1, 1, 1237, []), (1237, .iadd, 1, 1238, []), (1238, .iaload, 1, 1239, []), (1239, .aload_n 0, 1, 1240, []), (1240, .iload 4, 2, 1242, []), (1242, .iconst 2, 1, 1243, []), (1243, .iadd, 1, 1244, []), (1244, .iaload, 1, 1245, []), (1245, .aload_n 0, 1, 1246, []), (1246, .iload 4, 2, 1248, [])]
noncomputable def bL_law_39 : List ex_E := [(1248, .iconst 3, 1, 1249, []), (1249, .iadd, 1, 1250, []), (1250, .iaload, 1, 1251, []), (1251, .aload_n 0, 1, 1252, []), (1252, .iload 4, 2, 1254, []), (1254, .iconst 4, 1, 1255, []), (1255, .iadd, 1, 1256, []), (1256, .iaload, 1, 1257, []), (1257, .invokevirtual 149, 3, 1260, [0, 47, 1125]), (1260, .aload_n 2, 1, 1261, []), (1261, .aload_n 0, 1, 1262, []), (1262, .iload 4, 2, 1264, []), (1264, .iconst 1, 1, 1265, []), (1265, .iadd, 1, 1266, []), (1266, .iaload, 1, 1267, []), (1267, .aload_n 0, 1, 1268, []), (1268, .iload 4, 2, 1270, []), (1270, .iconst 2, 1, 1271, []), (1271, .iadd, 1, 1272, []), (1272, .iaload, 1, 1273, []), (1273, .aload_n 0, 1, 1274, []), (1274, .iload 4, 2, 1276, []), (1276, .iconst 3, 1, 1277, []), (1277, .iadd, 1, 1278, []), (1278, .iaload, 1, 1279, []), (1279, .aload_n 0, 1, 1280, [])]
noncomputable def bL_law_40 : List ex_E := [(1280, .iload 4, 2, 1282, []), (1282, .iconst 4, 1, 1283, []), (1283, .iadd, 1, 1284, []), (1284, .iaload, 1, 1285, []), (1285, .invokevirtual 152, 3, 1288, [0, 109, 2027]), (1288, .if_icmp .eq 448, 3, 1291, [1736]), (1293, .aload_n 1, 1, 1294, []), (1294, .invokevirtual 153, 3, 1297, [0, 17, 1148]), (1297, .aload_n 2, 1, 1298, []), (1298, .invokevirtual 156, 3, 1301, [0, 70, 2031]), (1301, .if_icmp .eq 435, 3, 1304, [1736]), (1306, .aload_n 1, 1, 1307, []), (1307, .aload_n 0, 1, 1308, []), (1308, .iload 4, 2, 1310, []), (1310, .iconst 1, 1, 1311, []), (1311, .iadd, 1, 1312, [])]
noncomputable def bL_law_41 : List ex_E := [(1312, .iaload, 1, 1313, []), (1313, .aload_n 0, 1, 1314, []), (1314, .iload 4, 2, 1316, []), (1316, .iconst 2, 1, 1317, []), (1317, .iadd, 1, 1318, []), (1318, .iaload, 1, 1319, []), (1319, .invokevirtual 157, 3, 1322, [0, 19, 1156]), (1322, .aload_n 2, 1, 1323, []), (1323, .aload_n 0, 1, 1324, []), (1324, .iload 4, 2, 1326, []), (1326, .iconst 1, 1, 1327, []), (1327, .iadd, 1, 1328, []), (1328, .iaload, 1, 1329, []), (1329, .aload_n 0, 1, 1330, []), (1330, .iload 4, 2, 1332, []), (1332, .iconst 2, 1, 1333, []), (1333, .iadd, 1, 1334, []), (1334, .iaload, 1, 1335, []), (1335, .invokevirtual 160, 3, 1338, [0, 72, 2035]), (1338, .if_icmp .eq 398, 3, 1341, [1736]), (1343, .aload_n 1, 1, 1344, [])]
noncomputable def bL_law_42 : List ex_E := [(1344, .aload_n 0, 1, 1345, []), (1345, .iload 4, 2, 1347, []), (1347, .iconst 1, 1, 1348, []), (1348, .iadd, 1, 1349, []), (1349, .iaload, 1, 1350, []), (1350, .invokevirtual 161, 3, 1353, [0, 63, 1166]), (1353, .aload_n 2, 1, 1354, []), (1354, .aload_n 0, 1, 1355, []), (1355, .iload 4, 2, 1357, []), (1357, .iconst 1, 1, 1358, []), (1358, .iadd, 1, 1359, []), (1359, .iaload, 1, 1360, []), (1360, .invokevirtual 164, 3, 1363, [0, 132, 2039]), (1363, .if_icmp .eq 373, 3, 1366, [1736]), (1368, .aload_n 1, 1, 1369, []), (1369, .aload_n 0, 1, 1370, []), (1370, .iload 4, 2, 1372, []), (1372, .iconst 1, 1, 1373, []), (1373, .iadd, 1, 1374, []), (1374, .iaload, 1, 1375, []), (1375, .invokevirtual 165, 3, 1378, [0, 43, 1182])]
noncomputable def bL_law_43 : List ex_E := [(1378, .aload_n 2, 1, 1379, []), (1379, .aload_n 0, 1, 1380, []), (1380, .iload 4, 2, 1382, []), (1382, .iconst 1, 1, 1383, []), (1383, .iadd, 1, 1384, []), (1384, .iaload, 1, 1385, []), (1385, .invokevirtual 168, 3, 1388, [0, 102, 2047]), (1388, .if_icmp .eq 348, 3, 1391, [1736]), (1393, .aload_n 1, 1, 1394, []), (1394, .aload_n 0, 1, 1395, []), (1395, .iload 4, 2, 1397, []), (1397, .iconst 1, 1, 1398, []), (1398, .iadd, 1, 1399, []), (1399, .iaload, 1, 1400, []), (1400, .aload_n 0, 1, 1401, []), (1401, .iload 4, 2, 1403, []), (1403, .iconst 2, 1, 1404, []), (1404, .iadd, 1, 1405, []), (1405, .iaload, 1, 1406, []), (1406, .aload_n 0, 1, 1407, []), (1407, .iload 4, 2, 1409, [])]
noncomputable def bL_law_44 : List ex_E := [(1409, .iconst 3, 1, 1410, []), (1410, .iadd, 1, 1411, []), (1411, .iaload, 1, 1412, []), (1412, .aload_n 3, 1, 1413, []), (1413, .invokestatic 169, 3, 1416, [0, 5, 1522]), (1416, .istore 5, 2, 1418, []), (1418, .aload_n 2, 1, 1419, []), (1419, .aload_n 0, 1, 1420, []), (1420, .iload 4, 2, 1422, []), (1422, .iconst 1, 1, 1423, []), (1423, .iadd, 1, 1424, []), (1424, .iaload, 1, 1425, []), (1425, .aload_n 0, 1, 1426, []), (1426, .iload 4, 2, 1428, []), (1428, .iconst 2, 1, 1429, []), (1429, .iadd, 1, 1430, []), (1430, .iaload, 1, 1431, []), (1431, .aload_n 0, 1, 1432, []), (1432, .iload 4, 2, 1434, []), (1434, .iconst 3, 1, 1435, []), (1435, .iadd, 1, 1436, []), (1436, .iaload, 1, 1437, []), (1437, .invokevirtual 171, 3, 1440, [0, 101, 2051])]
noncomputable def bL_law_45 : List ex_E := [(1440, .istore 6, 2, 1442, []), (1442, .aload_n 2, 1, 1443, []), (1443, .invokevirtual 64, 3, 1446, [0, 125, 1534]), (1446, .iload 5, 2, 1448, []), (1448, .if_icmp .eq 5, 3, 1451, [1453]), (1453, .iload 5, 2, 1455, []), (1455, .ifCond .ne 15, 3, 1458, [1470]), (1470, .goto 266, 3, 1473, [1736])]
noncomputable def bL_law_46 : List ex_E := [(1473, .aload_n 1, 1, 1474, []), (1474, .invokevirtual 172, 3, 1477, [0, 57, 1186]), (1477, .aload_n 2, 1, 1478, []), (1478, .invokevirtual 175, 3, 1481, [0, 123, 2055]), (1481, .if_icmp .eq 255, 3, 1484, [1736]), (1486, .aload_n 1, 1, 1487, []), (1487, .invokevirtual 176, 3, 1490, [0, 31, 1191]), (1490, .aload_n 2, 1, 1491, []), (1491, .invokevirtual 179, 3, 1494, [0, 87, 2063]), (1494, .if_icmp .eq 242, 3, 1497, [1736]), (1499, .aload_n 1, 1, 1500, []), (1500, .aload_n 0, 1, 1501, []), (1501, .iload 4, 2, 1503, []), (1503, .iconst 1, 1, 1504, [])]
noncomputable def bL_law_47 : List ex_E := [(1504, .iadd, 1, 1505, []), (1505, .iaload, 1, 1506, []), (1506, .aload_n 0, 1, 1507, []), (1507, .iload 4, 2, 1509, []), (1509, .iconst 2, 1, 1510, []), (1510, .iadd, 1, 1511, []), (1511, .iaload, 1, 1512, []), (1512, .invokevirtual 180, 3, 1515, [0, 23, 1196]), (1515, .aload_n 2, 1, 1516, []), (1516, .aload_n 0, 1, 1517, []), (1517, .iload 4, 2, 1519, []), (1519, .iconst 1, 1, 1520, []), (1520, .iadd, 1, 1521, []), (1521, .iaload, 1, 1522, []), (1522, .aload_n 0, 1, 1523, []), (1523, .iload 4, 2, 1525, []), (1525, .iconst 2, 1, 1526, []), (1526, .iadd, 1, 1527, []), (1527, .iaload, 1, 1528, []), (1528, .invokevirtual 183, 3, 1531, [0, 77, 2067]), (1531, .if_icmp .eq 205, 3, 1534, [1736])]
noncomputable def bL_law_48 : List ex_E := [(1536, .aload_n 1, 1, 1537, []), (1537, .aload_n 0, 1, 1538, []), (1538, .iload 4, 2, 1540, []), (1540, .iconst 1, 1, 1541, []), (1541, .iadd, 1, 1542, []), (1542, .iaload, 1, 1543, []), (1543, .aload_n 0, 1, 1544, []), (1544, .iload 4, 2, 1546, []), (1546, .iconst 2, 1, 1547, []), (1547, .iadd, 1, 1548, []), (1548, .iaload, 1, 1549, []), (1549, .invokevirtual 184, 3, 1552, [0, 41, 1232]), (1552, .aload_n 2, 1, 1553, []), (1553, .aload_n 0, 1, 1554, []), (1554, .iload 4, 2, 1556, []), (1556, .iconst 1, 1, 1557, []), (1557, .iadd, 1, 1558, []), (1558, .iaload, 1, 1559, []), (1559, .aload_n 0, 1, 1560, []), (1560, .iload 4, 2, 1562, []), (1562, .iconst 2, 1, 1563, []), (1563, .iadd, 1, 1564, []), (1564, .iaload, 1, 1565, []), (1565, .invokevirtual 187, 3, 1568, [0, 100, 2079])]
noncomputable def bL_law_49 : List ex_E := [(1568, .if_icmp .eq 168, 3, 1571, [1736]), (1573, .aload_n 1, 1, 1574, []), (1574, .aload_n 0, 1, 1575, []), (1575, .iload 4, 2, 1577, []), (1577, .iconst 1, 1, 1578, []), (1578, .iadd, 1, 1579, []), (1579, .iaload, 1, 1580, []), (1580, .invokevirtual 188, 3, 1583, [0, 39, 1236]), (1583, .aload_n 2, 1, 1584, []), (1584, .aload_n 0, 1, 1585, []), (1585, .iload 4, 2, 1587, []), (1587, .iconst 1, 1, 1588, []), (1588, .iadd, 1, 1589, []), (1589, .iaload, 1, 1590, []), (1590, .invokevirtual 191, 3, 1593, [0, 98, 2083]), (1593, .if_icmp .eq 143, 3, 1596, [1736]), (1598, .aload_n 1, 1, 1599, []), (1599, .aload_n 0, 1, 1600, [])]
noncomputable def bL_law_50 : List ex_E := [(1600, .iload 4, 2, 1602, []), (1602, .iconst 1, 1, 1603, []), (1603, .iadd, 1, 1604, []), (1604, .iaload, 1, 1605, []), (1605, .invokevirtual 192, 3, 1608, [0, 40, 1277]), (1608, .aload_n 2, 1, 1609, []), (1609, .aload_n 0, 1, 1610, []), (1610, .iload 4, 2, 1612, []), (1612, .iconst 1, 1, 1613, []), (1613, .iadd, 1, 1614, []), (1614, .iaload, 1, 1615, []), (1615, .invokevirtual 195, 3, 1618, [0, 99, 2106]), (1618, .if_icmp .eq 118, 3, 1621, [1736]), (1623, .aload_n 1, 1, 1624, []), (1624, .invokevirtual 196, 3, 1627, [0, 53, 1281]), (1627, .aload_n 2, 1, 1628, []), (1628, .invokevirtual 199, 3, 1631, [0, 117, 2110]), (1631, .if_icmp .eq 105, 3, 1634, [1736])]
noncomputable def bL_law_51 : List ex_E := [(1636, .aload_n 1, 1, 1637, []), (1637, .aload_n 0, 1, 1638, []), (1638, .iload 4, 2, 1640, []), (1640, .iconst 1, 1, 1641, []), (1641, .iadd, 1, 1642, []), (1642, .iaload, 1, 1643, []), (1643, .invokevirtual 200, 3, 1646, [0, 49, 1326]), (1646, .aload_n 2, 1, 1647, []), (1647, .aload_n 0, 1, 1648, []), (1648, .iload 4, 2, 1650, []), (1650, .iconst 1, 1, 1651, []), (1651, .iadd, 1, 1652, []), (1652, .iaload, 1, 1653, []), (1653, .invokevirtual 203, 3, 1656, [0, 112, 2148]), (1656, .if_icmp .eq 80, 3, 1659, [1736]), (1661, .aload_n 1, 1, 1662, []), (1662, .aload_n 0, 1, 1663, []), (1663, .iload 4, 2, 1665, [])]
noncomputable def bL_law_52 : List ex_E := [(1665, .iconst 1, 1, 1666, []), (1666, .iadd, 1, 1667, []), (1667, .iaload, 1, 1668, []), (1668, .invokevirtual 204, 3, 1671, [0, 32, 1359]), (1671, .aload_n 2, 1, 1672, []), (1672, .aload_n 0, 1, 1673, []), (1673, .iload 4, 2, 1675, []), (1675, .iconst 1, 1, 1676, []), (1676, .iadd, 1, 1677, []), (1677, .iaload, 1, 1678, []), (1678, .invokevirtual 207, 3, 1681, [0, 88, 2160]), (1681, .if_icmp .eq 55, 3, 1684, [1736]), (1686, .aload_n 1, 1, 1687, []), (1687, .aload_n 0, 1, 1688, []), (1688, .iload 4, 2, 1690, []), (1690, .iconst 1, 1, 1691, []), (1691, .iadd, 1, 1692, []), (1692, .iaload, 1, 1693, []), (1693, .invokevirtual 208, 3, 1696, [0, 48, 1374])]
noncomputable def bL_law_53 : List ex_E := [(1696, .aload_n 2, 1, 1697, []), (1697, .aload_n 0, 1, 1698, []), (1698, .iload 4, 2, 1700, []), (1700, .iconst 1, 1, 1701, []), (1701, .iadd, 1, 1702, []), (1702, .iaload, 1, 1703, []), (1703, .invokevirtual 211, 3, 1706, [0, 110, 2164]), (1706, .if_icmp .eq 30, 3, 1709, [1736]), (1711, .aload_n 1, 1, 1712, []), (1712, .aload_n 0, 1, 1713, []), (1713, .iload 4, 2, 1715, []), (1715, .iconst 1, 1, 1716, []), (1716, .iadd, 1, 1717, []), (1717, .iaload, 1, 1718, []), (1718, .invokevirtual 212, 3, 1721, [0, 21, 1378]), (1721, .aload_n 2, 1, 1722, []), (1722, .aload_n 0, 1, 1723, []), (1723, .iload 4, 2, 1725, []), (1725, .iconst 1, 1, 1726, []), (1726, .iadd, 1, 1727, []), (1727, .iaload, 1, 1728, [])]
noncomputable def bL_law_54 : List ex_E := [(1728, .invokevirtual 215, 3, 1731, [0, 75, 2168]), (1731, .if_icmp .eq 5, 3, 1734, [1736]), (1736, .iinc 4 6, 3, 1739, []), (1739, .goto (-1716), 3, 1742, [23]), (1742, .iconst 1, 1, 1743, []), (1743, .ireturn, 1, 1744, [])]
noncomputable def tL_law : ex_T := (mL_law, [], [bL_law_0, bL_law_1, [], [], [], [], [], bL_law_7, bL_law_8, bL_law_9, bL_law_10, bL_law_11, bL_law_12, bL_law_13, bL_law_14, bL_law_15, bL_law_16, bL_law_17, bL_law_18, bL_law_19, bL_law_20, bL_law_21, bL_law_22, bL_law_23, bL_law_24, bL_law_25, bL_law_26, bL_law_27, bL_law_28, bL_law_29, bL_law_30, bL_law_31, bL_law_32, bL_law_33, bL_law_34, bL_law_35, bL_law_36, bL_law_37, bL_law_38, bL_law_39, bL_law_40, bL_law_41, bL_law_42, bL_law_43, bL_law_44, bL_law_45, bL_law_46, bL_law_47, bL_law_48, bL_law_49, bL_law_50, bL_law_51, bL_law_52, bL_law_53, bL_law_54])
abbrev mJ7_fill_53178 : am_M := (yJ7_fill_53178, cJ7_fill_53178, 4, none, [])
noncomputable def tJ7_fill_53178 : ex_T := (mJ7_fill_53178, [0, 2, 0, 0, 99, 747, 120, 746, 0], [
  [(0, .iconst 0, 1, 1, []), (1, .istore_n 2, 1, 2, []), (2, .aload_n 0, 1, 3, []), (3, .arraylength, 1, 4, []), (4, .istore_n 3, 1, 5, []), (5, .iload_n 2, 1, 6, []), (6, .iload_n 3, 1, 7, []), (7, .if_icmp .ge 13, 3, 10, [20]), (10, .aload_n 0, 1, 11, []), (11, .iload_n 2, 1, 12, []), (12, .iload_n 1, 1, 13, []), (13, .iastore, 1, 14, []), (14, .iinc 2 1, 3, 17, []), (17, .goto (-12), 3, 20, [5]), (20, .return_, 1, 21, [])]])
abbrev mL_curve : am_M := (yL_curve, cL_curve, 5, some (.int), [(0, 10, 13, 13)])
noncomputable def tL_curve : ex_T := (mL_curve, [0, 4, 1, 6, 99, 1516, 101, 1515, 0], [
  [(0, .aload_n 3, 1, 1, []), (1, .iconst 0, 1, 2, []), (2, .aload_n 0, 1, 3, []), (3, .iload_n 1, 1, 4, []), (4, .iload_n 2, 1, 5, []), (5, .invokevirtual 29, 3, 8, [1, 22, 1517, 4, 1390])]])
abbrev mL_earns : am_M := (yL_earns, cL_earns, 6, some (.int), [(0, 12, 15, 13)])
noncomputable def tL_earns : ex_T := (mL_earns, [0, 5, 1, 6, 99, 1507, 101, 1506, 0], [
  [(0, .aload 4, 2, 2, []), (2, .iconst 0, 1, 3, []), (3, .aload_n 0, 1, 4, []), (4, .iload_n 1, 1, 5, []), (5, .iload_n 2, 1, 6, []), (6, .iload_n 3, 1, 7, []), (7, .invokevirtual 25, 3, 10, [1, 24, 1508, 5, 1390])]])
abbrev mL_gain : am_M := (yL_gain, cL_gain, 7, some (.int), [(0, 14, 17, 13)])
noncomputable def tL_gain : ex_T := (mL_gain, [0, 6, 1, 6, 99, 1486, 101, 1485, 0], [
  [(0, .aload 5, 2, 2, []), (2, .iconst 0, 1, 3, []), (3, .aload_n 0, 1, 4, []), (4, .iload_n 1, 1, 5, []), (5, .iload_n 2, 1, 6, []), (6, .iload_n 3, 1, 7, []), (7, .iload 4, 2, 9, []), (9, .invokevirtual 18, 3, 12, [1, 29, 1487, 6, 1390])]])
abbrev mL_meant : am_M := (yL_meant, cL_meant, 6, some (.int), [(0, 12, 15, 13)])
noncomputable def tL_meant : ex_T := (mL_meant, [0, 5, 1, 6, 99, 1524, 101, 1523, 0], [
  [(0, .aload 4, 2, 2, []), (2, .iconst 0, 1, 3, []), (3, .aload_n 0, 1, 4, []), (4, .iload_n 1, 1, 5, []), (5, .iload_n 2, 1, 6, []), (6, .iload_n 3, 1, 7, []), (7, .invokevirtual 32, 3, 10, [1, 42, 1525, 5, 1390])]])
abbrev mL_plan : am_M := (yL_plan, cL_plan, 7, some (.int), [(0, 14, 17, 13)])
noncomputable def tL_plan : ex_T := (mL_plan, [0, 6, 1, 6, 99, 1495, 101, 1494, 0], [
  [(0, .aload 5, 2, 2, []), (2, .iconst 0, 1, 3, []), (3, .aload_n 0, 1, 4, []), (4, .iload_n 1, 1, 5, []), (5, .iload_n 2, 1, 6, []), (6, .iload_n 3, 1, 7, []), (7, .iload 4, 2, 9, []), (9, .invokevirtual 22, 3, 12, [1, 45, 1496, 6, 1390])]])
abbrev mL_window : am_M := (yL_window, cL_window, 5, some (.int), [(0, 10, 13, 13)])
noncomputable def tL_window : ex_T := (mL_window, [0, 4, 1, 6, 99, 1389, 101, 1388, 0], [
  [(0, .aload_n 3, 1, 1, []), (1, .iconst 0, 1, 2, []), (2, .aload_n 0, 1, 3, []), (3, .iload_n 1, 1, 4, []), (4, .iload_n 2, 1, 5, []), (5, .invokevirtual 7, 3, 8, [1, 64, 1391, 4, 1390])]])
abbrev mL_yet : am_M := (yL_yet, cL_yet, 5, some (.int), [(0, 10, 13, 13)])
noncomputable def tL_yet : ex_T := (mL_yet, [0, 4, 1, 6, 99, 1466, 101, 1465, 0], [
  [(0, .aload_n 3, 1, 1, []), (1, .iconst 0, 1, 2, []), (2, .aload_n 0, 1, 3, []), (3, .iload_n 1, 1, 4, []), (4, .iload_n 2, 1, 5, []), (5, .invokevirtual 15, 3, 8, [1, 65, 1467, 4, 1390])]])
abbrev mX0_init : am_M := (yX0_init, cX0_init, 1, none, [])
noncomputable def tX0_init : ex_T := (mX0_init, [2, 0, 0, 0, 0, 422, 111, 421, 0], [
  [(0, .aload_n 0, 1, 1, []), (1, .invokespecial 3, 3, 4, [1, 423]), (4, .return_, 1, 5, [])]])
abbrev mX10_append : am_M := (yX10_append, cX10_append, 3, none, [])
noncomputable def tX10_append : ex_T := (mX10_append, [1, 1, 0, 0, 10, 591, 103, 589, 590], [
  [(0, .bipush 24, 2, 2, []), (2, .istore_n 2, 1, 3, []), (3, .iload_n 2, 1, 4, []), (4, .ifCond .lt 51, 3, 7, [55]), (7, .aload_n 0, 1, 8, []), (8, .getfield 15, 3, 11, [10, 1, 0, 141]), (11, .ifCond .lt 38, 3, 14, [49]), (14, .aload_n 0, 1, 15, []), (15, .getfield 15, 3, 18, [10, 1, 0, 141]), (18, .aload_n 0, 1, 19, []), (19, .getfield 9, 3, 22, [10, 0, 2, 140]), (22, .arraylength, 1, 23, []), (23, .if_icmp .ge 26, 3, 26, [49]), (26, .aload_n 0, 1, 27, []), (27, .getfield 9, 3, 30, [10, 0, 2, 140]), (30, .aload_n 0, 1, 31, []), (31, .getfield 15, 3, 34, [10, 1, 0, 141])],
  [(34, .iload_n 1, 1, 35, []), (35, .iload_n 2, 1, 36, []), (36, .iushr, 1, 37, []), (37, .i2b, 1, 38, []), (38, .bastore, 1, 39, []), (39, .aload_n 0, 1, 40, []), (40, .dup, 1, 41, []), (41, .getfield 15, 3, 44, [10, 1, 0, 141]), (44, .iconst 1, 1, 45, []), (45, .iadd, 1, 46, []), (46, .putfield 15, 3, 49, [10, 1, 0, 141]), (49, .iinc 2 (-8), 3, 52, []), (52, .goto (-49), 3, 55, [3]), (55, .return_, 1, 56, [])]])
abbrev mX10_byteAt : am_M := (yX10_byteAt, cX10_byteAt, 2, some (.int), [])
noncomputable def tX10_byteAt : ex_T := (mX10_byteAt, [1, 1, 0, 0, 10, 611, 103, 609, 610], [
  [(0, .iload_n 1, 1, 1, []), (1, .ifCond .lt 33, 3, 4, [34]), (4, .iload_n 1, 1, 5, []), (5, .aload_n 0, 1, 6, []), (6, .getfield 15, 3, 9, [10, 1, 0, 141]), (9, .if_icmp .ge 25, 3, 12, [34])],
  [(34, .iconst 0, 1, 35, []), (35, .ireturn, 1, 36, [])]])
abbrev mX10_hasRoom : am_M := (yX10_hasRoom, cX10_hasRoom, 1, some (.boolean), [])
noncomputable def tX10_hasRoom : ex_T := (mX10_hasRoom, [1, 0, 0, 0, 10, 587, 103, 585, 586], [
  [(0, .aload_n 0, 1, 1, []), (1, .getfield 15, 3, 4, [10, 1, 0, 141]), (4, .bipush 20, 2, 6, []), (6, .iadd, 1, 7, []), (7, .sipush 940, 3, 10, []), (10, .if_icmp .gt 7, 3, 13, [17]), (13, .iconst 1, 1, 14, []), (14, .goto 4, 3, 17, [18]), (18, .ireturn, 1, 19, [])]])
abbrev mX10_init : am_M := (yX10_init, cX10_init, 1, none, [])
noncomputable def tX10_init : ex_T := (mX10_init, [2, 0, 1, 940, 10, 138, 103, 137, 0], [
  [(0, .aload_n 0, 1, 1, []), (1, .invokespecial 3, 3, 4, [1, 139]), (4, .aload_n 0, 1, 5, []), (5, .sipush 940, 3, 8, []), (8, .newarray .byte, 2, 10, []), (10, .putfield 9, 3, 13, [10, 0, 2, 140]), (13, .return_, 1, 14, [])]])
abbrev mX11_begin : am_M := (yX11_begin, cX11_begin, 2, some (.int), [])
noncomputable def tX11_begin : ex_T := (mX11_begin, [1, 1, 0, 0, 11, 824, 102, 822, 823], [
  [(0, .aload_n 0, 1, 1, []), (1, .getfield 28, 3, 4, [11, 2, 2, 530]), (4, .iload_n 1, 1, 5, []), (5, .invokevirtual 147, 3, 8, [0, 185, 825]), (8, .ifCond .ne 5, 3, 11, [13]), (11, .iconst (-1), 1, 12, []), (12, .ireturn, 1, 13, [])]])
abbrev mX11_best : am_M := (yX11_best, cX11_best, 2, some (.int), [])
noncomputable def tX11_best : ex_T := (mX11_best, [1, 1, 0, 0, 11, 982, 102, 980, 981], [
  [(0, .aload_n 0, 1, 1, []), (1, .getfield 28, 3, 4, [11, 2, 2, 530]), (4, .getfield 291, 3, 7, [9, 7, 0, 224]), (7, .ifCond .ne 5, 3, 10, [12]), (10, .iconst (-1), 1, 11, []), (11, .ireturn, 1, 12, [])]])
abbrev mX11_better : am_M := (yX11_better, cX11_better, 3, some (.int), [])
noncomputable def tX11_better : ex_T := (mX11_better, [1, 2, 0, 0, 11, 954, 102, 952, 953], [
  [(0, .aload_n 0, 1, 1, []), (1, .getfield 28, 3, 4, [11, 2, 2, 530]), (4, .iload_n 1, 1, 5, []), (5, .invokevirtual 147, 3, 8, [0, 185, 825]), (8, .ifCond .eq 10, 3, 11, [18]), (18, .iconst (-1), 1, 19, []), (19, .ireturn, 1, 20, [])]])
abbrev mX11_border : am_M := (yX11_border, cX11_border, 5, some (.int), [])
noncomputable def tX11_border : ex_T := (mX11_border, [1, 0, 0, 0, 11, 1151, 102, 1149, 1150], [
  [(0, .aload_n 0, 1, 1, []), (1, .getfield 67, 3, 4, [11, 9, 2, 537]), (4, .invokevirtual 321, 3, 7, [0, 153, 1090]), (7, .iconst 0, 1, 8, []), (8, .istore_n 1, 1, 9, []), (9, .iconst (-1), 1, 10, []), (10, .istore_n 2, 1, 11, []), (11, .iconst 0, 1, 12, []), (12, .istore_n 3, 1, 13, []), (13, .iload_n 3, 1, 14, []), (14, .aload_n 0, 1, 15, []), (15, .getfield 28, 3, 18, [11, 2, 2, 530]), (18, .getfield 291, 3, 21, [9, 7, 0, 224]), (21, .if_icmp .gt 59, 3, 24, [80]), (24, .aload_n 0, 1, 25, []), (25, .getfield 67, 3, 28, [11, 9, 2, 537]), (28, .iconst 0, 1, 29, []), (29, .iload_n 3, 1, 30, []), (30, .iconst 1, 1, 31, []), (31, .isub, 1, 32, [])],
  [(32, .invokevirtual 348, 3, 35, [0, 155, 1152]), (35, .aload_n 0, 1, 36, []), (36, .getfield 67, 3, 39, [11, 9, 2, 537]), (39, .iload_n 3, 1, 40, []), (40, .aload_n 0, 1, 41, []), (41, .getfield 28, 3, 44, [11, 2, 2, 530]), (44, .getfield 291, 3, 47, [9, 7, 0, 224]), (47, .iconst 1, 1, 48, []), (48, .isub, 1, 49, []), (49, .invokevirtual 348, 3, 52, [0, 155, 1152]), (52, .isub, 1, 53, []), (53, .invokestatic 351, 3, 56, [1, 2, 1153, 0]), (56, .istore 4, 2, 58, []), (58, .iload_n 2, 1, 59, []), (59, .iconst (-1), 1, 60, []), (60, .if_icmp .eq 9, 3, 63, [69])],
  [(69, .iload 4, 2, 71, []), (71, .istore_n 2, 1, 72, []), (72, .iload_n 3, 1, 73, []), (73, .istore_n 1, 1, 74, []), (74, .iinc 3 1, 3, 77, []), (77, .goto (-64), 3, 80, [13]), (80, .iload_n 1, 1, 81, []), (81, .ireturn, 1, 82, [])]])
abbrev mX11_canDraw : am_M := (yX11_canDraw, cX11_canDraw, 2, some (.boolean), [])
noncomputable def tX11_canDraw : ex_T := (mX11_canDraw, [1, 1, 0, 0, 11, 1203, 102, 1202, 27], [
  [(0, .iload_n 1, 1, 1, []), (1, .iconst 1, 1, 2, []), (2, .if_icmp .lt 23, 3, 5, [25]), (5, .iload_n 1, 1, 6, []), (6, .bipush 60, 2, 8, []), (8, .if_icmp .gt 17, 3, 11, [25]), (11, .aload_n 0, 1, 12, []), (12, .getfield 28, 3, 15, [11, 2, 2, 530]), (15, .getfield 291, 3, 18, [9, 7, 0, 224]), (18, .ifCond .le 7, 3, 21, [25]), (25, .iconst 0, 1, 26, []), (26, .ireturn, 1, 27, [])]])
abbrev mX11_change : am_M := (yX11_change, cX11_change, 8, some (.int), [])
noncomputable def tX11_change : ex_T := (mX11_change, [1, 2, 0, 0, 11, 1159, 102, 1157, 1158], [
  [(0, .aload_n 0, 1, 1, []), (1, .getfield 28, 3, 4, [11, 2, 2, 530]), (4, .iload_n 1, 1, 5, []), (5, .invokevirtual 147, 3, 8, [0, 185, 825]), (8, .ifCond .eq 15, 3, 11, [23]), (23, .iconst (-1), 1, 24, []), (24, .ireturn, 1, 25, [])]])
abbrev mX11_copyRow : am_M := (yX11_copyRow, cX11_copyRow, 4, none, [])
noncomputable def tX11_copyRow : ex_T := (mX11_copyRow, [0, 2, 0, 0, 11, 203, 102, 202, 0], [
  [(0, .aload_n 0, 1, 1, []), (1, .arraylength, 1, 2, []), (2, .aload_n 1, 1, 3, []), (3, .arraylength, 1, 4, []), (4, .invokestatic 365, 3, 7, [1, 1, 204, 0]), (7, .istore_n 2, 1, 8, []), (8, .iconst 0, 1, 9, []), (9, .istore_n 3, 1, 10, []), (10, .iload_n 3, 1, 11, []), (11, .iload_n 2, 1, 12, []), (12, .if_icmp .ge 15, 3, 15, [27]), (15, .aload_n 1, 1, 16, []), (16, .iload_n 3, 1, 17, []), (17, .aload_n 0, 1, 18, []), (18, .iload_n 3, 1, 19, []), (19, .iaload, 1, 20, []), (20, .iastore, 1, 21, []), (21, .iinc 3 1, 3, 24, []), (24, .goto (-14), 3, 27, [10]), (27, .return_, 1, 28, [])]])
abbrev mX11_count : am_M := (yX11_count, cX11_count, 2, some (.int), [])
noncomputable def tX11_count : ex_T := (mX11_count, [1, 1, 0, 0, 11, 1381, 102, 1379, 1380], [
  [(0, .iload_n 1, 1, 1, []), (1, .lookupswitch 76 #[(0, 43), (1, 51), (2, 59), (11, 68)], 43, 44, [])],
  [(44, .aload_n 0, 1, 45, []), (45, .getfield 28, 3, 48, [11, 2, 2, 530]), (48, .getfield 291, 3, 51, [9, 7, 0, 224]), (51, .ireturn, 1, 52, []), (52, .aload_n 0, 1, 53, []), (53, .getfield 28, 3, 56, [11, 2, 2, 530]), (56, .getfield 179, 3, 59, [9, 8, 0, 226]), (59, .ireturn, 1, 60, []), (60, .aload_n 0, 1, 61, []), (61, .getfield 28, 3, 64, [11, 2, 2, 530])],
  [(64, .iconst 0, 1, 65, []), (65, .invokevirtual 374, 3, 68, [0, 191, 1382]), (68, .ireturn, 1, 69, []), (69, .aload_n 0, 1, 70, []), (70, .getfield 12, 3, 73, [11, 0, 2, 528]), (73, .getfield 113, 3, 76, [10, 1, 0, 142]), (76, .ireturn, 1, 77, []), (77, .iload_n 1, 1, 78, []), (78, .iconst 3, 1, 79, []), (79, .if_icmp .lt 22, 3, 82, [101]), (82, .iload_n 1, 1, 83, []), (83, .bipush 10, 2, 85, []), (85, .if_icmp .gt 16, 3, 88, [101]), (88, .aload_n 0, 1, 89, []), (89, .getfield 28, 3, 92, [11, 2, 2, 530]), (92, .iload_n 1, 1, 93, []), (93, .iconst 3, 1, 94, []), (94, .isub, 1, 95, []), (95, .invokevirtual 448, 3, 98, [0, 190, 1383])],
  [(98, .goto 4, 3, 101, [102]), (101, .iconst (-1), 1, 102, []), (102, .ireturn, 1, 103, [])]])
abbrev mX11_curve : am_M := (yX11_curve, cX11_curve, 5, some (.int), [])
noncomputable def tX11_curve : ex_T := (mX11_curve, [1, 2, 1, 6, 11, 1520, 102, 1518, 1519], [
  [(0, .iload_n 1, 1, 1, []), (1, .iconst 1, 1, 2, []), (2, .if_icmp .lt 21, 3, 5, [23]), (5, .iload_n 1, 1, 6, []), (6, .aload_n 0, 1, 7, []), (7, .getfield 28, 3, 10, [11, 2, 2, 530]), (10, .getfield 291, 3, 13, [9, 7, 0, 224]), (13, .if_icmp .gt 10, 3, 16, [23]), (23, .new 151, 3, 26, [1, 332, 1, 1395, 1521])]])
abbrev mX11_drawn : am_M := (yX11_drawn, cX11_drawn, 3, some (.int), [])
noncomputable def tX11_drawn : ex_T := (mX11_drawn, [1, 2, 0, 0, 11, 1199, 102, 1197, 1198], [
  [(0, .aload_n 0, 1, 1, []), (1, .iload_n 1, 1, 2, []), (2, .invokevirtual 388, 3, 5, [0, 18, 1200]), (5, .ifCond .ne 5, 3, 8, [10]), (8, .iconst (-1), 1, 9, []), (9, .ireturn, 1, 10, [])]])
abbrev mX11_earns : am_M := (yX11_earns, cX11_earns, 4, some (.int), [])
noncomputable def tX11_earns : ex_T := (mX11_earns, [1, 3, 1, 6, 11, 1511, 102, 1509, 1510], [
  [(0, .iload_n 1, 1, 1, []), (1, .iconst 1, 1, 2, []), (2, .if_icmp .lt 30, 3, 5, [32]), (5, .iload_n 1, 1, 6, []), (6, .aload_n 0, 1, 7, []), (7, .getfield 28, 3, 10, [11, 2, 2, 530]), (10, .getfield 291, 3, 13, [9, 7, 0, 224]), (13, .if_icmp .gt 19, 3, 16, [32])],
  [(32, .new 151, 3, 35, [1, 327, 1, 1395, 1512])]])
abbrev mX11_end : am_M := (yX11_end, cX11_end, 2, some (.boolean), [])
noncomputable def tX11_end : ex_T := (mX11_end, [1, 1, 0, 0, 11, 595, 102, 593, 594], [
  [(0, .iload_n 1, 1, 1, []), (1, .ifCond .lt 14, 3, 4, [15]), (4, .iload_n 1, 1, 5, []), (5, .aload_n 0, 1, 6, []), (6, .getfield 12, 3, 9, [11, 0, 2, 528]), (9, .getfield 113, 3, 12, [10, 1, 0, 142]), (12, .if_icmp .le 5, 3, 15, [17]), (15, .iconst 0, 1, 16, []), (16, .ireturn, 1, 17, []), (17, .aload_n 0, 1, 18, []), (18, .getfield 12, 3, 21, [11, 0, 2, 528]), (21, .iload_n 1, 1, 22, []), (22, .putfield 113, 3, 25, [10, 1, 0, 142]), (25, .iconst 1, 1, 26, []), (26, .ireturn, 1, 27, [])]])
abbrev mX11_entry : am_M := (yX11_entry, cX11_entry, 2, some (.int), [])
noncomputable def tX11_entry : ex_T := (mX11_entry, [0, 2, 0, 0, 11, 720, 102, 719, 0], [
  [(0, .iload_n 1, 1, 1, []), (1, .ifCond .lt 15, 3, 4, [16]), (4, .iload_n 1, 1, 5, []), (5, .aload_n 0, 1, 6, []), (6, .arraylength, 1, 7, []), (7, .if_icmp .ge 9, 3, 10, [16]), (10, .aload_n 0, 1, 11, []), (11, .iload_n 1, 1, 12, []), (12, .iaload, 1, 13, []), (13, .goto 4, 3, 16, [17]), (17, .ireturn, 1, 18, [])]])
abbrev mX11_fault : am_M := (yX11_fault, cX11_fault, 1, some (.int), [])
noncomputable def tX11_fault : ex_T := (mX11_fault, [1, 0, 0, 0, 11, 763, 102, 761, 762], [
  [(0, .aload_n 0, 1, 1, []), (1, .getfield 127, 3, 4, [11, 16, 0, 544]), (4, .ireturn, 1, 5, [])]])
abbrev mX11_feed : am_M := (yX11_feed, cX11_feed, 6, some (.int), [])
noncomputable def tX11_feed : ex_T := (mX11_feed, [1, 5, 0, 0, 11, 583, 102, 581, 582], [
  [(0, .aload_n 0, 1, 1, []), (1, .getfield 12, 3, 4, [11, 0, 2, 528]), (4, .invokevirtual 105, 3, 7, [0, 12, 584]), (7, .ifCond .ne 5, 3, 10, [12]), (12, .aload_n 0, 1, 13, []), (13, .getfield 12, 3, 16, [11, 0, 2, 528]), (16, .iload_n 1, 1, 17, []), (17, .invokevirtual 109, 3, 20, [0, 10, 588]), (20, .aload_n 0, 1, 21, []), (21, .getfield 12, 3, 24, [11, 0, 2, 528]), (24, .iload_n 2, 1, 25, []), (25, .invokevirtual 109, 3, 28, [0, 10, 588]), (28, .aload_n 0, 1, 29, []), (29, .getfield 12, 3, 32, [11, 0, 2, 528])],
  [(32, .iload_n 3, 1, 33, []), (33, .invokevirtual 109, 3, 36, [0, 10, 588]), (36, .aload_n 0, 1, 37, []), (37, .getfield 12, 3, 40, [11, 0, 2, 528]), (40, .iload 4, 2, 42, []), (42, .invokevirtual 109, 3, 45, [0, 10, 588]), (45, .aload_n 0, 1, 46, []), (46, .getfield 12, 3, 49, [11, 0, 2, 528]), (49, .iload 5, 2, 51, []), (51, .invokevirtual 109, 3, 54, [0, 10, 588]), (54, .aload_n 0, 1, 55, []), (55, .getfield 12, 3, 58, [11, 0, 2, 528]), (58, .getfield 113, 3, 61, [10, 1, 0, 142]), (61, .ireturn, 1, 62, [])]])
abbrev mX11_gain : am_M := (yX11_gain, cX11_gain, 5, some (.int), [])
noncomputable def tX11_gain : ex_T := (mX11_gain, [1, 4, 1, 6, 11, 1490, 102, 1488, 1489], [
  [(0, .aload_n 0, 1, 1, []), (1, .getfield 28, 3, 4, [11, 2, 2, 530]), (4, .iload_n 1, 1, 5, []), (5, .invokevirtual 147, 3, 8, [0, 185, 825]), (8, .ifCond .eq 27, 3, 11, [35])],
  [(35, .new 151, 3, 38, [1, 273, 1, 1395, 1491])]])
abbrev mX11_heard : am_M := (yX11_heard, cX11_heard, 1, some (.int), [])
noncomputable def tX11_heard : ex_T := (mX11_heard, [1, 0, 0, 0, 11, 939, 102, 937, 938], [
  [(0, .aload_n 0, 1, 1, []), (1, .getfield 38, 3, 4, [11, 4, 2, 532]), (4, .invokevirtual 188, 3, 7, [0, 170, 777]), (7, .ifCond .ne 5, 3, 10, [12]), (10, .iconst (-1), 1, 11, []), (11, .ireturn, 1, 12, [])]])
abbrev mX11_idle : am_M := (yX11_idle, cX11_idle, 3, some (.int), [])
noncomputable def tX11_idle : ex_T := (mX11_idle, [1, 0, 0, 0, 11, 1194, 102, 1192, 1193], [
  [(0, .bipush 59, 2, 2, []), (2, .istore_n 1, 1, 3, []), (3, .iload_n 1, 1, 4, []), (4, .ifCond .lt 44, 3, 7, [48]), (7, .iconst 0, 1, 8, []), (8, .istore_n 2, 1, 9, []), (9, .iload_n 2, 1, 10, []), (10, .aload_n 0, 1, 11, []), (11, .getfield 28, 3, 14, [11, 2, 2, 530]), (14, .getfield 291, 3, 17, [9, 7, 0, 224]), (17, .if_icmp .ge 25, 3, 20, [42])],
  [(42, .iinc 1 (-1), 3, 45, []), (45, .goto (-42), 3, 48, [3]), (48, .iconst 0, 1, 49, []), (49, .ireturn, 1, 50, [])]])
abbrev mX11_image : am_M := (yX11_image, cX11_image, 2, some (.boolean), [])
noncomputable def tX11_image : ex_T := (mX11_image, [1, 1, 0, 0, 11, 1362, 102, 1360, 1361], [
  [(0, .iload_n 1, 1, 1, []), (1, .ifCond .eq 10, 3, 4, [11]), (4, .iload_n 1, 1, 5, []), (5, .iconst 1, 1, 6, []), (6, .if_icmp .eq 5, 3, 9, [11]), (9, .iconst 0, 1, 10, []), (10, .ireturn, 1, 11, []), (11, .aload_n 0, 1, 12, []), (12, .iload_n 1, 1, 13, []), (13, .invokevirtual 434, 3, 16, [0, 33, 1363]), (16, .aload_n 0, 1, 17, []), (17, .getfield 28, 3, 20, [11, 2, 2, 530]), (20, .aload_n 0, 1, 21, []), (21, .getfield 38, 3, 24, [11, 4, 2, 532]), (24, .aload_n 0, 1, 25, []), (25, .getfield 55, 3, 28, [11, 7, 2, 535]), (28, .invokevirtual 438, 3, 31, [0, 140, 1367]), (31, .iconst 1, 1, 32, [])],
  [(32, .ireturn, 1, 33, [])]])
abbrev mX11_imageAt : am_M := (yX11_imageAt, cX11_imageAt, 2, some (.object "WindowSale$Image"), [])
noncomputable def tX11_imageAt : ex_T := (mX11_imageAt, [1, 1, 0, 0, 11, 1366, 102, 1365, 36], [
  [(0, .iload_n 1, 1, 1, []), (1, .ifCond .ne 10, 3, 4, [11]), (4, .aload_n 0, 1, 5, []), (5, .getfield 98, 3, 8, [11, 14, 2, 542]), (8, .goto 7, 3, 11, [15]), (11, .aload_n 0, 1, 12, []), (12, .getfield 102, 3, 15, [11, 15, 2, 543]), (15, .areturn, 1, 16, [])]])
abbrev mX11_init : am_M := (yX11_init, cX11_init, 1, none, [])
noncomputable def bX11_init_0 : List ex_E := [(0, .aload_n 0, 1, 1, []), (1, .invokespecial 3, 3, 4, [1, 131]), (4, .aload_n 0, 1, 5, []), (5, .new 9, 3, 8, [0, 10, 2, 134, 135, 103]), (8, .dup, 1, 9, []), (9, .invokespecial 11, 3, 12, [0, 13, 136]), (12, .putfield 12, 3, 15, [11, 0, 2, 528]), (15, .aload_n 0, 1, 16, []), (16, .new 16, 3, 19, [0, 6, 9, 150, 151, 104]), (19, .dup, 1, 20, []), (20, .aload_n 0, 1, 21, []), (21, .getfield 12, 3, 24, [11, 0, 2, 528]), (24, .invokespecial 18, 3, 27, [0, 159, 152]), (27, .putfield 21, 3, 30, [11, 1, 2, 529]), (30, .aload_n 0, 1, 31, []), (31, .new 25, 3, 34, [0, 9, 11, 189, 190, 105])]
noncomputable def bX11_init_1 : List ex_E := [(34, .dup, 1, 35, []), (35, .invokespecial 27, 3, 38, [0, 186, 191]), (38, .putfield 28, 3, 41, [11, 2, 2, 530]), (41, .aload_n 0, 1, 42, []), (42, .new 25, 3, 45, [0, 9, 11, 189, 190, 105]), (45, .dup, 1, 46, []), (46, .invokespecial 27, 3, 49, [0, 186, 191]), (49, .putfield 32, 3, 52, [11, 3, 2, 531]), (52, .aload_n 0, 1, 53, []), (53, .new 35, 3, 56, [0, 7, 11, 254, 255, 107]), (56, .dup, 1, 57, []), (57, .invokespecial 37, 3, 60, [0, 169, 256]), (60, .putfield 38, 3, 63, [11, 4, 2, 532]), (63, .aload_n 0, 1, 64, [])]
noncomputable def bX11_init_2 : List ex_E := [(64, .new 35, 3, 67, [0, 7, 11, 254, 255, 107]), (67, .dup, 1, 68, []), (68, .invokespecial 37, 3, 71, [0, 169, 256]), (71, .putfield 42, 3, 74, [11, 5, 2, 533]), (74, .aload_n 0, 1, 75, []), (75, .new 45, 3, 78, [0, 3, 3, 306, 307, 108]), (78, .dup, 1, 79, []), (79, .invokespecial 47, 3, 82, [0, 146, 308]), (82, .putfield 48, 3, 85, [11, 6, 2, 534]), (85, .aload_n 0, 1, 86, []), (86, .new 52, 3, 89, [0, 8, 4, 326, 327, 109]), (89, .dup, 1, 90, []), (90, .invokespecial 54, 3, 93, [0, 177, 328]), (93, .putfield 55, 3, 96, [11, 7, 2, 535])]
noncomputable def bX11_init_3 : List ex_E := [(96, .aload_n 0, 1, 97, []), (97, .new 52, 3, 100, [0, 8, 4, 326, 327, 109]), (100, .dup, 1, 101, []), (101, .invokespecial 54, 3, 104, [0, 177, 328]), (104, .putfield 59, 3, 107, [11, 8, 2, 536]), (107, .aload_n 0, 1, 108, []), (108, .new 62, 3, 111, [0, 4, 20, 346, 347, 110]), (111, .dup, 1, 112, []), (112, .aload_n 0, 1, 113, []), (113, .getfield 28, 3, 116, [11, 2, 2, 530]), (116, .invokespecial 64, 3, 119, [0, 151, 348]), (119, .putfield 67, 3, 122, [11, 9, 2, 537]), (122, .aload_n 0, 1, 123, []), (123, .new 71, 3, 126, [0, 0, 3, 418, 419, 111]), (126, .dup, 1, 127, []), (127, .invokespecial 73, 3, 130, [0, 9, 420])]
noncomputable def bX11_init_4 : List ex_E := [(130, .putfield 74, 3, 133, [11, 10, 2, 538]), (133, .aload_n 0, 1, 134, []), (134, .new 78, 3, 137, [0, 5, 6, 436, 437, 112]), (137, .dup, 1, 138, []), (138, .invokespecial 80, 3, 141, [0, 157, 438]), (141, .putfield 81, 3, 144, [11, 11, 2, 539]), (144, .aload_n 0, 1, 145, []), (145, .new 78, 3, 148, [0, 5, 6, 436, 437, 112]), (148, .dup, 1, 149, []), (149, .invokespecial 80, 3, 152, [0, 157, 438]), (152, .putfield 85, 3, 155, [11, 12, 2, 540]), (155, .aload_n 0, 1, 156, []), (156, .new 88, 3, 159, [0, 2, 8, 463, 464, 113]), (159, .dup, 1, 160, [])]
noncomputable def bX11_init_5 : List ex_E := [(160, .invokespecial 90, 3, 163, [0, 141, 465]), (163, .putfield 91, 3, 166, [11, 13, 2, 541]), (166, .aload_n 0, 1, 167, []), (167, .new 95, 3, 170, [0, 1, 4, 499, 500, 114]), (170, .dup, 1, 171, []), (171, .invokespecial 97, 3, 174, [0, 139, 501]), (174, .putfield 98, 3, 177, [11, 14, 2, 542]), (177, .aload_n 0, 1, 178, []), (178, .new 95, 3, 181, [0, 1, 4, 499, 500, 114]), (181, .dup, 1, 182, []), (182, .invokespecial 97, 3, 185, [0, 139, 501]), (185, .putfield 102, 3, 188, [11, 15, 2, 543]), (188, .return_, 1, 189, [])]
noncomputable def tX11_init : ex_T := (mX11_init, [2, 0, 117, 6237, 11, 130, 102, 129, 0], [bX11_init_0, bX11_init_1, bX11_init_2, bX11_init_3, bX11_init_4, bX11_init_5])
abbrev mX11_isPart : am_M := (yX11_isPart, cX11_isPart, 1, some (.boolean), [])
noncomputable def tX11_isPart : ex_T := (mX11_isPart, [0, 1, 0, 0, 11, 1473, 102, 1472, 0], [
  [(0, .iload_n 0, 1, 1, []), (1, .ifCond .eq 8, 3, 4, [9]), (4, .iload_n 0, 1, 5, []), (5, .iconst 1, 1, 6, []), (6, .if_icmp .ne 7, 3, 9, [13]), (9, .iconst 1, 1, 10, []), (10, .goto 4, 3, 13, [14]), (13, .iconst 0, 1, 14, []), (14, .ireturn, 1, 15, [])]])
abbrev mX11_keepIfDone : am_M := (yX11_keepIfDone, cX11_keepIfDone, 2, some (.int), [])
noncomputable def tX11_keepIfDone : ex_T := (mX11_keepIfDone, [1, 1, 0, 0, 11, 807, 102, 806, 7], [
  [(0, .iload_n 1, 1, 1, []), (1, .ifCond .ne 7, 3, 4, [8]), (4, .aload_n 0, 1, 5, []), (5, .invokevirtual 232, 3, 8, [0, 37, 808]), (8, .iload_n 1, 1, 9, []), (9, .ireturn, 1, 10, [])]])
abbrev mX11_keepTrial : am_M := (yX11_keepTrial, cX11_keepTrial, 1, none, [])
noncomputable def tX11_keepTrial : ex_T := (mX11_keepTrial, [1, 0, 0, 0, 11, 811, 102, 810, 8], [
  [(0, .aload_n 0, 1, 1, []), (1, .getfield 48, 3, 4, [11, 6, 2, 534]), (4, .aload_n 0, 1, 5, []), (5, .getfield 38, 3, 8, [11, 4, 2, 532]), (8, .invokevirtual 235, 3, 11, [0, 144, 812]), (11, .aload_n 0, 1, 12, []), (12, .getfield 38, 3, 15, [11, 4, 2, 532]), (15, .aload_n 0, 1, 16, []), (16, .getfield 42, 3, 19, [11, 5, 2, 533]), (19, .invokevirtual 209, 3, 22, [0, 168, 790]), (22, .return_, 1, 23, [])]])
abbrev mX11_latest : am_M := (yX11_latest, cX11_latest, 1, some (.int), [])
noncomputable def tX11_latest : ex_T := (mX11_latest, [1, 0, 0, 0, 11, 935, 102, 933, 934], [
  [(0, .aload_n 0, 1, 1, []), (1, .getfield 38, 3, 4, [11, 4, 2, 532]), (4, .getfield 245, 3, 7, [7, 10, 0, 282]), (7, .ireturn, 1, 8, [])]])
abbrev mX11_log : am_M := (yX11_log, cX11_log, 3, some (.int), [])
noncomputable def tX11_log : ex_T := (mX11_log, [1, 1, 0, 0, 11, 1239, 102, 1237, 1238], [
  [(0, .iload_n 1, 1, 1, []), (1, .ifCond .eq 12, 3, 4, [13]), (4, .iload_n 1, 1, 5, []), (5, .iconst 1, 1, 6, []), (6, .if_icmp .eq 7, 3, 9, [13]), (9, .sipush (-1000), 3, 12, []), (12, .ireturn, 1, 13, []), (13, .aload_n 0, 1, 14, []), (14, .getfield 21, 3, 17, [11, 1, 2, 529]), (17, .sipush 400, 3, 20, []), (20, .invokevirtual 117, 3, 23, [0, 161, 600]), (23, .aload_n 0, 1, 24, []), (24, .getfield 91, 3, 27, [11, 13, 2, 541]), (27, .aload_n 0, 1, 28, []), (28, .getfield 21, 3, 31, [11, 1, 2, 529]), (31, .invokevirtual 401, 3, 34, [0, 143, 1240])],
  [(34, .istore_n 2, 1, 35, []), (35, .aload_n 0, 1, 36, []), (36, .getfield 12, 3, 39, [11, 0, 2, 528]), (39, .iconst 0, 1, 40, []), (40, .putfield 113, 3, 43, [10, 1, 0, 142]), (43, .aload_n 0, 1, 44, []), (44, .aload_n 0, 1, 45, []), (45, .getfield 21, 3, 48, [11, 1, 2, 529]), (48, .getfield 124, 3, 51, [6, 7, 0, 167]), (51, .putfield 127, 3, 54, [11, 16, 0, 544]), (54, .iload_n 2, 1, 55, []), (55, .ifCond .ne 14, 3, 58, [69])],
  [(69, .aload_n 0, 1, 70, []), (70, .getfield 42, 3, 73, [11, 5, 2, 533]), (73, .aload_n 0, 1, 74, []), (74, .getfield 38, 3, 77, [11, 4, 2, 532]), (77, .invokevirtual 209, 3, 80, [0, 168, 790]), (80, .aload_n 0, 1, 81, []), (81, .getfield 91, 3, 84, [11, 13, 2, 541]), (84, .aload_n 0, 1, 85, []), (85, .getfield 42, 3, 88, [11, 5, 2, 533]), (88, .aload_n 0, 1, 89, []), (89, .getfield 28, 3, 92, [11, 2, 2, 530]), (92, .invokevirtual 402, 3, 95, [0, 142, 1260]), (95, .iload_n 1, 1, 96, [])],
  [(96, .iconst 1, 1, 97, []), (97, .if_icmp .ne 7, 3, 100, [104]), (100, .aload_n 0, 1, 101, []), (101, .invokevirtual 232, 3, 104, [0, 37, 808]), (104, .aload_n 0, 1, 105, []), (105, .getfield 91, 3, 108, [11, 13, 2, 541]), (108, .getfield 406, 3, 111, [2, 4, 0, 475]), (111, .ifCond .ne 7, 3, 114, [118]), (114, .iconst (-1), 1, 115, []), (115, .goto 10, 3, 118, [125]), (125, .ireturn, 1, 126, [])]])
abbrev mX11_logged : am_M := (yX11_logged, cX11_logged, 2, some (.int), [])
noncomputable def tX11_logged : ex_T := (mX11_logged, [1, 1, 0, 0, 11, 1280, 102, 1278, 1279], [
  [(0, .aload_n 0, 1, 1, []), (1, .getfield 91, 3, 4, [11, 13, 2, 541]), (4, .getfield 412, 3, 7, [2, 3, 0, 473]), (7, .ifCond .ne 5, 3, 10, [12]), (10, .iconst (-1), 1, 11, []), (11, .ireturn, 1, 12, [])]])
abbrev mX11_luckiest : am_M := (yX11_luckiest, cX11_luckiest, 3, some (.int), [])
noncomputable def tX11_luckiest : ex_T := (mX11_luckiest, [1, 2, 0, 0, 11, 1235, 102, 1233, 1234], [
  [(0, .aload_n 0, 1, 1, []), (1, .iload_n 1, 1, 2, []), (2, .invokevirtual 388, 3, 5, [0, 18, 1200]), (5, .ifCond .ne 5, 3, 8, [10]), (8, .iconst (-1), 1, 9, []), (9, .ireturn, 1, 10, [])]])
abbrev mX11_meant : am_M := (yX11_meant, cX11_meant, 8, some (.int), [])
noncomputable def tX11_meant : ex_T := (mX11_meant, [1, 3, 1, 6, 11, 1528, 102, 1526, 1527], [
  [(0, .aload_n 0, 1, 1, []), (1, .getfield 28, 3, 4, [11, 2, 2, 530]), (4, .iload_n 1, 1, 5, []), (5, .invokevirtual 147, 3, 8, [0, 185, 825]), (8, .ifCond .eq 17, 3, 11, [25]), (25, .new 151, 3, 28, [1, 273, 1, 1395, 1491])]])
abbrev mX11_needs : am_M := (yX11_needs, cX11_needs, 3, some (.int), [])
noncomputable def tX11_needs : ex_T := (mX11_needs, [1, 1, 0, 0, 11, 1185, 102, 1183, 1184], [
  [(0, .aload_n 0, 1, 1, []), (1, .getfield 28, 3, 4, [11, 2, 2, 530]), (4, .iload_n 1, 1, 5, []), (5, .invokevirtual 147, 3, 8, [0, 185, 825]), (8, .ifCond .ne 5, 3, 11, [13]), (11, .iconst (-1), 1, 12, []), (12, .ireturn, 1, 13, [])]])
abbrev mX11_now : am_M := (yX11_now, cX11_now, 2, some (.int), [])
noncomputable def tX11_now : ex_T := (mX11_now, [1, 1, 0, 0, 11, 776, 102, 774, 775], [
  [(0, .iload_n 1, 1, 1, []), (1, .tableswitch 95 0 5 #[39, 55, 63, 71, 79, 87], 39, 40, [])],
  [(40, .aload_n 0, 1, 41, []), (41, .getfield 38, 3, 44, [11, 4, 2, 532]), (44, .invokevirtual 188, 3, 47, [0, 170, 777]), (47, .ifCond .eq 7, 3, 50, [54]), (54, .iconst 0, 1, 55, []), (55, .ireturn, 1, 56, []), (56, .aload_n 0, 1, 57, []), (57, .getfield 38, 3, 60, [11, 4, 2, 532]), (60, .getfield 191, 3, 63, [7, 4, 0, 267]), (63, .ireturn, 1, 64, [])],
  [(64, .aload_n 0, 1, 65, []), (65, .getfield 38, 3, 68, [11, 4, 2, 532]), (68, .getfield 194, 3, 71, [7, 5, 0, 270]), (71, .ireturn, 1, 72, []), (72, .aload_n 0, 1, 73, []), (73, .getfield 38, 3, 76, [11, 4, 2, 532]), (76, .getfield 197, 3, 79, [7, 6, 0, 274]), (79, .ireturn, 1, 80, []), (80, .aload_n 0, 1, 81, []), (81, .getfield 38, 3, 84, [11, 4, 2, 532]), (84, .getfield 200, 3, 87, [7, 7, 0, 277]), (87, .ireturn, 1, 88, []), (88, .aload_n 0, 1, 89, []), (89, .getfield 38, 3, 92, [11, 4, 2, 532]), (92, .getfield 203, 3, 95, [7, 8, 0, 279]), (95, .ireturn, 1, 96, [])],
  [(96, .iload_n 1, 1, 97, []), (97, .bipush 6, 2, 99, []), (99, .if_icmp .lt 22, 3, 102, [121]), (102, .iload_n 1, 1, 103, []), (103, .bipush 10, 2, 105, []), (105, .if_icmp .gt 16, 3, 108, [121]), (108, .aload_n 0, 1, 109, []), (109, .getfield 38, 3, 112, [11, 4, 2, 532]), (112, .iload_n 1, 1, 113, []), (113, .iconst 5, 1, 114, []), (114, .isub, 1, 115, []), (115, .invokevirtual 206, 3, 118, [0, 172, 781]), (118, .goto 4, 3, 121, [122]), (121, .iconst (-1), 1, 122, []), (122, .ireturn, 1, 123, [])]])
abbrev mX11_plan : am_M := (yX11_plan, cX11_plan, 6, some (.int), [])
noncomputable def tX11_plan : ex_T := (mX11_plan, [1, 4, 1, 6, 11, 1499, 102, 1497, 1498], [
  [(0, .aload_n 0, 1, 1, []), (1, .getfield 28, 3, 4, [11, 2, 2, 530]), (4, .iload_n 1, 1, 5, []), (5, .invokevirtual 147, 3, 8, [0, 185, 825]), (8, .ifCond .eq 26, 3, 11, [34])],
  [(34, .iconst 0, 1, 35, []), (35, .istore 5, 2, 37, []), (37, .iload 5, 2, 39, []), (39, .ifCond .eq 11, 3, 42, [50]), (50, .new 151, 3, 53, [1, 286, 1, 1395, 1500])]])
abbrev mX11_put : am_M := (yX11_put, cX11_put, 3, none, [])
noncomputable def tX11_put : ex_T := (mX11_put, [0, 3, 0, 0, 11, 213, 102, 212, 0], [
  [(0, .iload_n 1, 1, 1, []), (1, .ifCond .lt 13, 3, 4, [14]), (4, .iload_n 1, 1, 5, []), (5, .aload_n 0, 1, 6, []), (6, .arraylength, 1, 7, []), (7, .if_icmp .ge 7, 3, 10, [14]), (10, .aload_n 0, 1, 11, []), (11, .iload_n 1, 1, 12, []), (12, .iload_n 2, 1, 13, []), (13, .iastore, 1, 14, []), (14, .return_, 1, 15, [])]])
abbrev mX11_race : am_M := (yX11_race, cX11_race, 6, some (.int), [])
noncomputable def tX11_race : ex_T := (mX11_race, [1, 4, 0, 0, 11, 1128, 102, 1126, 1127], [
  [(0, .aload_n 0, 1, 1, []), (1, .getfield 28, 3, 4, [11, 2, 2, 530]), (4, .iload_n 1, 1, 5, []), (5, .invokevirtual 147, 3, 8, [0, 185, 825]), (8, .ifCond .eq 32, 3, 11, [40])],
  [(40, .iconst (-1), 1, 41, []), (41, .ireturn, 1, 42, [])]])
abbrev mX11_restore : am_M := (yX11_restore, cX11_restore, 3, some (.boolean), [])
noncomputable def tX11_restore : ex_T := (mX11_restore, [1, 1, 0, 0, 11, 1377, 102, 1375, 1376], [
  [(0, .iload_n 1, 1, 1, []), (1, .ifCond .eq 10, 3, 4, [11]), (4, .iload_n 1, 1, 5, []), (5, .iconst 1, 1, 6, []), (6, .if_icmp .eq 5, 3, 9, [11]), (9, .iconst 0, 1, 10, []), (10, .ireturn, 1, 11, []), (11, .aload_n 0, 1, 12, []), (12, .iload_n 1, 1, 13, []), (13, .invokevirtual 434, 3, 16, [0, 33, 1363]), (16, .astore_n 2, 1, 17, []), (17, .aload_n 2, 1, 18, []), (18, .getfield 442, 3, 21, [1, 3, 0, 518]), (21, .ifCond .ne 5, 3, 24, [26]), (24, .iconst 0, 1, 25, []), (25, .ireturn, 1, 26, [])]])
abbrev mX11_said : am_M := (yX11_said, cX11_said, 5, some (.int), [])
noncomputable def tX11_said : ex_T := (mX11_said, [1, 1, 0, 0, 11, 1329, 102, 1327, 1328], [
  [(0, .aload_n 0, 1, 1, []), (1, .getfield 55, 3, 4, [11, 7, 2, 535]), (4, .getfield 422, 3, 7, [8, 3, 0, 336]), (7, .ifCond .ne 5, 3, 10, [12]), (10, .iconst (-1), 1, 11, []), (11, .ireturn, 1, 12, [])]])
abbrev mX11_sale : am_M := (yX11_sale, cX11_sale, 3, some (.int), [])
noncomputable def tX11_sale : ex_T := (mX11_sale, [1, 2, 0, 0, 11, 1079, 102, 1077, 1078], [
  [(0, .aload_n 0, 1, 1, []), (1, .getfield 67, 3, 4, [11, 9, 2, 537]), (4, .invokevirtual 294, 3, 7, [0, 152, 983]), (7, .iload_n 1, 1, 8, []), (8, .ifCond .lt 14, 3, 11, [22]), (11, .iload_n 1, 1, 12, []), (12, .aload_n 0, 1, 13, []), (13, .getfield 67, 3, 16, [11, 9, 2, 537]), (16, .getfield 303, 3, 19, [4, 12, 0, 366]), (19, .if_icmp .lt 5, 3, 22, [24]), (22, .iconst (-1), 1, 23, []), (23, .ireturn, 1, 24, [])]])
abbrev mX11_sell : am_M := (yX11_sell, cX11_sell, 2, some (.int), [])
noncomputable def tX11_sell : ex_T := (mX11_sell, [1, 1, 0, 0, 11, 836, 102, 834, 835], [
  [(0, .iload_n 1, 1, 1, []), (1, .ifCond .eq 10, 3, 4, [11]), (4, .iload_n 1, 1, 5, []), (5, .iconst 1, 1, 6, []), (6, .if_icmp .eq 5, 3, 9, [11]), (9, .iconst (-1), 1, 10, []), (10, .ireturn, 1, 11, []), (11, .aload_n 0, 1, 12, []), (12, .getfield 42, 3, 15, [11, 5, 2, 533]), (15, .aload_n 0, 1, 16, []), (16, .getfield 38, 3, 19, [11, 4, 2, 532]), (19, .invokevirtual 209, 3, 22, [0, 168, 790]), (22, .aload_n 0, 1, 23, []), (23, .aload_n 0, 1, 24, []), (24, .getfield 42, 3, 27, [11, 5, 2, 533]), (27, .iload_n 1, 1, 28, []), (28, .aload_n 0, 1, 29, []), (29, .getfield 28, 3, 32, [11, 2, 2, 530])],
  [(32, .invokevirtual 222, 3, 35, [0, 173, 837]), (35, .invokevirtual 216, 3, 38, [0, 36, 804]), (38, .ireturn, 1, 39, [])]])
abbrev mX11_sellers : am_M := (yX11_sellers, cX11_sellers, 3, some (.int), [])
noncomputable def tX11_sellers : ex_T := (mX11_sellers, [1, 0, 0, 0, 11, 1089, 102, 1087, 1088], [
  [(0, .aload_n 0, 1, 1, []), (1, .getfield 28, 3, 4, [11, 2, 2, 530]), (4, .getfield 291, 3, 7, [9, 7, 0, 224]), (7, .ifCond .ne 5, 3, 10, [12]), (10, .iconst (-1), 1, 11, []), (11, .ireturn, 1, 12, [])]])
abbrev mX11_sentence : am_M := (yX11_sentence, cX11_sentence, 2, some (.int), [])
noncomputable def tX11_sentence : ex_T := (mX11_sentence, [1, 0, 0, 0, 11, 1284, 102, 1282, 1283], [
  [(0, .aload_n 0, 1, 1, []), (1, .getfield 21, 3, 4, [11, 1, 2, 529]), (4, .sipush 200, 3, 7, []), (7, .invokevirtual 117, 3, 10, [0, 161, 600]), (10, .aload_n 0, 1, 11, []), (11, .getfield 59, 3, 14, [11, 8, 2, 536]), (14, .aload_n 0, 1, 15, []), (15, .getfield 21, 3, 18, [11, 1, 2, 529]), (18, .invokevirtual 418, 3, 21, [0, 179, 1285]), (21, .istore_n 1, 1, 22, []), (22, .aload_n 0, 1, 23, []), (23, .getfield 12, 3, 26, [11, 0, 2, 528]), (26, .iconst 0, 1, 27, []), (27, .putfield 113, 3, 30, [10, 1, 0, 142]), (30, .aload_n 0, 1, 31, []), (31, .aload_n 0, 1, 32, [])],
  [(32, .getfield 21, 3, 35, [11, 1, 2, 529]), (35, .getfield 124, 3, 38, [6, 7, 0, 167]), (38, .putfield 127, 3, 41, [11, 16, 0, 544]), (41, .iload_n 1, 1, 42, []), (42, .ifCond .ne 13, 3, 45, [55]), (45, .iconst (-1), 1, 46, []), (46, .aload_n 0, 1, 47, []), (47, .getfield 21, 3, 50, [11, 1, 2, 529]), (50, .getfield 130, 3, 53, [6, 8, 0, 169]), (53, .isub, 1, 54, []), (54, .ireturn, 1, 55, [])]])
abbrev mX11_share : am_M := (yX11_share, cX11_share, 5, some (.int), [])
noncomputable def tX11_share : ex_T := (mX11_share, [1, 2, 0, 0, 11, 1124, 102, 1122, 1123], [
  [(0, .aload_n 0, 1, 1, []), (1, .getfield 28, 3, 4, [11, 2, 2, 530]), (4, .iload_n 1, 1, 5, []), (5, .invokevirtual 147, 3, 8, [0, 185, 825]), (8, .ifCond .eq 14, 3, 11, [22]), (22, .iconst (-1), 1, 23, []), (23, .ireturn, 1, 24, [])]])
abbrev mX11_stand : am_M := (yX11_stand, cX11_stand, 3, some (.int), [])
noncomputable def tX11_stand : ex_T := (mX11_stand, [1, 2, 0, 0, 11, 767, 102, 765, 766], [
  [(0, .iload_n 1, 1, 1, []), (1, .ifCond .lt 23, 3, 4, [24]), (4, .iload_n 1, 1, 5, []), (5, .aload_n 0, 1, 6, []), (6, .getfield 28, 3, 9, [11, 2, 2, 530]), (9, .getfield 179, 3, 12, [9, 8, 0, 226]), (12, .if_icmp .ge 12, 3, 15, [24]), (15, .iload_n 2, 1, 16, []), (16, .ifCond .lt 8, 3, 19, [24]), (19, .iload_n 2, 1, 20, []), (20, .iconst 1, 1, 21, []), (21, .if_icmp .le 5, 3, 24, [26]), (24, .iconst (-1), 1, 25, []), (25, .ireturn, 1, 26, []), (26, .iload_n 2, 1, 27, []), (27, .ifCond .ne 14, 3, 30, [41]), (30, .aload_n 0, 1, 31, []), (31, .getfield 28, 3, 34, [11, 2, 2, 530])],
  [(34, .iload_n 1, 1, 35, []), (35, .invokevirtual 182, 3, 38, [0, 189, 768]), (38, .goto 11, 3, 41, [49]), (41, .aload_n 0, 1, 42, []), (42, .getfield 28, 3, 45, [11, 2, 2, 530]), (45, .iload_n 1, 1, 46, []), (46, .invokevirtual 185, 3, 49, [0, 192, 769]), (49, .ireturn, 1, 50, [])]])
abbrev mX11_station : am_M := (yX11_station, cX11_station, 2, some (.int), [])
noncomputable def tX11_station : ex_T := (mX11_station, [1, 0, 0, 0, 11, 599, 102, 597, 598], [
  [(0, .aload_n 0, 1, 1, []), (1, .getfield 21, 3, 4, [11, 1, 2, 529]), (4, .sipush 900, 3, 7, []), (7, .invokevirtual 117, 3, 10, [0, 161, 600]), (10, .aload_n 0, 1, 11, []), (11, .getfield 32, 3, 14, [11, 3, 2, 531]), (14, .aload_n 0, 1, 15, []), (15, .getfield 21, 3, 18, [11, 1, 2, 529]), (18, .invokevirtual 120, 3, 21, [0, 188, 628]), (21, .istore_n 1, 1, 22, []), (22, .aload_n 0, 1, 23, []), (23, .getfield 12, 3, 26, [11, 0, 2, 528]), (26, .iconst 0, 1, 27, []), (27, .putfield 113, 3, 30, [10, 1, 0, 142]), (30, .aload_n 0, 1, 31, []), (31, .aload_n 0, 1, 32, [])],
  [(32, .getfield 21, 3, 35, [11, 1, 2, 529]), (35, .getfield 124, 3, 38, [6, 7, 0, 167]), (38, .putfield 127, 3, 41, [11, 16, 0, 544]), (41, .iload_n 1, 1, 42, []), (42, .ifCond .ne 13, 3, 45, [55]), (55, .aload_n 0, 1, 56, []), (56, .getfield 28, 3, 59, [11, 2, 2, 530]), (59, .aload_n 0, 1, 60, []), (60, .getfield 32, 3, 63, [11, 3, 2, 531]), (63, .invokevirtual 133, 3, 66, [0, 184, 737])],
  [(66, .aload_n 0, 1, 67, []), (67, .getfield 38, 3, 70, [11, 4, 2, 532]), (70, .invokevirtual 136, 3, 73, [0, 166, 741]), (73, .aload_n 0, 1, 74, []), (74, .getfield 55, 3, 77, [11, 7, 2, 535]), (77, .invokevirtual 139, 3, 80, [0, 175, 748]), (80, .aload_n 0, 1, 81, []), (81, .getfield 48, 3, 84, [11, 6, 2, 534]), (84, .invokevirtual 140, 3, 87, [0, 145, 752]), (87, .aload_n 0, 1, 88, []), (88, .getfield 67, 3, 91, [11, 9, 2, 537]), (91, .invokevirtual 141, 3, 94, [0, 150, 756]), (94, .aload_n 0, 1, 95, []), (95, .getfield 28, 3, 98, [11, 2, 2, 530])],
  [(98, .getfield 144, 3, 101, [9, 9, 0, 228]), (101, .ireturn, 1, 102, [])]])
abbrev mX11_stood : am_M := (yX11_stood, cX11_stood, 5, some (.int), [])
noncomputable def tX11_stood : ex_T := (mX11_stood, [1, 0, 0, 0, 11, 1189, 102, 1187, 1188], [
  [(0, .aload_n 0, 1, 1, []), (1, .getfield 12, 3, 4, [11, 0, 2, 528]), (4, .getfield 113, 3, 7, [10, 1, 0, 142]), (7, .iconst 2, 1, 8, []), (8, .if_icmp .ne 7, 3, 11, [15]), (15, .iconst 0, 1, 16, []), (16, .istore_n 1, 1, 17, []), (17, .sipush 256, 3, 20, []), (20, .aload_n 0, 1, 21, []), (21, .getfield 12, 3, 24, [11, 0, 2, 528]), (24, .iconst 0, 1, 25, []), (25, .invokevirtual 382, 3, 28, [0, 11, 1190]), (28, .imul, 1, 29, []), (29, .aload_n 0, 1, 30, []), (30, .getfield 12, 3, 33, [11, 0, 2, 528])],
  [(33, .iconst 1, 1, 34, []), (34, .invokevirtual 382, 3, 37, [0, 11, 1190]), (37, .iadd, 1, 38, []), (38, .istore_n 2, 1, 39, []), (39, .aload_n 0, 1, 40, []), (40, .getfield 12, 3, 43, [11, 0, 2, 528]), (43, .iconst 0, 1, 44, []), (44, .putfield 113, 3, 47, [10, 1, 0, 142]), (47, .iload_n 1, 1, 48, []), (48, .ifCond .ne 5, 3, 51, [53]), (51, .iconst (-1), 1, 52, []), (52, .ireturn, 1, 53, [])]])
abbrev mX11_train : am_M := (yX11_train, cX11_train, 3, some (.int), [])
noncomputable def tX11_train : ex_T := (mX11_train, [1, 2, 0, 0, 11, 789, 102, 787, 788], [
  [(0, .iload_n 1, 1, 1, []), (1, .ifCond .lt 9, 3, 4, [10]), (4, .iload_n 1, 1, 5, []), (5, .bipush 60, 2, 7, []), (7, .if_icmp .le 5, 3, 10, [12]), (10, .iconst (-1), 1, 11, []), (11, .ireturn, 1, 12, []), (12, .aload_n 0, 1, 13, []), (13, .getfield 42, 3, 16, [11, 5, 2, 533]), (16, .aload_n 0, 1, 17, []), (17, .getfield 38, 3, 20, [11, 4, 2, 532]), (20, .invokevirtual 209, 3, 23, [0, 168, 790]), (23, .aload_n 0, 1, 24, []), (24, .aload_n 0, 1, 25, []), (25, .getfield 42, 3, 28, [11, 5, 2, 533]), (28, .iload_n 1, 1, 29, []), (29, .iload_n 2, 1, 30, []), (30, .aload_n 0, 1, 31, []), (31, .getfield 28, 3, 34, [11, 2, 2, 530])],
  [(34, .invokevirtual 212, 3, 37, [0, 167, 795]), (37, .invokevirtual 216, 3, 40, [0, 36, 804]), (40, .ireturn, 1, 41, [])]])
abbrev mX11_trust : am_M := (yX11_trust, cX11_trust, 3, some (.int), [])
noncomputable def tX11_trust : ex_T := (mX11_trust, [1, 1, 0, 0, 11, 977, 102, 975, 976], [
  [(0, .aload_n 0, 1, 1, []), (1, .getfield 28, 3, 4, [11, 2, 2, 530]), (4, .iload_n 1, 1, 5, []), (5, .invokevirtual 147, 3, 8, [0, 185, 825]), (8, .ifCond .ne 5, 3, 11, [13]), (11, .iconst (-1), 1, 12, []), (12, .ireturn, 1, 13, [])]])
abbrev mX11_undo : am_M := (yX11_undo, cX11_undo, 1, some (.int), [])
noncomputable def tX11_undo : ex_T := (mX11_undo, [1, 0, 0, 0, 11, 927, 102, 925, 926], [
  [(0, .aload_n 0, 1, 1, []), (1, .getfield 48, 3, 4, [11, 6, 2, 534]), (4, .aload_n 0, 1, 5, []), (5, .getfield 38, 3, 8, [11, 4, 2, 532]), (8, .invokevirtual 238, 3, 11, [0, 148, 928]), (11, .ifCond .ne 5, 3, 14, [16]), (14, .iconst (-1), 1, 15, []), (15, .ireturn, 1, 16, [])]])
abbrev mX11_waits : am_M := (yX11_waits, cX11_waits, 2, some (.int), [])
noncomputable def tX11_waits : ex_T := (mX11_waits, [1, 1, 0, 0, 11, 919, 102, 917, 918], [
  [(0, .iload_n 1, 1, 1, []), (1, .iconst 1, 1, 2, []), (2, .if_icmp .lt 9, 3, 5, [11]), (5, .iload_n 1, 1, 6, []), (6, .bipush 60, 2, 8, []), (8, .if_icmp .le 5, 3, 11, [13]), (11, .iconst (-1), 1, 12, []), (12, .ireturn, 1, 13, []), (13, .aload_n 0, 1, 14, []), (14, .getfield 42, 3, 17, [11, 5, 2, 533]), (17, .aload_n 0, 1, 18, []), (18, .getfield 38, 3, 21, [11, 4, 2, 532]), (21, .invokevirtual 209, 3, 24, [0, 168, 790]), (24, .aload_n 0, 1, 25, []), (25, .aload_n 0, 1, 26, []), (26, .getfield 42, 3, 29, [11, 5, 2, 533]), (29, .iload_n 1, 1, 30, []), (30, .invokevirtual 229, 3, 33, [0, 171, 920])],
  [(33, .invokevirtual 216, 3, 36, [0, 36, 804]), (36, .ireturn, 1, 37, [])]])
abbrev mX11_walk : am_M := (yX11_walk, cX11_walk, 2, some (.int), [])
noncomputable def tX11_walk : ex_T := (mX11_walk, [1, 1, 0, 0, 11, 906, 102, 904, 905], [
  [(0, .iload_n 1, 1, 1, []), (1, .ifCond .eq 10, 3, 4, [11]), (4, .iload_n 1, 1, 5, []), (5, .iconst 1, 1, 6, []), (6, .if_icmp .eq 5, 3, 9, [11]), (9, .iconst (-1), 1, 10, []), (10, .ireturn, 1, 11, []), (11, .aload_n 0, 1, 12, []), (12, .getfield 42, 3, 15, [11, 5, 2, 533]), (15, .aload_n 0, 1, 16, []), (16, .getfield 38, 3, 19, [11, 4, 2, 532]), (19, .invokevirtual 209, 3, 22, [0, 168, 790]), (22, .aload_n 0, 1, 23, []), (23, .aload_n 0, 1, 24, []), (24, .getfield 42, 3, 27, [11, 5, 2, 533]), (27, .iload_n 1, 1, 28, []), (28, .aload_n 0, 1, 29, []), (29, .getfield 28, 3, 32, [11, 2, 2, 530])],
  [(32, .invokevirtual 226, 3, 35, [0, 174, 907]), (35, .invokevirtual 216, 3, 38, [0, 36, 804]), (38, .ireturn, 1, 39, [])]])
abbrev mX11_weekly : am_M := (yX11_weekly, cX11_weekly, 2, some (.int), [])
noncomputable def tX11_weekly : ex_T := (mX11_weekly, [1, 1, 0, 0, 11, 1169, 102, 1167, 1168], [
  [(0, .aload_n 0, 1, 1, []), (1, .getfield 28, 3, 4, [11, 2, 2, 530]), (4, .iload_n 1, 1, 5, []), (5, .invokevirtual 147, 3, 8, [0, 185, 825]), (8, .ifCond .ne 5, 3, 11, [13]), (11, .iconst (-1), 1, 12, []), (12, .ireturn, 1, 13, [])]])
abbrev mX11_window : am_M := (yX11_window, cX11_window, 3, some (.int), [])
noncomputable def tX11_window : ex_T := (mX11_window, [1, 2, 1, 6, 11, 1394, 102, 1392, 1393], [
  [(0, .aload_n 0, 1, 1, []), (1, .getfield 28, 3, 4, [11, 2, 2, 530]), (4, .iload_n 1, 1, 5, []), (5, .invokevirtual 147, 3, 8, [0, 185, 825]), (8, .ifCond .ne 13, 3, 11, [21]), (11, .new 151, 3, 14, [1, 153, 0, 1395, 1434])]])
abbrev mX11_yet : am_M := (yX11_yet, cX11_yet, 4, some (.int), [])
noncomputable def tX11_yet : ex_T := (mX11_yet, [1, 2, 1, 6, 11, 1470, 102, 1468, 1469], [
  [(0, .iload_n 2, 1, 1, []), (1, .invokestatic 255, 3, 4, [0, 35, 1471]), (4, .ifCond .eq 23, 3, 7, [27]), (7, .iload_n 1, 1, 8, []), (8, .ifCond .lt 19, 3, 11, [27]), (11, .iload_n 1, 1, 12, []), (12, .bipush 60, 2, 14, []), (14, .if_icmp .gt 13, 3, 17, [27]), (17, .aload_n 0, 1, 18, []), (18, .getfield 38, 3, 21, [11, 4, 2, 532]), (21, .invokevirtual 188, 3, 24, [0, 170, 777]), (24, .ifCond .ne 14, 3, 27, [38]), (27, .new 151, 3, 30, [1, 258, 1, 1395, 1474])]])
abbrev mX12_bad : am_M := (yX12_bad, cX12_bad, 2, some (.boolean), [])
noncomputable def tX12_bad : ex_T := (mX12_bad, [1, 1, 0, 0, 12, 1737, 115, 1736, 45], [
  [(0, .aload_n 0, 1, 1, []), (1, .iload_n 1, 1, 2, []), (2, .putfield 119, 3, 5, [12, 13, 0, 1573]), (5, .aload_n 0, 1, 6, []), (6, .aload_n 0, 1, 7, []), (7, .getfield 96, 3, 10, [12, 10, 0, 1570]), (10, .putfield 122, 3, 13, [12, 14, 0, 1574]), (13, .iconst 0, 1, 14, []), (14, .ireturn, 1, 15, [])]])
abbrev mX12_begin : am_M := (yX12_begin, cX12_begin, 3, some (.int), [])
noncomputable def tX12_begin : ex_T := (mX12_begin, [1, 1, 0, 0, 12, 1834, 115, 1832, 1833], [
  [(0, .aload_n 0, 1, 1, []), (1, .iconst 0, 1, 2, []), (2, .putfield 1, 3, 5, [12, 0, 0, 1560]), (5, .aload_n 0, 1, 6, []), (6, .iload_n 1, 1, 7, []), (7, .invokevirtual 214, 3, 10, [0, 93, 1784]), (10, .ifCond .ne 5, 3, 13, [15]), (13, .iconst (-1), 1, 14, []), (14, .ireturn, 1, 15, [])]])
abbrev mX12_best : am_M := (yX12_best, cX12_best, 2, some (.int), [])
noncomputable def tX12_best : ex_T := (mX12_best, [1, 1, 0, 0, 12, 1982, 115, 1980, 1981], [
  [(0, .aload_n 0, 1, 1, []), (1, .iconst 0, 1, 2, []), (2, .putfield 1, 3, 5, [12, 0, 0, 1560]), (5, .aload_n 0, 1, 6, []), (6, .getfield 33, 3, 9, [12, 6, 2, 1566]), (9, .iconst 0, 1, 10, []), (10, .iaload, 1, 11, []), (11, .ifCond .ne 5, 3, 14, [16]), (14, .iconst (-1), 1, 15, []), (15, .ireturn, 1, 16, [])]])
abbrev mX12_better : am_M := (yX12_better, cX12_better, 3, some (.int), [])
noncomputable def tX12_better : ex_T := (mX12_better, [1, 2, 0, 0, 12, 1937, 115, 1935, 1936], [
  [(0, .aload_n 0, 1, 1, []), (1, .iconst 0, 1, 2, []), (2, .putfield 1, 3, 5, [12, 0, 0, 1560]), (5, .aload_n 0, 1, 6, []), (6, .iload_n 1, 1, 7, []), (7, .invokevirtual 214, 3, 10, [0, 93, 1784]), (10, .ifCond .eq 22, 3, 13, [32])],
  [(32, .iconst (-1), 1, 33, []), (33, .ireturn, 1, 34, [])]])
abbrev mX12_border : am_M := (yX12_border, cX12_border, 5, some (.int), [])
noncomputable def tX12_border : ex_T := (mX12_border, [1, 0, 0, 0, 12, 2034, 115, 2032, 2033], [
  [(0, .aload_n 0, 1, 1, []), (1, .iconst 0, 1, 2, []), (2, .putfield 1, 3, 5, [12, 0, 0, 1560]), (5, .iconst 0, 1, 6, []), (6, .istore_n 1, 1, 7, []), (7, .iconst (-1), 1, 8, []), (8, .istore_n 2, 1, 9, []), (9, .iconst 0, 1, 10, []), (10, .istore_n 3, 1, 11, []), (11, .iload_n 3, 1, 12, []), (12, .aload_n 0, 1, 13, []), (13, .getfield 33, 3, 16, [12, 6, 2, 1566]), (16, .iconst 0, 1, 17, []), (17, .iaload, 1, 18, []), (18, .if_icmp .gt 49, 3, 21, [67]), (21, .aload_n 0, 1, 22, []), (22, .iconst 0, 1, 23, []), (23, .iload_n 3, 1, 24, []), (24, .invokevirtual 335, 3, 27, [0, 111, 2011]), (27, .aload_n 0, 1, 28, []), (28, .iload_n 3, 1, 29, []), (29, .aload_n 0, 1, 30, []), (30, .getfield 33, 3, 33, [12, 6, 2, 1566])],
  [(33, .iconst 0, 1, 34, []), (34, .iaload, 1, 35, []), (35, .invokevirtual 335, 3, 38, [0, 111, 2011]), (38, .invokestatic 288, 3, 41, [0, 105, 1962]), (41, .istore 4, 2, 43, []), (43, .iload_n 2, 1, 44, []), (44, .ifCond .lt 12, 3, 47, [56]), (56, .iload 4, 2, 58, []), (58, .istore_n 2, 1, 59, []), (59, .iload_n 3, 1, 60, []), (60, .istore_n 1, 1, 61, []), (61, .iinc 3 1, 3, 64, [])],
  [(64, .goto (-53), 3, 67, [11]), (67, .iload_n 1, 1, 68, []), (68, .ireturn, 1, 69, [])]])
abbrev mX12_canAct : am_M := (yX12_canAct, cX12_canAct, 1, some (.boolean), [])
noncomputable def tX12_canAct : ex_T := (mX12_canAct, [1, 0, 0, 0, 12, 1850, 115, 1849, 61], [
  [(0, .aload_n 0, 1, 1, []), (1, .invokevirtual 221, 3, 4, [0, 92, 1815]), (4, .ifCond .eq 17, 3, 7, [21]), (21, .iconst 0, 1, 22, []), (22, .ireturn, 1, 23, [])]])
abbrev mX12_change : am_M := (yX12_change, cX12_change, 4, some (.int), [])
noncomputable def tX12_change : ex_T := (mX12_change, [1, 2, 0, 0, 12, 2038, 115, 2036, 2037], [
  [(0, .aload_n 0, 1, 1, []), (1, .iconst 0, 1, 2, []), (2, .putfield 1, 3, 5, [12, 0, 0, 1560]), (5, .aload_n 0, 1, 6, []), (6, .iload_n 1, 1, 7, []), (7, .invokevirtual 214, 3, 10, [0, 93, 1784]), (10, .ifCond .eq 14, 3, 13, [24]), (24, .iconst (-1), 1, 25, []), (25, .ireturn, 1, 26, [])]])
abbrev mX12_clears : am_M := (yX12_clears, cX12_clears, 2, none, [])
noncomputable def tX12_clears : ex_T := (mX12_clears, [1, 0, 0, 0, 12, 1559, 115, 1558, 39], [
  [(0, .iconst 0, 1, 1, []), (1, .istore_n 1, 1, 2, []), (2, .iload_n 1, 1, 3, []), (3, .bipush 62, 2, 5, []), (5, .if_icmp .ge 16, 3, 8, [21]), (8, .aload_n 0, 1, 9, []), (9, .getfield 37, 3, 12, [12, 7, 2, 1567]), (12, .iload_n 1, 1, 13, []), (13, .iconst 0, 1, 14, []), (14, .iastore, 1, 15, []), (15, .iinc 1 1, 3, 18, []), (18, .goto (-16), 3, 21, [2]), (21, .aload_n 0, 1, 22, []), (22, .getfield 37, 3, 25, [12, 7, 2, 1567]), (25, .bipush 54, 2, 27, []), (27, .iconst 1, 1, 28, []), (28, .iastore, 1, 29, []), (29, .aload_n 0, 1, 30, []), (30, .getfield 37, 3, 33, [12, 7, 2, 1567])],
  [(33, .bipush 55, 2, 35, []), (35, .bipush 12, 2, 37, []), (37, .iastore, 1, 38, []), (38, .aload_n 0, 1, 39, []), (39, .getfield 37, 3, 42, [12, 7, 2, 1567]), (42, .bipush 56, 2, 44, []), (44, .bipush 6, 2, 46, []), (46, .iastore, 1, 47, []), (47, .aload_n 0, 1, 48, []), (48, .getfield 37, 3, 51, [12, 7, 2, 1567]), (51, .bipush 57, 2, 53, []), (53, .bipush 6, 2, 55, []), (55, .iastore, 1, 56, []), (56, .aload_n 0, 1, 57, []), (57, .getfield 37, 3, 60, [12, 7, 2, 1567]), (60, .bipush 59, 2, 62, []), (62, .bipush 6, 2, 64, [])],
  [(64, .iastore, 1, 65, []), (65, .aload_n 0, 1, 66, []), (66, .getfield 37, 3, 69, [12, 7, 2, 1567]), (69, .bipush 60, 2, 71, []), (71, .iconst 3, 1, 72, []), (72, .iastore, 1, 73, []), (73, .aload_n 0, 1, 74, []), (74, .getfield 37, 3, 77, [12, 7, 2, 1567]), (77, .bipush 61, 2, 79, []), (79, .iconst 1, 1, 80, []), (80, .iastore, 1, 81, []), (81, .return_, 1, 82, [])]])
abbrev mX12_comes : am_M := (yX12_comes, cX12_comes, 4, none, [])
noncomputable def tX12_comes : ex_T := (mX12_comes, [1, 2, 0, 0, 12, 1830, 115, 1829, 58], [
  [(0, .aload_n 0, 1, 1, []), (1, .getfield 33, 3, 4, [12, 6, 2, 1566]), (4, .bipush 62, 2, 6, []), (6, .iconst 1, 1, 7, []), (7, .iastore, 1, 8, []), (8, .aload_n 0, 1, 9, []), (9, .getfield 33, 3, 12, [12, 6, 2, 1566]), (12, .bipush 63, 2, 14, []), (14, .iload_n 1, 1, 15, []), (15, .iastore, 1, 16, []), (16, .aload_n 0, 1, 17, []), (17, .getfield 33, 3, 20, [12, 6, 2, 1566]), (20, .bipush 75, 2, 22, []), (22, .iload_n 2, 1, 23, []), (23, .iastore, 1, 24, []), (24, .aload_n 0, 1, 25, []), (25, .getfield 33, 3, 28, [12, 6, 2, 1566]), (28, .bipush 64, 2, 30, []), (30, .iconst 0, 1, 31, []), (31, .iastore, 1, 32, [])],
  [(32, .aload_n 0, 1, 33, []), (33, .getfield 33, 3, 36, [12, 6, 2, 1566]), (36, .bipush 65, 2, 38, []), (38, .iconst 0, 1, 39, []), (39, .iastore, 1, 40, []), (40, .aload_n 0, 1, 41, []), (41, .getfield 33, 3, 44, [12, 6, 2, 1566]), (44, .bipush 66, 2, 46, []), (46, .aload_n 0, 1, 47, []), (47, .getfield 33, 3, 50, [12, 6, 2, 1566]), (50, .bipush 55, 2, 52, []), (52, .iaload, 1, 53, []), (53, .iastore, 1, 54, []), (54, .aload_n 0, 1, 55, []), (55, .getfield 33, 3, 58, [12, 6, 2, 1566]), (58, .bipush 68, 2, 60, []), (60, .dup2, 1, 61, []), (61, .iaload, 1, 62, []), (62, .iconst 1, 1, 63, []), (63, .iadd, 1, 64, [])],
  [(64, .iastore, 1, 65, []), (65, .iconst 0, 1, 66, []), (66, .istore_n 3, 1, 67, []), (67, .iload_n 3, 1, 68, []), (68, .bipush 10, 2, 70, []), (70, .if_icmp .ge 19, 3, 73, [89]), (73, .aload_n 0, 1, 74, []), (74, .getfield 33, 3, 77, [12, 6, 2, 1566]), (77, .bipush 76, 2, 79, []), (79, .iload_n 3, 1, 80, []), (80, .iadd, 1, 81, []), (81, .iconst 0, 1, 82, []), (82, .iastore, 1, 83, []), (83, .iinc 3 1, 3, 86, []), (86, .goto (-19), 3, 89, [67]), (89, .return_, 1, 90, [])]])
abbrev mX12_count : am_M := (yX12_count, cX12_count, 2, some (.int), [])
noncomputable def tX12_count : ex_T := (mX12_count, [1, 1, 0, 0, 12, 2171, 115, 2169, 2170], [
  [(0, .aload_n 0, 1, 1, []), (1, .iconst 0, 1, 2, []), (2, .putfield 1, 3, 5, [12, 0, 0, 1560]), (5, .iload_n 1, 1, 6, []), (6, .lookupswitch 65 #[(0, 42), (1, 49), (2, 54), (11, 60)], 42, 48, [])],
  [(48, .aload_n 0, 1, 49, []), (49, .getfield 33, 3, 52, [12, 6, 2, 1566]), (52, .iconst 0, 1, 53, []), (53, .iaload, 1, 54, []), (54, .ireturn, 1, 55, []), (55, .aload_n 0, 1, 56, []), (56, .invokevirtual 205, 3, 59, [0, 120, 1796]), (59, .ireturn, 1, 60, []), (60, .aload_n 0, 1, 61, []), (61, .iconst 0, 1, 62, []), (62, .invokevirtual 276, 3, 65, [0, 121, 1926])],
  [(65, .ireturn, 1, 66, []), (66, .aload_n 0, 1, 67, []), (67, .getfield 7, 3, 70, [12, 2, 0, 1562]), (70, .ireturn, 1, 71, []), (71, .iload_n 1, 1, 72, []), (72, .iconst 3, 1, 73, []), (73, .bipush 10, 2, 75, []), (75, .invokestatic 134, 3, 78, [0, 90, 1746]), (78, .ifCond .eq 17, 3, 81, [95]), (81, .aload_n 0, 1, 82, []), (82, .getfield 33, 3, 85, [12, 6, 2, 1566]), (85, .bipush 54, 2, 87, []), (87, .iload_n 1, 1, 88, []), (88, .iadd, 1, 89, []), (89, .iconst 3, 1, 90, []), (90, .isub, 1, 91, []), (91, .iaload, 1, 92, []), (92, .goto 4, 3, 95, [96]), (95, .iconst (-1), 1, 96, [])],
  [(96, .ireturn, 1, 97, [])]])
abbrev mX12_curve : am_M := (yX12_curve, cX12_curve, 5, some (.int), [])
noncomputable def tX12_curve : ex_T := (mX12_curve, [1, 2, 0, 0, 12, 2022, 115, 2020, 2021], [
  [(0, .aload_n 0, 1, 1, []), (1, .iload_n 1, 1, 2, []), (2, .iconst 1, 1, 3, []), (3, .aload_n 0, 1, 4, []), (4, .getfield 33, 3, 7, [12, 6, 2, 1566]), (7, .iconst 0, 1, 8, []), (8, .iaload, 1, 9, []), (9, .invokestatic 134, 3, 12, [0, 90, 1746]), (12, .ifCond .eq 12, 3, 15, [24]), (24, .iconst 1, 1, 25, []), (25, .goto 4, 3, 28, [29]), (29, .invokevirtual 217, 3, 32, [0, 126, 1788])],
  [(32, .ifCond .eq 5, 3, 35, [37]), (35, .iconst 0, 1, 36, []), (36, .ireturn, 1, 37, [])]])
abbrev mX12_drawn : am_M := (yX12_drawn, cX12_drawn, 3, some (.int), [])
noncomputable def tX12_drawn : ex_T := (mX12_drawn, [1, 2, 0, 0, 12, 2070, 115, 2068, 2069], [
  [(0, .aload_n 0, 1, 1, []), (1, .iconst 0, 1, 2, []), (2, .putfield 1, 3, 5, [12, 0, 0, 1560]), (5, .iload_n 1, 1, 6, []), (6, .iconst 1, 1, 7, []), (7, .bipush 60, 2, 9, []), (9, .invokestatic 134, 3, 12, [0, 90, 1746]), (12, .ifCond .eq 12, 3, 15, [24]), (15, .aload_n 0, 1, 16, []), (16, .getfield 33, 3, 19, [12, 6, 2, 1566]), (19, .iconst 0, 1, 20, []), (20, .iaload, 1, 21, []), (21, .ifCond .ne 5, 3, 24, [26]), (24, .iconst (-1), 1, 25, []), (25, .ireturn, 1, 26, [])]])
abbrev mX12_earns : am_M := (yX12_earns, cX12_earns, 4, some (.int), [])
noncomputable def tX12_earns : ex_T := (mX12_earns, [1, 3, 0, 0, 12, 2018, 115, 2016, 2017], [
  [(0, .aload_n 0, 1, 1, []), (1, .iload_n 1, 1, 2, []), (2, .iconst 1, 1, 3, []), (3, .aload_n 0, 1, 4, []), (4, .getfield 33, 3, 7, [12, 6, 2, 1566]), (7, .iconst 0, 1, 8, []), (8, .iaload, 1, 9, []), (9, .invokestatic 134, 3, 12, [0, 90, 1746]), (12, .ifCond .eq 23, 3, 15, [35])],
  [(35, .iconst 1, 1, 36, []), (36, .goto 4, 3, 39, [40]), (40, .invokevirtual 217, 3, 43, [0, 126, 1788]), (43, .ifCond .eq 5, 3, 46, [48]), (46, .iconst 0, 1, 47, []), (47, .ireturn, 1, 48, [])]])
abbrev mX12_end : am_M := (yX12_end, cX12_end, 2, some (.boolean), [])
noncomputable def tX12_end : ex_T := (mX12_end, [1, 1, 0, 0, 12, 1550, 115, 1548, 1549], [
  [(0, .aload_n 0, 1, 1, []), (1, .iconst 0, 1, 2, []), (2, .putfield 1, 3, 5, [12, 0, 0, 1560]), (5, .iload_n 1, 1, 6, []), (6, .ifCond .lt 11, 3, 9, [17]), (9, .iload_n 1, 1, 10, []), (10, .aload_n 0, 1, 11, []), (11, .getfield 7, 3, 14, [12, 2, 0, 1562]), (14, .if_icmp .le 5, 3, 17, [19]), (17, .iconst 0, 1, 18, []), (18, .ireturn, 1, 19, []), (19, .aload_n 0, 1, 20, []), (20, .iload_n 1, 1, 21, []), (21, .putfield 7, 3, 24, [12, 2, 0, 1562]), (24, .iconst 1, 1, 25, []), (25, .ireturn, 1, 26, [])]])
abbrev mX12_fault : am_M := (yX12_fault, cX12_fault, 1, some (.int), [])
noncomputable def tX12_fault : ex_T := (mX12_fault, [1, 0, 0, 0, 12, 1779, 115, 1777, 1778], [
  [(0, .aload_n 0, 1, 1, []), (1, .iconst 0, 1, 2, []), (2, .putfield 1, 3, 5, [12, 0, 0, 1560]), (5, .aload_n 0, 1, 6, []), (6, .getfield 119, 3, 9, [12, 13, 0, 1573]), (9, .ireturn, 1, 10, [])]])
abbrev mX12_feed : am_M := (yX12_feed, cX12_feed, 6, some (.int), [])
noncomputable def tX12_feed : ex_T := (mX12_feed, [1, 5, 0, 0, 12, 1541, 115, 1539, 1540], [
  [(0, .aload_n 0, 1, 1, []), (1, .iconst 0, 1, 2, []), (2, .putfield 1, 3, 5, [12, 0, 0, 1560]), (5, .aload_n 0, 1, 6, []), (6, .getfield 7, 3, 9, [12, 2, 0, 1562]), (9, .bipush 20, 2, 11, []), (11, .iadd, 1, 12, []), (12, .sipush 940, 3, 15, []), (15, .if_icmp .le 5, 3, 18, [20]), (20, .aload_n 0, 1, 21, []), (21, .iload_n 1, 1, 22, []), (22, .invokevirtual 10, 3, 25, [0, 82, 1542]), (25, .aload_n 0, 1, 26, []), (26, .iload_n 2, 1, 27, []), (27, .invokevirtual 10, 3, 30, [0, 82, 1542]), (30, .aload_n 0, 1, 31, []), (31, .iload_n 3, 1, 32, [])],
  [(32, .invokevirtual 10, 3, 35, [0, 82, 1542]), (35, .aload_n 0, 1, 36, []), (36, .iload 4, 2, 38, []), (38, .invokevirtual 10, 3, 41, [0, 82, 1542]), (41, .aload_n 0, 1, 42, []), (42, .iload 5, 2, 44, []), (44, .invokevirtual 10, 3, 47, [0, 82, 1542]), (47, .aload_n 0, 1, 48, []), (48, .getfield 7, 3, 51, [12, 2, 0, 1562]), (51, .ireturn, 1, 52, [])]])
abbrev mX12_four : am_M := (yX12_four, cX12_four, 3, none, [])
noncomputable def tX12_four : ex_T := (mX12_four, [1, 1, 0, 0, 12, 1546, 115, 1544, 38], [
  [(0, .bipush 24, 2, 2, []), (2, .istore_n 2, 1, 3, []), (3, .iload_n 2, 1, 4, []), (4, .ifCond .lt 32, 3, 7, [36]), (7, .aload_n 0, 1, 8, []), (8, .getfield 14, 3, 11, [12, 1, 2, 1561]), (11, .aload_n 0, 1, 12, []), (12, .getfield 7, 3, 15, [12, 2, 0, 1562]), (15, .iload_n 1, 1, 16, []), (16, .iload_n 2, 1, 17, []), (17, .ishr, 1, 18, []), (18, .i2b, 1, 19, []), (19, .bastore, 1, 20, []), (20, .aload_n 0, 1, 21, []), (21, .dup, 1, 22, []), (22, .getfield 7, 3, 25, [12, 2, 0, 1562]), (25, .iconst 1, 1, 26, []), (26, .iadd, 1, 27, []), (27, .putfield 7, 3, 30, [12, 2, 0, 1562]), (30, .iinc 2 (-8), 3, 33, [])],
  [(33, .goto (-30), 3, 36, [3]), (36, .return_, 1, 37, [])]])
abbrev mX12_gain : am_M := (yX12_gain, cX12_gain, 5, some (.int), [])
noncomputable def tX12_gain : ex_T := (mX12_gain, [1, 4, 0, 0, 12, 1921, 115, 1919, 1920], [
  [(0, .aload_n 0, 1, 1, []), (1, .aload_n 0, 1, 2, []), (2, .iload_n 1, 1, 3, []), (3, .invokevirtual 214, 3, 6, [0, 93, 1784]), (6, .ifCond .eq 32, 3, 9, [38])],
  [(38, .iconst 1, 1, 39, []), (39, .goto 4, 3, 42, [43]), (43, .invokevirtual 217, 3, 46, [0, 126, 1788]), (46, .ifCond .eq 5, 3, 49, [51]), (49, .iconst 0, 1, 50, []), (50, .ireturn, 1, 51, [])]])
abbrev mX12_greater : am_M := (yX12_greater, cX12_greater, 2, some (.int), [])
noncomputable def tX12_greater : ex_T := (mX12_greater, [0, 2, 0, 0, 12, 1802, 115, 1801, 0], [
  [(0, .iload_n 0, 1, 1, []), (1, .iload_n 1, 1, 2, []), (2, .if_icmp .le 7, 3, 5, [9]), (5, .iload_n 0, 1, 6, []), (6, .goto 4, 3, 9, [10]), (10, .ireturn, 1, 11, [])]])
abbrev mX12_heard : am_M := (yX12_heard, cX12_heard, 1, some (.int), [])
noncomputable def tX12_heard : ex_T := (mX12_heard, [1, 0, 0, 0, 12, 1906, 115, 1904, 1905], [
  [(0, .aload_n 0, 1, 1, []), (1, .iconst 0, 1, 2, []), (2, .putfield 1, 3, 5, [12, 0, 0, 1560]), (5, .aload_n 0, 1, 6, []), (6, .invokevirtual 221, 3, 9, [0, 92, 1815]), (9, .ifCond .ne 7, 3, 12, [16]), (12, .iconst (-1), 1, 13, []), (13, .goto 22, 3, 16, [35])],
  [(35, .ireturn, 1, 36, [])]])
abbrev mX12_hears : am_M := (yX12_hears, cX12_hears, 2, some (.boolean), [])
noncomputable def tX12_hears : ex_T := (mX12_hears, [1, 1, 0, 0, 12, 1910, 115, 1909, 70], [
  [(0, .aload_n 0, 1, 1, []), (1, .getfield 33, 3, 4, [12, 6, 2, 1566]), (4, .bipush 58, 2, 6, []), (6, .iaload, 1, 7, []), (7, .ifCond .le 26, 3, 10, [33])],
  [(33, .iconst 0, 1, 34, []), (34, .ireturn, 1, 35, [])]])
abbrev mX12_idle : am_M := (yX12_idle, cX12_idle, 4, some (.int), [])
noncomputable def tX12_idle : ex_T := (mX12_idle, [1, 0, 0, 0, 12, 2066, 115, 2064, 2065], [
  [(0, .aload_n 0, 1, 1, []), (1, .iconst 0, 1, 2, []), (2, .putfield 1, 3, 5, [12, 0, 0, 1560]), (5, .bipush 60, 2, 7, []), (7, .istore_n 1, 1, 8, []), (8, .iconst 1, 1, 9, []), (9, .istore_n 2, 1, 10, []), (10, .iload_n 1, 1, 11, []), (11, .ifCond .le 56, 3, 14, [67]), (14, .iload_n 2, 1, 15, []), (15, .ifCond .eq 52, 3, 18, [67]), (18, .iconst 0, 1, 19, []), (19, .istore_n 3, 1, 20, []), (20, .iload_n 3, 1, 21, []), (21, .aload_n 0, 1, 22, []), (22, .getfield 33, 3, 25, [12, 6, 2, 1566]), (25, .iconst 0, 1, 26, []), (26, .iaload, 1, 27, []), (27, .if_icmp .ge 30, 3, 30, [57])],
  [(57, .iload_n 2, 1, 58, []), (58, .ifCond .eq (-48), 3, 61, [10]), (61, .iinc 1 (-1), 3, 64, [])],
  [(64, .goto (-54), 3, 67, [10]), (67, .iload_n 1, 1, 68, []), (68, .ireturn, 1, 69, [])]])
abbrev mX12_image : am_M := (yX12_image, cX12_image, 3, some (.boolean), [])
noncomputable def tX12_image : ex_T := (mX12_image, [1, 1, 0, 0, 12, 2163, 115, 2161, 2162], [
  [(0, .aload_n 0, 1, 1, []), (1, .iconst 0, 1, 2, []), (2, .putfield 1, 3, 5, [12, 0, 0, 1560]), (5, .iload_n 1, 1, 6, []), (6, .iconst 0, 1, 7, []), (7, .iconst 1, 1, 8, []), (8, .invokestatic 134, 3, 11, [0, 90, 1746]), (11, .ifCond .ne 5, 3, 14, [16]), (14, .iconst 0, 1, 15, []), (15, .ireturn, 1, 16, []), (16, .iconst 0, 1, 17, []), (17, .istore_n 2, 1, 18, []), (18, .iload_n 2, 1, 19, []), (19, .sipush 277, 3, 22, []), (22, .if_icmp .ge 27, 3, 25, [49]), (25, .aload_n 0, 1, 26, []), (26, .getfield 83, 3, 29, [12, 45, 2, 1605]), (29, .sipush 277, 3, 32, [])],
  [(32, .iload_n 1, 1, 33, []), (33, .imul, 1, 34, []), (34, .iload_n 2, 1, 35, []), (35, .iadd, 1, 36, []), (36, .aload_n 0, 1, 37, []), (37, .getfield 33, 3, 40, [12, 6, 2, 1566]), (40, .iload_n 2, 1, 41, []), (41, .iaload, 1, 42, []), (42, .iastore, 1, 43, []), (43, .iinc 2 1, 3, 46, []), (46, .goto (-28), 3, 49, [18]), (49, .aload_n 0, 1, 50, []), (50, .getfield 86, 3, 53, [12, 46, 2, 1606]), (53, .iload_n 1, 1, 54, []), (54, .iconst 1, 1, 55, []), (55, .bastore, 1, 56, []), (56, .iconst 1, 1, 57, []), (57, .ireturn, 1, 58, [])]])
abbrev mX12_init : am_M := (yX12_init, cX12_init, 2, none, [])
noncomputable def bX12_init_0 : List ex_E := [(0, .aload_n 0, 1, 1, []), (1, .invokespecial 27, 3, 4, [1, 1555]), (4, .aload_n 0, 1, 5, []), (5, .sipush 940, 3, 8, []), (8, .newarray .byte, 2, 10, []), (10, .putfield 14, 3, 13, [12, 1, 2, 1561]), (13, .aload_n 0, 1, 14, []), (14, .sipush 277, 3, 17, []), (17, .newarray .int, 2, 19, []), (19, .putfield 33, 3, 22, [12, 6, 2, 1566]), (22, .aload_n 0, 1, 23, []), (23, .bipush 62, 2, 25, []), (25, .newarray .int, 2, 27, []), (27, .putfield 37, 3, 30, [12, 7, 2, 1567]), (30, .aload_n 0, 1, 31, []), (31, .sipush 135, 3, 34, [])]
noncomputable def bX12_init_1 : List ex_E := [(34, .newarray .int, 2, 36, []), (36, .putfield 40, 3, 39, [12, 8, 2, 1568]), (39, .aload_n 0, 1, 40, []), (40, .sipush 272, 3, 43, []), (43, .newarray .int, 2, 45, []), (45, .putfield 43, 3, 48, [12, 19, 2, 1579]), (48, .aload_n 0, 1, 49, []), (49, .bipush 34, 2, 51, []), (51, .newarray .int, 2, 53, []), (53, .putfield 46, 3, 56, [12, 20, 2, 1580]), (56, .aload_n 0, 1, 57, []), (57, .sipush 15500, 3, 60, []), (60, .newarray .int, 2, 62, []), (62, .putfield 49, 3, 65, [12, 22, 2, 1582])]
noncomputable def bX12_init_2 : List ex_E := [(65, .aload_n 0, 1, 66, []), (66, .sipush 15500, 3, 69, []), (69, .newarray .int, 2, 71, []), (71, .putfield 52, 3, 74, [12, 23, 2, 1583]), (74, .aload_n 0, 1, 75, []), (75, .bipush 24, 2, 77, []), (77, .newarray .int, 2, 79, []), (79, .putfield 55, 3, 82, [12, 24, 2, 1584]), (82, .aload_n 0, 1, 83, []), (83, .bipush 24, 2, 85, []), (85, .newarray .int, 2, 87, []), (87, .putfield 58, 3, 90, [12, 25, 2, 1585]), (90, .aload_n 0, 1, 91, []), (91, .iconst 2, 1, 92, []), (92, .newarray .int, 2, 94, []), (94, .putfield 61, 3, 97, [12, 29, 2, 1589])]
noncomputable def bX12_init_3 : List ex_E := [(97, .aload_n 0, 1, 98, []), (98, .iconst 2, 1, 99, []), (99, .newarray .int, 2, 101, []), (101, .putfield 64, 3, 104, [12, 30, 2, 1590]), (104, .aload_n 0, 1, 105, []), (105, .iconst 2, 1, 106, []), (106, .newarray .int, 2, 108, []), (108, .putfield 67, 3, 111, [12, 31, 2, 1591]), (111, .aload_n 0, 1, 112, []), (112, .iconst 2, 1, 113, []), (113, .newarray .int, 2, 115, []), (115, .putfield 70, 3, 118, [12, 32, 2, 1592]), (118, .aload_n 0, 1, 119, []), (119, .iconst 4, 1, 120, []), (120, .newarray .int, 2, 122, []), (122, .putfield 73, 3, 125, [12, 36, 2, 1596]), (125, .aload_n 0, 1, 126, []), (126, .bipush 45, 2, 128, [])]
noncomputable def bX12_init_4 : List ex_E := [(128, .newarray .int, 2, 130, []), (130, .putfield 76, 3, 133, [12, 38, 2, 1598]), (133, .aload_n 0, 1, 134, []), (134, .bipush 45, 2, 136, []), (136, .newarray .boolean, 2, 138, []), (138, .putfield 79, 3, 141, [12, 44, 2, 1604]), (141, .aload_n 0, 1, 142, []), (142, .sipush 554, 3, 145, []), (145, .newarray .int, 2, 147, []), (147, .putfield 83, 3, 150, [12, 45, 2, 1605]), (150, .aload_n 0, 1, 151, []), (151, .iconst 2, 1, 152, []), (152, .newarray .boolean, 2, 154, []), (154, .putfield 86, 3, 157, [12, 46, 2, 1606]), (157, .aload_n 0, 1, 158, []), (158, .invokevirtual 89, 3, 161, [0, 73, 1556])]
noncomputable def bX12_init_5 : List ex_E := [(161, .iconst 0, 1, 162, []), (162, .istore_n 1, 1, 163, []), (163, .iload_n 1, 1, 164, []), (164, .bipush 62, 2, 166, []), (166, .if_icmp .ge 21, 3, 169, [187]), (169, .aload_n 0, 1, 170, []), (170, .getfield 33, 3, 173, [12, 6, 2, 1566]), (173, .iload_n 1, 1, 174, []), (174, .aload_n 0, 1, 175, []), (175, .getfield 37, 3, 178, [12, 7, 2, 1567]), (178, .iload_n 1, 1, 179, []), (179, .iaload, 1, 180, []), (180, .iastore, 1, 181, []), (181, .iinc 1 1, 3, 184, []), (184, .goto (-21), 3, 187, [163]), (187, .return_, 1, 188, [])]
noncomputable def tX12_init : ex_T := (mX12_init, [2, 0, 19, 33426, 12, 1554, 115, 1553, 0], [bX12_init_0, bX12_init_1, bX12_init_2, bX12_init_3, bX12_init_4, bX12_init_5])
abbrev mX12_isIn : am_M := (yX12_isIn, cX12_isIn, 3, some (.boolean), [])
noncomputable def tX12_isIn : ex_T := (mX12_isIn, [0, 3, 0, 0, 12, 1748, 115, 1747, 0], [
  [(0, .iload_n 0, 1, 1, []), (1, .iload_n 1, 1, 2, []), (2, .if_icmp .lt 12, 3, 5, [14]), (5, .iload_n 0, 1, 6, []), (6, .iload_n 2, 1, 7, []), (7, .if_icmp .gt 7, 3, 10, [14]), (10, .iconst 1, 1, 11, []), (11, .goto 4, 3, 14, [15]), (14, .iconst 0, 1, 15, []), (15, .ireturn, 1, 16, [])]])
abbrev mX12_isSign : am_M := (yX12_isSign, cX12_isSign, 2, some (.boolean), [])
noncomputable def tX12_isSign : ex_T := (mX12_isSign, [1, 1, 0, 0, 12, 1775, 115, 1774, 50], [
  [(0, .aload_n 0, 1, 1, []), (1, .getfield 102, 3, 4, [12, 9, 0, 1569]), (4, .iconst 3, 1, 5, []), (5, .if_icmp .ne 15, 3, 8, [20]), (20, .iconst 0, 1, 21, []), (21, .ireturn, 1, 22, [])]])
abbrev mX12_isThere : am_M := (yX12_isThere, cX12_isThere, 1, some (.boolean), [])
noncomputable def tX12_isThere : ex_T := (mX12_isThere, [1, 0, 0, 0, 12, 1818, 115, 1817, 56], [
  [(0, .aload_n 0, 1, 1, []), (1, .getfield 33, 3, 4, [12, 6, 2, 1566]), (4, .bipush 62, 2, 6, []), (6, .iaload, 1, 7, []), (7, .iconst 1, 1, 8, []), (8, .if_icmp .ne 24, 3, 11, [32])],
  [(32, .iconst 0, 1, 33, []), (33, .ireturn, 1, 34, [])]])
abbrev mX12_isWindow : am_M := (yX12_isWindow, cX12_isWindow, 2, some (.boolean), [])
noncomputable def tX12_isWindow : ex_T := (mX12_isWindow, [1, 1, 0, 0, 12, 1787, 115, 1786, 51], [
  [(0, .iload_n 1, 1, 1, []), (1, .iconst 0, 1, 2, []), (2, .aload_n 0, 1, 3, []), (3, .getfield 33, 3, 6, [12, 6, 2, 1566]), (6, .iconst 0, 1, 7, []), (7, .iaload, 1, 8, []), (8, .iconst 1, 1, 9, []), (9, .isub, 1, 10, []), (10, .invokestatic 134, 3, 13, [0, 90, 1746]), (13, .ireturn, 1, 14, [])]])
abbrev mX12_isWord : am_M := (yX12_isWord, cX12_isWord, 3, some (.boolean), [])
noncomputable def tX12_isWord : ex_T := (mX12_isWord, [1, 1, 0, 0, 12, 1733, 115, 1732, 44], [
  [(0, .aload_n 0, 1, 1, []), (1, .getfield 102, 3, 4, [12, 9, 0, 1569]), (4, .iconst 1, 1, 5, []), (5, .if_icmp .ne 16, 3, 8, [21]), (21, .iconst 0, 1, 22, []), (22, .ireturn, 1, 23, [])]])
abbrev mX12_keep : am_M := (yX12_keep, cX12_keep, 2, none, [])
noncomputable def tX12_keep : ex_T := (mX12_keep, [1, 0, 0, 0, 12, 1826, 115, 1825, 57], [
  [(0, .aload_n 0, 1, 1, []), (1, .getfield 198, 3, 4, [12, 21, 0, 1581]), (4, .bipush 8, 2, 6, []), (6, .if_icmp .ne 39, 3, 9, [45])],
  [(45, .iconst 0, 1, 46, []), (46, .istore_n 1, 1, 47, []), (47, .iload_n 1, 1, 48, []), (48, .bipush 34, 2, 50, []), (50, .if_icmp .ge 32, 3, 53, [82]), (53, .aload_n 0, 1, 54, []), (54, .getfield 43, 3, 57, [12, 19, 2, 1579]), (57, .bipush 34, 2, 59, []), (59, .aload_n 0, 1, 60, []), (60, .getfield 198, 3, 63, [12, 21, 0, 1581]), (63, .imul, 1, 64, [])],
  [(64, .iload_n 1, 1, 65, []), (65, .iadd, 1, 66, []), (66, .aload_n 0, 1, 67, []), (67, .getfield 33, 3, 70, [12, 6, 2, 1566]), (70, .bipush 62, 2, 72, []), (72, .iload_n 1, 1, 73, []), (73, .iadd, 1, 74, []), (74, .iaload, 1, 75, []), (75, .iastore, 1, 76, []), (76, .iinc 1 1, 3, 79, []), (79, .goto (-32), 3, 82, [47]), (82, .aload_n 0, 1, 83, []), (83, .dup, 1, 84, []), (84, .getfield 198, 3, 87, [12, 21, 0, 1581]), (87, .iconst 1, 1, 88, []), (88, .iadd, 1, 89, []), (89, .putfield 198, 3, 92, [12, 21, 0, 1581]), (92, .return_, 1, 93, [])]])
abbrev mX12_latest : am_M := (yX12_latest, cX12_latest, 1, some (.int), [])
noncomputable def tX12_latest : ex_T := (mX12_latest, [1, 0, 0, 0, 12, 1902, 115, 1900, 1901], [
  [(0, .aload_n 0, 1, 1, []), (1, .iconst 0, 1, 2, []), (2, .putfield 1, 3, 5, [12, 0, 0, 1560]), (5, .aload_n 0, 1, 6, []), (6, .getfield 33, 3, 9, [12, 6, 2, 1566]), (9, .bipush 74, 2, 11, []), (11, .iaload, 1, 12, []), (12, .ireturn, 1, 13, [])]])
abbrev mX12_leafOf : am_M := (yX12_leafOf, cX12_leafOf, 1, some (.int), [])
noncomputable def tX12_leafOf : ex_T := (mX12_leafOf, [1, 0, 0, 0, 12, 2140, 115, 2139, 98], [
  [(0, .aload_n 0, 1, 1, []), (1, .ldc2_w 401, 3, 4, [1869636974, 2141]), (4, .invokevirtual 147, 3, 7, [0, 94, 1730]), (7, .ifCond .eq 7, 3, 10, [14]), (14, .aload_n 0, 1, 15, []), (15, .ldc2_w 403, 3, 18, [1717660018, 2142]), (18, .invokevirtual 147, 3, 21, [0, 94, 1730]), (21, .ifCond .eq 7, 3, 24, [28]), (28, .aload_n 0, 1, 29, []), (29, .ldc2_w 405, 3, 32, [418363302244, 2143])],
  [(32, .invokevirtual 147, 3, 35, [0, 94, 1730]), (35, .ifCond .eq 7, 3, 38, [42]), (42, .aload_n 0, 1, 43, []), (43, .ldc2_w 407, 3, 46, [482955846501, 2144]), (46, .invokevirtual 147, 3, 49, [0, 94, 1730]), (49, .ifCond .eq 7, 3, 52, [56]), (56, .aload_n 0, 1, 57, []), (57, .ldc2_w 409, 3, 60, [499850634611, 2145]), (60, .invokevirtual 147, 3, 63, [0, 94, 1730]), (63, .ifCond .eq 7, 3, 66, [70])],
  [(70, .aload_n 0, 1, 71, []), (71, .ldc2_w 411, 3, 74, [108230850603124, 2146]), (74, .invokevirtual 147, 3, 77, [0, 94, 1730]), (77, .ifCond .eq 7, 3, 80, [84]), (84, .aload_n 0, 1, 85, []), (85, .ldc2_w 413, 3, 88, [121450625394034, 2147]), (88, .invokevirtual 147, 3, 91, [0, 94, 1730]), (91, .ifCond .eq 8, 3, 94, [99])],
  [(99, .iconst (-1), 1, 100, []), (100, .ireturn, 1, 101, [])]])
abbrev mX12_log : am_M := (yX12_log, cX12_log, 5, some (.int), [])
noncomputable def bX12_log_0 : List ex_E := [(0, .aload_n 0, 1, 1, []), (1, .iconst 0, 1, 2, []), (2, .putfield 1, 3, 5, [12, 0, 0, 1560]), (5, .iload_n 1, 1, 6, []), (6, .iconst 0, 1, 7, []), (7, .iconst 1, 1, 8, []), (8, .invokestatic 134, 3, 11, [0, 90, 1746]), (11, .ifCond .ne 7, 3, 14, [18]), (14, .sipush (-1000), 3, 17, []), (17, .ireturn, 1, 18, []), (18, .aload_n 0, 1, 19, []), (19, .sipush 400, 3, 22, []), (22, .invokevirtual 185, 3, 25, [0, 124, 1707]), (25, .aload_n 0, 1, 26, []), (26, .iconst 0, 1, 27, []), (27, .putfield 119, 3, 30, [12, 13, 0, 1573]), (30, .aload_n 0, 1, 31, []), (31, .iconst 0, 1, 32, [])]
noncomputable def bX12_log_1 : List ex_E := [(32, .putfield 373, 3, 35, [12, 35, 0, 1595]), (35, .aload_n 0, 1, 36, []), (36, .invokevirtual 131, 3, 39, [0, 103, 1711]), (39, .aload_n 0, 1, 40, []), (40, .getfield 102, 3, 43, [12, 9, 0, 1569]), (43, .ifCond .eq 40, 3, 46, [83])]
noncomputable def bX12_log_2 : List ex_E := [(83, .iconst 0, 1, 84, []), (84, .istore_n 2, 1, 85, []), (85, .iload_n 2, 1, 86, []), (86, .bipush 34, 2, 88, []), (88, .if_icmp .ge 24, 3, 91, [112]), (91, .aload_n 0, 1, 92, []), (92, .getfield 46, 3, 95, [12, 20, 2, 1580]), (95, .iload_n 2, 1, 96, [])]
noncomputable def bX12_log_3 : List ex_E := [(96, .aload_n 0, 1, 97, []), (97, .getfield 33, 3, 100, [12, 6, 2, 1566]), (100, .bipush 62, 2, 102, []), (102, .iload_n 2, 1, 103, []), (103, .iadd, 1, 104, []), (104, .iaload, 1, 105, []), (105, .iastore, 1, 106, []), (106, .iinc 2 1, 3, 109, []), (109, .goto (-24), 3, 112, [85]), (112, .iconst 0, 1, 113, []), (113, .istore_n 2, 1, 114, []), (114, .iload_n 2, 1, 115, []), (115, .iconst 4, 1, 116, []), (116, .if_icmp .ge 16, 3, 119, [132]), (119, .aload_n 0, 1, 120, []), (120, .getfield 73, 3, 123, [12, 36, 2, 1596]), (123, .iload_n 2, 1, 124, []), (124, .iconst 0, 1, 125, []), (125, .iastore, 1, 126, []), (126, .iinc 2 1, 3, 129, [])]
noncomputable def bX12_log_4 : List ex_E := [(129, .goto (-15), 3, 132, [114]), (132, .aload_n 0, 1, 133, []), (133, .getfield 33, 3, 136, [12, 6, 2, 1566]), (136, .bipush 67, 2, 138, []), (138, .iaload, 1, 139, []), (139, .istore_n 2, 1, 140, []), (140, .iconst (-1), 1, 141, []), (141, .istore_n 3, 1, 142, []), (142, .iconst 0, 1, 143, []), (143, .istore 4, 2, 145, []), (145, .iload 4, 2, 147, []), (147, .aload_n 0, 1, 148, []), (148, .getfield 373, 3, 151, [12, 35, 0, 1595]), (151, .if_icmp .ge 68, 3, 154, [219])]
noncomputable def bX12_log_6 : List ex_E := [(219, .aload_n 0, 1, 220, []), (220, .getfield 73, 3, 223, [12, 36, 2, 1596]), (223, .iconst 2, 1, 224, [])]
noncomputable def bX12_log_7 : List ex_E := [(224, .aload_n 0, 1, 225, []), (225, .getfield 33, 3, 228, [12, 6, 2, 1566]), (228, .bipush 67, 2, 230, []), (230, .iaload, 1, 231, []), (231, .iload_n 2, 1, 232, []), (232, .isub, 1, 233, []), (233, .iastore, 1, 234, []), (234, .aload_n 0, 1, 235, []), (235, .getfield 73, 3, 238, [12, 36, 2, 1596]), (238, .iconst 3, 1, 239, []), (239, .aload_n 0, 1, 240, []), (240, .getfield 33, 3, 243, [12, 6, 2, 1566]), (243, .bipush 66, 2, 245, []), (245, .iaload, 1, 246, []), (246, .iastore, 1, 247, []), (247, .aload_n 0, 1, 248, []), (248, .iconst 1, 1, 249, []), (249, .putfield 385, 3, 252, [12, 37, 3, 1597]), (252, .iload_n 1, 1, 253, []), (253, .iconst 1, 1, 254, []), (254, .if_icmp .ne 56, 3, 257, [310])]
noncomputable def bX12_log_8 : List ex_E := [(257, .aload_n 0, 1, 258, []), (258, .getfield 73, 3, 261, [12, 36, 2, 1596]), (261, .iconst 1, 1, 262, []), (262, .iaload, 1, 263, []), (263, .ifCond .le 47, 3, 266, [310])]
noncomputable def bX12_log_9 : List ex_E := [(310, .iload_n 1, 1, 311, []), (311, .ifCond .ne 36, 3, 314, [347]), (314, .iconst 0, 1, 315, []), (315, .istore 4, 2, 317, []), (317, .iload 4, 2, 319, []), (319, .bipush 34, 2, 321, [])]
noncomputable def bX12_log_10 : List ex_E := [(321, .if_icmp .ge 26, 3, 324, [347]), (324, .aload_n 0, 1, 325, []), (325, .getfield 33, 3, 328, [12, 6, 2, 1566]), (328, .bipush 62, 2, 330, []), (330, .iload 4, 2, 332, []), (332, .iadd, 1, 333, []), (333, .aload_n 0, 1, 334, []), (334, .getfield 46, 3, 337, [12, 20, 2, 1580]), (337, .iload 4, 2, 339, []), (339, .iaload, 1, 340, []), (340, .iastore, 1, 341, []), (341, .iinc 4 1, 3, 344, []), (344, .goto (-27), 3, 347, [317]), (347, .iload_n 3, 1, 348, []), (348, .ireturn, 1, 349, [])]
noncomputable def tX12_log : ex_T := (mX12_log, [1, 1, 0, 0, 12, 2086, 115, 2084, 2085], [bX12_log_0, bX12_log_1, bX12_log_2, bX12_log_3, bX12_log_4, [], bX12_log_6, bX12_log_7, bX12_log_8, bX12_log_9, bX12_log_10])
abbrev mX12_logged : am_M := (yX12_logged, cX12_logged, 2, some (.int), [])
noncomputable def tX12_logged : ex_T := (mX12_logged, [1, 1, 0, 0, 12, 2109, 115, 2107, 2108], [
  [(0, .aload_n 0, 1, 1, []), (1, .iconst 0, 1, 2, []), (2, .putfield 1, 3, 5, [12, 0, 0, 1560]), (5, .aload_n 0, 1, 6, []), (6, .getfield 385, 3, 9, [12, 37, 0, 1597]), (9, .ifCond .eq 21, 3, 12, [30]), (30, .iconst (-1), 1, 31, []), (31, .ireturn, 1, 32, [])]])
abbrev mX12_luckiest : am_M := (yX12_luckiest, cX12_luckiest, 3, some (.int), [])
noncomputable def tX12_luckiest : ex_T := (mX12_luckiest, [1, 2, 0, 0, 12, 2082, 115, 2080, 2081], [
  [(0, .aload_n 0, 1, 1, []), (1, .iconst 0, 1, 2, []), (2, .putfield 1, 3, 5, [12, 0, 0, 1560]), (5, .iload_n 1, 1, 6, []), (6, .iconst 1, 1, 7, []), (7, .bipush 60, 2, 9, []), (9, .invokestatic 134, 3, 12, [0, 90, 1746]), (12, .ifCond .eq 12, 3, 15, [24]), (15, .aload_n 0, 1, 16, []), (16, .getfield 33, 3, 19, [12, 6, 2, 1566]), (19, .iconst 0, 1, 20, []), (20, .iaload, 1, 21, []), (21, .ifCond .ne 5, 3, 24, [26]), (24, .iconst (-1), 1, 25, []), (25, .ireturn, 1, 26, [])]])
abbrev mX12_meant : am_M := (yX12_meant, cX12_meant, 7, some (.int), [])
noncomputable def tX12_meant : ex_T := (mX12_meant, [1, 3, 0, 0, 12, 2054, 115, 2052, 2053], [
  [(0, .aload_n 0, 1, 1, []), (1, .aload_n 0, 1, 2, []), (2, .iload_n 1, 1, 3, []), (3, .invokevirtual 214, 3, 6, [0, 93, 1784]), (6, .ifCond .eq 22, 3, 9, [28]), (28, .iconst 1, 1, 29, []), (29, .goto 4, 3, 32, [33])],
  [(33, .invokevirtual 217, 3, 36, [0, 126, 1788]), (36, .ifCond .eq 5, 3, 39, [41]), (39, .iconst 0, 1, 40, []), (40, .ireturn, 1, 41, [])]])
abbrev mX12_needs : am_M := (yX12_needs, cX12_needs, 3, some (.int), [])
noncomputable def tX12_needs : ex_T := (mX12_needs, [1, 1, 0, 0, 12, 2050, 115, 2048, 2049], [
  [(0, .aload_n 0, 1, 1, []), (1, .iconst 0, 1, 2, []), (2, .putfield 1, 3, 5, [12, 0, 0, 1560]), (5, .aload_n 0, 1, 6, []), (6, .iload_n 1, 1, 7, []), (7, .invokevirtual 214, 3, 10, [0, 93, 1784]), (10, .ifCond .ne 5, 3, 13, [15]), (13, .iconst (-1), 1, 14, []), (14, .ireturn, 1, 15, [])]])
abbrev mX12_next : am_M := (yX12_next, cX12_next, 4, none, [])
noncomputable def tX12_next : ex_T := (mX12_next, [1, 0, 0, 0, 12, 1714, 115, 1713, 41], [
  [(0, .aload_n 0, 1, 1, []), (1, .invokevirtual 92, 3, 4, [0, 107, 1715]), (4, .bipush 32, 2, 6, []), (6, .if_icmp .eq 12, 3, 9, [18]), (9, .aload_n 0, 1, 10, []), (10, .invokevirtual 92, 3, 13, [0, 107, 1715]), (13, .bipush 10, 2, 15, []), (15, .if_icmp .ne 16, 3, 18, [31]), (31, .aload_n 0, 1, 32, [])],
  [(32, .aload_n 0, 1, 33, []), (33, .getfield 21, 3, 36, [12, 4, 0, 1564]), (36, .putfield 96, 3, 39, [12, 10, 0, 1570]), (39, .aload_n 0, 1, 40, []), (40, .iconst 0, 1, 41, []), (41, .putfield 99, 3, 44, [12, 11, 0, 1571]), (44, .aload_n 0, 1, 45, []), (45, .getfield 18, 3, 48, [12, 3, 0, 1563]), (48, .aload_n 0, 1, 49, []), (49, .getfield 24, 3, 52, [12, 5, 0, 1565]), (52, .if_icmp .le 28, 3, 55, [80])],
  [(80, .aload_n 0, 1, 81, []), (81, .invokevirtual 92, 3, 84, [0, 107, 1715]), (84, .istore_n 1, 1, 85, []), (85, .iload_n 1, 1, 86, []), (86, .ifCond .ge 9, 3, 89, [95]), (89, .aload_n 0, 1, 90, []), (90, .iconst 0, 1, 91, []), (91, .putfield 102, 3, 94, [12, 9, 0, 1569]), (94, .return_, 1, 95, [])]])
abbrev mX12_now : am_M := (yX12_now, cX12_now, 2, some (.int), [])
noncomputable def tX12_now : ex_T := (mX12_now, [1, 1, 0, 0, 12, 1814, 115, 1812, 1813], [
  [(0, .aload_n 0, 1, 1, []), (1, .iconst 0, 1, 2, []), (2, .putfield 1, 3, 5, [12, 0, 0, 1560]), (5, .iload_n 1, 1, 6, []), (6, .tableswitch 107 0 5 #[38, 51, 73, 83, 91, 99], 38, 44, [])],
  [(44, .aload_n 0, 1, 45, []), (45, .invokevirtual 221, 3, 48, [0, 92, 1815]), (48, .ifCond .eq 7, 3, 51, [55]), (55, .iconst 0, 1, 56, []), (56, .ireturn, 1, 57, []), (57, .aload_n 0, 1, 58, []), (58, .getfield 33, 3, 61, [12, 6, 2, 1566]), (61, .bipush 62, 2, 63, []), (63, .iaload, 1, 64, [])],
  [(64, .ifCond .ne 7, 3, 67, [71]), (67, .iconst (-1), 1, 68, []), (68, .goto 10, 3, 71, [78]), (78, .ireturn, 1, 79, []), (79, .aload_n 0, 1, 80, []), (80, .getfield 33, 3, 83, [12, 6, 2, 1566]), (83, .bipush 65, 2, 85, []), (85, .iaload, 1, 86, []), (86, .iconst 1, 1, 87, []), (87, .isub, 1, 88, []), (88, .ireturn, 1, 89, []), (89, .aload_n 0, 1, 90, []), (90, .getfield 33, 3, 93, [12, 6, 2, 1566]), (93, .bipush 66, 2, 95, []), (95, .iaload, 1, 96, [])],
  [(96, .ireturn, 1, 97, []), (97, .aload_n 0, 1, 98, []), (98, .getfield 33, 3, 101, [12, 6, 2, 1566]), (101, .bipush 67, 2, 103, []), (103, .iaload, 1, 104, []), (104, .ireturn, 1, 105, []), (105, .aload_n 0, 1, 106, []), (106, .getfield 33, 3, 109, [12, 6, 2, 1566]), (109, .bipush 68, 2, 111, []), (111, .iaload, 1, 112, []), (112, .ireturn, 1, 113, []), (113, .iload_n 1, 1, 114, []), (114, .bipush 6, 2, 116, []), (116, .bipush 10, 2, 118, []), (118, .invokestatic 134, 3, 121, [0, 90, 1746]), (121, .ifCond .eq 18, 3, 124, [139]), (124, .aload_n 0, 1, 125, []), (125, .getfield 33, 3, 128, [12, 6, 2, 1566])],
  [(128, .bipush 69, 2, 130, []), (130, .iload_n 1, 1, 131, []), (131, .iadd, 1, 132, []), (132, .bipush 6, 2, 134, []), (134, .isub, 1, 135, []), (135, .iaload, 1, 136, []), (136, .goto 4, 3, 139, [140]), (139, .iconst (-1), 1, 140, []), (140, .ireturn, 1, 141, [])]])
abbrev mX12_off : am_M := (yX12_off, cX12_off, 2, some (.int), [])
noncomputable def tX12_off : ex_T := (mX12_off, [0, 2, 0, 0, 12, 1964, 115, 1963, 0], [
  [(0, .iload_n 0, 1, 1, []), (1, .iload_n 1, 1, 2, []), (2, .if_icmp .ge 9, 3, 5, [11]), (11, .iload_n 0, 1, 12, []), (12, .iload_n 1, 1, 13, []), (13, .isub, 1, 14, []), (14, .ireturn, 1, 15, [])]])
abbrev mX12_operand : am_M := (yX12_operand, cX12_operand, 5, some (.boolean), [])
noncomputable def tX12_operand : ex_T := (mX12_operand, [1, 0, 0, 0, 12, 2135, 115, 2134, 97], [
  [(0, .aload_n 0, 1, 1, []), (1, .ldc2_w 415, 3, 4, [7237492, 2136]), (4, .invokevirtual 147, 3, 7, [0, 94, 1730]), (7, .istore_n 1, 1, 8, []), (8, .aload_n 0, 1, 9, []), (9, .bipush 40, 2, 11, []), (11, .invokevirtual 125, 3, 14, [0, 91, 1772]), (14, .istore_n 2, 1, 15, []), (15, .aload_n 0, 1, 16, []), (16, .invokevirtual 417, 3, 19, [0, 97, 2137]), (19, .istore_n 3, 1, 20, []), (20, .iload_n 1, 1, 21, []), (21, .ifCond .ne 17, 3, 24, [38]), (24, .iload_n 2, 1, 25, []), (25, .ifCond .ne 13, 3, 28, [38]), (28, .iload_n 3, 1, 29, []), (29, .ifCond .ge 9, 3, 32, [38])],
  [(32, .aload_n 0, 1, 33, []), (33, .iconst 1, 1, 34, []), (34, .invokevirtual 128, 3, 37, [0, 66, 1734]), (37, .ireturn, 1, 38, [])]])
abbrev mX12_peek : am_M := (yX12_peek, cX12_peek, 1, some (.int), [])
noncomputable def tX12_peek : ex_T := (mX12_peek, [1, 0, 0, 0, 12, 1718, 115, 1717, 42], [
  [(0, .aload_n 0, 1, 1, []), (1, .getfield 21, 3, 4, [12, 4, 0, 1564]), (4, .aload_n 0, 1, 5, []), (5, .getfield 18, 3, 8, [12, 3, 0, 1563]), (8, .if_icmp .ge 19, 3, 11, [27]), (27, .iconst (-1), 1, 28, []), (28, .ireturn, 1, 29, [])]])
abbrev mX12_plan : am_M := (yX12_plan, cX12_plan, 5, some (.int), [])
noncomputable def tX12_plan : ex_T := (mX12_plan, [1, 4, 0, 0, 12, 1949, 115, 1947, 1948], [
  [(0, .aload_n 0, 1, 1, []), (1, .aload_n 0, 1, 2, []), (2, .iload_n 1, 1, 3, []), (3, .invokevirtual 214, 3, 6, [0, 93, 1784]), (6, .ifCond .eq 32, 3, 9, [38])],
  [(38, .iconst 1, 1, 39, []), (39, .goto 4, 3, 42, [43]), (43, .invokevirtual 217, 3, 46, [0, 126, 1788]), (46, .ifCond .eq 5, 3, 49, [51]), (49, .iconst 0, 1, 50, []), (50, .ireturn, 1, 51, [])]])
abbrev mX12_race : am_M := (yX12_race, cX12_race, 10, some (.int), [])
noncomputable def tX12_race : ex_T := (mX12_race, [1, 4, 0, 0, 12, 2030, 115, 2028, 2029], [
  [(0, .aload_n 0, 1, 1, []), (1, .iconst 0, 1, 2, []), (2, .putfield 1, 3, 5, [12, 0, 0, 1560]), (5, .aload_n 0, 1, 6, []), (6, .iload_n 1, 1, 7, []), (7, .invokevirtual 214, 3, 10, [0, 93, 1784]), (10, .ifCond .eq 31, 3, 13, [41])],
  [(41, .iconst (-1), 1, 42, []), (42, .ireturn, 1, 43, [])]])
abbrev mX12_restore : am_M := (yX12_restore, cX12_restore, 3, some (.boolean), [])
noncomputable def tX12_restore : ex_T := (mX12_restore, [1, 1, 0, 0, 12, 2167, 115, 2165, 2166], [
  [(0, .aload_n 0, 1, 1, []), (1, .iconst 0, 1, 2, []), (2, .putfield 1, 3, 5, [12, 0, 0, 1560]), (5, .iload_n 1, 1, 6, []), (6, .iconst 0, 1, 7, []), (7, .iconst 1, 1, 8, []), (8, .invokestatic 134, 3, 11, [0, 90, 1746]), (11, .ifCond .eq 12, 3, 14, [23]), (14, .aload_n 0, 1, 15, []), (15, .getfield 86, 3, 18, [12, 46, 2, 1606]), (18, .iload_n 1, 1, 19, []), (19, .baload, 1, 20, []), (20, .ifCond .ne 5, 3, 23, [25]), (23, .iconst 0, 1, 24, []), (24, .ireturn, 1, 25, [])]])
abbrev mX12_rowGain : am_M := (yX12_rowGain, cX12_rowGain, 3, some (.int), [])
noncomputable def tX12_rowGain : ex_T := (mX12_rowGain, [1, 2, 0, 0, 12, 2014, 115, 2013, 85], [
  [(0, .iload_n 1, 1, 1, []), (1, .iload_n 2, 1, 2, []), (2, .if_icmp .lt 7, 3, 5, [9]), (5, .iconst 0, 1, 6, []), (6, .goto 36, 3, 9, [42])],
  [(42, .ireturn, 1, 43, [])]])
abbrev mX12_said : am_M := (yX12_said, cX12_said, 4, some (.int), [])
noncomputable def tX12_said : ex_T := (mX12_said, [1, 1, 0, 0, 12, 2151, 115, 2149, 2150], [
  [(0, .aload_n 0, 1, 1, []), (1, .iconst 0, 1, 2, []), (2, .putfield 1, 3, 5, [12, 0, 0, 1560]), (5, .aload_n 0, 1, 6, []), (6, .getfield 33, 3, 9, [12, 6, 2, 1566]), (9, .bipush 96, 2, 11, []), (11, .iaload, 1, 12, []), (12, .ifCond .eq 8, 3, 15, [20]), (20, .iconst (-1), 1, 21, []), (21, .ireturn, 1, 22, [])]])
abbrev mX12_sale : am_M := (yX12_sale, cX12_sale, 3, some (.int), [])
noncomputable def tX12_sale : ex_T := (mX12_sale, [1, 2, 0, 0, 12, 1998, 115, 1996, 1997], [
  [(0, .aload_n 0, 1, 1, []), (1, .iconst 0, 1, 2, []), (2, .putfield 1, 3, 5, [12, 0, 0, 1560]), (5, .aload_n 0, 1, 6, []), (6, .getfield 33, 3, 9, [12, 6, 2, 1566]), (9, .iconst 0, 1, 10, []), (10, .iaload, 1, 11, []), (11, .ifCond .ne 5, 3, 14, [16]), (14, .iconst (-1), 1, 15, []), (15, .ireturn, 1, 16, [])]])
abbrev mX12_secondsOf : am_M := (yX12_secondsOf, cX12_secondsOf, 2, some (.int), [])
noncomputable def tX12_secondsOf : ex_T := (mX12_secondsOf, [1, 1, 0, 0, 12, 1806, 115, 1805, 54], [
  [(0, .aload_n 0, 1, 1, []), (1, .getfield 33, 3, 4, [12, 6, 2, 1566]), (4, .iconst 1, 1, 5, []), (5, .iaload, 1, 6, []), (6, .ifCond .ne 8, 3, 9, [14]), (9, .bipush 10, 2, 11, []), (11, .goto 12, 3, 14, [23]), (23, .ireturn, 1, 24, [])]])
abbrev mX12_sell : am_M := (yX12_sell, cX12_sell, 3, some (.int), [])
noncomputable def tX12_sell : ex_T := (mX12_sell, [1, 1, 0, 0, 12, 1842, 115, 1840, 1841], [
  [(0, .aload_n 0, 1, 1, []), (1, .iconst 0, 1, 2, []), (2, .putfield 1, 3, 5, [12, 0, 0, 1560]), (5, .iload_n 1, 1, 6, []), (6, .iconst 0, 1, 7, []), (7, .iconst 1, 1, 8, []), (8, .invokestatic 134, 3, 11, [0, 90, 1746]), (11, .ifCond .ne 5, 3, 14, [16]), (14, .iconst (-1), 1, 15, []), (15, .ireturn, 1, 16, []), (16, .aload_n 0, 1, 17, []), (17, .invokevirtual 254, 3, 20, [0, 134, 1843]), (20, .istore_n 2, 1, 21, []), (21, .iload_n 2, 1, 22, []), (22, .ifCond .le 5, 3, 25, [27]), (25, .iload_n 2, 1, 26, []), (26, .ireturn, 1, 27, [])]])
abbrev mX12_sellers : am_M := (yX12_sellers, cX12_sellers, 4, some (.int), [])
noncomputable def tX12_sellers : ex_T := (mX12_sellers, [1, 0, 0, 0, 12, 2002, 115, 2000, 2001], [
  [(0, .aload_n 0, 1, 1, []), (1, .iconst 0, 1, 2, []), (2, .putfield 1, 3, 5, [12, 0, 0, 1560]), (5, .aload_n 0, 1, 6, []), (6, .getfield 33, 3, 9, [12, 6, 2, 1566]), (9, .iconst 0, 1, 10, []), (10, .iaload, 1, 11, []), (11, .ifCond .ne 5, 3, 14, [16]), (14, .iconst (-1), 1, 15, []), (15, .ireturn, 1, 16, [])]])
abbrev mX12_sentence : am_M := (yX12_sentence, cX12_sentence, 3, some (.int), [])
noncomputable def tX12_sentence : ex_T := (mX12_sentence, [1, 0, 0, 0, 12, 2113, 115, 2111, 2112], [
  [(0, .aload_n 0, 1, 1, []), (1, .iconst 0, 1, 2, []), (2, .putfield 1, 3, 5, [12, 0, 0, 1560]), (5, .aload_n 0, 1, 6, []), (6, .sipush 200, 3, 9, []), (9, .invokevirtual 185, 3, 12, [0, 124, 1707]), (12, .aload_n 0, 1, 13, []), (13, .iconst 0, 1, 14, []), (14, .putfield 119, 3, 17, [12, 13, 0, 1573]), (17, .aload_n 0, 1, 18, []), (18, .iconst 0, 1, 19, []), (19, .putfield 389, 3, 22, [12, 39, 0, 1599]), (22, .aload_n 0, 1, 23, []), (23, .iconst 0, 1, 24, []), (24, .putfield 420, 3, 27, [12, 40, 0, 1600]), (27, .aload_n 0, 1, 28, []), (28, .iconst 0, 1, 29, []), (29, .putfield 392, 3, 32, [12, 41, 0, 1601])],
  [(32, .aload_n 0, 1, 33, []), (33, .iconst 1, 1, 34, []), (34, .putfield 398, 3, 37, [12, 42, 0, 1602]), (37, .aload_n 0, 1, 38, []), (38, .iconst 0, 1, 39, []), (39, .putfield 423, 3, 42, [12, 43, 3, 1603]), (42, .aload_n 0, 1, 43, []), (43, .invokevirtual 131, 3, 46, [0, 103, 1711]), (46, .iconst 1, 1, 47, []), (47, .istore_n 1, 1, 48, []), (48, .iload_n 1, 1, 49, []), (49, .ifCond .eq 83, 3, 52, [132]), (52, .aload_n 0, 1, 53, []), (53, .getfield 423, 3, 56, [12, 43, 0, 1603]), (56, .ifCond .eq 45, 3, 59, [101])],
  [],
  [(101, .aload_n 0, 1, 102, []), (102, .getfield 423, 3, 105, [12, 43, 0, 1603]), (105, .ifCond .eq 13, 3, 108, [118]), (118, .aload_n 0, 1, 119, []), (119, .invokevirtual 439, 3, 122, [0, 106, 2132]), (122, .ifCond .ne (-74), 3, 125, [48]), (125, .iconst (-1), 1, 126, []), (126, .aload_n 0, 1, 127, []), (127, .getfield 122, 3, 130, [12, 14, 0, 1574])],
  [(130, .isub, 1, 131, []), (131, .ireturn, 1, 132, [])]])
abbrev mX12_share : am_M := (yX12_share, cX12_share, 5, some (.int), [])
noncomputable def tX12_share : ex_T := (mX12_share, [1, 2, 0, 0, 12, 2026, 115, 2024, 2025], [
  [(0, .aload_n 0, 1, 1, []), (1, .iconst 0, 1, 2, []), (2, .putfield 1, 3, 5, [12, 0, 0, 1560]), (5, .aload_n 0, 1, 6, []), (6, .iload_n 1, 1, 7, []), (7, .invokevirtual 214, 3, 10, [0, 93, 1784]), (10, .ifCond .eq 11, 3, 13, [21]), (21, .iconst (-1), 1, 22, []), (22, .ireturn, 1, 23, [])]])
abbrev mX12_stand : am_M := (yX12_stand, cX12_stand, 3, some (.int), [])
noncomputable def tX12_stand : ex_T := (mX12_stand, [1, 2, 0, 0, 12, 1795, 115, 1793, 1794], [
  [(0, .aload_n 0, 1, 1, []), (1, .iconst 0, 1, 2, []), (2, .putfield 1, 3, 5, [12, 0, 0, 1560]), (5, .iload_n 1, 1, 6, []), (6, .iconst 0, 1, 7, []), (7, .aload_n 0, 1, 8, []), (8, .invokevirtual 205, 3, 11, [0, 120, 1796]), (11, .iconst 1, 1, 12, []), (12, .isub, 1, 13, []), (13, .invokestatic 134, 3, 16, [0, 90, 1746]), (16, .ifCond .ne 5, 3, 19, [21]), (19, .iconst (-1), 1, 20, []), (20, .ireturn, 1, 21, []), (21, .iload_n 2, 1, 22, []), (22, .ifCond .ne 11, 3, 25, [33]), (25, .aload_n 0, 1, 26, []), (26, .iload_n 1, 1, 27, []), (27, .invokevirtual 208, 3, 30, [0, 114, 1803]), (30, .goto 17, 3, 33, [47])],
  [(33, .iload_n 2, 1, 34, []), (34, .iconst 1, 1, 35, []), (35, .if_icmp .ne 11, 3, 38, [46]), (38, .aload_n 0, 1, 39, []), (39, .iload_n 1, 1, 40, []), (40, .invokevirtual 211, 3, 43, [0, 133, 1807]), (43, .goto 4, 3, 46, [47]), (46, .iconst (-1), 1, 47, []), (47, .ireturn, 1, 48, [])]])
abbrev mX12_standMany : am_M := (yX12_standMany, cX12_standMany, 1, some (.int), [])
noncomputable def tX12_standMany : ex_T := (mX12_standMany, [1, 0, 0, 0, 12, 1799, 115, 1798, 53], [
  [(0, .iconst 1, 1, 1, []), (1, .aload_n 0, 1, 2, []), (2, .getfield 33, 3, 5, [12, 6, 2, 1566]), (5, .iconst 1, 1, 6, []), (6, .iaload, 1, 7, []), (7, .invokestatic 201, 3, 10, [0, 84, 1800]), (10, .ireturn, 1, 11, [])]])
abbrev mX12_standing : am_M := (yX12_standing, cX12_standing, 4, some (.int), [])
noncomputable def tX12_standing : ex_T := (mX12_standing, [1, 1, 0, 0, 12, 1929, 115, 1928, 72], [
  [(0, .iconst 0, 1, 1, []), (1, .istore_n 2, 1, 2, []), (2, .iconst 0, 1, 3, []), (3, .istore_n 3, 1, 4, []), (4, .iload_n 3, 1, 5, []), (5, .aload_n 0, 1, 6, []), (6, .invokevirtual 205, 3, 9, [0, 120, 1796]), (9, .if_icmp .ge 30, 3, 12, [39]), (12, .iload_n 2, 1, 13, []), (13, .aload_n 0, 1, 14, []), (14, .iload_n 3, 1, 15, []), (15, .invokevirtual 208, 3, 18, [0, 114, 1803]), (18, .iload_n 1, 1, 19, []), (19, .if_icmp .lt 11, 3, 22, [30]), (22, .aload_n 0, 1, 23, []), (23, .iload_n 3, 1, 24, []), (24, .invokevirtual 211, 3, 27, [0, 133, 1807]), (27, .goto 4, 3, 30, [31]), (31, .iadd, 1, 32, [])],
  [(32, .istore_n 2, 1, 33, []), (33, .iinc 3 1, 3, 36, []), (36, .goto (-32), 3, 39, [4]), (39, .iload_n 2, 1, 40, []), (40, .ireturn, 1, 41, [])]])
abbrev mX12_station : am_M := (yX12_station, cX12_station, 2, some (.int), [])
noncomputable def tX12_station : ex_T := (mX12_station, [1, 0, 0, 0, 12, 1706, 115, 1704, 1705], [
  [(0, .aload_n 0, 1, 1, []), (1, .iconst 0, 1, 2, []), (2, .putfield 1, 3, 5, [12, 0, 0, 1560]), (5, .aload_n 0, 1, 6, []), (6, .sipush 900, 3, 9, []), (9, .invokevirtual 185, 3, 12, [0, 124, 1707]), (12, .aload_n 0, 1, 13, []), (13, .iconst 0, 1, 14, []), (14, .putfield 119, 3, 17, [12, 13, 0, 1573]), (17, .aload_n 0, 1, 18, []), (18, .iconst 0, 1, 19, []), (19, .putfield 188, 3, 22, [12, 17, 0, 1577]), (22, .aload_n 0, 1, 23, []), (23, .iconst 0, 1, 24, []), (24, .putfield 175, 3, 27, [12, 18, 0, 1578]), (27, .aload_n 0, 1, 28, []), (28, .invokevirtual 89, 3, 31, [0, 73, 1556]), (31, .aload_n 0, 1, 32, [])],
  [(32, .invokevirtual 131, 3, 35, [0, 103, 1711]), (35, .aload_n 0, 1, 36, []), (36, .getfield 102, 3, 39, [12, 9, 0, 1569]), (39, .ifCond .eq 39, 3, 42, [78])],
  [(78, .iconst 0, 1, 79, []), (79, .istore_n 1, 1, 80, []), (80, .iload_n 1, 1, 81, []), (81, .sipush 277, 3, 84, []), (84, .if_icmp .ge 31, 3, 87, [115]), (87, .aload_n 0, 1, 88, []), (88, .getfield 33, 3, 91, [12, 6, 2, 1566]), (91, .iload_n 1, 1, 92, []), (92, .iload_n 1, 1, 93, []), (93, .bipush 62, 2, 95, []), (95, .if_icmp .ge 12, 3, 98, [107])],
  [(98, .aload_n 0, 1, 99, []), (99, .getfield 37, 3, 102, [12, 7, 2, 1567]), (102, .iload_n 1, 1, 103, []), (103, .iaload, 1, 104, []), (104, .goto 4, 3, 107, [108]), (107, .iconst 0, 1, 108, []), (108, .iastore, 1, 109, []), (109, .iinc 1 1, 3, 112, []), (112, .goto (-32), 3, 115, [80]), (115, .aload_n 0, 1, 116, []), (116, .iconst 0, 1, 117, []), (117, .putfield 198, 3, 120, [12, 21, 0, 1581]), (120, .aload_n 0, 1, 121, []), (121, .getfield 188, 3, 124, [12, 17, 0, 1577]), (124, .ireturn, 1, 125, [])]])
abbrev mX12_stood : am_M := (yX12_stood, cX12_stood, 3, some (.int), [])
noncomputable def tX12_stood : ex_T := (mX12_stood, [1, 0, 0, 0, 12, 2058, 115, 2056, 2057], [
  [(0, .aload_n 0, 1, 1, []), (1, .iconst 0, 1, 2, []), (2, .putfield 1, 3, 5, [12, 0, 0, 1560]), (5, .aload_n 0, 1, 6, []), (6, .sipush 940, 3, 9, []), (9, .invokevirtual 185, 3, 12, [0, 124, 1707]), (12, .aload_n 0, 1, 13, []), (13, .getfield 18, 3, 16, [12, 3, 0, 1563]), (16, .iconst 2, 1, 17, []), (17, .if_icmp .eq 5, 3, 20, [22]), (20, .iconst (-1), 1, 21, []), (21, .ireturn, 1, 22, [])]])
abbrev mX12_taken : am_M := (yX12_taken, cX12_taken, 2, none, [])
noncomputable def tX12_taken : ex_T := (mX12_taken, [1, 1, 0, 0, 12, 1710, 115, 1709, 40], [
  [(0, .aload_n 0, 1, 1, []), (1, .aload_n 0, 1, 2, []), (2, .getfield 7, 3, 5, [12, 2, 0, 1562]), (5, .putfield 18, 3, 8, [12, 3, 0, 1563]), (8, .aload_n 0, 1, 9, []), (9, .iconst 0, 1, 10, []), (10, .putfield 7, 3, 13, [12, 2, 0, 1562]), (13, .aload_n 0, 1, 14, []), (14, .iconst 0, 1, 15, []), (15, .putfield 21, 3, 18, [12, 4, 0, 1564]), (18, .aload_n 0, 1, 19, []), (19, .iload_n 1, 1, 20, []), (20, .putfield 24, 3, 23, [12, 5, 0, 1565]), (23, .return_, 1, 24, [])]])
abbrev mX12_thrown : am_M := (yX12_thrown, cX12_thrown, 1, some (.int), [])
noncomputable def tX12_thrown : ex_T := (mX12_thrown, [1, 0, 0, 0, 12, 1537, 115, 1535, 1536], [
  [(0, .aload_n 0, 1, 1, []), (1, .getfield 1, 3, 4, [12, 0, 0, 1560]), (4, .ireturn, 1, 5, [])]])
abbrev mX12_throwsIf : am_M := (yX12_throwsIf, cX12_throwsIf, 2, some (.boolean), [])
noncomputable def tX12_throwsIf : ex_T := (mX12_throwsIf, [1, 1, 0, 0, 12, 1791, 115, 1790, 52], [
  [(0, .aload_n 0, 1, 1, []), (1, .iload_n 1, 1, 2, []), (2, .ifCond .eq 7, 3, 5, [9]), (5, .iconst 1, 1, 6, []), (6, .goto 4, 3, 9, [10]), (10, .putfield 1, 3, 13, [12, 0, 0, 1560]), (13, .iload_n 1, 1, 14, []), (14, .ireturn, 1, 15, [])]])
abbrev mX12_train : am_M := (yX12_train, cX12_train, 3, some (.int), [])
noncomputable def tX12_train : ex_T := (mX12_train, [1, 2, 0, 0, 12, 1822, 115, 1820, 1821], [
  [(0, .aload_n 0, 1, 1, []), (1, .iconst 0, 1, 2, []), (2, .putfield 1, 3, 5, [12, 0, 0, 1560]), (5, .iload_n 1, 1, 6, []), (6, .iconst 0, 1, 7, []), (7, .bipush 60, 2, 9, []), (9, .invokestatic 134, 3, 12, [0, 90, 1746]), (12, .ifCond .ne 5, 3, 15, [17]), (15, .iconst (-1), 1, 16, []), (16, .ireturn, 1, 17, []), (17, .aload_n 0, 1, 18, []), (18, .invokevirtual 221, 3, 21, [0, 92, 1815]), (21, .ifCond .eq 5, 3, 24, [26]), (26, .aload_n 0, 1, 27, []), (27, .invokevirtual 244, 3, 30, [0, 95, 1823]), (30, .aload_n 0, 1, 31, []), (31, .iload_n 1, 1, 32, [])],
  [(32, .iload_n 2, 1, 33, []), (33, .invokevirtual 247, 3, 36, [0, 74, 1827]), (36, .iconst 0, 1, 37, []), (37, .ireturn, 1, 38, [])]])
abbrev mX12_trust : am_M := (yX12_trust, cX12_trust, 3, some (.int), [])
noncomputable def tX12_trust : ex_T := (mX12_trust, [1, 1, 0, 0, 12, 1945, 115, 1943, 1944], [
  [(0, .aload_n 0, 1, 1, []), (1, .iconst 0, 1, 2, []), (2, .putfield 1, 3, 5, [12, 0, 0, 1560]), (5, .aload_n 0, 1, 6, []), (6, .iload_n 1, 1, 7, []), (7, .invokevirtual 214, 3, 10, [0, 93, 1784]), (10, .ifCond .ne 5, 3, 13, [15]), (13, .iconst (-1), 1, 14, []), (14, .ireturn, 1, 15, [])]])
abbrev mX12_undo : am_M := (yX12_undo, cX12_undo, 2, some (.int), [])
noncomputable def tX12_undo : ex_T := (mX12_undo, [1, 0, 0, 0, 12, 1898, 115, 1896, 1897], [
  [(0, .aload_n 0, 1, 1, []), (1, .iconst 0, 1, 2, []), (2, .putfield 1, 3, 5, [12, 0, 0, 1560]), (5, .aload_n 0, 1, 6, []), (6, .getfield 198, 3, 9, [12, 21, 0, 1581]), (9, .ifCond .ne 5, 3, 12, [14]), (12, .iconst (-1), 1, 13, []), (13, .ireturn, 1, 14, [])]])
abbrev mX12_waits : am_M := (yX12_waits, cX12_waits, 2, some (.int), [])
noncomputable def tX12_waits : ex_T := (mX12_waits, [1, 1, 0, 0, 12, 1890, 115, 1888, 1889], [
  [(0, .aload_n 0, 1, 1, []), (1, .iconst 0, 1, 2, []), (2, .putfield 1, 3, 5, [12, 0, 0, 1560]), (5, .iload_n 1, 1, 6, []), (6, .iconst 1, 1, 7, []), (7, .bipush 60, 2, 9, []), (9, .invokestatic 134, 3, 12, [0, 90, 1746]), (12, .ifCond .ne 5, 3, 15, [17]), (15, .iconst (-1), 1, 16, []), (16, .ireturn, 1, 17, []), (17, .aload_n 0, 1, 18, []), (18, .invokevirtual 266, 3, 21, [0, 135, 1891]), (21, .ifCond .le 5, 3, 24, [26]), (24, .iconst 1, 1, 25, []), (25, .ireturn, 1, 26, [])]])
abbrev mX12_walk : am_M := (yX12_walk, cX12_walk, 3, some (.int), [])
noncomputable def tX12_walk : ex_T := (mX12_walk, [1, 1, 0, 0, 12, 1878, 115, 1876, 1877], [
  [(0, .aload_n 0, 1, 1, []), (1, .iconst 0, 1, 2, []), (2, .putfield 1, 3, 5, [12, 0, 0, 1560]), (5, .iload_n 1, 1, 6, []), (6, .iconst 0, 1, 7, []), (7, .iconst 1, 1, 8, []), (8, .invokestatic 134, 3, 11, [0, 90, 1746]), (11, .ifCond .ne 5, 3, 14, [16]), (14, .iconst (-1), 1, 15, []), (15, .ireturn, 1, 16, []), (16, .aload_n 0, 1, 17, []), (17, .iload_n 1, 1, 18, []), (18, .invokevirtual 260, 3, 21, [0, 136, 1879]), (21, .istore_n 2, 1, 22, []), (22, .iload_n 2, 1, 23, []), (23, .ifCond .le 5, 3, 26, [28]), (26, .iload_n 2, 1, 27, []), (27, .ireturn, 1, 28, [])]])
abbrev mX12_weekly : am_M := (yX12_weekly, cX12_weekly, 2, some (.int), [])
noncomputable def tX12_weekly : ex_T := (mX12_weekly, [1, 1, 0, 0, 12, 2042, 115, 2040, 2041], [
  [(0, .aload_n 0, 1, 1, []), (1, .iconst 0, 1, 2, []), (2, .putfield 1, 3, 5, [12, 0, 0, 1560]), (5, .aload_n 0, 1, 6, []), (6, .iload_n 1, 1, 7, []), (7, .invokevirtual 214, 3, 10, [0, 93, 1784]), (10, .ifCond .ne 7, 3, 13, [17]), (13, .iconst (-1), 1, 14, []), (14, .goto 23, 3, 17, [37])],
  [(37, .ireturn, 1, 38, [])]])
abbrev mX12_weightOf : am_M := (yX12_weightOf, cX12_weightOf, 2, some (.int), [])
noncomputable def tX12_weightOf : ex_T := (mX12_weightOf, [1, 1, 0, 0, 12, 1810, 115, 1809, 55], [
  [(0, .aload_n 0, 1, 1, []), (1, .getfield 33, 3, 4, [12, 6, 2, 1566]), (4, .iconst 1, 1, 5, []), (5, .iaload, 1, 6, []), (6, .ifCond .ne 7, 3, 9, [13]), (9, .iconst 1, 1, 10, []), (10, .goto 12, 3, 13, [22]), (22, .ireturn, 1, 23, [])]])
abbrev mX12_whySell : am_M := (yX12_whySell, cX12_whySell, 2, some (.int), [])
noncomputable def tX12_whySell : ex_T := (mX12_whySell, [1, 0, 0, 0, 12, 1846, 115, 1845, 60], [
  [(0, .aload_n 0, 1, 1, []), (1, .invokevirtual 225, 3, 4, [0, 71, 1847]), (4, .ifCond .ne 5, 3, 7, [9]), (7, .iconst 1, 1, 8, []), (8, .ireturn, 1, 9, [])]])
abbrev mX12_whyWait : am_M := (yX12_whyWait, cX12_whyWait, 1, some (.int), [])
noncomputable def tX12_whyWait : ex_T := (mX12_whyWait, [1, 0, 0, 0, 12, 1894, 115, 1893, 69], [
  [(0, .aload_n 0, 1, 1, []), (1, .invokevirtual 225, 3, 4, [0, 71, 1847]), (4, .ifCond .eq 7, 3, 7, [11]), (11, .iconst 1, 1, 12, []), (12, .ireturn, 1, 13, [])]])
abbrev mX12_whyWalk : am_M := (yX12_whyWalk, cX12_whyWalk, 2, some (.int), [])
noncomputable def tX12_whyWalk : ex_T := (mX12_whyWalk, [1, 1, 0, 0, 12, 1882, 115, 1881, 67], [
  [(0, .aload_n 0, 1, 1, []), (1, .invokevirtual 225, 3, 4, [0, 71, 1847]), (4, .ifCond .ne 7, 3, 7, [11]), (7, .iconst 1, 1, 8, []), (8, .goto 35, 3, 11, [43])],
  [(43, .ireturn, 1, 44, [])]])
abbrev mX12_window : am_M := (yX12_window, cX12_window, 3, some (.int), [])
noncomputable def tX12_window : ex_T := (mX12_window, [1, 2, 0, 0, 12, 1783, 115, 1781, 1782], [
  [(0, .aload_n 0, 1, 1, []), (1, .aload_n 0, 1, 2, []), (2, .iload_n 1, 1, 3, []), (3, .invokevirtual 214, 3, 6, [0, 93, 1784]), (6, .ifCond .eq 12, 3, 9, [18]), (18, .iconst 1, 1, 19, []), (19, .goto 4, 3, 22, [23]), (23, .invokevirtual 217, 3, 26, [0, 126, 1788]), (26, .ifCond .eq 5, 3, 29, [31]), (29, .iconst 0, 1, 30, []), (30, .ireturn, 1, 31, [])]])
abbrev mX12_yet : am_M := (yX12_yet, cX12_yet, 7, some (.int), [])
noncomputable def bX12_yet_0 : List ex_E := [(0, .iconst 0, 1, 1, []), (1, .istore_n 3, 1, 2, []), (2, .iconst 0, 1, 3, []), (3, .istore 4, 2, 5, []), (5, .iconst 0, 1, 6, []), (6, .istore 5, 2, 8, []), (8, .iload 5, 2, 10, []), (10, .aload_n 0, 1, 11, []), (11, .invokevirtual 205, 3, 14, [0, 120, 1796]), (14, .if_icmp .ge 90, 3, 17, [104]), (17, .aload_n 0, 1, 18, []), (18, .iload 5, 2, 20, []), (20, .invokevirtual 208, 3, 23, [0, 114, 1803]), (23, .istore 6, 2, 25, []), (25, .iload 6, 2, 27, []), (27, .aload_n 0, 1, 28, []), (28, .getfield 33, 3, 31, [12, 6, 2, 1566]), (31, .bipush 64, 2, 33, [])]
noncomputable def bX12_yet_1 : List ex_E := [(33, .iaload, 1, 34, []), (34, .if_icmp .le 64, 3, 37, [98]), (37, .aload_n 0, 1, 38, []), (38, .iload 6, 2, 40, []), (40, .invokevirtual 269, 3, 43, [0, 86, 1907]), (43, .aload_n 0, 1, 44, []), (44, .aload_n 0, 1, 45, []), (45, .getfield 33, 3, 48, [12, 6, 2, 1566]), (48, .bipush 63, 2, 50, []), (50, .iaload, 1, 51, []), (51, .invokevirtual 269, 3, 54, [0, 86, 1907]), (54, .if_icmp .eq 6, 3, 57, [60]), (60, .iload_n 3, 1, 61, []), (61, .aload_n 0, 1, 62, []), (62, .iload 5, 2, 64, [])]
noncomputable def bX12_yet_2 : List ex_E := [(64, .invokevirtual 211, 3, 67, [0, 133, 1807]), (67, .iadd, 1, 68, []), (68, .istore_n 3, 1, 69, []), (69, .iload 4, 2, 71, []), (71, .iload 6, 2, 73, []), (73, .aload_n 0, 1, 74, []), (74, .getfield 33, 3, 77, [12, 6, 2, 1566]), (77, .bipush 64, 2, 79, []), (79, .iaload, 1, 80, []), (80, .isub, 1, 81, []), (81, .iload_n 1, 1, 82, []), (82, .if_icmp .lt 12, 3, 85, [94]), (85, .aload_n 0, 1, 86, []), (86, .iload 5, 2, 88, []), (88, .invokevirtual 211, 3, 91, [0, 133, 1807]), (91, .goto 4, 3, 94, [95]), (94, .iconst 0, 1, 95, []), (95, .iadd, 1, 96, [])]
noncomputable def bX12_yet_3 : List ex_E := [(96, .istore 4, 2, 98, []), (98, .iinc 5 1, 3, 101, []), (101, .goto (-93), 3, 104, [8]), (104, .aload_n 0, 1, 105, []), (105, .aload_n 0, 1, 106, []), (106, .invokevirtual 221, 3, 109, [0, 92, 1815]), (109, .ifCond .eq 26, 3, 112, [135])]
noncomputable def bX12_yet_4 : List ex_E := [(135, .iconst 1, 1, 136, []), (136, .goto 4, 3, 139, [140]), (140, .invokevirtual 217, 3, 143, [0, 126, 1788]), (143, .ifCond .eq 5, 3, 146, [148]), (146, .iconst 0, 1, 147, []), (147, .ireturn, 1, 148, [])]
noncomputable def tX12_yet : ex_T := (mX12_yet, [1, 2, 0, 0, 12, 1914, 115, 1912, 1913], [bX12_yet_0, bX12_yet_1, bX12_yet_2, bX12_yet_3, bX12_yet_4])
abbrev mX1_init : am_M := (yX1_init, cX1_init, 1, none, [])
noncomputable def tX1_init : ex_T := (mX1_init, [2, 0, 15, 192, 1, 503, 114, 502, 0], [
  [(0, .aload_n 0, 1, 1, []), (1, .invokespecial 1, 3, 4, [1, 504]), (4, .aload_n 0, 1, 5, []), (5, .new 7, 3, 8, [0, 9, 11, 505, 190, 105]), (8, .dup, 1, 9, []), (9, .invokespecial 9, 3, 12, [0, 186, 506]), (12, .putfield 10, 3, 15, [1, 0, 2, 511]), (15, .aload_n 0, 1, 16, []), (16, .new 16, 3, 19, [0, 7, 11, 507, 255, 107]), (19, .dup, 1, 20, []), (20, .invokespecial 18, 3, 23, [0, 169, 508]), (23, .putfield 19, 3, 26, [1, 1, 2, 513]), (26, .aload_n 0, 1, 27, []), (27, .new 23, 3, 30, [0, 8, 4, 509, 327, 109]), (30, .dup, 1, 31, []), (31, .invokespecial 25, 3, 34, [0, 177, 510])],
  [(34, .putfield 26, 3, 37, [1, 2, 2, 515]), (37, .return_, 1, 38, [])]])
abbrev mX1_keep : am_M := (yX1_keep, cX1_keep, 4, none, [])
noncomputable def tX1_keep : ex_T := (mX1_keep, [1, 3, 0, 0, 1, 1370, 114, 1368, 1369], [
  [(0, .aload_n 0, 1, 1, []), (1, .getfield 10, 3, 4, [1, 0, 2, 511]), (4, .aload_n 1, 1, 5, []), (5, .invokevirtual 30, 3, 8, [0, 184, 1371]), (8, .aload_n 0, 1, 9, []), (9, .getfield 19, 3, 12, [1, 1, 2, 513]), (12, .aload_n 2, 1, 13, []), (13, .invokevirtual 34, 3, 16, [0, 168, 1372]), (16, .aload_n 0, 1, 17, []), (17, .getfield 26, 3, 20, [1, 2, 2, 515]), (20, .aload_n 3, 1, 21, []), (21, .invokevirtual 37, 3, 24, [0, 176, 1373]), (24, .aload_n 0, 1, 25, []), (25, .iconst 1, 1, 26, []), (26, .putfield 40, 3, 29, [1, 3, 3, 517]), (29, .return_, 1, 30, [])]])
abbrev mX2_init : am_M := (yX2_init, cX2_init, 1, none, [])
noncomputable def tX2_init : ex_T := (mX2_init, [2, 0, 2, 80, 2, 467, 113, 466, 0], [
  [(0, .aload_n 0, 1, 1, []), (1, .invokespecial 3, 3, 4, [1, 468]), (4, .aload_n 0, 1, 5, []), (5, .bipush 40, 2, 7, []), (7, .newarray .int, 2, 9, []), (9, .putfield 11, 3, 12, [2, 0, 2, 469]), (12, .aload_n 0, 1, 13, []), (13, .bipush 40, 2, 15, []), (15, .newarray .int, 2, 17, []), (17, .putfield 15, 3, 20, [2, 1, 2, 470]), (20, .return_, 1, 21, [])]])
abbrev mX2_judge : am_M := (yX2_judge, cX2_judge, 5, none, [])
noncomputable def tX2_judge : ex_T := (mX2_judge, [1, 2, 0, 0, 2, 1263, 113, 1261, 1262], [
  [(0, .aload_n 1, 1, 1, []), (1, .getfield 64, 3, 4, [7, 7, 0, 276]), (4, .istore_n 3, 1, 5, []), (5, .aload_n 0, 1, 6, []), (6, .iconst 1, 1, 7, []), (7, .putfield 69, 3, 10, [2, 3, 3, 472]), (10, .aload_n 0, 1, 11, []), (11, .iconst 0, 1, 12, []), (12, .putfield 73, 3, 15, [2, 4, 0, 474]), (15, .aload_n 0, 1, 16, []), (16, .iconst 0, 1, 17, []), (17, .putfield 76, 3, 20, [2, 5, 0, 476]), (20, .iconst 0, 1, 21, []), (21, .istore 4, 2, 23, []), (23, .iload 4, 2, 25, []), (25, .aload_n 0, 1, 26, []), (26, .getfield 18, 3, 29, [2, 2, 0, 471]), (29, .if_icmp .ge 60, 3, 32, [89])],
  [],
  [(89, .aload_n 0, 1, 90, []), (90, .aload_n 1, 1, 91, []), (91, .getfield 64, 3, 94, [7, 7, 0, 276]), (94, .iload_n 3, 1, 95, []), (95, .isub, 1, 96, [])],
  [(96, .putfield 87, 3, 99, [2, 6, 0, 478]), (99, .aload_n 0, 1, 100, []), (100, .aload_n 1, 1, 101, []), (101, .getfield 88, 3, 104, [7, 6, 0, 273]), (104, .putfield 91, 3, 107, [2, 7, 0, 480]), (107, .return_, 1, 108, [])]])
abbrev mX2_readFrom : am_M := (yX2_readFrom, cX2_readFrom, 3, some (.boolean), [])
noncomputable def tX2_readFrom : ex_T := (mX2_readFrom, [1, 1, 0, 0, 2, 1243, 113, 1241, 1242], [
  [(0, .aload_n 0, 1, 1, []), (1, .iconst 0, 1, 2, []), (2, .putfield 18, 3, 5, [2, 2, 0, 471]), (5, .iconst 0, 1, 6, []), (6, .istore_n 2, 1, 7, []), (7, .iload_n 2, 1, 8, []), (8, .bipush 40, 2, 10, []), (10, .if_icmp .gt 45, 3, 13, [55]), (13, .aload_n 1, 1, 14, []), (14, .invokevirtual 22, 3, 17, [0, 158, 1244]), (17, .ifCond .eq 38, 3, 20, [55])],
  [(55, .iconst 1, 1, 56, []), (56, .ireturn, 1, 57, [])]])
abbrev mX3_add : am_M := (yX3_add, cX3_add, 2, none, [])
noncomputable def tX3_add : ex_T := (mX3_add, [1, 1, 0, 0, 3, 815, 108, 813, 814], [
  [(0, .aload_n 0, 1, 1, []), (1, .getfield 20, 3, 4, [3, 2, 0, 317]), (4, .bipush 8, 2, 6, []), (6, .if_icmp .lt 22, 3, 9, [28]), (28, .aload_n 0, 1, 29, []), (29, .aload_n 0, 1, 30, []), (30, .getfield 16, 3, 33, [3, 1, 0, 316])],
  [(33, .aload_n 0, 1, 34, []), (34, .getfield 20, 3, 37, [3, 2, 0, 317]), (37, .iadd, 1, 38, []), (38, .bipush 8, 2, 40, []), (40, .irem, 1, 41, []), (41, .aload_n 1, 1, 42, []), (42, .invokevirtual 23, 3, 45, [0, 147, 816]), (45, .aload_n 1, 1, 46, []), (46, .invokevirtual 27, 3, 49, [0, 168, 820]), (49, .aload_n 0, 1, 50, []), (50, .dup, 1, 51, []), (51, .getfield 20, 3, 54, [3, 2, 0, 317]), (54, .iconst 1, 1, 55, []), (55, .iadd, 1, 56, []), (56, .putfield 20, 3, 59, [3, 2, 0, 317]), (59, .return_, 1, 60, [])]])
abbrev mX3_clear : am_M := (yX3_clear, cX3_clear, 1, none, [])
noncomputable def tX3_clear : ex_T := (mX3_clear, [1, 0, 0, 0, 3, 755, 108, 753, 754], [
  [(0, .aload_n 0, 1, 1, []), (1, .iconst 0, 1, 2, []), (2, .putfield 16, 3, 5, [3, 1, 0, 316]), (5, .aload_n 0, 1, 6, []), (6, .iconst 0, 1, 7, []), (7, .putfield 20, 3, 10, [3, 2, 0, 317]), (10, .return_, 1, 11, [])]])
abbrev mX3_init : am_M := (yX3_init, cX3_init, 2, none, [])
noncomputable def tX3_init : ex_T := (mX3_init, [2, 0, 33, 304, 3, 310, 108, 309, 0], [
  [(0, .aload_n 0, 1, 1, []), (1, .invokespecial 1, 3, 4, [1, 311]), (4, .aload_n 0, 1, 5, []), (5, .bipush 8, 2, 7, []), (7, .anewarray 9, 3, 10, [312]), (10, .putfield 11, 3, 13, [3, 0, 2, 315]), (13, .iconst 0, 1, 14, []), (14, .istore_n 1, 1, 15, []), (15, .iload_n 1, 1, 16, []), (16, .aload_n 0, 1, 17, []), (17, .getfield 11, 3, 20, [3, 0, 2, 315]), (20, .arraylength, 1, 21, []), (21, .if_icmp .ge 22, 3, 24, [43]), (24, .aload_n 0, 1, 25, []), (25, .getfield 11, 3, 28, [3, 0, 2, 315]), (28, .iload_n 1, 1, 29, []), (29, .new 9, 3, 32, [0, 7, 11, 312, 255, 107])],
  [(32, .dup, 1, 33, []), (33, .invokespecial 15, 3, 36, [0, 169, 314]), (36, .aastore, 1, 37, []), (37, .iinc 1 1, 3, 40, []), (40, .goto (-25), 3, 43, [15]), (43, .return_, 1, 44, [])]])
abbrev mX3_sceneAt : am_M := (yX3_sceneAt, cX3_sceneAt, 3, some (.object "WindowSale$Scene"), [])
noncomputable def tX3_sceneAt : ex_T := (mX3_sceneAt, [1, 2, 0, 0, 3, 819, 108, 818, 9], [
  [(0, .iload_n 1, 1, 1, []), (1, .ifCond .lt 21, 3, 4, [22]), (4, .iload_n 1, 1, 5, []), (5, .aload_n 0, 1, 6, []), (6, .getfield 11, 3, 9, [3, 0, 2, 315]), (9, .arraylength, 1, 10, []), (10, .if_icmp .ge 12, 3, 13, [22]), (13, .aload_n 0, 1, 14, []), (14, .getfield 11, 3, 17, [3, 0, 2, 315]), (17, .iload_n 1, 1, 18, []), (18, .aaload, 1, 19, []), (19, .ifnonnull 5, 3, 22, [24]), (24, .aload_n 0, 1, 25, []), (25, .getfield 11, 3, 28, [3, 0, 2, 315]), (28, .iload_n 1, 1, 29, []), (29, .aaload, 1, 30, []), (30, .areturn, 1, 31, [])]])
abbrev mX3_takeBack : am_M := (yX3_takeBack, cX3_takeBack, 2, some (.boolean), [])
noncomputable def tX3_takeBack : ex_T := (mX3_takeBack, [1, 1, 0, 0, 3, 931, 108, 929, 930], [
  [(0, .aload_n 0, 1, 1, []), (1, .getfield 20, 3, 4, [3, 2, 0, 317]), (4, .ifCond .gt 5, 3, 7, [9]), (7, .iconst 0, 1, 8, []), (8, .ireturn, 1, 9, [])]])
abbrev mX4_clearRests : am_M := (yX4_clearRests, cX4_clearRests, 1, none, [])
noncomputable def tX4_clearRests : ex_T := (mX4_clearRests, [1, 0, 0, 0, 4, 1009, 110, 1008, 16], [
  [(0, .aload_n 0, 1, 1, []), (1, .getfield 15, 3, 4, [4, 2, 2, 354]), (4, .iconst 0, 1, 5, []), (5, .invokestatic 86, 3, 8, [0, 1, 1005]), (8, .aload_n 0, 1, 9, []), (9, .iconst 0, 1, 10, []), (10, .putfield 95, 3, 13, [4, 15, 0, 371]), (13, .return_, 1, 14, [])]])
abbrev mX4_forget : am_M := (yX4_forget, cX4_forget, 1, none, [])
noncomputable def tX4_forget : ex_T := (mX4_forget, [1, 0, 0, 0, 4, 759, 110, 757, 758], [
  [(0, .aload_n 0, 1, 1, []), (1, .iconst 0, 1, 2, []), (2, .putfield 50, 3, 5, [4, 17, 3, 373]), (5, .aload_n 0, 1, 6, []), (6, .iconst 0, 1, 7, []), (7, .putfield 54, 3, 10, [4, 18, 3, 374]), (10, .aload_n 0, 1, 11, []), (11, .iconst 0, 1, 12, []), (12, .putfield 57, 3, 15, [4, 19, 3, 375]), (15, .return_, 1, 16, [])]])
abbrev mX4_init : am_M := (yX4_init, cX4_init, 2, none, [])
noncomputable def tX4_init : ex_T := (mX4_init, [2, 1, 11, 4080, 4, 350, 110, 349, 0], [
  [(0, .aload_n 0, 1, 1, []), (1, .invokespecial 3, 3, 4, [1, 351]), (4, .aload_n 0, 1, 5, []), (5, .sipush 600, 3, 8, []), (8, .newarray .int, 2, 10, []), (10, .putfield 9, 3, 13, [4, 1, 2, 353]), (13, .aload_n 0, 1, 14, []), (14, .sipush 1500, 3, 17, []), (17, .newarray .int, 2, 19, []), (19, .putfield 15, 3, 22, [4, 2, 2, 354]), (22, .aload_n 0, 1, 23, []), (23, .sipush 500, 3, 26, []), (26, .newarray .int, 2, 28, []), (28, .putfield 18, 3, 31, [4, 3, 2, 355]), (31, .aload_n 0, 1, 32, [])],
  [(32, .sipush 1200, 3, 35, []), (35, .newarray .long, 2, 37, []), (37, .putfield 21, 3, 40, [4, 4, 2, 356]), (40, .aload_n 0, 1, 41, []), (41, .bipush 100, 2, 43, []), (43, .newarray .int, 2, 45, []), (45, .putfield 25, 3, 48, [4, 5, 2, 357]), (48, .aload_n 0, 1, 49, []), (49, .bipush 100, 2, 51, []), (51, .newarray .int, 2, 53, []), (53, .putfield 28, 3, 56, [4, 6, 2, 358]), (56, .aload_n 0, 1, 57, []), (57, .bipush 24, 2, 59, []), (59, .newarray .int, 2, 61, []), (61, .putfield 31, 3, 64, [4, 7, 2, 359])],
  [(64, .aload_n 0, 1, 65, []), (65, .bipush 24, 2, 67, []), (67, .newarray .int, 2, 69, []), (69, .putfield 34, 3, 72, [4, 8, 2, 360]), (72, .aload_n 0, 1, 73, []), (73, .bipush 24, 2, 75, []), (75, .newarray .int, 2, 77, []), (77, .putfield 37, 3, 80, [4, 9, 2, 361]), (80, .aload_n 0, 1, 81, []), (81, .iconst 4, 1, 82, []), (82, .newarray .int, 2, 84, []), (84, .putfield 40, 3, 87, [4, 10, 2, 362]), (87, .aload_n 0, 1, 88, []), (88, .iconst 4, 1, 89, []), (89, .newarray .int, 2, 91, []), (91, .putfield 43, 3, 94, [4, 11, 2, 363]), (94, .aload_n 0, 1, 95, []), (95, .aload_n 1, 1, 96, [])],
  [(96, .putfield 46, 3, 99, [4, 0, 2, 352]), (99, .return_, 1, 100, [])]])
abbrev mX4_prepareBest : am_M := (yX4_prepareBest, cX4_prepareBest, 5, none, [])
noncomputable def tX4_prepareBest : ex_T := (mX4_prepareBest, [1, 0, 0, 0, 4, 986, 110, 984, 985], [
  [(0, .aload_n 0, 1, 1, []), (1, .getfield 57, 3, 4, [4, 19, 0, 375]), (4, .ifCond .eq 4, 3, 7, [8]), (8, .aload_n 0, 1, 9, []), (9, .invokevirtual 140, 3, 12, [0, 154, 987]), (12, .aload_n 0, 1, 13, []), (13, .iconst 1, 1, 14, []), (14, .putfield 57, 3, 17, [4, 19, 3, 375]), (17, .aload_n 0, 1, 18, []), (18, .iconst 0, 1, 19, []), (19, .putfield 143, 3, 22, [4, 13, 0, 367]), (22, .aload_n 0, 1, 23, []), (23, .iconst 1, 1, 24, []), (24, .putfield 146, 3, 27, [4, 14, 0, 369]), (27, .iconst (-1), 1, 28, []), (28, .istore_n 1, 1, 29, []), (29, .iconst 0, 1, 30, []), (30, .istore_n 2, 1, 31, []), (31, .iload_n 2, 1, 32, [])],
  [(32, .aload_n 0, 1, 33, []), (33, .getfield 46, 3, 36, [4, 0, 2, 352]), (36, .getfield 76, 3, 39, [9, 7, 0, 222]), (39, .if_icmp .ge 61, 3, 42, [100])],
  [],
  [(100, .aload_n 0, 1, 101, []), (101, .invokevirtual 152, 3, 104, [0, 156, 1041]), (104, .return_, 1, 105, [])]])
abbrev mX4_prepareGains : am_M := (yX4_prepareGains, cX4_prepareGains, 3, none, [])
noncomputable def tX4_prepareGains : ex_T := (mX4_prepareGains, [1, 0, 0, 0, 4, 994, 110, 992, 993], [
  [(0, .aload_n 0, 1, 1, []), (1, .getfield 50, 3, 4, [4, 17, 0, 373]), (4, .ifCond .eq 4, 3, 7, [8]), (8, .aload_n 0, 1, 9, []), (9, .iconst 1, 1, 10, []), (10, .putfield 50, 3, 13, [4, 17, 3, 373]), (13, .aload_n 0, 1, 14, []), (14, .aload_n 0, 1, 15, []), (15, .getfield 46, 3, 18, [4, 0, 2, 352]), (18, .invokevirtual 60, 3, 21, [0, 187, 995]), (21, .bipush 60, 2, 23, []), (23, .invokestatic 66, 3, 26, [1, 1, 999, 0]), (26, .putfield 72, 3, 29, [4, 16, 0, 372]), (29, .iconst 0, 1, 30, []), (30, .istore_n 1, 1, 31, []), (31, .iload_n 1, 1, 32, [])],
  [(32, .aload_n 0, 1, 33, []), (33, .getfield 46, 3, 36, [4, 0, 2, 352]), (36, .getfield 76, 3, 39, [9, 7, 0, 222]), (39, .if_icmp .ge 47, 3, 42, [86])],
  [(86, .aload_n 0, 1, 87, []), (87, .getfield 25, 3, 90, [4, 5, 2, 357]), (90, .iconst (-1), 1, 91, []), (91, .invokestatic 86, 3, 94, [0, 1, 1005]), (94, .aload_n 0, 1, 95, []), (95, .getfield 28, 3, 98, [4, 6, 2, 358])],
  [(98, .iconst (-1), 1, 99, []), (99, .invokestatic 86, 3, 102, [0, 1, 1005]), (102, .return_, 1, 103, [])]])
abbrev mX4_prepareStarts : am_M := (yX4_prepareStarts, cX4_prepareStarts, 5, none, [])
noncomputable def tX4_prepareStarts : ex_T := (mX4_prepareStarts, [1, 0, 0, 0, 4, 990, 110, 989, 15], [
  [(0, .aload_n 0, 1, 1, []), (1, .getfield 54, 3, 4, [4, 18, 0, 374]), (4, .ifCond .eq 4, 3, 7, [8]), (8, .aload_n 0, 1, 9, []), (9, .iconst 1, 1, 10, []), (10, .putfield 54, 3, 13, [4, 18, 3, 374]), (13, .aload_n 0, 1, 14, []), (14, .invokevirtual 124, 3, 17, [0, 153, 991]), (17, .iconst 0, 1, 18, []), (18, .istore_n 1, 1, 19, []), (19, .iload_n 1, 1, 20, []), (20, .iconst 1, 1, 21, []), (21, .if_icmp .gt 98, 3, 24, [119]), (24, .aload_n 0, 1, 25, []), (25, .invokevirtual 127, 3, 28, [0, 149, 1006]), (28, .iconst 0, 1, 29, []), (29, .istore_n 2, 1, 30, []), (30, .iload_n 2, 1, 31, []), (31, .aload_n 0, 1, 32, [])],
  [(32, .getfield 46, 3, 35, [4, 0, 2, 352]), (35, .getfield 76, 3, 38, [9, 7, 0, 222]), (38, .if_icmp .ge 75, 3, 41, [113])],
  [],
  [(113, .iinc 1 1, 3, 116, []), (116, .goto (-97), 3, 119, [19]), (119, .return_, 1, 120, [])]])
abbrev mX4_rowGain : am_M := (yX4_rowGain, cX4_rowGain, 4, some (.int), [])
noncomputable def tX4_rowGain : ex_T := (mX4_rowGain, [1, 2, 0, 0, 4, 1102, 110, 1100, 1101], [
  [(0, .aload_n 0, 1, 1, []), (1, .getfield 46, 3, 4, [4, 0, 2, 352]), (4, .iload_n 1, 1, 5, []), (5, .invokevirtual 182, 3, 8, [0, 185, 1103]), (8, .ifCond .eq 19, 3, 11, [27]), (27, .iconst 0, 1, 28, []), (28, .ireturn, 1, 29, [])]])
abbrev mX4_traceBest : am_M := (yX4_traceBest, cX4_traceBest, 10, none, [])
noncomputable def tX4_traceBest : ex_T := (mX4_traceBest, [1, 0, 0, 0, 4, 1044, 110, 1043, 22], [
  [(0, .aload_n 0, 1, 1, []), (1, .iconst 0, 1, 2, []), (2, .putfield 155, 3, 5, [4, 12, 0, 365]), (5, .aload_n 0, 1, 6, []), (6, .getfield 146, 3, 9, [4, 14, 0, 369]), (9, .iconst 1, 1, 10, []), (10, .if_icmp .ne 18, 3, 13, [28]), (13, .aload_n 0, 1, 14, []), (14, .getfield 46, 3, 17, [4, 0, 2, 352]), (17, .getfield 76, 3, 20, [9, 7, 0, 222]), (20, .aload_n 0, 1, 21, []), (21, .getfield 143, 3, 24, [4, 13, 0, 367]), (24, .isub, 1, 25, []), (25, .goto 9, 3, 28, [34])],
  [(34, .istore_n 1, 1, 35, []), (35, .aload_n 0, 1, 36, []), (36, .getfield 146, 3, 39, [4, 14, 0, 369]), (39, .iconst 1, 1, 40, []), (40, .if_icmp .ne 7, 3, 43, [47]), (43, .iconst 1, 1, 44, []), (44, .goto 4, 3, 47, [48]), (48, .istore_n 2, 1, 49, []), (49, .iconst 0, 1, 50, []), (50, .istore_n 3, 1, 51, []), (51, .iconst 0, 1, 52, []), (52, .istore 4, 2, 54, []), (54, .iload 4, 2, 56, []), (56, .iload_n 1, 1, 57, []), (57, .if_icmp .ge 28, 3, 60, [85])],
  [(85, .iconst 0, 1, 86, []), (86, .istore 4, 2, 88, []), (88, .aload_n 0, 1, 89, []), (89, .getfield 46, 3, 92, [4, 0, 2, 352]), (92, .invokevirtual 149, 3, 95, [0, 182, 1040]), (95, .istore 5, 2, 97, [])],
  [(97, .iconst 0, 1, 98, []), (98, .istore 6, 2, 100, []), (100, .iload 6, 2, 102, []), (102, .iload_n 1, 1, 103, []), (103, .if_icmp .ge 105, 3, 106, [208])],
  [],
  [],
  [(208, .return_, 1, 209, [])]])
abbrev mX5_init : am_M := (yX5_init, cX5_init, 1, none, [])
noncomputable def tX5_init : ex_T := (mX5_init, [2, 0, 0, 0, 5, 440, 112, 439, 0], [
  [(0, .aload_n 0, 1, 1, []), (1, .invokespecial 1, 3, 4, [1, 441]), (4, .return_, 1, 5, [])]])
abbrev mX6_hasMore : am_M := (yX6_hasMore, cX6_hasMore, 1, some (.boolean), [])
noncomputable def tX6_hasMore : ex_T := (mX6_hasMore, [1, 0, 0, 0, 6, 635, 104, 633, 634], [
  [(0, .aload_n 0, 1, 1, []), (1, .getfield 50, 3, 4, [6, 3, 0, 159]), (4, .ifCond .eq 7, 3, 7, [11]), (11, .iconst 0, 1, 12, []), (12, .ireturn, 1, 13, [])]])
abbrev mX6_init : am_M := (yX6_init, cX6_init, 2, none, [])
noncomputable def tX6_init : ex_T := (mX6_init, [2, 1, 0, 0, 6, 154, 104, 153, 0], [
  [(0, .aload_n 0, 1, 1, []), (1, .invokespecial 3, 3, 4, [1, 155]), (4, .aload_n 0, 1, 5, []), (5, .aload_n 1, 1, 6, []), (6, .putfield 9, 3, 9, [6, 0, 2, 156]), (9, .return_, 1, 10, [])]])
abbrev mX6_isAt : am_M := (yX6_isAt, cX6_isAt, 2, some (.boolean), [])
noncomputable def tX6_isAt : ex_T := (mX6_isAt, [1, 1, 0, 0, 6, 736, 104, 734, 735], [
  [(0, .aload_n 0, 1, 1, []), (1, .getfield 50, 3, 4, [6, 3, 0, 159]), (4, .iconst 4, 1, 5, []), (5, .if_icmp .ne 22, 3, 8, [27]), (27, .iconst 0, 1, 28, []), (28, .ireturn, 1, 29, [])]])
abbrev mX6_open : am_M := (yX6_open, cX6_open, 2, none, [])
noncomputable def tX6_open : ex_T := (mX6_open, [1, 1, 0, 0, 6, 603, 104, 601, 602], [
  [(0, .aload_n 0, 1, 1, []), (1, .iload_n 1, 1, 2, []), (2, .putfield 15, 3, 5, [6, 1, 0, 157]), (5, .aload_n 0, 1, 6, []), (6, .iconst 0, 1, 7, []), (7, .putfield 19, 3, 10, [6, 2, 0, 158]), (10, .aload_n 0, 1, 11, []), (11, .iconst 0, 1, 12, []), (12, .putfield 22, 3, 15, [6, 7, 0, 166]), (15, .aload_n 0, 1, 16, []), (16, .iconst 0, 1, 17, []), (17, .putfield 25, 3, 20, [6, 8, 0, 168]), (20, .aload_n 0, 1, 21, []), (21, .invokevirtual 28, 3, 24, [0, 163, 604]), (24, .return_, 1, 25, [])]])
abbrev mX6_refuse : am_M := (yX6_refuse, cX6_refuse, 2, some (.boolean), [])
noncomputable def tX6_refuse : ex_T := (mX6_refuse, [1, 1, 0, 0, 6, 700, 104, 698, 699], [
  [(0, .aload_n 0, 1, 1, []), (1, .iload_n 1, 1, 2, []), (2, .putfield 22, 3, 5, [6, 7, 0, 166]), (5, .aload_n 0, 1, 6, []), (6, .aload_n 0, 1, 7, []), (7, .getfield 31, 3, 10, [6, 4, 0, 160]), (10, .putfield 25, 3, 13, [6, 8, 0, 168]), (13, .iconst 0, 1, 14, []), (14, .ireturn, 1, 15, [])]])
abbrev mX6_step : am_M := (yX6_step, cX6_step, 1, none, [])
noncomputable def tX6_step : ex_T := (mX6_step, [1, 0, 0, 0, 6, 607, 104, 605, 606], [
  [(0, .aload_n 0, 1, 1, []), (1, .aload_n 0, 1, 2, []), (2, .getfield 19, 3, 5, [6, 2, 0, 158]), (5, .putfield 31, 3, 8, [6, 4, 0, 160]), (8, .aload_n 0, 1, 9, []), (9, .getfield 31, 3, 12, [6, 4, 0, 160]), (12, .aload_n 0, 1, 13, []), (13, .getfield 9, 3, 16, [6, 0, 2, 156]), (16, .getfield 34, 3, 19, [10, 1, 0, 143]), (19, .if_icmp .ge 33, 3, 22, [52])],
  [(52, .aload_n 0, 1, 53, []), (53, .iconst 0, 1, 54, []), (54, .putfield 47, 3, 57, [6, 5, 0, 161]), (57, .aload_n 0, 1, 58, []), (58, .getfield 31, 3, 61, [6, 4, 0, 160]), (61, .aload_n 0, 1, 62, []), (62, .getfield 15, 3, 65, [6, 1, 0, 157])],
  [(65, .if_icmp .lt 33, 3, 68, [98])],
  [(98, .aload_n 0, 1, 99, []), (99, .getfield 31, 3, 102, [6, 4, 0, 160]), (102, .aload_n 0, 1, 103, []), (103, .getfield 9, 3, 106, [6, 0, 2, 156]), (106, .getfield 34, 3, 109, [10, 1, 0, 143]), (109, .if_icmp .lt 11, 3, 112, [120]), (112, .aload_n 0, 1, 113, []), (113, .iconst 0, 1, 114, []), (114, .putfield 50, 3, 117, [6, 3, 0, 159]), (117, .goto 80, 3, 120, [197])],
  [],
  [],
  [(197, .return_, 1, 198, [])]])
abbrev mX6_wordOf : am_M := (yX6_wordOf, cX6_wordOf, 7, some (.int), [])
noncomputable def tX6_wordOf : ex_T := (mX6_wordOf, [1, 1, 0, 0, 6, 644, 104, 642, 643], [
  [(0, .aload_n 0, 1, 1, []), (1, .getfield 50, 3, 4, [6, 3, 0, 159]), (4, .iconst 2, 1, 5, []), (5, .if_icmp .eq 5, 3, 8, [10]), (8, .iconst (-1), 1, 9, []), (9, .ireturn, 1, 10, [])]])
abbrev mX7_canAct : am_M := (yX7_canAct, cX7_canAct, 1, some (.boolean), [])
noncomputable def tX7_canAct : ex_T := (mX7_canAct, [1, 0, 0, 0, 7, 844, 107, 842, 843], [
  [(0, .aload_n 0, 1, 1, []), (1, .invokevirtual 56, 3, 4, [0, 170, 799]), (4, .ifCond .eq 15, 3, 7, [19]), (19, .iconst 0, 1, 20, []), (20, .ireturn, 1, 21, [])]])
abbrev mX7_clear : am_M := (yX7_clear, cX7_clear, 1, none, [])
noncomputable def tX7_clear : ex_T := (mX7_clear, [1, 0, 0, 0, 7, 744, 107, 742, 743], [
  [(0, .aload_n 0, 1, 1, []), (1, .getfield 9, 3, 4, [7, 0, 2, 260]), (4, .iconst 0, 1, 5, []), (5, .invokestatic 28, 3, 8, [0, 1, 745]), (8, .aload_n 0, 1, 9, []), (9, .getfield 15, 3, 12, [7, 1, 2, 261]), (12, .iconst 0, 1, 13, []), (13, .invokestatic 28, 3, 16, [0, 1, 745]), (16, .aload_n 0, 1, 17, []), (17, .getfield 18, 3, 20, [7, 2, 2, 262]), (20, .iconst 0, 1, 21, []), (21, .invokestatic 28, 3, 24, [0, 1, 745]), (24, .aload_n 0, 1, 25, []), (25, .iconst 0, 1, 26, []), (26, .putfield 34, 3, 29, [7, 3, 0, 263]), (29, .aload_n 0, 1, 30, []), (30, .iconst (-1), 1, 31, []), (31, .putfield 21, 3, 34, [7, 4, 0, 266])],
  [(34, .aload_n 0, 1, 35, []), (35, .iconst (-1), 1, 36, []), (36, .putfield 25, 3, 39, [7, 5, 0, 269]), (39, .aload_n 0, 1, 40, []), (40, .iconst 0, 1, 41, []), (41, .putfield 37, 3, 44, [7, 6, 0, 272]), (44, .aload_n 0, 1, 45, []), (45, .iconst 0, 1, 46, []), (46, .putfield 40, 3, 49, [7, 7, 0, 275]), (49, .aload_n 0, 1, 50, []), (50, .iconst 0, 1, 51, []), (51, .putfield 43, 3, 54, [7, 8, 0, 278]), (54, .aload_n 0, 1, 55, []), (55, .iconst 0, 1, 56, []), (56, .putfield 46, 3, 59, [7, 9, 0, 280]), (59, .aload_n 0, 1, 60, []), (60, .iconst 0, 1, 61, []), (61, .putfield 49, 3, 64, [7, 10, 0, 281])],
  [(64, .return_, 1, 65, [])]])
abbrev mX7_comes : am_M := (yX7_comes, cX7_comes, 4, some (.int), [])
noncomputable def tX7_comes : ex_T := (mX7_comes, [1, 3, 0, 0, 7, 798, 107, 796, 797], [
  [(0, .aload_n 0, 1, 1, []), (1, .invokevirtual 56, 3, 4, [0, 170, 799]), (4, .ifCond .eq 5, 3, 7, [9]), (9, .aload_n 0, 1, 10, []), (10, .getfield 15, 3, 13, [7, 1, 2, 261]), (13, .iconst 0, 1, 14, []), (14, .invokestatic 28, 3, 17, [0, 1, 745]), (17, .aload_n 0, 1, 18, []), (18, .iload_n 1, 1, 19, []), (19, .putfield 34, 3, 22, [7, 3, 0, 263]), (22, .aload_n 0, 1, 23, []), (23, .iload_n 2, 1, 24, []), (24, .putfield 46, 3, 27, [7, 9, 0, 280]), (27, .aload_n 0, 1, 28, []), (28, .iconst 0, 1, 29, []), (29, .putfield 21, 3, 32, [7, 4, 0, 266])],
  [(32, .aload_n 0, 1, 33, []), (33, .iconst (-1), 1, 34, []), (34, .putfield 25, 3, 37, [7, 5, 0, 269]), (37, .aload_n 0, 1, 38, []), (38, .aload_n 3, 1, 39, []), (39, .invokevirtual 64, 3, 42, [0, 182, 800]), (42, .putfield 37, 3, 45, [7, 6, 0, 272]), (45, .aload_n 0, 1, 46, []), (46, .dup, 1, 47, []), (47, .getfield 43, 3, 50, [7, 8, 0, 278]), (50, .iconst 1, 1, 51, []), (51, .iadd, 1, 52, []), (52, .putfield 43, 3, 55, [7, 8, 0, 278]), (55, .iconst 0, 1, 56, []), (56, .ireturn, 1, 57, [])]])
abbrev mX7_copyFrom : am_M := (yX7_copyFrom, cX7_copyFrom, 2, none, [])
noncomputable def tX7_copyFrom : ex_T := (mX7_copyFrom, [1, 1, 0, 0, 7, 793, 107, 791, 792], [
  [(0, .aload_n 1, 1, 1, []), (1, .getfield 9, 3, 4, [7, 0, 2, 260]), (4, .aload_n 0, 1, 5, []), (5, .getfield 9, 3, 8, [7, 0, 2, 260]), (8, .invokestatic 52, 3, 11, [0, 20, 794]), (11, .aload_n 1, 1, 12, []), (12, .getfield 15, 3, 15, [7, 1, 2, 261]), (15, .aload_n 0, 1, 16, []), (16, .getfield 15, 3, 19, [7, 1, 2, 261]), (19, .invokestatic 52, 3, 22, [0, 20, 794]), (22, .aload_n 1, 1, 23, []), (23, .getfield 18, 3, 26, [7, 2, 2, 262]), (26, .aload_n 0, 1, 27, []), (27, .getfield 18, 3, 30, [7, 2, 2, 262]), (30, .invokestatic 52, 3, 33, [0, 20, 794])],
  [(33, .aload_n 0, 1, 34, []), (34, .aload_n 1, 1, 35, []), (35, .getfield 34, 3, 38, [7, 3, 0, 263]), (38, .putfield 34, 3, 41, [7, 3, 0, 263]), (41, .aload_n 0, 1, 42, []), (42, .aload_n 1, 1, 43, []), (43, .getfield 21, 3, 46, [7, 4, 0, 266]), (46, .putfield 21, 3, 49, [7, 4, 0, 266]), (49, .aload_n 0, 1, 50, []), (50, .aload_n 1, 1, 51, []), (51, .getfield 25, 3, 54, [7, 5, 0, 269]), (54, .putfield 25, 3, 57, [7, 5, 0, 269]), (57, .aload_n 0, 1, 58, []), (58, .aload_n 1, 1, 59, []), (59, .getfield 37, 3, 62, [7, 6, 0, 272]), (62, .putfield 37, 3, 65, [7, 6, 0, 272])],
  [(65, .aload_n 0, 1, 66, []), (66, .aload_n 1, 1, 67, []), (67, .getfield 40, 3, 70, [7, 7, 0, 275]), (70, .putfield 40, 3, 73, [7, 7, 0, 275]), (73, .aload_n 0, 1, 74, []), (74, .aload_n 1, 1, 75, []), (75, .getfield 43, 3, 78, [7, 8, 0, 278]), (78, .putfield 43, 3, 81, [7, 8, 0, 278]), (81, .aload_n 0, 1, 82, []), (82, .aload_n 1, 1, 83, []), (83, .getfield 46, 3, 86, [7, 9, 0, 280]), (86, .putfield 46, 3, 89, [7, 9, 0, 280]), (89, .aload_n 0, 1, 90, []), (90, .aload_n 1, 1, 91, []), (91, .getfield 49, 3, 94, [7, 10, 0, 281]), (94, .putfield 49, 3, 97, [7, 10, 0, 281])],
  [(97, .return_, 1, 98, [])]])
abbrev mX7_init : am_M := (yX7_init, cX7_init, 1, none, [])
noncomputable def tX7_init : ex_T := (mX7_init, [2, 0, 3, 26, 7, 258, 107, 257, 0], [
  [(0, .aload_n 0, 1, 1, []), (1, .invokespecial 3, 3, 4, [1, 259]), (4, .aload_n 0, 1, 5, []), (5, .bipush 6, 2, 7, []), (7, .newarray .int, 2, 9, []), (9, .putfield 9, 3, 12, [7, 0, 2, 260]), (12, .aload_n 0, 1, 13, []), (13, .bipush 10, 2, 15, []), (15, .newarray .int, 2, 17, []), (17, .putfield 15, 3, 20, [7, 1, 2, 261]), (20, .aload_n 0, 1, 21, []), (21, .bipush 10, 2, 23, []), (23, .newarray .int, 2, 25, []), (25, .putfield 18, 3, 28, [7, 2, 2, 262]), (28, .aload_n 0, 1, 29, []), (29, .iconst (-1), 1, 30, []), (30, .putfield 21, 3, 33, [7, 4, 0, 266])],
  [(33, .aload_n 0, 1, 34, []), (34, .iconst (-1), 1, 35, []), (35, .putfield 25, 3, 38, [7, 5, 0, 269]), (38, .return_, 1, 39, [])]])
abbrev mX7_isThere : am_M := (yX7_isThere, cX7_isThere, 1, some (.boolean), [])
noncomputable def tX7_isThere : ex_T := (mX7_isThere, [1, 0, 0, 0, 7, 780, 107, 778, 779], [
  [(0, .aload_n 0, 1, 1, []), (1, .getfield 43, 3, 4, [7, 8, 0, 278]), (4, .ifCond .le 18, 3, 7, [22]), (22, .iconst 0, 1, 23, []), (23, .ireturn, 1, 24, [])]])
abbrev mX7_rests : am_M := (yX7_rests, cX7_rests, 2, some (.int), [])
noncomputable def tX7_rests : ex_T := (mX7_rests, [1, 1, 0, 0, 7, 923, 107, 921, 922], [
  [(0, .aload_n 0, 1, 1, []), (1, .invokevirtual 70, 3, 4, [0, 165, 841]), (4, .ifCond .ne 5, 3, 7, [9]), (7, .iconst 1, 1, 8, []), (8, .ireturn, 1, 9, [])]])
abbrev mX7_salesOf : am_M := (yX7_salesOf, cX7_salesOf, 2, some (.int), [])
noncomputable def tX7_salesOf : ex_T := (mX7_salesOf, [1, 1, 0, 0, 7, 784, 107, 782, 783], [
  [(0, .aload_n 0, 1, 1, []), (1, .getfield 9, 3, 4, [7, 0, 2, 260]), (4, .iload_n 1, 1, 5, []), (5, .invokestatic 60, 3, 8, [0, 26, 785]), (8, .ireturn, 1, 9, [])]])
abbrev mX7_sells : am_M := (yX7_sells, cX7_sells, 6, some (.int), [])
noncomputable def tX7_sells : ex_T := (mX7_sells, [1, 2, 0, 0, 7, 840, 107, 838, 839], [
  [(0, .aload_n 0, 1, 1, []), (1, .invokevirtual 70, 3, 4, [0, 165, 841]), (4, .ifCond .ne 5, 3, 7, [9]), (7, .iconst 1, 1, 8, []), (8, .ireturn, 1, 9, [])]])
abbrev mX7_walks : am_M := (yX7_walks, cX7_walks, 4, some (.int), [])
noncomputable def tX7_walks : ex_T := (mX7_walks, [1, 2, 0, 0, 7, 910, 107, 908, 909], [
  [(0, .aload_n 0, 1, 1, []), (1, .invokevirtual 70, 3, 4, [0, 165, 841]), (4, .ifCond .ne 5, 3, 7, [9]), (7, .iconst 1, 1, 8, []), (8, .ireturn, 1, 9, [])]])
abbrev mX8_clear : am_M := (yX8_clear, cX8_clear, 1, none, [])
noncomputable def tX8_clear : ex_T := (mX8_clear, [1, 0, 0, 0, 8, 751, 109, 749, 750], [
  [(0, .aload_n 0, 1, 1, []), (1, .iconst 0, 1, 2, []), (2, .putfield 18, 3, 5, [8, 2, 0, 334]), (5, .aload_n 0, 1, 6, []), (6, .iconst 0, 1, 7, []), (7, .putfield 22, 3, 10, [8, 3, 0, 335]), (10, .return_, 1, 11, [])]])
abbrev mX8_copyFrom : am_M := (yX8_copyFrom, cX8_copyFrom, 2, none, [])
noncomputable def tX8_copyFrom : ex_T := (mX8_copyFrom, [1, 1, 0, 0, 8, 1324, 109, 1322, 1323], [
  [(0, .aload_n 1, 1, 1, []), (1, .getfield 11, 3, 4, [8, 0, 2, 332]), (4, .aload_n 0, 1, 5, []), (5, .getfield 11, 3, 8, [8, 0, 2, 332]), (8, .invokestatic 25, 3, 11, [0, 20, 1325]), (11, .aload_n 0, 1, 12, []), (12, .aload_n 1, 1, 13, []), (13, .getfield 18, 3, 16, [8, 2, 0, 334]), (16, .putfield 18, 3, 19, [8, 2, 0, 334]), (19, .aload_n 0, 1, 20, []), (20, .aload_n 1, 1, 21, []), (21, .getfield 22, 3, 24, [8, 3, 0, 335]), (24, .putfield 22, 3, 27, [8, 3, 0, 335]), (27, .return_, 1, 28, [])]])
abbrev mX8_init : am_M := (yX8_init, cX8_init, 1, none, [])
noncomputable def tX8_init : ex_T := (mX8_init, [2, 0, 2, 80, 8, 330, 109, 329, 0], [
  [(0, .aload_n 0, 1, 1, []), (1, .invokespecial 5, 3, 4, [1, 331]), (4, .aload_n 0, 1, 5, []), (5, .bipush 40, 2, 7, []), (7, .newarray .int, 2, 9, []), (9, .putfield 11, 3, 12, [8, 0, 2, 332]), (12, .aload_n 0, 1, 13, []), (13, .bipush 40, 2, 15, []), (15, .newarray .int, 2, 17, []), (17, .putfield 15, 3, 20, [8, 1, 2, 333]), (20, .return_, 1, 21, [])]])
abbrev mX8_readCond : am_M := (yX8_readCond, cX8_readCond, 5, some (.boolean), [])
noncomputable def tX8_readCond : ex_T := (mX8_readCond, [1, 2, 0, 0, 8, 1293, 109, 1292, 32], [
  [(0, .iconst 0, 1, 1, []), (1, .istore_n 3, 1, 2, []), (2, .iload_n 3, 1, 3, []), (3, .bipush 20, 2, 5, []), (5, .if_icmp .gt 91, 3, 8, [96]), (8, .aload_n 0, 1, 9, []), (9, .aload_n 1, 1, 10, []), (10, .iload_n 2, 1, 11, []), (11, .invokevirtual 46, 3, 14, [0, 180, 1294]), (14, .ifCond .ne 5, 3, 17, [19]), (17, .iconst 0, 1, 18, []), (18, .ireturn, 1, 19, [])]])
abbrev mX8_readFrom : am_M := (yX8_readFrom, cX8_readFrom, 2, some (.boolean), [])
noncomputable def tX8_readFrom : ex_T := (mX8_readFrom, [1, 1, 0, 0, 8, 1288, 109, 1286, 1287], [
  [(0, .aload_n 0, 1, 1, []), (1, .invokevirtual 29, 3, 4, [0, 175, 1289]), (4, .aload_n 0, 1, 5, []), (5, .aload_n 1, 1, 6, []), (6, .iconst 1, 1, 7, []), (7, .invokevirtual 32, 3, 10, [0, 178, 1290]), (10, .ifCond .eq 22, 3, 13, [32])],
  [(32, .iconst 0, 1, 33, []), (33, .ireturn, 1, 34, [])]])
abbrev mX8_readOne : am_M := (yX8_readOne, cX8_readOne, 5, some (.boolean), [])
noncomputable def tX8_readOne : ex_T := (mX8_readOne, [1, 2, 0, 0, 8, 1297, 109, 1296, 33], [
  [(0, .aload_n 1, 1, 1, []), (1, .bipush 40, 2, 3, []), (3, .invokevirtual 64, 3, 6, [0, 160, 1298]), (6, .istore_n 3, 1, 7, []), (7, .aload_n 1, 1, 8, []), (8, .ldc 68, 2, 10, [19078, 1299, 0]), (10, .invokevirtual 51, 3, 13, [0, 164, 1300]), (13, .istore 4, 2, 15, []), (15, .iload_n 3, 1, 16, []), (16, .ifCond .ne 15, 3, 19, [31]), (19, .iload 4, 2, 21, []), (21, .iconst (-1), 1, 22, []), (22, .if_icmp .ne 9, 3, 25, [31]), (25, .aload_n 1, 1, 26, []), (26, .iconst 1, 1, 27, []), (27, .invokevirtual 42, 3, 30, [0, 162, 1301]), (30, .ireturn, 1, 31, [])]])
abbrev mX9_addUsualStand : am_M := (yX9_addUsualStand, cX9_addUsualStand, 1, none, [])
noncomputable def tX9_addUsualStand : ex_T := (mX9_addUsualStand, [1, 0, 0, 0, 9, 210, 105, 209, 1], [
  [(0, .aload_n 0, 1, 1, []), (1, .getfield 43, 3, 4, [9, 8, 0, 225]), (4, .ifCond .ne 27, 3, 7, [31]), (7, .aload_n 0, 1, 8, []), (8, .getfield 24, 3, 11, [9, 4, 2, 218]), (11, .iconst 0, 1, 12, []), (12, .bipush 10, 2, 14, []), (14, .invokestatic 59, 3, 17, [0, 46, 211]), (17, .aload_n 0, 1, 18, []), (18, .getfield 27, 3, 21, [9, 5, 2, 219]), (21, .iconst 0, 1, 22, []), (22, .iconst 1, 1, 23, []), (23, .invokestatic 59, 3, 26, [0, 46, 211]), (26, .aload_n 0, 1, 27, []), (27, .iconst 1, 1, 28, []), (28, .putfield 43, 3, 31, [9, 8, 0, 225]), (31, .return_, 1, 32, [])]])
abbrev mX9_basket : am_M := (yX9_basket, cX9_basket, 1, some (.int), [])
noncomputable def tX9_basket : ex_T := (mX9_basket, [1, 0, 0, 0, 9, 803, 105, 801, 802], [
  [(0, .aload_n 0, 1, 1, []), (1, .getfield 30, 3, 4, [9, 6, 2, 220]), (4, .iconst 1, 1, 5, []), (5, .invokestatic 118, 3, 8, [0, 26, 718]), (8, .ireturn, 1, 9, [])]])
abbrev mX9_clear : am_M := (yX9_clear, cX9_clear, 1, none, [])
noncomputable def tX9_clear : ex_T := (mX9_clear, [1, 0, 0, 0, 9, 198, 105, 197, 0], [
  [(0, .aload_n 0, 1, 1, []), (1, .iconst 0, 1, 2, []), (2, .putfield 39, 3, 5, [9, 7, 0, 221]), (5, .aload_n 0, 1, 6, []), (6, .iconst 0, 1, 7, []), (7, .putfield 43, 3, 10, [9, 8, 0, 225]), (10, .aload_n 0, 1, 11, []), (11, .iconst 0, 1, 12, []), (12, .putfield 46, 3, 15, [9, 9, 0, 227]), (15, .aload_n 0, 1, 16, []), (16, .iconst 0, 1, 17, []), (17, .putfield 49, 3, 20, [9, 10, 0, 229]), (20, .getstatic 52, 3, 23, [1, 199]), (23, .aload_n 0, 1, 24, []), (24, .getfield 30, 3, 27, [9, 6, 2, 220]), (27, .invokestatic 55, 3, 30, [0, 20, 201]), (30, .return_, 1, 31, [])]])
abbrev mX9_copyFrom : am_M := (yX9_copyFrom, cX9_copyFrom, 2, none, [])
noncomputable def tX9_copyFrom : ex_T := (mX9_copyFrom, [1, 1, 0, 0, 9, 740, 105, 738, 739], [
  [(0, .aload_n 1, 1, 1, []), (1, .getfield 9, 3, 4, [9, 0, 2, 214]), (4, .aload_n 0, 1, 5, []), (5, .getfield 9, 3, 8, [9, 0, 2, 214]), (8, .invokestatic 55, 3, 11, [0, 20, 201]), (11, .aload_n 1, 1, 12, []), (12, .getfield 15, 3, 15, [9, 1, 2, 215]), (15, .aload_n 0, 1, 16, []), (16, .getfield 15, 3, 19, [9, 1, 2, 215]), (19, .invokestatic 55, 3, 22, [0, 20, 201]), (22, .aload_n 1, 1, 23, []), (23, .getfield 18, 3, 26, [9, 2, 2, 216]), (26, .aload_n 0, 1, 27, []), (27, .getfield 18, 3, 30, [9, 2, 2, 216]), (30, .invokestatic 55, 3, 33, [0, 20, 201])],
  [(33, .aload_n 1, 1, 34, []), (34, .getfield 21, 3, 37, [9, 3, 2, 217]), (37, .aload_n 0, 1, 38, []), (38, .getfield 21, 3, 41, [9, 3, 2, 217]), (41, .invokestatic 55, 3, 44, [0, 20, 201]), (44, .aload_n 1, 1, 45, []), (45, .getfield 24, 3, 48, [9, 4, 2, 218]), (48, .aload_n 0, 1, 49, []), (49, .getfield 24, 3, 52, [9, 4, 2, 218]), (52, .invokestatic 55, 3, 55, [0, 20, 201]), (55, .aload_n 1, 1, 56, []), (56, .getfield 27, 3, 59, [9, 5, 2, 219]), (59, .aload_n 0, 1, 60, []), (60, .getfield 27, 3, 63, [9, 5, 2, 219]), (63, .invokestatic 55, 3, 66, [0, 20, 201])],
  [(66, .aload_n 1, 1, 67, []), (67, .getfield 30, 3, 70, [9, 6, 2, 220]), (70, .aload_n 0, 1, 71, []), (71, .getfield 30, 3, 74, [9, 6, 2, 220]), (74, .invokestatic 55, 3, 77, [0, 20, 201]), (77, .aload_n 0, 1, 78, []), (78, .aload_n 1, 1, 79, []), (79, .getfield 39, 3, 82, [9, 7, 0, 221]), (82, .putfield 39, 3, 85, [9, 7, 0, 221]), (85, .aload_n 0, 1, 86, []), (86, .aload_n 1, 1, 87, []), (87, .getfield 43, 3, 90, [9, 8, 0, 225]), (90, .putfield 43, 3, 93, [9, 8, 0, 225]), (93, .aload_n 0, 1, 94, []), (94, .aload_n 1, 1, 95, []), (95, .getfield 46, 3, 98, [9, 9, 0, 227])],
  [(98, .putfield 46, 3, 101, [9, 9, 0, 227]), (101, .aload_n 0, 1, 102, []), (102, .aload_n 1, 1, 103, []), (103, .getfield 49, 3, 106, [9, 10, 0, 229]), (106, .putfield 49, 3, 109, [9, 10, 0, 229]), (109, .return_, 1, 110, [])]])
abbrev mX9_has : am_M := (yX9_has, cX9_has, 2, some (.boolean), [])
noncomputable def tX9_has : ex_T := (mX9_has, [1, 1, 0, 0, 9, 828, 105, 826, 827], [
  [(0, .iload_n 1, 1, 1, []), (1, .ifCond .lt 15, 3, 4, [16]), (4, .iload_n 1, 1, 5, []), (5, .aload_n 0, 1, 6, []), (6, .getfield 39, 3, 9, [9, 7, 0, 221]), (9, .if_icmp .ge 7, 3, 12, [16]), (16, .iconst 0, 1, 17, []), (17, .ireturn, 1, 18, [])]])
abbrev mX9_init : am_M := (yX9_init, cX9_init, 1, none, [])
noncomputable def tX9_init : ex_T := (mX9_init, [2, 0, 7, 60, 9, 193, 105, 192, 0], [
  [(0, .aload_n 0, 1, 1, []), (1, .invokespecial 3, 3, 4, [1, 194]), (4, .aload_n 0, 1, 5, []), (5, .bipush 10, 2, 7, []), (7, .newarray .int, 2, 9, []), (9, .putfield 9, 3, 12, [9, 0, 2, 214]), (12, .aload_n 0, 1, 13, []), (13, .bipush 10, 2, 15, []), (15, .newarray .int, 2, 17, []), (17, .putfield 15, 3, 20, [9, 1, 2, 215]), (20, .aload_n 0, 1, 21, []), (21, .bipush 10, 2, 23, []), (23, .newarray .int, 2, 25, []), (25, .putfield 18, 3, 28, [9, 2, 2, 216]), (28, .aload_n 0, 1, 29, []), (29, .bipush 10, 2, 31, []), (31, .newarray .int, 2, 33, [])],
  [(33, .putfield 21, 3, 36, [9, 3, 2, 217]), (36, .aload_n 0, 1, 37, []), (37, .bipush 6, 2, 39, []), (39, .newarray .int, 2, 41, []), (41, .putfield 24, 3, 44, [9, 4, 2, 218]), (44, .aload_n 0, 1, 45, []), (45, .bipush 6, 2, 47, []), (47, .newarray .int, 2, 49, []), (49, .putfield 27, 3, 52, [9, 5, 2, 219]), (52, .aload_n 0, 1, 53, []), (53, .bipush 8, 2, 55, []), (55, .newarray .int, 2, 57, []), (57, .putfield 30, 3, 60, [9, 6, 2, 220]), (60, .aload_n 0, 1, 61, []), (61, .invokevirtual 33, 3, 64, [0, 183, 195])],
  [(64, .aload_n 0, 1, 65, []), (65, .invokevirtual 36, 3, 68, [0, 181, 207]), (68, .return_, 1, 69, [])]])
abbrev mX9_longest : am_M := (yX9_longest, cX9_longest, 3, some (.int), [])
noncomputable def tX9_longest : ex_T := (mX9_longest, [1, 0, 0, 0, 9, 998, 105, 996, 997], [
  [(0, .iconst 0, 1, 1, []), (1, .istore_n 1, 1, 2, []), (2, .iconst 0, 1, 3, []), (3, .istore_n 2, 1, 4, []), (4, .iload_n 2, 1, 5, []), (5, .aload_n 0, 1, 6, []), (6, .getfield 43, 3, 9, [9, 8, 0, 225]), (9, .if_icmp .ge 19, 3, 12, [28]), (12, .iload_n 1, 1, 13, []), (13, .aload_n 0, 1, 14, []), (14, .iload_n 2, 1, 15, []), (15, .invokevirtual 108, 3, 18, [0, 189, 714]), (18, .invokestatic 128, 3, 21, [1, 0, 948, 0]), (21, .istore_n 1, 1, 22, []), (22, .iinc 2 1, 3, 25, []), (25, .goto (-21), 3, 28, [4]), (28, .iload_n 1, 1, 29, []), (29, .ireturn, 1, 30, [])]])
abbrev mX9_readFrom : am_M := (yX9_readFrom, cX9_readFrom, 2, some (.boolean), [])
noncomputable def tX9_readFrom : ex_T := (mX9_readFrom, [1, 1, 0, 0, 9, 631, 105, 629, 630], [
  [(0, .aload_n 0, 1, 1, []), (1, .invokevirtual 33, 3, 4, [0, 183, 195]), (4, .aload_n 0, 1, 5, []), (5, .getfield 46, 3, 8, [9, 9, 0, 227]), (8, .sipush 900, 3, 11, []), (11, .if_icmp .ge 42, 3, 14, [53]), (14, .aload_n 1, 1, 15, []), (15, .invokevirtual 63, 3, 18, [0, 158, 632]), (18, .ifCond .eq 35, 3, 21, [53])],
  [(53, .aload_n 0, 1, 54, []), (54, .invokevirtual 36, 3, 57, [0, 181, 207]), (57, .iconst 1, 1, 58, []), (58, .ireturn, 1, 59, [])]])
abbrev mX9_secondsOf : am_M := (yX9_secondsOf, cX9_secondsOf, 2, some (.int), [])
noncomputable def tX9_secondsOf : ex_T := (mX9_secondsOf, [1, 1, 0, 0, 9, 717, 105, 715, 716], [
  [(0, .aload_n 0, 1, 1, []), (1, .getfield 24, 3, 4, [9, 4, 2, 218]), (4, .iload_n 1, 1, 5, []), (5, .invokestatic 118, 3, 8, [0, 26, 718]), (8, .ireturn, 1, 9, [])]])
abbrev mX9_settingOf : am_M := (yX9_settingOf, cX9_settingOf, 2, some (.int), [])
noncomputable def tX9_settingOf : ex_T := (mX9_settingOf, [1, 1, 0, 0, 9, 1386, 105, 1384, 1385], [
  [(0, .aload_n 0, 1, 1, []), (1, .getfield 30, 3, 4, [9, 6, 2, 220]), (4, .iload_n 1, 1, 5, []), (5, .invokestatic 118, 3, 8, [0, 26, 718]), (8, .ireturn, 1, 9, [])]])
abbrev mX9_weightFrom : am_M := (yX9_weightFrom, cX9_weightFrom, 4, some (.int), [])
noncomputable def tX9_weightFrom : ex_T := (mX9_weightFrom, [1, 1, 0, 0, 9, 969, 105, 967, 968], [
  [(0, .iconst 0, 1, 1, []), (1, .istore_n 2, 1, 2, []), (2, .iconst 0, 1, 3, []), (3, .istore_n 3, 1, 4, []), (4, .iload_n 3, 1, 5, []), (5, .aload_n 0, 1, 6, []), (6, .getfield 43, 3, 9, [9, 8, 0, 225]), (9, .if_icmp .ge 46, 3, 12, [55]), (12, .iload_n 3, 1, 13, []), (13, .aload_n 0, 1, 14, []), (14, .getfield 24, 3, 17, [9, 4, 2, 218]), (17, .arraylength, 1, 18, []), (18, .if_icmp .ge 37, 3, 21, [55]), (21, .iload_n 3, 1, 22, []), (22, .aload_n 0, 1, 23, []), (23, .getfield 27, 3, 26, [9, 5, 2, 219]), (26, .arraylength, 1, 27, []), (27, .if_icmp .ge 28, 3, 30, [55]), (30, .aload_n 0, 1, 31, []), (31, .getfield 24, 3, 34, [9, 4, 2, 218])],
  [(34, .iload_n 3, 1, 35, []), (35, .iaload, 1, 36, []), (36, .iload_n 1, 1, 37, []), (37, .if_icmp .lt 12, 3, 40, [49]), (40, .iload_n 2, 1, 41, []), (41, .aload_n 0, 1, 42, []), (42, .getfield 27, 3, 45, [9, 5, 2, 219]), (45, .iload_n 3, 1, 46, []), (46, .iaload, 1, 47, []), (47, .iadd, 1, 48, []), (48, .istore_n 2, 1, 49, []), (49, .iinc 3 1, 3, 52, []), (52, .goto (-48), 3, 55, [4]), (55, .iload_n 2, 1, 56, []), (56, .ireturn, 1, 57, [])]])
abbrev mX9_weightOf : am_M := (yX9_weightOf, cX9_weightOf, 2, some (.int), [])
noncomputable def tX9_weightOf : ex_T := (mX9_weightOf, [1, 1, 0, 0, 9, 772, 105, 770, 771], [
  [(0, .aload_n 0, 1, 1, []), (1, .getfield 27, 3, 4, [9, 5, 2, 219]), (4, .iload_n 1, 1, 5, []), (5, .invokestatic 118, 3, 8, [0, 26, 718]), (8, .ireturn, 1, 9, [])]])
set_option maxRecDepth 100000 in
noncomputable def ex_ms : List (List ex_T) := [[tL_law, tJ7_fill_53178, tL_curve, tL_earns, tL_gain, tL_meant, tL_plan, tL_window, tL_yet, tX0_init, tX10_append, tX10_byteAt, tX10_hasRoom, tX10_init],
  [tX11_begin, tX11_best, tX11_better, tX11_border, tX11_canDraw, tX11_change, tX11_copyRow, tX11_count, tX11_curve, tX11_drawn, tX11_earns, tX11_end, tX11_entry, tX11_fault],
  [tX11_feed, tX11_gain, tX11_heard, tX11_idle, tX11_image, tX11_imageAt, tX11_init, tX11_isPart, tX11_keepIfDone, tX11_keepTrial, tX11_latest, tX11_log, tX11_logged, tX11_luckiest],
  [tX11_meant, tX11_needs, tX11_now, tX11_plan, tX11_put, tX11_race, tX11_restore, tX11_said, tX11_sale, tX11_sell, tX11_sellers, tX11_sentence, tX11_share, tX11_stand],
  [tX11_station, tX11_stood, tX11_train, tX11_trust, tX11_undo, tX11_waits, tX11_walk, tX11_weekly, tX11_window, tX11_yet, tX12_bad, tX12_begin, tX12_best, tX12_better],
  [tX12_border, tX12_canAct, tX12_change, tX12_clears, tX12_comes, tX12_count, tX12_curve, tX12_drawn, tX12_earns, tX12_end, tX12_fault, tX12_feed, tX12_four, tX12_gain],
  [tX12_greater, tX12_heard, tX12_hears, tX12_idle, tX12_image, tX12_init, tX12_isIn, tX12_isSign, tX12_isThere, tX12_isWindow, tX12_isWord, tX12_keep, tX12_latest, tX12_leafOf],
  [tX12_log, tX12_logged, tX12_luckiest, tX12_meant, tX12_needs, tX12_next, tX12_now, tX12_off, tX12_operand, tX12_peek, tX12_plan, tX12_race, tX12_restore, tX12_rowGain],
  [tX12_said, tX12_sale, tX12_secondsOf, tX12_sell, tX12_sellers, tX12_sentence, tX12_share, tX12_stand, tX12_standMany, tX12_standing, tX12_station, tX12_stood, tX12_taken, tX12_thrown],
  [tX12_throwsIf, tX12_train, tX12_trust, tX12_undo, tX12_waits, tX12_walk, tX12_weekly, tX12_weightOf, tX12_whySell, tX12_whyWait, tX12_whyWalk, tX12_window, tX12_yet, tX1_init],
  [tX1_keep, tX2_init, tX2_judge, tX2_readFrom, tX3_add, tX3_clear, tX3_init, tX3_sceneAt, tX3_takeBack, tX4_clearRests, tX4_forget, tX4_init, tX4_prepareBest, tX4_prepareGains],
  [tX4_prepareStarts, tX4_rowGain, tX4_traceBest, tX5_init, tX6_hasMore, tX6_init, tX6_isAt, tX6_open, tX6_refuse, tX6_step, tX6_wordOf, tX7_canAct, tX7_clear, tX7_comes],
  [tX7_copyFrom, tX7_init, tX7_isThere, tX7_rests, tX7_salesOf, tX7_sells, tX7_walks, tX8_clear, tX8_copyFrom, tX8_init, tX8_readCond, tX8_readFrom, tX8_readOne, tX9_addUsualStand],
  [tX9_basket, tX9_clear, tX9_copyFrom, tX9_has, tX9_init, tX9_longest, tX9_readFrom, tX9_secondsOf, tX9_settingOf, tX9_weightFrom, tX9_weightOf]]
noncomputable def ex_mt (mi : Nat) : Option ex_T := match ex_nth ex_ms (mi / 14) with
  | some l => ex_nth l (mi % 14)
  | none => none
end
section
/-! the tables keep to what they must (written by a program) -/
theorem ok_L_law_0 : bL_law_0.all (fun e => ex_chk ex_mt tL_law e) = true := by decide +kernel
theorem ok_L_law_1 : bL_law_1.all (fun e => ex_chk ex_mt tL_law e) = true := by decide +kernel
theorem ok_L_law_7 : bL_law_7.all (fun e => ex_chk ex_mt tL_law e) = true := by decide +kernel
theorem ok_L_law_8 : bL_law_8.all (fun e => ex_chk ex_mt tL_law e) = true := by decide +kernel
theorem ok_L_law_9 : bL_law_9.all (fun e => ex_chk ex_mt tL_law e) = true := by decide +kernel
theorem ok_L_law_10 : bL_law_10.all (fun e => ex_chk ex_mt tL_law e) = true := by decide +kernel
theorem ok_L_law_11 : bL_law_11.all (fun e => ex_chk ex_mt tL_law e) = true := by decide +kernel
theorem ok_L_law_12 : bL_law_12.all (fun e => ex_chk ex_mt tL_law e) = true := by decide +kernel
theorem ok_L_law_13 : bL_law_13.all (fun e => ex_chk ex_mt tL_law e) = true := by decide +kernel
theorem ok_L_law_14 : bL_law_14.all (fun e => ex_chk ex_mt tL_law e) = true := by decide +kernel
theorem ok_L_law_15 : bL_law_15.all (fun e => ex_chk ex_mt tL_law e) = true := by decide +kernel
theorem ok_L_law_16 : bL_law_16.all (fun e => ex_chk ex_mt tL_law e) = true := by decide +kernel
theorem ok_L_law_17 : bL_law_17.all (fun e => ex_chk ex_mt tL_law e) = true := by decide +kernel
theorem ok_L_law_18 : bL_law_18.all (fun e => ex_chk ex_mt tL_law e) = true := by decide +kernel
theorem ok_L_law_19 : bL_law_19.all (fun e => ex_chk ex_mt tL_law e) = true := by decide +kernel
theorem ok_L_law_20 : bL_law_20.all (fun e => ex_chk ex_mt tL_law e) = true := by decide +kernel
theorem ok_L_law_21 : bL_law_21.all (fun e => ex_chk ex_mt tL_law e) = true := by decide +kernel
theorem ok_L_law_22 : bL_law_22.all (fun e => ex_chk ex_mt tL_law e) = true := by decide +kernel
theorem ok_L_law_23 : bL_law_23.all (fun e => ex_chk ex_mt tL_law e) = true := by decide +kernel
theorem ok_L_law_24 : bL_law_24.all (fun e => ex_chk ex_mt tL_law e) = true := by decide +kernel
theorem ok_L_law_25 : bL_law_25.all (fun e => ex_chk ex_mt tL_law e) = true := by decide +kernel
end
section
/-! the tables keep to what they must (written by a program) -/
theorem ok_L_law_26 : bL_law_26.all (fun e => ex_chk ex_mt tL_law e) = true := by decide +kernel
theorem ok_L_law_27 : bL_law_27.all (fun e => ex_chk ex_mt tL_law e) = true := by decide +kernel
theorem ok_L_law_28 : bL_law_28.all (fun e => ex_chk ex_mt tL_law e) = true := by decide +kernel
theorem ok_L_law_29 : bL_law_29.all (fun e => ex_chk ex_mt tL_law e) = true := by decide +kernel
theorem ok_L_law_30 : bL_law_30.all (fun e => ex_chk ex_mt tL_law e) = true := by decide +kernel
theorem ok_L_law_31 : bL_law_31.all (fun e => ex_chk ex_mt tL_law e) = true := by decide +kernel
theorem ok_L_law_32 : bL_law_32.all (fun e => ex_chk ex_mt tL_law e) = true := by decide +kernel
theorem ok_L_law_33 : bL_law_33.all (fun e => ex_chk ex_mt tL_law e) = true := by decide +kernel
theorem ok_L_law_34 : bL_law_34.all (fun e => ex_chk ex_mt tL_law e) = true := by decide +kernel
theorem ok_L_law_35 : bL_law_35.all (fun e => ex_chk ex_mt tL_law e) = true := by decide +kernel
theorem ok_L_law_36 : bL_law_36.all (fun e => ex_chk ex_mt tL_law e) = true := by decide +kernel
theorem ok_L_law_37 : bL_law_37.all (fun e => ex_chk ex_mt tL_law e) = true := by decide +kernel
theorem ok_L_law_38 : bL_law_38.all (fun e => ex_chk ex_mt tL_law e) = true := by decide +kernel
end
section
/-! the tables keep to what they must (written by a program) -/
theorem ok_L_law_39 : bL_law_39.all (fun e => ex_chk ex_mt tL_law e) = true := by decide +kernel
theorem ok_L_law_40 : bL_law_40.all (fun e => ex_chk ex_mt tL_law e) = true := by decide +kernel
theorem ok_L_law_41 : bL_law_41.all (fun e => ex_chk ex_mt tL_law e) = true := by decide +kernel
theorem ok_L_law_42 : bL_law_42.all (fun e => ex_chk ex_mt tL_law e) = true := by decide +kernel
theorem ok_L_law_43 : bL_law_43.all (fun e => ex_chk ex_mt tL_law e) = true := by decide +kernel
theorem ok_L_law_44 : bL_law_44.all (fun e => ex_chk ex_mt tL_law e) = true := by decide +kernel
theorem ok_L_law_45 : bL_law_45.all (fun e => ex_chk ex_mt tL_law e) = true := by decide +kernel
theorem ok_L_law_46 : bL_law_46.all (fun e => ex_chk ex_mt tL_law e) = true := by decide +kernel
theorem ok_L_law_47 : bL_law_47.all (fun e => ex_chk ex_mt tL_law e) = true := by decide +kernel
theorem ok_L_law_48 : bL_law_48.all (fun e => ex_chk ex_mt tL_law e) = true := by decide +kernel
end
section
/-! the tables keep to what they must (written by a program) -/
theorem ok_L_law_49 : bL_law_49.all (fun e => ex_chk ex_mt tL_law e) = true := by decide +kernel
theorem ok_L_law_50 : bL_law_50.all (fun e => ex_chk ex_mt tL_law e) = true := by decide +kernel
theorem ok_L_law_51 : bL_law_51.all (fun e => ex_chk ex_mt tL_law e) = true := by decide +kernel
theorem ok_L_law_52 : bL_law_52.all (fun e => ex_chk ex_mt tL_law e) = true := by decide +kernel
theorem ok_L_law_53 : bL_law_53.all (fun e => ex_chk ex_mt tL_law e) = true := by decide +kernel
theorem ok_L_law_54 : bL_law_54.all (fun e => ex_chk ex_mt tL_law e) = true := by decide +kernel
theorem ok_L_law : ex_tok ex_mt tL_law = true := by
  unfold ex_tok
  rw [Bool.and_eq_true]
  refine ⟨by decide +kernel, ?_⟩
  show List.all [bL_law_0, bL_law_1, [], [], [], [], [], bL_law_7, bL_law_8, bL_law_9, bL_law_10, bL_law_11, bL_law_12, bL_law_13, bL_law_14, bL_law_15, bL_law_16, bL_law_17, bL_law_18, bL_law_19, bL_law_20, bL_law_21, bL_law_22, bL_law_23, bL_law_24, bL_law_25, bL_law_26, bL_law_27, bL_law_28, bL_law_29, bL_law_30, bL_law_31, bL_law_32, bL_law_33, bL_law_34, bL_law_35, bL_law_36, bL_law_37, bL_law_38, bL_law_39, bL_law_40, bL_law_41, bL_law_42, bL_law_43, bL_law_44, bL_law_45, bL_law_46, bL_law_47, bL_law_48, bL_law_49, bL_law_50, bL_law_51, bL_law_52, bL_law_53, bL_law_54] _ = true
  simp only [List.all_cons, List.all_nil, ok_L_law_0, ok_L_law_1, ok_L_law_7, ok_L_law_8, ok_L_law_9, ok_L_law_10, ok_L_law_11, ok_L_law_12, ok_L_law_13, ok_L_law_14, ok_L_law_15, ok_L_law_16, ok_L_law_17, ok_L_law_18, ok_L_law_19, ok_L_law_20, ok_L_law_21, ok_L_law_22, ok_L_law_23, ok_L_law_24, ok_L_law_25, ok_L_law_26, ok_L_law_27, ok_L_law_28, ok_L_law_29, ok_L_law_30, ok_L_law_31, ok_L_law_32, ok_L_law_33, ok_L_law_34, ok_L_law_35, ok_L_law_36, ok_L_law_37, ok_L_law_38, ok_L_law_39, ok_L_law_40, ok_L_law_41, ok_L_law_42, ok_L_law_43, ok_L_law_44, ok_L_law_45, ok_L_law_46, ok_L_law_47, ok_L_law_48, ok_L_law_49, ok_L_law_50, ok_L_law_51, ok_L_law_52, ok_L_law_53, ok_L_law_54, Bool.and_true]
theorem ok_J7_fill_53178 : ex_tok ex_mt tJ7_fill_53178 = true := by decide +kernel
theorem ok_L_curve : ex_tok ex_mt tL_curve = true := by decide +kernel
theorem ok_L_earns : ex_tok ex_mt tL_earns = true := by decide +kernel
theorem ok_L_gain : ex_tok ex_mt tL_gain = true := by decide +kernel
theorem ok_L_meant : ex_tok ex_mt tL_meant = true := by decide +kernel
theorem ok_L_plan : ex_tok ex_mt tL_plan = true := by decide +kernel
theorem ok_L_window : ex_tok ex_mt tL_window = true := by decide +kernel
theorem ok_L_yet : ex_tok ex_mt tL_yet = true := by decide +kernel
theorem ok_X0_init : ex_tok ex_mt tX0_init = true := by decide +kernel
theorem ok_X10_append : ex_tok ex_mt tX10_append = true := by decide +kernel
theorem ok_X10_byteAt : ex_tok ex_mt tX10_byteAt = true := by decide +kernel
theorem ok_X10_hasRoom : ex_tok ex_mt tX10_hasRoom = true := by decide +kernel
theorem ok_X10_init : ex_tok ex_mt tX10_init = true := by decide +kernel
theorem ok_X11_begin : ex_tok ex_mt tX11_begin = true := by decide +kernel
theorem ok_X11_best : ex_tok ex_mt tX11_best = true := by decide +kernel
theorem ok_X11_better : ex_tok ex_mt tX11_better = true := by decide +kernel
theorem ok_X11_border : ex_tok ex_mt tX11_border = true := by decide +kernel
end
section
/-! the tables keep to what they must (written by a program) -/
theorem ok_X11_canDraw : ex_tok ex_mt tX11_canDraw = true := by decide +kernel
theorem ok_X11_change : ex_tok ex_mt tX11_change = true := by decide +kernel
theorem ok_X11_copyRow : ex_tok ex_mt tX11_copyRow = true := by decide +kernel
theorem ok_X11_count : ex_tok ex_mt tX11_count = true := by decide +kernel
theorem ok_X11_curve : ex_tok ex_mt tX11_curve = true := by decide +kernel
theorem ok_X11_drawn : ex_tok ex_mt tX11_drawn = true := by decide +kernel
theorem ok_X11_earns : ex_tok ex_mt tX11_earns = true := by decide +kernel
theorem ok_X11_end : ex_tok ex_mt tX11_end = true := by decide +kernel
theorem ok_X11_entry : ex_tok ex_mt tX11_entry = true := by decide +kernel
theorem ok_X11_fault : ex_tok ex_mt tX11_fault = true := by decide +kernel
theorem ok_X11_feed : ex_tok ex_mt tX11_feed = true := by decide +kernel
theorem ok_X11_gain : ex_tok ex_mt tX11_gain = true := by decide +kernel
theorem ok_X11_heard : ex_tok ex_mt tX11_heard = true := by decide +kernel
theorem ok_X11_idle : ex_tok ex_mt tX11_idle = true := by decide +kernel
theorem ok_X11_image : ex_tok ex_mt tX11_image = true := by decide +kernel
theorem ok_X11_imageAt : ex_tok ex_mt tX11_imageAt = true := by decide +kernel
theorem ok_X11_init_0 : bX11_init_0.all (fun e => ex_chk ex_mt tX11_init e) = true := by decide +kernel
theorem ok_X11_init_1 : bX11_init_1.all (fun e => ex_chk ex_mt tX11_init e) = true := by decide +kernel
theorem ok_X11_init_2 : bX11_init_2.all (fun e => ex_chk ex_mt tX11_init e) = true := by decide +kernel
theorem ok_X11_init_3 : bX11_init_3.all (fun e => ex_chk ex_mt tX11_init e) = true := by decide +kernel
theorem ok_X11_init_4 : bX11_init_4.all (fun e => ex_chk ex_mt tX11_init e) = true := by decide +kernel
theorem ok_X11_init_5 : bX11_init_5.all (fun e => ex_chk ex_mt tX11_init e) = true := by decide +kernel
theorem ok_X11_init : ex_tok ex_mt tX11_init = true := by
  unfold ex_tok
  rw [Bool.and_eq_true]
  refine ⟨by decide +kernel, ?_⟩
  show List.all [bX11_init_0, bX11_init_1, bX11_init_2, bX11_init_3, bX11_init_4, bX11_init_5] _ = true
  simp only [List.all_cons, List.all_nil, ok_X11_init_0, ok_X11_init_1, ok_X11_init_2, ok_X11_init_3, ok_X11_init_4, ok_X11_init_5, Bool.and_true]
theorem ok_X11_isPart : ex_tok ex_mt tX11_isPart = true := by decide +kernel
theorem ok_X11_keepIfDone : ex_tok ex_mt tX11_keepIfDone = true := by decide +kernel
theorem ok_X11_keepTrial : ex_tok ex_mt tX11_keepTrial = true := by decide +kernel
theorem ok_X11_latest : ex_tok ex_mt tX11_latest = true := by decide +kernel
theorem ok_X11_log : ex_tok ex_mt tX11_log = true := by decide +kernel
theorem ok_X11_logged : ex_tok ex_mt tX11_logged = true := by decide +kernel
theorem ok_X11_luckiest : ex_tok ex_mt tX11_luckiest = true := by decide +kernel
theorem ok_X11_meant : ex_tok ex_mt tX11_meant = true := by decide +kernel
theorem ok_X11_needs : ex_tok ex_mt tX11_needs = true := by decide +kernel
theorem ok_X11_now : ex_tok ex_mt tX11_now = true := by decide +kernel
theorem ok_X11_plan : ex_tok ex_mt tX11_plan = true := by decide +kernel
theorem ok_X11_put : ex_tok ex_mt tX11_put = true := by decide +kernel
theorem ok_X11_race : ex_tok ex_mt tX11_race = true := by decide +kernel
theorem ok_X11_restore : ex_tok ex_mt tX11_restore = true := by decide +kernel
theorem ok_X11_said : ex_tok ex_mt tX11_said = true := by decide +kernel
theorem ok_X11_sale : ex_tok ex_mt tX11_sale = true := by decide +kernel
theorem ok_X11_sell : ex_tok ex_mt tX11_sell = true := by decide +kernel
end
section
/-! the tables keep to what they must (written by a program) -/
theorem ok_X11_sellers : ex_tok ex_mt tX11_sellers = true := by decide +kernel
theorem ok_X11_sentence : ex_tok ex_mt tX11_sentence = true := by decide +kernel
theorem ok_X11_share : ex_tok ex_mt tX11_share = true := by decide +kernel
theorem ok_X11_stand : ex_tok ex_mt tX11_stand = true := by decide +kernel
theorem ok_X11_station : ex_tok ex_mt tX11_station = true := by decide +kernel
theorem ok_X11_stood : ex_tok ex_mt tX11_stood = true := by decide +kernel
theorem ok_X11_train : ex_tok ex_mt tX11_train = true := by decide +kernel
theorem ok_X11_trust : ex_tok ex_mt tX11_trust = true := by decide +kernel
theorem ok_X11_undo : ex_tok ex_mt tX11_undo = true := by decide +kernel
theorem ok_X11_waits : ex_tok ex_mt tX11_waits = true := by decide +kernel
theorem ok_X11_walk : ex_tok ex_mt tX11_walk = true := by decide +kernel
theorem ok_X11_weekly : ex_tok ex_mt tX11_weekly = true := by decide +kernel
theorem ok_X11_window : ex_tok ex_mt tX11_window = true := by decide +kernel
theorem ok_X11_yet : ex_tok ex_mt tX11_yet = true := by decide +kernel
theorem ok_X12_bad : ex_tok ex_mt tX12_bad = true := by decide +kernel
theorem ok_X12_begin : ex_tok ex_mt tX12_begin = true := by decide +kernel
theorem ok_X12_best : ex_tok ex_mt tX12_best = true := by decide +kernel
theorem ok_X12_better : ex_tok ex_mt tX12_better = true := by decide +kernel
theorem ok_X12_border : ex_tok ex_mt tX12_border = true := by decide +kernel
theorem ok_X12_canAct : ex_tok ex_mt tX12_canAct = true := by decide +kernel
theorem ok_X12_change : ex_tok ex_mt tX12_change = true := by decide +kernel
theorem ok_X12_clears : ex_tok ex_mt tX12_clears = true := by decide +kernel
theorem ok_X12_comes : ex_tok ex_mt tX12_comes = true := by decide +kernel
theorem ok_X12_count : ex_tok ex_mt tX12_count = true := by decide +kernel
theorem ok_X12_curve : ex_tok ex_mt tX12_curve = true := by decide +kernel
theorem ok_X12_drawn : ex_tok ex_mt tX12_drawn = true := by decide +kernel
theorem ok_X12_earns : ex_tok ex_mt tX12_earns = true := by decide +kernel
theorem ok_X12_end : ex_tok ex_mt tX12_end = true := by decide +kernel
theorem ok_X12_fault : ex_tok ex_mt tX12_fault = true := by decide +kernel
theorem ok_X12_feed : ex_tok ex_mt tX12_feed = true := by decide +kernel
end
section
/-! the tables keep to what they must (written by a program) -/
theorem ok_X12_four : ex_tok ex_mt tX12_four = true := by decide +kernel
theorem ok_X12_gain : ex_tok ex_mt tX12_gain = true := by decide +kernel
theorem ok_X12_greater : ex_tok ex_mt tX12_greater = true := by decide +kernel
theorem ok_X12_heard : ex_tok ex_mt tX12_heard = true := by decide +kernel
theorem ok_X12_hears : ex_tok ex_mt tX12_hears = true := by decide +kernel
theorem ok_X12_idle : ex_tok ex_mt tX12_idle = true := by decide +kernel
theorem ok_X12_image : ex_tok ex_mt tX12_image = true := by decide +kernel
theorem ok_X12_init_0 : bX12_init_0.all (fun e => ex_chk ex_mt tX12_init e) = true := by decide +kernel
theorem ok_X12_init_1 : bX12_init_1.all (fun e => ex_chk ex_mt tX12_init e) = true := by decide +kernel
theorem ok_X12_init_2 : bX12_init_2.all (fun e => ex_chk ex_mt tX12_init e) = true := by decide +kernel
theorem ok_X12_init_3 : bX12_init_3.all (fun e => ex_chk ex_mt tX12_init e) = true := by decide +kernel
theorem ok_X12_init_4 : bX12_init_4.all (fun e => ex_chk ex_mt tX12_init e) = true := by decide +kernel
theorem ok_X12_init_5 : bX12_init_5.all (fun e => ex_chk ex_mt tX12_init e) = true := by decide +kernel
theorem ok_X12_init : ex_tok ex_mt tX12_init = true := by
  unfold ex_tok
  rw [Bool.and_eq_true]
  refine ⟨by decide +kernel, ?_⟩
  show List.all [bX12_init_0, bX12_init_1, bX12_init_2, bX12_init_3, bX12_init_4, bX12_init_5] _ = true
  simp only [List.all_cons, List.all_nil, ok_X12_init_0, ok_X12_init_1, ok_X12_init_2, ok_X12_init_3, ok_X12_init_4, ok_X12_init_5, Bool.and_true]
theorem ok_X12_isIn : ex_tok ex_mt tX12_isIn = true := by decide +kernel
theorem ok_X12_isSign : ex_tok ex_mt tX12_isSign = true := by decide +kernel
theorem ok_X12_isThere : ex_tok ex_mt tX12_isThere = true := by decide +kernel
theorem ok_X12_isWindow : ex_tok ex_mt tX12_isWindow = true := by decide +kernel
theorem ok_X12_isWord : ex_tok ex_mt tX12_isWord = true := by decide +kernel
theorem ok_X12_keep : ex_tok ex_mt tX12_keep = true := by decide +kernel
theorem ok_X12_latest : ex_tok ex_mt tX12_latest = true := by decide +kernel
theorem ok_X12_leafOf : ex_tok ex_mt tX12_leafOf = true := by decide +kernel
theorem ok_X12_log_0 : bX12_log_0.all (fun e => ex_chk ex_mt tX12_log e) = true := by decide +kernel
theorem ok_X12_log_1 : bX12_log_1.all (fun e => ex_chk ex_mt tX12_log e) = true := by decide +kernel
theorem ok_X12_log_2 : bX12_log_2.all (fun e => ex_chk ex_mt tX12_log e) = true := by decide +kernel
theorem ok_X12_log_3 : bX12_log_3.all (fun e => ex_chk ex_mt tX12_log e) = true := by decide +kernel
theorem ok_X12_log_4 : bX12_log_4.all (fun e => ex_chk ex_mt tX12_log e) = true := by decide +kernel
theorem ok_X12_log_6 : bX12_log_6.all (fun e => ex_chk ex_mt tX12_log e) = true := by decide +kernel
theorem ok_X12_log_7 : bX12_log_7.all (fun e => ex_chk ex_mt tX12_log e) = true := by decide +kernel
theorem ok_X12_log_8 : bX12_log_8.all (fun e => ex_chk ex_mt tX12_log e) = true := by decide +kernel
theorem ok_X12_log_9 : bX12_log_9.all (fun e => ex_chk ex_mt tX12_log e) = true := by decide +kernel
theorem ok_X12_log_10 : bX12_log_10.all (fun e => ex_chk ex_mt tX12_log e) = true := by decide +kernel
theorem ok_X12_log : ex_tok ex_mt tX12_log = true := by
  unfold ex_tok
  rw [Bool.and_eq_true]
  refine ⟨by decide +kernel, ?_⟩
  show List.all [bX12_log_0, bX12_log_1, bX12_log_2, bX12_log_3, bX12_log_4, [], bX12_log_6, bX12_log_7, bX12_log_8, bX12_log_9, bX12_log_10] _ = true
  simp only [List.all_cons, List.all_nil, ok_X12_log_0, ok_X12_log_1, ok_X12_log_2, ok_X12_log_3, ok_X12_log_4, ok_X12_log_6, ok_X12_log_7, ok_X12_log_8, ok_X12_log_9, ok_X12_log_10, Bool.and_true]
theorem ok_X12_logged : ex_tok ex_mt tX12_logged = true := by decide +kernel
theorem ok_X12_luckiest : ex_tok ex_mt tX12_luckiest = true := by decide +kernel
theorem ok_X12_meant : ex_tok ex_mt tX12_meant = true := by decide +kernel
theorem ok_X12_needs : ex_tok ex_mt tX12_needs = true := by decide +kernel
theorem ok_X12_next : ex_tok ex_mt tX12_next = true := by decide +kernel
theorem ok_X12_now : ex_tok ex_mt tX12_now = true := by decide +kernel
end
section
/-! the tables keep to what they must (written by a program) -/
theorem ok_X12_off : ex_tok ex_mt tX12_off = true := by decide +kernel
theorem ok_X12_operand : ex_tok ex_mt tX12_operand = true := by decide +kernel
theorem ok_X12_peek : ex_tok ex_mt tX12_peek = true := by decide +kernel
theorem ok_X12_plan : ex_tok ex_mt tX12_plan = true := by decide +kernel
theorem ok_X12_race : ex_tok ex_mt tX12_race = true := by decide +kernel
theorem ok_X12_restore : ex_tok ex_mt tX12_restore = true := by decide +kernel
theorem ok_X12_rowGain : ex_tok ex_mt tX12_rowGain = true := by decide +kernel
theorem ok_X12_said : ex_tok ex_mt tX12_said = true := by decide +kernel
theorem ok_X12_sale : ex_tok ex_mt tX12_sale = true := by decide +kernel
theorem ok_X12_secondsOf : ex_tok ex_mt tX12_secondsOf = true := by decide +kernel
theorem ok_X12_sell : ex_tok ex_mt tX12_sell = true := by decide +kernel
theorem ok_X12_sellers : ex_tok ex_mt tX12_sellers = true := by decide +kernel
theorem ok_X12_sentence : ex_tok ex_mt tX12_sentence = true := by decide +kernel
theorem ok_X12_share : ex_tok ex_mt tX12_share = true := by decide +kernel
theorem ok_X12_stand : ex_tok ex_mt tX12_stand = true := by decide +kernel
theorem ok_X12_standMany : ex_tok ex_mt tX12_standMany = true := by decide +kernel
theorem ok_X12_standing : ex_tok ex_mt tX12_standing = true := by decide +kernel
theorem ok_X12_station : ex_tok ex_mt tX12_station = true := by decide +kernel
theorem ok_X12_stood : ex_tok ex_mt tX12_stood = true := by decide +kernel
theorem ok_X12_taken : ex_tok ex_mt tX12_taken = true := by decide +kernel
theorem ok_X12_thrown : ex_tok ex_mt tX12_thrown = true := by decide +kernel
theorem ok_X12_throwsIf : ex_tok ex_mt tX12_throwsIf = true := by decide +kernel
theorem ok_X12_train : ex_tok ex_mt tX12_train = true := by decide +kernel
theorem ok_X12_trust : ex_tok ex_mt tX12_trust = true := by decide +kernel
theorem ok_X12_undo : ex_tok ex_mt tX12_undo = true := by decide +kernel
theorem ok_X12_waits : ex_tok ex_mt tX12_waits = true := by decide +kernel
theorem ok_X12_walk : ex_tok ex_mt tX12_walk = true := by decide +kernel
theorem ok_X12_weekly : ex_tok ex_mt tX12_weekly = true := by decide +kernel
theorem ok_X12_weightOf : ex_tok ex_mt tX12_weightOf = true := by decide +kernel
theorem ok_X12_whySell : ex_tok ex_mt tX12_whySell = true := by decide +kernel
theorem ok_X12_whyWait : ex_tok ex_mt tX12_whyWait = true := by decide +kernel
theorem ok_X12_whyWalk : ex_tok ex_mt tX12_whyWalk = true := by decide +kernel
theorem ok_X12_window : ex_tok ex_mt tX12_window = true := by decide +kernel
theorem ok_X12_yet_0 : bX12_yet_0.all (fun e => ex_chk ex_mt tX12_yet e) = true := by decide +kernel
theorem ok_X12_yet_1 : bX12_yet_1.all (fun e => ex_chk ex_mt tX12_yet e) = true := by decide +kernel
theorem ok_X12_yet_2 : bX12_yet_2.all (fun e => ex_chk ex_mt tX12_yet e) = true := by decide +kernel
theorem ok_X12_yet_3 : bX12_yet_3.all (fun e => ex_chk ex_mt tX12_yet e) = true := by decide +kernel
theorem ok_X12_yet_4 : bX12_yet_4.all (fun e => ex_chk ex_mt tX12_yet e) = true := by decide +kernel
theorem ok_X12_yet : ex_tok ex_mt tX12_yet = true := by
  unfold ex_tok
  rw [Bool.and_eq_true]
  refine ⟨by decide +kernel, ?_⟩
  show List.all [bX12_yet_0, bX12_yet_1, bX12_yet_2, bX12_yet_3, bX12_yet_4] _ = true
  simp only [List.all_cons, List.all_nil, ok_X12_yet_0, ok_X12_yet_1, ok_X12_yet_2, ok_X12_yet_3, ok_X12_yet_4, Bool.and_true]
theorem ok_X1_init : ex_tok ex_mt tX1_init = true := by decide +kernel
end
section
/-! the tables keep to what they must (written by a program) -/
theorem ok_X1_keep : ex_tok ex_mt tX1_keep = true := by decide +kernel
theorem ok_X2_init : ex_tok ex_mt tX2_init = true := by decide +kernel
theorem ok_X2_judge : ex_tok ex_mt tX2_judge = true := by decide +kernel
theorem ok_X2_readFrom : ex_tok ex_mt tX2_readFrom = true := by decide +kernel
theorem ok_X3_add : ex_tok ex_mt tX3_add = true := by decide +kernel
theorem ok_X3_clear : ex_tok ex_mt tX3_clear = true := by decide +kernel
theorem ok_X3_init : ex_tok ex_mt tX3_init = true := by decide +kernel
theorem ok_X3_sceneAt : ex_tok ex_mt tX3_sceneAt = true := by decide +kernel
theorem ok_X3_takeBack : ex_tok ex_mt tX3_takeBack = true := by decide +kernel
theorem ok_X4_clearRests : ex_tok ex_mt tX4_clearRests = true := by decide +kernel
theorem ok_X4_forget : ex_tok ex_mt tX4_forget = true := by decide +kernel
theorem ok_X4_init : ex_tok ex_mt tX4_init = true := by decide +kernel
theorem ok_X4_prepareBest : ex_tok ex_mt tX4_prepareBest = true := by decide +kernel
theorem ok_X4_prepareGains : ex_tok ex_mt tX4_prepareGains = true := by decide +kernel
theorem ok_X4_prepareStarts : ex_tok ex_mt tX4_prepareStarts = true := by decide +kernel
theorem ok_X4_rowGain : ex_tok ex_mt tX4_rowGain = true := by decide +kernel
theorem ok_X4_traceBest : ex_tok ex_mt tX4_traceBest = true := by decide +kernel
theorem ok_X5_init : ex_tok ex_mt tX5_init = true := by decide +kernel
theorem ok_X6_hasMore : ex_tok ex_mt tX6_hasMore = true := by decide +kernel
theorem ok_X6_init : ex_tok ex_mt tX6_init = true := by decide +kernel
theorem ok_X6_isAt : ex_tok ex_mt tX6_isAt = true := by decide +kernel
theorem ok_X6_open : ex_tok ex_mt tX6_open = true := by decide +kernel
theorem ok_X6_refuse : ex_tok ex_mt tX6_refuse = true := by decide +kernel
theorem ok_X6_step : ex_tok ex_mt tX6_step = true := by decide +kernel
theorem ok_X6_wordOf : ex_tok ex_mt tX6_wordOf = true := by decide +kernel
theorem ok_X7_canAct : ex_tok ex_mt tX7_canAct = true := by decide +kernel
theorem ok_X7_clear : ex_tok ex_mt tX7_clear = true := by decide +kernel
theorem ok_X7_comes : ex_tok ex_mt tX7_comes = true := by decide +kernel
theorem ok_X7_copyFrom : ex_tok ex_mt tX7_copyFrom = true := by decide +kernel
theorem ok_X7_init : ex_tok ex_mt tX7_init = true := by decide +kernel
end
section
/-! the tables keep to what they must (written by a program) -/
theorem ok_X7_isThere : ex_tok ex_mt tX7_isThere = true := by decide +kernel
theorem ok_X7_rests : ex_tok ex_mt tX7_rests = true := by decide +kernel
theorem ok_X7_salesOf : ex_tok ex_mt tX7_salesOf = true := by decide +kernel
theorem ok_X7_sells : ex_tok ex_mt tX7_sells = true := by decide +kernel
theorem ok_X7_walks : ex_tok ex_mt tX7_walks = true := by decide +kernel
theorem ok_X8_clear : ex_tok ex_mt tX8_clear = true := by decide +kernel
theorem ok_X8_copyFrom : ex_tok ex_mt tX8_copyFrom = true := by decide +kernel
theorem ok_X8_init : ex_tok ex_mt tX8_init = true := by decide +kernel
theorem ok_X8_readCond : ex_tok ex_mt tX8_readCond = true := by decide +kernel
theorem ok_X8_readFrom : ex_tok ex_mt tX8_readFrom = true := by decide +kernel
theorem ok_X8_readOne : ex_tok ex_mt tX8_readOne = true := by decide +kernel
theorem ok_X9_addUsualStand : ex_tok ex_mt tX9_addUsualStand = true := by decide +kernel
theorem ok_X9_basket : ex_tok ex_mt tX9_basket = true := by decide +kernel
theorem ok_X9_clear : ex_tok ex_mt tX9_clear = true := by decide +kernel
theorem ok_X9_copyFrom : ex_tok ex_mt tX9_copyFrom = true := by decide +kernel
theorem ok_X9_has : ex_tok ex_mt tX9_has = true := by decide +kernel
theorem ok_X9_init : ex_tok ex_mt tX9_init = true := by decide +kernel
theorem ok_X9_longest : ex_tok ex_mt tX9_longest = true := by decide +kernel
theorem ok_X9_readFrom : ex_tok ex_mt tX9_readFrom = true := by decide +kernel
theorem ok_X9_secondsOf : ex_tok ex_mt tX9_secondsOf = true := by decide +kernel
theorem ok_X9_settingOf : ex_tok ex_mt tX9_settingOf = true := by decide +kernel
theorem ok_X9_weightFrom : ex_tok ex_mt tX9_weightFrom = true := by decide +kernel
theorem ok_X9_weightOf : ex_tok ex_mt tX9_weightOf = true := by decide +kernel
end
section
theorem ok_row0 : ([tL_law, tJ7_fill_53178, tL_curve, tL_earns, tL_gain, tL_meant, tL_plan, tL_window, tL_yet, tX0_init, tX10_append, tX10_byteAt, tX10_hasRoom, tX10_init] : List ex_T).all (fun T => ex_tok ex_mt T) = true := by
  simp only [List.all_cons, List.all_nil, ok_L_law, ok_J7_fill_53178, ok_L_curve, ok_L_earns, ok_L_gain, ok_L_meant, ok_L_plan, ok_L_window, ok_L_yet, ok_X0_init, ok_X10_append, ok_X10_byteAt, ok_X10_hasRoom, ok_X10_init, Bool.and_true]
theorem ok_row1 : ([tX11_begin, tX11_best, tX11_better, tX11_border, tX11_canDraw, tX11_change, tX11_copyRow, tX11_count, tX11_curve, tX11_drawn, tX11_earns, tX11_end, tX11_entry, tX11_fault] : List ex_T).all (fun T => ex_tok ex_mt T) = true := by
  simp only [List.all_cons, List.all_nil, ok_X11_begin, ok_X11_best, ok_X11_better, ok_X11_border, ok_X11_canDraw, ok_X11_change, ok_X11_copyRow, ok_X11_count, ok_X11_curve, ok_X11_drawn, ok_X11_earns, ok_X11_end, ok_X11_entry, ok_X11_fault, Bool.and_true]
theorem ok_row2 : ([tX11_feed, tX11_gain, tX11_heard, tX11_idle, tX11_image, tX11_imageAt, tX11_init, tX11_isPart, tX11_keepIfDone, tX11_keepTrial, tX11_latest, tX11_log, tX11_logged, tX11_luckiest] : List ex_T).all (fun T => ex_tok ex_mt T) = true := by
  simp only [List.all_cons, List.all_nil, ok_X11_feed, ok_X11_gain, ok_X11_heard, ok_X11_idle, ok_X11_image, ok_X11_imageAt, ok_X11_init, ok_X11_isPart, ok_X11_keepIfDone, ok_X11_keepTrial, ok_X11_latest, ok_X11_log, ok_X11_logged, ok_X11_luckiest, Bool.and_true]
theorem ok_row3 : ([tX11_meant, tX11_needs, tX11_now, tX11_plan, tX11_put, tX11_race, tX11_restore, tX11_said, tX11_sale, tX11_sell, tX11_sellers, tX11_sentence, tX11_share, tX11_stand] : List ex_T).all (fun T => ex_tok ex_mt T) = true := by
  simp only [List.all_cons, List.all_nil, ok_X11_meant, ok_X11_needs, ok_X11_now, ok_X11_plan, ok_X11_put, ok_X11_race, ok_X11_restore, ok_X11_said, ok_X11_sale, ok_X11_sell, ok_X11_sellers, ok_X11_sentence, ok_X11_share, ok_X11_stand, Bool.and_true]
theorem ok_row4 : ([tX11_station, tX11_stood, tX11_train, tX11_trust, tX11_undo, tX11_waits, tX11_walk, tX11_weekly, tX11_window, tX11_yet, tX12_bad, tX12_begin, tX12_best, tX12_better] : List ex_T).all (fun T => ex_tok ex_mt T) = true := by
  simp only [List.all_cons, List.all_nil, ok_X11_station, ok_X11_stood, ok_X11_train, ok_X11_trust, ok_X11_undo, ok_X11_waits, ok_X11_walk, ok_X11_weekly, ok_X11_window, ok_X11_yet, ok_X12_bad, ok_X12_begin, ok_X12_best, ok_X12_better, Bool.and_true]
theorem ok_row5 : ([tX12_border, tX12_canAct, tX12_change, tX12_clears, tX12_comes, tX12_count, tX12_curve, tX12_drawn, tX12_earns, tX12_end, tX12_fault, tX12_feed, tX12_four, tX12_gain] : List ex_T).all (fun T => ex_tok ex_mt T) = true := by
  simp only [List.all_cons, List.all_nil, ok_X12_border, ok_X12_canAct, ok_X12_change, ok_X12_clears, ok_X12_comes, ok_X12_count, ok_X12_curve, ok_X12_drawn, ok_X12_earns, ok_X12_end, ok_X12_fault, ok_X12_feed, ok_X12_four, ok_X12_gain, Bool.and_true]
theorem ok_row6 : ([tX12_greater, tX12_heard, tX12_hears, tX12_idle, tX12_image, tX12_init, tX12_isIn, tX12_isSign, tX12_isThere, tX12_isWindow, tX12_isWord, tX12_keep, tX12_latest, tX12_leafOf] : List ex_T).all (fun T => ex_tok ex_mt T) = true := by
  simp only [List.all_cons, List.all_nil, ok_X12_greater, ok_X12_heard, ok_X12_hears, ok_X12_idle, ok_X12_image, ok_X12_init, ok_X12_isIn, ok_X12_isSign, ok_X12_isThere, ok_X12_isWindow, ok_X12_isWord, ok_X12_keep, ok_X12_latest, ok_X12_leafOf, Bool.and_true]
theorem ok_row7 : ([tX12_log, tX12_logged, tX12_luckiest, tX12_meant, tX12_needs, tX12_next, tX12_now, tX12_off, tX12_operand, tX12_peek, tX12_plan, tX12_race, tX12_restore, tX12_rowGain] : List ex_T).all (fun T => ex_tok ex_mt T) = true := by
  simp only [List.all_cons, List.all_nil, ok_X12_log, ok_X12_logged, ok_X12_luckiest, ok_X12_meant, ok_X12_needs, ok_X12_next, ok_X12_now, ok_X12_off, ok_X12_operand, ok_X12_peek, ok_X12_plan, ok_X12_race, ok_X12_restore, ok_X12_rowGain, Bool.and_true]
theorem ok_row8 : ([tX12_said, tX12_sale, tX12_secondsOf, tX12_sell, tX12_sellers, tX12_sentence, tX12_share, tX12_stand, tX12_standMany, tX12_standing, tX12_station, tX12_stood, tX12_taken, tX12_thrown] : List ex_T).all (fun T => ex_tok ex_mt T) = true := by
  simp only [List.all_cons, List.all_nil, ok_X12_said, ok_X12_sale, ok_X12_secondsOf, ok_X12_sell, ok_X12_sellers, ok_X12_sentence, ok_X12_share, ok_X12_stand, ok_X12_standMany, ok_X12_standing, ok_X12_station, ok_X12_stood, ok_X12_taken, ok_X12_thrown, Bool.and_true]
theorem ok_row9 : ([tX12_throwsIf, tX12_train, tX12_trust, tX12_undo, tX12_waits, tX12_walk, tX12_weekly, tX12_weightOf, tX12_whySell, tX12_whyWait, tX12_whyWalk, tX12_window, tX12_yet, tX1_init] : List ex_T).all (fun T => ex_tok ex_mt T) = true := by
  simp only [List.all_cons, List.all_nil, ok_X12_throwsIf, ok_X12_train, ok_X12_trust, ok_X12_undo, ok_X12_waits, ok_X12_walk, ok_X12_weekly, ok_X12_weightOf, ok_X12_whySell, ok_X12_whyWait, ok_X12_whyWalk, ok_X12_window, ok_X12_yet, ok_X1_init, Bool.and_true]
theorem ok_row10 : ([tX1_keep, tX2_init, tX2_judge, tX2_readFrom, tX3_add, tX3_clear, tX3_init, tX3_sceneAt, tX3_takeBack, tX4_clearRests, tX4_forget, tX4_init, tX4_prepareBest, tX4_prepareGains] : List ex_T).all (fun T => ex_tok ex_mt T) = true := by
  simp only [List.all_cons, List.all_nil, ok_X1_keep, ok_X2_init, ok_X2_judge, ok_X2_readFrom, ok_X3_add, ok_X3_clear, ok_X3_init, ok_X3_sceneAt, ok_X3_takeBack, ok_X4_clearRests, ok_X4_forget, ok_X4_init, ok_X4_prepareBest, ok_X4_prepareGains, Bool.and_true]
theorem ok_row11 : ([tX4_prepareStarts, tX4_rowGain, tX4_traceBest, tX5_init, tX6_hasMore, tX6_init, tX6_isAt, tX6_open, tX6_refuse, tX6_step, tX6_wordOf, tX7_canAct, tX7_clear, tX7_comes] : List ex_T).all (fun T => ex_tok ex_mt T) = true := by
  simp only [List.all_cons, List.all_nil, ok_X4_prepareStarts, ok_X4_rowGain, ok_X4_traceBest, ok_X5_init, ok_X6_hasMore, ok_X6_init, ok_X6_isAt, ok_X6_open, ok_X6_refuse, ok_X6_step, ok_X6_wordOf, ok_X7_canAct, ok_X7_clear, ok_X7_comes, Bool.and_true]
theorem ok_row12 : ([tX7_copyFrom, tX7_init, tX7_isThere, tX7_rests, tX7_salesOf, tX7_sells, tX7_walks, tX8_clear, tX8_copyFrom, tX8_init, tX8_readCond, tX8_readFrom, tX8_readOne, tX9_addUsualStand] : List ex_T).all (fun T => ex_tok ex_mt T) = true := by
  simp only [List.all_cons, List.all_nil, ok_X7_copyFrom, ok_X7_init, ok_X7_isThere, ok_X7_rests, ok_X7_salesOf, ok_X7_sells, ok_X7_walks, ok_X8_clear, ok_X8_copyFrom, ok_X8_init, ok_X8_readCond, ok_X8_readFrom, ok_X8_readOne, ok_X9_addUsualStand, Bool.and_true]
theorem ok_row13 : ([tX9_basket, tX9_clear, tX9_copyFrom, tX9_has, tX9_init, tX9_longest, tX9_readFrom, tX9_secondsOf, tX9_settingOf, tX9_weightFrom, tX9_weightOf] : List ex_T).all (fun T => ex_tok ex_mt T) = true := by
  simp only [List.all_cons, List.all_nil, ok_X9_basket, ok_X9_clear, ok_X9_copyFrom, ok_X9_has, ok_X9_init, ok_X9_longest, ok_X9_readFrom, ok_X9_secondsOf, ok_X9_settingOf, ok_X9_weightFrom, ok_X9_weightOf, Bool.and_true]
theorem ex_mt_ok : ∀ mi T, ex_mt mi = some T → ex_tok ex_mt T = true := by
  intro mi T h
  unfold ex_mt at h
  split at h
  · rename_i l hl
    have hm := ex_nth_mem hl
    have ht := ex_nth_mem h
    have key : ∀ l ∈ ex_ms, l.all (fun T => ex_tok ex_mt T) = true := by
      unfold ex_ms
      simp only [List.forall_mem_cons, List.not_mem_nil, false_imp_iff, implies_true, and_true, ok_row0, ok_row1, ok_row2, ok_row3, ok_row4, ok_row5, ok_row6, ok_row7, ok_row8, ok_row9, ok_row10, ok_row11, ok_row12, ok_row13]
    exact List.all_eq_true.mp (key l hm) T ht
  · cases h
end
section
/-! the law, run by the executor: scripts of at most five ints, and for six ints the calls one by one; the kernel runs it -/
abbrev ex_e0 : ex_F := .tag 3 (.append (.tag 0 .line) (.nest 63 .nil))
noncomputable abbrev ex_law (pa : ex_Pa) : Bool := ex_run ex_mt 40000 tL_law [] 0 100 600002 7302232 [(0, .inr (.inr (.inr (some 0))))] [] [] (0, false, .nil, .nil, .nil, .nil) pa
set_option maxRecDepth 1000000 in
theorem law_runA : ex_law [(ex_len, 0, 5)] = true := by decide +kernel
end
section
set_option maxRecDepth 1000000 in
theorem law_runB : ex_law [(ex_e0, 0, 6), (ex_len, 6, 6)] = true := by decide +kernel
end
section
set_option maxRecDepth 1000000 in
theorem law_runC : ex_law [(ex_e0, 7, 20), (ex_len, 6, 6)] = true := by decide +kernel
end
section
set_option maxRecDepth 1000000 in
theorem law_runD : ex_law [(ex_e0, 21, 21), (ex_len, 6, 6)] = true := by decide +kernel
end
section
set_option maxRecDepth 1000000 in
theorem law_runE : ex_law [(ex_e0, 22, 39), (ex_len, 6, 6)] = true := by decide +kernel
end
section
set_option maxRecDepth 1000000 in
theorem law_runF : ex_law [(ex_e0, 40, 40), (ex_len, 6, 6)] = true := by decide +kernel
end
section
set_option maxRecDepth 1000000 in
theorem law_runG : ex_law [(ex_e0, 41, 63), (ex_len, 6, 6)] = true := by decide +kernel
end
section
/-! THE CLAIM OUT OF ONE WALK OF THE LAW'S BODY. Your part is whole_start (and what it stands on); all else here is the same for every law, but numbers. -/
def R_law : String := "WindowSaleLaw"
def lw_P (b : Addr) (xs : List Int32) (args : Array Value) (s : State) : Prop := args = #[.ref b] ∧ s.IntsAt b xs ∧ xs.length ≤ 6 ∧ (Jvm.Cond.and given_1 narrow_1).before args s = true
def lw_Q (_ : Array Value) (s : State) (o : Outcome) (t : State) : Prop := o = .returned (some (.int 1)) ∧ Framed s o t [] 600002 7302232
def lw_Z (below : List Frame) (a : Array Value) (s : State) : State → Prop := fun t => ∃ o, t.status = .running ∧ Ended t below o ∧ lw_Q a s o t
/-- the law's own end, with 1 on the stack, nothing written that was there before, its room as the claim has it -/
theorem lw_ret {p : Program} {l : Launch} {e : Env} {s : State} {m : MethodId} {below : List Frame} {meth : Method} {c : Code} {b : Nat} (hx : p.tables.exec = Jvm.exec) (hb : c.code = code) (hr : meth.sig.returnType = ret) (hlocks : meth.locks = false) {pc : Nat} {H : Heap} {ls : Array Slot} (hdg : decode code pc = .ok (.ireturn, 1)) : W p l e room_1 s m #[Value.ref b] below meth c H [] 600002 7302232 (lw_Z below #[Value.ref b] s) (F0 m pc ls [.int 1]) := by
  intro T hT X
  obtain ⟨fs, hret, hrun, hended, hW, hframe⟩ := X.leave (v := some (.int 1)) (hlocks := hlocks) (fun h => by rw [hr] at h; cases h)
  have hmeth' : T.vm.method? m = some meth := X.method'
  refine ⟨T.setFrames fs, ?_, .returned (some (.int 1)), hrun, hended, rfl, ⟨_, rfl⟩, hW, hframe⟩
  jvm_step X.here [X.here.top, hx, hb, hdg, hmeth', hr, ret, narrow_b1]
  (try refine ⟨rfl, ?_⟩); (try refine ⟨rfl, ?_⟩)
  first | (intro acts; rw [hret _ acts rfl rfl rfl]) | rw [hret _ _ rfl rfl rfl]
  exact Steps.refl _
/-- what holds at the law's entry: the machine, the code, the tables' words (any of lw_tbl by 'hts w (by decide +kernel)'), the script of L ints xs at the cell b, what the Statement gives of the start (any of its parts by flat_of_before) -/
def lw_At (p : Program) (s : State) (m : MethodId) (meth : Method) (c : Code) (b L : Nat) (xs : Nat → Int32) : Prop :=
  p.tables.exec = Jvm.exec ∧ c.code = code ∧ meth.sig.returnType = ret ∧ c.maxLocals = 7 ∧ s.vm.findClass R_law = some m.cls ∧ (∀ w ∈ lw_tbl, w.before #[Value.ref b] s = true) ∧ va_X b L xs s s.heap ∧ b < s.heap.size ∧ meth.locks = false ∧ (Jvm.Cond.and given_1 narrow_1).before #[Value.ref b] s = true
theorem law_one {g : am_C} (G : am_G g) {L : Nat} {xs : Nat → Int32} (hX : g.2.2.2.2.2.2 = am_X L xs) (hL : L ≤ 6) {ρ : Nat → Int32} (hρ : ∀ k, k < 100 → ρ k = xs k) (hρL : ρ 100 = Int32.ofNat L) {pa : ex_Pa} (hp : ex_P ρ pa) (h : ex_law pa = true) : am_K g 100 mL_law 600002 7302232 0 [(0, .retAddr 0)] [] am_s0 (fun r _ => r = some (some (.int 1))) := by
  have hr : ex_R ρ (0, false, .nil, .nil, .nil, .nil) am_s0 := by
    refine ⟨fun _ => rfl, fun o y _ hy => ?_, fun o k _ _ => ?_⟩
    · have hy' : ex_sh (ex_get 16 .nil o) = some y := hy
      rw [ex_get_nil] at hy'
      cases hy'
    · have e : ex_rd .nil o k = .nil := by
        unfold ex_rd
        rw [ex_get_nil, ex_get_nil]
      refine ⟨?_, ?_, ?_⟩
      · show (0 : Int32) = ex_i ρ (ex_rd .nil o k)
        rw [e]; rfl
      · show (0 : Int64) = ex_j (ex_rd .nil o k)
        rw [e]; rfl
      · show Value.null = ex_rv (ex_rd .nil o k)
        rw [e]; rfl
  exact ok_run G hX hL hρ hρL ex_mt_ok 40000 40000 (Nat.le_refl _) tL_law [] 0 100 600002 7302232 [(0, .inr (.inr (.inr (some 0))))] [] [] (0, false, .nil, .nil, .nil, .nil) pa am_s0 h ⟨ok_L_law, fun e he => by cases he⟩ hp hr
theorem law_K {g : am_C} (G : am_G g) {L : Nat} {xs : Nat → Int32} (hX : g.2.2.2.2.2.2 = am_X L xs) (hL : L ≤ 6) : am_K g 100 mL_law 600002 7302232 0 [(0, .retAddr 0)] [] am_s0 (fun r _ => r = some (some (.int 1))) := by
  obtain ⟨ρ, hρd⟩ : ∃ ρ : Nat → Int32, ρ = fun k => if k = 100 then Int32.ofNat L else xs k := ⟨_, rfl⟩
  have hρ : ∀ k, k < 100 → ρ k = xs k := fun k hk => by rw [hρd]; exact if_neg (by omega)
  have hρL : ρ 100 = Int32.ofNat L := by rw [hρd]; rfl
  have hlen : (ex_i ρ ex_len).toInt = L := by
    show (ρ 100).toInt = L
    rw [hρL]
    exact Int32.toInt_ofNat_of_lt (by omega)
  have hnil : ex_P ρ [] := fun q h => by cases h
  by_cases h5 : L ≤ 5
  · exact law_one G hX hL hρ hρL (hnil.cons (by omega) (by omega)) law_runA
  · have h6 : ex_P ρ [(ex_len, 6, 6)] := hnil.cons (by omega) (by omega)
    have hb : 0 ≤ (ex_i ρ ex_e0).toInt ∧ (ex_i ρ ex_e0).toInt ≤ 63 := ex_and_le (ρ 0) (c := 63) (by decide)
    by_cases c1 : (ex_i ρ ex_e0).toInt ≤ 6
    · exact law_one G hX hL hρ hρL (h6.cons (by omega) c1) law_runB
    by_cases c2 : (ex_i ρ ex_e0).toInt ≤ 20
    · exact law_one G hX hL hρ hρL (h6.cons (by omega) c2) law_runC
    by_cases c3 : (ex_i ρ ex_e0).toInt ≤ 21
    · exact law_one G hX hL hρ hρL (h6.cons (by omega) c3) law_runD
    by_cases c4 : (ex_i ρ ex_e0).toInt ≤ 39
    · exact law_one G hX hL hρ hρL (h6.cons (by omega) c4) law_runE
    by_cases c5 : (ex_i ρ ex_e0).toInt ≤ 40
    · exact law_one G hX hL hρ hρL (h6.cons (by omega) c5) law_runF
    · exact law_one G hX hL hρ hρL (h6.cons (by omega) hb.2) law_runG
theorem whole_start {p : Program} {e : Env} {s : State} {m : MethodId} {below : List Frame} {meth : Method} {c : Code} (l : Launch) (hlf : l.flags = flags0) {b L : Nat} {xs : Nat → Int32} (hL : L ≤ 6) (C0 : lw_At p s m meth c b L xs) : W p l e room_1 s m #[Value.ref b] below meth c s.heap [] 0 0 (lw_Z below #[Value.ref b] s) (entryFrame m ([Value.ref b] : List Value).toArray 7) := by
  obtain ⟨hx, hb, hr, hml, hown, hts, hX, hbl, hlocks, hgv⟩ := id C0
  obtain ⟨g, rfl, rfl, h0, hgX, G⟩ := am_start l hlf (by omega) hts hX hgv
  rw [lg_entry_eq]
  have hl := lv_entry ([Value.ref b]) (n := 7) (Nat.le_of_ble_eq_true rfl)
  have hl' : lv_has ((lg_sl [Value.ref b] ++ List.replicate (7 - (lg_sl [Value.ref b]).length) Slot.unset).toArray) 7 (am_lv g [(0, .retAddr 0)]) := by
    have e1 : am_lv g [(0, .retAddr 0)] = [(0, .ref b)] := by
      show [(0, Value.ref (g.2.2.2.2.2.1 0))] = _
      rw [h0]
    rw [e1]
    exact hl
  have F : am_F g mL_law p g.2.1 m meth c := ⟨hx, hb, hml, hr, hlocks, hown, State.WarmedH.refl _, fun h => absurd h (by decide), Or.inl rfl, Nat.le_refl _, fun _ _ => rfl⟩
  have hw := law_K G hgX hL p e room_1 g.2.1 m #[Value.ref b] below meth c g.2.1.heap [] 0 0 _ F (by decide) (by decide) (by decide) (by decide) am_Rep0 (fun q h => by cases h) hl'
  refine am_wmono ?_ hw
  intro t ht
  obtain ⟨o, a1, a2, ⟨⟨v, σ', ho, hp, -⟩, L9, ⟨f1, f2, f3⟩, f4⟩ | ⟨q, -, E, ce, L9, ⟨-, σ', h9, -⟩, -⟩⟩ := ht
  · cases hp
    refine ⟨o, a1, a2, ho, f1, f2, f3.weaken (fun y hy hlt => ?_) (Nat.le_refl _) (Nat.le_refl _)⟩
    exact absurd hlt (Nat.not_lt.mpr (f4 y hy))
  · cases h9
set_option maxHeartbeats 4000000 in
theorem lw_walk (l : Launch) (hlf : l.flags = flags0) (b : Addr) (xs : List Int32) : MetFree l x (headSpec (Jvm.Cond.code x code maxLocals ret :: tables_1) room_1) (lw_P b xs) (fun _ _ _ _ _ => True) lw_Q := by
  refine MetFree.of_bodyS (code := code) (maxLocals := maxLocals) (ret := ret) (by decide) ?_ ?_
  · intro args s m h hn
    obtain ⟨meth, c, h1, h2, h3, h4, h5, h6, -, -⟩ := Cond.code_spec hn (atoms_spec (ws := Jvm.Cond.code x code maxLocals ret :: tables_1) h _ List.mem_cons_self)
    exact ⟨meth, c, h1, h2, h3, h4, h5, h6⟩
  · intro p e s m args below meth c s₁ B hml0 hP _
    obtain ⟨rfl, hx, hbd, hgv⟩ := hP
    obtain ⟨scr, harrAt, hlist, hof, hsmall⟩ := hx
    obtain ⟨hcb, hkn, -, -⟩ := State.arrayAt?_spec harrAt
    have hown : s.vm.findClass R_law = some m.cls := findClass_of_methodNamed B.named
    have hts0 : ∀ c ∈ (Jvm.Cond.code x code maxLocals ret :: tables_1), c.before #[Value.ref b] s = true := atoms_spec (ws := Jvm.Cond.code x code maxLocals ret :: tables_1) B.pre
    have hts : ∀ w ∈ lw_tbl, w.before #[Value.ref b] s = true := k2_hts_sels lw_privs (fun w hw => hts0 w (List.mem_cons_of_mem _ hw)) lw_privs_ok
    have hml : c.maxLocals = 7 := B.maxLocals_eq (hts0 _ List.mem_cons_self)
    have X₀ : Stand p l e room_1 s m #[Value.ref b] below meth c s₁ [] 0 0 := Stand.of_body B
    have hh0 : s₁.heap = s.heap := by rw [B.state]; rfl
    have hsz : scr.slots.size = xs.length := by rw [← Array.length_toList, hlist, List.length_map]
    have hval : ∀ j : Nat, j < xs.length → scr.slots[j]? = some (.int (xs.getD j 0)) := fun j hj => by
      rw [← Array.getElem?_toList, hlist]
      simp [hj]
    have hbl : b < s.heap.size := (Array.getElem?_eq_some_iff.mp hcb).1
    have hX : va_X b xs.length (fun j => xs.getD j 0) s s.heap := ⟨scr, hcb, hof, hkn, hsz, hval⟩
    have K : W p l e room_1 s m #[Value.ref b] below meth c s₁.heap [] 0 0 (lw_Z below #[Value.ref b] s) (entryFrame m ([Value.ref b] : List Value).toArray 7) := by
      rw [hh0]
      exact whole_start l hlf hbd ⟨B.exec, B.bytes, B.returns, hml, hown, hts, hX, hbl, B.notSynchronized, hgv⟩
    obtain ⟨t, a1, o, b1, b2, b3⟩ := K s₁ rfl X₀
    exact ⟨t, o, a1, b1, b2, b3⟩
theorem lw_pre_spec {args : Array Value} {s : State} (h : (Jvm.Cond.and given_1 narrow_1).before args s = true) (hr : rest_1_c.before args s = true) : ∃ (b : Addr) (xs : List Int32), lw_P b xs args s := by
  have hs := flat_of_before _ h
  have hq := flat_of_before _ hr
  have hc : (Cond.count 1).before args s = true := hs _ (by decide +kernel)
  have harr : (Cond.arrayOf (.arg 0) .int).before args s = true := hs _ (by decide +kernel)
  have hle : (Cond.le (.length (.arg 0)) (.int 6)).before args s = true := hs _ (by decide +kernel)
  have hlen : (Cond.isInt (.length (.arg 0))).before args s = true := hq _ (by decide +kernel)
  have hall : (Cond.all (.arg 0) (.isInt (.elem (.arg 0) (.index 0)))).before args s = true := hq _ (by decide +kernel)
  obtain ⟨b, xs, hb, hx⟩ := State.ints_of_pre rfl harr hlen hall
  have hsm : xs.length < 2 ^ 31 := hx.choose_spec.2.2.2
  have hev : (Term.length (.arg 0)).eval args s none [] s = some (.int xs.length.toInt32) := hx.length_eval hb
  have hv := Cond.le_ints hev (show (Term.int 6).eval args s none [] s = some (.int 6) from rfl)
  have hd : xs.length.toInt32 ≤ 6 := by
    simpa [Cond.before, Cond.holds, hv] using hle
  have hN : xs.length ≤ 6 := (Int32.ofNat_le_ofNat hsm (by decide)).mp (show Int32.ofNat xs.length ≤ Int32.ofNat 6 from hd)
  exact ⟨b, xs, Cond.one_arg hc (show args[0]? = some (.ref b) from hb), hx, hN, h⟩
theorem lw_comes (l : Launch) (hlf : l.flags = flags0) : Comes l x (Jvm.Cond.code x code maxLocals ret :: tables_1) room_1 (fun tb e args s => Calls_1 tb e args s ∧ rest_1 tb e args s ∧ Pre_1 tb e args s)
    (fun _ _ args s o t => lw_Q args s o t) := by
  intro p e ha hc hk s m args below hf hfit hheap happ hpre
  obtain ⟨b, xs, hP⟩ := lw_pre_spec hpre.2.2 hpre.2.1
  obtain ⟨k, o, h1, h2, h3, hQ⟩ := lw_walk l hlf b xs p e ha hc hk s m args below hf ((Spec.applies_iff_loose hf).mp happ).1 hP trivial
  exact ⟨k, o, h1, h2, h3, hQ⟩
theorem lw_frame {s t : State} {o : Outcome} {args : Array Value} (h : Framed s o t [] 600002 7302232) :
    Framed s o t (fieldLocs frame_1_writes args s ++ arrayLocs frame_1_arrays args s ++ staticLocs frame_1_statics s) 600002 7302232 := h
theorem lw_limb (L : Cond) (hL : ∀ (args : Array Value) (s t : State), L.after args s (.returned (some (.int 1))) t = true) :
    ArmFor flags0 classFile x code maxLocals ret World_1 tables_1 room_1 Calls_1 rest_1 Pre_1
      (fun tb e a s o t => postC L tb e a s o t ∧ Framed s o t (fieldLocs frame_1_writes a s ++ arrayLocs frame_1_arrays a s ++ staticLocs frame_1_statics s) 600002 7302232) := by
  intro l hlf _ _ p e ha hc hk s m args below hf hfit hheap happ hpre
  obtain ⟨k, o, h1, h2, h3, rfl, hF⟩ := lw_comes l hlf p e ha hc hk s m args below hf hfit hheap happ hpre
  exact ⟨k, _, h1, h2, h3, hL args s _, lw_frame hF⟩
theorem i_vc : Claimed_1_1 ∧ Claimed_1_2 := ⟨lw_limb limb_1_1 (fun args s t => by simp [limb_1_1, Cond.after, Cond.holds, Cond.value]), lw_limb limb_1_2 (fun args s t => Cond.after_iff.mpr (by
  first | (rw [show limb_1_2 = Cond.eq .result (.int 1) from rfl, Cond.eq_ints (x := 1) (y := 1) rfl rfl]; simp; done) | (simp [limb_1_2, Cond.value, Term.eval]; done)))⟩
end
