section
-- ===== PART A: goes FIRST, ahead of the names: the tables' words, and 'selects' of the private methods out of them =====
/-- a private method of a class that the tables say can be made, by its rows of tables_1 -/
def lw_okq (q : MethodName × Nat) : Prop := (q.1.cls ≠ "java/lang/invoke/MethodHandle" ∧ q.1.cls ≠ "java/lang/invoke/VarHandle") ∧ Cond.instantiable q.1.cls q.2 ∈ tables_1 ∧ Cond.privateMethod q.1 ∈ tables_1 ∧ Cond.instanceMethod q.1 ∈ tables_1
theorem lw_p0 : lw_okq (⟨"BorrowedLuck$CoastReader", "readsWoman", "(I)Z"⟩, 3) := ⟨⟨by decide +kernel, by decide +kernel⟩, List.mem_of_getElem? (i := 176) (by decide +kernel), List.mem_of_getElem? (i := 490) (by decide +kernel), List.mem_of_getElem? (i := 491) (by decide +kernel)⟩
theorem lw_p1 : lw_okq (⟨"BorrowedLuck$CoastReader", "readsHer", "(III)Z"⟩, 3) := ⟨⟨by decide +kernel, by decide +kernel⟩, List.mem_of_getElem? (i := 176) (by decide +kernel), List.mem_of_getElem? (i := 494) (by decide +kernel), List.mem_of_getElem? (i := 495) (by decide +kernel)⟩
theorem lw_p2 : lw_okq (⟨"BorrowedLuck$CoastReader", "readsThing", "(I)Z"⟩, 3) := ⟨⟨by decide +kernel, by decide +kernel⟩, List.mem_of_getElem? (i := 176) (by decide +kernel), List.mem_of_getElem? (i := 509) (by decide +kernel), List.mem_of_getElem? (i := 510) (by decide +kernel)⟩
theorem lw_p3 : lw_okq (⟨"BorrowedLuck$CoastReader", "readsIts", "(III)Z"⟩, 3) := ⟨⟨by decide +kernel, by decide +kernel⟩, List.mem_of_getElem? (i := 176) (by decide +kernel), List.mem_of_getElem? (i := 513) (by decide +kernel), List.mem_of_getElem? (i := 514) (by decide +kernel)⟩
theorem lw_p4 : lw_okq (⟨"BorrowedLuck$LawReader", "readsAny", "(I)Z"⟩, 3) := ⟨⟨by decide +kernel, by decide +kernel⟩, List.mem_of_getElem? (i := 199) (by decide +kernel), List.mem_of_getElem? (i := 539) (by decide +kernel), List.mem_of_getElem? (i := 540) (by decide +kernel)⟩
theorem lw_p5 : lw_okq (⟨"BorrowedLuck$LawReader", "readsAll", "(I)Z"⟩, 3) := ⟨⟨by decide +kernel, by decide +kernel⟩, List.mem_of_getElem? (i := 199) (by decide +kernel), List.mem_of_getElem? (i := 543) (by decide +kernel), List.mem_of_getElem? (i := 544) (by decide +kernel)⟩
theorem lw_p6 : lw_okq (⟨"BorrowedLuck$LawReader", "readsAtom", "(I)Z"⟩, 3) := ⟨⟨by decide +kernel, by decide +kernel⟩, List.mem_of_getElem? (i := 199) (by decide +kernel), List.mem_of_getElem? (i := 547) (by decide +kernel), List.mem_of_getElem? (i := 548) (by decide +kernel)⟩
theorem lw_p7 : lw_okq (⟨"BorrowedLuck$LawReader", "readsSum", "()Z"⟩, 3) := ⟨⟨by decide +kernel, by decide +kernel⟩, List.mem_of_getElem? (i := 199) (by decide +kernel), List.mem_of_getElem? (i := 563) (by decide +kernel), List.mem_of_getElem? (i := 564) (by decide +kernel)⟩
theorem lw_p8 : lw_okq (⟨"BorrowedLuck", "noteReading", "(Z)V"⟩, 13) := ⟨⟨by decide +kernel, by decide +kernel⟩, List.mem_of_getElem? (i := 28) (by decide +kernel), List.mem_of_getElem? (i := 571) (by decide +kernel), List.mem_of_getElem? (i := 572) (by decide +kernel)⟩
theorem lw_p9 : lw_okq (⟨"java/lang/Throwable", "fillInStackTrace", "(I)Ljava/lang/Throwable;"⟩, 6) := ⟨⟨by decide +kernel, by decide +kernel⟩, List.mem_of_getElem? (i := 615) (by decide +kernel), List.mem_of_getElem? (i := 613) (by decide +kernel), List.mem_of_getElem? (i := 614) (by decide +kernel)⟩
theorem lw_p10 : lw_okq (⟨"BorrowedLuck", "needWoman", "(I)V"⟩, 13) := ⟨⟨by decide +kernel, by decide +kernel⟩, List.mem_of_getElem? (i := 28) (by decide +kernel), List.mem_of_getElem? (i := 684) (by decide +kernel), List.mem_of_getElem? (i := 685) (by decide +kernel)⟩
theorem lw_p11 : lw_okq (⟨"BorrowedLuck", "needThing", "(I)V"⟩, 13) := ⟨⟨by decide +kernel, by decide +kernel⟩, List.mem_of_getElem? (i := 28) (by decide +kernel), List.mem_of_getElem? (i := 728) (by decide +kernel), List.mem_of_getElem? (i := 729) (by decide +kernel)⟩
theorem lw_p12 : lw_okq (⟨"BorrowedLuck$Rites", "comes", "(LBorrowedLuck$Coast;III)I"⟩, 1) := ⟨⟨by decide +kernel, by decide +kernel⟩, List.mem_of_getElem? (i := 131) (by decide +kernel), List.mem_of_getElem? (i := 746) (by decide +kernel), List.mem_of_getElem? (i := 747) (by decide +kernel)⟩
theorem lw_p13 : lw_okq (⟨"BorrowedLuck$Law", "learn", "(LBorrowedLuck$Coast;III)V"⟩, 8) := ⟨⟨by decide +kernel, by decide +kernel⟩, List.mem_of_getElem? (i := 137) (by decide +kernel), List.mem_of_getElem? (i := 756) (by decide +kernel), List.mem_of_getElem? (i := 757) (by decide +kernel)⟩
theorem lw_p14 : lw_okq (⟨"BorrowedLuck$Law", "holds", "(II)Z"⟩, 8) := ⟨⟨by decide +kernel, by decide +kernel⟩, List.mem_of_getElem? (i := 137) (by decide +kernel), List.mem_of_getElem? (i := 762) (by decide +kernel), List.mem_of_getElem? (i := 763) (by decide +kernel)⟩
theorem lw_p15 : lw_okq (⟨"BorrowedLuck", "mayBeLent", "(III)Z"⟩, 13) := ⟨⟨by decide +kernel, by decide +kernel⟩, List.mem_of_getElem? (i := 28) (by decide +kernel), List.mem_of_getElem? (i := 794) (by decide +kernel), List.mem_of_getElem? (i := 795) (by decide +kernel)⟩
def lw_privs_1 : List (MethodName × Nat) := [(⟨"BorrowedLuck$CoastReader", "readsWoman", "(I)Z"⟩, 3), (⟨"BorrowedLuck$CoastReader", "readsHer", "(III)Z"⟩, 3), (⟨"BorrowedLuck$CoastReader", "readsThing", "(I)Z"⟩, 3), (⟨"BorrowedLuck$CoastReader", "readsIts", "(III)Z"⟩, 3), (⟨"BorrowedLuck$LawReader", "readsAny", "(I)Z"⟩, 3), (⟨"BorrowedLuck$LawReader", "readsAll", "(I)Z"⟩, 3), (⟨"BorrowedLuck$LawReader", "readsAtom", "(I)Z"⟩, 3), (⟨"BorrowedLuck$LawReader", "readsSum", "()Z"⟩, 3), (⟨"BorrowedLuck", "noteReading", "(Z)V"⟩, 13), (⟨"java/lang/Throwable", "fillInStackTrace", "(I)Ljava/lang/Throwable;"⟩, 6), (⟨"BorrowedLuck", "needWoman", "(I)V"⟩, 13), (⟨"BorrowedLuck", "needThing", "(I)V"⟩, 13), (⟨"BorrowedLuck$Rites", "comes", "(LBorrowedLuck$Coast;III)I"⟩, 1), (⟨"BorrowedLuck$Law", "learn", "(LBorrowedLuck$Coast;III)V"⟩, 8), (⟨"BorrowedLuck$Law", "holds", "(II)Z"⟩, 8), (⟨"BorrowedLuck", "mayBeLent", "(III)Z"⟩, 13)]
theorem lw_r1 : ∀ q ∈ lw_privs_1, lw_okq q := List.forall_mem_cons.mpr ⟨lw_p0, List.forall_mem_cons.mpr ⟨lw_p1, List.forall_mem_cons.mpr ⟨lw_p2, List.forall_mem_cons.mpr ⟨lw_p3, List.forall_mem_cons.mpr ⟨lw_p4, List.forall_mem_cons.mpr ⟨lw_p5, List.forall_mem_cons.mpr ⟨lw_p6, List.forall_mem_cons.mpr ⟨lw_p7, List.forall_mem_cons.mpr ⟨lw_p8, List.forall_mem_cons.mpr ⟨lw_p9, List.forall_mem_cons.mpr ⟨lw_p10, List.forall_mem_cons.mpr ⟨lw_p11, List.forall_mem_cons.mpr ⟨lw_p12, List.forall_mem_cons.mpr ⟨lw_p13, List.forall_mem_cons.mpr ⟨lw_p14, List.forall_mem_cons.mpr ⟨lw_p15, fun _ h => absurd h List.not_mem_nil⟩⟩⟩⟩⟩⟩⟩⟩⟩⟩⟩⟩⟩⟩⟩⟩
theorem lw_p16 : lw_okq (⟨"BorrowedLuck", "gatherFive", "(I)V"⟩, 13) := ⟨⟨by decide +kernel, by decide +kernel⟩, List.mem_of_getElem? (i := 28) (by decide +kernel), List.mem_of_getElem? (i := 917) (by decide +kernel), List.mem_of_getElem? (i := 918) (by decide +kernel)⟩
theorem lw_p17 : lw_okq (⟨"BorrowedLuck$Search", "leastLuck", "()I"⟩, 8) := ⟨⟨by decide +kernel, by decide +kernel⟩, List.mem_of_getElem? (i := 211) (by decide +kernel), List.mem_of_getElem? (i := 933) (by decide +kernel), List.mem_of_getElem? (i := 934) (by decide +kernel)⟩
theorem lw_p18 : lw_okq (⟨"BorrowedLuck$Search", "goesToNextRow", "()Z"⟩, 8) := ⟨⟨by decide +kernel, by decide +kernel⟩, List.mem_of_getElem? (i := 211) (by decide +kernel), List.mem_of_getElem? (i := 939) (by decide +kernel), List.mem_of_getElem? (i := 940) (by decide +kernel)⟩
theorem lw_p19 : lw_okq (⟨"BorrowedLuck$Search", "swap", "(II)V"⟩, 8) := ⟨⟨by decide +kernel, by decide +kernel⟩, List.mem_of_getElem? (i := 211) (by decide +kernel), List.mem_of_getElem? (i := 943) (by decide +kernel), List.mem_of_getElem? (i := 944) (by decide +kernel)⟩
theorem lw_p20 : lw_okq (⟨"BorrowedLuck", "takeFitting", "()I"⟩, 13) := ⟨⟨by decide +kernel, by decide +kernel⟩, List.mem_of_getElem? (i := 28) (by decide +kernel), List.mem_of_getElem? (i := 996) (by decide +kernel), List.mem_of_getElem? (i := 997) (by decide +kernel)⟩
theorem lw_p21 : lw_okq (⟨"BorrowedLuck", "fitting", "()I"⟩, 13) := ⟨⟨by decide +kernel, by decide +kernel⟩, List.mem_of_getElem? (i := 28) (by decide +kernel), List.mem_of_getElem? (i := 1008) (by decide +kernel), List.mem_of_getElem? (i := 1009) (by decide +kernel)⟩
theorem lw_p22 : lw_okq (⟨"BorrowedLuck$Search", "place", "(IIII)V"⟩, 8) := ⟨⟨by decide +kernel, by decide +kernel⟩, List.mem_of_getElem? (i := 211) (by decide +kernel), List.mem_of_getElem? (i := 1046) (by decide +kernel), List.mem_of_getElem? (i := 1047) (by decide +kernel)⟩
theorem lw_p23 : lw_okq (⟨"BorrowedLuck", "brideHas", "(II)I"⟩, 13) := ⟨⟨by decide +kernel, by decide +kernel⟩, List.mem_of_getElem? (i := 28) (by decide +kernel), List.mem_of_getElem? (i := 1065) (by decide +kernel), List.mem_of_getElem? (i := 1066) (by decide +kernel)⟩
theorem lw_p24 : lw_okq (⟨"BorrowedLuckModel", "readAll", "(Z)I"⟩, 23) := ⟨⟨by decide +kernel, by decide +kernel⟩, List.mem_of_getElem? (i := 1155) (by decide +kernel), List.mem_of_getElem? (i := 1259) (by decide +kernel), List.mem_of_getElem? (i := 1260) (by decide +kernel)⟩
theorem lw_p25 : lw_okq (⟨"BorrowedLuckModel", "uses", "()V"⟩, 23) := ⟨⟨by decide +kernel, by decide +kernel⟩, List.mem_of_getElem? (i := 1155) (by decide +kernel), List.mem_of_getElem? (i := 1263) (by decide +kernel), List.mem_of_getElem? (i := 1264) (by decide +kernel)⟩
theorem lw_p26 : lw_okq (⟨"BorrowedLuckModel", "blanks", "()V"⟩, 23) := ⟨⟨by decide +kernel, by decide +kernel⟩, List.mem_of_getElem? (i := 1155) (by decide +kernel), List.mem_of_getElem? (i := 1267) (by decide +kernel), List.mem_of_getElem? (i := 1268) (by decide +kernel)⟩
theorem lw_p27 : lw_okq (⟨"BorrowedLuckModel", "isAt", "(II)Z"⟩, 23) := ⟨⟨by decide +kernel, by decide +kernel⟩, List.mem_of_getElem? (i := 1155) (by decide +kernel), List.mem_of_getElem? (i := 1271) (by decide +kernel), List.mem_of_getElem? (i := 1272) (by decide +kernel)⟩
theorem lw_p28 : lw_okq (⟨"BorrowedLuckModel", "readLine", "(ZI)Z"⟩, 23) := ⟨⟨by decide +kernel, by decide +kernel⟩, List.mem_of_getElem? (i := 1155) (by decide +kernel), List.mem_of_getElem? (i := 1275) (by decide +kernel), List.mem_of_getElem? (i := 1276) (by decide +kernel)⟩
theorem lw_p29 : lw_okq (⟨"BorrowedLuckModel", "letters", "()V"⟩, 23) := ⟨⟨by decide +kernel, by decide +kernel⟩, List.mem_of_getElem? (i := 1155) (by decide +kernel), List.mem_of_getElem? (i := 1279) (by decide +kernel), List.mem_of_getElem? (i := 1280) (by decide +kernel)⟩
theorem lw_p30 : lw_okq (⟨"BorrowedLuckModel", "readCoastLine", "()Z"⟩, 23) := ⟨⟨by decide +kernel, by decide +kernel⟩, List.mem_of_getElem? (i := 1155) (by decide +kernel), List.mem_of_getElem? (i := 1283) (by decide +kernel), List.mem_of_getElem? (i := 1284) (by decide +kernel)⟩
theorem lw_p31 : lw_okq (⟨"BorrowedLuckModel", "isWord", "(Ljava/lang/String;)Z"⟩, 23) := ⟨⟨by decide +kernel, by decide +kernel⟩, List.mem_of_getElem? (i := 1155) (by decide +kernel), List.mem_of_getElem? (i := 1288) (by decide +kernel), List.mem_of_getElem? (i := 1289) (by decide +kernel)⟩
def lw_privs_2 : List (MethodName × Nat) := [(⟨"BorrowedLuck", "gatherFive", "(I)V"⟩, 13), (⟨"BorrowedLuck$Search", "leastLuck", "()I"⟩, 8), (⟨"BorrowedLuck$Search", "goesToNextRow", "()Z"⟩, 8), (⟨"BorrowedLuck$Search", "swap", "(II)V"⟩, 8), (⟨"BorrowedLuck", "takeFitting", "()I"⟩, 13), (⟨"BorrowedLuck", "fitting", "()I"⟩, 13), (⟨"BorrowedLuck$Search", "place", "(IIII)V"⟩, 8), (⟨"BorrowedLuck", "brideHas", "(II)I"⟩, 13), (⟨"BorrowedLuckModel", "readAll", "(Z)I"⟩, 23), (⟨"BorrowedLuckModel", "uses", "()V"⟩, 23), (⟨"BorrowedLuckModel", "blanks", "()V"⟩, 23), (⟨"BorrowedLuckModel", "isAt", "(II)Z"⟩, 23), (⟨"BorrowedLuckModel", "readLine", "(ZI)Z"⟩, 23), (⟨"BorrowedLuckModel", "letters", "()V"⟩, 23), (⟨"BorrowedLuckModel", "readCoastLine", "()Z"⟩, 23), (⟨"BorrowedLuckModel", "isWord", "(Ljava/lang/String;)Z"⟩, 23)]
theorem lw_r2 : ∀ q ∈ lw_privs_2, lw_okq q := List.forall_mem_cons.mpr ⟨lw_p16, List.forall_mem_cons.mpr ⟨lw_p17, List.forall_mem_cons.mpr ⟨lw_p18, List.forall_mem_cons.mpr ⟨lw_p19, List.forall_mem_cons.mpr ⟨lw_p20, List.forall_mem_cons.mpr ⟨lw_p21, List.forall_mem_cons.mpr ⟨lw_p22, List.forall_mem_cons.mpr ⟨lw_p23, List.forall_mem_cons.mpr ⟨lw_p24, List.forall_mem_cons.mpr ⟨lw_p25, List.forall_mem_cons.mpr ⟨lw_p26, List.forall_mem_cons.mpr ⟨lw_p27, List.forall_mem_cons.mpr ⟨lw_p28, List.forall_mem_cons.mpr ⟨lw_p29, List.forall_mem_cons.mpr ⟨lw_p30, List.forall_mem_cons.mpr ⟨lw_p31, fun _ h => absurd h List.not_mem_nil⟩⟩⟩⟩⟩⟩⟩⟩⟩⟩⟩⟩⟩⟩⟩⟩
theorem lw_p32 : lw_okq (⟨"BorrowedLuckModel", "readWoman", "()Z"⟩, 23) := ⟨⟨by decide +kernel, by decide +kernel⟩, List.mem_of_getElem? (i := 1155) (by decide +kernel), List.mem_of_getElem? (i := 1340) (by decide +kernel), List.mem_of_getElem? (i := 1341) (by decide +kernel)⟩
theorem lw_p33 : lw_okq (⟨"BorrowedLuckModel", "women", "()I"⟩, 23) := ⟨⟨by decide +kernel, by decide +kernel⟩, List.mem_of_getElem? (i := 1155) (by decide +kernel), List.mem_of_getElem? (i := 1344) (by decide +kernel), List.mem_of_getElem? (i := 1345) (by decide +kernel)⟩
theorem lw_p34 : lw_okq (⟨"BorrowedLuckModel", "readLuck", "(I)Z"⟩, 23) := ⟨⟨by decide +kernel, by decide +kernel⟩, List.mem_of_getElem? (i := 1155) (by decide +kernel), List.mem_of_getElem? (i := 1351) (by decide +kernel), List.mem_of_getElem? (i := 1352) (by decide +kernel)⟩
theorem lw_p35 : lw_okq (⟨"BorrowedLuckModel", "readNumber", "(III)Z"⟩, 23) := ⟨⟨by decide +kernel, by decide +kernel⟩, List.mem_of_getElem? (i := 1155) (by decide +kernel), List.mem_of_getElem? (i := 1355) (by decide +kernel), List.mem_of_getElem? (i := 1356) (by decide +kernel)⟩
theorem lw_p36 : lw_okq (⟨"BorrowedLuckModel", "number", "(II)I"⟩, 23) := ⟨⟨by decide +kernel, by decide +kernel⟩, List.mem_of_getElem? (i := 1155) (by decide +kernel), List.mem_of_getElem? (i := 1359) (by decide +kernel), List.mem_of_getElem? (i := 1360) (by decide +kernel)⟩
theorem lw_p37 : lw_okq (⟨"BorrowedLuckModel", "after", "(Ljava/lang/String;II)I"⟩, 23) := ⟨⟨by decide +kernel, by decide +kernel⟩, List.mem_of_getElem? (i := 1155) (by decide +kernel), List.mem_of_getElem? (i := 1364) (by decide +kernel), List.mem_of_getElem? (i := 1365) (by decide +kernel)⟩
theorem lw_p38 : lw_okq (⟨"BorrowedLuckModel", "passes", "(Ljava/lang/String;)Z"⟩, 23) := ⟨⟨by decide +kernel, by decide +kernel⟩, List.mem_of_getElem? (i := 1155) (by decide +kernel), List.mem_of_getElem? (i := 1369) (by decide +kernel), List.mem_of_getElem? (i := 1370) (by decide +kernel)⟩
theorem lw_p39 : lw_okq (⟨"BorrowedLuckModel", "readThing", "()Z"⟩, 23) := ⟨⟨by decide +kernel, by decide +kernel⟩, List.mem_of_getElem? (i := 1155) (by decide +kernel), List.mem_of_getElem? (i := 1375) (by decide +kernel), List.mem_of_getElem? (i := 1376) (by decide +kernel)⟩
theorem lw_p40 : lw_okq (⟨"BorrowedLuckModel", "things", "()I"⟩, 23) := ⟨⟨by decide +kernel, by decide +kernel⟩, List.mem_of_getElem? (i := 1155) (by decide +kernel), List.mem_of_getElem? (i := 1379) (by decide +kernel), List.mem_of_getElem? (i := 1380) (by decide +kernel)⟩
theorem lw_p41 : lw_okq (⟨"BorrowedLuckModel", "readLawLine", "(I)Z"⟩, 23) := ⟨⟨by decide +kernel, by decide +kernel⟩, List.mem_of_getElem? (i := 1155) (by decide +kernel), List.mem_of_getElem? (i := 1393) (by decide +kernel), List.mem_of_getElem? (i := 1394) (by decide +kernel)⟩
theorem lw_p42 : lw_okq (⟨"BorrowedLuckModel", "readCond", "()Z"⟩, 23) := ⟨⟨by decide +kernel, by decide +kernel⟩, List.mem_of_getElem? (i := 1155) (by decide +kernel), List.mem_of_getElem? (i := 1401) (by decide +kernel), List.mem_of_getElem? (i := 1402) (by decide +kernel)⟩
theorem lw_p43 : lw_okq (⟨"BorrowedLuckModel", "readAllOf", "()Z"⟩, 23) := ⟨⟨by decide +kernel, by decide +kernel⟩, List.mem_of_getElem? (i := 1155) (by decide +kernel), List.mem_of_getElem? (i := 1405) (by decide +kernel), List.mem_of_getElem? (i := 1406) (by decide +kernel)⟩
theorem lw_p44 : lw_okq (⟨"BorrowedLuckModel", "readAtom", "()Z"⟩, 23) := ⟨⟨by decide +kernel, by decide +kernel⟩, List.mem_of_getElem? (i := 1155) (by decide +kernel), List.mem_of_getElem? (i := 1409) (by decide +kernel), List.mem_of_getElem? (i := 1410) (by decide +kernel)⟩
theorem lw_p45 : lw_okq (⟨"BorrowedLuckModel", "sign", "(I)Z"⟩, 23) := ⟨⟨by decide +kernel, by decide +kernel⟩, List.mem_of_getElem? (i := 1155) (by decide +kernel), List.mem_of_getElem? (i := 1413) (by decide +kernel), List.mem_of_getElem? (i := 1414) (by decide +kernel)⟩
theorem lw_p46 : lw_okq (⟨"BorrowedLuckModel", "emits", "(II)V"⟩, 23) := ⟨⟨by decide +kernel, by decide +kernel⟩, List.mem_of_getElem? (i := 1155) (by decide +kernel), List.mem_of_getElem? (i := 1418) (by decide +kernel), List.mem_of_getElem? (i := 1419) (by decide +kernel)⟩
theorem lw_p47 : lw_okq (⟨"BorrowedLuckModel", "readTag", "()Z"⟩, 23) := ⟨⟨by decide +kernel, by decide +kernel⟩, List.mem_of_getElem? (i := 1155) (by decide +kernel), List.mem_of_getElem? (i := 1422) (by decide +kernel), List.mem_of_getElem? (i := 1423) (by decide +kernel)⟩
def lw_privs_3 : List (MethodName × Nat) := [(⟨"BorrowedLuckModel", "readWoman", "()Z"⟩, 23), (⟨"BorrowedLuckModel", "women", "()I"⟩, 23), (⟨"BorrowedLuckModel", "readLuck", "(I)Z"⟩, 23), (⟨"BorrowedLuckModel", "readNumber", "(III)Z"⟩, 23), (⟨"BorrowedLuckModel", "number", "(II)I"⟩, 23), (⟨"BorrowedLuckModel", "after", "(Ljava/lang/String;II)I"⟩, 23), (⟨"BorrowedLuckModel", "passes", "(Ljava/lang/String;)Z"⟩, 23), (⟨"BorrowedLuckModel", "readThing", "()Z"⟩, 23), (⟨"BorrowedLuckModel", "things", "()I"⟩, 23), (⟨"BorrowedLuckModel", "readLawLine", "(I)Z"⟩, 23), (⟨"BorrowedLuckModel", "readCond", "()Z"⟩, 23), (⟨"BorrowedLuckModel", "readAllOf", "()Z"⟩, 23), (⟨"BorrowedLuckModel", "readAtom", "()Z"⟩, 23), (⟨"BorrowedLuckModel", "sign", "(I)Z"⟩, 23), (⟨"BorrowedLuckModel", "emits", "(II)V"⟩, 23), (⟨"BorrowedLuckModel", "readTag", "()Z"⟩, 23)]
theorem lw_r3 : ∀ q ∈ lw_privs_3, lw_okq q := List.forall_mem_cons.mpr ⟨lw_p32, List.forall_mem_cons.mpr ⟨lw_p33, List.forall_mem_cons.mpr ⟨lw_p34, List.forall_mem_cons.mpr ⟨lw_p35, List.forall_mem_cons.mpr ⟨lw_p36, List.forall_mem_cons.mpr ⟨lw_p37, List.forall_mem_cons.mpr ⟨lw_p38, List.forall_mem_cons.mpr ⟨lw_p39, List.forall_mem_cons.mpr ⟨lw_p40, List.forall_mem_cons.mpr ⟨lw_p41, List.forall_mem_cons.mpr ⟨lw_p42, List.forall_mem_cons.mpr ⟨lw_p43, List.forall_mem_cons.mpr ⟨lw_p44, List.forall_mem_cons.mpr ⟨lw_p45, List.forall_mem_cons.mpr ⟨lw_p46, List.forall_mem_cons.mpr ⟨lw_p47, fun _ h => absurd h List.not_mem_nil⟩⟩⟩⟩⟩⟩⟩⟩⟩⟩⟩⟩⟩⟩⟩⟩
theorem lw_p48 : lw_okq (⟨"BorrowedLuckModel", "readSum", "()Z"⟩, 23) := ⟨⟨by decide +kernel, by decide +kernel⟩, List.mem_of_getElem? (i := 1155) (by decide +kernel), List.mem_of_getElem? (i := 1427) (by decide +kernel), List.mem_of_getElem? (i := 1428) (by decide +kernel)⟩
theorem lw_p49 : lw_okq (⟨"BorrowedLuckModel", "readPart", "()Z"⟩, 23) := ⟨⟨by decide +kernel, by decide +kernel⟩, List.mem_of_getElem? (i := 1155) (by decide +kernel), List.mem_of_getElem? (i := 1431) (by decide +kernel), List.mem_of_getElem? (i := 1432) (by decide +kernel)⟩
theorem lw_p50 : lw_okq (⟨"BorrowedLuckModel", "wordOfPart", "()I"⟩, 23) := ⟨⟨by decide +kernel, by decide +kernel⟩, List.mem_of_getElem? (i := 1155) (by decide +kernel), List.mem_of_getElem? (i := 1435) (by decide +kernel), List.mem_of_getElem? (i := 1436) (by decide +kernel)⟩
theorem lw_p51 : lw_okq (⟨"BorrowedLuckModel", "throwsIf", "(ZI)Z"⟩, 23) := ⟨⟨by decide +kernel, by decide +kernel⟩, List.mem_of_getElem? (i := 1155) (by decide +kernel), List.mem_of_getElem? (i := 1444) (by decide +kernel), List.mem_of_getElem? (i := 1445) (by decide +kernel)⟩
theorem lw_p52 : lw_okq (⟨"BorrowedLuckModel", "noWoman", "(I)Z"⟩, 23) := ⟨⟨by decide +kernel, by decide +kernel⟩, List.mem_of_getElem? (i := 1155) (by decide +kernel), List.mem_of_getElem? (i := 1456) (by decide +kernel), List.mem_of_getElem? (i := 1457) (by decide +kernel)⟩
theorem lw_p53 : lw_okq (⟨"BorrowedLuckModel", "thingsBy", "(II)I"⟩, 23) := ⟨⟨by decide +kernel, by decide +kernel⟩, List.mem_of_getElem? (i := 1155) (by decide +kernel), List.mem_of_getElem? (i := 1463) (by decide +kernel), List.mem_of_getElem? (i := 1464) (by decide +kernel)⟩
theorem lw_p54 : lw_okq (⟨"BorrowedLuckModel", "ofThing", "(II)I"⟩, 23) := ⟨⟨by decide +kernel, by decide +kernel⟩, List.mem_of_getElem? (i := 1155) (by decide +kernel), List.mem_of_getElem? (i := 1467) (by decide +kernel), List.mem_of_getElem? (i := 1468) (by decide +kernel)⟩
theorem lw_p55 : lw_okq (⟨"BorrowedLuckModel", "luckOf", "(I)I"⟩, 23) := ⟨⟨by decide +kernel, by decide +kernel⟩, List.mem_of_getElem? (i := 1155) (by decide +kernel), List.mem_of_getElem? (i := 1471) (by decide +kernel), List.mem_of_getElem? (i := 1472) (by decide +kernel)⟩
theorem lw_p56 : lw_okq (⟨"BorrowedLuckModel", "of", "(II)I"⟩, 23) := ⟨⟨by decide +kernel, by decide +kernel⟩, List.mem_of_getElem? (i := 1155) (by decide +kernel), List.mem_of_getElem? (i := 1475) (by decide +kernel), List.mem_of_getElem? (i := 1476) (by decide +kernel)⟩
theorem lw_p57 : lw_okq (⟨"BorrowedLuckModel", "noThing", "(I)Z"⟩, 23) := ⟨⟨by decide +kernel, by decide +kernel⟩, List.mem_of_getElem? (i := 1155) (by decide +kernel), List.mem_of_getElem? (i := 1483) (by decide +kernel), List.mem_of_getElem? (i := 1484) (by decide +kernel)⟩
theorem lw_p58 : lw_okq (⟨"BorrowedLuckModel", "worthOf", "(I)I"⟩, 23) := ⟨⟨by decide +kernel, by decide +kernel⟩, List.mem_of_getElem? (i := 1155) (by decide +kernel), List.mem_of_getElem? (i := 1487) (by decide +kernel), List.mem_of_getElem? (i := 1488) (by decide +kernel)⟩
theorem lw_p59 : lw_okq (⟨"BorrowedLuckModel", "luckIn", "(I)I"⟩, 23) := ⟨⟨by decide +kernel, by decide +kernel⟩, List.mem_of_getElem? (i := 1155) (by decide +kernel), List.mem_of_getElem? (i := 1491) (by decide +kernel), List.mem_of_getElem? (i := 1492) (by decide +kernel)⟩
theorem lw_p60 : lw_okq (⟨"BorrowedLuckModel", "gainOf", "(II)I"⟩, 23) := ⟨⟨by decide +kernel, by decide +kernel⟩, List.mem_of_getElem? (i := 1155) (by decide +kernel), List.mem_of_getElem? (i := 1499) (by decide +kernel), List.mem_of_getElem? (i := 1500) (by decide +kernel)⟩
theorem lw_p61 : lw_okq (⟨"BorrowedLuckModel", "moreOf", "(III)I"⟩, 23) := ⟨⟨by decide +kernel, by decide +kernel⟩, List.mem_of_getElem? (i := 1155) (by decide +kernel), List.mem_of_getElem? (i := 1503) (by decide +kernel), List.mem_of_getElem? (i := 1504) (by decide +kernel)⟩
theorem lw_p62 : lw_okq (⟨"BorrowedLuckModel", "flowsBy", "(III)I"⟩, 23) := ⟨⟨by decide +kernel, by decide +kernel⟩, List.mem_of_getElem? (i := 1155) (by decide +kernel), List.mem_of_getElem? (i := 1507) (by decide +kernel), List.mem_of_getElem? (i := 1508) (by decide +kernel)⟩
theorem lw_p63 : lw_okq (⟨"BorrowedLuckModel", "sumOf", "(IIII)I"⟩, 23) := ⟨⟨by decide +kernel, by decide +kernel⟩, List.mem_of_getElem? (i := 1155) (by decide +kernel), List.mem_of_getElem? (i := 1511) (by decide +kernel), List.mem_of_getElem? (i := 1512) (by decide +kernel)⟩
def lw_privs_4 : List (MethodName × Nat) := [(⟨"BorrowedLuckModel", "readSum", "()Z"⟩, 23), (⟨"BorrowedLuckModel", "readPart", "()Z"⟩, 23), (⟨"BorrowedLuckModel", "wordOfPart", "()I"⟩, 23), (⟨"BorrowedLuckModel", "throwsIf", "(ZI)Z"⟩, 23), (⟨"BorrowedLuckModel", "noWoman", "(I)Z"⟩, 23), (⟨"BorrowedLuckModel", "thingsBy", "(II)I"⟩, 23), (⟨"BorrowedLuckModel", "ofThing", "(II)I"⟩, 23), (⟨"BorrowedLuckModel", "luckOf", "(I)I"⟩, 23), (⟨"BorrowedLuckModel", "of", "(II)I"⟩, 23), (⟨"BorrowedLuckModel", "noThing", "(I)Z"⟩, 23), (⟨"BorrowedLuckModel", "worthOf", "(I)I"⟩, 23), (⟨"BorrowedLuckModel", "luckIn", "(I)I"⟩, 23), (⟨"BorrowedLuckModel", "gainOf", "(II)I"⟩, 23), (⟨"BorrowedLuckModel", "moreOf", "(III)I"⟩, 23), (⟨"BorrowedLuckModel", "flowsBy", "(III)I"⟩, 23), (⟨"BorrowedLuckModel", "sumOf", "(IIII)I"⟩, 23)]
theorem lw_r4 : ∀ q ∈ lw_privs_4, lw_okq q := List.forall_mem_cons.mpr ⟨lw_p48, List.forall_mem_cons.mpr ⟨lw_p49, List.forall_mem_cons.mpr ⟨lw_p50, List.forall_mem_cons.mpr ⟨lw_p51, List.forall_mem_cons.mpr ⟨lw_p52, List.forall_mem_cons.mpr ⟨lw_p53, List.forall_mem_cons.mpr ⟨lw_p54, List.forall_mem_cons.mpr ⟨lw_p55, List.forall_mem_cons.mpr ⟨lw_p56, List.forall_mem_cons.mpr ⟨lw_p57, List.forall_mem_cons.mpr ⟨lw_p58, List.forall_mem_cons.mpr ⟨lw_p59, List.forall_mem_cons.mpr ⟨lw_p60, List.forall_mem_cons.mpr ⟨lw_p61, List.forall_mem_cons.mpr ⟨lw_p62, List.forall_mem_cons.mpr ⟨lw_p63, fun _ h => absurd h List.not_mem_nil⟩⟩⟩⟩⟩⟩⟩⟩⟩⟩⟩⟩⟩⟩⟩⟩
theorem lw_p64 : lw_okq (⟨"BorrowedLuckModel", "holdsLine", "(IIII)Z"⟩, 23) := ⟨⟨by decide +kernel, by decide +kernel⟩, List.mem_of_getElem? (i := 1155) (by decide +kernel), List.mem_of_getElem? (i := 1515) (by decide +kernel), List.mem_of_getElem? (i := 1516) (by decide +kernel)⟩
theorem lw_p65 : lw_okq (⟨"BorrowedLuckModel", "factOf", "(IIIII)I"⟩, 23) := ⟨⟨by decide +kernel, by decide +kernel⟩, List.mem_of_getElem? (i := 1155) (by decide +kernel), List.mem_of_getElem? (i := 1519) (by decide +kernel), List.mem_of_getElem? (i := 1520) (by decide +kernel)⟩
theorem lw_p66 : lw_okq (⟨"BorrowedLuckModel", "mayNot", "(II)Z"⟩, 23) := ⟨⟨by decide +kernel, by decide +kernel⟩, List.mem_of_getElem? (i := 1155) (by decide +kernel), List.mem_of_getElem? (i := 1536) (by decide +kernel), List.mem_of_getElem? (i := 1537) (by decide +kernel)⟩
theorem lw_p67 : lw_okq (⟨"BorrowedLuckModel", "isPawned", "(I)Z"⟩, 23) := ⟨⟨by decide +kernel, by decide +kernel⟩, List.mem_of_getElem? (i := 1155) (by decide +kernel), List.mem_of_getElem? (i := 1540) (by decide +kernel), List.mem_of_getElem? (i := 1541) (by decide +kernel)⟩
theorem lw_p68 : lw_okq (⟨"BorrowedLuckModel", "isStuck", "(I)Z"⟩, 23) := ⟨⟨by decide +kernel, by decide +kernel⟩, List.mem_of_getElem? (i := 1155) (by decide +kernel), List.mem_of_getElem? (i := 1544) (by decide +kernel), List.mem_of_getElem? (i := 1545) (by decide +kernel)⟩
theorem lw_p69 : lw_okq (⟨"BorrowedLuckModel", "isWidow", "(I)Z"⟩, 23) := ⟨⟨by decide +kernel, by decide +kernel⟩, List.mem_of_getElem? (i := 1155) (by decide +kernel), List.mem_of_getElem? (i := 1548) (by decide +kernel), List.mem_of_getElem? (i := 1549) (by decide +kernel)⟩
theorem lw_p70 : lw_okq (⟨"BorrowedLuckModel", "remembers", "()V"⟩, 23) := ⟨⟨by decide +kernel, by decide +kernel⟩, List.mem_of_getElem? (i := 1155) (by decide +kernel), List.mem_of_getElem? (i := 1552) (by decide +kernel), List.mem_of_getElem? (i := 1553) (by decide +kernel)⟩
theorem lw_p71 : lw_okq (⟨"BorrowedLuckModel", "weds", "(II)I"⟩, 23) := ⟨⟨by decide +kernel, by decide +kernel⟩, List.mem_of_getElem? (i := 1155) (by decide +kernel), List.mem_of_getElem? (i := 1560) (by decide +kernel), List.mem_of_getElem? (i := 1561) (by decide +kernel)⟩
theorem lw_p72 : lw_okq (⟨"BorrowedLuckModel", "wearsBy", "(II)I"⟩, 23) := ⟨⟨by decide +kernel, by decide +kernel⟩, List.mem_of_getElem? (i := 1155) (by decide +kernel), List.mem_of_getElem? (i := 1564) (by decide +kernel), List.mem_of_getElem? (i := 1565) (by decide +kernel)⟩
theorem lw_p73 : lw_okq (⟨"BorrowedLuckModel", "sticksTo", "(II)Z"⟩, 23) := ⟨⟨by decide +kernel, by decide +kernel⟩, List.mem_of_getElem? (i := 1155) (by decide +kernel), List.mem_of_getElem? (i := 1568) (by decide +kernel), List.mem_of_getElem? (i := 1569) (by decide +kernel)⟩
theorem lw_p74 : lw_okq (⟨"BorrowedLuckModel", "tells", "(III)V"⟩, 23) := ⟨⟨by decide +kernel, by decide +kernel⟩, List.mem_of_getElem? (i := 1155) (by decide +kernel), List.mem_of_getElem? (i := 1572) (by decide +kernel), List.mem_of_getElem? (i := 1573) (by decide +kernel)⟩
theorem lw_p75 : lw_okq (⟨"BorrowedLuckModel", "goesOn", "(I)I"⟩, 23) := ⟨⟨by decide +kernel, by decide +kernel⟩, List.mem_of_getElem? (i := 1155) (by decide +kernel), List.mem_of_getElem? (i := 1596) (by decide +kernel), List.mem_of_getElem? (i := 1597) (by decide +kernel)⟩
theorem lw_p76 : lw_okq (⟨"BorrowedLuckModel", "oneDay", "()I"⟩, 23) := ⟨⟨by decide +kernel, by decide +kernel⟩, List.mem_of_getElem? (i := 1155) (by decide +kernel), List.mem_of_getElem? (i := 1600) (by decide +kernel), List.mem_of_getElem? (i := 1601) (by decide +kernel)⟩
theorem lw_p77 : lw_okq (⟨"BorrowedLuckModel", "drawn", "(I)I"⟩, 23) := ⟨⟨by decide +kernel, by decide +kernel⟩, List.mem_of_getElem? (i := 1155) (by decide +kernel), List.mem_of_getElem? (i := 1604) (by decide +kernel), List.mem_of_getElem? (i := 1605) (by decide +kernel)⟩
theorem lw_p78 : lw_okq (⟨"BorrowedLuckModel", "comesTo", "(II)Z"⟩, 23) := ⟨⟨by decide +kernel, by decide +kernel⟩, List.mem_of_getElem? (i := 1155) (by decide +kernel), List.mem_of_getElem? (i := 1609) (by decide +kernel), List.mem_of_getElem? (i := 1610) (by decide +kernel)⟩
theorem lw_p79 : lw_okq (⟨"BorrowedLuckModel", "isStuckElsewhere", "(II)Z"⟩, 23) := ⟨⟨by decide +kernel, by decide +kernel⟩, List.mem_of_getElem? (i := 1155) (by decide +kernel), List.mem_of_getElem? (i := 1613) (by decide +kernel), List.mem_of_getElem? (i := 1614) (by decide +kernel)⟩
def lw_privs_5 : List (MethodName × Nat) := [(⟨"BorrowedLuckModel", "holdsLine", "(IIII)Z"⟩, 23), (⟨"BorrowedLuckModel", "factOf", "(IIIII)I"⟩, 23), (⟨"BorrowedLuckModel", "mayNot", "(II)Z"⟩, 23), (⟨"BorrowedLuckModel", "isPawned", "(I)Z"⟩, 23), (⟨"BorrowedLuckModel", "isStuck", "(I)Z"⟩, 23), (⟨"BorrowedLuckModel", "isWidow", "(I)Z"⟩, 23), (⟨"BorrowedLuckModel", "remembers", "()V"⟩, 23), (⟨"BorrowedLuckModel", "weds", "(II)I"⟩, 23), (⟨"BorrowedLuckModel", "wearsBy", "(II)I"⟩, 23), (⟨"BorrowedLuckModel", "sticksTo", "(II)Z"⟩, 23), (⟨"BorrowedLuckModel", "tells", "(III)V"⟩, 23), (⟨"BorrowedLuckModel", "goesOn", "(I)I"⟩, 23), (⟨"BorrowedLuckModel", "oneDay", "()I"⟩, 23), (⟨"BorrowedLuckModel", "drawn", "(I)I"⟩, 23), (⟨"BorrowedLuckModel", "comesTo", "(II)Z"⟩, 23), (⟨"BorrowedLuckModel", "isStuckElsewhere", "(II)Z"⟩, 23)]
theorem lw_r5 : ∀ q ∈ lw_privs_5, lw_okq q := List.forall_mem_cons.mpr ⟨lw_p64, List.forall_mem_cons.mpr ⟨lw_p65, List.forall_mem_cons.mpr ⟨lw_p66, List.forall_mem_cons.mpr ⟨lw_p67, List.forall_mem_cons.mpr ⟨lw_p68, List.forall_mem_cons.mpr ⟨lw_p69, List.forall_mem_cons.mpr ⟨lw_p70, List.forall_mem_cons.mpr ⟨lw_p71, List.forall_mem_cons.mpr ⟨lw_p72, List.forall_mem_cons.mpr ⟨lw_p73, List.forall_mem_cons.mpr ⟨lw_p74, List.forall_mem_cons.mpr ⟨lw_p75, List.forall_mem_cons.mpr ⟨lw_p76, List.forall_mem_cons.mpr ⟨lw_p77, List.forall_mem_cons.mpr ⟨lw_p78, List.forall_mem_cons.mpr ⟨lw_p79, fun _ h => absurd h List.not_mem_nil⟩⟩⟩⟩⟩⟩⟩⟩⟩⟩⟩⟩⟩⟩⟩⟩
theorem lw_p80 : lw_okq (⟨"BorrowedLuckModel", "mayHave", "(II)Z"⟩, 23) := ⟨⟨by decide +kernel, by decide +kernel⟩, List.mem_of_getElem? (i := 1155) (by decide +kernel), List.mem_of_getElem? (i := 1621) (by decide +kernel), List.mem_of_getElem? (i := 1622) (by decide +kernel)⟩
theorem lw_p81 : lw_okq (⟨"BorrowedLuckModel", "allWomen", "()I"⟩, 23) := ⟨⟨by decide +kernel, by decide +kernel⟩, List.mem_of_getElem? (i := 1155) (by decide +kernel), List.mem_of_getElem? (i := 1629) (by decide +kernel), List.mem_of_getElem? (i := 1630) (by decide +kernel)⟩
theorem lw_p82 : lw_okq (⟨"BorrowedLuckModel", "laysRow", "(II)V"⟩, 23) := ⟨⟨by decide +kernel, by decide +kernel⟩, List.mem_of_getElem? (i := 1155) (by decide +kernel), List.mem_of_getElem? (i := 1638) (by decide +kernel), List.mem_of_getElem? (i := 1639) (by decide +kernel)⟩
theorem lw_p83 : lw_okq (⟨"BorrowedLuckModel", "bringsTo", "(II)I"⟩, 23) := ⟨⟨by decide +kernel, by decide +kernel⟩, List.mem_of_getElem? (i := 1155) (by decide +kernel), List.mem_of_getElem? (i := 1645) (by decide +kernel), List.mem_of_getElem? (i := 1646) (by decide +kernel)⟩
theorem lw_p84 : lw_okq (⟨"BorrowedLuckModel", "keepsAll", "()V"⟩, 23) := ⟨⟨by decide +kernel, by decide +kernel⟩, List.mem_of_getElem? (i := 1155) (by decide +kernel), List.mem_of_getElem? (i := 1649) (by decide +kernel), List.mem_of_getElem? (i := 1650) (by decide +kernel)⟩
theorem lw_p85 : lw_okq (⟨"BorrowedLuckModel", "bringsBack", "()V"⟩, 23) := ⟨⟨by decide +kernel, by decide +kernel⟩, List.mem_of_getElem? (i := 1155) (by decide +kernel), List.mem_of_getElem? (i := 1654) (by decide +kernel), List.mem_of_getElem? (i := 1655) (by decide +kernel)⟩
theorem lw_p86 : lw_okq (⟨"BorrowedLuckModel", "turns", "(III)V"⟩, 23) := ⟨⟨by decide +kernel, by decide +kernel⟩, List.mem_of_getElem? (i := 1155) (by decide +kernel), List.mem_of_getElem? (i := 1671) (by decide +kernel), List.mem_of_getElem? (i := 1672) (by decide +kernel)⟩
theorem lw_p87 : lw_okq (⟨"BorrowedLuckModel", "laysJobs", "(I)V"⟩, 23) := ⟨⟨by decide +kernel, by decide +kernel⟩, List.mem_of_getElem? (i := 1155) (by decide +kernel), List.mem_of_getElem? (i := 1683) (by decide +kernel), List.mem_of_getElem? (i := 1684) (by decide +kernel)⟩
theorem lw_p88 : lw_okq (⟨"BorrowedLuckModel", "jobBy", "(IIII)I"⟩, 23) := ⟨⟨by decide +kernel, by decide +kernel⟩, List.mem_of_getElem? (i := 1155) (by decide +kernel), List.mem_of_getElem? (i := 1690) (by decide +kernel), List.mem_of_getElem? (i := 1691) (by decide +kernel)⟩
theorem lw_p89 : lw_okq (⟨"BorrowedLuckModel", "chainOf", "(I)I"⟩, 23) := ⟨⟨by decide +kernel, by decide +kernel⟩, List.mem_of_getElem? (i := 1155) (by decide +kernel), List.mem_of_getElem? (i := 1699) (by decide +kernel), List.mem_of_getElem? (i := 1700) (by decide +kernel)⟩
theorem lw_p90 : lw_okq (⟨"BorrowedLuckModel", "ofLog", "(II)I"⟩, 23) := ⟨⟨by decide +kernel, by decide +kernel⟩, List.mem_of_getElem? (i := 1155) (by decide +kernel), List.mem_of_getElem? (i := 1703) (by decide +kernel), List.mem_of_getElem? (i := 1704) (by decide +kernel)⟩
theorem lw_p91 : lw_okq (⟨"BorrowedLuckModel", "isTold", "()Z"⟩, 23) := ⟨⟨by decide +kernel, by decide +kernel⟩, List.mem_of_getElem? (i := 1155) (by decide +kernel), List.mem_of_getElem? (i := 1715) (by decide +kernel), List.mem_of_getElem? (i := 1716) (by decide +kernel)⟩
theorem lw_p92 : lw_okq (⟨"BorrowedLuckModel", "allThatFit", "()I"⟩, 23) := ⟨⟨by decide +kernel, by decide +kernel⟩, List.mem_of_getElem? (i := 1155) (by decide +kernel), List.mem_of_getElem? (i := 1719) (by decide +kernel), List.mem_of_getElem? (i := 1720) (by decide +kernel)⟩
theorem lw_p93 : lw_okq (⟨"BorrowedLuckModel", "widowHas", "(III)I"⟩, 23) := ⟨⟨by decide +kernel, by decide +kernel⟩, List.mem_of_getElem? (i := 1155) (by decide +kernel), List.mem_of_getElem? (i := 1731) (by decide +kernel), List.mem_of_getElem? (i := 1732) (by decide +kernel)⟩
theorem lw_p94 : lw_okq (⟨"BorrowedLuckModel", "brideHas", "(IIII)I"⟩, 23) := ⟨⟨by decide +kernel, by decide +kernel⟩, List.mem_of_getElem? (i := 1155) (by decide +kernel), List.mem_of_getElem? (i := 1735) (by decide +kernel), List.mem_of_getElem? (i := 1736) (by decide +kernel)⟩
theorem lw_p95 : lw_okq (⟨"BorrowedLuckModel", "soldBy", "(I)I"⟩, 23) := ⟨⟨by decide +kernel, by decide +kernel⟩, List.mem_of_getElem? (i := 1155) (by decide +kernel), List.mem_of_getElem? (i := 1746) (by decide +kernel), List.mem_of_getElem? (i := 1747) (by decide +kernel)⟩
def lw_privs_6 : List (MethodName × Nat) := [(⟨"BorrowedLuckModel", "mayHave", "(II)Z"⟩, 23), (⟨"BorrowedLuckModel", "allWomen", "()I"⟩, 23), (⟨"BorrowedLuckModel", "laysRow", "(II)V"⟩, 23), (⟨"BorrowedLuckModel", "bringsTo", "(II)I"⟩, 23), (⟨"BorrowedLuckModel", "keepsAll", "()V"⟩, 23), (⟨"BorrowedLuckModel", "bringsBack", "()V"⟩, 23), (⟨"BorrowedLuckModel", "turns", "(III)V"⟩, 23), (⟨"BorrowedLuckModel", "laysJobs", "(I)V"⟩, 23), (⟨"BorrowedLuckModel", "jobBy", "(IIII)I"⟩, 23), (⟨"BorrowedLuckModel", "chainOf", "(I)I"⟩, 23), (⟨"BorrowedLuckModel", "ofLog", "(II)I"⟩, 23), (⟨"BorrowedLuckModel", "isTold", "()Z"⟩, 23), (⟨"BorrowedLuckModel", "allThatFit", "()I"⟩, 23), (⟨"BorrowedLuckModel", "widowHas", "(III)I"⟩, 23), (⟨"BorrowedLuckModel", "brideHas", "(IIII)I"⟩, 23), (⟨"BorrowedLuckModel", "soldBy", "(I)I"⟩, 23)]
theorem lw_r6 : ∀ q ∈ lw_privs_6, lw_okq q := List.forall_mem_cons.mpr ⟨lw_p80, List.forall_mem_cons.mpr ⟨lw_p81, List.forall_mem_cons.mpr ⟨lw_p82, List.forall_mem_cons.mpr ⟨lw_p83, List.forall_mem_cons.mpr ⟨lw_p84, List.forall_mem_cons.mpr ⟨lw_p85, List.forall_mem_cons.mpr ⟨lw_p86, List.forall_mem_cons.mpr ⟨lw_p87, List.forall_mem_cons.mpr ⟨lw_p88, List.forall_mem_cons.mpr ⟨lw_p89, List.forall_mem_cons.mpr ⟨lw_p90, List.forall_mem_cons.mpr ⟨lw_p91, List.forall_mem_cons.mpr ⟨lw_p92, List.forall_mem_cons.mpr ⟨lw_p93, List.forall_mem_cons.mpr ⟨lw_p94, List.forall_mem_cons.mpr ⟨lw_p95, fun _ h => absurd h List.not_mem_nil⟩⟩⟩⟩⟩⟩⟩⟩⟩⟩⟩⟩⟩⟩⟩⟩
theorem lw_p96 : lw_okq (⟨"BorrowedLuckModel", "borrowerOf", "(I)I"⟩, 23) := ⟨⟨by decide +kernel, by decide +kernel⟩, List.mem_of_getElem? (i := 1155) (by decide +kernel), List.mem_of_getElem? (i := 1766) (by decide +kernel), List.mem_of_getElem? (i := 1767) (by decide +kernel)⟩
theorem lw_p97 : lw_okq (⟨"BorrowedLuckModel", "likens", "(II)Z"⟩, 23) := ⟨⟨by decide +kernel, by decide +kernel⟩, List.mem_of_getElem? (i := 1155) (by decide +kernel), List.mem_of_getElem? (i := 1790) (by decide +kernel), List.mem_of_getElem? (i := 1791) (by decide +kernel)⟩
theorem lw_p98 : lw_okq (⟨"BorrowedLuckModel", "luckOfAll", "()I"⟩, 23) := ⟨⟨by decide +kernel, by decide +kernel⟩, List.mem_of_getElem? (i := 1155) (by decide +kernel), List.mem_of_getElem? (i := 1806) (by decide +kernel), List.mem_of_getElem? (i := 1807) (by decide +kernel)⟩
def lw_privs_7 : List (MethodName × Nat) := [(⟨"BorrowedLuckModel", "borrowerOf", "(I)I"⟩, 23), (⟨"BorrowedLuckModel", "likens", "(II)Z"⟩, 23), (⟨"BorrowedLuckModel", "luckOfAll", "()I"⟩, 23)]
theorem lw_r7 : ∀ q ∈ lw_privs_7, lw_okq q := List.forall_mem_cons.mpr ⟨lw_p96, List.forall_mem_cons.mpr ⟨lw_p97, List.forall_mem_cons.mpr ⟨lw_p98, fun _ h => absurd h List.not_mem_nil⟩⟩⟩
def lw_privs : List (MethodName × Nat) := lw_privs_1 ++ (lw_privs_2 ++ (lw_privs_3 ++ (lw_privs_4 ++ (lw_privs_5 ++ (lw_privs_6 ++ (lw_privs_7))))))
def lw_tbl : List Cond := k2_sels lw_privs ++ tables_1
theorem lw_privs_ok : ∀ q ∈ lw_privs, lw_okq q := by
  show ∀ q ∈ lw_privs_1 ++ (lw_privs_2 ++ (lw_privs_3 ++ (lw_privs_4 ++ (lw_privs_5 ++ (lw_privs_6 ++ (lw_privs_7)))))), lw_okq q
  exact List.forall_mem_append.mpr ⟨lw_r1, List.forall_mem_append.mpr ⟨lw_r2, List.forall_mem_append.mpr ⟨lw_r3, List.forall_mem_append.mpr ⟨lw_r4, List.forall_mem_append.mpr ⟨lw_r5, List.forall_mem_append.mpr ⟨lw_r6, lw_r7⟩⟩⟩⟩⟩⟩
-- ===== end of PART A; then your names; then what follows =====
/-! ===== BEGIN words of one list among another's, by their places ===== -/
theorem goodIn_r {big : List Cond} (ws : List Cond) (ps : List Nat) (hp : ws = ps.filterMap (fun i => big[i]?)) (h : ws.all goodWord = true) : GoodIn big ws := by
  intro w hw
  have h1 := List.all_eq_true.mp h w hw
  rw [hp] at hw
  obtain ⟨i, -, hi⟩ := List.mem_filterMap.mp hw
  have hm : w ∈ big := by first | exact List.mem_of_getElem? hi | exact List.getElem?_mem hi
  exact ⟨hm, good_of_word h1⟩
theorem goodIn_app {big a b : List Cond} (ha : GoodIn big a) (hb : GoodIn big b) : GoodIn big (a ++ b) := fun w h => (List.mem_append.mp h).elim (ha w) (hb w)
theorem goodIn_ca {big a b : List Cond} {c : Cond} (ha : GoodIn big (c :: a)) (hb : GoodIn big b) : GoodIn big (c :: (a ++ b)) := fun w h => (List.mem_cons.mp h).elim (fun e => ha w (List.mem_cons.mpr (Or.inl e))) (fun h => (List.mem_append.mp h).elim (fun h => ha w (List.mem_cons.mpr (Or.inr h))) (hb w))
theorem goodIn_sub {big ws : List Cond} (hm : ∀ w ∈ ws, w ∈ big) (h : ws.all goodWord = true) : GoodIn big ws := fun w hw => ⟨hm w hw, good_of_word (List.all_eq_true.mp h w hw)⟩
/-! ===== END ===== -/

/-! ===== BEGIN exceptions that leave a method, and their catching by the caller (launches without stack traces) ===== -/
section VXA
/-! The laws vx_back, vx_callV, vx_callS, vx_callSW, vx_throw0, vx_throwS follow proofs of the library, with one case more: JvmDerived/Free/Laws.lean (Back.of_free), Shelf42/LK1.lean (callV, callS), Shelf/KitTraced.lean (throwNew0V, throwNewS). -/
/-- where a method has thrown q: the class by its name, the cell, what was written, the world -/
def vx_T (XC : String → State → State → Prop) (st : State) (q : Addr) (t : State) (mc ms : Nat) (free : Addr → Prop) : Prop :=
  ∃ (E : String) (ce : Cell) (L : List Loc), XC E st t ∧ t.heap[q]? = some ce ∧ ce.vm = .none ∧ st.vm.findClass E = some ce.cls ∧ st.WarmedH t.vm ∧ st.sameButNew ({ t with vm := st.vm } : State) L mc ms ∧ ∀ z ∈ L, free z.base
def vx_Q (Qc : Array Value → State → Outcome → State → Prop) (XC : String → State → State → Prop) (mc ms : Nat) (free : Addr → Prop) : Array Value → State → Outcome → State → Prop := fun a st o t =>
  (Qc a st o t ∧ ∃ L, FrameEnd st o t L mc ms ∧ ∀ q ∈ L, free q.base) ∨ ∃ q, o = .threw q ∧ vx_T XC st q t mc ms free
/-- a callee that returns or throws -/
def vx_Met (l : Launch) (y : MethodName) (ws : List Cond) (rm : Room) (Pc : Array Value → State → Prop) (Qc : Array Value → State → Outcome → State → Prop) (XC : String → State → State → Prop) (mc ms : Nat) (free : Addr → Prop) : Prop :=
  MetFree l y (headSpec ws rm) Pc (fun _ _ _ _ _ => True) (vx_Q Qc XC mc ms free)
def vx_Post (XC : String → State → State → Prop) (mc ms : Nat) (free : Addr → Prop) : Pt → Array Value → Addr → Pt → Prop := fun A a q B =>
  ∃ (g : JFrame) (mk : MethodId) (t : State) (L : List Loc) (E : String) (ce : Cell), B.U.heap = t.heap ∧ B.U.vm = t.vm ∧ XC E (A.U.calling g mk a) t ∧ t.heap[q]? = some ce ∧ ce.vm = .none ∧ A.U.vm.findClass E = some ce.cls ∧ B.locs = A.locs ++ L ∧ (∀ z ∈ L, free z.base) ∧ B.cells = A.cells + mc ∧ B.slots = A.slots + ms
def vx_Back (l : Launch) (R : Room) (p : Program) (e : Env) (below : List Frame) (s : State) (sargs : Array Value) (y : MethodName) (len W9 : Nat)
    (Pre : Pt → Array Value → Prop) (Post : Pt → Array Value → Option Value → Pt → Prop) (PostX : Pt → Array Value → Addr → Pt → Prop) : Prop :=
  ∀ (m : MethodId) (meth : Method) (c : Code) (A : Pt) (g : JFrame) (ig : Instr) (mk : MethodId) (a : Array Value),
    Stand p l e R s m sargs below meth c A.U A.locs A.cells A.slots → g.method = m → g.locals.size = c.maxLocals → decode c.code g.pc = .ok (ig, len) →
    2 * g.monitorRoom + (g.stack.map fun v => v.category).sum ≤ W9 → A.U.methodNamed? y = some mk → Pre A a →
    (∃ (v : Option Value) (B : Pt), Stand p l e R s m sargs below meth c B.U B.locs B.cells B.slots ∧ Post A a v B ∧
      Steps p.tables e below (doInvoke e (A.U.setTop g) [] mk a).1 (B.U.setTop { g with pc := g.pc + len, stack := v.toList ++ g.stack })) ∨
    (∃ (q : Addr) (B : Pt), Stand p l e R s m sargs below meth c B.U B.locs B.cells B.slots ∧ PostX A a q B ∧
      Steps p.tables e below (doInvoke e (A.U.setTop g) [] mk a).1 ((B.U.setTop g).pushFrame (.throwing q)))
section Payer
variable {l : Launch} {R : Room} {p : Program} {e : Env} {below : List Frame} {s : State} {sargs : Array Value} {y : MethodName} {len W9 : Nat}
theorem vx_back {ws : List Cond} {rm : Room} {Pc : Array Value → State → Prop} {Qc : Array Value → State → Outcome → State → Prop} {XC : String → State → State → Prop} {mc ms : Nat} {free : Addr → Prop} {bytes : ByteArray} {maxL : Nat} {ret : Option FieldType}
    (hM : vx_Met l y ws rm Pc Qc XC mc ms free) (hblind : FrameBlind Pc) (hrc : rm.cells = mc) (hrs : rm.slots = ms)
    (hframes : rm.frames + 1 ≤ R.frames) (hlocals : W9 + (maxL + 11) + rm.locals ≤ R.locals)
    (hws : ∀ w ∈ ws, ∀ a' U, s.WarmedH U.vm → w.before a' U = true) (hcode : Cond.code y bytes maxL ret ∈ ws) (hinit : ∀ a' U, s.WarmedH U.vm → (Cond.initialized y.cls).before a' U = true) :
    vx_Back l R p e below s sargs y len W9 (PreOf R mc ms Pc) (PostOf Qc mc ms free) (vx_Post XC mc ms free) := by
  intro m meth c A g ig mk a X hg hsize hdg hW hn hp
  have h1 : (headSpec ws rm).pre.before a A.U = true := atoms_intro fun w hw => hws w hw _ _ X.warmed
  have h2 : (Cond.code y bytes maxL ret).before a A.U = true := hws _ hcode _ _ X.warmed
  have h3 : (Cond.initialized y.cls).before a A.U = true := hinit _ _ X.warmed
  have h4 : A.cells + (headSpec ws rm).room.cells ≤ R.cells := by rw [show (headSpec ws rm).room.cells = mc from hrc]; exact hp.1
  have h5 : A.slots + (headSpec ws rm).room.slots ≤ R.slots := by rw [show (headSpec ws rm).room.slots = ms from hrs]; exact hp.2.1
  have hPc : Pc a (A.U.calling g mk a) := hblind _ _ _ _ hp.2.2
  obtain ⟨U, Ls, c0, s0⟩ := A
  dsimp only [Pt.U, Pt.locs, Pt.cells, Pt.slots] at h1 h2 h3 h4 h5 X hn hPc ⊢
  obtain ⟨methY, cY, hmY, hcY, -, hlY, -, -, -, -⟩ := Cond.code_spec hn h2
  obtain ⟨kY, hkY, -⟩ := className_of_methodNamed hn
  have hinitY : kY.init = .initialized := Cond.initialized_spec (findClass_of_methodNamed hn) hkY h3
  have h : At U g.method c below := by rw [hg]; exact X.here
  have hlocals9 : W9 + (maxL + 11) + (headSpec ws rm).room.locals ≤ R.locals := hlocals
  have happ : (headSpec ws rm).appliesLoose y e.platform (U.calling g mk a) = true :=
    Spec.appliesLoose_calling (g := g) h hdg hn hkY hinitY
      (X.room_calling (g := g) (R' := (headSpec ws rm).room) hsize hmY hcY hframes (by rw [hlY]; omega) h4 h5) h1
  obtain ⟨mid, hmid⟩ := h.above
  have hfr : (U.setTop g).frames = (.java g :: mid) ++ below := by rw [State.frames_setTop' g h.top, hmid]; rfl
  obtain ⟨o, s₂, hsteps, -, hend, hq⟩ := Steps.callFree hM p X.admits X.cas X.clock (acts := []) hfr happ hPc trivial
  have hq' : vx_Q Qc XC mc ms free a (U.calling g mk a) o s₂ := hq
  rw [State.frames_setTop' g h.top] at hend
  obtain ⟨g₀, hg0⟩ := Option.isSome_iff_exists.mp h.top
  obtain ⟨r, hr⟩ := State.topJava?_eq_some.mp hg0
  have hr' : (({ U with heap := s₂.heap, slotsUsed := s₂.slotsUsed } : State).setVm s₂.vm).frames = .java g₀ :: r := hr
  rcases hq' with ⟨hqc, L, hfe, hL⟩ | ⟨q, rfl, E, ce, L, hx, hce, hcv, hcl, hW₂, hsm, hL⟩
  · obtain ⟨⟨v, rfl⟩, hW₂, e2, q2, q3, q4, q5, q6⟩ := id hfe
    have e3 : s₂ = ({ (U.calling g mk a).setFrames s₂.frames with heap := s₂.heap, slotsUsed := s₂.slotsUsed } : State).setVm s₂.vm := by
      have : s₂ = ({ s₂ with vm := (U.calling g mk a).vm } : State).setVm s₂.vm := rfl
      rw [e2] at this
      exact this
    obtain ⟨c₂, i₂, len₂, hc₂, hd₂, hf₂⟩ := hend
    have hW' : U.WarmedH s₂.vm := hW₂
    have hcc : c₂ = c := by
      have h1 : s₂.code? g.method = U.code? g.method := by
        rw [State.code?_eq, State.code?_eq, hW'.alike.method?]
      exact Option.some.inj (hc₂.symm.trans (h1.trans h.code))
    subst hcc
    have hlen : len₂ = len := by rw [hdg] at hd₂; cases hd₂; rfl
    subst hlen
    have hs₂ : s₂ = (({ U with heap := s₂.heap, slotsUsed := s₂.slotsUsed } : State).setVm s₂.vm).setTop { g with pc := g.pc + len₂, stack := v.toList ++ g.stack } := by
      refine e3.trans ?_
      rw [hf₂, State.calling_eq h.top, State.setFrames_setFrames, State.setTop_of_frames _ hr', hr]
      rfl
    have hsame : U.sameButNew ({ U with heap := s₂.heap, slotsUsed := s₂.slotsUsed } : State) L mc ms := by
      refine ⟨?_, q2, q3, q4, q5, q6⟩
      obtain ⟨t, ht, -⟩ := State.frames_cons hr
      show ({ U with heap := s₂.heap, slotsUsed := s₂.slotsUsed } : State) = { U.setFrames U.frames with heap := s₂.heap, slotsUsed := s₂.slotsUsed }
      rw [State.setFrames_self ht]
    subst hg
    refine Or.inl ⟨v, ⟨(({ U with heap := s₂.heap, slotsUsed := s₂.slotsUsed } : State).setVm s₂.vm), Ls ++ L, c0 + mc, s0 + ms⟩,
      ⟨X.admits, X.cas, X.clock, X.frames, X.room, X.hears, X.method, X.code, (X.here.setHeapUsed s₂.heap s₂.slotsUsed).setVm hW'.alike, X.tail, State.WarmedH.trans X.warmed hW', X.limits, X.bytes, X.same.trans (hsame.setVm s.vm)⟩,
      ⟨g, mk, s₂, L, rfl, rfl, hqc, rfl, hL, rfl, rfl⟩, ?_⟩
    show Steps p.tables e below _ ((({ U with heap := s₂.heap, slotsUsed := s₂.slotsUsed } : State).setVm s₂.vm).setTop { g with pc := g.pc + len₂, stack := v.toList ++ g.stack })
    rw [← hs₂]
    exact hsteps
  · obtain ⟨e2, q2, q3, q4, q5, q6⟩ := id hsm
    have e3 : s₂ = ({ (U.calling g mk a).setFrames s₂.frames with heap := s₂.heap, slotsUsed := s₂.slotsUsed } : State).setVm s₂.vm := by
      have : s₂ = ({ s₂ with vm := (U.calling g mk a).vm } : State).setVm s₂.vm := rfl
      rw [e2] at this
      exact this
    have hf₂ : s₂.frames = .throwing q :: .java g :: U.frames.tail := hend
    have hW' : U.WarmedH s₂.vm := hW₂
    have hs₂ : s₂ = ((({ U with heap := s₂.heap, slotsUsed := s₂.slotsUsed } : State).setVm s₂.vm).setTop g).pushFrame (.throwing q) := by
      refine e3.trans ?_
      rw [hf₂, State.calling_eq h.top, State.setFrames_setFrames, State.pushFrame, State.frames_setTop _ hr', State.setTop_of_frames _ hr', State.setFrames_setFrames, hr]
      rfl
    have hsame : U.sameButNew ({ U with heap := s₂.heap, slotsUsed := s₂.slotsUsed } : State) L mc ms := by
      refine ⟨?_, q2, q3, q4, q5, q6⟩
      obtain ⟨t, ht, -⟩ := State.frames_cons hr
      show ({ U with heap := s₂.heap, slotsUsed := s₂.slotsUsed } : State) = { U.setFrames U.frames with heap := s₂.heap, slotsUsed := s₂.slotsUsed }
      rw [State.setFrames_self ht]
    subst hg
    refine Or.inr ⟨q, ⟨(({ U with heap := s₂.heap, slotsUsed := s₂.slotsUsed } : State).setVm s₂.vm), Ls ++ L, c0 + mc, s0 + ms⟩,
      ⟨X.admits, X.cas, X.clock, X.frames, X.room, X.hears, X.method, X.code, (X.here.setHeapUsed s₂.heap s₂.slotsUsed).setVm hW'.alike, X.tail, State.WarmedH.trans X.warmed hW', X.limits, X.bytes, X.same.trans (hsame.setVm s.vm)⟩,
      ⟨g, mk, s₂, L, E, ce, rfl, rfl, hx, hce, hcv, hcl, rfl, hL, rfl, rfl⟩, ?_⟩
    show Steps p.tables e below _ (((({ U with heap := s₂.heap, slotsUsed := s₂.slotsUsed } : State).setVm s₂.vm).setTop g).pushFrame (.throwing q))
    rw [← hs₂]
    exact hsteps
end Payer
section Calls
variable {p : Program} {l : Launch} {e : Env} {R : Room} {s : State} {m : MethodId} {args : Array Value} {below : List Frame} {meth : Method} {c : Code} {T : State} {locs : List Loc} {cells slots : Nat}
theorem vx_callV (X : Stand p l e R s m args below meth c T locs cells slots) (hexec : p.tables.exec = Jvm.exec) {own C : String} {index : Nat} {y : MethodName} {bytes : ByteArray} {maxL : Nat} {ret : Option FieldType}
    (hown : s.vm.findClass own = some m.cls) (hlink : (Cond.methodLink own index y).before args s = true) (hinst : (Cond.instanceMethod y).before args s = true) (hsel : (Cond.selects C y y).before args s = true)
    (hcode : (Cond.code y bytes maxL ret).before args s = true) (hy : y.cls ≠ "java/lang/invoke/MethodHandle" ∧ y.cls ≠ "java/lang/invoke/VarHandle")
    {W9 : Nat} {Pre : Pt → Array Value → Prop} {Post : Pt → Array Value → Option Value → Pt → Prop} {PostX : Pt → Array Value → Addr → Pt → Prop} (hK : vx_Back l R p e below s args y 3 W9 Pre Post PostX)
    {b : Addr} {cellB : Cell} (hcell : T.heap[b]? = some cellB) (hobj : cellB.vm.isStatics = false) (hcls : s.vm.findClass C = some cellB.cls)
    {g : JFrame} (hg : g.method = m) (hsize : g.locals.size = c.maxLocals) {argsL rest : List Value} (hlen : ∀ sig, parseMethodDescriptor y.desc = some sig → argsL.length = sig.parameters.length)
    (hstack : g.stack = argsL.reverse ++ .ref b :: rest) (hW : 2 * g.monitorRoom + (rest.map fun v => v.category).sum ≤ W9) (hdg : decode c.code g.pc = .ok (.invokevirtual index, 3))
    (hpre : ∀ vm₁, s.WarmedH vm₁ → Pre ⟨T.setVm vm₁, locs, cells, slots⟩ (Value.ref b :: argsL).toArray) :
    (∃ (v : Option Value) (vm₁ : Vm) (B : Pt), s.WarmedH vm₁ ∧ Stand p l e R s m args below meth c B.U B.locs B.cells B.slots ∧ Post ⟨T.setVm vm₁, locs, cells, slots⟩ (Value.ref b :: argsL).toArray v B ∧
      ∀ target, Steps p.tables e below (B.U.setTop { g with pc := g.pc + 3, stack := v.toList ++ rest }) target → Steps p.tables e below (T.setTop g) target) ∨
    (∃ (q : Addr) (vm₁ : Vm) (B : Pt), s.WarmedH vm₁ ∧ Stand p l e R s m args below meth c B.U B.locs B.cells B.slots ∧ PostX ⟨T.setVm vm₁, locs, cells, slots⟩ (Value.ref b :: argsL).toArray q B ∧
      Steps p.tables e below (T.setTop g) ((B.U.setTop { g with stack := rest }).pushFrame (.throwing q))) := by
  obtain ⟨mk, methM, hnamed, hmethM, hstM, habM⟩ := Cond.instanceMethod_spec hinst
  obtain ⟨methM', cM, hmethM', -, -, -, -, -, -, hsigM⟩ := Cond.code_spec hnamed hcode
  cases hmethM.symm.trans hmethM'
  obtain ⟨c2, r2, m2, q1, q2, q3, q4, kP, hkP, hkPi⟩ := Cond.selects_spec hsel
  cases hcls.symm.trans q1
  cases (State.methodFound?_of_named hnamed hy).symm.trans q2
  cases hnamed.symm.trans q3
  have hselP : selectMethod e.platform s.vm cellB.cls mk = .method mk := by rw [Launch.admits_selectMethod X.admits]; exact q4
  obtain ⟨vm₁, X₁, hstep₁⟩ := X.invokevirtual hexec hown hlink hnamed hmethM hstM hkP hkPi hy (a := b) (cell := cellB) hcell
    (fun z h => by rw [h] at hobj; cases hobj) hselP hmethM habM hkP hkPi (g := g) hg (argsL := argsL) (rest := rest) (hlen _ hsigM) hstack hdg
  rcases hK m meth c ⟨T.setVm vm₁, locs, cells, slots⟩ { g with stack := rest } (.invokevirtual index) mk (Value.ref b :: argsL).toArray X₁ hg hsize hdg hW (X₁.named hnamed) (hpre vm₁ X₁.warmed) with ⟨v, B, X', hpost, hsteps⟩ | ⟨q, B, X', hpost, hsteps⟩
  · exact Or.inl ⟨v, vm₁, B, X₁.warmed, X', hpost, fun target h => hstep₁ _ fun acts => by rw [doInvoke_state]; exact hsteps.trans h⟩
  · exact Or.inr ⟨q, vm₁, B, X₁.warmed, X', hpost, hstep₁ _ fun acts => by rw [doInvoke_state]; exact hsteps⟩
theorem vx_callS (X : Stand p l e R s m args below meth c T locs cells slots) (hexec : p.tables.exec = Jvm.exec) {own : String} {index : Nat} {y : MethodName} {bytes : ByteArray} {maxL : Nat} {ret : Option FieldType}
    (hown : s.vm.findClass own = some m.cls) (hlink : (Cond.methodLink own index y).before args s = true) (hstat : (Cond.static y).before args s = true) (hinit : (Cond.initialized y.cls).before args s = true)
    (hcode : (Cond.code y bytes maxL ret).before args s = true) (hy : y.cls ≠ "java/lang/invoke/MethodHandle" ∧ y.cls ≠ "java/lang/invoke/VarHandle")
    {W9 : Nat} {Pre : Pt → Array Value → Prop} {Post : Pt → Array Value → Option Value → Pt → Prop} {PostX : Pt → Array Value → Addr → Pt → Prop} (hK : vx_Back l R p e below s args y 3 W9 Pre Post PostX)
    {g : JFrame} (hg : g.method = m) (hsize : g.locals.size = c.maxLocals) {argsL rest : List Value} (hlen : ∀ sig, parseMethodDescriptor y.desc = some sig → argsL.length = sig.parameters.length)
    (hstack : g.stack = argsL.reverse ++ rest) (hW : 2 * g.monitorRoom + (rest.map fun v => v.category).sum ≤ W9) (hdg : decode c.code g.pc = .ok (.invokestatic index, 3))
    (hpre : ∀ vm₁, s.WarmedH vm₁ → Pre ⟨T.setVm vm₁, locs, cells, slots⟩ argsL.toArray) :
    (∃ (v : Option Value) (vm₁ : Vm) (B : Pt), s.WarmedH vm₁ ∧ Stand p l e R s m args below meth c B.U B.locs B.cells B.slots ∧ Post ⟨T.setVm vm₁, locs, cells, slots⟩ argsL.toArray v B ∧
      ∀ target, Steps p.tables e below (B.U.setTop { g with pc := g.pc + 3, stack := v.toList ++ rest }) target → Steps p.tables e below (T.setTop g) target) ∨
    (∃ (q : Addr) (vm₁ : Vm) (B : Pt), s.WarmedH vm₁ ∧ Stand p l e R s m args below meth c B.U B.locs B.cells B.slots ∧ PostX ⟨T.setVm vm₁, locs, cells, slots⟩ argsL.toArray q B ∧
      Steps p.tables e below (T.setTop g) ((B.U.setTop { g with stack := rest }).pushFrame (.throwing q))) := by
  obtain ⟨mk, hnamed⟩ := Cond.code_named hcode
  obtain ⟨methM, cM, hmethM, -, -, -, -, -, -, hsigM⟩ := Cond.code_spec hnamed hcode
  have hstatic : methM.isStatic = true := Cond.static_spec hnamed hmethM hstat
  obtain ⟨kP, hkP, -⟩ := className_of_methodNamed hnamed
  have hinitP : kP.init = .initialized := Cond.initialized_spec (findClass_of_methodNamed hnamed) hkP hinit
  obtain ⟨vm₁, X₁, hstep₁⟩ := X.invokestatic hexec hown hlink hnamed hmethM hstatic hkP hinitP hy (g := g) hg (argsL := argsL) (rest := rest) (hlen _ hsigM) hstack hdg
  rcases hK m meth c ⟨T.setVm vm₁, locs, cells, slots⟩ { g with stack := rest } (.invokestatic index) mk argsL.toArray X₁ hg hsize hdg hW (X₁.named hnamed) (hpre vm₁ X₁.warmed) with ⟨v, B, X', hpost, hsteps⟩ | ⟨q, B, X', hpost, hsteps⟩
  · exact Or.inl ⟨v, vm₁, B, X₁.warmed, X', hpost, fun target h => hstep₁ _ fun acts => by rw [doInvoke_state]; exact hsteps.trans h⟩
  · exact Or.inr ⟨q, vm₁, B, X₁.warmed, X', hpost, hstep₁ _ fun acts => by rw [doInvoke_state]; exact hsteps⟩
end Calls
theorem vx_cls {s : State} {T : State} {vm₁ : Vm} {E : String} {k : ClassId} (hW : s.WarmedH vm₁) (h : (T.setVm vm₁).vm.findClass E = some k) : s.vm.findClass E = some k := by
  have h1 : vm₁.findClass E = some k := h
  rw [hW.alike.findClass] at h1
  exact h1
/-- the method's frame g, with q thrown over it -/
def vx_W (p : Program) (l : Launch) (e : Env) (R : Room) (s : State) (m : MethodId) (args : Array Value) (below : List Frame) (meth : Method) (c : Code) (H : Heap) (locs : List Loc) (cells slots : Nat) (Q : State → Prop) (g : JFrame) (q : Addr) : Prop :=
  ∀ T : State, T.heap = H → Stand p l e R s m args below meth c T locs cells slots → ∃ t, Steps p.tables e below ((T.setTop g).pushFrame (.throwing q)) t ∧ Q t
def vx_Run (p : Program) (l : Launch) (e : Env) (R : Room) (s : State) (m : MethodId) (args : Array Value) (below : List Frame) (meth : Method) (c : Code) (H : Heap) (locs : List Loc) (cells slots mc ms : Nat) (g : JFrame) (rest : List Value) (Qa : State → Outcome → State → Prop) (XC : String → State → State → Prop) (free : Addr → Prop) : Prop :=
  ∀ T : State, T.heap = H → Stand p l e R s m args below meth c T locs cells slots →
    (∃ (v : Option Value) (st₀ t T' : State) (L : List Loc), st₀.heap = H ∧ Stand p l e R s m args below meth c T' (locs ++ L) (cells + mc) (slots + ms) ∧ (∀ q ∈ L, free q.base) ∧ T'.heap = t.heap ∧ T'.vm = t.vm ∧ Qa st₀ (.returned v) t ∧
      Goes p e below T g T' { g with pc := g.pc + 3, stack := v.toList ++ rest }) ∨
    (∃ (q : Addr) (st₀ t T' : State) (L : List Loc) (E : String) (ce : Cell), st₀.heap = H ∧ Stand p l e R s m args below meth c T' (locs ++ L) (cells + mc) (slots + ms) ∧ (∀ z ∈ L, free z.base) ∧ T'.heap = t.heap ∧ T'.vm = t.vm ∧ XC E st₀ t ∧ t.heap[q]? = some ce ∧ ce.vm = .none ∧ s.vm.findClass E = some ce.cls ∧
      Steps p.tables e below (T.setTop g) ((T'.setTop { g with stack := rest }).pushFrame (.throwing q)))
def vx_X {S : Type} (px : S → Prop) (B : String → S → State → Prop) (A : Nat → Prop) : String → State → State → Prop := fun E st t => ∃ u : S, px u ∧ B E u t ∧ va_F A st t
section Runs
variable {p : Program} {l : Launch} {e : Env} {R : Room} {s : State} {m : MethodId} {args : Array Value} {below : List Frame} {meth : Method} {c : Code} {H : Heap} {locs : List Loc} {cells slots : Nat}
variable {y : MethodName} {bytes cc : ByteArray} {maxL nL mc ms n index : Nat} {ret : Option FieldType} {ws : List Cond} {rm : Room} {Pc : Array Value → State → Prop} {Qc : Array Value → State → Outcome → State → Prop} {XC : String → State → State → Prop} {free : Addr → Prop} {Ts : List Cond} {own C : String} {b : Addr} {As rest : List Value} {g : JFrame}
theorem vx_callBack (cb : CallB R s args own index y bytes maxL ret ws rm mc ms n) (hM : vx_Met l y ws rm Pc Qc XC mc ms free) (hbl : FrameBlind Pc) : vx_Back l R p e below s args y 3 8 (PreOf R mc ms Pc) (PostOf Qc mc ms free) (vx_Post XC mc ms free) := by
  obtain ⟨hrc, hrs, hfr, hlo, hws, hcw, -, hini, -⟩ := cb
  exact vx_back (bytes := bytes) (maxL := maxL) (ret := ret) hM hbl hrc hrs hfr hlo hws hcw (fun a' U hW => word_at hW (Or.inl (by first | rfl | simp [Cond.onTables, Cond.keeps, Cond.steady])) hini)
theorem vx_runV (S : CallFix p m c cc nL s args Ts own) (hM : vx_Met l y ws rm Pc Qc XC mc ms free) (cw : CallW R s args own C index y bytes maxL ret ws rm mc ms n) (hp : PreV s H C b Pc As)
    (hg : g.method = m) (hn : As.length = n) (hsize : g.locals.size = nL) (hstack : g.stack = As.reverse ++ .ref b :: rest) (hW : 2 * g.monitorRoom + (rest.map fun v => v.category).sum ≤ 8) (hdg : decode cc g.pc = .ok (.invokevirtual index, 3)) (hf : cells + mc ≤ R.cells ∧ slots + ms ≤ R.slots) :
    vx_Run p l e R s m args below meth c H locs cells slots mc ms g rest (Qc (Value.ref b :: As).toArray) XC free := by
  have hK : vx_Back l R p e below s args y 3 8 (PreOf R mc ms Pc) (PostOf Qc mc ms free) (vx_Post XC mc ms free) := vx_callBack cw.1 hM hp.1
  obtain ⟨⟨-, -, -, -, -, -, hcode, -, hy, hlen, hl⟩, hin, hse⟩ := cw
  obtain ⟨hx, hb, hml, ho, -⟩ := S
  obtain ⟨-, ⟨cellB, hcB, hoB, hclB⟩, hPc⟩ := hp
  intro T hT X
  rcases vx_callV X hx (C := C) (bytes := bytes) (maxL := maxL) (ret := ret) ho hl hin hse hcode hy hK (by rw [hT]; exact hcB) hoB hclB hg (hsize.trans hml.symm) (argsL := As) (rest := rest) (fun sig h => hn.trans (hlen sig h)) hstack hW (by rw [hb]; exact hdg)
    (fun vm₁ hW₁ => ⟨hf.1, hf.2, hPc (T.setVm vm₁) hT hW₁⟩) with ⟨v, vm₁, ⟨U', l2, c2, s2⟩, hW₁, X', ⟨g', mk, t, L, e1, e2, hq, h1, hL, h2, h3⟩, st⟩ | ⟨q, vm₁, ⟨U', l2, c2, s2⟩, hW₁, X', ⟨g', mk, t, L, E, ce, e1, e2, hq, hce, hcv, hcl, h1, hL, h2, h3⟩, st⟩
  · dsimp only [Pt.U, Pt.locs, Pt.cells, Pt.slots] at X' e1 e2 h1 h2 h3 st
    subst h1; subst h2; subst h3
    exact Or.inl ⟨v, (T.setVm vm₁).calling g' mk (Value.ref b :: As).toArray, t, U', L, hT, X', hL, e1, e2, hq, st⟩
  · dsimp only [Pt.U, Pt.locs, Pt.cells, Pt.slots] at X' e1 e2 h1 h2 h3 st hcl
    subst h1; subst h2; subst h3
    exact Or.inr ⟨q, (T.setVm vm₁).calling g' mk (Value.ref b :: As).toArray, t, U', L, E, ce, hT, X', hL, e1, e2, hq, hce, hcv, vx_cls hW₁ hcl, st⟩
theorem vx_runS (S : CallFix p m c cc nL s args Ts own) (hM : vx_Met l y ws rm Pc Qc XC mc ms free) (cw : CallB R s args own index y bytes maxL ret ws rm mc ms n ∧ (Cond.static y).before args s = true) (hp : PreS s H Pc As)
    (hg : g.method = m) (hn : As.length = n) (hsize : g.locals.size = nL) (hstack : g.stack = As.reverse ++ rest) (hW : 2 * g.monitorRoom + (rest.map fun v => v.category).sum ≤ 8) (hdg : decode cc g.pc = .ok (.invokestatic index, 3)) (hf : cells + mc ≤ R.cells ∧ slots + ms ≤ R.slots) :
    vx_Run p l e R s m args below meth c H locs cells slots mc ms g rest (Qc As.toArray) XC free := by
  have hK : vx_Back l R p e below s args y 3 8 (PreOf R mc ms Pc) (PostOf Qc mc ms free) (vx_Post XC mc ms free) := vx_callBack cw.1 hM hp.1
  obtain ⟨⟨-, -, -, -, -, -, hcode, hini, hy, hlen, hl⟩, hstt⟩ := cw
  obtain ⟨hx, hb, hml, ho, -⟩ := S
  intro T hT X
  rcases vx_callS X hx (bytes := bytes) (maxL := maxL) (ret := ret) ho hl hstt hini hcode hy hK hg (hsize.trans hml.symm) (argsL := As) (rest := rest) (fun sig h => hn.trans (hlen sig h)) hstack hW (by rw [hb]; exact hdg)
    (fun vm₁ hW₁ => ⟨hf.1, hf.2, hp.2 (T.setVm vm₁) hT hW₁⟩) with ⟨v, vm₁, ⟨U', l2, c2, s2⟩, hW₁, X', ⟨g', mk, t, L, e1, e2, hq, h1, hL, h2, h3⟩, st⟩ | ⟨q, vm₁, ⟨U', l2, c2, s2⟩, hW₁, X', ⟨g', mk, t, L, E, ce, e1, e2, hq, hce, hcv, hcl, h1, hL, h2, h3⟩, st⟩
  · dsimp only [Pt.U, Pt.locs, Pt.cells, Pt.slots] at X' e1 e2 h1 h2 h3 st
    subst h1; subst h2; subst h3
    exact Or.inl ⟨v, (T.setVm vm₁).calling g' mk As.toArray, t, U', L, hT, X', hL, e1, e2, hq, st⟩
  · dsimp only [Pt.U, Pt.locs, Pt.cells, Pt.slots] at X' e1 e2 h1 h2 h3 st hcl
    subst h1; subst h2; subst h3
    exact Or.inr ⟨q, (T.setVm vm₁).calling g' mk As.toArray, t, U', L, E, ce, hT, X', hL, e1, e2, hq, hce, hcv, vx_cls hW₁ hcl, st⟩
end Runs
section Rows
variable {p : Program} {l : Launch} {e : Env} {R : Room} {s : State} {m : MethodId} {args : Array Value} {below : List Frame} {meth : Method} {c : Code} {H : Heap} {locs : List Loc} {cells slots : Nat} {Q : State → Prop}
variable {mc ms : Nat} {free : Addr → Prop} {A0 A1 : Nat → Prop} {H0 : Heap} {a : Array Value} {pc : Nat} {ls : Array Slot} {st0 rest : List Value}
theorem vx_keep {st₀ t T' : State} {L : List Loc} (h0 : st₀.heap = H) (e1 : T'.heap = t.heap) (hS : va_S A0 H0 H locs) (hA : ∀ q, q < H.size → A1 q → A0 q) (hf : ∀ q, free q → A0 q) (hL : ∀ q ∈ L, free q.base) (hF : va_F A1 st₀ t) :
    H.size ≤ T'.heap.size ∧ (∀ q : Nat, q < H.size → ¬ A1 q → T'.heap[q]? = H[q]?) ∧ va_S A0 H0 T'.heap (locs ++ L) := by
  obtain ⟨hz, hk⟩ := hF
  rw [h0] at hz hk
  exact ⟨by rw [e1]; exact hz, fun q h1 h2 => by rw [e1]; exact hk q h1 h2,
    ⟨Nat.le_trans hS.1 (by rw [e1]; exact hz), fun q h1 h2 => by rw [e1, hk q (Nat.lt_of_lt_of_le h1 hS.1) (fun z => h2 (hA q (Nat.lt_of_lt_of_le h1 hS.1) z))]; exact hS.2.1 q h1 h2, fun q hq => by
      rcases List.mem_append.mp hq with h | h
      · exact hS.2.2 q h
      · exact hf _ (hL q h)⟩⟩
theorem vx_calli {S SX : Type} {post : Int32 → S → Prop} {px : SX → Prop} {B : S → State → Prop} {BX : String → SX → State → Prop} {AX : Nat → Prop} (hr : vx_Run p l e R s m args below meth c H locs cells slots mc ms (F0 m pc ls st0) rest (va_Qi post B A1 a) (vx_X px BX AX) free) (hS : va_S A0 H0 H locs) (hA : ∀ q, q < H.size → A1 q → A0 q) (hf : ∀ q, free q → A0 q) (hAX : ∀ q, q < H.size → AX q → A0 q)
    (kx : ∀ (E : String) (ce : Cell) (q9 : Addr) (u : SX) (t : State) (H1 : Heap) (locs1 : List Loc), t.heap = H1 → s.vm.Alike t.vm → px u → BX E u t → H.size ≤ H1.size → (∀ q : Nat, q < H.size → ¬ AX q → H1[q]? = H[q]?) → va_S A0 H0 H1 locs1 → H1[q9]? = some ce → ce.vm = .none → s.vm.findClass E = some ce.cls → vx_W p l e R s m args below meth c H1 locs1 (cells + mc) (slots + ms) Q (F0 m pc ls rest) q9)
    (kk : ∀ (r : Int32) (u : S) (t : State) (H1 : Heap) (locs1 : List Loc), t.heap = H1 → s.vm.Alike t.vm → post r u → B u t → H.size ≤ H1.size → (∀ q : Nat, q < H.size → ¬ A1 q → H1[q]? = H[q]?) → va_S A0 H0 H1 locs1 → W p l e R s m args below meth c H1 locs1 (cells + mc) (slots + ms) Q (F0 m (pc + 3) ls (.int r :: rest))) : W p l e R s m args below meth c H locs cells slots Q (F0 m pc ls st0) := by
  intro T hT X
  rcases hr T hT X with ⟨v, st₀, t, T', L, h0, X', hL, e1, e2, ⟨⟨r, u, hv, hp, hb⟩, hF⟩, st⟩ | ⟨q, st₀, t, T', L, E, ce, h0, X', hL, e1, e2, ⟨u, hp, hb, hF⟩, hce, hcv, hcl, st⟩
  · cases hv
    obtain ⟨k1, k2, k3⟩ := vx_keep h0 e1 hS hA hf hL hF
    obtain ⟨t2, a1, b1⟩ := kk r u t T'.heap (locs ++ L) e1.symm (by rw [← e2]; exact X'.warmed.alike) hp hb k1 k2 k3 T' rfl X'
    exact ⟨t2, st t2 a1, b1⟩
  · obtain ⟨k1, k2, k3⟩ := vx_keep h0 e1 hS hAX hf hL hF
    obtain ⟨t2, a1, b1⟩ := kx E ce q u t T'.heap (locs ++ L) e1.symm (by rw [← e2]; exact X'.warmed.alike) hp hb k1 k2 k3 (by rw [e1]; exact hce) hcv hcl T' rfl X'
    exact ⟨t2, st.trans a1, b1⟩
theorem vx_calll {S SX : Type} {post : Int64 → S → Prop} {px : SX → Prop} {B : S → State → Prop} {BX : String → SX → State → Prop} {AX : Nat → Prop} (hr : vx_Run p l e R s m args below meth c H locs cells slots mc ms (F0 m pc ls st0) rest (va_Ql post B A1 a) (vx_X px BX AX) free) (hS : va_S A0 H0 H locs) (hA : ∀ q, q < H.size → A1 q → A0 q) (hf : ∀ q, free q → A0 q) (hAX : ∀ q, q < H.size → AX q → A0 q)
    (kx : ∀ (E : String) (ce : Cell) (q9 : Addr) (u : SX) (t : State) (H1 : Heap) (locs1 : List Loc), t.heap = H1 → s.vm.Alike t.vm → px u → BX E u t → H.size ≤ H1.size → (∀ q : Nat, q < H.size → ¬ AX q → H1[q]? = H[q]?) → va_S A0 H0 H1 locs1 → H1[q9]? = some ce → ce.vm = .none → s.vm.findClass E = some ce.cls → vx_W p l e R s m args below meth c H1 locs1 (cells + mc) (slots + ms) Q (F0 m pc ls rest) q9)
    (kk : ∀ (r : Int64) (u : S) (t : State) (H1 : Heap) (locs1 : List Loc), t.heap = H1 → s.vm.Alike t.vm → post r u → B u t → H.size ≤ H1.size → (∀ q : Nat, q < H.size → ¬ A1 q → H1[q]? = H[q]?) → va_S A0 H0 H1 locs1 → W p l e R s m args below meth c H1 locs1 (cells + mc) (slots + ms) Q (F0 m (pc + 3) ls (.long r :: rest))) : W p l e R s m args below meth c H locs cells slots Q (F0 m pc ls st0) := by
  intro T hT X
  rcases hr T hT X with ⟨v, st₀, t, T', L, h0, X', hL, e1, e2, ⟨⟨r, u, hv, hp, hb⟩, hF⟩, st⟩ | ⟨q, st₀, t, T', L, E, ce, h0, X', hL, e1, e2, ⟨u, hp, hb, hF⟩, hce, hcv, hcl, st⟩
  · cases hv
    obtain ⟨k1, k2, k3⟩ := vx_keep h0 e1 hS hA hf hL hF
    obtain ⟨t2, a1, b1⟩ := kk r u t T'.heap (locs ++ L) e1.symm (by rw [← e2]; exact X'.warmed.alike) hp hb k1 k2 k3 T' rfl X'
    exact ⟨t2, st t2 a1, b1⟩
  · obtain ⟨k1, k2, k3⟩ := vx_keep h0 e1 hS hAX hf hL hF
    obtain ⟨t2, a1, b1⟩ := kx E ce q u t T'.heap (locs ++ L) e1.symm (by rw [← e2]; exact X'.warmed.alike) hp hb k1 k2 k3 (by rw [e1]; exact hce) hcv hcl T' rfl X'
    exact ⟨t2, st.trans a1, b1⟩
theorem vx_callf {S SX : Type} {post : UInt32 → S → Prop} {px : SX → Prop} {B : S → State → Prop} {BX : String → SX → State → Prop} {AX : Nat → Prop} (hr : vx_Run p l e R s m args below meth c H locs cells slots mc ms (F0 m pc ls st0) rest (va_Qf post B A1 a) (vx_X px BX AX) free) (hS : va_S A0 H0 H locs) (hA : ∀ q, q < H.size → A1 q → A0 q) (hf : ∀ q, free q → A0 q) (hAX : ∀ q, q < H.size → AX q → A0 q)
    (kx : ∀ (E : String) (ce : Cell) (q9 : Addr) (u : SX) (t : State) (H1 : Heap) (locs1 : List Loc), t.heap = H1 → s.vm.Alike t.vm → px u → BX E u t → H.size ≤ H1.size → (∀ q : Nat, q < H.size → ¬ AX q → H1[q]? = H[q]?) → va_S A0 H0 H1 locs1 → H1[q9]? = some ce → ce.vm = .none → s.vm.findClass E = some ce.cls → vx_W p l e R s m args below meth c H1 locs1 (cells + mc) (slots + ms) Q (F0 m pc ls rest) q9)
    (kk : ∀ (r : UInt32) (u : S) (t : State) (H1 : Heap) (locs1 : List Loc), t.heap = H1 → s.vm.Alike t.vm → post r u → B u t → H.size ≤ H1.size → (∀ q : Nat, q < H.size → ¬ A1 q → H1[q]? = H[q]?) → va_S A0 H0 H1 locs1 → W p l e R s m args below meth c H1 locs1 (cells + mc) (slots + ms) Q (F0 m (pc + 3) ls (.float r :: rest))) : W p l e R s m args below meth c H locs cells slots Q (F0 m pc ls st0) := by
  intro T hT X
  rcases hr T hT X with ⟨v, st₀, t, T', L, h0, X', hL, e1, e2, ⟨⟨r, u, hv, hp, hb⟩, hF⟩, st⟩ | ⟨q, st₀, t, T', L, E, ce, h0, X', hL, e1, e2, ⟨u, hp, hb, hF⟩, hce, hcv, hcl, st⟩
  · cases hv
    obtain ⟨k1, k2, k3⟩ := vx_keep h0 e1 hS hA hf hL hF
    obtain ⟨t2, a1, b1⟩ := kk r u t T'.heap (locs ++ L) e1.symm (by rw [← e2]; exact X'.warmed.alike) hp hb k1 k2 k3 T' rfl X'
    exact ⟨t2, st t2 a1, b1⟩
  · obtain ⟨k1, k2, k3⟩ := vx_keep h0 e1 hS hAX hf hL hF
    obtain ⟨t2, a1, b1⟩ := kx E ce q u t T'.heap (locs ++ L) e1.symm (by rw [← e2]; exact X'.warmed.alike) hp hb k1 k2 k3 (by rw [e1]; exact hce) hcv hcl T' rfl X'
    exact ⟨t2, st.trans a1, b1⟩
theorem vx_calld {S SX : Type} {post : UInt64 → S → Prop} {px : SX → Prop} {B : S → State → Prop} {BX : String → SX → State → Prop} {AX : Nat → Prop} (hr : vx_Run p l e R s m args below meth c H locs cells slots mc ms (F0 m pc ls st0) rest (va_Qd post B A1 a) (vx_X px BX AX) free) (hS : va_S A0 H0 H locs) (hA : ∀ q, q < H.size → A1 q → A0 q) (hf : ∀ q, free q → A0 q) (hAX : ∀ q, q < H.size → AX q → A0 q)
    (kx : ∀ (E : String) (ce : Cell) (q9 : Addr) (u : SX) (t : State) (H1 : Heap) (locs1 : List Loc), t.heap = H1 → s.vm.Alike t.vm → px u → BX E u t → H.size ≤ H1.size → (∀ q : Nat, q < H.size → ¬ AX q → H1[q]? = H[q]?) → va_S A0 H0 H1 locs1 → H1[q9]? = some ce → ce.vm = .none → s.vm.findClass E = some ce.cls → vx_W p l e R s m args below meth c H1 locs1 (cells + mc) (slots + ms) Q (F0 m pc ls rest) q9)
    (kk : ∀ (r : UInt64) (u : S) (t : State) (H1 : Heap) (locs1 : List Loc), t.heap = H1 → s.vm.Alike t.vm → post r u → B u t → H.size ≤ H1.size → (∀ q : Nat, q < H.size → ¬ A1 q → H1[q]? = H[q]?) → va_S A0 H0 H1 locs1 → W p l e R s m args below meth c H1 locs1 (cells + mc) (slots + ms) Q (F0 m (pc + 3) ls (.double r :: rest))) : W p l e R s m args below meth c H locs cells slots Q (F0 m pc ls st0) := by
  intro T hT X
  rcases hr T hT X with ⟨v, st₀, t, T', L, h0, X', hL, e1, e2, ⟨⟨r, u, hv, hp, hb⟩, hF⟩, st⟩ | ⟨q, st₀, t, T', L, E, ce, h0, X', hL, e1, e2, ⟨u, hp, hb, hF⟩, hce, hcv, hcl, st⟩
  · cases hv
    obtain ⟨k1, k2, k3⟩ := vx_keep h0 e1 hS hA hf hL hF
    obtain ⟨t2, a1, b1⟩ := kk r u t T'.heap (locs ++ L) e1.symm (by rw [← e2]; exact X'.warmed.alike) hp hb k1 k2 k3 T' rfl X'
    exact ⟨t2, st t2 a1, b1⟩
  · obtain ⟨k1, k2, k3⟩ := vx_keep h0 e1 hS hAX hf hL hF
    obtain ⟨t2, a1, b1⟩ := kx E ce q u t T'.heap (locs ++ L) e1.symm (by rw [← e2]; exact X'.warmed.alike) hp hb k1 k2 k3 (by rw [e1]; exact hce) hcv hcl T' rfl X'
    exact ⟨t2, st.trans a1, b1⟩
theorem vx_callv {S SX : Type} {post : S → Prop} {px : SX → Prop} {B : S → State → Prop} {BX : String → SX → State → Prop} {AX : Nat → Prop} (hr : vx_Run p l e R s m args below meth c H locs cells slots mc ms (F0 m pc ls st0) rest (va_Qv post B A1 a) (vx_X px BX AX) free) (hS : va_S A0 H0 H locs) (hA : ∀ q, q < H.size → A1 q → A0 q) (hf : ∀ q, free q → A0 q) (hAX : ∀ q, q < H.size → AX q → A0 q)
    (kx : ∀ (E : String) (ce : Cell) (q9 : Addr) (u : SX) (t : State) (H1 : Heap) (locs1 : List Loc), t.heap = H1 → s.vm.Alike t.vm → px u → BX E u t → H.size ≤ H1.size → (∀ q : Nat, q < H.size → ¬ AX q → H1[q]? = H[q]?) → va_S A0 H0 H1 locs1 → H1[q9]? = some ce → ce.vm = .none → s.vm.findClass E = some ce.cls → vx_W p l e R s m args below meth c H1 locs1 (cells + mc) (slots + ms) Q (F0 m pc ls rest) q9)
    (kk : ∀ (u : S) (t : State) (H1 : Heap) (locs1 : List Loc), t.heap = H1 → s.vm.Alike t.vm → post u → B u t → H.size ≤ H1.size → (∀ q : Nat, q < H.size → ¬ A1 q → H1[q]? = H[q]?) → va_S A0 H0 H1 locs1 → W p l e R s m args below meth c H1 locs1 (cells + mc) (slots + ms) Q (F0 m (pc + 3) ls (rest))) : W p l e R s m args below meth c H locs cells slots Q (F0 m pc ls st0) := by
  intro T hT X
  rcases hr T hT X with ⟨v, st₀, t, T', L, h0, X', hL, e1, e2, ⟨⟨u, hv, hp, hb⟩, hF⟩, st⟩ | ⟨q, st₀, t, T', L, E, ce, h0, X', hL, e1, e2, ⟨u, hp, hb, hF⟩, hce, hcv, hcl, st⟩
  · cases hv
    obtain ⟨k1, k2, k3⟩ := vx_keep h0 e1 hS hA hf hL hF
    obtain ⟨t2, a1, b1⟩ := kk u t T'.heap (locs ++ L) e1.symm (by rw [← e2]; exact X'.warmed.alike) hp hb k1 k2 k3 T' rfl X'
    exact ⟨t2, st t2 a1, b1⟩
  · obtain ⟨k1, k2, k3⟩ := vx_keep h0 e1 hS hAX hf hL hF
    obtain ⟨t2, a1, b1⟩ := kx E ce q u t T'.heap (locs ++ L) e1.symm (by rw [← e2]; exact X'.warmed.alike) hp hb k1 k2 k3 (by rw [e1]; exact hce) hcv hcl T' rfl X'
    exact ⟨t2, st.trans a1, b1⟩
/-- caught by the row x of this method's table; the rows ahead don't take it -/
theorem vx_catch {own name : String} {E : String} {ce : Cell} {q : Addr} (hown : s.vm.findClass own = some m.cls) (pre : List ExceptionTableEntry) (x : ExceptionTableEntry) (suf : List ExceptionTableEntry) (hsplit : c.exceptionTable.toList = pre ++ x :: suf)
    (hpass : ∀ z ∈ pre, covers z pc = false ∨ (z.catchType ≠ 0 ∧ ∃ nm : String, (Cond.classLink own z.catchType nm).before args s = true ∧ va_Nc E nm s)) (hx : covers x pc = true) (h0 : x.catchType ≠ 0)
    (hlink : (Cond.classLink own x.catchType name).before args s = true) (hcast : (Cond.castable E name).before args s = true) (hcell : H[q]? = some ce) (hv : ce.vm = .none) (hcl : s.vm.findClass E = some ce.cls)
    (kk : W p l e R s m args below meth c H locs cells slots Q (F0 m x.handlerPc ls [.ref q])) : vx_W p l e R s m args below meth c H locs cells slots Q (F0 m pc ls rest) q := by
  intro T hT X
  have hpl : e.platform.magicAccessors = ({} : Platform).magicAccessors := by rw [X.admits.platform]
  obtain ⟨c3, c4, hc3, hc4, hasg⟩ := Cond.castable_spec hcast
  cases Option.some.inj (hc3.symm.trans hcl)
  obtain ⟨c5, hc5, hcl5⟩ := Cond.classLink_spec hown hlink e.platform hpl
  cases Option.some.inj (hc4.symm.trans hc5)
  obtain ⟨vm', X', st⟩ := Stand.thenCaughtThrough X q (g := F0 m pc ls rest) rfl (Steps.refl _) (by rw [hT]; exact hcell) (by rw [hv]; rfl) (by obtain ⟨k9, h9, -⟩ := Vm.findClass_spec hcl; exact ⟨k9, h9⟩) pre x suf hsplit
    (fun z hz => by
      rcases hpass z hz with h | ⟨hz0, nm, hl1, hn1⟩
      · exact Or.inl h
      · obtain ⟨c6, hc6, hcl6⟩ := Cond.classLink_spec hown hl1 e.platform hpl
        obtain ⟨a8, b8, h1, h2, h3⟩ := hn1
        cases Option.some.inj (h1.symm.trans hcl)
        cases Option.some.inj (h2.symm.trans hc6)
        exact Or.inr ⟨hz0, _, hcl6, h3⟩) hx (Or.inr ⟨h0, c4, hcl5, hasg⟩)
  obtain ⟨t, a1, b1⟩ := kk (T.setVm vm') hT X'
  exact ⟨t, st.trans a1, b1⟩
end Rows
section Ends
variable {p : Program} {l : Launch} {e : Env} {R : Room} {s : State} {m : MethodId} {args : Array Value} {below : List Frame} {meth : Method} {c : Code} {H : Heap} {locs : List Loc} {cells slots : Nat} {Q : State → Prop}
variable {mc ms : Nat} {free : Addr → Prop} {A0 A1 : Nat → Prop} {H0 : Heap} {a : Array Value} {ls : Array Slot} {st0 rest : List Value}
variable {Qc : Array Value → State → Outcome → State → Prop} {XC : String → State → State → Prop}
/-- what a body that may throw owes at its end -/
def vx_MQ (below : List Frame) (Qc : Array Value → State → Outcome → State → Prop) (XC : String → State → State → Prop) (a : Array Value) (s : State) (mc ms : Nat) (free : Addr → Prop) : State → Prop := fun t =>
  ∃ o, t.status = .running ∧ Ended t below o ∧ vx_Q Qc XC mc ms free a s o t
theorem vx_ret {g : JFrame} {mc ms : Nat} (k : W p l e R s m args below meth c H locs cells slots (MQ below Qc args s mc ms free) g) : W p l e R s m args below meth c H locs cells slots (vx_MQ below Qc XC args s mc ms free) g := by
  intro T hT X
  obtain ⟨t, a1, o, b1, b2, b3, b4⟩ := k T hT X
  exact ⟨t, a1, o, b1, b2, Or.inl ⟨b3, b4⟩⟩
/-- not caught here: it goes on to the caller -/
theorem vx_widen {g : JFrame} {q : Addr} {k n : Nat} (h1 : cells ≤ k) (h2 : slots ≤ n) (kk : vx_W p l e R s m args below meth c H locs k n Q g q) : vx_W p l e R s m args below meth c H locs cells slots Q g q := fun T hT X => kk T hT (stand_widen X h1 h2)
theorem vx_out {pc : Nat} {E : String} {ce : Cell} {q : Addr} {mc ms : Nat} (hout : ∀ x ∈ c.exceptionTable.toList, covers x pc = false) (hlocks : meth.locks = false) (hcell : H[q]? = some ce) (hv : ce.vm = .none) (hcl : s.vm.findClass E = some ce.cls)
    (hx : ∀ t : State, t.heap = H → s.vm.Alike t.vm → XC E s t) (hf : ∀ z ∈ locs, free z.base) (hc : cells ≤ mc) (hs : slots ≤ ms) :
    vx_W p l e R s m args below meth c H locs cells slots (vx_MQ below Qc XC args s mc ms free) (F0 m pc ls rest) q := by
  intro T hT X
  obtain ⟨st1, hrun, hend, hW, hsm⟩ := X.leaveThrown q (g := F0 m pc ls rest) rfl rfl rfl hout hlocks
  have hcell9 : (T.setFrames (.throwing q :: below)).heap[q]? = some ce := by
    show T.heap[q]? = some ce
    rw [hT]; exact hcell
  exact ⟨_, st1, .threw q, hrun, hend, Or.inr ⟨q, rfl, E, ce, locs, hx _ hT hW.alike, hcell9, hv, hcl, hW, hsm.mono hc hs, hf⟩⟩
theorem vx_frame {U : State} {k n : Nat} (h : s.sameButNew ({ U with vm := s.vm } : State) locs k n) : s.heap.size ≤ U.heap.size ∧ ∀ q : Nat, q < s.heap.size → (∀ z ∈ locs, z.base ≠ q) → U.heap[q]? = s.heap[q]? := by
  obtain ⟨-, h2, -, -, -, h6⟩ := h
  refine ⟨h2, fun q hq hz => ?_⟩
  obtain ⟨c9, e1, e2, e3, e4⟩ := h6 q _ (Array.getElem?_eq_getElem hq)
  have hs : c9.slots = (s.heap[q]).slots := Array.ext_getElem? fun i => e4 i fun hm => hz _ hm rfl
  have h9 : c9 = s.heap[q] := by
    rw [hs] at e2
    exact e2
  have e5 : U.heap[q]? = some c9 := e1
  rw [e5, h9, Array.getElem?_eq_getElem hq]
/-- the words of a throw but the four that speak of the heap -/
def vx_no (w : Cond) : Bool := decide (w ≠ .isRef (.static Bundle.tN "UNASSIGNED_STACK" Bundle.steD)) && decide (w ≠ .isRef (.static Bundle.tN "SUPPRESSED_SENTINEL" Bundle.listD)) && decide (w ≠ .laysStatic Bundle.tN "UNASSIGNED_STACK" Bundle.steD) && decide (w ≠ .laysStatic Bundle.tN "SUPPRESSED_SENTINEL" Bundle.listD)
def vx_at0 (own : String) (ic : Nat) (X : String) (names : List String) : List Cond := (Bundle.ownAtoms0 own ic X names).filter vx_no
def vx_atS (own : String) (ic : Nat) (X : String) (names : List String) : List Cond := (Bundle.ownAtoms own ic X names).filter vx_no
/-- a word that the tables alone decide, or a good one -/
def vx_ot (w : Cond) : Bool := w.onTables || goodWord w
theorem vx_ot_at {args a' : Array Value} {s U : State} {w : Cond} (hW : s.WarmedH U.vm) (hvm : s.vm = U.vm) (hg : vx_ot w = true) (h : w.before args s = true) : w.before a' U = true := by
  simp only [vx_ot, Bool.or_eq_true] at hg
  rcases hg with hg | hg
  · exact va_tabs hg hvm h
  · exact word_at hW (good_of_word hg) h
/-- a list's words: the good ones out of the method's own list, the others by premises of their own -/
theorem vx_hat {args : Array Value} {s : State} {L B : List Cond} (h1 : ∀ w ∈ L.filter goodWord, w.before args s = true) (h2 : ∀ w ∈ L.filter (fun w => !goodWord w), w ∈ B) (h3 : ∀ w ∈ B, w.before args s = true) : ∀ w ∈ L, w.before args s = true := by
  intro w hw
  by_cases g : goodWord w = true
  · exact h1 w (List.mem_filter.mpr ⟨hw, g⟩)
  · refine h3 w (h2 w (List.mem_filter.mpr ⟨hw, ?_⟩))
    show (!goodWord w) = true
    cases hgw : goodWord w
    · rfl
    · exact absurd hgw g
theorem vx_c {args : Array Value} {s : State} {w : Cond} {B : List Cond} (h : w.before args s = true) (t : ∀ w ∈ B, w.before args s = true) : ∀ w' ∈ w :: B, w'.before args s = true := fun w' h' => (List.mem_cons.mp h').elim (fun e => by rw [e]; exact h) (t w')
theorem vx_n {args : Array Value} {s : State} : ∀ w ∈ ([] : List Cond), w.before args s = true := fun _ h => nomatch h
theorem vx_own {args : Array Value} {s : State} {L : List Cond} (h1 : ∀ w ∈ L.filter vx_no, w.before args s = true)
    (hU : (Cond.isRef (.static Bundle.tN "UNASSIGNED_STACK" Bundle.steD)).before args s = true) (hN : (Cond.isRef (.static Bundle.tN "SUPPRESSED_SENTINEL" Bundle.listD)).before args s = true)
    (lU : (Cond.laysStatic Bundle.tN "UNASSIGNED_STACK" Bundle.steD).before args s = true) (lN : (Cond.laysStatic Bundle.tN "SUPPRESSED_SENTINEL" Bundle.listD).before args s = true) : ∀ w ∈ L, w.before args s = true := by
  intro w hw
  by_cases e1 : w = .isRef (.static Bundle.tN "UNASSIGNED_STACK" Bundle.steD)
  · rw [e1]; exact hU
  · by_cases e2 : w = .isRef (.static Bundle.tN "SUPPRESSED_SENTINEL" Bundle.listD)
    · rw [e2]; exact hN
    · by_cases e3 : w = .laysStatic Bundle.tN "UNASSIGNED_STACK" Bundle.steD
      · rw [e3]; exact lU
      · by_cases e4 : w = .laysStatic Bundle.tN "SUPPRESSED_SENTINEL" Bundle.listD
        · rw [e4]; exact lN
        · exact h1 w (List.mem_filter.mpr ⟨hw, by unfold vx_no; rw [decide_eq_true e1, decide_eq_true e2, decide_eq_true e3, decide_eq_true e4]; rfl⟩)
/-- where a static field lies, its class's statics cell in H -/
def vx_L (C n d : String) (A : Nat → Prop) (U : State) (H : Heap) : Prop := ∃ (c : ClassId) (k : Class) (i : Nat) (f : Field) (a : Nat) (cell : Cell), U.vm.findClass C = some c ∧ U.fieldFound? C n d = some (c, k, i, f) ∧ f.isStatic = true ∧ k.statics = some a ∧ H[a]? = some cell ∧ cell.vm.isStatics = true ∧ cell.cls = c ∧ f.slot < cell.slots.size ∧ k.staticTypes[f.slot]? = some f.type ∧ ¬ A a
theorem vx_L.moved {C n d : String} {A : Nat → Prop} {u U : State} {H : Heap} (hvm : u.vm.Alike U.vm) (h : vx_L C n d A u H) : vx_L C n d A U H := by
  obtain ⟨c, k, i, f, a, cell, h1, h2, h3, h4, h5, h6, h7, h8, h9, h10⟩ := h
  obtain ⟨k', hi', he⟩ := State.fieldFound?_setVm hvm h2
  exact ⟨c, k', i, f, a, cell, by rw [hvm.findClass]; exact h1, hi', h3, by rw [he]; exact h4, h5, h6, h7, h8, by rw [he]; exact h9, h10⟩
theorem vx_L.kept {C n d : String} {A : Nat → Prop} {U : State} {H H1 : Heap} (h : vx_L C n d A U H) (hq : ∀ a : Nat, a < H.size → ¬ A a → H1[a]? = H[a]?) : vx_L C n d A U H1 := by
  obtain ⟨c, k, i, f, a, cell, h1, h2, h3, h4, h5, h6, h7, h8, h9, h10⟩ := h
  exact ⟨c, k, i, f, a, cell, h1, h2, h3, h4, by rw [hq a (Array.getElem?_eq_some_iff.mp h5).1 h10]; exact h5, h6, h7, h8, h9, h10⟩
theorem vx_L.narrow {C n d : String} {A B : Nat → Prop} {U : State} {H : Heap} (h : vx_L C n d A U H) (hAB : ∀ q, B q → A q) : vx_L C n d B U H := by
  obtain ⟨c, k, i, f, a, cell, h1, h2, h3, h4, h5, h6, h7, h8, h9, h10⟩ := h
  exact ⟨c, k, i, f, a, cell, h1, h2, h3, h4, h5, h6, h7, h8, h9, fun z => h10 (hAB _ z)⟩
theorem vx_L.word {C n d : String} {A : Nat → Prop} {s : State} {args : Array Value} (h : vx_L C n d A s s.heap) : (Cond.laysStatic C n d).before args s = true := by
  obtain ⟨c, k, i, f, a, cell, h1, h2, h3, h4, h5, h6, h7, h8, h9, -⟩ := h
  show (Cond.laysStatic C n d).holds args s none s [] = true
  exact Cond.laysStatic_of h1 h2 h3 h4 h5 h6 h7 h8 h9
/-- .. and what it holds: null or some reference -/
def vx_Zq (C n d : String) (A : Nat → Prop) (U : State) (H : Heap) : Prop := va_Zq C n d A U H ∧ vx_L C n d A U H
theorem vx_Zq.moved {C n d : String} {A : Nat → Prop} {u U : State} {H : Heap} (hvm : u.vm.Alike U.vm) (h : vx_Zq C n d A u H) : vx_Zq C n d A U H := ⟨va_Zq.moved hvm h.1, vx_L.moved hvm h.2⟩
theorem vx_Zq.kept {C n d : String} {A : Nat → Prop} {U : State} {H H1 : Heap} (h : vx_Zq C n d A U H) (hq : ∀ a : Nat, a < H.size → ¬ A a → H1[a]? = H[a]?) : vx_Zq C n d A U H1 := ⟨va_Zq.kept h.1 hq, vx_L.kept h.2 hq⟩
theorem vx_Zq.narrow {C n d : String} {A B : Nat → Prop} {U : State} {H : Heap} (h : vx_Zq C n d A U H) (hAB : ∀ q, B q → A q) : vx_Zq C n d B U H := ⟨va_Zq.narrow h.1 hAB, vx_L.narrow h.2 hAB⟩
theorem vx_Zqof {args : Array Value} {s : State} {C n d : String} {A : Nat → Prop} (hl : (Cond.laysStatic C n d).before args s = true) (hini : (Cond.initialized C).before args s = true) (h : (Cond.isRef (.static C n d)).before args s = true) (hA : ∀ a : Nat, a < s.heap.size → ¬ A a) : vx_Zq C n d A s s.heap := by
  refine ⟨va_Zqof hl hini h hA, ?_⟩
  obtain ⟨c, k, i, f, a, cell, h1, h2, h3, h4, h5, h6, h7, h8, h9⟩ := Cond.laysStatic_spec hl
  exact ⟨c, k, i, f, a, cell, h1, h2, h3, h4, h5, h6, h7, h8, h9, hA a (Array.getElem?_eq_some_iff.mp h5).1⟩
theorem vx_isRef {C n d : String} {v : Value} {A : Nat → Prop} {s : State} {args : Array Value} (h : va_Z C n d v A s s.heap) (hv : v.isRef = true) : (Cond.isRef (.static C n d)).before args s = true := by
  obtain ⟨cf, kf, fi, f, a, cell, h1, h2, h3, h4, h5, h6, h7, -⟩ := h
  have he : (Term.static C n d).eval args s none [] s = some v := by
    simp [Term.eval, State.fieldNamed?, h1, h2, h4, h5, h6, h7]
  simp only [Cond.before, Cond.holds, Cond.value, he]
  cases v <;> simp_all [Value.isRef]
theorem vx_isRefq {C n d : String} {A : Nat → Prop} {s : State} {args : Array Value} (h : va_Zq C n d A s s.heap) : (Cond.isRef (.static C n d)).before args s = true := by
  rcases h with h | ⟨t, h⟩
  · exact vx_isRef h rfl
  · exact vx_isRef h rfl
/-- the same frame, seen from here: as if the method were called anew in this heap -/
theorem vx_rebase {T : State} (X : Stand p l e R s m args below meth c T locs cells slots) {R' : Room} (hf : R'.frames ≤ R.frames) (hl : R'.locals ≤ R.locals) (hc : cells + R'.cells ≤ R.cells) (hs : slots + R'.slots ≤ R.slots) :
    Stand p l e R' ((T.setVm s.vm).setFrames (.invoking m args :: below)) m args below meth c T [] 0 0 := by
  have htop : (T.setVm s.vm).topJava?.isSome := X.here.top
  have hF : ((T.setVm s.vm).setFrames (.invoking m args :: below)).frames = .invoking m args :: below := State.frames_setFrames _ (State.cur_lt_of_top htop)
  obtain ⟨g₀, hg0⟩ := Option.isSome_iff_exists.mp htop
  obtain ⟨r, hr⟩ := State.topJava?_eq_some.mp hg0
  have hl9 : e.platform.stackLimits (T.setVm s.vm).me = e.platform.stackLimits s.me := X.limits
  have hb9 : (T.setVm s.vm).me.stackBytes = s.me.stackBytes := X.bytes
  refine ⟨X.admits, X.cas, X.clock, hF, ?_, X.hears, X.method, X.code, X.here, X.tail, X.warmed, ?_, ?_, ?_⟩
  · have h := X.room
    have hU : ((T.setVm s.vm).setFrames (.invoking m args :: below)).localsInUse = s.localsInUse := by
      rw [State.localsInUse_invoking hF (meth := meth) (c := c) X.method X.code, State.localsInUse_invoking X.frames X.method X.code]
    simp only [State.hasRoom, Bool.and_eq_true, decide_eq_true_eq] at h ⊢
    obtain ⟨⟨⟨⟨h1, h2, h3, h4, h5, h6⟩, h7⟩, h8⟩, h9⟩ := h
    rw [X.frames, List.length_cons] at h2 h3
    have q1 := X.heapSize
    have q2 := X.used
    simp only [hF, hU, List.length_cons, State.stackLimits_setFrames, State.stackBytes_setFrames, hl9, hb9]
    refine ⟨⟨⟨⟨by omega, by omega, by omega, by omega, by omega, h6⟩, ?_⟩, ?_⟩, X.book⟩
    · show T.heap.size + R'.cells ≤ e.platform.maxCells
      omega
    · show T.slotsUsed + R'.slots ≤ e.platform.maxSlots
      omega
  · rw [State.stackLimits_setFrames]; rfl
  · rw [State.stackBytes_setFrames]; rfl
  · refine ⟨?_, Nat.le_refl _, Nat.le_refl _, ?_, ?_, fun a c9 h9 => ⟨c9, h9, rfl, rfl, fun _ _ => rfl⟩⟩
    · obtain ⟨t, ht, -⟩ := State.frames_cons hr
      show T.setVm s.vm = { ((T.setVm s.vm).setFrames (.invoking m args :: below)).setFrames (T.setVm s.vm).frames with heap := T.heap, slotsUsed := T.slotsUsed }
      rw [State.setFrames_setFrames, State.setFrames_self ht]
      rfl
    · show T.slotsUsed = T.slotsUsed + ((T.heap.toList.drop T.heap.size).map (·.slots.size)).sum
      rw [List.drop_eq_nil_of_le (Nat.le_of_eq Array.length_toList)]
      rfl
    · show ((T.heap.toList.drop T.heap.size).map (·.slots.size)).sum ≤ 0
      rw [List.drop_eq_nil_of_le (Nat.le_of_eq Array.length_toList)]
      exact Nat.le_refl _
/-- 'throw new E()': new; dup; invokespecial; athrow -/
theorem vx_throw0 {cc : ByteArray} {pc : Nat} (hexec : p.tables.exec = Jvm.exec) (hb : c.code = cc) (hl : l.stackTraces = false) {own cls : String} {names : List String} {ik ic mc ms : Nat} {A : Nat → Prop}
    (hown : s.vm.findClass own = some m.cls) (hcls : Bundle.fit cls = true) (hnames : ∀ n ∈ names, Bundle.fit n = true)
    (hk : (Cond.classLink own ik cls).before args s = true) (hini : (Cond.initialized cls).before args s = true) (hat : ∀ w ∈ vx_at0 own ic cls names, w.before args s = true)
    (hgood : ∀ w ∈ Cond.classLink own ik cls :: Cond.initialized cls :: vx_at0 own ic cls names, vx_ot w = true)
    (hU : vx_Zq Bundle.tN "UNASSIGNED_STACK" Bundle.steD A s s.heap) (hN : vx_Zq Bundle.tN "SUPPRESSED_SENTINEL" Bundle.listD A s s.heap) (hS : va_S A s.heap H locs) (hsize : ls.size = c.maxLocals)
    (d0 : decode cc pc = .ok (.new ik, 3)) (d3 : decode cc (pc + 3) = .ok (.dup, 1)) (d4 : decode cc (pc + 4) = .ok (.invokespecial ic, 3)) (d7 : decode cc (pc + 7) = .ok (.athrow, 1))
    (hout : ∀ x ∈ c.exceptionTable.toList, covers x (pc + 7) = false)
    (hRframes : names.length + 3 < R.frames) (hRlocals : (rest.map fun v => v.category).sum + (13 * (names.length + 1) + 42) ≤ R.locals) (hRcells : cells + 1 ≤ R.cells) (hRslots : slots + 6 ≤ R.slots) (hlocks : meth.locks = false)
    (hx : ∀ t : State, s.vm.Alike t.vm → H.size ≤ t.heap.size → (∀ q : Nat, q < H.size → t.heap[q]? = H[q]?) → XC cls s t)
    (hf : ∀ z ∈ locs, free z.base) (hc : cells + 1 ≤ mc) (hs : slots + 6 ≤ ms) :
    W p l e R s m args below meth c H locs cells slots (vx_MQ below Qc XC args s mc ms free) (F0 m pc ls rest) := by
  intro T hT X
  have htr : e.platform.stackTraces = false := (show e.platform.stackTraces = l.stackTraces by rw [X.admits.platform]).trans hl
  have Y := vx_rebase X (R' := { frames := R.frames, locals := R.locals, cells := 1, slots := 6 }) (Nat.le_refl _) (Nat.le_refl _) hRcells hRslots
  obtain ⟨s', hA⟩ : ∃ z, z = (T.setVm s.vm).setFrames (.invoking m args :: below) := ⟨_, rfl⟩
  rw [← hA] at Y
  have hvm : s'.vm = s.vm := by rw [hA]; rfl
  have hhp : s'.heap = H := by rw [hA]; exact hT
  have hW0 : s.WarmedH s'.vm := by rw [hvm]; exact State.WarmedH.refl s
  have hat' : ∀ w ∈ vx_at0 own ic cls names, w.before args s' = true := fun w hw => vx_ot_at hW0 hvm.symm (hgood w (List.mem_cons_of_mem _ (List.mem_cons_of_mem _ hw))) (hat w hw)
  have hk' : (Cond.classLink own ik cls).before args s' = true := vx_ot_at hW0 hvm.symm (hgood _ List.mem_cons_self) hk
  have hini' : (Cond.initialized cls).before args s' = true := vx_ot_at hW0 hvm.symm (hgood _ (List.mem_cons_of_mem _ List.mem_cons_self)) hini
  have hU' : vx_Zq Bundle.tN "UNASSIGNED_STACK" Bundle.steD A s' s'.heap := by rw [hhp]; exact vx_Zq.moved hW0.alike (hU.kept hS.2.1)
  have hN' : vx_Zq Bundle.tN "SUPPRESSED_SENTINEL" Bundle.listD A s' s'.heap := by rw [hhp]; exact vx_Zq.moved hW0.alike (hN.kept hS.2.1)
  have h : ∀ w ∈ Bundle.ownAtoms0 own ic cls names, w.before args s' = true := vx_own hat' (vx_isRefq hU'.1) (vx_isRefq hN'.1) hU'.2.word hN'.2.word
  have hown' : s'.vm.findClass own = some m.cls := by rw [hvm]; exact hown
  have hins : (Cond.instantiable cls 6).before args s' = true := h _ (by simp [Bundle.ownAtoms0])
  obtain ⟨vm₁, cX, kX, hfX, hkX, -, -, X₁, st1⟩ := Y.newCold hexec (own := own) (C := cls) (index := ik) (n := 6) hown' hk' hins hini'
    (g := F0 m pc ls rest) rfl (by rw [hb]; exact d0) (Nat.le_refl _) (Nat.le_refl _)
  generalize hT1 : (T.setVm vm₁).pushCell { cls := cX, slots := kX.instanceTypes.map defaultValue, vm := .none } = T1 at X₁ st1
  have hcat : (Value.ref T.heap.size).category = 1 := rfl
  have hcellA : T1.heap[T.heap.size]? = some (freshCell cX kX) := by rw [← hT1]; exact State.heap_pushCell_size _ _
  have d3' : decode c.code (pc + 3) = .ok (.dup, 1) := by rw [hb]; exact d3
  obtain ⟨U, hsteps, hrun, hend, hW, hsame, ce, hce, hO⟩ := X₁.ctorThrow0 hexec htr (own := own) (cls := cls) (names := names) (ic := ic) hown' hcls hnames h (fun x hx => nomatch hx) hfX hkX hcellA (by rw [hhp, hT]; exact Nat.le_refl _)
    (g := { method := m, pc := pc + 4, locals := ls, stack := .ref T.heap.size :: .ref T.heap.size :: rest, locked := none }) rfl hsize rfl rfl (rest := rest) rfl
    (by rw [hb]; exact d4) (by rw [hb]; exact d7) hout hRframes (by simp only [List.map_cons, List.sum_cons, hcat]; omega) hlocks
  obtain ⟨f1, f2⟩ := vx_frame hsame
  rw [hhp] at f1 f2
  have hWs : s.WarmedH U.vm := State.WarmedH.trans hW0 hW
  have hcl : s.vm.findClass cls = some ce.cls := by
    have h9 := hO.cls
    rw [hvm] at h9
    exact h9
  have hall : s.sameButNew ({ U with vm := s.vm } : State) locs mc ms := by
    subst hA
    obtain ⟨e1, e2⟩ := hsame
    rw [State.setFrames_setFrames] at e1
    have h2 : (T.setVm s.vm).sameButNew ({ U with vm := s.vm } : State) [] (0 + 1) (0 + 6) := ⟨e1, e2⟩
    have h3 := X.same.trans h2
    rw [List.append_nil] at h3
    exact h3.mono hc hs
  refine ⟨U, ?_, .threw T.heap.size, hrun, hend, Or.inr ⟨T.heap.size, rfl, cls, ce, locs, hx U hWs.alike f1 (fun q hq => f2 q hq (fun z hz => nomatch hz)), hce, hO.vm, hcl, hWs, hall, hf⟩⟩
  refine st1 _ ?_
  show Steps p.tables e below (T1.setTop { method := m, pc := pc + 3, locals := ls, stack := .ref T.heap.size :: rest, locked := none }) _
  jvm_step X₁.here [X₁.here.top, hexec, d3', Value.category]
  exact hsteps
/-- 'throw new E("text")': new; dup; ldc; invokespecial; athrow -/
theorem vx_throwS {cc : ByteArray} {pc : Nat} (hexec : p.tables.exec = Jvm.exec) (hb : c.code = cc) (hl : l.stackTraces = false) {own cls text : String} {names : List String} {ik is ic mc ms sa : Nat} {A : Nat → Prop}
    (hown : s.vm.findClass own = some m.cls) (hcls : Bundle.fit cls = true) (hnames : ∀ n ∈ names, Bundle.fit n = true)
    (hk : (Cond.classLink own ik cls).before args s = true) (hini : (Cond.initialized cls).before args s = true) (hstr : vk_R own is text sa s) (hat : ∀ w ∈ vx_atS own ic cls names, w.before args s = true)
    (hgood : ∀ w ∈ Cond.classLink own ik cls :: Cond.initialized cls :: vx_atS own ic cls names, vx_ot w = true)
    (hU : vx_Zq Bundle.tN "UNASSIGNED_STACK" Bundle.steD A s s.heap) (hN : vx_Zq Bundle.tN "SUPPRESSED_SENTINEL" Bundle.listD A s s.heap) (hS : va_S A s.heap H locs) (hsize : ls.size = c.maxLocals)
    (d0 : decode cc pc = .ok (.new ik, 3)) (d3 : decode cc (pc + 3) = .ok (.dup, 1)) (d4 : decode cc (pc + 4) = .ok (.ldc is, 2)) (d6 : decode cc (pc + 6) = .ok (.invokespecial ic, 3)) (d9 : decode cc (pc + 9) = .ok (.athrow, 1))
    (hout : ∀ x ∈ c.exceptionTable.toList, covers x (pc + 9) = false)
    (hRframes : names.length + 3 < R.frames) (hRlocals : (rest.map fun v => v.category).sum + (13 * (names.length + 1) + 43) ≤ R.locals) (hRcells : cells + 1 ≤ R.cells) (hRslots : slots + 6 ≤ R.slots) (hlocks : meth.locks = false)
    (hx : ∀ t : State, s.vm.Alike t.vm → H.size ≤ t.heap.size → (∀ q : Nat, q < H.size → t.heap[q]? = H[q]?) → XC cls s t)
    (hf : ∀ z ∈ locs, free z.base) (hc : cells + 1 ≤ mc) (hs : slots + 6 ≤ ms) :
    W p l e R s m args below meth c H locs cells slots (vx_MQ below Qc XC args s mc ms free) (F0 m pc ls rest) := by
  intro T hT X
  have htr : e.platform.stackTraces = false := (show e.platform.stackTraces = l.stackTraces by rw [X.admits.platform]).trans hl
  have Y := vx_rebase X (R' := { frames := R.frames, locals := R.locals, cells := 1, slots := 6 }) (Nat.le_refl _) (Nat.le_refl _) hRcells hRslots
  obtain ⟨s', hA⟩ : ∃ z, z = (T.setVm s.vm).setFrames (.invoking m args :: below) := ⟨_, rfl⟩
  rw [← hA] at Y
  have hvm : s'.vm = s.vm := by rw [hA]; rfl
  have hhp : s'.heap = H := by rw [hA]; exact hT
  have hW0 : s.WarmedH s'.vm := by rw [hvm]; exact State.WarmedH.refl s
  have hat' : ∀ w ∈ vx_atS own ic cls names, w.before args s' = true := fun w hw => vx_ot_at hW0 hvm.symm (hgood w (List.mem_cons_of_mem _ (List.mem_cons_of_mem _ hw))) (hat w hw)
  have hk' : (Cond.classLink own ik cls).before args s' = true := vx_ot_at hW0 hvm.symm (hgood _ List.mem_cons_self) hk
  have hini' : (Cond.initialized cls).before args s' = true := vx_ot_at hW0 hvm.symm (hgood _ (List.mem_cons_of_mem _ List.mem_cons_self)) hini
  have hU' : vx_Zq Bundle.tN "UNASSIGNED_STACK" Bundle.steD A s' s'.heap := by rw [hhp]; exact vx_Zq.moved hW0.alike (hU.kept hS.2.1)
  have hN' : vx_Zq Bundle.tN "SUPPRESSED_SENTINEL" Bundle.listD A s' s'.heap := by rw [hhp]; exact vx_Zq.moved hW0.alike (hN.kept hS.2.1)
  have h : ∀ w ∈ Bundle.ownAtoms own ic cls names, w.before args s' = true := vx_own hat' (vx_isRefq hU'.1) (vx_isRefq hN'.1) hU'.2.word hN'.2.word
  have hown' : s'.vm.findClass own = some m.cls := by rw [hvm]; exact hown
  have hins : (Cond.instantiable cls 6).before args s' = true := h _ (by simp [Bundle.ownAtoms])
  obtain ⟨vm₁, cX, kX, hfX, hkX, -, -, X₁, st1⟩ := Y.newCold hexec (own := own) (C := cls) (index := ik) (n := 6) hown' hk' hins hini'
    (g := F0 m pc ls rest) rfl (by rw [hb]; exact d0) (Nat.le_refl _) (Nat.le_refl _)
  generalize hT1 : (T.setVm vm₁).pushCell { cls := cX, slots := kX.instanceTypes.map defaultValue, vm := .none } = T1 at X₁ st1
  have hcat : (Value.ref T.heap.size).category = 1 := rfl
  have hcellA : T1.heap[T.heap.size]? = some (freshCell cX kX) := by rw [← hT1]; exact State.heap_pushCell_size _ _
  have d3' : decode c.code (pc + 3) = .ok (.dup, 1) := by rw [hb]; exact d3
  have d4' : decode c.code (pc + 4) = .ok (.ldc is, 2) := by rw [hb]; exact d4
  have hstr' : vk_R own is text sa s' := vk_R.warm hW0 hstr
  obtain ⟨U, hsteps, hrun, hend, hW, hsame, ce, hce, hO⟩ := X₁.ctorThrowS hexec htr (own := own) (cls := cls) (names := names) (ic := ic) hown' hcls hnames h (fun x hx => nomatch hx) hfX hkX hcellA (by rw [hhp, hT]; exact Nat.le_refl _) (msg := .ref sa) rfl
    (g := { method := m, pc := pc + 6, locals := ls, stack := .ref sa :: .ref T.heap.size :: .ref T.heap.size :: rest, locked := none }) rfl hsize rfl rfl (rest := rest) rfl
    (by rw [hb]; exact d6) (by rw [hb]; exact d9) hout hRframes (by simp only [List.map_cons, List.sum_cons, hcat]; omega) hlocks
  obtain ⟨f1, f2⟩ := vx_frame hsame
  rw [hhp] at f1 f2
  have hWs : s.WarmedH U.vm := State.WarmedH.trans hW0 hW
  have hcl : s.vm.findClass cls = some ce.cls := by
    have h9 := hO.cls
    rw [hvm] at h9
    exact h9
  have hall : s.sameButNew ({ U with vm := s.vm } : State) locs mc ms := by
    subst hA
    obtain ⟨e1, e2⟩ := hsame
    rw [State.setFrames_setFrames] at e1
    have h2 : (T.setVm s.vm).sameButNew ({ U with vm := s.vm } : State) [] (0 + 1) (0 + 6) := ⟨e1, e2⟩
    have h3 := X.same.trans h2
    rw [List.append_nil] at h3
    exact h3.mono hc hs
  refine ⟨U, ?_, .threw T.heap.size, hrun, hend, Or.inr ⟨T.heap.size, rfl, cls, ce, locs, hx U hWs.alike f1 (fun q hq => f2 q hq (fun z hz => nomatch hz)), hce, hO.vm, hcl, hWs, hall, hf⟩⟩
  refine st1 _ ?_
  show Steps p.tables e below (T1.setTop { method := m, pc := pc + 3, locals := ls, stack := .ref T.heap.size :: rest, locked := none }) _
  jvm_step X₁.here [X₁.here.top, hexec, d3', Value.category]
  exact X₁.ldcString hexec (own := own) (text := text) (index := is) (a := sa) hown' hstr'.1 hstr'.2
    (g := { method := m, pc := pc + 4, locals := ls, stack := .ref T.heap.size :: .ref T.heap.size :: rest, locked := none }) rfl d4' _ hsteps
/-- 'throw new E("text")', the text by a wide index -/
theorem vx_throwSW {cc : ByteArray} {pc : Nat} (hexec : p.tables.exec = Jvm.exec) (hb : c.code = cc) (hl : l.stackTraces = false) {own cls text : String} {names : List String} {ik is ic mc ms sa : Nat} {A : Nat → Prop}
    (hown : s.vm.findClass own = some m.cls) (hcls : Bundle.fit cls = true) (hnames : ∀ n ∈ names, Bundle.fit n = true)
    (hk : (Cond.classLink own ik cls).before args s = true) (hini : (Cond.initialized cls).before args s = true) (hstr : vk_R own is text sa s) (hat : ∀ w ∈ vx_atS own ic cls names, w.before args s = true)
    (hgood : ∀ w ∈ Cond.classLink own ik cls :: Cond.initialized cls :: vx_atS own ic cls names, vx_ot w = true)
    (hU : vx_Zq Bundle.tN "UNASSIGNED_STACK" Bundle.steD A s s.heap) (hN : vx_Zq Bundle.tN "SUPPRESSED_SENTINEL" Bundle.listD A s s.heap) (hS : va_S A s.heap H locs) (hsize : ls.size = c.maxLocals)
    (d0 : decode cc pc = .ok (.new ik, 3)) (d3 : decode cc (pc + 3) = .ok (.dup, 1)) (d4 : decode cc (pc + 4) = .ok (.ldc_w is, 3)) (d7 : decode cc (pc + 7) = .ok (.invokespecial ic, 3)) (d10 : decode cc (pc + 10) = .ok (.athrow, 1))
    (hout : ∀ x ∈ c.exceptionTable.toList, covers x (pc + 10) = false)
    (hRframes : names.length + 3 < R.frames) (hRlocals : (rest.map fun v => v.category).sum + (13 * (names.length + 1) + 43) ≤ R.locals) (hRcells : cells + 1 ≤ R.cells) (hRslots : slots + 6 ≤ R.slots) (hlocks : meth.locks = false)
    (hx : ∀ t : State, s.vm.Alike t.vm → H.size ≤ t.heap.size → (∀ q : Nat, q < H.size → t.heap[q]? = H[q]?) → XC cls s t)
    (hf : ∀ z ∈ locs, free z.base) (hc : cells + 1 ≤ mc) (hs : slots + 6 ≤ ms) :
    W p l e R s m args below meth c H locs cells slots (vx_MQ below Qc XC args s mc ms free) (F0 m pc ls rest) := by
  intro T hT X
  have htr : e.platform.stackTraces = false := (show e.platform.stackTraces = l.stackTraces by rw [X.admits.platform]).trans hl
  have Y := vx_rebase X (R' := { frames := R.frames, locals := R.locals, cells := 1, slots := 6 }) (Nat.le_refl _) (Nat.le_refl _) hRcells hRslots
  obtain ⟨s', hA⟩ : ∃ z, z = (T.setVm s.vm).setFrames (.invoking m args :: below) := ⟨_, rfl⟩
  rw [← hA] at Y
  have hvm : s'.vm = s.vm := by rw [hA]; rfl
  have hhp : s'.heap = H := by rw [hA]; exact hT
  have hW0 : s.WarmedH s'.vm := by rw [hvm]; exact State.WarmedH.refl s
  have hat' : ∀ w ∈ vx_atS own ic cls names, w.before args s' = true := fun w hw => vx_ot_at hW0 hvm.symm (hgood w (List.mem_cons_of_mem _ (List.mem_cons_of_mem _ hw))) (hat w hw)
  have hk' : (Cond.classLink own ik cls).before args s' = true := vx_ot_at hW0 hvm.symm (hgood _ List.mem_cons_self) hk
  have hini' : (Cond.initialized cls).before args s' = true := vx_ot_at hW0 hvm.symm (hgood _ (List.mem_cons_of_mem _ List.mem_cons_self)) hini
  have hU' : vx_Zq Bundle.tN "UNASSIGNED_STACK" Bundle.steD A s' s'.heap := by rw [hhp]; exact vx_Zq.moved hW0.alike (hU.kept hS.2.1)
  have hN' : vx_Zq Bundle.tN "SUPPRESSED_SENTINEL" Bundle.listD A s' s'.heap := by rw [hhp]; exact vx_Zq.moved hW0.alike (hN.kept hS.2.1)
  have h : ∀ w ∈ Bundle.ownAtoms own ic cls names, w.before args s' = true := vx_own hat' (vx_isRefq hU'.1) (vx_isRefq hN'.1) hU'.2.word hN'.2.word
  have hown' : s'.vm.findClass own = some m.cls := by rw [hvm]; exact hown
  have hins : (Cond.instantiable cls 6).before args s' = true := h _ (by simp [Bundle.ownAtoms])
  obtain ⟨vm₁, cX, kX, hfX, hkX, -, -, X₁, st1⟩ := Y.newCold hexec (own := own) (C := cls) (index := ik) (n := 6) hown' hk' hins hini'
    (g := F0 m pc ls rest) rfl (by rw [hb]; exact d0) (Nat.le_refl _) (Nat.le_refl _)
  generalize hT1 : (T.setVm vm₁).pushCell { cls := cX, slots := kX.instanceTypes.map defaultValue, vm := .none } = T1 at X₁ st1
  have hcat : (Value.ref T.heap.size).category = 1 := rfl
  have hcellA : T1.heap[T.heap.size]? = some (freshCell cX kX) := by rw [← hT1]; exact State.heap_pushCell_size _ _
  have d3' : decode c.code (pc + 3) = .ok (.dup, 1) := by rw [hb]; exact d3
  have d4' : decode c.code (pc + 4) = .ok (.ldc_w is, 3) := by rw [hb]; exact d4
  have hstr' : vk_R own is text sa s' := vk_R.warm hW0 hstr
  obtain ⟨U, hsteps, hrun, hend, hW, hsame, ce, hce, hO⟩ := X₁.ctorThrowS hexec htr (own := own) (cls := cls) (names := names) (ic := ic) hown' hcls hnames h (fun x hx => nomatch hx) hfX hkX hcellA (by rw [hhp, hT]; exact Nat.le_refl _) (msg := .ref sa) rfl
    (g := { method := m, pc := pc + 7, locals := ls, stack := .ref sa :: .ref T.heap.size :: .ref T.heap.size :: rest, locked := none }) rfl hsize rfl rfl (rest := rest) rfl
    (by rw [hb]; exact d7) (by rw [hb]; exact d10) hout hRframes (by simp only [List.map_cons, List.sum_cons, hcat]; omega) hlocks
  obtain ⟨f1, f2⟩ := vx_frame hsame
  rw [hhp] at f1 f2
  have hWs : s.WarmedH U.vm := State.WarmedH.trans hW0 hW
  have hcl : s.vm.findClass cls = some ce.cls := by
    have h9 := hO.cls
    rw [hvm] at h9
    exact h9
  have hall : s.sameButNew ({ U with vm := s.vm } : State) locs mc ms := by
    subst hA
    obtain ⟨e1, e2⟩ := hsame
    rw [State.setFrames_setFrames] at e1
    have h2 : (T.setVm s.vm).sameButNew ({ U with vm := s.vm } : State) [] (0 + 1) (0 + 6) := ⟨e1, e2⟩
    have h3 := X.same.trans h2
    rw [List.append_nil] at h3
    exact h3.mono hc hs
  refine ⟨U, ?_, .threw T.heap.size, hrun, hend, Or.inr ⟨T.heap.size, rfl, cls, ce, locs, hx U hWs.alike f1 (fun q hq => f2 q hq (fun z hz => nomatch hz)), hce, hO.vm, hcl, hWs, hall, hf⟩⟩
  refine st1 _ ?_
  show Steps p.tables e below (T1.setTop { method := m, pc := pc + 3, locals := ls, stack := .ref T.heap.size :: rest, locked := none }) _
  jvm_step X₁.here [X₁.here.top, hexec, d3', Value.category]
  exact X₁.ldcStringW hexec (own := own) (text := text) (index := is) (a := sa) hown' hstr'.1 hstr'.2
    (g := { method := m, pc := pc + 4, locals := ls, stack := .ref T.heap.size :: .ref T.heap.size :: rest, locked := none }) rfl d4' _ hsteps
end Ends
section Bodies
variable {l : Launch}
theorem vx_ofW {y : MethodName} {ws ws' : List Cond} {rm : Room} {Pc : Array Value → State → Prop} {Qc : Array Value → State → Outcome → State → Prop} {XC : String → State → State → Prop} {mc ms : Nat} {free : Addr → Prop} {cc : ByteArray} {maxL : Nat} {ret : Option FieldType}
    (hy : plainName y.cls = true) (hw : ws = Cond.code y cc maxL ret :: ws')
    (body : ∀ p e s m args below meth c s₁, BodyLoose p l y (headSpec ws rm) cc maxL ret e s m args below meth c s₁ → c.maxLocals = maxL → (∀ x ∈ c.exceptionTable.toList, False) → Pc args s →
      W p l e (headSpec ws rm).room s m args below meth c s.heap [] 0 0 (vx_MQ below Qc XC args s mc ms free) (entryFrame m args maxL)) : vx_Met l y ws rm Pc Qc XC mc ms free := by
  refine MetFree.of_bodyS (code := cc) (maxLocals := maxL) (ret := ret) hy ?_ ?_
  · intro args s m h hn
    obtain ⟨meth, c, h1, h2, h3, h4, h5, h6, -, -⟩ := Cond.code_spec hn (atoms_spec (ws := ws) h _ (by rw [hw]; exact List.mem_cons_self))
    exact ⟨meth, c, h1, h2, h3, h4, h5, h6⟩
  · intro p e s m args below meth c s₁ B hml hP _
    have hh0 : s₁.heap = s.heap := by rw [B.state]; rfl
    have ht : ∀ x ∈ c.exceptionTable.toList, False := by
      obtain ⟨meth9, c9, h1, h2, -, -, -, -, h7, -⟩ := Cond.code_spec B.named (atoms_spec (ws := ws) B.pre _ (by rw [hw]; exact List.mem_cons_self))
      cases Option.some.inj (h1.symm.trans B.method)
      cases Option.some.inj (h2.symm.trans (Stand.of_body B).code)
      intro x hx
      rw [Array.isEmpty_iff.mp h7] at hx
      cases hx
    obtain ⟨t, a1, o, b1, b2, b3⟩ := body p e s m args below meth c s₁ B hml ht hP s₁ hh0 (Stand.of_body B)
    exact ⟨t, o, a1, b1, b2, b3⟩
/-- the table of a body with handlers -/
theorem vx_table {p : Program} {x y : MethodName} {S : Spec} {cc bytes : ByteArray} {maxL maxL' : Nat} {ret ret' : Option FieldType} {e : Env} {s s₁ : State} {m : MethodId} {args : Array Value} {below : List Frame} {meth : Method} {c : Code} {hh : List (Nat × Nat × Nat × Nat)}
    (B : BodyLoose p l y S cc maxL ret e s m args below meth c s₁) (h : (Cond.codeWith y bytes maxL' ret' hh).before args s = true) : c.exceptionTable.toList = tableOf hh := by
  obtain ⟨m9, meth9, c9, hn9, h1, h2, -, -, h6, -⟩ := Cond.codeWith_spec h
  cases Option.some.inj (hn9.symm.trans B.named)
  cases Option.some.inj (h1.symm.trans B.method)
  cases Option.some.inj (h2.symm.trans (Stand.of_body B).code)
  rw [← h6, table_eq]
end Bodies
end VXA
/-! ===== END ===== -/
/-! ===== BEGIN a static call of a method with an exception table ===== -/
section VXS
variable {p : Program} {l : Launch} {e : Env} {R : Room} {s : State} {m : MethodId} {args : Array Value} {below : List Frame} {meth : Method} {c : Code} {T : State} {H : Heap} {locs : List Loc} {cells slots : Nat}
abbrev vx_CSW (R : Room) (s : State) (args : Array Value) (own : String) (index : Nat) (y : MethodName) (bytes : ByteArray) (maxL : Nat) (ret : Option FieldType) (hh : List (Nat × Nat × Nat × Nat)) (ws : List Cond) (rm : Room) (mc ms n : Nat) : Prop :=
  (rm.cells = mc ∧ rm.slots = ms ∧ rm.frames + 1 ≤ R.frames ∧ 8 + (maxL + 11) + rm.locals ≤ R.locals ∧ (∀ w ∈ ws, ∀ (a' : Array Value) (U : State), s.WarmedH U.vm → w.before a' U = true) ∧ Cond.codeWith y bytes maxL ret hh ∈ ws) ∧
  (Cond.codeWith y bytes maxL ret hh).before args s = true ∧ (Cond.initialized y.cls).before args s = true ∧ (y.cls ≠ "java/lang/invoke/MethodHandle" ∧ y.cls ≠ "java/lang/invoke/VarHandle") ∧
  (∀ sig, parseMethodDescriptor y.desc = some sig → n = sig.parameters.length) ∧ (Cond.methodLink own index y).before args s = true ∧ (Cond.static y).before args s = true
theorem vx_cwSW {own : String} {index maxL mc ms : Nat} {y : MethodName} {bytes : ByteArray} {ret : Option FieldType} {hh : List (Nat × Nat × Nat × Nat)} {Ts ws ws' : List Cond} {rm : Room} (n : Nat) (ht : ∀ w ∈ Ts, w.before args s = true) (hT : GoodIn Ts (va_wsS own index y ws)) (hw : ws = Cond.codeWith y bytes maxL ret hh :: ws') (hrc : rm.cells = mc) (hrs : rm.slots = ms)
    (hd : y.cls ≠ "java/lang/invoke/MethodHandle" ∧ y.cls ≠ "java/lang/invoke/VarHandle" ∧ (parseMethodDescriptor y.desc).map (fun d => d.parameters.length) = some n) (hR : rm.frames + 1 ≤ R.frames ∧ 8 + (maxL + 11) + rm.locals ≤ R.locals) :
    vx_CSW R s args own index y bytes maxL ret hh ws rm mc ms n := by
  have ok : ∀ w ∈ va_wsS own index y ws, w.before args s = true := fun w h => ht w (hT w h).1
  have hG : GoodIn Ts ws := fun w h => hT w (by unfold va_wsS; exact List.mem_append_right _ h)
  have hc : Cond.codeWith y bytes maxL ret hh ∈ ws := by rw [hw]; exact List.mem_cons_self
  refine ⟨⟨hrc, hrs, hR.1, hR.2, pay_in ht hG, hc⟩, ht _ (hG _ hc).1, ok _ (by simp [va_wsS]), ⟨hd.1, hd.2.1⟩, fun sig h => ?_, ok _ (by simp [va_wsS]), ok _ (by simp [va_wsS])⟩
  have h2 := hd.2.2
  rw [h] at h2
  exact (Option.some.inj h2).symm
theorem vx_callSW (X : Stand p l e R s m args below meth c T locs cells slots) (hexec : p.tables.exec = Jvm.exec) {own : String} {index : Nat} {y : MethodName} {bytes : ByteArray} {maxL : Nat} {ret : Option FieldType} {hh : List (Nat × Nat × Nat × Nat)}
    (hown : s.vm.findClass own = some m.cls) (hlink : (Cond.methodLink own index y).before args s = true) (hstat : (Cond.static y).before args s = true) (hinit : (Cond.initialized y.cls).before args s = true)
    (hcode : (Cond.codeWith y bytes maxL ret hh).before args s = true) (hy : y.cls ≠ "java/lang/invoke/MethodHandle" ∧ y.cls ≠ "java/lang/invoke/VarHandle")
    {W9 : Nat} {Pre : Pt → Array Value → Prop} {Post : Pt → Array Value → Option Value → Pt → Prop} (hK : Back l R p e below s args y 3 W9 Pre Post)
    {g : JFrame} (hg : g.method = m) (hsize : g.locals.size = c.maxLocals) {argsL rest : List Value} (hlen : ∀ sig, parseMethodDescriptor y.desc = some sig → argsL.length = sig.parameters.length)
    (hstack : g.stack = argsL.reverse ++ rest) (hW : 2 * g.monitorRoom + (rest.map fun v => v.category).sum ≤ W9) (hdg : decode c.code g.pc = .ok (.invokestatic index, 3))
    (hpre : ∀ vm₁, s.WarmedH vm₁ → Pre ⟨T.setVm vm₁, locs, cells, slots⟩ argsL.toArray) :
    ∃ (v : Option Value) (vm₁ : Vm) (B : Pt), s.WarmedH vm₁ ∧ Stand p l e R s m args below meth c B.U B.locs B.cells B.slots ∧ Post ⟨T.setVm vm₁, locs, cells, slots⟩ argsL.toArray v B ∧
      ∀ target, Steps p.tables e below (B.U.setTop { g with pc := g.pc + 3, stack := v.toList ++ rest }) target → Steps p.tables e below (T.setTop g) target := by
  obtain ⟨mk, methM, cM, hnamed, hmethM, -, -, -, -, -, -, hsigM⟩ := Cond.codeWith_spec hcode
  have hstatic : methM.isStatic = true := Cond.static_spec hnamed hmethM hstat
  obtain ⟨kP, hkP, -⟩ := className_of_methodNamed hnamed
  have hinitP : kP.init = .initialized := Cond.initialized_spec (findClass_of_methodNamed hnamed) hkP hinit
  obtain ⟨vm₁, X₁, hstep₁⟩ := X.invokestatic hexec hown hlink hnamed hmethM hstatic hkP hinitP hy (g := g) hg (argsL := argsL) (rest := rest) (hlen _ hsigM) hstack hdg
  obtain ⟨v, B, X', hpost, hsteps⟩ := hK m meth c ⟨T.setVm vm₁, locs, cells, slots⟩ { g with stack := rest } (.invokestatic index) mk argsL.toArray X₁ hg hsize hdg hW (X₁.named hnamed) (hpre vm₁ X₁.warmed)
  exact ⟨v, vm₁, B, X₁.warmed, X', hpost, fun target h => hstep₁ _ fun acts => by rw [doInvoke_state]; exact hsteps.trans h⟩
theorem vx_runSW {y : MethodName} {bytes cc : ByteArray} {maxL nL mc ms n index : Nat} {ret : Option FieldType} {hh : List (Nat × Nat × Nat × Nat)} {ws : List Cond} {rm : Room} {Pc : Array Value → State → Prop} {Qc : Array Value → State → Outcome → State → Prop} {free : Addr → Prop} {Ts : List Cond} {own : String} {As rest : List Value} {g : JFrame}
    (S : CallFix p m c cc nL s args Ts own) (hM : Met l y ws rm Pc Qc mc ms free) (cw : vx_CSW R s args own index y bytes maxL ret hh ws rm mc ms n) (hp : PreS s H Pc As)
    (hg : g.method = m) (hn : As.length = n) (hsize : g.locals.size = nL) (hstack : g.stack = As.reverse ++ rest) (hW : 2 * g.monitorRoom + (rest.map fun v => v.category).sum ≤ 8) (hdg : decode cc g.pc = .ok (.invokestatic index, 3)) (hf : cells + mc ≤ R.cells ∧ slots + ms ≤ R.slots) :
    va_Run p l e R s m args below meth c H locs cells slots mc ms g rest (Qc As.toArray) (free) := by
  obtain ⟨⟨hrc, hrs, hfr, hlo, hws, hcw⟩, hcode, hini, hy, hlen, hl, hstt⟩ := cw
  have hK : Back l R p e below s args y 3 8 (PreOf R mc ms Pc) (PostOf Qc mc ms free) := va_backW (hh := hh) (bytes := bytes) (maxL := maxL) (ret := ret) hM hp.1 hrc hrs hfr hlo hws hcw (fun a' U hW => word_at hW (Or.inl (by first | rfl | simp [Cond.onTables, Cond.keeps, Cond.steady])) hini)
  obtain ⟨hx, hb, hml, ho, -⟩ := S
  intro T hT X
  obtain ⟨v, vm₁, ⟨U', l2, c2, s2⟩, hW₁, X', ⟨g', mk, t, L, e1, e2, hq, h1, hL, h2, h3⟩, st⟩ := vx_callSW X hx (hh := hh) (bytes := bytes) (maxL := maxL) (ret := ret) ho hl hstt hini hcode hy hK hg (hsize.trans hml.symm) (argsL := As) (rest := rest) (fun sig h => hn.trans (hlen sig h)) hstack hW (by rw [hb]; exact hdg)
    (fun vm₁ hW₁ => ⟨hf.1, hf.2, hp.2 (T.setVm vm₁) hT hW₁⟩)
  dsimp only [Pt.U, Pt.locs, Pt.cells, Pt.slots] at X' e1 e2 h1 h2 h3 st
  subst h1; subst h2; subst h3
  exact ⟨v, (T.setVm vm₁).calling g' mk As.toArray, t, U', L, hT, X', hL, e1, e2, hq, st⟩
/-- not caught here, past rows that name other classes: it goes on to the caller -/
theorem vx_outP {p : Program} {l : Launch} {e : Env} {R : Room} {s : State} {m : MethodId} {args : Array Value} {below : List Frame} {meth : Method} {c : Code} {H : Heap} {locs : List Loc} {cells slots : Nat} {free : Addr → Prop} {ls : Array Slot} {rest : List Value} {Qc : Array Value → State → Outcome → State → Prop} {XC : String → State → State → Prop}
    {pc : Nat} {own E : String} {ce : Cell} {q : Addr} {mc ms : Nat} (hown : s.vm.findClass own = some m.cls) (hlocks : meth.locks = false)
    (hpass : ∀ z ∈ c.exceptionTable.toList, covers z pc = false ∨ (z.catchType ≠ 0 ∧ ∃ nm : String, (Cond.classLink own z.catchType nm).before args s = true ∧ va_Nc E nm s)) (hcell : H[q]? = some ce) (hv : ce.vm = .none) (hcl : s.vm.findClass E = some ce.cls)
    (hx : ∀ t : State, t.heap = H → s.vm.Alike t.vm → XC E s t) (hf : ∀ z ∈ locs, free z.base) (hc : cells ≤ mc) (hs : slots ≤ ms) :
    vx_W p l e R s m args below meth c H locs cells slots (vx_MQ below Qc XC args s mc ms free) (F0 m pc ls rest) q := by
  intro T hT X
  have hpl : e.platform.magicAccessors = ({} : Platform).magicAccessors := by rw [X.admits.platform]
  obtain ⟨vm', hW', X', st⟩ := Stand.outThrough X hlocks q (g := F0 m pc ls rest) rfl rfl rfl (cell := ce) (by rw [hT]; exact hcell) (by rw [hv]; rfl)
    (by obtain ⟨k9, h9, -⟩ := Vm.findClass_spec hcl; exact ⟨k9, h9⟩) (fun z hz => by
      rcases hpass z hz with h | ⟨hz0, nm, hl1, hn1⟩
      · exact Or.inl h
      · obtain ⟨c6, hc6, hcl6⟩ := Cond.classLink_spec hown hl1 e.platform hpl
        obtain ⟨a8, b8, h1, h2, h3⟩ := hn1
        cases Option.some.inj (h1.symm.trans hcl)
        cases Option.some.inj (h2.symm.trans hc6)
        exact Or.inr ⟨hz0, _, hcl6, h3⟩)
  obtain ⟨g₀, hfr⟩ := X'.frames_eq
  have hcell9 : ((T.setVm vm').setFrames (.throwing q :: below)).heap[q]? = some ce := by
    show T.heap[q]? = some ce
    rw [hT]; exact hcell
  have hend : Ended ((T.setVm vm').setFrames (.throwing q :: below)) below (.threw q) := State.frames_setFrames _ (State.cur_lt_of_frames hfr)
  refine ⟨(T.setVm vm').setFrames (.throwing q :: below), ?_, .threw q, X'.here.running, hend, Or.inr ⟨q, rfl, E, ce, locs, hx _ hT (X'.ends _).1.alike, hcell9, hv, hcl, (X'.ends _).1, (X'.ends _).2.mono hc hs, hf⟩⟩
  rw [X.pushThrowing_eq]
  exact st
/-- a thing of a world lies in the heap -/
theorem vx_lt {D : va_G} {cl : List vw_C} {ws : va_W} {H1 : Heap} (h : va_P D cl ws H1) {k : Nat} {q : Nat × va_E} (hk : ws[k]? = some q) : q.1 < H1.size := (h k q hk).lt
end VXS
/-! ===== END ===== -/
/-! ===== BEGIN methods with a table of their own: called by a name, returning or throwing ===== -/
section VXH
/-! vx_backW, vx_callVX, vx_callSX, vx_callVW, vx_runVW, vx_runVX, vx_runSX, vx_ofWH follow the same proofs as their sisters above (Free/Laws.lean, Shelf42/LK1.lean); vx_outP calls Shelf42/NT130.lean (outThrough). -/
section
variable {l : Launch} {R : Room} {p : Program} {e : Env} {below : List Frame} {s : State} {sargs : Array Value} {y : MethodName} {len W9 : Nat}
theorem vx_backW {ws : List Cond} {rm : Room} {Pc : Array Value → State → Prop} {Qc : Array Value → State → Outcome → State → Prop} {XC : String → State → State → Prop} {mc ms : Nat} {free : Addr → Prop} {bytes : ByteArray} {maxL : Nat} {ret : Option FieldType} {hh : List (Nat × Nat × Nat × Nat)}
    (hM : vx_Met l y ws rm Pc Qc XC mc ms free) (hblind : FrameBlind Pc) (hrc : rm.cells = mc) (hrs : rm.slots = ms)
    (hframes : rm.frames + 1 ≤ R.frames) (hlocals : W9 + (maxL + 11) + rm.locals ≤ R.locals)
    (hws : ∀ w ∈ ws, ∀ a' U, s.WarmedH U.vm → w.before a' U = true) (hcode : Cond.codeWith y bytes maxL ret hh ∈ ws) (hinit : ∀ a' U, s.WarmedH U.vm → (Cond.initialized y.cls).before a' U = true) :
    vx_Back l R p e below s sargs y len W9 (PreOf R mc ms Pc) (PostOf Qc mc ms free) (vx_Post XC mc ms free) := by
  intro m meth c A g ig mk a X hg hsize hdg hW hn hp
  have h1 : (headSpec ws rm).pre.before a A.U = true := atoms_intro fun w hw => hws w hw _ _ X.warmed
  have h2 : (Cond.codeWith y bytes maxL ret hh).before a A.U = true := hws _ hcode _ _ X.warmed
  have h3 : (Cond.initialized y.cls).before a A.U = true := hinit _ _ X.warmed
  have h4 : A.cells + (headSpec ws rm).room.cells ≤ R.cells := by rw [show (headSpec ws rm).room.cells = mc from hrc]; exact hp.1
  have h5 : A.slots + (headSpec ws rm).room.slots ≤ R.slots := by rw [show (headSpec ws rm).room.slots = ms from hrs]; exact hp.2.1
  have hPc : Pc a (A.U.calling g mk a) := hblind _ _ _ _ hp.2.2
  obtain ⟨U, Ls, c0, s0⟩ := A
  dsimp only [Pt.U, Pt.locs, Pt.cells, Pt.slots] at h1 h2 h3 h4 h5 X hn hPc ⊢
  obtain ⟨m9, methY, cY, hn9, hmY, hcY, -, hlY, -⟩ := Cond.codeWith_spec h2
  cases Option.some.inj (hn9.symm.trans hn)
  obtain ⟨kY, hkY, -⟩ := className_of_methodNamed hn
  have hinitY : kY.init = .initialized := Cond.initialized_spec (findClass_of_methodNamed hn) hkY h3
  have h : At U g.method c below := by rw [hg]; exact X.here
  have hlocals9 : W9 + (maxL + 11) + (headSpec ws rm).room.locals ≤ R.locals := hlocals
  have happ : (headSpec ws rm).appliesLoose y e.platform (U.calling g mk a) = true :=
    Spec.appliesLoose_calling (g := g) h hdg hn hkY hinitY
      (X.room_calling (g := g) (R' := (headSpec ws rm).room) hsize hmY hcY hframes (by rw [hlY]; omega) h4 h5) h1
  obtain ⟨mid, hmid⟩ := h.above
  have hfr : (U.setTop g).frames = (.java g :: mid) ++ below := by rw [State.frames_setTop' g h.top, hmid]; rfl
  obtain ⟨o, s₂, hsteps, -, hend, hq⟩ := Steps.callFree hM p X.admits X.cas X.clock (acts := []) hfr happ hPc trivial
  have hq' : vx_Q Qc XC mc ms free a (U.calling g mk a) o s₂ := hq
  rw [State.frames_setTop' g h.top] at hend
  obtain ⟨g₀, hg0⟩ := Option.isSome_iff_exists.mp h.top
  obtain ⟨r, hr⟩ := State.topJava?_eq_some.mp hg0
  have hr' : (({ U with heap := s₂.heap, slotsUsed := s₂.slotsUsed } : State).setVm s₂.vm).frames = .java g₀ :: r := hr
  rcases hq' with ⟨hqc, L, hfe, hL⟩ | ⟨q, rfl, E, ce, L, hx, hce, hcv, hcl, hW₂, hsm, hL⟩
  · obtain ⟨⟨v, rfl⟩, hW₂, e2, q2, q3, q4, q5, q6⟩ := id hfe
    have e3 : s₂ = ({ (U.calling g mk a).setFrames s₂.frames with heap := s₂.heap, slotsUsed := s₂.slotsUsed } : State).setVm s₂.vm := by
      have : s₂ = ({ s₂ with vm := (U.calling g mk a).vm } : State).setVm s₂.vm := rfl
      rw [e2] at this
      exact this
    obtain ⟨c₂, i₂, len₂, hc₂, hd₂, hf₂⟩ := hend
    have hW' : U.WarmedH s₂.vm := hW₂
    have hcc : c₂ = c := by
      have h1 : s₂.code? g.method = U.code? g.method := by
        rw [State.code?_eq, State.code?_eq, hW'.alike.method?]
      exact Option.some.inj (hc₂.symm.trans (h1.trans h.code))
    subst hcc
    have hlen : len₂ = len := by rw [hdg] at hd₂; cases hd₂; rfl
    subst hlen
    have hs₂ : s₂ = (({ U with heap := s₂.heap, slotsUsed := s₂.slotsUsed } : State).setVm s₂.vm).setTop { g with pc := g.pc + len₂, stack := v.toList ++ g.stack } := by
      refine e3.trans ?_
      rw [hf₂, State.calling_eq h.top, State.setFrames_setFrames, State.setTop_of_frames _ hr', hr]
      rfl
    have hsame : U.sameButNew ({ U with heap := s₂.heap, slotsUsed := s₂.slotsUsed } : State) L mc ms := by
      refine ⟨?_, q2, q3, q4, q5, q6⟩
      obtain ⟨t, ht, -⟩ := State.frames_cons hr
      show ({ U with heap := s₂.heap, slotsUsed := s₂.slotsUsed } : State) = { U.setFrames U.frames with heap := s₂.heap, slotsUsed := s₂.slotsUsed }
      rw [State.setFrames_self ht]
    subst hg
    refine Or.inl ⟨v, ⟨(({ U with heap := s₂.heap, slotsUsed := s₂.slotsUsed } : State).setVm s₂.vm), Ls ++ L, c0 + mc, s0 + ms⟩,
      ⟨X.admits, X.cas, X.clock, X.frames, X.room, X.hears, X.method, X.code, (X.here.setHeapUsed s₂.heap s₂.slotsUsed).setVm hW'.alike, X.tail, State.WarmedH.trans X.warmed hW', X.limits, X.bytes, X.same.trans (hsame.setVm s.vm)⟩,
      ⟨g, mk, s₂, L, rfl, rfl, hqc, rfl, hL, rfl, rfl⟩, ?_⟩
    show Steps p.tables e below _ ((({ U with heap := s₂.heap, slotsUsed := s₂.slotsUsed } : State).setVm s₂.vm).setTop { g with pc := g.pc + len₂, stack := v.toList ++ g.stack })
    rw [← hs₂]
    exact hsteps
  · obtain ⟨e2, q2, q3, q4, q5, q6⟩ := id hsm
    have e3 : s₂ = ({ (U.calling g mk a).setFrames s₂.frames with heap := s₂.heap, slotsUsed := s₂.slotsUsed } : State).setVm s₂.vm := by
      have : s₂ = ({ s₂ with vm := (U.calling g mk a).vm } : State).setVm s₂.vm := rfl
      rw [e2] at this
      exact this
    have hf₂ : s₂.frames = .throwing q :: .java g :: U.frames.tail := hend
    have hW' : U.WarmedH s₂.vm := hW₂
    have hs₂ : s₂ = ((({ U with heap := s₂.heap, slotsUsed := s₂.slotsUsed } : State).setVm s₂.vm).setTop g).pushFrame (.throwing q) := by
      refine e3.trans ?_
      rw [hf₂, State.calling_eq h.top, State.setFrames_setFrames, State.pushFrame, State.frames_setTop _ hr', State.setTop_of_frames _ hr', State.setFrames_setFrames, hr]
      rfl
    have hsame : U.sameButNew ({ U with heap := s₂.heap, slotsUsed := s₂.slotsUsed } : State) L mc ms := by
      refine ⟨?_, q2, q3, q4, q5, q6⟩
      obtain ⟨t, ht, -⟩ := State.frames_cons hr
      show ({ U with heap := s₂.heap, slotsUsed := s₂.slotsUsed } : State) = { U.setFrames U.frames with heap := s₂.heap, slotsUsed := s₂.slotsUsed }
      rw [State.setFrames_self ht]
    subst hg
    refine Or.inr ⟨q, ⟨(({ U with heap := s₂.heap, slotsUsed := s₂.slotsUsed } : State).setVm s₂.vm), Ls ++ L, c0 + mc, s0 + ms⟩,
      ⟨X.admits, X.cas, X.clock, X.frames, X.room, X.hears, X.method, X.code, (X.here.setHeapUsed s₂.heap s₂.slotsUsed).setVm hW'.alike, X.tail, State.WarmedH.trans X.warmed hW', X.limits, X.bytes, X.same.trans (hsame.setVm s.vm)⟩,
      ⟨g, mk, s₂, L, E, ce, rfl, rfl, hx, hce, hcv, hcl, rfl, hL, rfl, rfl⟩, ?_⟩
    show Steps p.tables e below _ (((({ U with heap := s₂.heap, slotsUsed := s₂.slotsUsed } : State).setVm s₂.vm).setTop g).pushFrame (.throwing q))
    rw [← hs₂]
    exact hsteps
end
variable {p : Program} {l : Launch} {e : Env} {R : Room} {s : State} {m : MethodId} {args : Array Value} {below : List Frame} {meth : Method} {c : Code} {T : State} {H : Heap} {locs : List Loc} {cells slots : Nat}
theorem vx_callVX (X : Stand p l e R s m args below meth c T locs cells slots) (hexec : p.tables.exec = Jvm.exec) {own C : String} {index : Nat} {y : MethodName} {bytes : ByteArray} {maxL : Nat} {ret : Option FieldType} {hh : List (Nat × Nat × Nat × Nat)}
    (hown : s.vm.findClass own = some m.cls) (hlink : (Cond.methodLink own index y).before args s = true) (hinst : (Cond.instanceMethod y).before args s = true) (hsel : (Cond.selects C y y).before args s = true)
    (hcode : (Cond.codeWith y bytes maxL ret hh).before args s = true) (hy : y.cls ≠ "java/lang/invoke/MethodHandle" ∧ y.cls ≠ "java/lang/invoke/VarHandle")
    {W9 : Nat} {Pre : Pt → Array Value → Prop} {Post : Pt → Array Value → Option Value → Pt → Prop} {PostX : Pt → Array Value → Addr → Pt → Prop} (hK : vx_Back l R p e below s args y 3 W9 Pre Post PostX)
    {b : Addr} {cellB : Cell} (hcell : T.heap[b]? = some cellB) (hobj : cellB.vm.isStatics = false) (hcls : s.vm.findClass C = some cellB.cls)
    {g : JFrame} (hg : g.method = m) (hsize : g.locals.size = c.maxLocals) {argsL rest : List Value} (hlen : ∀ sig, parseMethodDescriptor y.desc = some sig → argsL.length = sig.parameters.length)
    (hstack : g.stack = argsL.reverse ++ .ref b :: rest) (hW : 2 * g.monitorRoom + (rest.map fun v => v.category).sum ≤ W9) (hdg : decode c.code g.pc = .ok (.invokevirtual index, 3))
    (hpre : ∀ vm₁, s.WarmedH vm₁ → Pre ⟨T.setVm vm₁, locs, cells, slots⟩ (Value.ref b :: argsL).toArray) :
    (∃ (v : Option Value) (vm₁ : Vm) (B : Pt), s.WarmedH vm₁ ∧ Stand p l e R s m args below meth c B.U B.locs B.cells B.slots ∧ Post ⟨T.setVm vm₁, locs, cells, slots⟩ (Value.ref b :: argsL).toArray v B ∧
      ∀ target, Steps p.tables e below (B.U.setTop { g with pc := g.pc + 3, stack := v.toList ++ rest }) target → Steps p.tables e below (T.setTop g) target) ∨
    (∃ (q : Addr) (vm₁ : Vm) (B : Pt), s.WarmedH vm₁ ∧ Stand p l e R s m args below meth c B.U B.locs B.cells B.slots ∧ PostX ⟨T.setVm vm₁, locs, cells, slots⟩ (Value.ref b :: argsL).toArray q B ∧
      Steps p.tables e below (T.setTop g) ((B.U.setTop { g with stack := rest }).pushFrame (.throwing q))) := by
  obtain ⟨mk, methM, hnamed, hmethM, hstM, habM⟩ := Cond.instanceMethod_spec hinst
  obtain ⟨m8, methM', cM, hn8, hmethM', -, -, -, -, -, -, hsigM⟩ := Cond.codeWith_spec hcode
  cases Option.some.inj (hn8.symm.trans hnamed)
  cases hmethM.symm.trans hmethM'
  obtain ⟨c2, r2, m2, q1, q2, q3, q4, kP, hkP, hkPi⟩ := Cond.selects_spec hsel
  cases hcls.symm.trans q1
  cases (State.methodFound?_of_named hnamed hy).symm.trans q2
  cases hnamed.symm.trans q3
  have hselP : selectMethod e.platform s.vm cellB.cls mk = .method mk := by rw [Launch.admits_selectMethod X.admits]; exact q4
  obtain ⟨vm₁, X₁, hstep₁⟩ := X.invokevirtual hexec hown hlink hnamed hmethM hstM hkP hkPi hy (a := b) (cell := cellB) hcell
    (fun z h => by rw [h] at hobj; cases hobj) hselP hmethM habM hkP hkPi (g := g) hg (argsL := argsL) (rest := rest) (hlen _ hsigM) hstack hdg
  rcases hK m meth c ⟨T.setVm vm₁, locs, cells, slots⟩ { g with stack := rest } (.invokevirtual index) mk (Value.ref b :: argsL).toArray X₁ hg hsize hdg hW (X₁.named hnamed) (hpre vm₁ X₁.warmed) with ⟨v, B, X', hpost, hsteps⟩ | ⟨q, B, X', hpost, hsteps⟩
  · exact Or.inl ⟨v, vm₁, B, X₁.warmed, X', hpost, fun target h => hstep₁ _ fun acts => by rw [doInvoke_state]; exact hsteps.trans h⟩
  · exact Or.inr ⟨q, vm₁, B, X₁.warmed, X', hpost, hstep₁ _ fun acts => by rw [doInvoke_state]; exact hsteps⟩
theorem vx_callSX (X : Stand p l e R s m args below meth c T locs cells slots) (hexec : p.tables.exec = Jvm.exec) {own : String} {index : Nat} {y : MethodName} {bytes : ByteArray} {maxL : Nat} {ret : Option FieldType} {hh : List (Nat × Nat × Nat × Nat)}
    (hown : s.vm.findClass own = some m.cls) (hlink : (Cond.methodLink own index y).before args s = true) (hstat : (Cond.static y).before args s = true) (hinit : (Cond.initialized y.cls).before args s = true)
    (hcode : (Cond.codeWith y bytes maxL ret hh).before args s = true) (hy : y.cls ≠ "java/lang/invoke/MethodHandle" ∧ y.cls ≠ "java/lang/invoke/VarHandle")
    {W9 : Nat} {Pre : Pt → Array Value → Prop} {Post : Pt → Array Value → Option Value → Pt → Prop} {PostX : Pt → Array Value → Addr → Pt → Prop} (hK : vx_Back l R p e below s args y 3 W9 Pre Post PostX)
    {g : JFrame} (hg : g.method = m) (hsize : g.locals.size = c.maxLocals) {argsL rest : List Value} (hlen : ∀ sig, parseMethodDescriptor y.desc = some sig → argsL.length = sig.parameters.length)
    (hstack : g.stack = argsL.reverse ++ rest) (hW : 2 * g.monitorRoom + (rest.map fun v => v.category).sum ≤ W9) (hdg : decode c.code g.pc = .ok (.invokestatic index, 3))
    (hpre : ∀ vm₁, s.WarmedH vm₁ → Pre ⟨T.setVm vm₁, locs, cells, slots⟩ argsL.toArray) :
    (∃ (v : Option Value) (vm₁ : Vm) (B : Pt), s.WarmedH vm₁ ∧ Stand p l e R s m args below meth c B.U B.locs B.cells B.slots ∧ Post ⟨T.setVm vm₁, locs, cells, slots⟩ argsL.toArray v B ∧
      ∀ target, Steps p.tables e below (B.U.setTop { g with pc := g.pc + 3, stack := v.toList ++ rest }) target → Steps p.tables e below (T.setTop g) target) ∨
    (∃ (q : Addr) (vm₁ : Vm) (B : Pt), s.WarmedH vm₁ ∧ Stand p l e R s m args below meth c B.U B.locs B.cells B.slots ∧ PostX ⟨T.setVm vm₁, locs, cells, slots⟩ argsL.toArray q B ∧
      Steps p.tables e below (T.setTop g) ((B.U.setTop { g with stack := rest }).pushFrame (.throwing q))) := by
  obtain ⟨mk, methM, cM, hnamed, hmethM, -, -, -, -, -, -, hsigM⟩ := Cond.codeWith_spec hcode
  have hstatic : methM.isStatic = true := Cond.static_spec hnamed hmethM hstat
  obtain ⟨kP, hkP, -⟩ := className_of_methodNamed hnamed
  have hinitP : kP.init = .initialized := Cond.initialized_spec (findClass_of_methodNamed hnamed) hkP hinit
  obtain ⟨vm₁, X₁, hstep₁⟩ := X.invokestatic hexec hown hlink hnamed hmethM hstatic hkP hinitP hy (g := g) hg (argsL := argsL) (rest := rest) (hlen _ hsigM) hstack hdg
  rcases hK m meth c ⟨T.setVm vm₁, locs, cells, slots⟩ { g with stack := rest } (.invokestatic index) mk argsL.toArray X₁ hg hsize hdg hW (X₁.named hnamed) (hpre vm₁ X₁.warmed) with ⟨v, B, X', hpost, hsteps⟩ | ⟨q, B, X', hpost, hsteps⟩
  · exact Or.inl ⟨v, vm₁, B, X₁.warmed, X', hpost, fun target h => hstep₁ _ fun acts => by rw [doInvoke_state]; exact hsteps.trans h⟩
  · exact Or.inr ⟨q, vm₁, B, X₁.warmed, X', hpost, hstep₁ _ fun acts => by rw [doInvoke_state]; exact hsteps⟩
theorem vx_callVW (X : Stand p l e R s m args below meth c T locs cells slots) (hexec : p.tables.exec = Jvm.exec) {own C : String} {index : Nat} {y : MethodName} {bytes : ByteArray} {maxL : Nat} {ret : Option FieldType} {hh : List (Nat × Nat × Nat × Nat)}
    (hown : s.vm.findClass own = some m.cls) (hlink : (Cond.methodLink own index y).before args s = true) (hinst : (Cond.instanceMethod y).before args s = true) (hsel : (Cond.selects C y y).before args s = true)
    (hcode : (Cond.codeWith y bytes maxL ret hh).before args s = true) (hy : y.cls ≠ "java/lang/invoke/MethodHandle" ∧ y.cls ≠ "java/lang/invoke/VarHandle")
    {W9 : Nat} {Pre : Pt → Array Value → Prop} {Post : Pt → Array Value → Option Value → Pt → Prop} (hK : Back l R p e below s args y 3 W9 Pre Post)
    {b : Addr} {cellB : Cell} (hcell : T.heap[b]? = some cellB) (hobj : cellB.vm.isStatics = false) (hcls : s.vm.findClass C = some cellB.cls)
    {g : JFrame} (hg : g.method = m) (hsize : g.locals.size = c.maxLocals) {argsL rest : List Value} (hlen : ∀ sig, parseMethodDescriptor y.desc = some sig → argsL.length = sig.parameters.length)
    (hstack : g.stack = argsL.reverse ++ .ref b :: rest) (hW : 2 * g.monitorRoom + (rest.map fun v => v.category).sum ≤ W9) (hdg : decode c.code g.pc = .ok (.invokevirtual index, 3))
    (hpre : ∀ vm₁, s.WarmedH vm₁ → Pre ⟨T.setVm vm₁, locs, cells, slots⟩ (Value.ref b :: argsL).toArray) :
    ∃ (v : Option Value) (vm₁ : Vm) (B : Pt), s.WarmedH vm₁ ∧ Stand p l e R s m args below meth c B.U B.locs B.cells B.slots ∧ Post ⟨T.setVm vm₁, locs, cells, slots⟩ (Value.ref b :: argsL).toArray v B ∧
      ∀ target, Steps p.tables e below (B.U.setTop { g with pc := g.pc + 3, stack := v.toList ++ rest }) target → Steps p.tables e below (T.setTop g) target := by
  obtain ⟨mk, methM, hnamed, hmethM, hstM, habM⟩ := Cond.instanceMethod_spec hinst
  obtain ⟨m8, methM', cM, hn8, hmethM', -, -, -, -, -, -, hsigM⟩ := Cond.codeWith_spec hcode
  cases Option.some.inj (hn8.symm.trans hnamed)
  cases hmethM.symm.trans hmethM'
  obtain ⟨c2, r2, m2, q1, q2, q3, q4, kP, hkP, hkPi⟩ := Cond.selects_spec hsel
  cases hcls.symm.trans q1
  cases (State.methodFound?_of_named hnamed hy).symm.trans q2
  cases hnamed.symm.trans q3
  have hselP : selectMethod e.platform s.vm cellB.cls mk = .method mk := by rw [Launch.admits_selectMethod X.admits]; exact q4
  obtain ⟨vm₁, X₁, hstep₁⟩ := X.invokevirtual hexec hown hlink hnamed hmethM hstM hkP hkPi hy (a := b) (cell := cellB) hcell
    (fun z h => by rw [h] at hobj; cases hobj) hselP hmethM habM hkP hkPi (g := g) hg (argsL := argsL) (rest := rest) (hlen _ hsigM) hstack hdg
  obtain ⟨v, B, X', hpost, hsteps⟩ := hK m meth c ⟨T.setVm vm₁, locs, cells, slots⟩ { g with stack := rest } (.invokevirtual index) mk (Value.ref b :: argsL).toArray X₁ hg hsize hdg hW (X₁.named hnamed) (hpre vm₁ X₁.warmed)
  exact ⟨v, vm₁, B, X₁.warmed, X', hpost, fun target h => hstep₁ _ fun acts => by rw [doInvoke_state]; exact hsteps.trans h⟩
abbrev vx_CVW (R : Room) (s : State) (args : Array Value) (own C : String) (index : Nat) (y : MethodName) (bytes : ByteArray) (maxL : Nat) (ret : Option FieldType) (hh : List (Nat × Nat × Nat × Nat)) (ws : List Cond) (rm : Room) (mc ms n : Nat) : Prop :=
  (rm.cells = mc ∧ rm.slots = ms ∧ rm.frames + 1 ≤ R.frames ∧ 8 + (maxL + 11) + rm.locals ≤ R.locals ∧ (∀ w ∈ ws, ∀ (a' : Array Value) (U : State), s.WarmedH U.vm → w.before a' U = true) ∧ Cond.codeWith y bytes maxL ret hh ∈ ws) ∧
  (Cond.codeWith y bytes maxL ret hh).before args s = true ∧ (Cond.initialized y.cls).before args s = true ∧ (y.cls ≠ "java/lang/invoke/MethodHandle" ∧ y.cls ≠ "java/lang/invoke/VarHandle") ∧
  (∀ sig, parseMethodDescriptor y.desc = some sig → n = sig.parameters.length) ∧ (Cond.methodLink own index y).before args s = true ∧ (Cond.instanceMethod y).before args s = true ∧ (Cond.selects C y y).before args s = true
theorem vx_cwVW {own C : String} {index maxL mc ms : Nat} {y : MethodName} {bytes : ByteArray} {ret : Option FieldType} {hh : List (Nat × Nat × Nat × Nat)} {Ts ws ws' : List Cond} {rm : Room} (n : Nat) (ht : ∀ w ∈ Ts, w.before args s = true) (hT : GoodIn Ts (wsV own index C y ws)) (hw : ws = Cond.codeWith y bytes maxL ret hh :: ws') (hrc : rm.cells = mc) (hrs : rm.slots = ms)
    (hd : y.cls = C ∧ y.cls ≠ "java/lang/invoke/MethodHandle" ∧ y.cls ≠ "java/lang/invoke/VarHandle" ∧ (parseMethodDescriptor y.desc).map (fun d => d.parameters.length) = some n) (hR : rm.frames + 1 ≤ R.frames ∧ 8 + (maxL + 11) + rm.locals ≤ R.locals) :
    vx_CVW R s args own C index y bytes maxL ret hh ws rm mc ms n := by
  obtain ⟨hC, hd⟩ := hd
  subst hC
  have ok : ∀ w ∈ wsV own index y.cls y ws, w.before args s = true := fun w h => ht w (hT w h).1
  have hG : GoodIn Ts ws := fun w h => hT w (by unfold wsV; exact List.mem_append_right _ h)
  have hc : Cond.codeWith y bytes maxL ret hh ∈ ws := by rw [hw]; exact List.mem_cons_self
  refine ⟨⟨hrc, hrs, hR.1, hR.2, pay_in ht hG, hc⟩, ht _ (hG _ hc).1, ok _ (by simp [wsV]), ⟨hd.1, hd.2.1⟩, fun sig h => ?_, ok _ (by simp [wsV]), ok _ (by simp [wsV]), ok _ (by simp [wsV])⟩
  have h2 := hd.2.2
  rw [h] at h2
  exact (Option.some.inj h2).symm
theorem vx_runVW {y : MethodName} {bytes cc : ByteArray} {maxL nL mc ms n index : Nat} {ret : Option FieldType} {hh : List (Nat × Nat × Nat × Nat)} {ws : List Cond} {rm : Room} {Pc : Array Value → State → Prop} {Qc : Array Value → State → Outcome → State → Prop} {free : Addr → Prop} {Ts : List Cond} {own C : String} {b : Addr} {As rest : List Value} {g : JFrame}
    (S : CallFix p m c cc nL s args Ts own) (hM : Met l y ws rm Pc Qc mc ms free) (cw : vx_CVW R s args own C index y bytes maxL ret hh ws rm mc ms n) (hp : PreV s H C b Pc As)
    (hg : g.method = m) (hn : As.length = n) (hsize : g.locals.size = nL) (hstack : g.stack = As.reverse ++ .ref b :: rest) (hW : 2 * g.monitorRoom + (rest.map fun v => v.category).sum ≤ 8) (hdg : decode cc g.pc = .ok (.invokevirtual index, 3)) (hf : cells + mc ≤ R.cells ∧ slots + ms ≤ R.slots) :
    va_Run p l e R s m args below meth c H locs cells slots mc ms g rest (Qc (Value.ref b :: As).toArray) free := by
  obtain ⟨⟨hrc, hrs, hfr, hlo, hws, hcw⟩, hcode, hini, hy, hlen, hl, hin, hse⟩ := cw
  have hK : Back l R p e below s args y 3 8 (PreOf R mc ms Pc) (PostOf Qc mc ms free) := va_backW (hh := hh) (bytes := bytes) (maxL := maxL) (ret := ret) hM hp.1 hrc hrs hfr hlo hws hcw (fun a' U hW => word_at hW (Or.inl (by first | rfl | simp [Cond.onTables, Cond.keeps, Cond.steady])) hini)
  obtain ⟨hx, hb, hml, ho, -⟩ := S
  obtain ⟨-, ⟨cellB, hcB, hoB, hclB⟩, hPc⟩ := hp
  intro T hT X
  obtain ⟨v, vm₁, ⟨U', l2, c2, s2⟩, hW₁, X', ⟨g', mk, t, L, e1, e2, hq, h1, hL, h2, h3⟩, st⟩ := vx_callVW X hx (C := C) (hh := hh) (bytes := bytes) (maxL := maxL) (ret := ret) ho hl hin hse hcode hy hK (by rw [hT]; exact hcB) hoB hclB hg (hsize.trans hml.symm) (argsL := As) (rest := rest) (fun sig h => hn.trans (hlen sig h)) hstack hW (by rw [hb]; exact hdg)
    (fun vm₁ hW₁ => ⟨hf.1, hf.2, hPc (T.setVm vm₁) hT hW₁⟩)
  dsimp only [Pt.U, Pt.locs, Pt.cells, Pt.slots] at X' e1 e2 h1 h2 h3 st
  subst h1; subst h2; subst h3
  exact ⟨v, (T.setVm vm₁).calling g' mk (Value.ref b :: As).toArray, t, U', L, hT, X', hL, e1, e2, hq, st⟩
section
variable {y : MethodName} {bytes cc : ByteArray} {maxL nL mc ms n index : Nat} {ret : Option FieldType} {ws : List Cond} {rm : Room} {Pc : Array Value → State → Prop} {Qc : Array Value → State → Outcome → State → Prop} {XC : String → State → State → Prop} {free : Addr → Prop} {Ts : List Cond} {own C : String} {b : Addr} {As rest : List Value} {g : JFrame}
theorem vx_runVX {hh : List (Nat × Nat × Nat × Nat)} (S : CallFix p m c cc nL s args Ts own) (hM : vx_Met l y ws rm Pc Qc XC mc ms free) (cw : vx_CVW R s args own C index y bytes maxL ret hh ws rm mc ms n) (hp : PreV s H C b Pc As)
    (hg : g.method = m) (hn : As.length = n) (hsize : g.locals.size = nL) (hstack : g.stack = As.reverse ++ .ref b :: rest) (hW : 2 * g.monitorRoom + (rest.map fun v => v.category).sum ≤ 8) (hdg : decode cc g.pc = .ok (.invokevirtual index, 3)) (hf : cells + mc ≤ R.cells ∧ slots + ms ≤ R.slots) :
    vx_Run p l e R s m args below meth c H locs cells slots mc ms g rest (Qc (Value.ref b :: As).toArray) XC free := by
  obtain ⟨⟨hrc, hrs, hfr, hlo, hws, hcw⟩, hcode, hini, hy, hlen, hl, hin, hse⟩ := cw
  have hK : vx_Back l R p e below s args y 3 8 (PreOf R mc ms Pc) (PostOf Qc mc ms free) (vx_Post XC mc ms free) := vx_backW (hh := hh) (bytes := bytes) (maxL := maxL) (ret := ret) hM hp.1 hrc hrs hfr hlo hws hcw (fun a' U hW => word_at hW (Or.inl (by first | rfl | simp [Cond.onTables, Cond.keeps, Cond.steady])) hini)
  obtain ⟨hx, hb, hml, ho, -⟩ := S
  obtain ⟨-, ⟨cellB, hcB, hoB, hclB⟩, hPc⟩ := hp
  intro T hT X
  rcases vx_callVX X hx (C := C) (hh := hh) (bytes := bytes) (maxL := maxL) (ret := ret) ho hl hin hse hcode hy hK (by rw [hT]; exact hcB) hoB hclB hg (hsize.trans hml.symm) (argsL := As) (rest := rest) (fun sig h => hn.trans (hlen sig h)) hstack hW (by rw [hb]; exact hdg)
    (fun vm₁ hW₁ => ⟨hf.1, hf.2, hPc (T.setVm vm₁) hT hW₁⟩) with ⟨v, vm₁, ⟨U', l2, c2, s2⟩, hW₁, X', ⟨g', mk, t, L, e1, e2, hq, h1, hL, h2, h3⟩, st⟩ | ⟨q, vm₁, ⟨U', l2, c2, s2⟩, hW₁, X', ⟨g', mk, t, L, E, ce, e1, e2, hq, hce, hcv, hcl, h1, hL, h2, h3⟩, st⟩
  · dsimp only [Pt.U, Pt.locs, Pt.cells, Pt.slots] at X' e1 e2 h1 h2 h3 st
    subst h1; subst h2; subst h3
    exact Or.inl ⟨v, (T.setVm vm₁).calling g' mk (Value.ref b :: As).toArray, t, U', L, hT, X', hL, e1, e2, hq, st⟩
  · dsimp only [Pt.U, Pt.locs, Pt.cells, Pt.slots] at X' e1 e2 h1 h2 h3 st hcl
    subst h1; subst h2; subst h3
    exact Or.inr ⟨q, (T.setVm vm₁).calling g' mk (Value.ref b :: As).toArray, t, U', L, E, ce, hT, X', hL, e1, e2, hq, hce, hcv, vx_cls hW₁ hcl, st⟩
theorem vx_runSX {hh : List (Nat × Nat × Nat × Nat)} (S : CallFix p m c cc nL s args Ts own) (hM : vx_Met l y ws rm Pc Qc XC mc ms free) (cw : vx_CSW R s args own index y bytes maxL ret hh ws rm mc ms n) (hp : PreS s H Pc As)
    (hg : g.method = m) (hn : As.length = n) (hsize : g.locals.size = nL) (hstack : g.stack = As.reverse ++ rest) (hW : 2 * g.monitorRoom + (rest.map fun v => v.category).sum ≤ 8) (hdg : decode cc g.pc = .ok (.invokestatic index, 3)) (hf : cells + mc ≤ R.cells ∧ slots + ms ≤ R.slots) :
    vx_Run p l e R s m args below meth c H locs cells slots mc ms g rest (Qc As.toArray) XC free := by
  obtain ⟨⟨hrc, hrs, hfr, hlo, hws, hcw⟩, hcode, hini, hy, hlen, hl, hstt⟩ := cw
  have hK : vx_Back l R p e below s args y 3 8 (PreOf R mc ms Pc) (PostOf Qc mc ms free) (vx_Post XC mc ms free) := vx_backW (hh := hh) (bytes := bytes) (maxL := maxL) (ret := ret) hM hp.1 hrc hrs hfr hlo hws hcw (fun a' U hW => word_at hW (Or.inl (by first | rfl | simp [Cond.onTables, Cond.keeps, Cond.steady])) hini)
  obtain ⟨hx, hb, hml, ho, -⟩ := S
  intro T hT X
  rcases vx_callSX X hx (hh := hh) (bytes := bytes) (maxL := maxL) (ret := ret) ho hl hstt hini hcode hy hK hg (hsize.trans hml.symm) (argsL := As) (rest := rest) (fun sig h => hn.trans (hlen sig h)) hstack hW (by rw [hb]; exact hdg)
    (fun vm₁ hW₁ => ⟨hf.1, hf.2, hp.2 (T.setVm vm₁) hT hW₁⟩) with ⟨v, vm₁, ⟨U', l2, c2, s2⟩, hW₁, X', ⟨g', mk, t, L, e1, e2, hq, h1, hL, h2, h3⟩, st⟩ | ⟨q, vm₁, ⟨U', l2, c2, s2⟩, hW₁, X', ⟨g', mk, t, L, E, ce, e1, e2, hq, hce, hcv, hcl, h1, hL, h2, h3⟩, st⟩
  · dsimp only [Pt.U, Pt.locs, Pt.cells, Pt.slots] at X' e1 e2 h1 h2 h3 st
    subst h1; subst h2; subst h3
    exact Or.inl ⟨v, (T.setVm vm₁).calling g' mk As.toArray, t, U', L, hT, X', hL, e1, e2, hq, st⟩
  · dsimp only [Pt.U, Pt.locs, Pt.cells, Pt.slots] at X' e1 e2 h1 h2 h3 st hcl
    subst h1; subst h2; subst h3
    exact Or.inr ⟨q, (T.setVm vm₁).calling g' mk As.toArray, t, U', L, E, ce, hT, X', hL, e1, e2, hq, hce, hcv, vx_cls hW₁ hcl, st⟩
end
end VXH
theorem vx_ofWH {l : Launch} {y : MethodName} {ws ws' : List Cond} {rm : Room} {Pc : Array Value → State → Prop} {Qc : Array Value → State → Outcome → State → Prop} {XC : String → State → State → Prop} {mc ms : Nat} {free : Addr → Prop} {cc : ByteArray} {maxL : Nat} {ret : Option FieldType} {hh : List (Nat × Nat × Nat × Nat)}
    (hy : plainName y.cls = true) (hw : ws = Cond.codeWith y cc maxL ret hh :: ws')
    (body : ∀ p e s m args below meth c s₁, BodyLoose p l y (headSpec ws rm) cc maxL ret e s m args below meth c s₁ → c.maxLocals = maxL → Pc args s →
      W p l e (headSpec ws rm).room s m args below meth c s.heap [] 0 0 (vx_MQ below Qc XC args s mc ms free) (entryFrame m args maxL)) : vx_Met l y ws rm Pc Qc XC mc ms free := by
  refine MetFree.of_bodyS (code := cc) (maxLocals := maxL) (ret := ret) hy ?_ ?_
  · intro args s m h hn
    obtain ⟨m9, meth, c, hn9, h1, h2, h3, h4, -, h5, h6, -⟩ := Cond.codeWith_spec (atoms_spec (ws := ws) h _ (by rw [hw]; exact List.mem_cons_self))
    cases hn.symm.trans hn9
    exact ⟨meth, c, h1, h2, h3, h4, h5, h6⟩
  · intro p e s m args below meth c s₁ B hml hP _
    have hh0 : s₁.heap = s.heap := by rw [B.state]; rfl
    obtain ⟨t, a1, o, b1, b2, b3⟩ := body p e s m args below meth c s₁ B hml hP s₁ hh0 (Stand.of_body B)
    exact ⟨t, o, a1, b1, b2, b3⟩
/-! ===== END ===== -/
end
section
def RX0 : String := "BorrowedLuck$Coast"
def TX0 : u_T := fun k => match k with
  | 0 => ("BorrowedLuck$Coast", "women", "I", false)
  | 1 => ("BorrowedLuck$Coast", "things", "I", false)
  | 2 => ("BorrowedLuck$Coast", "texts", "I", false)
  | 3 => ("BorrowedLuck$Coast", "today", "I", false)
  | 4 => ("BorrowedLuck$Coast", "price", "I", false)
  | 5 => ("BorrowedLuck$Coast", "love", "I", false)
  | 6 => ("BorrowedLuck$Coast", "randomness", "I", false)
  | 7 => ("BorrowedLuck$Coast", "rows", "I", false)
  | 8 => ("BorrowedLuck$Coast", "newest", "I", false)
  | 9 => ("BorrowedLuck$Coast", "hers", "[I", true)
  | 10 => ("BorrowedLuck$Coast", "itses", "[I", true)
  | _ => ("BorrowedLuck$Coast", "logbook", "[I", true)
def tyX0 : Nat → FieldType := fun k => match k with
  | 0 => .int
  | 1 => .int
  | 2 => .int
  | 3 => .int
  | 4 => .int
  | 5 => .int
  | 6 => .int
  | 7 => .int
  | 8 => .int
  | 9 => .array .int
  | 10 => .array .int
  | _ => .array .int
abbrev wsX00 : List Cond := u_ws RX0 TX0 12
theorem nmX0 : ∀ a, a < 12 → ∀ b, b < 12 → a ≠ b → (TX0 a).2.1 ≠ (TX0 b).2.1 := by decide +kernel
theorem tyX0_ok : ∀ k, k < 12 → parseFieldDescriptor (TX0 k).2.2.1 = some (tyX0 k) := by decide +kernel
abbrev cX0_init : ByteArray := prog_2_method_1_code
def yX0_init : MethodName := ⟨RX0, "<init>", "()V"⟩
abbrev cX0_copyFrom : ByteArray := prog_2_method_2_code
def yX0_copyFrom : MethodName := ⟨RX0, "copyFrom", "(LBorrowedLuck$Coast;)V"⟩
abbrev cX0_her : ByteArray := prog_2_method_3_code
def yX0_her : MethodName := ⟨RX0, "her", "(II)I"⟩
abbrev cX0_setHer : ByteArray := prog_2_method_4_code
def yX0_setHer : MethodName := ⟨RX0, "setHer", "(III)V"⟩
abbrev cX0_its : ByteArray := prog_2_method_5_code
def yX0_its : MethodName := ⟨RX0, "its", "(II)I"⟩
abbrev cX0_setIts : ByteArray := prog_2_method_6_code
def yX0_setIts : MethodName := ⟨RX0, "setIts", "(III)V"⟩
abbrev cX0_herLuck : ByteArray := prog_2_method_7_code
def yX0_herLuck : MethodName := ⟨RX0, "herLuck", "(I)I"⟩
abbrev cX0_itsLuck : ByteArray := prog_2_method_8_code
def yX0_itsLuck : MethodName := ⟨RX0, "itsLuck", "(I)I"⟩
abbrev cX0_worth : ByteArray := prog_2_method_9_code
def yX0_worth : MethodName := ⟨RX0, "worth", "(I)I"⟩
abbrev cX0_luckOfWomen : ByteArray := prog_2_method_10_code
def yX0_luckOfWomen : MethodName := ⟨RX0, "luckOfWomen", "()I"⟩
abbrev cX0_luckOfThings : ByteArray := prog_2_method_11_code
def yX0_luckOfThings : MethodName := ⟨RX0, "luckOfThings", "()I"⟩
abbrev cX0_womenWith : ByteArray := prog_2_method_12_code
def yX0_womenWith : MethodName := ⟨RX0, "womenWith", "(II)I"⟩
abbrev cX0_thingsWith : ByteArray := prog_2_method_13_code
def yX0_thingsWith : MethodName := ⟨RX0, "thingsWith", "(II)I"⟩
abbrev cX0_areAlike : ByteArray := prog_2_method_14_code
def yX0_areAlike : MethodName := ⟨RX0, "areAlike", "(II)Z"⟩
abbrev cX0_greatestPart : ByteArray := prog_2_method_15_code
def yX0_greatestPart : MethodName := ⟨RX0, "greatestPart", "(II)I"⟩
abbrev cX0_isFree : ByteArray := prog_2_method_16_code
def yX0_isFree : MethodName := ⟨RX0, "isFree", "(II)Z"⟩
abbrev cX0_comesByDay : ByteArray := prog_2_method_17_code
def yX0_comesByDay : MethodName := ⟨RX0, "comesByDay", "(II)Z"⟩
abbrev cX0_soldFor : ByteArray := prog_2_method_18_code
def yX0_soldFor : MethodName := ⟨RX0, "soldFor", "(I)I"⟩
abbrev cX0_borrowerFrom : ByteArray := prog_2_method_19_code
def yX0_borrowerFrom : MethodName := ⟨RX0, "borrowerFrom", "(I)I"⟩
abbrev cX0_draw : ByteArray := prog_2_method_20_code
def yX0_draw : MethodName := ⟨RX0, "draw", "()I"⟩
abbrev cX0_addRow : ByteArray := prog_2_method_21_code
def yX0_addRow : MethodName := ⟨RX0, "addRow", "(III)V"⟩
abbrev cX0_row : ByteArray := prog_2_method_22_code
def yX0_row : MethodName := ⟨RX0, "row", "(II)I"⟩
abbrev cX0_logged : ByteArray := prog_2_method_23_code
def yX0_logged : MethodName := ⟨RX0, "logged", "(III)I"⟩
def RX1 : String := "BorrowedLuck$CoastReader"
def TX1 : u_T := fun k => match k with
  | 0 => ("BorrowedLuck$LineReader", "most", "I", true)
  | 1 => ("BorrowedLuck$LineReader", "tape", "LBorrowedLuck$Tape;", true)
  | _ => ("BorrowedLuck$CoastReader", "told", "LBorrowedLuck$Coast;", true)
def tyX1 : Nat → FieldType := fun k => match k with
  | 0 => .int
  | 1 => .object "BorrowedLuck$Tape"
  | _ => .object "BorrowedLuck$Coast"
abbrev wsX10 : List Cond := u_ws RX1 TX1 3
theorem nmX1 : ∀ a, a < 3 → ∀ b, b < 3 → a ≠ b → (TX1 a).2.1 ≠ (TX1 b).2.1 := by decide +kernel
theorem tyX1_ok : ∀ k, k < 3 → parseFieldDescriptor (TX1 k).2.2.1 = some (tyX1 k) := by decide +kernel
abbrev cX1_init : ByteArray := prog_3_method_1_code
def yX1_init : MethodName := ⟨RX1, "<init>", "(LBorrowedLuck$Tape;LBorrowedLuck$Coast;)V"⟩
abbrev cX1_readsLine : ByteArray := prog_3_method_2_code
def yX1_readsLine : MethodName := ⟨RX1, "readsLine", "()Z"⟩
abbrev cX1_readsWoman : ByteArray := prog_3_method_3_code
def yX1_readsWoman : MethodName := ⟨RX1, "readsWoman", "(I)Z"⟩
abbrev cX1_readsThing : ByteArray := prog_3_method_4_code
def yX1_readsThing : MethodName := ⟨RX1, "readsThing", "(I)Z"⟩
abbrev cX1_readsHer : ByteArray := prog_3_method_5_code
def yX1_readsHer : MethodName := ⟨RX1, "readsHer", "(III)Z"⟩
abbrev cX1_readsIts : ByteArray := prog_3_method_6_code
def yX1_readsIts : MethodName := ⟨RX1, "readsIts", "(III)Z"⟩
def RX2 : String := "BorrowedLuck$Law"
def TX2 : u_T := fun k => match k with
  | 0 => ("BorrowedLuck$Law", "lines", "I", false)
  | 1 => ("BorrowedLuck$Law", "size", "I", false)
  | 2 => ("BorrowedLuck$Law", "kinds", "[I", true)
  | 3 => ("BorrowedLuck$Law", "numbers", "[I", true)
  | 4 => ("BorrowedLuck$Law", "ends", "[I", true)
  | 5 => ("BorrowedLuck$Law", "code", "[I", true)
  | 6 => ("BorrowedLuck$Law", "facts", "[I", true)
  | _ => ("BorrowedLuck$Law", "stack", "[I", true)
def tyX2 : Nat → FieldType := fun k => match k with
  | 0 => .int
  | 1 => .int
  | 2 => .array .int
  | 3 => .array .int
  | 4 => .array .int
  | 5 => .array .int
  | 6 => .array .int
  | _ => .array .int
abbrev wsX20 : List Cond := u_ws RX2 TX2 8
theorem nmX2 : ∀ a, a < 8 → ∀ b, b < 8 → a ≠ b → (TX2 a).2.1 ≠ (TX2 b).2.1 := by decide +kernel
theorem tyX2_ok : ∀ k, k < 8 → parseFieldDescriptor (TX2 k).2.2.1 = some (tyX2 k) := by decide +kernel
abbrev cX2_init : ByteArray := prog_4_method_1_code
def yX2_init : MethodName := ⟨RX2, "<init>", "()V"⟩
abbrev cX2_copyFrom : ByteArray := prog_4_method_2_code
def yX2_copyFrom : MethodName := ⟨RX2, "copyFrom", "(LBorrowedLuck$Law;)V"⟩
abbrev cX2_clear : ByteArray := prog_4_method_3_code
def yX2_clear : MethodName := ⟨RX2, "clear", "()V"⟩
abbrev cX2_addLine : ByteArray := prog_4_method_4_code
def yX2_addLine : MethodName := ⟨RX2, "addLine", "(II)V"⟩
abbrev cX2_addStep : ByteArray := prog_4_method_5_code
def yX2_addStep : MethodName := ⟨RX2, "addStep", "(I)V"⟩
abbrev cX2_wears : ByteArray := prog_4_method_6_code
def yX2_wears : MethodName := ⟨RX2, "wears", "(LBorrowedLuck$Coast;II)I"⟩
abbrev cX2_sticks : ByteArray := prog_4_method_7_code
def yX2_sticks : MethodName := ⟨RX2, "sticks", "(LBorrowedLuck$Coast;II)Z"⟩
abbrev cX2_sum : ByteArray := prog_4_method_8_code
def yX2_sum : MethodName := ⟨RX2, "sum", "(ILBorrowedLuck$Coast;III)I"⟩
abbrev cX2_learn : ByteArray := prog_4_method_9_code
def yX2_learn : MethodName := ⟨RX2, "learn", "(LBorrowedLuck$Coast;III)V"⟩
abbrev cX2_holds : ByteArray := prog_4_method_10_code
def yX2_holds : MethodName := ⟨RX2, "holds", "(II)Z"⟩
abbrev cX2_joined : ByteArray := prog_4_method_11_code
def yX2_joined : MethodName := ⟨RX2, "joined", "(III)I"⟩
def RX3 : String := "BorrowedLuck$LawReader"
def TX3 : u_T := fun k => match k with
  | 0 => ("BorrowedLuck$LineReader", "most", "I", true)
  | 1 => ("BorrowedLuck$LineReader", "tape", "LBorrowedLuck$Tape;", true)
  | _ => ("BorrowedLuck$LawReader", "told", "LBorrowedLuck$Law;", true)
def tyX3 : Nat → FieldType := fun k => match k with
  | 0 => .int
  | 1 => .object "BorrowedLuck$Tape"
  | _ => .object "BorrowedLuck$Law"
abbrev wsX30 : List Cond := u_ws RX3 TX3 3
theorem nmX3 : ∀ a, a < 3 → ∀ b, b < 3 → a ≠ b → (TX3 a).2.1 ≠ (TX3 b).2.1 := by decide +kernel
theorem tyX3_ok : ∀ k, k < 3 → parseFieldDescriptor (TX3 k).2.2.1 = some (tyX3 k) := by decide +kernel
abbrev cX3_init : ByteArray := prog_5_method_1_code
def yX3_init : MethodName := ⟨RX3, "<init>", "(LBorrowedLuck$Tape;LBorrowedLuck$Law;)V"⟩
abbrev cX3_readsLine : ByteArray := prog_5_method_2_code
def yX3_readsLine : MethodName := ⟨RX3, "readsLine", "()Z"⟩
abbrev cX3_readsAny : ByteArray := prog_5_method_3_code
def yX3_readsAny : MethodName := ⟨RX3, "readsAny", "(I)Z"⟩
abbrev cX3_readsAll : ByteArray := prog_5_method_4_code
def yX3_readsAll : MethodName := ⟨RX3, "readsAll", "(I)Z"⟩
abbrev cX3_readsAtom : ByteArray := prog_5_method_5_code
def yX3_readsAtom : MethodName := ⟨RX3, "readsAtom", "(I)Z"⟩
abbrev cX3_readsSum : ByteArray := prog_5_method_6_code
def yX3_readsSum : MethodName := ⟨RX3, "readsSum", "()Z"⟩
abbrev cX3_traitOf : ByteArray := prog_5_method_7_code
def yX3_traitOf : MethodName := ⟨RX3, "traitOf", "(I)I"⟩
abbrev cX3_partOf : ByteArray := prog_5_method_8_code
def yX3_partOf : MethodName := ⟨RX3, "partOf", "(I)I"⟩
def RX4 : String := "BorrowedLuck$LineReader"
def TX4 : u_T := fun k => match k with
  | _ => ("", "", "", false)
def tyX4 : Nat → FieldType := fun k => match k with
  | _ => .int
abbrev wsX40 : List Cond := u_ws RX4 TX4 0
theorem nmX4 : ∀ a, a < 0 → ∀ b, b < 0 → a ≠ b → (TX4 a).2.1 ≠ (TX4 b).2.1 := by decide +kernel
theorem tyX4_ok : ∀ k, k < 0 → parseFieldDescriptor (TX4 k).2.2.1 = some (tyX4 k) := by decide +kernel
abbrev cX4_init : ByteArray := prog_6_method_1_code
def yX4_init : MethodName := ⟨RX4, "<init>", "(LBorrowedLuck$Tape;I)V"⟩
abbrev cX4_readsText : ByteArray := prog_6_method_3_code
def yX4_readsText : MethodName := ⟨RX4, "readsText", "()Z"⟩
def RX5 : String := "BorrowedLuck$Memory"
def TX5 : u_T := fun k => match k with
  | 0 => ("BorrowedLuck$Memory", "ahead", "[LBorrowedLuck$Coast;", true)
  | 1 => ("BorrowedLuck$Memory", "size", "I", false)
  | _ => ("BorrowedLuck$Memory", "newest", "I", false)
def tyX5 : Nat → FieldType := fun k => match k with
  | 0 => .array (.object "BorrowedLuck$Coast")
  | 1 => .int
  | _ => .int
abbrev wsX50 : List Cond := u_ws RX5 TX5 3
theorem nmX5 : ∀ a, a < 3 → ∀ b, b < 3 → a ≠ b → (TX5 a).2.1 ≠ (TX5 b).2.1 := by decide +kernel
theorem tyX5_ok : ∀ k, k < 3 → parseFieldDescriptor (TX5 k).2.2.1 = some (tyX5 k) := by decide +kernel
abbrev cX5_init : ByteArray := prog_7_method_1_code
def yX5_init : MethodName := ⟨RX5, "<init>", "()V"⟩
abbrev cX5_remember : ByteArray := prog_7_method_2_code
def yX5_remember : MethodName := ⟨RX5, "remember", "(LBorrowedLuck$Coast;)V"⟩
abbrev cX5_bringBack : ByteArray := prog_7_method_3_code
def yX5_bringBack : MethodName := ⟨RX5, "bringBack", "(LBorrowedLuck$Coast;)Z"⟩
abbrev cX5_forget : ByteArray := prog_7_method_4_code
def yX5_forget : MethodName := ⟨RX5, "forget", "()V"⟩
def RX6 : String := "BorrowedLuck$Rites"
def TX6 : u_T := fun k => match k with
  | _ => ("BorrowedLuck$Rites", "rule", "LBorrowedLuck$Law;", true)
def tyX6 : Nat → FieldType := fun k => match k with
  | _ => .object "BorrowedLuck$Law"
abbrev wsX60 : List Cond := u_ws RX6 TX6 1
theorem nmX6 : ∀ a, a < 1 → ∀ b, b < 1 → a ≠ b → (TX6 a).2.1 ≠ (TX6 b).2.1 := by decide +kernel
theorem tyX6_ok : ∀ k, k < 1 → parseFieldDescriptor (TX6 k).2.2.1 = some (tyX6 k) := by decide +kernel
abbrev cX6_init : ByteArray := prog_8_method_1_code
def yX6_init : MethodName := ⟨RX6, "<init>", "()V"⟩
abbrev cX6_comes : ByteArray := prog_8_method_2_code
def yX6_comes : MethodName := ⟨RX6, "comes", "(LBorrowedLuck$Coast;III)I"⟩
abbrev cX6_gainOf : ByteArray := prog_8_method_3_code
def yX6_gainOf : MethodName := ⟨RX6, "gainOf", "(LBorrowedLuck$Coast;II)I"⟩
abbrev cX6_marry : ByteArray := prog_8_method_4_code
def yX6_marry : MethodName := ⟨RX6, "marry", "(LBorrowedLuck$Coast;II)I"⟩
abbrev cX6_marryInTurn : ByteArray := prog_8_method_5_code
def yX6_marryInTurn : MethodName := ⟨RX6, "marryInTurn", "(LBorrowedLuck$Coast;II)V"⟩
abbrev cX6_passDays : ByteArray := prog_8_method_6_code
def yX6_passDays : MethodName := ⟨RX6, "passDays", "(LBorrowedLuck$Coast;I)I"⟩
def RX7 : String := "BorrowedLuck$Search"
def TX7 : u_T := fun k => match k with
  | 0 => ("BorrowedLuck$Search", "rites", "LBorrowedLuck$Rites;", true)
  | 1 => ("BorrowedLuck$Search", "tried", "LBorrowedLuck$Coast;", true)
  | 2 => ("BorrowedLuck$Search", "size", "I", false)
  | 3 => ("BorrowedLuck$Search", "greatest", "I", false)
  | 4 => ("BorrowedLuck$Search", "set", "[I", true)
  | 5 => ("BorrowedLuck$Search", "way", "[I", true)
  | 6 => ("BorrowedLuck$Search", "bestWay", "[I", true)
  | _ => ("BorrowedLuck$Search", "gains", "[I", true)
def tyX7 : Nat → FieldType := fun k => match k with
  | 0 => .object "BorrowedLuck$Rites"
  | 1 => .object "BorrowedLuck$Coast"
  | 2 => .int
  | 3 => .int
  | 4 => .array .int
  | 5 => .array .int
  | 6 => .array .int
  | _ => .array .int
abbrev wsX70 : List Cond := u_ws RX7 TX7 8
theorem nmX7 : ∀ a, a < 8 → ∀ b, b < 8 → a ≠ b → (TX7 a).2.1 ≠ (TX7 b).2.1 := by decide +kernel
theorem tyX7_ok : ∀ k, k < 8 → parseFieldDescriptor (TX7 k).2.2.1 = some (tyX7 k) := by decide +kernel
abbrev cX7_init : ByteArray := prog_9_method_1_code
def yX7_init : MethodName := ⟨RX7, "<init>", "(LBorrowedLuck$Rites;LBorrowedLuck$Coast;)V"⟩
abbrev cX7_gather : ByteArray := prog_9_method_2_code
def yX7_gather : MethodName := ⟨RX7, "gather", "(II)I"⟩
abbrev cX7_bestAt : ByteArray := prog_9_method_3_code
def yX7_bestAt : MethodName := ⟨RX7, "bestAt", "(I)I"⟩
abbrev cX7_greatestOfRows : ByteArray := prog_9_method_4_code
def yX7_greatestOfRows : MethodName := ⟨RX7, "greatestOfRows", "(LBorrowedLuck$Coast;IZ)I"⟩
abbrev cX7_leastLuck : ByteArray := prog_9_method_5_code
def yX7_leastLuck : MethodName := ⟨RX7, "leastLuck", "()I"⟩
abbrev cX7_goesToNextRow : ByteArray := prog_9_method_6_code
def yX7_goesToNextRow : MethodName := ⟨RX7, "goesToNextRow", "()Z"⟩
abbrev cX7_swap : ByteArray := prog_9_method_7_code
def yX7_swap : MethodName := ⟨RX7, "swap", "(II)V"⟩
abbrev cX7_greatestMatch : ByteArray := prog_9_method_8_code
def yX7_greatestMatch : MethodName := ⟨RX7, "greatestMatch", "(LBorrowedLuck$Coast;)I"⟩
abbrev cX7_place : ByteArray := prog_9_method_9_code
def yX7_place : MethodName := ⟨RX7, "place", "(IIII)V"⟩
def RX8 : String := "BorrowedLuck$Tape"
def TX8 : u_T := fun k => match k with
  | 0 => ("BorrowedLuck$Tape", "bytes", "[I", true)
  | 1 => ("BorrowedLuck$Tape", "length", "I", false)
  | 2 => ("BorrowedLuck$Tape", "at", "I", false)
  | 3 => ("BorrowedLuck$Tape", "behind", "I", false)
  | 4 => ("BorrowedLuck$Tape", "word", "I", false)
  | 5 => ("BorrowedLuck$Tape", "number", "I", false)
  | _ => ("BorrowedLuck$Tape", "first", "I", false)
def tyX8 : Nat → FieldType := fun k => match k with
  | 0 => .array .int
  | 1 => .int
  | 2 => .int
  | 3 => .int
  | 4 => .int
  | 5 => .int
  | _ => .int
abbrev wsX80 : List Cond := u_ws RX8 TX8 7
theorem nmX8 : ∀ a, a < 7 → ∀ b, b < 7 → a ≠ b → (TX8 a).2.1 ≠ (TX8 b).2.1 := by decide +kernel
theorem tyX8_ok : ∀ k, k < 7 → parseFieldDescriptor (TX8 k).2.2.1 = some (tyX8 k) := by decide +kernel
abbrev cX8_init : ByteArray := prog_10_method_1_code
def yX8_init : MethodName := ⟨RX8, "<init>", "()V"⟩
abbrev cX8_put : ByteArray := prog_10_method_2_code
def yX8_put : MethodName := ⟨RX8, "put", "(I)V"⟩
abbrev cX8_byteAt : ByteArray := prog_10_method_3_code
def yX8_byteAt : MethodName := ⟨RX8, "byteAt", "(I)I"⟩
abbrev cX8_begin : ByteArray := prog_10_method_4_code
def yX8_begin : MethodName := ⟨RX8, "begin", "()V"⟩
abbrev cX8_isAtEnd : ByteArray := prog_10_method_5_code
def yX8_isAtEnd : MethodName := ⟨RX8, "isAtEnd", "()Z"⟩
abbrev cX8_step : ByteArray := prog_10_method_6_code
def yX8_step : MethodName := ⟨RX8, "step", "()V"⟩
abbrev cX8_takesWord : ByteArray := prog_10_method_7_code
def yX8_takesWord : MethodName := ⟨RX8, "takesWord", "(I)Z"⟩
abbrev cX8_takesSign : ByteArray := prog_10_method_8_code
def yX8_takesSign : MethodName := ⟨RX8, "takesSign", "(C)Z"⟩
abbrev cX8_takeNumber : ByteArray := prog_10_method_9_code
def yX8_takeNumber : MethodName := ⟨RX8, "takeNumber", "(I)I"⟩
abbrev cX8_tellsLuck : ByteArray := prog_10_method_10_code
def yX8_tellsLuck : MethodName := ⟨RX8, "tellsLuck", "()Z"⟩
def RX9 : String := "BorrowedLuck"
def TX9 : u_T := fun k => match k with
  | 0 => ("BorrowedLuck", "tape", "LBorrowedLuck$Tape;", true)
  | 1 => ("BorrowedLuck", "now", "LBorrowedLuck$Coast;", true)
  | 2 => ("BorrowedLuck", "draft", "LBorrowedLuck$Coast;", true)
  | 3 => ("BorrowedLuck", "keptCoast", "LBorrowedLuck$Coast;", true)
  | 4 => ("BorrowedLuck", "rites", "LBorrowedLuck$Rites;", true)
  | 5 => ("BorrowedLuck", "draftLaw", "LBorrowedLuck$Law;", true)
  | 6 => ("BorrowedLuck", "keptLaw", "LBorrowedLuck$Law;", true)
  | 7 => ("BorrowedLuck", "coastReader", "LBorrowedLuck$CoastReader;", true)
  | 8 => ("BorrowedLuck", "lawReader", "LBorrowedLuck$LawReader;", true)
  | 9 => ("BorrowedLuck", "search", "LBorrowedLuck$Search;", true)
  | 10 => ("BorrowedLuck", "memory", "LBorrowedLuck$Memory;", true)
  | 11 => ("BorrowedLuck", "kept", "Z", false)
  | _ => ("BorrowedLuck", "wrongByte", "I", false)
def tyX9 : Nat → FieldType := fun k => match k with
  | 0 => .object "BorrowedLuck$Tape"
  | 1 => .object "BorrowedLuck$Coast"
  | 2 => .object "BorrowedLuck$Coast"
  | 3 => .object "BorrowedLuck$Coast"
  | 4 => .object "BorrowedLuck$Rites"
  | 5 => .object "BorrowedLuck$Law"
  | 6 => .object "BorrowedLuck$Law"
  | 7 => .object "BorrowedLuck$CoastReader"
  | 8 => .object "BorrowedLuck$LawReader"
  | 9 => .object "BorrowedLuck$Search"
  | 10 => .object "BorrowedLuck$Memory"
  | 11 => .boolean
  | _ => .int
abbrev wsX90 : List Cond := u_ws RX9 TX9 13
theorem nmX9 : ∀ a, a < 13 → ∀ b, b < 13 → a ≠ b → (TX9 a).2.1 ≠ (TX9 b).2.1 := by decide +kernel
theorem tyX9_ok : ∀ k, k < 13 → parseFieldDescriptor (TX9 k).2.2.1 = some (tyX9 k) := by decide +kernel
abbrev cX9_init : ByteArray := prog_1_method_1_code
def yX9_init : MethodName := ⟨RX9, "<init>", "()V"⟩
abbrev cX9_feed : ByteArray := prog_1_method_2_code
def yX9_feed : MethodName := ⟨RX9, "feed", "(IIIII)I"⟩
abbrev cX9_end : ByteArray := prog_1_method_3_code
def yX9_end : MethodName := ⟨RX9, "end", "(I)Z"⟩
abbrev cX9_coast : ByteArray := prog_1_method_4_code
def yX9_coast : MethodName := ⟨RX9, "coast", "()I"⟩
abbrev cX9_law : ByteArray := prog_1_method_5_code
def yX9_law : MethodName := ⟨RX9, "law", "()I"⟩
abbrev cX9_noteReading : ByteArray := prog_1_method_6_code
def yX9_noteReading : MethodName := ⟨RX9, "noteReading", "(Z)V"⟩
abbrev cX9_fault : ByteArray := prog_1_method_7_code
def yX9_fault : MethodName := ⟨RX9, "fault", "()I"⟩
abbrev cX9_woman : ByteArray := prog_1_method_8_code
def yX9_woman : MethodName := ⟨RX9, "woman", "(II)I"⟩
abbrev cX9_thing : ByteArray := prog_1_method_9_code
def yX9_thing : MethodName := ⟨RX9, "thing", "(II)I"⟩
abbrev cX9_gain : ByteArray := prog_1_method_10_code
def yX9_gain : MethodName := ⟨RX9, "gain", "(II)I"⟩
abbrev cX9_flows : ByteArray := prog_1_method_11_code
def yX9_flows : MethodName := ⟨RX9, "flows", "(III)I"⟩
abbrev cX9_lend : ByteArray := prog_1_method_12_code
def yX9_lend : MethodName := ⟨RX9, "lend", "(II)I"⟩
abbrev cX9_mayBeLent : ByteArray := prog_1_method_13_code
def yX9_mayBeLent : MethodName := ⟨RX9, "mayBeLent", "(III)Z"⟩
abbrev cX9_wed : ByteArray := prog_1_method_14_code
def yX9_wed : MethodName := ⟨RX9, "wed", "(II)I"⟩
abbrev cX9_pawn : ByteArray := prog_1_method_15_code
def yX9_pawn : MethodName := ⟨RX9, "pawn", "(I)I"⟩
abbrev cX9_redeem : ByteArray := prog_1_method_16_code
def yX9_redeem : MethodName := ⟨RX9, "redeem", "(I)I"⟩
abbrev cX9_cut : ByteArray := prog_1_method_17_code
def yX9_cut : MethodName := ⟨RX9, "cut", "(I)I"⟩
abbrev cX9_widow : ByteArray := prog_1_method_18_code
def yX9_widow : MethodName := ⟨RX9, "widow", "(IZ)Z"⟩
abbrev cX9_days : ByteArray := prog_1_method_19_code
def yX9_days : MethodName := ⟨RX9, "days", "(I)I"⟩
abbrev cX9_best : ByteArray := prog_1_method_20_code
def yX9_best : MethodName := ⟨RX9, "best", "(I)I"⟩
abbrev cX9_order : ByteArray := prog_1_method_21_code
def yX9_order : MethodName := ⟨RX9, "order", "(III)I"⟩
abbrev cX9_lowest : ByteArray := prog_1_method_22_code
def yX9_lowest : MethodName := ⟨RX9, "lowest", "(II)I"⟩
abbrev cX9_reach : ByteArray := prog_1_method_23_code
def yX9_reach : MethodName := ⟨RX9, "reach", "(IIII)I"⟩
abbrev cX9_chain : ByteArray := prog_1_method_24_code
def yX9_chain : MethodName := ⟨RX9, "chain", "(I)I"⟩
abbrev cX9_since : ByteArray := prog_1_method_25_code
def yX9_since : MethodName := ⟨RX9, "since", "(II)I"⟩
abbrev cX9_whose : ByteArray := prog_1_method_26_code
def yX9_whose : MethodName := ⟨RX9, "whose", "()I"⟩
abbrev cX9_next : ByteArray := prog_1_method_27_code
def yX9_next : MethodName := ⟨RX9, "next", "()I"⟩
abbrev cX9_takeFitting : ByteArray := prog_1_method_28_code
def yX9_takeFitting : MethodName := ⟨RX9, "takeFitting", "()I"⟩
abbrev cX9_fitting : ByteArray := prog_1_method_29_code
def yX9_fitting : MethodName := ⟨RX9, "fitting", "()I"⟩
abbrev cX9_match : ByteArray := prog_1_method_30_code
def yX9_match : MethodName := ⟨RX9, "match", "(II)I"⟩
abbrev cX9_rests : ByteArray := prog_1_method_31_code
def yX9_rests : MethodName := ⟨RX9, "rests", "(III)I"⟩
abbrev cX9_widowHas : ByteArray := prog_1_method_32_code
def yX9_widowHas : MethodName := ⟨RX9, "widowHas", "(II)I"⟩
abbrev cX9_brideHas : ByteArray := prog_1_method_33_code
def yX9_brideHas : MethodName := ⟨RX9, "brideHas", "(II)I"⟩
abbrev cX9_sells : ByteArray := prog_1_method_34_code
def yX9_sells : MethodName := ⟨RX9, "sells", "(I)I"⟩
abbrev cX9_dearest : ByteArray := prog_1_method_35_code
def yX9_dearest : MethodName := ⟨RX9, "dearest", "()I"⟩
abbrev cX9_unlucky : ByteArray := prog_1_method_36_code
def yX9_unlucky : MethodName := ⟨RX9, "unlucky", "()I"⟩
abbrev cX9_luckiest : ByteArray := prog_1_method_37_code
def yX9_luckiest : MethodName := ⟨RX9, "luckiest", "(I)I"⟩
abbrev cX9_ring : ByteArray := prog_1_method_38_code
def yX9_ring : MethodName := ⟨RX9, "ring", "(I)Z"⟩
abbrev cX9_runs : ByteArray := prog_1_method_39_code
def yX9_runs : MethodName := ⟨RX9, "runs", "(II)I"⟩
abbrev cX9_spent : ByteArray := prog_1_method_40_code
def yX9_spent : MethodName := ⟨RX9, "spent", "(I)I"⟩
abbrev cX9_oldest : ByteArray := prog_1_method_41_code
def yX9_oldest : MethodName := ⟨RX9, "oldest", "()I"⟩
abbrev cX9_stuck : ByteArray := prog_1_method_42_code
def yX9_stuck : MethodName := ⟨RX9, "stuck", "()I"⟩
abbrev cX9_pawned : ByteArray := prog_1_method_43_code
def yX9_pawned : MethodName := ⟨RX9, "pawned", "()I"⟩
abbrev cX9_blue : ByteArray := prog_1_method_44_code
def yX9_blue : MethodName := ⟨RX9, "blue", "()I"⟩
abbrev cX9_alike : ByteArray := prog_1_method_45_code
def yX9_alike : MethodName := ⟨RX9, "alike", "()I"⟩
abbrev cX9_share : ByteArray := prog_1_method_46_code
def yX9_share : MethodName := ⟨RX9, "share", "(II)I"⟩
abbrev cX9_odds : ByteArray := prog_1_method_47_code
def yX9_odds : MethodName := ⟨RX9, "odds", "()I"⟩
abbrev cX9_trial : ByteArray := prog_1_method_48_code
def yX9_trial : MethodName := ⟨RX9, "trial", "(IZ)I"⟩
abbrev cX9_span : ByteArray := prog_1_method_49_code
def yX9_span : MethodName := ⟨RX9, "span", "(IZ)I"⟩
abbrev cX9_led : ByteArray := prog_1_method_50_code
def yX9_led : MethodName := ⟨RX9, "led", "(IZ)I"⟩
abbrev cX9_log : ByteArray := prog_1_method_51_code
def yX9_log : MethodName := ⟨RX9, "log", "(II)I"⟩
abbrev cX9_seed : ByteArray := prog_1_method_52_code
def yX9_seed : MethodName := ⟨RX9, "seed", "(I)I"⟩
abbrev cX9_undo : ByteArray := prog_1_method_53_code
def yX9_undo : MethodName := ⟨RX9, "undo", "()Z"⟩
abbrev cX9_image : ByteArray := prog_1_method_54_code
def yX9_image : MethodName := ⟨RX9, "image", "()V"⟩
abbrev cX9_back : ByteArray := prog_1_method_55_code
def yX9_back : MethodName := ⟨RX9, "back", "()Z"⟩
abbrev cX9_count : ByteArray := prog_1_method_56_code
def yX9_count : MethodName := ⟨RX9, "count", "(I)I"⟩
abbrev cX9_needWoman : ByteArray := prog_1_method_57_code
def yX9_needWoman : MethodName := ⟨RX9, "needWoman", "(I)V"⟩
abbrev cX9_needThing : ByteArray := prog_1_method_58_code
def yX9_needThing : MethodName := ⟨RX9, "needThing", "(I)V"⟩
abbrev cX9_needSort : ByteArray := prog_1_method_59_code
def yX9_needSort : MethodName := ⟨RX9, "needSort", "(I)V"⟩
abbrev cX9_needTrialDays : ByteArray := prog_1_method_60_code
def yX9_needTrialDays : MethodName := ⟨RX9, "needTrialDays", "(I)V"⟩
abbrev cX9_gatherFive : ByteArray := prog_1_method_61_code
def yX9_gatherFive : MethodName := ⟨RX9, "gatherFive", "(I)V"⟩
def RX10 : String := "BorrowedLuckModel"
def TX10 : u_T := fun k => match k with
  | 0 => ("BorrowedLuckModel", "thrown", "I", false)
  | 1 => ("BorrowedLuckModel", "world", "[I", true)
  | 2 => ("BorrowedLuckModel", "image", "[I", true)
  | 3 => ("BorrowedLuckModel", "before", "[I", true)
  | 4 => ("BorrowedLuckModel", "trial", "[I", true)
  | 5 => ("BorrowedLuckModel", "acts", "[I", true)
  | 6 => ("BorrowedLuckModel", "hasImage", "Z", false)
  | 7 => ("BorrowedLuckModel", "remembered", "I", false)
  | 8 => ("BorrowedLuckModel", "tape", "[B", true)
  | 9 => ("BorrowedLuckModel", "taped", "I", false)
  | 10 => ("BorrowedLuckModel", "point", "I", false)
  | 11 => ("BorrowedLuckModel", "end", "I", false)
  | 12 => ("BorrowedLuckModel", "begin", "I", false)
  | 13 => ("BorrowedLuckModel", "deep", "I", false)
  | 14 => ("BorrowedLuckModel", "faultAt", "I", false)
  | 15 => ("BorrowedLuckModel", "five", "[I", true)
  | 16 => ("BorrowedLuckModel", "steps", "I", false)
  | 17 => ("BorrowedLuckModel", "value", "[I", true)
  | 18 => ("BorrowedLuckModel", "more", "[I", true)
  | 19 => ("BorrowedLuckModel", "row", "[I", true)
  | 20 => ("BorrowedLuckModel", "best", "[I", true)
  | 21 => ("BorrowedLuckModel", "leastLuck", "I", false)
  | _ => ("BorrowedLuckModel", "together", "[I", true)
def tyX10 : Nat → FieldType := fun k => match k with
  | 0 => .int
  | 1 => .array .int
  | 2 => .array .int
  | 3 => .array .int
  | 4 => .array .int
  | 5 => .array .int
  | 6 => .boolean
  | 7 => .int
  | 8 => .array .byte
  | 9 => .int
  | 10 => .int
  | 11 => .int
  | 12 => .int
  | 13 => .int
  | 14 => .int
  | 15 => .array .int
  | 16 => .int
  | 17 => .array .int
  | 18 => .array .int
  | 19 => .array .int
  | 20 => .array .int
  | 21 => .int
  | _ => .array .int
abbrev wsX100 : List Cond := u_ws RX10 TX10 23
theorem nmX10 : ∀ a, a < 23 → ∀ b, b < 23 → a ≠ b → (TX10 a).2.1 ≠ (TX10 b).2.1 := by decide +kernel
theorem tyX10_ok : ∀ k, k < 23 → parseFieldDescriptor (TX10 k).2.2.1 = some (tyX10 k) := by decide +kernel
abbrev cX10_throwsIf : ByteArray := prog_12_method_2_code
def yX10_throwsIf : MethodName := ⟨RX10, "throwsIf", "(ZI)Z"⟩
abbrev cX10_in : ByteArray := prog_12_method_3_code
def yX10_in : MethodName := ⟨RX10, "in", "(III)Z"⟩
abbrev cX10_has : ByteArray := prog_12_method_4_code
def yX10_has : MethodName := ⟨RX10, "has", "(II)Z"⟩
abbrev cX10_init : ByteArray := prog_12_method_5_code
def yX10_init : MethodName := ⟨RX10, "<init>", "()V"⟩
abbrev cX10_image : ByteArray := prog_12_method_6_code
def yX10_image : MethodName := ⟨RX10, "image", "()V"⟩
abbrev cX10_back : ByteArray := prog_12_method_7_code
def yX10_back : MethodName := ⟨RX10, "back", "()Z"⟩
abbrev cX10_remembers : ByteArray := prog_12_method_8_code
def yX10_remembers : MethodName := ⟨RX10, "remembers", "()V"⟩
abbrev cX10_undo : ByteArray := prog_12_method_9_code
def yX10_undo : MethodName := ⟨RX10, "undo", "()Z"⟩
abbrev cX10_women : ByteArray := prog_12_method_10_code
def yX10_women : MethodName := ⟨RX10, "women", "()I"⟩
abbrev cX10_things : ByteArray := prog_12_method_11_code
def yX10_things : MethodName := ⟨RX10, "things", "()I"⟩
abbrev cX10_womanAt : ByteArray := prog_12_method_12_code
def yX10_womanAt : MethodName := ⟨RX10, "womanAt", "(II)I"⟩
abbrev cX10_of : ByteArray := prog_12_method_13_code
def yX10_of : MethodName := ⟨RX10, "of", "(II)I"⟩
abbrev cX10_isWidow : ByteArray := prog_12_method_14_code
def yX10_isWidow : MethodName := ⟨RX10, "isWidow", "(I)Z"⟩
abbrev cX10_thingAt : ByteArray := prog_12_method_15_code
def yX10_thingAt : MethodName := ⟨RX10, "thingAt", "(II)I"⟩
abbrev cX10_ofThing : ByteArray := prog_12_method_16_code
def yX10_ofThing : MethodName := ⟨RX10, "ofThing", "(II)I"⟩
abbrev cX10_isPawned : ByteArray := prog_12_method_17_code
def yX10_isPawned : MethodName := ⟨RX10, "isPawned", "(I)Z"⟩
abbrev cX10_isStuck : ByteArray := prog_12_method_18_code
def yX10_isStuck : MethodName := ⟨RX10, "isStuck", "(I)Z"⟩
abbrev cX10_noWoman : ByteArray := prog_12_method_19_code
def yX10_noWoman : MethodName := ⟨RX10, "noWoman", "(I)Z"⟩
abbrev cX10_noThing : ByteArray := prog_12_method_20_code
def yX10_noThing : MethodName := ⟨RX10, "noThing", "(I)Z"⟩
abbrev cX10_noSort : ByteArray := prog_12_method_21_code
def yX10_noSort : MethodName := ⟨RX10, "noSort", "(I)Z"⟩
abbrev cX10_drawn : ByteArray := prog_12_method_22_code
def yX10_drawn : MethodName := ⟨RX10, "drawn", "(I)I"⟩
abbrev cX10_feed : ByteArray := prog_12_method_23_code
def yX10_feed : MethodName := ⟨RX10, "feed", "(IIIII)I"⟩
abbrev cX10_end : ByteArray := prog_12_method_24_code
def yX10_end : MethodName := ⟨RX10, "end", "(I)Z"⟩
abbrev cX10_isAt : ByteArray := prog_12_method_25_code
def yX10_isAt : MethodName := ⟨RX10, "isAt", "(II)Z"⟩
abbrev cX10_blanks : ByteArray := prog_12_method_26_code
def yX10_blanks : MethodName := ⟨RX10, "blanks", "()V"⟩
abbrev cX10_letters : ByteArray := prog_12_method_27_code
def yX10_letters : MethodName := ⟨RX10, "letters", "()V"⟩
abbrev cX10_isWord : ByteArray := prog_12_method_28_code
def yX10_isWord : MethodName := ⟨RX10, "isWord", "(Ljava/lang/String;)Z"⟩
abbrev cX10_passes : ByteArray := prog_12_method_29_code
def yX10_passes : MethodName := ⟨RX10, "passes", "(Ljava/lang/String;)Z"⟩
abbrev cX10_sign : ByteArray := prog_12_method_30_code
def yX10_sign : MethodName := ⟨RX10, "sign", "(I)Z"⟩
abbrev cX10_number : ByteArray := prog_12_method_31_code
def yX10_number : MethodName := ⟨RX10, "number", "(II)I"⟩
abbrev cX10_after : ByteArray := prog_12_method_32_code
def yX10_after : MethodName := ⟨RX10, "after", "(Ljava/lang/String;II)I"⟩
abbrev cX10_fault : ByteArray := prog_12_method_33_code
def yX10_fault : MethodName := ⟨RX10, "fault", "()I"⟩
abbrev cX10_uses : ByteArray := prog_12_method_34_code
def yX10_uses : MethodName := ⟨RX10, "uses", "()V"⟩
abbrev cX10_readNumber : ByteArray := prog_12_method_35_code
def yX10_readNumber : MethodName := ⟨RX10, "readNumber", "(III)Z"⟩
abbrev cX10_readLuck : ByteArray := prog_12_method_36_code
def yX10_readLuck : MethodName := ⟨RX10, "readLuck", "(I)Z"⟩
abbrev cX10_readWoman : ByteArray := prog_12_method_37_code
def yX10_readWoman : MethodName := ⟨RX10, "readWoman", "()Z"⟩
abbrev cX10_readThing : ByteArray := prog_12_method_38_code
def yX10_readThing : MethodName := ⟨RX10, "readThing", "()Z"⟩
abbrev cX10_readCoastLine : ByteArray := prog_12_method_39_code
def yX10_readCoastLine : MethodName := ⟨RX10, "readCoastLine", "()Z"⟩
abbrev cX10_emits : ByteArray := prog_12_method_40_code
def yX10_emits : MethodName := ⟨RX10, "emits", "(II)V"⟩
abbrev cX10_wordOfPart : ByteArray := prog_12_method_41_code
def yX10_wordOfPart : MethodName := ⟨RX10, "wordOfPart", "()I"⟩
abbrev cX10_readPart : ByteArray := prog_12_method_42_code
def yX10_readPart : MethodName := ⟨RX10, "readPart", "()Z"⟩
abbrev cX10_readSum : ByteArray := prog_12_method_43_code
def yX10_readSum : MethodName := ⟨RX10, "readSum", "()Z"⟩
abbrev cX10_readTag : ByteArray := prog_12_method_44_code
def yX10_readTag : MethodName := ⟨RX10, "readTag", "()Z"⟩
abbrev cX10_readAtom : ByteArray := prog_12_method_45_code
def yX10_readAtom : MethodName := ⟨RX10, "readAtom", "()Z"⟩
abbrev cX10_readAllOf : ByteArray := prog_12_method_46_code
def yX10_readAllOf : MethodName := ⟨RX10, "readAllOf", "()Z"⟩
abbrev cX10_readCond : ByteArray := prog_12_method_47_code
def yX10_readCond : MethodName := ⟨RX10, "readCond", "()Z"⟩
abbrev cX10_readLawLine : ByteArray := prog_12_method_48_code
def yX10_readLawLine : MethodName := ⟨RX10, "readLawLine", "(I)Z"⟩
abbrev cX10_readLine : ByteArray := prog_12_method_49_code
def yX10_readLine : MethodName := ⟨RX10, "readLine", "(ZI)Z"⟩
abbrev cX10_readAll : ByteArray := prog_12_method_50_code
def yX10_readAll : MethodName := ⟨RX10, "readAll", "(Z)I"⟩
abbrev cX10_coast : ByteArray := prog_12_method_51_code
def yX10_coast : MethodName := ⟨RX10, "coast", "()I"⟩
abbrev cX10_law : ByteArray := prog_12_method_52_code
def yX10_law : MethodName := ⟨RX10, "law", "()I"⟩
abbrev cX10_factOf : ByteArray := prog_12_method_53_code
def yX10_factOf : MethodName := ⟨RX10, "factOf", "(IIIII)I"⟩
abbrev cX10_holdsLine : ByteArray := prog_12_method_54_code
def yX10_holdsLine : MethodName := ⟨RX10, "holdsLine", "(IIII)Z"⟩
abbrev cX10_sumOf : ByteArray := prog_12_method_55_code
def yX10_sumOf : MethodName := ⟨RX10, "sumOf", "(IIII)I"⟩
abbrev cX10_flowsBy : ByteArray := prog_12_method_56_code
def yX10_flowsBy : MethodName := ⟨RX10, "flowsBy", "(III)I"⟩
abbrev cX10_wearsBy : ByteArray := prog_12_method_57_code
def yX10_wearsBy : MethodName := ⟨RX10, "wearsBy", "(II)I"⟩
abbrev cX10_sticksTo : ByteArray := prog_12_method_58_code
def yX10_sticksTo : MethodName := ⟨RX10, "sticksTo", "(II)Z"⟩
abbrev cX10_moreOf : ByteArray := prog_12_method_59_code
def yX10_moreOf : MethodName := ⟨RX10, "moreOf", "(III)I"⟩
abbrev cX10_gainOf : ByteArray := prog_12_method_60_code
def yX10_gainOf : MethodName := ⟨RX10, "gainOf", "(II)I"⟩
abbrev cX10_luckOf : ByteArray := prog_12_method_61_code
def yX10_luckOf : MethodName := ⟨RX10, "luckOf", "(I)I"⟩
abbrev cX10_luckIn : ByteArray := prog_12_method_62_code
def yX10_luckIn : MethodName := ⟨RX10, "luckIn", "(I)I"⟩
abbrev cX10_worthOf : ByteArray := prog_12_method_63_code
def yX10_worthOf : MethodName := ⟨RX10, "worthOf", "(I)I"⟩
abbrev cX10_thingsBy : ByteArray := prog_12_method_64_code
def yX10_thingsBy : MethodName := ⟨RX10, "thingsBy", "(II)I"⟩
abbrev cX10_woman : ByteArray := prog_12_method_65_code
def yX10_woman : MethodName := ⟨RX10, "woman", "(II)I"⟩
abbrev cX10_thing : ByteArray := prog_12_method_66_code
def yX10_thing : MethodName := ⟨RX10, "thing", "(II)I"⟩
abbrev cX10_gain : ByteArray := prog_12_method_67_code
def yX10_gain : MethodName := ⟨RX10, "gain", "(II)I"⟩
abbrev cX10_flows : ByteArray := prog_12_method_68_code
def yX10_flows : MethodName := ⟨RX10, "flows", "(III)I"⟩
abbrev cX10_weds : ByteArray := prog_12_method_69_code
def yX10_weds : MethodName := ⟨RX10, "weds", "(II)I"⟩
abbrev cX10_tells : ByteArray := prog_12_method_70_code
def yX10_tells : MethodName := ⟨RX10, "tells", "(III)V"⟩
abbrev cX10_isStuckElsewhere : ByteArray := prog_12_method_71_code
def yX10_isStuckElsewhere : MethodName := ⟨RX10, "isStuckElsewhere", "(II)Z"⟩
abbrev cX10_comesTo : ByteArray := prog_12_method_72_code
def yX10_comesTo : MethodName := ⟨RX10, "comesTo", "(II)Z"⟩
abbrev cX10_oneDay : ByteArray := prog_12_method_73_code
def yX10_oneDay : MethodName := ⟨RX10, "oneDay", "()I"⟩
abbrev cX10_goesOn : ByteArray := prog_12_method_74_code
def yX10_goesOn : MethodName := ⟨RX10, "goesOn", "(I)I"⟩
abbrev cX10_mayNot : ByteArray := prog_12_method_75_code
def yX10_mayNot : MethodName := ⟨RX10, "mayNot", "(II)Z"⟩
abbrev cX10_lend : ByteArray := prog_12_method_76_code
def yX10_lend : MethodName := ⟨RX10, "lend", "(II)I"⟩
abbrev cX10_wed : ByteArray := prog_12_method_77_code
def yX10_wed : MethodName := ⟨RX10, "wed", "(II)I"⟩
abbrev cX10_pawn : ByteArray := prog_12_method_78_code
def yX10_pawn : MethodName := ⟨RX10, "pawn", "(I)I"⟩
abbrev cX10_redeem : ByteArray := prog_12_method_79_code
def yX10_redeem : MethodName := ⟨RX10, "redeem", "(I)I"⟩
abbrev cX10_cut : ByteArray := prog_12_method_80_code
def yX10_cut : MethodName := ⟨RX10, "cut", "(I)I"⟩
abbrev cX10_widow : ByteArray := prog_12_method_81_code
def yX10_widow : MethodName := ⟨RX10, "widow", "(IZ)Z"⟩
abbrev cX10_days : ByteArray := prog_12_method_82_code
def yX10_days : MethodName := ⟨RX10, "days", "(I)I"⟩
abbrev cX10_keepsAll : ByteArray := prog_12_method_83_code
def yX10_keepsAll : MethodName := ⟨RX10, "keepsAll", "()V"⟩
abbrev cX10_bringsBack : ByteArray := prog_12_method_84_code
def yX10_bringsBack : MethodName := ⟨RX10, "bringsBack", "()V"⟩
abbrev cX10_mayHave : ByteArray := prog_12_method_85_code
def yX10_mayHave : MethodName := ⟨RX10, "mayHave", "(II)Z"⟩
abbrev cX10_best : ByteArray := prog_12_method_86_code
def yX10_best : MethodName := ⟨RX10, "best", "(I)I"⟩
abbrev cX10_ordersOf : ByteArray := prog_12_method_87_code
def yX10_ordersOf : MethodName := ⟨RX10, "ordersOf", "(I)I"⟩
abbrev cX10_allWomen : ByteArray := prog_12_method_88_code
def yX10_allWomen : MethodName := ⟨RX10, "allWomen", "()I"⟩
abbrev cX10_laysRow : ByteArray := prog_12_method_89_code
def yX10_laysRow : MethodName := ⟨RX10, "laysRow", "(II)V"⟩
abbrev cX10_bringsTo : ByteArray := prog_12_method_90_code
def yX10_bringsTo : MethodName := ⟨RX10, "bringsTo", "(II)I"⟩
abbrev cX10_order : ByteArray := prog_12_method_91_code
def yX10_order : MethodName := ⟨RX10, "order", "(III)I"⟩
abbrev cX10_lowest : ByteArray := prog_12_method_92_code
def yX10_lowest : MethodName := ⟨RX10, "lowest", "(II)I"⟩
abbrev cX10_reach : ByteArray := prog_12_method_93_code
def yX10_reach : MethodName := ⟨RX10, "reach", "(IIII)I"⟩
abbrev cX10_turns : ByteArray := prog_12_method_94_code
def yX10_turns : MethodName := ⟨RX10, "turns", "(III)V"⟩
abbrev cX10_runs : ByteArray := prog_12_method_95_code
def yX10_runs : MethodName := ⟨RX10, "runs", "(II)I"⟩
abbrev cX10_spent : ByteArray := prog_12_method_96_code
def yX10_spent : MethodName := ⟨RX10, "spent", "(I)I"⟩
abbrev cX10_jobAt : ByteArray := prog_12_method_97_code
def yX10_jobAt : MethodName := ⟨RX10, "jobAt", "(II)I"⟩
abbrev cX10_jobBy : ByteArray := prog_12_method_98_code
def yX10_jobBy : MethodName := ⟨RX10, "jobBy", "(IIII)I"⟩
abbrev cX10_laysJobs : ByteArray := prog_12_method_99_code
def yX10_laysJobs : MethodName := ⟨RX10, "laysJobs", "(I)V"⟩
abbrev cX10_match : ByteArray := prog_12_method_100_code
def yX10_match : MethodName := ⟨RX10, "match", "(II)I"⟩
abbrev cX10_ofLog : ByteArray := prog_12_method_101_code
def yX10_ofLog : MethodName := ⟨RX10, "ofLog", "(II)I"⟩
abbrev cX10_chainOf : ByteArray := prog_12_method_102_code
def yX10_chainOf : MethodName := ⟨RX10, "chainOf", "(I)I"⟩
abbrev cX10_chain : ByteArray := prog_12_method_103_code
def yX10_chain : MethodName := ⟨RX10, "chain", "(I)I"⟩
abbrev cX10_since : ByteArray := prog_12_method_104_code
def yX10_since : MethodName := ⟨RX10, "since", "(II)I"⟩
abbrev cX10_isTold : ByteArray := prog_12_method_105_code
def yX10_isTold : MethodName := ⟨RX10, "isTold", "()Z"⟩
abbrev cX10_allThatFit : ByteArray := prog_12_method_106_code
def yX10_allThatFit : MethodName := ⟨RX10, "allThatFit", "()I"⟩
abbrev cX10_whose : ByteArray := prog_12_method_107_code
def yX10_whose : MethodName := ⟨RX10, "whose", "()I"⟩
abbrev cX10_next : ByteArray := prog_12_method_108_code
def yX10_next : MethodName := ⟨RX10, "next", "()I"⟩
abbrev cX10_widowHas : ByteArray := prog_12_method_109_code
def yX10_widowHas : MethodName := ⟨RX10, "widowHas", "(III)I"⟩
abbrev cX10_brideHas : ByteArray := prog_12_method_110_code
def yX10_brideHas : MethodName := ⟨RX10, "brideHas", "(IIII)I"⟩
abbrev cX10_rests : ByteArray := prog_12_method_111_code
def yX10_rests : MethodName := ⟨RX10, "rests", "(III)I"⟩
abbrev cX10_noPrice : ByteArray := prog_12_method_112_code
def yX10_noPrice : MethodName := ⟨RX10, "noPrice", "(I)Z"⟩
abbrev cX10_soldBy : ByteArray := prog_12_method_113_code
def yX10_soldBy : MethodName := ⟨RX10, "soldBy", "(I)I"⟩
abbrev cX10_sells : ByteArray := prog_12_method_114_code
def yX10_sells : MethodName := ⟨RX10, "sells", "(I)I"⟩
abbrev cX10_dearest : ByteArray := prog_12_method_115_code
def yX10_dearest : MethodName := ⟨RX10, "dearest", "()I"⟩
abbrev cX10_unlucky : ByteArray := prog_12_method_116_code
def yX10_unlucky : MethodName := ⟨RX10, "unlucky", "()I"⟩
abbrev cX10_luckiest : ByteArray := prog_12_method_117_code
def yX10_luckiest : MethodName := ⟨RX10, "luckiest", "(I)I"⟩
abbrev cX10_borrowerOf : ByteArray := prog_12_method_118_code
def yX10_borrowerOf : MethodName := ⟨RX10, "borrowerOf", "(I)I"⟩
abbrev cX10_ring : ByteArray := prog_12_method_119_code
def yX10_ring : MethodName := ⟨RX10, "ring", "(I)Z"⟩
abbrev cX10_oldest : ByteArray := prog_12_method_120_code
def yX10_oldest : MethodName := ⟨RX10, "oldest", "()I"⟩
abbrev cX10_stuck : ByteArray := prog_12_method_121_code
def yX10_stuck : MethodName := ⟨RX10, "stuck", "()I"⟩
abbrev cX10_pawned : ByteArray := prog_12_method_122_code
def yX10_pawned : MethodName := ⟨RX10, "pawned", "()I"⟩
abbrev cX10_blue : ByteArray := prog_12_method_123_code
def yX10_blue : MethodName := ⟨RX10, "blue", "()I"⟩
abbrev cX10_likens : ByteArray := prog_12_method_124_code
def yX10_likens : MethodName := ⟨RX10, "likens", "(II)Z"⟩
abbrev cX10_alike : ByteArray := prog_12_method_125_code
def yX10_alike : MethodName := ⟨RX10, "alike", "()I"⟩
abbrev cX10_share : ByteArray := prog_12_method_126_code
def yX10_share : MethodName := ⟨RX10, "share", "(II)I"⟩
abbrev cX10_odds : ByteArray := prog_12_method_127_code
def yX10_odds : MethodName := ⟨RX10, "odds", "()I"⟩
abbrev cX10_luckOfAll : ByteArray := prog_12_method_128_code
def yX10_luckOfAll : MethodName := ⟨RX10, "luckOfAll", "()I"⟩
abbrev cX10_trial : ByteArray := prog_12_method_129_code
def yX10_trial : MethodName := ⟨RX10, "trial", "(IZ)I"⟩
abbrev cX10_span : ByteArray := prog_12_method_130_code
def yX10_span : MethodName := ⟨RX10, "span", "(IZ)I"⟩
abbrev cX10_led : ByteArray := prog_12_method_131_code
def yX10_led : MethodName := ⟨RX10, "led", "(IZ)I"⟩
abbrev cX10_log : ByteArray := prog_12_method_132_code
def yX10_log : MethodName := ⟨RX10, "log", "(II)I"⟩
abbrev cX10_seed : ByteArray := prog_12_method_133_code
def yX10_seed : MethodName := ⟨RX10, "seed", "(I)I"⟩
abbrev cX10_count : ByteArray := prog_12_method_134_code
def yX10_count : MethodName := ⟨RX10, "count", "(I)I"⟩
def RJx145de : String := "java/io/Serializable"
def TJx145de : u_T := fun k => match k with
  | _ => ("", "", "", false)
def tyJx145de : Nat → FieldType := fun k => match k with
  | _ => .int
abbrev wsJx145de0 : List Cond := u_ws RJx145de TJx145de 0
theorem nmJx145de : ∀ a, a < 0 → ∀ b, b < 0 → a ≠ b → (TJx145de a).2.1 ≠ (TJx145de b).2.1 := by decide +kernel
theorem tyJx145de_ok : ∀ k, k < 0 → parseFieldDescriptor (TJx145de k).2.2.1 = some (tyJx145de k) := by decide +kernel
def RJx9f9b0 : String := "java/lang/CharSequence"
def TJx9f9b0 : u_T := fun k => match k with
  | _ => ("", "", "", false)
def tyJx9f9b0 : Nat → FieldType := fun k => match k with
  | _ => .int
abbrev wsJx9f9b00 : List Cond := u_ws RJx9f9b0 TJx9f9b0 0
theorem nmJx9f9b0 : ∀ a, a < 0 → ∀ b, b < 0 → a ≠ b → (TJx9f9b0 a).2.1 ≠ (TJx9f9b0 b).2.1 := by decide +kernel
theorem tyJx9f9b0_ok : ∀ k, k < 0 → parseFieldDescriptor (TJx9f9b0 k).2.2.1 = some (tyJx9f9b0 k) := by decide +kernel
def RJxb160c : String := "java/lang/Comparable"
def TJxb160c : u_T := fun k => match k with
  | _ => ("", "", "", false)
def tyJxb160c : Nat → FieldType := fun k => match k with
  | _ => .int
abbrev wsJxb160c0 : List Cond := u_ws RJxb160c TJxb160c 0
theorem nmJxb160c : ∀ a, a < 0 → ∀ b, b < 0 → a ≠ b → (TJxb160c a).2.1 ≠ (TJxb160c b).2.1 := by decide +kernel
theorem tyJxb160c_ok : ∀ k, k < 0 → parseFieldDescriptor (TJxb160c k).2.2.1 = some (tyJxb160c k) := by decide +kernel
def RJ6 : String := "java/lang/Integer"
def TJ6 : u_T := fun k => match k with
  | _ => ("", "", "", false)
def tyJ6 : Nat → FieldType := fun k => match k with
  | _ => .int
abbrev wsJ60 : List Cond := u_ws RJ6 TJ6 0
theorem nmJ6 : ∀ a, a < 0 → ∀ b, b < 0 → a ≠ b → (TJ6 a).2.1 ≠ (TJ6 b).2.1 := by decide +kernel
theorem tyJ6_ok : ∀ k, k < 0 → parseFieldDescriptor (TJ6 k).2.2.1 = some (tyJ6 k) := by decide +kernel
abbrev cJ6_bitCount_0f7a4 : ByteArray := prog_20_method_49_code
def yJ6_bitCount_0f7a4 : MethodName := ⟨RJ6, "bitCount", "(I)I"⟩
def RJ9 : String := "java/lang/Math"
def TJ9 : u_T := fun k => match k with
  | _ => ("", "", "", false)
def tyJ9 : Nat → FieldType := fun k => match k with
  | _ => .int
abbrev wsJ90 : List Cond := u_ws RJ9 TJ9 0
theorem nmJ9 : ∀ a, a < 0 → ∀ b, b < 0 → a ≠ b → (TJ9 a).2.1 ≠ (TJ9 b).2.1 := by decide +kernel
theorem tyJ9_ok : ∀ k, k < 0 → parseFieldDescriptor (TJ9 k).2.2.1 = some (tyJ9 k) := by decide +kernel
abbrev cJ9_floorDiv_7cf53 : ByteArray := prog_21_method_47_code
def yJ9_floorDiv_7cf53 : MethodName := ⟨RJ9, "floorDiv", "(II)I"⟩
abbrev cJ9_abs_0f7a4 : ByteArray := prog_21_method_59_code
def yJ9_abs_0f7a4 : MethodName := ⟨RJ9, "abs", "(I)I"⟩
abbrev cJ9_max_7cf53 : ByteArray := prog_21_method_65_code
def yJ9_max_7cf53 : MethodName := ⟨RJ9, "max", "(II)I"⟩
abbrev cJ9_min_7cf53 : ByteArray := prog_21_method_69_code
def yJ9_min_7cf53 : MethodName := ⟨RJ9, "min", "(II)I"⟩
def RJ0 : String := "java/lang/String"
def TJ0 : u_T := fun k => match k with
  | _ => ("", "", "", false)
def tyJ0 : Nat → FieldType := fun k => match k with
  | _ => .int
abbrev wsJ00 : List Cond := u_ws RJ0 TJ0 0
theorem nmJ0 : ∀ a, a < 0 → ∀ b, b < 0 → a ≠ b → (TJ0 a).2.1 ≠ (TJ0 b).2.1 := by decide +kernel
theorem tyJ0_ok : ∀ k, k < 0 → parseFieldDescriptor (TJ0 k).2.2.1 = some (tyJ0 k) := by decide +kernel
abbrev cJ0_length_8abf5 : ByteArray := prog_23_method_54_code
def yJ0_length_8abf5 : MethodName := ⟨RJ0, "length", "()I"⟩
abbrev cJ0_charAt_5068e : ByteArray := prog_23_method_56_code
def yJ0_charAt_5068e : MethodName := ⟨RJ0, "charAt", "(I)C"⟩
abbrev cJ0_coder_7d493 : ByteArray := prog_23_method_152_code
def yJ0_coder_7d493 : MethodName := ⟨RJ0, "coder", "()B"⟩
abbrev cJ0_isLatin1_aae02 : ByteArray := prog_23_method_154_code
def yJ0_isLatin1_aae02 : MethodName := ⟨RJ0, "isLatin1", "()Z"⟩
abbrev cJ0_checkIndex_df160 : ByteArray := prog_23_method_155_code
def yJ0_checkIndex_df160 : MethodName := ⟨RJ0, "checkIndex", "(II)V"⟩
def RJ1 : String := "java/lang/StringLatin1"
def TJ1 : u_T := fun k => match k with
  | _ => ("", "", "", false)
def tyJ1 : Nat → FieldType := fun k => match k with
  | _ => .int
abbrev wsJ10 : List Cond := u_ws RJ1 TJ1 0
theorem nmJ1 : ∀ a, a < 0 → ∀ b, b < 0 → a ≠ b → (TJ1 a).2.1 ≠ (TJ1 b).2.1 := by decide +kernel
theorem tyJ1_ok : ∀ k, k < 0 → parseFieldDescriptor (TJ1 k).2.2.1 = some (tyJ1 k) := by decide +kernel
abbrev cJ1_charAt_3b067 : ByteArray := prog_24_method_2_code
def yJ1_charAt_3b067 : MethodName := ⟨RJ1, "charAt", "([BI)C"⟩
def RJ2 : String := "java/lang/StringUTF16"
def TJ2 : u_T := fun k => match k with
  | _ => ("", "", "", false)
def tyJ2 : Nat → FieldType := fun k => match k with
  | _ => .int
abbrev wsJ20 : List Cond := u_ws RJ2 TJ2 0
theorem nmJ2 : ∀ a, a < 0 → ∀ b, b < 0 → a ≠ b → (TJ2 a).2.1 ≠ (TJ2 b).2.1 := by decide +kernel
theorem tyJ2_ok : ∀ k, k < 0 → parseFieldDescriptor (TJ2 k).2.2.1 = some (tyJ2 k) := by decide +kernel
abbrev cJ2_getChar_3b067 : ByteArray := prog_25_method_5_code
def yJ2_getChar_3b067 : MethodName := ⟨RJ2, "getChar", "([BI)C"⟩
abbrev cJ2_length_9d52b : ByteArray := prog_25_method_6_code
def yJ2_length_9d52b : MethodName := ⟨RJ2, "length", "([B)I"⟩
abbrev cJ2_charAt_3b067 : ByteArray := prog_25_method_83_code
def yJ2_charAt_3b067 : MethodName := ⟨RJ2, "charAt", "([BI)C"⟩
abbrev cJ2_checkIndex_2214a : ByteArray := prog_25_method_91_code
def yJ2_checkIndex_2214a : MethodName := ⟨RJ2, "checkIndex", "(I[B)V"⟩
def RJ10 : String := "java/lang/System"
def TJ10 : u_T := fun k => match k with
  | _ => ("", "", "", false)
def tyJ10 : Nat → FieldType := fun k => match k with
  | _ => .int
abbrev wsJ100 : List Cond := u_ws RJ10 TJ10 0
theorem nmJ10 : ∀ a, a < 0 → ∀ b, b < 0 → a ≠ b → (TJ10 a).2.1 ≠ (TJ10 b).2.1 := by decide +kernel
theorem tyJ10_ok : ∀ k, k < 0 → parseFieldDescriptor (TJ10 k).2.2.1 = some (tyJ10 k) := by decide +kernel
def RJxfd54e : String := "java/lang/constant/Constable"
def TJxfd54e : u_T := fun k => match k with
  | _ => ("", "", "", false)
def tyJxfd54e : Nat → FieldType := fun k => match k with
  | _ => .int
abbrev wsJxfd54e0 : List Cond := u_ws RJxfd54e TJxfd54e 0
theorem nmJxfd54e : ∀ a, a < 0 → ∀ b, b < 0 → a ≠ b → (TJxfd54e a).2.1 ≠ (TJxfd54e b).2.1 := by decide +kernel
theorem tyJxfd54e_ok : ∀ k, k < 0 → parseFieldDescriptor (TJxfd54e k).2.2.1 = some (tyJxfd54e k) := by decide +kernel
def RJx3cf43 : String := "java/lang/constant/ConstantDesc"
def TJx3cf43 : u_T := fun k => match k with
  | _ => ("", "", "", false)
def tyJx3cf43 : Nat → FieldType := fun k => match k with
  | _ => .int
abbrev wsJx3cf430 : List Cond := u_ws RJx3cf43 TJx3cf43 0
theorem nmJx3cf43 : ∀ a, a < 0 → ∀ b, b < 0 → a ≠ b → (TJx3cf43 a).2.1 ≠ (TJx3cf43 b).2.1 := by decide +kernel
theorem tyJx3cf43_ok : ∀ k, k < 0 → parseFieldDescriptor (TJx3cf43 k).2.2.1 = some (tyJx3cf43 k) := by decide +kernel
def RJ3 : String := "jdk/internal/util/Preconditions"
def TJ3 : u_T := fun k => match k with
  | _ => ("", "", "", false)
def tyJ3 : Nat → FieldType := fun k => match k with
  | _ => .int
abbrev wsJ30 : List Cond := u_ws RJ3 TJ3 0
theorem nmJ3 : ∀ a, a < 0 → ∀ b, b < 0 → a ≠ b → (TJ3 a).2.1 ≠ (TJ3 b).2.1 := by decide +kernel
theorem tyJ3_ok : ∀ k, k < 0 → parseFieldDescriptor (TJ3 k).2.2.1 = some (tyJ3 k) := by decide +kernel
abbrev cJ3_checkIndex_8e157 : ByteArray := prog_32_method_11_code
def yJ3_checkIndex_8e157 : MethodName := ⟨RJ3, "checkIndex", "(IILjava/util/function/BiFunction;)I"⟩
def RL : String := "BorrowedLuckLaw"
abbrev cL_coast : ByteArray := method_3_code
def yL_coast : MethodName := ⟨RL, "coast", "(LBorrowedLuck;[J)I"⟩
abbrev cL_law : ByteArray := method_4_code
def yL_law : MethodName := ⟨RL, "law", "(LBorrowedLuck;[J)I"⟩
abbrev cL_woman : ByteArray := method_5_code
def yL_woman : MethodName := ⟨RL, "woman", "(LBorrowedLuck;II[J)I"⟩
abbrev cL_thing : ByteArray := method_6_code
def yL_thing : MethodName := ⟨RL, "thing", "(LBorrowedLuck;II[J)I"⟩
abbrev cL_gain : ByteArray := method_7_code
def yL_gain : MethodName := ⟨RL, "gain", "(LBorrowedLuck;II[J)I"⟩
abbrev cL_flows : ByteArray := method_8_code
def yL_flows : MethodName := ⟨RL, "flows", "(LBorrowedLuck;III[J)I"⟩
abbrev cL_lend : ByteArray := method_9_code
def yL_lend : MethodName := ⟨RL, "lend", "(LBorrowedLuck;II[J)I"⟩
abbrev cL_wed : ByteArray := method_10_code
def yL_wed : MethodName := ⟨RL, "wed", "(LBorrowedLuck;II[J)I"⟩
abbrev cL_pawn : ByteArray := method_11_code
def yL_pawn : MethodName := ⟨RL, "pawn", "(LBorrowedLuck;I[J)I"⟩
abbrev cL_redeem : ByteArray := method_12_code
def yL_redeem : MethodName := ⟨RL, "redeem", "(LBorrowedLuck;I[J)I"⟩
abbrev cL_cut : ByteArray := method_13_code
def yL_cut : MethodName := ⟨RL, "cut", "(LBorrowedLuck;I[J)I"⟩
abbrev cL_widow : ByteArray := method_14_code
def yL_widow : MethodName := ⟨RL, "widow", "(LBorrowedLuck;IZ[J)I"⟩
abbrev cL_days : ByteArray := method_15_code
def yL_days : MethodName := ⟨RL, "days", "(LBorrowedLuck;I[J)I"⟩
abbrev cL_best : ByteArray := method_16_code
def yL_best : MethodName := ⟨RL, "best", "(LBorrowedLuck;I[J)I"⟩
abbrev cL_order : ByteArray := method_17_code
def yL_order : MethodName := ⟨RL, "order", "(LBorrowedLuck;III[J)I"⟩
abbrev cL_lowest : ByteArray := method_18_code
def yL_lowest : MethodName := ⟨RL, "lowest", "(LBorrowedLuck;II[J)I"⟩
abbrev cL_reach : ByteArray := method_19_code
def yL_reach : MethodName := ⟨RL, "reach", "(LBorrowedLuck;IIII[J)I"⟩
abbrev cL_chain : ByteArray := method_20_code
def yL_chain : MethodName := ⟨RL, "chain", "(LBorrowedLuck;I[J)I"⟩
abbrev cL_since : ByteArray := method_21_code
def yL_since : MethodName := ⟨RL, "since", "(LBorrowedLuck;II[J)I"⟩
abbrev cL_whose : ByteArray := method_22_code
def yL_whose : MethodName := ⟨RL, "whose", "(LBorrowedLuck;[J)I"⟩
abbrev cL_next : ByteArray := method_23_code
def yL_next : MethodName := ⟨RL, "next", "(LBorrowedLuck;[J)I"⟩
abbrev cL_match : ByteArray := method_24_code
def yL_match : MethodName := ⟨RL, "match", "(LBorrowedLuck;II[J)I"⟩
abbrev cL_rests : ByteArray := method_25_code
def yL_rests : MethodName := ⟨RL, "rests", "(LBorrowedLuck;III[J)I"⟩
abbrev cL_sells : ByteArray := method_26_code
def yL_sells : MethodName := ⟨RL, "sells", "(LBorrowedLuck;I[J)I"⟩
abbrev cL_luckiest : ByteArray := method_27_code
def yL_luckiest : MethodName := ⟨RL, "luckiest", "(LBorrowedLuck;I[J)I"⟩
abbrev cL_ring : ByteArray := method_28_code
def yL_ring : MethodName := ⟨RL, "ring", "(LBorrowedLuck;I[J)I"⟩
abbrev cL_runs : ByteArray := method_29_code
def yL_runs : MethodName := ⟨RL, "runs", "(LBorrowedLuck;II[J)I"⟩
abbrev cL_spent : ByteArray := method_30_code
def yL_spent : MethodName := ⟨RL, "spent", "(LBorrowedLuck;I[J)I"⟩
abbrev cL_share : ByteArray := method_31_code
def yL_share : MethodName := ⟨RL, "share", "(LBorrowedLuck;II[J)I"⟩
abbrev cL_trial : ByteArray := method_32_code
def yL_trial : MethodName := ⟨RL, "trial", "(LBorrowedLuck;IZ[J)I"⟩
abbrev cL_span : ByteArray := method_33_code
def yL_span : MethodName := ⟨RL, "span", "(LBorrowedLuck;IZ[J)I"⟩
abbrev cL_led : ByteArray := method_34_code
def yL_led : MethodName := ⟨RL, "led", "(LBorrowedLuck;IZ[J)I"⟩
abbrev cL_log : ByteArray := method_35_code
def yL_log : MethodName := ⟨RL, "log", "(LBorrowedLuck;II[J)I"⟩
abbrev cL_law_ : ByteArray := code
def yL_law_ : MethodName := ⟨RL, "law", "([I)Z"⟩
end
section
abbrev vwCl : List vw_C := [(RX0, TX0, 12), (RX1, TX1, 3), (RX2, TX2, 8), (RX3, TX3, 3), (RX5, TX5, 3), (RX6, TX6, 1), (RX7, TX7, 8), (RX8, TX8, 7), (RX9, TX9, 13), (RX10, TX10, 23)]
def zSR : List (String × Nat × String × Nat) := [("BorrowedLuckModel", 151, "woman", 1000), ("BorrowedLuckModel", 131, "purse", 1001), ("BorrowedLuckModel", 137, "wed", 1002), ("BorrowedLuckModel", 142, "widow", 1003), ("BorrowedLuckModel", 157, "thing", 1004), ("BorrowedLuckModel", 144, "of", 1005), ("BorrowedLuckModel", 145, "worn", 1006), ("BorrowedLuckModel", 147, "with", 1007), ("BorrowedLuckModel", 149, "blue", 1008), ("BorrowedLuckModel", 162, "price", 1009), ("BorrowedLuckModel", 164, "love", 1010), ("BorrowedLuckModel", 166, "day", 1011), ("BorrowedLuckModel", 218, "flow", 1012), ("BorrowedLuckModel", 173, "wear", 1013), ("BorrowedLuckModel", 220, "stick", 1014), ("BorrowedLuckModel", 222, "if", 1015), ("BorrowedLuckModel", 200, "not", 1016), ("BorrowedLuckModel", 192, "own", 1017), ("BorrowedLuckModel", 171, "sort", 1018), ("BorrowedLuckModel", 175, "has", 1019), ("BorrowedLuckModel", 177, "holds", 1020), ("BorrowedLuckModel", 211, "and", 1021), ("BorrowedLuckModel", 216, "or", 1022), ("BorrowedLuck", 105, "the text is wrong", 1023), ("BorrowedLuck", 115, "there are 12 texts", 1024), ("BorrowedLuck", 361, "there is no such woman", 1025), ("BorrowedLuck", 153, "a woman has no such number", 1026), ("BorrowedLuck", 364, "there is no such thing", 1027), ("BorrowedLuck", 165, "a thing has no such number", 1028), ("BorrowedLuck", 366, "there is no such sort", 1029), ("BorrowedLuck", 178, "she holds it", 1030), ("BorrowedLuck", 186, "it may not be lent to her", 1031), ("BorrowedLuck", 196, "she does not hold it", 1032), ("BorrowedLuck", 204, "it cannot be pawned", 1033), ("BorrowedLuck", 217, "it cannot be bought back", 1034), ("BorrowedLuck", 219, "it is not stuck", 1035), ("BorrowedLuck", 224, "they are 1 to 60", 1036), ("BorrowedLuck", 373, "they are more than 5", 1037), ("BorrowedLuck", 250, "x is 1 to 99", 1038), ("BorrowedLuck", 256, "both are one", 1039), ("BorrowedLuck", 276, "the tape does not tell luck", 1040), ("BorrowedLuck", 301, "a price is 0 to 50", 1041), ("BorrowedLuck", 309, "weddings are 0 to 60", 1042), ("BorrowedLuck", 368, "days of a trial are 0 to 60", 1043), ("BorrowedLuck", 336, "a row has no such number", 1044)]
def zsN : Nat := 23
def zsLen : List Nat := [5, 5, 3, 5, 5, 2, 4, 4, 4, 5, 4, 3, 4, 4, 5, 2, 3, 3, 4, 3, 5, 3, 2]
def zsByt : List (List Int32) := [[119, 111, 109, 97, 110], [112, 117, 114, 115, 101], [119, 101, 100], [119, 105, 100, 111, 119], [116, 104, 105, 110, 103], [111, 102], [119, 111, 114, 110], [119, 105, 116, 104], [98, 108, 117, 101], [112, 114, 105, 99, 101], [108, 111, 118, 101], [100, 97, 121], [102, 108, 111, 119], [119, 101, 97, 114], [115, 116, 105, 99, 107], [105, 102], [110, 111, 116], [111, 119, 110], [115, 111, 114, 116], [104, 97, 115], [104, 111, 108, 100, 115], [97, 110, 100], [111, 114]]
def zNl : List (String × Nat × String × String × String × String) := [("BorrowedLuck", 84, "BorrowedLuck$Tape", "length", "I", "BorrowedLuck"), ("BorrowedLuck", 134, "BorrowedLuck$Tape", "at", "I", "BorrowedLuck"), ("BorrowedLuck$LawReader", 55, "BorrowedLuck$Tape", "word", "I", "BorrowedLuck"), ("BorrowedLuck$LawReader", 73, "BorrowedLuck$Tape", "number", "I", "BorrowedLuck"), ("BorrowedLuck$LawReader", 76, "BorrowedLuck$Tape", "first", "I", "BorrowedLuck"), ("BorrowedLuck$CoastReader", 15, "BorrowedLuck$Coast", "women", "I", "BorrowedLuck"), ("BorrowedLuck$Rites", 59, "BorrowedLuck$Coast", "women", "I", "BorrowedLuck"), ("BorrowedLuck", 278, "BorrowedLuck$Coast", "women", "I", "BorrowedLuck"), ("BorrowedLuck$CoastReader", 35, "BorrowedLuck$Coast", "things", "I", "BorrowedLuck"), ("BorrowedLuck$Rites", 66, "BorrowedLuck$Coast", "things", "I", "BorrowedLuck"), ("BorrowedLuck$Search", 79, "BorrowedLuck$Coast", "things", "I", "BorrowedLuck"), ("BorrowedLuck", 230, "BorrowedLuck$Coast", "things", "I", "BorrowedLuck"), ("BorrowedLuck", 110, "BorrowedLuck$Coast", "texts", "I", "BorrowedLuck"), ("BorrowedLuck$CoastReader", 54, "BorrowedLuck$Coast", "today", "I", "BorrowedLuck"), ("BorrowedLuck$Rites", 83, "BorrowedLuck$Coast", "today", "I", "BorrowedLuck"), ("BorrowedLuck", 346, "BorrowedLuck$Coast", "today", "I", "BorrowedLuck"), ("BorrowedLuck$CoastReader", 47, "BorrowedLuck$Coast", "price", "I", "BorrowedLuck"), ("BorrowedLuck", 206, "BorrowedLuck$Coast", "price", "I", "BorrowedLuck"), ("BorrowedLuck$CoastReader", 51, "BorrowedLuck$Coast", "love", "I", "BorrowedLuck"), ("BorrowedLuck$Rites", 80, "BorrowedLuck$Coast", "love", "I", "BorrowedLuck"), ("BorrowedLuck", 349, "BorrowedLuck$Coast", "love", "I", "BorrowedLuck"), ("BorrowedLuck", 327, "BorrowedLuck$Coast", "randomness", "I", "BorrowedLuck"), ("BorrowedLuck", 330, "BorrowedLuck$Coast", "rows", "I", "BorrowedLuck"), ("BorrowedLuck", 131, "BorrowedLuck$Law", "lines", "I", "BorrowedLuck"), ("BorrowedLuck", 125, "BorrowedLuck$Rites", "rule", "LBorrowedLuck$Law;", "BorrowedLuck"), ("BorrowedLuck", 247, "BorrowedLuck$Search", "size", "I", "BorrowedLuck"), ("BorrowedLuck", 358, "BorrowedLuck$Memory", "size", "I", "BorrowedLuck")]
def zNm : List (String × Nat × MethodName × String) := [("BorrowedLuck", 9, ⟨"BorrowedLuck$Tape", "<init>", "()V"⟩, "BorrowedLuck"), ("BorrowedLuck", 18, ⟨"BorrowedLuck$Coast", "<init>", "()V"⟩, "BorrowedLuck"), ("BorrowedLuck", 31, ⟨"BorrowedLuck$Rites", "<init>", "()V"⟩, "BorrowedLuck"), ("BorrowedLuck$Rites", 11, ⟨"BorrowedLuck$Law", "<init>", "()V"⟩, "BorrowedLuck"), ("BorrowedLuck", 38, ⟨"BorrowedLuck$Law", "<init>", "()V"⟩, "BorrowedLuck"), ("BorrowedLuck$Memory", 17, ⟨"BorrowedLuck$Coast", "<init>", "()V"⟩, "BorrowedLuck")]
def zDc : List MethodName := [⟨"BorrowedLuck$LineReader", "readsText", "()Z"⟩, ⟨"BorrowedLuck$LineReader", "readsLine", "()Z"⟩, ⟨"java/lang/RuntimeException", "<init>", "()V"⟩, ⟨"java/lang/RuntimeException", "<init>", "(Ljava/lang/String;)V"⟩, ⟨"java/lang/Exception", "<init>", "()V"⟩, ⟨"java/lang/Exception", "<init>", "(Ljava/lang/String;)V"⟩, ⟨"java/lang/Throwable", "<init>", "()V"⟩, ⟨"java/lang/Throwable", "<init>", "(Ljava/lang/String;)V"⟩]
/-! ===== the small machine: a world of fixed shape, ids in place of addresses ===== -/
abbrev Hi : Type := Nat → Nat → Int32
abbrev Rs : Type := Option Value ⊕ String
abbrev Shp : Type := (Nat × List (Option (Option Nat))) ⊕ (FieldType × Nat × (Nat → Option Nat))
abbrev Gx : Type := Launch × (Nat → ClassId) × (Nat → Nat → Nat) × (Nat → Nat) × (FieldType → ClassId) × (Nat → Nat)
abbrev Ym : Type := MethodName × ByteArray × Nat × Option FieldType
abbrev gL (G : Gx) : Launch := G.1
abbrev gD (G : Gx) : va_G := (G.2.1, G.2.2.1)
abbrev gad (G : Gx) : Nat → Nat := G.2.2.2.1
abbrev gA (G : Gx) : FieldType → ClassId := G.2.2.2.2.1
abbrev gV (G : Gx) : Nat → Nat := G.2.2.2.2.2
def WA : List Cond := lw_tbl.filter goodWord
def zr (ad : Nat → Nat) : Value → Value
  | .ref a => .ref (ad a)
  | v => v
theorem zr_cat (ad : Nat → Nat) (v : Value) : (zr ad v).category = v.category := by cases v <;> rfl
def zfv (ad : Nat → Nat) (x : Int32) : Option (Option Nat) → Value
  | none => .int x
  | some r => va_rf (r.map ad)
def zarr (ad : Nat → Nat) (g : Nat → Int32) (f : Nat → Option Nat) : FieldType → ((Nat → Int32) ⊕ (Nat → Int64) ⊕ (Nat → UInt32) ⊕ (Nat → UInt64) ⊕ (Nat → Option Nat))
  | .object _ => .inr (.inr (.inr (.inr (fun j => (f j).map ad))))
  | .long => .inr (.inl (fun j => (g j).toInt64))
  | _ => .inl g
def zcell (ad : Nat → Nat) (dA : FieldType → ClassId) (g : Nat → Int32) : Shp → va_E
  | .inl q => .inr (q.1, q.2.mapIdx (fun j x => zfv ad (g j) x))
  | .inr q => .inl (dA q.1, q.2.1, zarr ad g q.2.2 q.1)
def zws (Ga : List Shp) (ad : Nat → Nat) (dA : FieldType → ClassId) (I : Hi) : va_W := Ga.mapIdx (fun k sh => (ad k, zcell ad dA (I k) sh))
def zset (I : Hi) (a : Nat) (g : Nat → Int32) : Hi := fun k => if k = a then g else I k
def zup (I : Hi) (a j : Nat) (v : Int32) : Hi := zset I a (upd (I a) j v)
theorem zws_get {Ga : List Shp} {ad : Nat → Nat} {dA : FieldType → ClassId} {I : Hi} {k : Nat} {sh : Shp} (h : Ga[k]? = some sh) : (zws Ga ad dA I)[k]? = some (ad k, zcell ad dA (I k) sh) := by
  simp [zws, h]
theorem zws_len {Ga : List Shp} {ad : Nat → Nat} {dA : FieldType → ClassId} {I : Hi} : (zws Ga ad dA I).length = Ga.length := by simp [zws]
theorem zws_set {Ga : List Shp} {ad : Nat → Nat} {dA : FieldType → ClassId} {I : Hi} {a : Nat} {sh : Shp} (h : Ga[a]? = some sh) (g : Nat → Int32) {e : va_E} (he : e = zcell ad dA g sh) : (zws Ga ad dA I).set a (ad a, e) = zws Ga ad dA (zset I a g) := by
  subst he
  apply List.ext_getElem?
  intro i
  rw [List.getElem?_set]
  by_cases hi : a = i
  · subst hi
    have hlt : a < (zws Ga ad dA I).length := by rw [zws_len]; exact (List.getElem?_eq_some_iff.mp h).1
    rw [if_pos rfl, if_pos hlt, zws_get h]
    simp [zset]
  · rw [if_neg hi]
    simp only [zws, List.getElem?_mapIdx]
    cases Ga[i]? with
    | none => rfl
    | some s2 => simp [zset, show ¬ i = a from fun q => hi q.symm]
theorem zcell_fset {ad : Nat → Nat} {dA : FieldType → ClassId} {g : Nat → Int32} {ci k : Nat} {fl : List (Option (Option Nat))} (hk : fl[k]? = some none) (v : Int32) : (.inr (ci, (fl.mapIdx (fun j x => zfv ad (g j) x)).set k (.int v)) : va_E) = zcell ad dA (upd g k v) (.inl (ci, fl)) := by
  show (_ : va_E) = .inr (ci, fl.mapIdx (fun j x => zfv ad (upd g k v j) x))
  congr 2
  apply List.ext_getElem?
  intro i
  rw [List.getElem?_set]
  by_cases hi : k = i
  · subst hi
    have hlt : k < (fl.mapIdx (fun j x => zfv ad (g j) x)).length := by rw [List.length_mapIdx]; exact (List.getElem?_eq_some_iff.mp hk).1
    rw [if_pos rfl, if_pos hlt, List.getElem?_mapIdx, hk]
    simp [zfv, upd]
  · rw [if_neg hi]
    simp only [List.getElem?_mapIdx]
    cases fl[i]? with
    | none => rfl
    | some s2 => simp [upd, show ¬ i = k from fun q => hi q.symm]
def zA (G : Gx) (Ga : List Shp) (sz : Nat) : Nat → Prop := fun q => (∃ k, k < Ga.length ∧ q = gad G k) ∨ sz ≤ q
theorem zA_D {G : Gx} {Ga : List Shp} {sz : Nat} {I : Hi} {A : Nat → Prop} (h : va_D A (zws Ga (gad G) (gA G) I)) : va_D (zA G Ga sz) (zws Ga (gad G) (gA G) I) := by
  refine ⟨h.1, fun k q hk => Or.inl ⟨k, ?_, ?_⟩⟩
  · have := (List.getElem?_eq_some_iff.mp hk).1
    rwa [zws_len] at this
  · have hlt : k < Ga.length := by
      have := (List.getElem?_eq_some_iff.mp hk).1
      rwa [zws_len] at this
    rw [zws_get (List.getElem?_eq_getElem hlt)] at hk
    cases hk; rfl
theorem zA_D2 {G : Gx} {Ga : List Shp} {I J : Hi} {A : Nat → Prop} (h : va_D A (zws Ga (gad G) (gA G) I)) : va_D A (zws Ga (gad G) (gA G) J) := by
  have key : ∀ (k : Nat) (q : Nat × va_E), (zws Ga (gad G) (gA G) J)[k]? = some q → ∃ q' : Nat × va_E, (zws Ga (gad G) (gA G) I)[k]? = some q' ∧ q'.1 = q.1 := by
    intro k q hk
    have hlt : k < Ga.length := by
      have := (List.getElem?_eq_some_iff.mp hk).1
      rwa [zws_len] at this
    rw [zws_get (List.getElem?_eq_getElem hlt)] at hk
    cases hk
    exact ⟨_, zws_get (List.getElem?_eq_getElem hlt), rfl⟩
  refine ⟨fun i j p q hi hj e => ?_, fun k q hk => ?_⟩
  · obtain ⟨p', hp', e1⟩ := key i p hi
    obtain ⟨q', hq', e2⟩ := key j q hj
    exact h.1 i j p' q' hp' hq' (by rw [e1, e2]; exact e)
  · obtain ⟨q', hq', e2⟩ := key k q hk
    rw [← e2]
    exact h.2 k q' hq'
def ztys (dA : FieldType → ClassId) : List (ClassId × FieldType) := [(dA .int, .int), (dA .byte, .byte), (dA .long, .long), (dA (.object "BorrowedLuck$Coast"), .object "BorrowedLuck$Coast")]
/-- what every frame knows of the tables and of what lies outside the world -/
def zCs : List String := ["java/lang/IllegalArgumentException", "java/lang/UnsupportedOperationException", "java/lang/IndexOutOfBoundsException", "java/util/NoSuchElementException", "java/lang/IllegalStateException"]
def zK (G : Gx) (A : Nat → Prop) (U : State) (H : Heap) : Prop :=
  va_K (gD G) vwCl (ztys (gA G)) U ∧ (∀ r ∈ zNl, va_Nw (.fieldLinkNest r.1 r.2.1 r.2.2.1 r.2.2.2.1 r.2.2.2.2.1 r.2.2.2.2.2) U) ∧ (∀ r ∈ zSR, vk_R r.1 r.2.1 r.2.2.1 (gad G r.2.2.2) U) ∧ vx_Zq Bundle.tN "UNASSIGNED_STACK" Bundle.steD A U H ∧ vx_Zq Bundle.tN "SUPPRESSED_SENTINEL" Bundle.listD A U H ∧ ((∀ E ∈ zCs, va_Nw (.castable E E) U) ∧ (∀ r ∈ zNm, va_Nw (.methodLinkNest r.1 r.2.1 r.2.2.1 r.2.2.2) U) ∧ (∀ x ∈ zDc, va_Nw (.declares x) U) ∧ va_AO "BorrowedLuck$Coast" U) ∧ (gL G).stackTraces = false
theorem zK.blind {G : Gx} {A : Nat → Prop} {U V : State} {H : Heap} (hv : U.vm = V.vm) (h : zK G A U H) : zK G A V H := by
  obtain ⟨h1, h2, h3, h4, h5, ⟨h6, h7, h9, h10⟩, h8⟩ := h
  have hal : U.vm.Alike V.vm := by rw [hv]; exact Vm.Alike.refl _
  exact ⟨va_K.moved hal h1, fun r hr => va_Nw.same rfl hv (h2 r hr), fun r hr => vk_R.same hv.symm (h3 r hr), h4.moved hal, h5.moved hal, ⟨fun r hr => va_Nw.same rfl hv (h6 r hr), fun r hr => va_Nw.same rfl hv (h7 r hr), fun r hr => va_Nw.same rfl hv (h9 r hr), h10.moved hal⟩, h8⟩
theorem zK.on {G : Gx} {A B : Nat → Prop} {s U : State} {H : Heap} {locs : List Loc} (hW : s.WarmedH U.vm) (hS : va_S A s.heap H locs) (hB : ∀ q, B q → A q) (h : zK G A s s.heap) : zK G B U H := by
  obtain ⟨h1, h2, h3, h4, h5, ⟨h6, h7, h9, h10⟩, h8⟩ := h
  exact ⟨va_K.moved hW.alike h1, fun r hr => va_Nw.warmF hW (h2 r hr), fun r hr => vk_R.warm hW (h3 r hr), ((h4.moved hW.alike).kept hS.2.1).narrow hB, ((h5.moved hW.alike).kept hS.2.1).narrow hB, ⟨fun r hr => va_Nw.warmC hW (h6 r hr), fun r hr => va_Nw.warmM hW (h7 r hr), fun r hr => va_Nw.warmD hW (h9 r hr), h10.moved hW.alike⟩, h8⟩
/-- the locals that are known, by their places -/
def zl (ad : Nat → Nat) : Nat → List (Option Value) → List (Nat × Value)
  | _, [] => []
  | i, none :: r => zl ad (i + 1) r
  | i, some v :: r => if v.category = 1 then (i, zr ad v) :: zl ad (i + 1) r else zl ad (i + 1) r
theorem zl_mem {ad : Nat → Nat} {v : Value} (hv : v.category = 1) : ∀ {ls : List (Option Value)} {i k : Nat}, ls[k]? = some (some v) → (i + k, zr ad v) ∈ zl ad i ls := by
  intro ls
  induction ls with
  | nil => intro i k h; simp at h
  | cons x r ih =>
    intro i k h
    cases k with
    | zero =>
      simp at h
      subst h
      simp [zl, hv]
    | succ k =>
      have h2 : r[k]? = some (some v) := by simpa using h
      have h3 := ih (i := i + 1) h2
      rw [show i + 1 + k = i + (k + 1) by omega] at h3
      cases x with
      | none => exact h3
      | some w =>
        simp only [zl]
        split
        · exact List.mem_cons_of_mem _ h3
        · exact h3
theorem zl_inv {ad : Nat → Nat} : ∀ {ls : List (Option Value)} {i : Nat} {q : Nat × Value}, q ∈ zl ad i ls → ∃ k v, q = (i + k, zr ad v) ∧ ls[k]? = some (some v) ∧ v.category = 1 := by
  intro ls
  induction ls with
  | nil => intro i q h; simp [zl] at h
  | cons x r ih =>
    intro i q h
    have key : q ∈ zl ad (i + 1) r → ∃ k v, q = (i + k, zr ad v) ∧ (x :: r)[k]? = some (some v) ∧ v.category = 1 := by
      intro h2
      obtain ⟨k, v, e1, e2, e3⟩ := ih h2
      exact ⟨k + 1, v, by rw [e1]; congr 1; omega, by simpa using e2, e3⟩
    cases x with
    | none => exact key h
    | some w =>
      simp only [zl] at h
      split at h
      · rename_i hw
        rcases List.mem_cons.mp h with h1 | h1
        · exact ⟨0, w, by rw [h1]; rfl, by simp, hw⟩
        · exact key h1
      · exact key h
theorem zl_at {ad : Nat → Nat} {ls : List (Option Value)} {lsA : Array Slot} {nL k : Nat} {v : Value} (h : lv_has lsA nL (zl ad 0 ls)) (hk : ls[k]? = some (some v)) (hv : v.category = 1) : lsA[k]? = some (.val (zr ad v)) := by
  have := h.2.2 _ (zl_mem (ad := ad) (i := 0) hv hk)
  simpa using this
theorem zl_set {ad : Nat → Nat} {ls : List (Option Value)} {lsA : Array Slot} {nL k : Nat} {v : Value} (h : lv_has lsA nL ((k, zr ad v) :: (zl ad 0 ls).filter (fun q => !(q.1 == k) && !(q.1 + 1 == k && q.2.category == 2)))) : lv_has lsA nL (zl ad 0 (ls.set k (some v))) := by
  refine ⟨h.1, h.2.1, fun q hq => h.2.2 q ?_⟩
  obtain ⟨j, w, e1, e2, e3⟩ := zl_inv hq
  rw [List.getElem?_set] at e2
  by_cases hj : k = j
  · subst hj
    rw [if_pos rfl] at e2
    split at e2
    · cases e2
      rw [e1]
      simp
    · cases e2
  · rw [if_neg hj] at e2
    refine List.mem_cons_of_mem _ (List.mem_filter.mpr ⟨?_, ?_⟩)
    · rw [e1]
      exact zl_mem e3 e2
    · rw [e1]
      simp [zr_cat, e3, show ¬ j = k from fun q => hj q.symm]
/-- what a frame stands on -/
def zFr (G : Gx) (Ga : List Shp) (Y : Ym) (d b : Nat) (I : Hi) (p : Program) (R : Room) (s : State) (m : MethodId) (args : Array Value) (meth : Method) (c : Code) (H : Heap) (locs : List Loc) (cells slots tc ts : Nat) : Prop :=
  (p.tables.exec = Jvm.exec ∧ c.code = Y.2.1 ∧ c.maxLocals = Y.2.2.1 ∧ meth.sig.returnType = Y.2.2.2 ∧ meth.locks = false ∧ s.vm.findClass Y.1.cls = some m.cls ∧ (∀ w ∈ WA, w.before args s = true) ∧ zK G (zA G Ga s.heap.size) s s.heap) ∧
  (va_P (gD G) vwCl (zws Ga (gad G) (gA G) I) H ∧ va_D (zA G Ga s.heap.size) (zws Ga (gad G) (gA G) I) ∧ va_S (zA G Ga s.heap.size) s.heap H locs) ∧
  d + 8 ≤ R.frames ∧ 40 * d + 200 ≤ R.locals ∧ cells + b ≤ tc ∧ slots + 6 * b ≤ ts ∧ tc ≤ R.cells ∧ ts ≤ R.slots ∧ meth.name = Y.1.name
abbrev Kx : Type := State → Array Value → List Frame → Code → Nat → Nat → (State → Prop) → Prop
/-- from this frame on the machine comes to its end, as kx says -/
def Rn (G : Gx) (Ga : List Shp) (Y : Ym) (kx : Kx) (d b pc : Nat) (ls : List (Option Value)) (st : List Value) (I : Hi) : Prop :=
  ∀ (p : Program) (e : Env) (R : Room) (s : State) (m : MethodId) (args : Array Value) (below : List Frame) (meth : Method) (c : Code) (H : Heap) (locs : List Loc) (cells slots tc ts : Nat) (Z : State → Prop),
    zFr G Ga Y d b I p R s m args meth c H locs cells slots tc ts → kx s args below c tc ts Z → ∀ lsA : Array Slot, lv_has lsA Y.2.2.1 (zl (gad G) 0 ls) →
    W p (gL G) e R s m args below meth c H locs cells slots Z (F0 m pc lsA (st.map (zr (gad G))))
def zQ (G : Gx) (Ga : List Shp) (Q : Rs → Hi → Prop) (sz : Nat) : Array Value → State → Outcome → State → Prop := fun _ st oc t =>
  (∃ (v : Option Value) (J : Hi), oc = .returned (v.map (zr (gad G))) ∧ Q (.inl v) J ∧ va_P (gD G) vwCl (zws Ga (gad G) (gA G) J) t.heap) ∧ va_F (zA G Ga sz) st t
def zX (G : Gx) (Ga : List Shp) (Q : Rs → Hi → Prop) (sz : Nat) : String → State → State → Prop := fun E st t =>
  (∃ J : Hi, Q (.inr E) J ∧ va_P (gD G) vwCl (zws Ga (gad G) (gA G) J) t.heap) ∧ va_F (zA G Ga sz) st t
/-- a method's end: returned or thrown, Q -/
def kM (G : Gx) (Ga : List Shp) (Q : Rs → Hi → Prop) : Kx := fun s args below c tc ts Z =>
  (∀ x ∈ c.exceptionTable.toList, False) ∧ Z = vx_MQ below (zQ G Ga Q s.heap.size) (zX G Ga Q s.heap.size) args s tc ts (zA G Ga s.heap.size)
def zrm (d b : Nat) : Room := { frames := d + 8, cells := b, slots := 6 * b, locals := 40 * d + 200 }
def zwy (y : Ym) : List Cond := Cond.code y.1 y.2.1 y.2.2.1 y.2.2.2 :: WA
def zPc (G : Gx) (Ga : List Shp) (vs : List Value) (I : Hi) (sz : Nat) : Array Value → State → Prop := fun a U =>
  a = (vs.map (zr (gad G))).toArray ∧ U.heap.size = sz ∧ va_P (gD G) vwCl (zws Ga (gad G) (gA G) I) U.heap ∧ va_D (zA G Ga sz) (zws Ga (gad G) (gA G) I) ∧ zK G (zA G Ga sz) U U.heap
/-- a method's contract: called with vs over I it ends with Q; d calls deep, b things thrown at most -/
def Ct (G : Gx) (Ga : List Shp) (y : Ym) (d b : Nat) (vs : List Value) (I : Hi) (Q : Rs → Hi → Prop) : Prop :=
  ∀ sz : Nat, vx_Met (gL G) y.1 (zwy y) (zrm d b) (zPc G Ga vs I sz) (zQ G Ga Q sz) (zX G Ga Q sz) b (6 * b) (zA G Ga sz)
theorem zPc_blind {G : Gx} {Ga : List Shp} {vs : List Value} {I : Hi} {sz : Nat} : FrameBlind (zPc G Ga vs I sz) := by
  intro a U g mk h
  obtain ⟨h1, h2, h3, h4, h5⟩ := h
  exact ⟨h1, h2, h3, h4, h5.blind rfl⟩
theorem zl_args {ad : Nat → Nat} : ∀ (vs : List Value) (i n : Nat), (∀ v ∈ vs, v.category = 1) → zl ad i (vs.map some ++ List.replicate n none) = lv_args i (vs.map (zr ad)) := by
  intro vs
  induction vs with
  | nil =>
    intro i n _
    have : ∀ (n i : Nat), zl ad i (List.replicate n none) = [] := by
      intro n
      induction n with
      | zero => intro i; rfl
      | succ n ih => intro i; rw [List.replicate_succ]; exact ih (i + 1)
    simpa [lv_args] using this n i
  | cons v r ih =>
    intro i n h
    have hv := h v List.mem_cons_self
    simp only [List.map_cons, List.cons_append, zl, lv_args, zr_cat, hv]
    simp
    exact ih (i + 1) n (fun w hw => h w (List.mem_cons_of_mem _ hw))
theorem lg_sl_len {ad : Nat → Nat} : ∀ (vs : List Value), (∀ v ∈ vs, v.category = 1) → (lg_sl (vs.map (zr ad))).length = vs.length := by
  intro vs
  induction vs with
  | nil => intro _; rfl
  | cons v r ih =>
    intro h
    have hv := h v List.mem_cons_self
    have := ih (fun w hw => h w (List.mem_cons_of_mem _ hw))
    simp [lg_sl, zr_cat, hv] at this ⊢
    exact this
theorem Ct.of {G : Gx} {Ga : List Shp} {y : Ym} {d b : Nat} {vs : List Value} {I : Hi} {Q : Rs → Hi → Prop} {ls : List (Option Value)} (hy : plainName y.1.cls = true) (hc : ∀ v ∈ vs, v.category = 1) (hn : vs.length ≤ y.2.2.1)
    (hl : ls = vs.map some ++ List.replicate (y.2.2.1 - vs.length) none) (k : Rn G Ga y (kM G Ga Q) d b 0 ls [] I) : Ct G Ga y d b vs I Q := by
  intro sz
  refine vx_ofW (cc := y.2.1) (maxL := y.2.2.1) (ret := y.2.2.2) hy rfl ?_
  intro p e s m args below meth c s₁ B hml ht hv
  obtain ⟨rfl, rfl, hP, hD, hK⟩ := hv
  have hts := atoms_spec (ws := zwy y) B.pre
  have hown : s.vm.findClass y.1.cls = some m.cls := findClass_of_methodNamed B.named
  have hl9 := lv_entry (vs.map (zr (gad G))) (n := y.2.2.1) (by rw [lg_sl_len vs hc]; exact hn)
  rw [lg_entry_eq]
  have h9 := k p e (zrm d b) s m _ below meth c s.heap [] 0 0 b (6 * b) _ ⟨⟨B.exec, B.bytes, hml, B.returns, B.notSynchronized, hown, fun w hw => hts w (List.mem_cons_of_mem _ hw), hK⟩, ⟨hP, hD, va_S.rf⟩, Nat.le_refl _, Nat.le_refl _, by omega, by omega, Nat.le_refl _, Nat.le_refl _, (name_of_methodNamed B.named B.method).1⟩ ⟨ht, rfl⟩ _ (by rw [hl, zl_args vs 0 _ hc]; exact hl9)
  exact h9
end
section
section RnRules
variable {G : Gx} {Ga : List Shp} {Y : Ym} {kx : Kx} {d b pc pc' : Nat} {ls : List (Option Value)} {st : List Value} {I : Hi}
theorem Rn.iconst {n : Int} {v : Int32} (hd : decode Y.2.1 pc = .ok (.iconst n, 1)) (hv : Int32.ofInt n = v) (k : Rn G Ga Y kx d b pc' ls (.int v :: st) I) (hp : pc + 1 = pc' := by rfl) : Rn G Ga Y kx d b pc ls (st) I := by
  subst hp
  intro p e R s m args below meth c H locs cells slots tc ts Z F hk lsA hl
  exact lv_iconst F.1.1 F.1.2.1 hd hv (k p e R s m args below meth c H locs cells slots tc ts Z F hk lsA hl)
theorem Rn.bipush {n : Int} {v : Int32} (hd : decode Y.2.1 pc = .ok (.bipush n, 2)) (hv : (Int8.ofInt n).toInt32 = v) (k : Rn G Ga Y kx d b pc' ls (.int v :: st) I) (hp : pc + 2 = pc' := by rfl) : Rn G Ga Y kx d b pc ls (st) I := by
  subst hp
  intro p e R s m args below meth c H locs cells slots tc ts Z F hk lsA hl
  exact lv_bipush F.1.1 F.1.2.1 hd hv (k p e R s m args below meth c H locs cells slots tc ts Z F hk lsA hl)
theorem Rn.sipush {n : Int} {v : Int32} (hd : decode Y.2.1 pc = .ok (.sipush n, 3)) (hv : (Int16.ofInt n).toInt32 = v) (k : Rn G Ga Y kx d b pc' ls (.int v :: st) I) (hp : pc + 3 = pc' := by rfl) : Rn G Ga Y kx d b pc ls (st) I := by
  subst hp
  intro p e R s m args below meth c H locs cells slots tc ts Z F hk lsA hl
  exact lv_sipush F.1.1 F.1.2.1 hd hv (k p e R s m args below meth c H locs cells slots tc ts Z F hk lsA hl)
theorem Rn.aconst_null (hd : decode Y.2.1 pc = .ok (.aconst_null, 1)) (k : Rn G Ga Y kx d b pc' ls (.null :: st) I) (hp : pc + 1 = pc' := by rfl) : Rn G Ga Y kx d b pc ls (st) I := by
  subst hp
  intro p e R s m args below meth c H locs cells slots tc ts Z F hk lsA hl
  exact lv_null F.1.1 F.1.2.1 hd (k p e R s m args below meth c H locs cells slots tc ts Z F hk lsA hl)
theorem Rn.ldc {idx : Nat} {v : Int32} (hd : decode Y.2.1 pc = .ok (.ldc idx, 2)) (hw : Cond.constant Y.1.cls idx v ∈ WA) (k : Rn G Ga Y kx d b pc' ls (.int v :: st) I) (hp : pc + 2 = pc' := by rfl) : Rn G Ga Y kx d b pc ls (st) I := by
  subst hp
  intro p e R s m args below meth c H locs cells slots tc ts Z F hk lsA hl
  exact lv_ldc F.1.1 F.1.2.1 F.1.2.2.2.2.2.1 (F.1.2.2.2.2.2.2.1 _ hw) hd (k p e R s m args below meth c H locs cells slots tc ts Z F hk lsA hl)
theorem Rn.iload_n {q : Fin 4} {i : Nat} {x : Int32} (hd : decode Y.2.1 pc = .ok (.iload_n q, 1)) (hi : (q : Nat) = i) (h : ls[i]? = some (some (.int x))) (k : Rn G Ga Y kx d b pc' ls (.int x :: st) I) (hp : pc + 1 = pc' := by rfl) : Rn G Ga Y kx d b pc ls (st) I := by
  subst hp
  intro p e R s m args below meth c H locs cells slots tc ts Z F hk lsA hl
  exact lv_iload_n F.1.1 F.1.2.1 hd hi (zl_at hl h rfl) (k p e R s m args below meth c H locs cells slots tc ts Z F hk lsA hl)
theorem Rn.iload {i : Nat} {x : Int32} (hd : decode Y.2.1 pc = .ok (.iload i, 2)) (h : ls[i]? = some (some (.int x))) (k : Rn G Ga Y kx d b pc' ls (.int x :: st) I) (hp : pc + 2 = pc' := by rfl) : Rn G Ga Y kx d b pc ls (st) I := by
  subst hp
  intro p e R s m args below meth c H locs cells slots tc ts Z F hk lsA hl
  exact lv_iload F.1.1 F.1.2.1 hd (zl_at hl h rfl) (k p e R s m args below meth c H locs cells slots tc ts Z F hk lsA hl)
theorem Rn.aload_n {q : Fin 4} {i : Nat} {x : Nat} (hd : decode Y.2.1 pc = .ok (.aload_n q, 1)) (hi : (q : Nat) = i) (h : ls[i]? = some (some (.ref x))) (k : Rn G Ga Y kx d b pc' ls (.ref x :: st) I) (hp : pc + 1 = pc' := by rfl) : Rn G Ga Y kx d b pc ls (st) I := by
  subst hp
  intro p e R s m args below meth c H locs cells slots tc ts Z F hk lsA hl
  exact lv_aload_n F.1.1 F.1.2.1 hd hi (zl_at hl h rfl) (k p e R s m args below meth c H locs cells slots tc ts Z F hk lsA hl)
theorem Rn.aload {i : Nat} {x : Nat} (hd : decode Y.2.1 pc = .ok (.aload i, 2)) (h : ls[i]? = some (some (.ref x))) (k : Rn G Ga Y kx d b pc' ls (.ref x :: st) I) (hp : pc + 2 = pc' := by rfl) : Rn G Ga Y kx d b pc ls (st) I := by
  subst hp
  intro p e R s m args below meth c H locs cells slots tc ts Z F hk lsA hl
  exact lv_aload F.1.1 F.1.2.1 hd (zl_at hl h rfl) (k p e R s m args below meth c H locs cells slots tc ts Z F hk lsA hl)
theorem Rn.istore_n {q : Fin 4} {i : Nat} {x : Int32} (hd : decode Y.2.1 pc = .ok (.istore_n q, 1)) (hi : (q : Nat) = i) (hn : i < Y.2.2.1) (k : Rn G Ga Y kx d b pc' (ls.set i (some (.int x))) st I) (hp : pc + 1 = pc' := by rfl) : Rn G Ga Y kx d b pc ls (.int x :: st) I := by
  subst hp
  intro p e R s m args below meth c H locs cells slots tc ts Z F hk lsA hl
  exact lv_istore_n F.1.1 F.1.2.1 hd hi hl hn rfl (fun ls9 h9 => k p e R s m args below meth c H locs cells slots tc ts Z F hk ls9 (zl_set (v := .int x) h9))
theorem Rn.istore {i : Nat} {x : Int32} (hd : decode Y.2.1 pc = .ok (.istore i, 2)) (hn : i < Y.2.2.1) (k : Rn G Ga Y kx d b pc' (ls.set i (some (.int x))) st I) (hp : pc + 2 = pc' := by rfl) : Rn G Ga Y kx d b pc ls (.int x :: st) I := by
  subst hp
  intro p e R s m args below meth c H locs cells slots tc ts Z F hk lsA hl
  exact lv_istore F.1.1 F.1.2.1 hd hl hn rfl (fun ls9 h9 => k p e R s m args below meth c H locs cells slots tc ts Z F hk ls9 (zl_set (v := .int x) h9))
theorem Rn.astore_n {q : Fin 4} {i : Nat} {x : Nat} (hd : decode Y.2.1 pc = .ok (.astore_n q, 1)) (hi : (q : Nat) = i) (hn : i < Y.2.2.1) (k : Rn G Ga Y kx d b pc' (ls.set i (some (.ref x))) st I) (hp : pc + 1 = pc' := by rfl) : Rn G Ga Y kx d b pc ls (.ref x :: st) I := by
  subst hp
  intro p e R s m args below meth c H locs cells slots tc ts Z F hk lsA hl
  exact lv_astore_n F.1.1 F.1.2.1 hd hi hl hn rfl (fun ls9 h9 => k p e R s m args below meth c H locs cells slots tc ts Z F hk ls9 (zl_set (v := .ref x) h9))
theorem Rn.astore {i : Nat} {x : Nat} (hd : decode Y.2.1 pc = .ok (.astore i, 2)) (hn : i < Y.2.2.1) (k : Rn G Ga Y kx d b pc' (ls.set i (some (.ref x))) st I) (hp : pc + 2 = pc' := by rfl) : Rn G Ga Y kx d b pc ls (.ref x :: st) I := by
  subst hp
  intro p e R s m args below meth c H locs cells slots tc ts Z F hk lsA hl
  exact lv_astore F.1.1 F.1.2.1 hd hl hn rfl (fun ls9 h9 => k p e R s m args below meth c H locs cells slots tc ts Z F hk ls9 (zl_set (v := .ref x) h9))
theorem Rn.astore_nN {q : Fin 4} {i : Nat} (hd : decode Y.2.1 pc = .ok (.astore_n q, 1)) (hi : (q : Nat) = i) (hn : i < Y.2.2.1) (k : Rn G Ga Y kx d b pc' (ls.set i (some (.null))) st I) (hp : pc + 1 = pc' := by rfl) : Rn G Ga Y kx d b pc ls (.null :: st) I := by
  subst hp
  intro p e R s m args below meth c H locs cells slots tc ts Z F hk lsA hl
  exact lv_astore_nN F.1.1 F.1.2.1 hd hi hl hn rfl (fun ls9 h9 => k p e R s m args below meth c H locs cells slots tc ts Z F hk ls9 (zl_set (v := .null) h9))
theorem Rn.astoreN {i : Nat} (hd : decode Y.2.1 pc = .ok (.astore i, 2)) (hn : i < Y.2.2.1) (k : Rn G Ga Y kx d b pc' (ls.set i (some (.null))) st I) (hp : pc + 2 = pc' := by rfl) : Rn G Ga Y kx d b pc ls (.null :: st) I := by
  subst hp
  intro p e R s m args below meth c H locs cells slots tc ts Z F hk lsA hl
  exact lv_astoreN F.1.1 F.1.2.1 hd hl hn rfl (fun ls9 h9 => k p e R s m args below meth c H locs cells slots tc ts Z F hk ls9 (zl_set (v := .null) h9))
theorem Rn.aload_nN {q : Fin 4} {i : Nat} (hd : decode Y.2.1 pc = .ok (.aload_n q, 1)) (hi : (q : Nat) = i) (h : ls[i]? = some (some .null)) (k : Rn G Ga Y kx d b pc' ls (.null :: st) I) (hp : pc + 1 = pc' := by rfl) : Rn G Ga Y kx d b pc ls (st) I := by
  subst hp
  intro p e R s m args below meth c H locs cells slots tc ts Z F hk lsA hl
  exact lv_aload_nN F.1.1 F.1.2.1 hd hi (zl_at hl h rfl) (k p e R s m args below meth c H locs cells slots tc ts Z F hk lsA hl)
theorem zl_place {l : List (Nat × Value)} {q : Nat × Value} (h : q ∈ l) : ∃ j : Nat, l[j]? = some q := List.getElem?_of_mem h
theorem Rn.iinc {i : Nat} {n : Int} {x v : Int32} (hd : decode Y.2.1 pc = .ok (.iinc i n, 3)) (h : ls[i]? = some (some (.int x))) (hv : x + Int32.ofInt n = v) (hn : i < Y.2.2.1) (k : Rn G Ga Y kx d b pc' (ls.set i (some (.int v))) st I) (hp : pc + 3 = pc' := by rfl) : Rn G Ga Y kx d b pc ls st I := by
  subst hp
  intro p e R s m args below meth c H locs cells slots tc ts Z F hk lsA hl
  obtain ⟨j, hj⟩ := zl_place (zl_mem (ad := gad G) (i := 0) (v := .int x) rfl h)
  rw [Nat.zero_add] at hj
  exact lv_iinc F.1.1 F.1.2.1 hd hl hj hv hn rfl (fun ls9 h9 => k p e R s m args below meth c H locs cells slots tc ts Z F hk ls9 (zl_set (v := .int v) h9))
theorem Rn.iadd {x y : Int32} (hd : decode Y.2.1 pc = .ok (.iadd, 1)) (k : Rn G Ga Y kx d b pc' ls (.int (x + y) :: st) I) (hp : pc + 1 = pc' := by rfl) : Rn G Ga Y kx d b pc ls (.int y :: .int x :: st) I := by
  subst hp
  intro p e R s m args below meth c H locs cells slots tc ts Z F hk lsA hl
  exact lv_iadd F.1.1 F.1.2.1 hd (k p e R s m args below meth c H locs cells slots tc ts Z F hk lsA hl)
theorem Rn.isub {x y : Int32} (hd : decode Y.2.1 pc = .ok (.isub, 1)) (k : Rn G Ga Y kx d b pc' ls (.int (x - y) :: st) I) (hp : pc + 1 = pc' := by rfl) : Rn G Ga Y kx d b pc ls (.int y :: .int x :: st) I := by
  subst hp
  intro p e R s m args below meth c H locs cells slots tc ts Z F hk lsA hl
  exact lv_isub F.1.1 F.1.2.1 hd (k p e R s m args below meth c H locs cells slots tc ts Z F hk lsA hl)
theorem Rn.imul {x y : Int32} (hd : decode Y.2.1 pc = .ok (.imul, 1)) (k : Rn G Ga Y kx d b pc' ls (.int (x * y) :: st) I) (hp : pc + 1 = pc' := by rfl) : Rn G Ga Y kx d b pc ls (.int y :: .int x :: st) I := by
  subst hp
  intro p e R s m args below meth c H locs cells slots tc ts Z F hk lsA hl
  exact lv_imul F.1.1 F.1.2.1 hd (k p e R s m args below meth c H locs cells slots tc ts Z F hk lsA hl)
theorem Rn.iand {x y : Int32} (hd : decode Y.2.1 pc = .ok (.iand, 1)) (k : Rn G Ga Y kx d b pc' ls (.int (x &&& y) :: st) I) (hp : pc + 1 = pc' := by rfl) : Rn G Ga Y kx d b pc ls (.int y :: .int x :: st) I := by
  subst hp
  intro p e R s m args below meth c H locs cells slots tc ts Z F hk lsA hl
  exact lv_iand F.1.1 F.1.2.1 hd (k p e R s m args below meth c H locs cells slots tc ts Z F hk lsA hl)
theorem Rn.ior {x y : Int32} (hd : decode Y.2.1 pc = .ok (.ior, 1)) (k : Rn G Ga Y kx d b pc' ls (.int (x ||| y) :: st) I) (hp : pc + 1 = pc' := by rfl) : Rn G Ga Y kx d b pc ls (.int y :: .int x :: st) I := by
  subst hp
  intro p e R s m args below meth c H locs cells slots tc ts Z F hk lsA hl
  exact lv_ior F.1.1 F.1.2.1 hd (k p e R s m args below meth c H locs cells slots tc ts Z F hk lsA hl)
theorem Rn.ixor {x y : Int32} (hd : decode Y.2.1 pc = .ok (.ixor, 1)) (k : Rn G Ga Y kx d b pc' ls (.int (x ^^^ y) :: st) I) (hp : pc + 1 = pc' := by rfl) : Rn G Ga Y kx d b pc ls (.int y :: .int x :: st) I := by
  subst hp
  intro p e R s m args below meth c H locs cells slots tc ts Z F hk lsA hl
  exact lv_ixor F.1.1 F.1.2.1 hd (k p e R s m args below meth c H locs cells slots tc ts Z F hk lsA hl)
theorem Rn.ineg {x : Int32} (hd : decode Y.2.1 pc = .ok (.ineg, 1)) (k : Rn G Ga Y kx d b pc' ls (.int (-x) :: st) I) (hp : pc + 1 = pc' := by rfl) : Rn G Ga Y kx d b pc ls (.int x :: st) I := by
  subst hp
  intro p e R s m args below meth c H locs cells slots tc ts Z F hk lsA hl
  exact lv_ineg F.1.1 F.1.2.1 hd (k p e R s m args below meth c H locs cells slots tc ts Z F hk lsA hl)
theorem Rn.idiv {x y : Int32} (hd : decode Y.2.1 pc = .ok (.idiv, 1)) (hne : ¬ y = 0) (k : Rn G Ga Y kx d b pc' ls (.int (x / y) :: st) I) (hp : pc + 1 = pc' := by rfl) : Rn G Ga Y kx d b pc ls (.int y :: .int x :: st) I := by
  subst hp
  intro p e R s m args below meth c H locs cells slots tc ts Z F hk lsA hl
  exact lv_idiv F.1.1 F.1.2.1 hd hne (k p e R s m args below meth c H locs cells slots tc ts Z F hk lsA hl)
theorem Rn.irem {x y : Int32} (hd : decode Y.2.1 pc = .ok (.irem, 1)) (hne : ¬ y = 0) (k : Rn G Ga Y kx d b pc' ls (.int (x - x / y * y) :: st) I) (hp : pc + 1 = pc' := by rfl) : Rn G Ga Y kx d b pc ls (.int y :: .int x :: st) I := by
  subst hp
  intro p e R s m args below meth c H locs cells slots tc ts Z F hk lsA hl
  exact lv_irem F.1.1 F.1.2.1 hd hne (k p e R s m args below meth c H locs cells slots tc ts Z F hk lsA hl)
theorem Rn.ishl {x y : Int32} (hd : decode Y.2.1 pc = .ok (.ishl, 1)) (k : Rn G Ga Y kx d b pc' ls (.int (x <<< (y &&& 31)) :: st) I) (hp : pc + 1 = pc' := by rfl) : Rn G Ga Y kx d b pc ls (.int y :: .int x :: st) I := by
  subst hp
  intro p e R s m args below meth c H locs cells slots tc ts Z F hk lsA hl
  exact lv_ishl F.1.1 F.1.2.1 hd (k p e R s m args below meth c H locs cells slots tc ts Z F hk lsA hl)
theorem Rn.ishr {x y : Int32} (hd : decode Y.2.1 pc = .ok (.ishr, 1)) (k : Rn G Ga Y kx d b pc' ls (.int (x >>> (y &&& 31)) :: st) I) (hp : pc + 1 = pc' := by rfl) : Rn G Ga Y kx d b pc ls (.int y :: .int x :: st) I := by
  subst hp
  intro p e R s m args below meth c H locs cells slots tc ts Z F hk lsA hl
  exact lv_ishr F.1.1 F.1.2.1 hd (k p e R s m args below meth c H locs cells slots tc ts Z F hk lsA hl)
theorem Rn.iushr {x y : Int32} (hd : decode Y.2.1 pc = .ok (.iushr, 1)) (k : Rn G Ga Y kx d b pc' ls (.int (x.toUInt32 >>> (y.toUInt32 &&& Int32.toUInt32 31)).toInt32 :: st) I) (hp : pc + 1 = pc' := by rfl) : Rn G Ga Y kx d b pc ls (.int y :: .int x :: st) I := by
  subst hp
  intro p e R s m args below meth c H locs cells slots tc ts Z F hk lsA hl
  exact lv_iushr F.1.1 F.1.2.1 hd rfl (k p e R s m args below meth c H locs cells slots tc ts Z F hk lsA hl)
theorem Rn.i2b {x : Int32} (hd : decode Y.2.1 pc = .ok (.i2b, 1)) (k : Rn G Ga Y kx d b pc' ls (.int x.toInt8.toInt32 :: st) I) (hp : pc + 1 = pc' := by rfl) : Rn G Ga Y kx d b pc ls (.int x :: st) I := by
  subst hp
  intro p e R s m args below meth c H locs cells slots tc ts Z F hk lsA hl
  exact lv_i2b F.1.1 F.1.2.1 hd rfl (k p e R s m args below meth c H locs cells slots tc ts Z F hk lsA hl)
theorem Rn.i2l {x : Int32} (hd : decode Y.2.1 pc = .ok (.i2l, 1)) (k : Rn G Ga Y kx d b pc' ls (.long x.toInt64 :: st) I) (hp : pc + 1 = pc' := by rfl) : Rn G Ga Y kx d b pc ls (.int x :: st) I := by
  subst hp
  intro p e R s m args below meth c H locs cells slots tc ts Z F hk lsA hl
  exact lv_i2l F.1.1 F.1.2.1 hd rfl (k p e R s m args below meth c H locs cells slots tc ts Z F hk lsA hl)
theorem Rn.dup {v : Value} (hd : decode Y.2.1 pc = .ok (.dup, 1)) (hc : v.category = 1) (k : Rn G Ga Y kx d b pc' ls (v :: v :: st) I) (hp : pc + 1 = pc' := by rfl) : Rn G Ga Y kx d b pc ls (v :: st) I := by
  subst hp
  intro p e R s m args below meth c H locs cells slots tc ts Z F hk lsA hl
  exact lv_dup F.1.1 F.1.2.1 hd (by rw [zr_cat]; exact hc) (k p e R s m args below meth c H locs cells slots tc ts Z F hk lsA hl)
theorem Rn.pop {v : Value} (hd : decode Y.2.1 pc = .ok (.pop, 1)) (hc : v.category = 1) (k : Rn G Ga Y kx d b pc' ls (st) I) (hp : pc + 1 = pc' := by rfl) : Rn G Ga Y kx d b pc ls (v :: st) I := by
  subst hp
  intro p e R s m args below meth c H locs cells slots tc ts Z F hk lsA hl
  exact lv_pop F.1.1 F.1.2.1 hd (by rw [zr_cat]; exact hc) (k p e R s m args below meth c H locs cells slots tc ts Z F hk lsA hl)
theorem Rn.dup2 {v w : Value} (hd : decode Y.2.1 pc = .ok (.dup2, 1)) (hc : v.category = 1) (hc2 : w.category = 1) (k : Rn G Ga Y kx d b pc' ls (v :: w :: v :: w :: st) I) (hp : pc + 1 = pc' := by rfl) : Rn G Ga Y kx d b pc ls (v :: w :: st) I := by
  subst hp
  intro p e R s m args below meth c H locs cells slots tc ts Z F hk lsA hl
  exact lv_dup2_11 F.1.1 F.1.2.1 hd (by rw [zr_cat]; exact hc) (by rw [zr_cat]; exact hc2) (k p e R s m args below meth c H locs cells slots tc ts Z F hk lsA hl)
theorem Rn.if_eq {x : Int32} {off : Int} {tgt : Nat} (hd : decode Y.2.1 pc = .ok (.ifCond .eq off, 3)) (ht : (pc : Int) + off = (tgt : Int)) (kt : x = 0 → Rn G Ga Y kx d b tgt ls st I) (kf : ¬ x = 0 → Rn G Ga Y kx d b pc' ls st I) (hp : pc + 3 = pc' := by rfl) : Rn G Ga Y kx d b pc ls (.int x :: st) I := by
  subst hp
  intro p e R s m args below meth c H locs cells slots tc ts Z F hk lsA hl
  exact lv_if_eq F.1.1 F.1.2.1 hd ht (fun q => kt q p e R s m args below meth c H locs cells slots tc ts Z F hk lsA hl) (fun q => kf q p e R s m args below meth c H locs cells slots tc ts Z F hk lsA hl)
theorem Rn.icmp_eq {x y : Int32} {off : Int} {tgt : Nat} (hd : decode Y.2.1 pc = .ok (.if_icmp .eq off, 3)) (ht : (pc : Int) + off = (tgt : Int)) (kt : x = y → Rn G Ga Y kx d b tgt ls st I) (kf : ¬ x = y → Rn G Ga Y kx d b pc' ls st I) (hp : pc + 3 = pc' := by rfl) : Rn G Ga Y kx d b pc ls (.int y :: .int x :: st) I := by
  subst hp
  intro p e R s m args below meth c H locs cells slots tc ts Z F hk lsA hl
  exact lv_icmp_eq F.1.1 F.1.2.1 hd ht (fun q => kt q p e R s m args below meth c H locs cells slots tc ts Z F hk lsA hl) (fun q => kf q p e R s m args below meth c H locs cells slots tc ts Z F hk lsA hl)
theorem Rn.if_ne {x : Int32} {off : Int} {tgt : Nat} (hd : decode Y.2.1 pc = .ok (.ifCond .ne off, 3)) (ht : (pc : Int) + off = (tgt : Int)) (kt : ¬ x = 0 → Rn G Ga Y kx d b tgt ls st I) (kf : x = 0 → Rn G Ga Y kx d b pc' ls st I) (hp : pc + 3 = pc' := by rfl) : Rn G Ga Y kx d b pc ls (.int x :: st) I := by
  subst hp
  intro p e R s m args below meth c H locs cells slots tc ts Z F hk lsA hl
  exact lv_if_ne F.1.1 F.1.2.1 hd ht (fun q => kt q p e R s m args below meth c H locs cells slots tc ts Z F hk lsA hl) (fun q => kf q p e R s m args below meth c H locs cells slots tc ts Z F hk lsA hl)
theorem Rn.icmp_ne {x y : Int32} {off : Int} {tgt : Nat} (hd : decode Y.2.1 pc = .ok (.if_icmp .ne off, 3)) (ht : (pc : Int) + off = (tgt : Int)) (kt : ¬ x = y → Rn G Ga Y kx d b tgt ls st I) (kf : x = y → Rn G Ga Y kx d b pc' ls st I) (hp : pc + 3 = pc' := by rfl) : Rn G Ga Y kx d b pc ls (.int y :: .int x :: st) I := by
  subst hp
  intro p e R s m args below meth c H locs cells slots tc ts Z F hk lsA hl
  exact lv_icmp_ne F.1.1 F.1.2.1 hd ht (fun q => kt q p e R s m args below meth c H locs cells slots tc ts Z F hk lsA hl) (fun q => kf q p e R s m args below meth c H locs cells slots tc ts Z F hk lsA hl)
theorem Rn.if_lt {x : Int32} {off : Int} {tgt : Nat} (hd : decode Y.2.1 pc = .ok (.ifCond .lt off, 3)) (ht : (pc : Int) + off = (tgt : Int)) (kt : x < 0 → Rn G Ga Y kx d b tgt ls st I) (kf : ¬ x < 0 → Rn G Ga Y kx d b pc' ls st I) (hp : pc + 3 = pc' := by rfl) : Rn G Ga Y kx d b pc ls (.int x :: st) I := by
  subst hp
  intro p e R s m args below meth c H locs cells slots tc ts Z F hk lsA hl
  exact lv_if_lt F.1.1 F.1.2.1 hd ht (fun q => kt q p e R s m args below meth c H locs cells slots tc ts Z F hk lsA hl) (fun q => kf q p e R s m args below meth c H locs cells slots tc ts Z F hk lsA hl)
theorem Rn.icmp_lt {x y : Int32} {off : Int} {tgt : Nat} (hd : decode Y.2.1 pc = .ok (.if_icmp .lt off, 3)) (ht : (pc : Int) + off = (tgt : Int)) (kt : x < y → Rn G Ga Y kx d b tgt ls st I) (kf : ¬ x < y → Rn G Ga Y kx d b pc' ls st I) (hp : pc + 3 = pc' := by rfl) : Rn G Ga Y kx d b pc ls (.int y :: .int x :: st) I := by
  subst hp
  intro p e R s m args below meth c H locs cells slots tc ts Z F hk lsA hl
  exact lv_icmp_lt F.1.1 F.1.2.1 hd ht (fun q => kt q p e R s m args below meth c H locs cells slots tc ts Z F hk lsA hl) (fun q => kf q p e R s m args below meth c H locs cells slots tc ts Z F hk lsA hl)
theorem Rn.if_ge {x : Int32} {off : Int} {tgt : Nat} (hd : decode Y.2.1 pc = .ok (.ifCond .ge off, 3)) (ht : (pc : Int) + off = (tgt : Int)) (kt : 0 ≤ x → Rn G Ga Y kx d b tgt ls st I) (kf : ¬ 0 ≤ x → Rn G Ga Y kx d b pc' ls st I) (hp : pc + 3 = pc' := by rfl) : Rn G Ga Y kx d b pc ls (.int x :: st) I := by
  subst hp
  intro p e R s m args below meth c H locs cells slots tc ts Z F hk lsA hl
  exact lv_if_ge F.1.1 F.1.2.1 hd ht (fun q => kt q p e R s m args below meth c H locs cells slots tc ts Z F hk lsA hl) (fun q => kf q p e R s m args below meth c H locs cells slots tc ts Z F hk lsA hl)
theorem Rn.icmp_ge {x y : Int32} {off : Int} {tgt : Nat} (hd : decode Y.2.1 pc = .ok (.if_icmp .ge off, 3)) (ht : (pc : Int) + off = (tgt : Int)) (kt : y ≤ x → Rn G Ga Y kx d b tgt ls st I) (kf : ¬ y ≤ x → Rn G Ga Y kx d b pc' ls st I) (hp : pc + 3 = pc' := by rfl) : Rn G Ga Y kx d b pc ls (.int y :: .int x :: st) I := by
  subst hp
  intro p e R s m args below meth c H locs cells slots tc ts Z F hk lsA hl
  exact lv_icmp_ge F.1.1 F.1.2.1 hd ht (fun q => kt q p e R s m args below meth c H locs cells slots tc ts Z F hk lsA hl) (fun q => kf q p e R s m args below meth c H locs cells slots tc ts Z F hk lsA hl)
theorem Rn.if_gt {x : Int32} {off : Int} {tgt : Nat} (hd : decode Y.2.1 pc = .ok (.ifCond .gt off, 3)) (ht : (pc : Int) + off = (tgt : Int)) (kt : 0 < x → Rn G Ga Y kx d b tgt ls st I) (kf : ¬ 0 < x → Rn G Ga Y kx d b pc' ls st I) (hp : pc + 3 = pc' := by rfl) : Rn G Ga Y kx d b pc ls (.int x :: st) I := by
  subst hp
  intro p e R s m args below meth c H locs cells slots tc ts Z F hk lsA hl
  exact lv_if_gt F.1.1 F.1.2.1 hd ht (fun q => kt q p e R s m args below meth c H locs cells slots tc ts Z F hk lsA hl) (fun q => kf q p e R s m args below meth c H locs cells slots tc ts Z F hk lsA hl)
theorem Rn.icmp_gt {x y : Int32} {off : Int} {tgt : Nat} (hd : decode Y.2.1 pc = .ok (.if_icmp .gt off, 3)) (ht : (pc : Int) + off = (tgt : Int)) (kt : y < x → Rn G Ga Y kx d b tgt ls st I) (kf : ¬ y < x → Rn G Ga Y kx d b pc' ls st I) (hp : pc + 3 = pc' := by rfl) : Rn G Ga Y kx d b pc ls (.int y :: .int x :: st) I := by
  subst hp
  intro p e R s m args below meth c H locs cells slots tc ts Z F hk lsA hl
  exact lv_icmp_gt F.1.1 F.1.2.1 hd ht (fun q => kt q p e R s m args below meth c H locs cells slots tc ts Z F hk lsA hl) (fun q => kf q p e R s m args below meth c H locs cells slots tc ts Z F hk lsA hl)
theorem Rn.if_le {x : Int32} {off : Int} {tgt : Nat} (hd : decode Y.2.1 pc = .ok (.ifCond .le off, 3)) (ht : (pc : Int) + off = (tgt : Int)) (kt : x ≤ 0 → Rn G Ga Y kx d b tgt ls st I) (kf : ¬ x ≤ 0 → Rn G Ga Y kx d b pc' ls st I) (hp : pc + 3 = pc' := by rfl) : Rn G Ga Y kx d b pc ls (.int x :: st) I := by
  subst hp
  intro p e R s m args below meth c H locs cells slots tc ts Z F hk lsA hl
  exact lv_if_le F.1.1 F.1.2.1 hd ht (fun q => kt q p e R s m args below meth c H locs cells slots tc ts Z F hk lsA hl) (fun q => kf q p e R s m args below meth c H locs cells slots tc ts Z F hk lsA hl)
theorem Rn.icmp_le {x y : Int32} {off : Int} {tgt : Nat} (hd : decode Y.2.1 pc = .ok (.if_icmp .le off, 3)) (ht : (pc : Int) + off = (tgt : Int)) (kt : x ≤ y → Rn G Ga Y kx d b tgt ls st I) (kf : ¬ x ≤ y → Rn G Ga Y kx d b pc' ls st I) (hp : pc + 3 = pc' := by rfl) : Rn G Ga Y kx d b pc ls (.int y :: .int x :: st) I := by
  subst hp
  intro p e R s m args below meth c H locs cells slots tc ts Z F hk lsA hl
  exact lv_icmp_le F.1.1 F.1.2.1 hd ht (fun q => kt q p e R s m args below meth c H locs cells slots tc ts Z F hk lsA hl) (fun q => kf q p e R s m args below meth c H locs cells slots tc ts Z F hk lsA hl)
theorem Rn.goto {off : Int} (tgt : Nat) (hd : decode Y.2.1 pc = .ok (.goto off, 3)) (ht : (pc : Int) + off = (tgt : Int)) (k : Rn G Ga Y kx d b tgt ls st I) : Rn G Ga Y kx d b pc ls st I := by
  intro p e R s m args below meth c H locs cells slots tc ts Z F hk lsA hl
  exact lv_goto F.1.1 F.1.2.1 hd ht (k p e R s m args below meth c H locs cells slots tc ts Z F hk lsA hl)
theorem Rn.ifnonnull {a : Nat} {off : Int} (tgt : Nat) (hd : decode Y.2.1 pc = .ok (.ifnonnull off, 3)) (ht : (pc : Int) + off = (tgt : Int)) (k : Rn G Ga Y kx d b tgt ls st I) : Rn G Ga Y kx d b pc ls (.ref a :: st) I := by
  intro p e R s m args below meth c H locs cells slots tc ts Z F hk lsA hl
  exact lv_ifnonnull F.1.1 F.1.2.1 hd ht (k p e R s m args below meth c H locs cells slots tc ts Z F hk lsA hl)
theorem Rn.ifnull {a : Nat} {off : Int} (hd : decode Y.2.1 pc = .ok (.ifnull off, 3)) (k : Rn G Ga Y kx d b pc' ls (st) I) (hp : pc + 3 = pc' := by rfl) : Rn G Ga Y kx d b pc ls (.ref a :: st) I := by
  subst hp
  intro p e R s m args below meth c H locs cells slots tc ts Z F hk lsA hl
  exact lv_ifnull F.1.1 F.1.2.1 hd (k p e R s m args below meth c H locs cells slots tc ts Z F hk lsA hl)
theorem Rn.stk (st' : List Value) (h : st = st') (k : Rn G Ga Y kx d b pc ls st' I) : Rn G Ga Y kx d b pc ls st I := h ▸ k
theorem Rn.hpp (J : Hi) (h : I = J) (k : Rn G Ga Y kx d b pc ls st J) : Rn G Ga Y kx d b pc ls st I := h ▸ k
theorem Rn.lcl (ls' : List (Option Value)) (h : ls = ls') (k : Rn G Ga Y kx d b pc ls' st I) : Rn G Ga Y kx d b pc ls st I := h ▸ k
theorem Rn.tableOut {dflt lo hi : Int} {offs : Array Int} {len : Nat} {x : Int32} (tgt : Nat) (hd : decode Y.2.1 pc = .ok (.tableswitch dflt lo hi offs, len)) (h : x.toInt < lo ∨ hi < x.toInt) (ht : (pc : Int) + dflt = (tgt : Int)) (k : Rn G Ga Y kx d b tgt ls st I) : Rn G Ga Y kx d b pc ls (.int x :: st) I := by
  intro p e R s m args below meth c H locs cells slots tc ts Z F hk lsA hl
  exact lv_tableOut F.1.1 F.1.2.1 hd h ht (k p e R s m args below meth c H locs cells slots tc ts Z F hk lsA hl)
theorem Rn.tableIn {dflt lo hi : Int} {offs : Array Int} {len : Nat} {x : Int32} {off : Int} (tgt : Nat) (hd : decode Y.2.1 pc = .ok (.tableswitch dflt lo hi offs, len)) (h1 : ¬ x.toInt < lo) (h2 : ¬ hi < x.toInt) (ho : offs[(x.toInt - lo).toNat]? = some off) (ht : (pc : Int) + off = (tgt : Int)) (k : Rn G Ga Y kx d b tgt ls st I) : Rn G Ga Y kx d b pc ls (.int x :: st) I := by
  intro p e R s m args below meth c H locs cells slots tc ts Z F hk lsA hl
  exact lv_tableIn F.1.1 F.1.2.1 hd h1 h2 ho ht (k p e R s m args below meth c H locs cells slots tc ts Z F hk lsA hl)
theorem Rn.lookup {dflt : Int} {ps : Array (Int × Int)} {len : Nat} {x : Int32} {off : Int} (tgt : Nat) (hd : decode Y.2.1 pc = .ok (.lookupswitch dflt ps, len)) (hs : (ps.toList.zip (ps.toList.drop 1)).all (fun (a, next) => a.1 < next.1) = true) (ho : Op.lookupswitch.offset ps.toList dflt x.toInt = off) (ht : (pc : Int) + off = (tgt : Int)) (k : Rn G Ga Y kx d b tgt ls st I) : Rn G Ga Y kx d b pc ls (.int x :: st) I := by
  intro p e R s m args below meth c H locs cells slots tc ts Z F hk lsA hl
  exact lv_lookup F.1.1 F.1.2.1 hd hs ho ht (k p e R s m args below meth c H locs cells slots tc ts Z F hk lsA hl)
/-! fields, arrays, calls, ends -/
/-- the field of own's pool entry idx is field k of class ci -/
def zFd (own : String) (idx ci k : Nat) : Prop := ∃ (C : String) (T : u_T) (N : Nat) (ref : String), vwCl[ci]? = some (C, T, N) ∧ k < N ∧ (∀ w ∈ u_ws C T N, w ∈ WA) ∧ (ref = (T k).1 ∨ Cond.sameField ref (T k).1 (T k).2.1 (T k).2.2.1 ∈ WA) ∧
  (Cond.fieldLink own idx ref (T k).2.1 (T k).2.2.1 ∈ WA ∨ ∃ host, (own, idx, ref, (T k).2.1, (T k).2.2.1, host) ∈ zNl)
/-- .. and may be written: an int, or a boolean -/
def zFp (own : String) (idx ci k : Nat) (ty : FieldType) : Prop := ∃ (C : String) (T : u_T) (N : Nat) (ref : String) (ty0 : Nat → FieldType), vwCl[ci]? = some (C, T, N) ∧ k < N ∧ (∀ w ∈ u_ws C T N, w ∈ WA) ∧ (ref = (T k).1 ∨ Cond.sameField ref (T k).1 (T k).2.1 (T k).2.2.1 ∈ WA) ∧
  (Cond.fieldLink own idx ref (T k).2.1 (T k).2.2.1 ∈ WA ∨ ∃ host, (own, idx, ref, (T k).2.1, (T k).2.2.1, host) ∈ zNl) ∧ (∀ k, k < N → parseFieldDescriptor (T k).2.2.1 = some (ty0 k)) ∧ (∀ a, a < N → ∀ b, b < N → a ≠ b → (T a).2.1 ≠ (T b).2.1) ∧ (T k).2.2.2 = false ∧ parseFieldDescriptor (T k).2.2.1 = some ty
theorem zsame {ref : String} {q : String × String × String × Bool} {s : State} {args : Array Value} (hts : ∀ w ∈ WA, w.before args s = true) (h : ref = q.1 ∨ Cond.sameField ref q.1 q.2.1 q.2.2.1 ∈ WA) : ∀ x, s.fieldFound? q.1 q.2.1 q.2.2.1 = some x → s.fieldFound? ref q.2.1 q.2.2.1 = some x := by
  intro x hx
  rcases h with h | h
  · rw [h]; exact hx
  · exact u_same (hts _ h) x hx
theorem Rn.get {idx ci j a : Nat} {fl : List (Option (Option Nat))} {x : Option (Option Nat)} {w : Value} (hd : decode Y.2.1 pc = .ok (.getfield idx, 3)) (hF : zFd Y.1.cls idx ci j) (hG : Ga[a]? = some (.inl (ci, fl))) (hj : fl[j]? = some x)
    (hw : zfv (gad G) (I a j) x = zr (gad G) w) (k : Rn G Ga Y kx d b pc' ls (w :: st) I) (hp : pc + 3 = pc' := by rfl) : Rn G Ga Y kx d b pc ls (.ref a :: st) I := by
  subst hp
  obtain ⟨C, T, N, ref, h1, h2, h3, h4, h5⟩ := hF
  intro p e R s m args below meth c H locs cells slots tc ts Z F hk lsA hl
  have hv : ((fl.mapIdx (fun q y => zfv (gad G) (I a q) y)) : List Value)[j]? = some (zr (gad G) w) := by
    rw [List.getElem?_mapIdx, hj]
    simp [hw]
  have kk := k p e R s m args below meth c H locs cells slots tc ts Z F hk lsA hl
  rcases h5 with h5 | ⟨host, h5⟩
  · exact va_get F.1.1 F.1.2.1 F.1.2.2.2.2.2.2.1 h3 F.1.2.2.2.2.2.1 F.1.2.2.2.2.2.2.2.1 F.2.1.1 a (zws_get hG) h1 j h2 (F.1.2.2.2.2.2.2.1 _ h5) (zsame F.1.2.2.2.2.2.2.1 h4) hv hd kk
  · exact va_getN F.1.1 F.1.2.1 F.1.2.2.2.2.2.2.1 h3 F.1.2.2.2.2.2.1 F.1.2.2.2.2.2.2.2.1 F.2.1.1 a (zws_get hG) h1 j h2 (va_Nw.use rfl (F.1.2.2.2.2.2.2.2.2.1 _ h5)) (zsame F.1.2.2.2.2.2.2.1 h4) hv hd kk
theorem Rn.getI {idx ci j a : Nat} {fl : List (Option (Option Nat))} (hd : decode Y.2.1 pc = .ok (.getfield idx, 3)) (hF : zFd Y.1.cls idx ci j) (hG : Ga[a]? = some (.inl (ci, fl))) (hj : fl[j]? = some none)
    (k : Rn G Ga Y kx d b pc' ls (.int (I a j) :: st) I) (hp : pc + 3 = pc' := by rfl) : Rn G Ga Y kx d b pc ls (.ref a :: st) I := Rn.get hd hF hG hj rfl k hp
theorem Rn.getR {idx ci j a r : Nat} {fl : List (Option (Option Nat))} (hd : decode Y.2.1 pc = .ok (.getfield idx, 3)) (hF : zFd Y.1.cls idx ci j) (hG : Ga[a]? = some (.inl (ci, fl))) (hj : fl[j]? = some (some (some r)))
    (k : Rn G Ga Y kx d b pc' ls (.ref r :: st) I) (hp : pc + 3 = pc' := by rfl) : Rn G Ga Y kx d b pc ls (.ref a :: st) I := Rn.get hd hF hG hj rfl k hp
theorem Rn.put {idx ci j a : Nat} {fl : List (Option (Option Nat))} {ty : FieldType} {v : Int32} (hd : decode Y.2.1 pc = .ok (.putfield idx, 3)) (hF : zFp Y.1.cls idx ci j ty) (hG : Ga[a]? = some (.inl (ci, fl))) (hj : fl[j]? = some none)
    (hn : narrow ty (.int v) = .int v ∧ fits ty (.int v) = true) (k : Rn G Ga Y kx d b pc' ls st (zup I a j v)) (hp : pc + 3 = pc' := by rfl) : Rn G Ga Y kx d b pc ls (.int v :: .ref a :: st) I := by
  subst hp
  obtain ⟨C, T, N, ref, ty0, h1, h2, h3, h4, h5, h6, h7, h8, h9⟩ := hF
  intro p e R s m args below meth c H locs cells slots tc ts Z F hk lsA hl
  obtain ⟨F1, ⟨hP, hD, hS⟩, F3⟩ := F
  have hlen : j < ((fl.mapIdx (fun q y => zfv (gad G) (I a q) y)) : List Value).length := by
    rw [List.length_mapIdx]; exact (List.getElem?_eq_some_iff.mp hj).1
  have kk : ∀ (H1 : Heap) (locs1 : List Loc), va_P (gD G) vwCl ((zws Ga (gad G) (gA G) I).set a (gad G a, .inr (ci, (fl.mapIdx (fun q y => zfv (gad G) (I a q) y)).set j (.int v)))) H1 → va_D (zA G Ga s.heap.size) ((zws Ga (gad G) (gA G) I).set a (gad G a, .inr (ci, (fl.mapIdx (fun q y => zfv (gad G) (I a q) y)).set j (.int v)))) → va_S (zA G Ga s.heap.size) s.heap H1 locs1 → W p (gL G) e R s m args below meth c H1 locs1 cells slots Z (F0 m (pc + 3) lsA (st.map (zr (gad G)))) := by
    intro H1 locs1 hP1 hD1 hS1
    rw [zws_set hG (upd (I a) j v) (zcell_fset (dA := gA G) hj v)] at hP1 hD1
    exact k p e R s m args below meth c H1 locs1 cells slots tc ts Z ⟨F1, ⟨hP1, hD1, hS1⟩, F3⟩ hk lsA hl
  rcases h5 with h5 | ⟨host, h5⟩
  · exact va_put F1.1 F1.2.1 F1.2.2.2.2.2.2.1 h3 ty0 h6 h7 F1.2.2.2.2.2.1 F1.2.2.2.2.2.2.2.1 hP hD hS a (zws_get hG) h1 j h2 (F1.2.2.2.2.2.2.1 _ h5) (zsame F1.2.2.2.2.2.2.1 h4) h8 h9 hn.1 hn.2 hlen hd kk
  · exact va_putN F1.1 F1.2.1 F1.2.2.2.2.2.2.1 h3 ty0 h6 h7 F1.2.2.2.2.2.1 F1.2.2.2.2.2.2.2.1 hP hD hS a (zws_get hG) h1 j h2 (va_Nw.use rfl (F1.2.2.2.2.2.2.2.2.1 _ h5)) (zsame F1.2.2.2.2.2.2.1 h4) h8 h9 hn.1 hn.2 hlen hd kk
theorem Rn.putI {idx ci j a : Nat} {fl : List (Option (Option Nat))} {v : Int32} (hd : decode Y.2.1 pc = .ok (.putfield idx, 3)) (hF : zFp Y.1.cls idx ci j .int) (hG : Ga[a]? = some (.inl (ci, fl))) (hj : fl[j]? = some none)
    (k : Rn G Ga Y kx d b pc' ls st (zup I a j v)) (hp : pc + 3 = pc' := by rfl) : Rn G Ga Y kx d b pc ls (.int v :: .ref a :: st) I := Rn.put hd hF hG hj ⟨rfl, rfl⟩ k hp
theorem Rn.iald {a n : Nat} {f : Nat → Option Nat} {i : Int32} (hd : decode Y.2.1 pc = .ok (.iaload, 1)) (hG : Ga[a]? = some (.inr (.int, n, f))) (hi : vp_in i n) (k : Rn G Ga Y kx d b pc' ls (.int (I a i.toNatClampNeg) :: st) I) (hp : pc + 1 = pc' := by rfl) : Rn G Ga Y kx d b pc ls (.int i :: .ref a :: st) I := by
  subst hp
  intro p e R s m args below meth c H locs cells slots tc ts Z F hk lsA hl
  exact va_iald F.1.1 F.1.2.1 F.1.2.2.2.2.2.2.2.1 F.2.1.1 a 0 (zws_get hG) rfl hi hd (k p e R s m args below meth c H locs cells slots tc ts Z F hk lsA hl)
theorem Rn.bald {a n : Nat} {f : Nat → Option Nat} {i : Int32} (hd : decode Y.2.1 pc = .ok (.baload, 1)) (hG : Ga[a]? = some (.inr (.byte, n, f))) (hi : vp_in i n) (k : Rn G Ga Y kx d b pc' ls (.int (I a i.toNatClampNeg) :: st) I) (hp : pc + 1 = pc' := by rfl) : Rn G Ga Y kx d b pc ls (.int i :: .ref a :: st) I := by
  subst hp
  intro p e R s m args below meth c H locs cells slots tc ts Z F hk lsA hl
  exact va_bald F.1.1 F.1.2.1 F.1.2.2.2.2.2.2.2.1 F.2.1.1 a 1 (zws_get hG) rfl hi hd (k p e R s m args below meth c H locs cells slots tc ts Z F hk lsA hl)
theorem Rn.aald {a n r : Nat} {f : Nat → Option Nat} {i : Int32} (hd : decode Y.2.1 pc = .ok (.aaload, 1)) (hG : Ga[a]? = some (.inr (.object "BorrowedLuck$Coast", n, f))) (hi : vp_in i n) (hr : f i.toNatClampNeg = some r) (k : Rn G Ga Y kx d b pc' ls (.ref r :: st) I) (hp : pc + 1 = pc' := by rfl) : Rn G Ga Y kx d b pc ls (.int i :: .ref a :: st) I := by
  subst hp
  intro p e R s m args below meth c H locs cells slots tc ts Z F hk lsA hl
  have kk := k p e R s m args below meth c H locs cells slots tc ts Z F hk lsA hl
  exact va_aldq F.1.1 F.1.2.1 F.1.2.2.2.2.2.2.2.1 F.2.1.1 a 3 (zws_get hG) rfl hi hd (by
    show W p (gL G) e R s m args below meth c H locs cells slots Z (F0 m (pc + 1) lsA (va_rf ((f i.toNatClampNeg).map (gad G)) :: st.map (zr (gad G))))
    rw [hr]; exact kk)
theorem Rn.iast {a n : Nat} {f : Nat → Option Nat} {i x : Int32} (hd : decode Y.2.1 pc = .ok (.iastore, 1)) (hG : Ga[a]? = some (.inr (.int, n, f))) (hi : vp_in i n) (k : Rn G Ga Y kx d b pc' ls st (zup I a i.toNatClampNeg x)) (hp : pc + 1 = pc' := by rfl) : Rn G Ga Y kx d b pc ls (.int x :: .int i :: .ref a :: st) I := by
  subst hp
  intro p e R s m args below meth c H locs cells slots tc ts Z F hk lsA hl
  obtain ⟨F1, ⟨hP, hD, hS⟩, F3⟩ := F
  refine va_iast F1.1 F1.2.1 F1.2.2.2.2.2.2.2.1 hP hD hS a 0 (zws_get hG) rfl hi hd (fun H1 locs1 hP1 hD1 hS1 => ?_)
  have e9 := zws_set (ad := gad G) (dA := gA G) (I := I) hG (upd (I a) i.toNatClampNeg x) (e := .inl (gA G .int, n, .inl (upd (I a) i.toNatClampNeg x))) rfl
  have hP1 : va_P (gD G) vwCl ((zws Ga (gad G) (gA G) I).set a (gad G a, .inl (gA G .int, n, .inl (upd (I a) i.toNatClampNeg x)))) H1 := hP1
  have hD1 : va_D (zA G Ga s.heap.size) ((zws Ga (gad G) (gA G) I).set a (gad G a, .inl (gA G .int, n, .inl (upd (I a) i.toNatClampNeg x)))) := hD1
  rw [e9] at hP1 hD1
  exact k p e R s m args below meth c H1 locs1 cells slots tc ts Z ⟨F1, ⟨hP1, hD1, hS1⟩, F3⟩ hk lsA hl
theorem Rn.bast {a n : Nat} {f : Nat → Option Nat} {i x : Int32} (hd : decode Y.2.1 pc = .ok (.bastore, 1)) (hG : Ga[a]? = some (.inr (.byte, n, f))) (hi : vp_in i n) (k : Rn G Ga Y kx d b pc' ls st (zup I a i.toNatClampNeg (vp_nar .byte x))) (hp : pc + 1 = pc' := by rfl) : Rn G Ga Y kx d b pc ls (.int x :: .int i :: .ref a :: st) I := by
  subst hp
  intro p e R s m args below meth c H locs cells slots tc ts Z F hk lsA hl
  obtain ⟨F1, ⟨hP, hD, hS⟩, F3⟩ := F
  refine va_bast F1.1 F1.2.1 F1.2.2.2.2.2.2.2.1 hP hD hS a 1 (zws_get hG) rfl hi hd (fun H1 locs1 hP1 hD1 hS1 => ?_)
  have e9 := zws_set (ad := gad G) (dA := gA G) (I := I) hG (upd (I a) i.toNatClampNeg (vp_nar .byte x)) (e := .inl (gA G .byte, n, .inl (upd (I a) i.toNatClampNeg (vp_nar .byte x)))) rfl
  have hP1 : va_P (gD G) vwCl ((zws Ga (gad G) (gA G) I).set a (gad G a, .inl (gA G .byte, n, .inl (upd (I a) i.toNatClampNeg (vp_nar .byte x))))) H1 := hP1
  have hD1 : va_D (zA G Ga s.heap.size) ((zws Ga (gad G) (gA G) I).set a (gad G a, .inl (gA G .byte, n, .inl (upd (I a) i.toNatClampNeg (vp_nar .byte x))))) := hD1
  rw [e9] at hP1 hD1
  exact k p e R s m args below meth c H1 locs1 cells slots tc ts Z ⟨F1, ⟨hP1, hD1, hS1⟩, F3⟩ hk lsA hl
/-- returns -/
theorem Rn.iret {Q : Rs → Hi → Prop} {v : Int32} (hd : decode Y.2.1 pc = .ok (.ireturn, 1)) (hr : Y.2.2.2 = some .int) (h : Q (.inl (some (.int v))) I) : Rn G Ga Y (kM G Ga Q) d b pc ls [.int v] I := by
  intro p e R s m args below meth c H locs cells slots tc ts Z F hk lsA hl
  obtain ⟨F1, ⟨hP, hD, hS⟩, F3, F4, F5, F6, F7, F8⟩ := F
  obtain ⟨ht, rfl⟩ := hk
  refine W.widen (k := tc) (n := ts) (by omega) (by omega) (vx_ret ?_)
  have hlocks : meth.locks = false := F1.2.2.2.2.1
  exact W.iret F1.1 F1.2.1 (F1.2.2.2.1.trans hr) (fun t h1 _ => ⟨⟨some (.int v), I, rfl, h, by rw [h1]; exact hP⟩, by rw [h1]; exact hS.1, by rw [h1]; exact hS.2.1⟩) hS.2.2 hd hlocks
theorem Rn.zret {Q : Rs → Hi → Prop} {v : Int32} (hd : decode Y.2.1 pc = .ok (.ireturn, 1)) (hr : Y.2.2.2 = some .boolean) (hv : narrow .boolean (.int v) = .int v) (h : Q (.inl (some (.int v))) I) : Rn G Ga Y (kM G Ga Q) d b pc ls [.int v] I := by
  intro p e R s m args below meth c H locs cells slots tc ts Z F hk lsA hl
  obtain ⟨F1, ⟨hP, hD, hS⟩, F3, F4, F5, F6, F7, F8⟩ := F
  obtain ⟨ht, rfl⟩ := hk
  refine W.widen (k := tc) (n := ts) (by omega) (by omega) (vx_ret ?_)
  have hlocks : meth.locks = false := F1.2.2.2.2.1
  exact W.zret F1.1 F1.2.1 (F1.2.2.2.1.trans hr) hv (fun t h1 _ => ⟨⟨some (.int v), I, rfl, h, by rw [h1]; exact hP⟩, by rw [h1]; exact hS.1, by rw [h1]; exact hS.2.1⟩) hS.2.2 hd hlocks
theorem Rn.vret {Q : Rs → Hi → Prop} (hd : decode Y.2.1 pc = .ok (.return_, 1)) (hr : Y.2.2.2 = none) (h : Q (.inl none) I) : Rn G Ga Y (kM G Ga Q) d b pc ls [] I := by
  intro p e R s m args below meth c H locs cells slots tc ts Z F hk lsA hl
  obtain ⟨F1, ⟨hP, hD, hS⟩, F3, F4, F5, F6, F7, F8⟩ := F
  obtain ⟨ht, rfl⟩ := hk
  refine W.widen (k := tc) (n := ts) (by omega) (by omega) (vx_ret ?_)
  have hlocks : meth.locks = false := F1.2.2.2.2.1
  exact W.vret F1.1 F1.2.1 (F1.2.2.2.1.trans hr) (fun t h1 _ => ⟨⟨none, I, rfl, h, by rw [h1]; exact hP⟩, by rw [h1]; exact hS.1, by rw [h1]; exact hS.2.1⟩) hS.2.2 hd hlocks
/-- a call's words -/
def zMb (own : String) (idx : Nat) (y : Ym) (n : Nat) : Prop := Cond.methodLink own idx y.1 ∈ WA ∧ Cond.initialized y.1.cls ∈ WA ∧ Cond.code y.1 y.2.1 y.2.2.1 y.2.2.2 ∈ WA ∧ y.2.2.1 ≤ 21 ∧ (y.1.cls ≠ "java/lang/invoke/MethodHandle" ∧ y.1.cls ≠ "java/lang/invoke/VarHandle" ∧ (parseMethodDescriptor y.1.desc).map (fun q => q.parameters.length) = some n)
def zMv (own : String) (idx : Nat) (C : String) (y : Ym) (n : Nat) : Prop := zMb own idx y n ∧ Cond.instanceMethod y.1 ∈ WA ∧ Cond.selects C y.1 y.1 ∈ WA
def zMs (own : String) (idx : Nat) (y : Ym) (n : Nat) : Prop := zMb own idx y n ∧ Cond.static y.1 ∈ WA
theorem zgood {y : Ym} (h : Cond.code y.1 y.2.1 y.2.2.1 y.2.2.2 ∈ WA) : GoodIn WA (zwy y) := by
  have hw : ∀ w ∈ WA, w ∈ WA ∧ ((w.onTables && w.keeps) = true ∨ ∃ ty, w = .arrayClass ty) := fun w hw => ⟨hw, good_of_word (List.mem_filter.mp hw).2⟩
  intro w h2
  rcases List.mem_cons.mp h2 with h3 | h3
  · rw [h3]; exact hw _ h
  · exact hw _ h3
theorem zcallB {own : String} {idx n d mc : Nat} {y : Ym} {R : Room} {s : State} {args : Array Value} (hts : ∀ w ∈ WA, w.before args s = true) (h : zMb own idx y n) (h1 : d + 1 + 8 ≤ R.frames) (h2 : 40 * (d + 1) + 200 ≤ R.locals) :
    CallB R s args own idx y.1 y.2.1 y.2.2.1 y.2.2.2 (zwy y) (zrm d mc) mc (6 * mc) n :=
  callB_of n hts (zgood h.2.2.1) rfl rfl rfl (hts _ h.2.1) (hts _ h.1) h.2.2.2.2 ⟨by show d + 8 + 1 ≤ _; omega, by have := h.2.2.2.1; show 8 + (y.2.2.1 + 11) + (40 * d + 200) ≤ _; omega⟩
theorem zsum (ad : Nat → Nat) (l : List Value) : ((l.map (zr ad)).map fun v => v.category).sum = (l.map fun v => v.category).sum := by
  rw [List.map_map]
  congr 1
  exact List.map_congr_left (fun v _ => zr_cat ad v)
theorem zsub {G : Gx} {Ga : List Shp} {a b : Nat} (h : a ≤ b) : ∀ q, zA G Ga b q → zA G Ga a q := fun q hq => hq.elim Or.inl (fun h2 => Or.inr (Nat.le_trans h h2))
/-- behind a call that ran: returned -/
theorem zafter {rest : List Value} {Rr : Rs → Hi → Prop} {mc b2 d2 : Nat} {p : Program} {e : Env} {R : Room} {s : State} {m : MethodId} {args : Array Value} {below : List Frame} {meth : Method} {c : Code} {H : Heap} {locs : List Loc} {cells slots tc ts : Nat} {Z : State → Prop} {lsA : Array Slot} {stA : List Value} {a9 : Array Value}
    (F : zFr G Ga Y d2 (b2 + mc) I p R s m args meth c H locs cells slots tc ts) (hk : kx s args below c tc ts Z) (hl : lv_has lsA Y.2.2.1 (zl (gad G) 0 ls))
    (hr : vx_Run p (gL G) e R s m args below meth c H locs cells slots mc (6 * mc) (F0 m pc lsA stA) (rest.map (zr (gad G))) (zQ G Ga Rr H.size a9) (zX G Ga Rr H.size) (zA G Ga H.size))
    (hx : ∀ (E : String) (J : Hi), Rr (.inr E) J → ∀ (H1 : Heap) (locs1 : List Loc) (q : Addr) (ce : Cell), zFr G Ga Y d2 b2 J p R s m args meth c H1 locs1 (cells + mc) (slots + 6 * mc) tc ts → H1[q]? = some ce → ce.vm = .none → s.vm.findClass E = some ce.cls → vx_W p (gL G) e R s m args below meth c H1 locs1 (cells + mc) (slots + 6 * mc) Z (F0 m pc lsA (rest.map (zr (gad G)))) q)
    (k : ∀ (v : Option Value) (J : Hi), Rr (.inl v) J → Rn G Ga Y kx d2 b2 (pc + 3) ls (v.toList ++ rest) J) : W p (gL G) e R s m args below meth c H locs cells slots Z (F0 m pc lsA stA) := by
  obtain ⟨F1, ⟨hP, hD, hS⟩, F3, F4, F5, F6, F7, F8⟩ := F
  intro T hT X
  have hsz : s.heap.size ≤ H.size := hS.1
  rcases hr T hT X with ⟨v, st₀, t, T', L, h0, X', hL, e1, e2, ⟨⟨v', J, hv, hq, hPJ⟩, hF⟩, go⟩ | ⟨q, st₀, t, T', L, E, ce, h0, X', hL, e1, e2, ⟨⟨J, hq, hPJ⟩, hF⟩, hce, hcv, hcl, go⟩
  · cases hv
    obtain ⟨k1, k2, k3⟩ := vx_keep h0 e1 hS (fun q _ h => zsub hsz q h) (fun q h => zsub hsz q h) hL hF
    have F9 : zFr G Ga Y d2 b2 J p R s m args meth c T'.heap (locs ++ L) (cells + mc) (slots + 6 * mc) tc ts := ⟨F1, ⟨by rw [e1]; exact hPJ, zA_D2 hD, k3⟩, F3, F4, by omega, by omega, F7, F8⟩
    obtain ⟨t2, a1, b1⟩ := k v' J hq p e R s m args below meth c T'.heap (locs ++ L) (cells + mc) (slots + 6 * mc) tc ts Z F9 hk lsA hl T' rfl X'
    refine ⟨t2, go t2 ?_, b1⟩
    cases v' with
    | none => exact a1
    | some w => exact a1
  · obtain ⟨k1, k2, k3⟩ := vx_keep h0 e1 hS (fun q _ h => zsub hsz q h) (fun q h => zsub hsz q h) hL hF
    have F9 : zFr G Ga Y d2 b2 J p R s m args meth c T'.heap (locs ++ L) (cells + mc) (slots + 6 * mc) tc ts := ⟨F1, ⟨by rw [e1]; exact hPJ, zA_D2 hD, k3⟩, F3, F4, by omega, by omega, F7, F8⟩
    obtain ⟨t2, a1, b1⟩ := hx E J hq T'.heap (locs ++ L) q ce F9 (by rw [e1]; exact hce) hcv hcl T' rfl X'
    exact ⟨t2, go.trans a1, b1⟩
theorem zpre {vs : List Value} {I : Hi} {p : Program} {R : Room} {s : State} {m : MethodId} {args : Array Value} {meth : Method} {c : Code} {H : Heap} {locs : List Loc} {cells slots tc ts d2 b2 : Nat} (F : zFr G Ga Y d2 b2 I p R s m args meth c H locs cells slots tc ts) (U : State) (hU : U.heap = H) (hW : s.WarmedH U.vm) :
    zPc G Ga vs I H.size (vs.map (zr (gad G))).toArray U := by
  obtain ⟨F1, ⟨hP, hD, hS⟩, F3⟩ := F
  refine ⟨rfl, by rw [hU], by rw [hU]; exact hP, zA_D hD, ?_⟩
  have hK := zK.on (B := zA G Ga H.size) hW hS (fun q h => zsub hS.1 q h) F1.2.2.2.2.2.2.2
  rw [hU]; exact hK
theorem Rn.callVx {C : String} {T : u_T} {N ci idx a n mc : Nat} {fl : List (Option (Option Nat))} {As rest : List Value} {y : Ym} {Rr : Rs → Hi → Prop} (hd : decode Y.2.1 pc = .ok (.invokevirtual idx, 3)) (hM : zMv Y.1.cls idx C y n) (hG : Ga[a]? = some (.inl (ci, fl))) (hC : vwCl[ci]? = some (C, T, N))
    (hst : st = As.reverse ++ .ref a :: rest) (hn : As.length = n) (hr : (rest.map fun v => v.category).sum ≤ 8) (hct : Ct G Ga y d mc (.ref a :: As) I Rr)
    (hx : ∀ (E : String) (J : Hi), Rr (.inr E) J → ∀ (p : Program) (e : Env) (R : Room) (s : State) (m : MethodId) (args : Array Value) (below : List Frame) (meth : Method) (c : Code) (H : Heap) (locs : List Loc) (cells slots tc ts : Nat) (Z : State → Prop) (q : Addr) (ce : Cell) (lsA : Array Slot), zFr G Ga Y (d + 1) b J p R s m args meth c H locs cells slots tc ts → kx s args below c tc ts Z → lv_has lsA Y.2.2.1 (zl (gad G) 0 ls) → H[q]? = some ce → ce.vm = .none → s.vm.findClass E = some ce.cls → vx_W p (gL G) e R s m args below meth c H locs cells slots Z (F0 m pc lsA (rest.map (zr (gad G)))) q)
    (k : ∀ (v : Option Value) (J : Hi), Rr (.inl v) J → Rn G Ga Y kx (d + 1) b pc' ls (v.toList ++ rest) J) (hp : pc + 3 = pc' := by rfl) : Rn G Ga Y kx (d + 1) (b + mc) pc ls st I := by
  subst hp
  subst hst
  intro p e R s m args below meth c H locs cells slots tc ts Z F hk lsA hl
  have F0' := F
  obtain ⟨F1, ⟨hP, hD, hS⟩, F3, F4, F5, F6, F7, F8⟩ := F
  have run := vx_runV (g := F0 m pc lsA ((As.reverse ++ Value.ref a :: rest).map (zr (gad G)))) (As := As.map (zr (gad G))) (rest := rest.map (zr (gad G))) (cells := cells) (slots := slots) (locs := locs) (e := e) (below := below) (meth := meth) ⟨F1.1, F1.2.1, F1.2.2.1, F1.2.2.2.2.2.1, F1.2.2.2.2.2.2.1⟩ (hct H.size)
    (⟨zcallB F1.2.2.2.2.2.2.1 hM.1 F3 F4, F1.2.2.2.2.2.2.1 _ hM.2.1, F1.2.2.2.2.2.2.1 _ hM.2.2⟩ : CallW R s args Y.1.cls C idx y.1 y.2.1 y.2.2.1 y.2.2.2 (zwy y) (zrm d mc) mc (6 * mc) n)
    (⟨zPc_blind, va_recv F1.2.2.2.2.2.2.2.1 hP hC (zws_get hG), fun U hU hW => zpre F0' U hU hW⟩) rfl (by rw [List.length_map]; exact hn) hl.1 (by simp [zr, List.map_reverse]) (lv_room (by rw [zsum]; exact hr)) hd ⟨by omega, by omega⟩
  exact zafter F0' hk hl run (fun E J hE H1 locs1 q ce F9 h1 h2 h3 => hx E J hE p e R s m args below meth c H1 locs1 _ _ tc ts Z q ce lsA F9 hk hl h1 h2 h3) k
theorem Rn.callSx {idx n mc : Nat} {As rest : List Value} {y : Ym} {Rr : Rs → Hi → Prop} (hd : decode Y.2.1 pc = .ok (.invokestatic idx, 3)) (hM : zMs Y.1.cls idx y n)
    (hst : st = As.reverse ++ rest) (hn : As.length = n) (hr : (rest.map fun v => v.category).sum ≤ 8) (hct : Ct G Ga y d mc As I Rr)
    (hx : ∀ (E : String) (J : Hi), Rr (.inr E) J → ∀ (p : Program) (e : Env) (R : Room) (s : State) (m : MethodId) (args : Array Value) (below : List Frame) (meth : Method) (c : Code) (H : Heap) (locs : List Loc) (cells slots tc ts : Nat) (Z : State → Prop) (q : Addr) (ce : Cell) (lsA : Array Slot), zFr G Ga Y (d + 1) b J p R s m args meth c H locs cells slots tc ts → kx s args below c tc ts Z → lv_has lsA Y.2.2.1 (zl (gad G) 0 ls) → H[q]? = some ce → ce.vm = .none → s.vm.findClass E = some ce.cls → vx_W p (gL G) e R s m args below meth c H locs cells slots Z (F0 m pc lsA (rest.map (zr (gad G)))) q)
    (k : ∀ (v : Option Value) (J : Hi), Rr (.inl v) J → Rn G Ga Y kx (d + 1) b pc' ls (v.toList ++ rest) J) (hp : pc + 3 = pc' := by rfl) : Rn G Ga Y kx (d + 1) (b + mc) pc ls st I := by
  subst hp
  subst hst
  intro p e R s m args below meth c H locs cells slots tc ts Z F hk lsA hl
  have F0' := F
  obtain ⟨F1, ⟨hP, hD, hS⟩, F3, F4, F5, F6, F7, F8⟩ := F
  have run := vx_runS (g := F0 m pc lsA ((As.reverse ++ rest).map (zr (gad G)))) (As := As.map (zr (gad G))) (rest := rest.map (zr (gad G))) (cells := cells) (slots := slots) (locs := locs) (e := e) (below := below) (meth := meth) ⟨F1.1, F1.2.1, F1.2.2.1, F1.2.2.2.2.2.1, F1.2.2.2.2.2.2.1⟩ (hct H.size)
    (⟨zcallB F1.2.2.2.2.2.2.1 hM.1 F3 F4, F1.2.2.2.2.2.2.1 _ hM.2⟩ : CallB R s args Y.1.cls idx y.1 y.2.1 y.2.2.1 y.2.2.2 (zwy y) (zrm d mc) mc (6 * mc) n ∧ _)
    (⟨zPc_blind, fun U hU hW => zpre F0' U hU hW⟩) rfl (by rw [List.length_map]; exact hn) hl.1 (by simp [zr, List.map_reverse]) (lv_room (by rw [zsum]; exact hr)) hd ⟨by omega, by omega⟩
  exact zafter F0' hk hl run (fun E J hE H1 locs1 q ce F9 h1 h2 h3 => hx E J hE p e R s m args below meth c H1 locs1 _ _ tc ts Z q ce lsA F9 hk hl h1 h2 h3) k
/-- calls that don't throw -/
theorem Rn.callV {C : String} {T : u_T} {N ci idx a n : Nat} {fl : List (Option (Option Nat))} {As rest : List Value} {y : Ym} {Rr : Rs → Hi → Prop} (hd : decode Y.2.1 pc = .ok (.invokevirtual idx, 3)) (hM : zMv Y.1.cls idx C y n) (hG : Ga[a]? = some (.inl (ci, fl))) (hC : vwCl[ci]? = some (C, T, N))
    (hst : st = As.reverse ++ .ref a :: rest) (hn : As.length = n) (hr : (rest.map fun v => v.category).sum ≤ 8) (hct : Ct G Ga y d 0 (.ref a :: As) I Rr) (hx : ∀ (E : String) (J : Hi), ¬ Rr (.inr E) J)
    (k : ∀ (v : Option Value) (J : Hi), Rr (.inl v) J → Rn G Ga Y kx (d + 1) b pc' ls (v.toList ++ rest) J) (hp : pc + 3 = pc' := by rfl) : Rn G Ga Y kx (d + 1) b pc ls st I :=
  Rn.callVx (mc := 0) hd hM hG hC hst hn hr hct (fun E J h => absurd h (hx E J)) k hp
theorem Rn.callS {idx n : Nat} {As rest : List Value} {y : Ym} {Rr : Rs → Hi → Prop} (hd : decode Y.2.1 pc = .ok (.invokestatic idx, 3)) (hM : zMs Y.1.cls idx y n)
    (hst : st = As.reverse ++ rest) (hn : As.length = n) (hr : (rest.map fun v => v.category).sum ≤ 8) (hct : Ct G Ga y d 0 As I Rr) (hx : ∀ (E : String) (J : Hi), ¬ Rr (.inr E) J)
    (k : ∀ (v : Option Value) (J : Hi), Rr (.inl v) J → Rn G Ga Y kx (d + 1) b pc' ls (v.toList ++ rest) J) (hp : pc + 3 = pc' := by rfl) : Rn G Ga Y kx (d + 1) b pc ls st I :=
  Rn.callSx (mc := 0) hd hM hst hn hr hct (fun E J h => absurd h (hx E J)) k hp
/-- calls that may throw: it goes out of this method too -/
theorem zout {Q : Rs → Hi → Prop} {rest : List Value} {E : String} {J : Hi} (h : Q (.inr E) J) : ∀ (p : Program) (e : Env) (R : Room) (s : State) (m : MethodId) (args : Array Value) (below : List Frame) (meth : Method) (c : Code) (H : Heap) (locs : List Loc) (cells slots tc ts : Nat) (Z : State → Prop) (q : Addr) (ce : Cell) (lsA : Array Slot), zFr G Ga Y d b J p R s m args meth c H locs cells slots tc ts → kM G Ga Q s args below c tc ts Z → lv_has lsA Y.2.2.1 (zl (gad G) 0 ls) → H[q]? = some ce → ce.vm = .none → s.vm.findClass E = some ce.cls → vx_W p (gL G) e R s m args below meth c H locs cells slots Z (F0 m pc lsA (rest.map (zr (gad G)))) q := by
  intro p e R s m args below meth c H locs cells slots tc ts Z q ce lsA F hk hl h1 h2 h3
  obtain ⟨F1, ⟨hP, hD, hS⟩, F3, F4, F5, F6, F7, F8⟩ := F
  obtain ⟨ht, rfl⟩ := hk
  exact vx_out (fun x hx => (ht x hx).elim) F1.2.2.2.2.1 h1 h2 h3 (fun t h4 _ => ⟨⟨J, h, by rw [h4]; exact hP⟩, by rw [h4]; exact hS.1, by rw [h4]; exact hS.2.1⟩) hS.2.2 (by omega) (by omega)
theorem Rn.callVt {Q : Rs → Hi → Prop} {C : String} {T : u_T} {N ci idx a n mc : Nat} {fl : List (Option (Option Nat))} {As rest : List Value} {y : Ym} {Rr : Rs → Hi → Prop} (hd : decode Y.2.1 pc = .ok (.invokevirtual idx, 3)) (hM : zMv Y.1.cls idx C y n) (hG : Ga[a]? = some (.inl (ci, fl))) (hC : vwCl[ci]? = some (C, T, N))
    (hst : st = As.reverse ++ .ref a :: rest) (hn : As.length = n) (hr : (rest.map fun v => v.category).sum ≤ 8) (hct : Ct G Ga y d mc (.ref a :: As) I Rr) (hx : ∀ (E : String) (J : Hi), Rr (.inr E) J → Q (.inr E) J)
    (k : ∀ (v : Option Value) (J : Hi), Rr (.inl v) J → Rn G Ga Y (kM G Ga Q) (d + 1) b pc' ls (v.toList ++ rest) J) (hp : pc + 3 = pc' := by rfl) : Rn G Ga Y (kM G Ga Q) (d + 1) (b + mc) pc ls st I :=
  Rn.callVx hd hM hG hC hst hn hr hct (fun E J h => zout (hx E J h)) k hp
theorem Rn.callSt {Q : Rs → Hi → Prop} {idx n mc : Nat} {As rest : List Value} {y : Ym} {Rr : Rs → Hi → Prop} (hd : decode Y.2.1 pc = .ok (.invokestatic idx, 3)) (hM : zMs Y.1.cls idx y n)
    (hst : st = As.reverse ++ rest) (hn : As.length = n) (hr : (rest.map fun v => v.category).sum ≤ 8) (hct : Ct G Ga y d mc As I Rr) (hx : ∀ (E : String) (J : Hi), Rr (.inr E) J → Q (.inr E) J)
    (k : ∀ (v : Option Value) (J : Hi), Rr (.inl v) J → Rn G Ga Y (kM G Ga Q) (d + 1) b pc' ls (v.toList ++ rest) J) (hp : pc + 3 = pc' := by rfl) : Rn G Ga Y (kM G Ga Q) (d + 1) (b + mc) pc ls st I :=
  Rn.callSx hd hM hst hn hr hct (fun E J h => zout (hx E J h)) k hp

end RnRules
end
section
def fM (n : Nat) : Nat → Option Nat := fun j => if j < n then some (46 + 4 * j) else none
def GAM : List Shp := [
  .inl (8, [some (some 1), some (some 3), some (some 7), some (some 11), some (some 15), some (some 23), some (some 30), some (some 37), some (some 38), some (some 39), some (some 44), none, none]),
  .inl (7, [some (some 2), none, none, none, none, none, none]),
  .inr (.int, 400, fun _ => none),
  .inl (0, [none, none, none, none, none, none, none, none, none, some (some 4), some (some 5), some (some 6)]),
  .inr (.int, 56, fun _ => none),
  .inr (.int, 72, fun _ => none),
  .inr (.int, 240, fun _ => none),
  .inl (0, [none, none, none, none, none, none, none, none, none, some (some 8), some (some 9), some (some 10)]),
  .inr (.int, 56, fun _ => none),
  .inr (.int, 72, fun _ => none),
  .inr (.int, 240, fun _ => none),
  .inl (0, [none, none, none, none, none, none, none, none, none, some (some 12), some (some 13), some (some 14)]),
  .inr (.int, 56, fun _ => none),
  .inr (.int, 72, fun _ => none),
  .inr (.int, 240, fun _ => none),
  .inl (5, [some (some 16)]),
  .inl (2, [none, none, some (some 17), some (some 18), some (some 19), some (some 20), some (some 21), some (some 22)]),
  .inr (.int, 12, fun _ => none),
  .inr (.int, 12, fun _ => none),
  .inr (.int, 12, fun _ => none),
  .inr (.int, 400, fun _ => none),
  .inr (.int, 10, fun _ => none),
  .inr (.int, 32, fun _ => none),
  .inl (2, [none, none, some (some 24), some (some 25), some (some 26), some (some 27), some (some 28), some (some 29)]),
  .inr (.int, 12, fun _ => none),
  .inr (.int, 12, fun _ => none),
  .inr (.int, 12, fun _ => none),
  .inr (.int, 400, fun _ => none),
  .inr (.int, 10, fun _ => none),
  .inr (.int, 32, fun _ => none),
  .inl (2, [none, none, some (some 31), some (some 32), some (some 33), some (some 34), some (some 35), some (some 36)]),
  .inr (.int, 12, fun _ => none),
  .inr (.int, 12, fun _ => none),
  .inr (.int, 12, fun _ => none),
  .inr (.int, 400, fun _ => none),
  .inr (.int, 10, fun _ => none),
  .inr (.int, 32, fun _ => none),
  .inl (1, [none, some (some 1), some (some 7)]),
  .inl (3, [none, some (some 1), some (some 23)]),
  .inl (6, [some (some 15), some (some 7), none, none, some (some 40), some (some 41), some (some 42), some (some 43)]),
  .inr (.int, 8, fun _ => none),
  .inr (.int, 8, fun _ => none),
  .inr (.int, 8, fun _ => none),
  .inr (.int, 64, fun _ => none),
  .inl (4, [some (some 45), none, none]),
  .inr (.object "BorrowedLuck$Coast", 12, fM 12),
  .inl (0, [none, none, none, none, none, none, none, none, none, some (some 47), some (some 48), some (some 49)]),
  .inr (.int, 56, fun _ => none),
  .inr (.int, 72, fun _ => none),
  .inr (.int, 240, fun _ => none),
  .inl (0, [none, none, none, none, none, none, none, none, none, some (some 51), some (some 52), some (some 53)]),
  .inr (.int, 56, fun _ => none),
  .inr (.int, 72, fun _ => none),
  .inr (.int, 240, fun _ => none),
  .inl (0, [none, none, none, none, none, none, none, none, none, some (some 55), some (some 56), some (some 57)]),
  .inr (.int, 56, fun _ => none),
  .inr (.int, 72, fun _ => none),
  .inr (.int, 240, fun _ => none),
  .inl (0, [none, none, none, none, none, none, none, none, none, some (some 59), some (some 60), some (some 61)]),
  .inr (.int, 56, fun _ => none),
  .inr (.int, 72, fun _ => none),
  .inr (.int, 240, fun _ => none),
  .inl (0, [none, none, none, none, none, none, none, none, none, some (some 63), some (some 64), some (some 65)]),
  .inr (.int, 56, fun _ => none),
  .inr (.int, 72, fun _ => none),
  .inr (.int, 240, fun _ => none),
  .inl (0, [none, none, none, none, none, none, none, none, none, some (some 67), some (some 68), some (some 69)]),
  .inr (.int, 56, fun _ => none),
  .inr (.int, 72, fun _ => none),
  .inr (.int, 240, fun _ => none),
  .inl (0, [none, none, none, none, none, none, none, none, none, some (some 71), some (some 72), some (some 73)]),
  .inr (.int, 56, fun _ => none),
  .inr (.int, 72, fun _ => none),
  .inr (.int, 240, fun _ => none),
  .inl (0, [none, none, none, none, none, none, none, none, none, some (some 75), some (some 76), some (some 77)]),
  .inr (.int, 56, fun _ => none),
  .inr (.int, 72, fun _ => none),
  .inr (.int, 240, fun _ => none),
  .inl (0, [none, none, none, none, none, none, none, none, none, some (some 79), some (some 80), some (some 81)]),
  .inr (.int, 56, fun _ => none),
  .inr (.int, 72, fun _ => none),
  .inr (.int, 240, fun _ => none),
  .inl (0, [none, none, none, none, none, none, none, none, none, some (some 83), some (some 84), some (some 85)]),
  .inr (.int, 56, fun _ => none),
  .inr (.int, 72, fun _ => none),
  .inr (.int, 240, fun _ => none),
  .inl (0, [none, none, none, none, none, none, none, none, none, some (some 87), some (some 88), some (some 89)]),
  .inr (.int, 56, fun _ => none),
  .inr (.int, 72, fun _ => none),
  .inr (.int, 240, fun _ => none),
  .inl (0, [none, none, none, none, none, none, none, none, none, some (some 91), some (some 92), some (some 93)]),
  .inr (.int, 56, fun _ => none),
  .inr (.int, 72, fun _ => none),
  .inr (.int, 240, fun _ => none),
  .inl (9, [none, some (some 95), some (some 96), some (some 97), some (some 98), some (some 99), none, none, some (some 100), none, none, none, none, none, none, some (some 101), none, some (some 102), some (some 103), some (some 104), some (some 105), none, some (some 106)]),
  .inr (.int, 2075, fun _ => none),
  .inr (.int, 1226, fun _ => none),
  .inr (.int, 1226, fun _ => none),
  .inr (.int, 377, fun _ => none),
  .inr (.int, 4524, fun _ => none),
  .inr (.byte, 400, fun _ => none),
  .inr (.int, 5, fun _ => none),
  .inr (.int, 400, fun _ => none),
  .inr (.int, 4, fun _ => none),
  .inr (.int, 5, fun _ => none),
  .inr (.int, 5, fun _ => none),
  .inr (.int, 1536, fun _ => none),
  .inr (.long, 1, fun _ => none)]
def isC (c : Nat) : Prop := (∃ k, k < 3 ∧ c = 3 + 4 * k) ∨ ∃ k, k < 12 ∧ c = 46 + 4 * k
def isL (c : Nat) : Prop := c = 16 ∨ c = 23 ∨ c = 30
theorem gC {c : Nat} (h : isC c) : GAM[c + 0]? = some (.inl (0, [none, none, none, none, none, none, none, none, none, some (some (c + 1)), some (some (c + 2)), some (some (c + 3))])) := by
  rcases h with ⟨k, hk, rfl⟩ | ⟨k, hk, rfl⟩
  · match k, hk with
    | 0, _ => rfl
    | 1, _ => rfl
    | 2, _ => rfl
    | k + 3, hk => exact absurd hk (by omega)
  · match k, hk with
    | 0, _ => rfl
    | 1, _ => rfl
    | 2, _ => rfl
    | 3, _ => rfl
    | 4, _ => rfl
    | 5, _ => rfl
    | 6, _ => rfl
    | 7, _ => rfl
    | 8, _ => rfl
    | 9, _ => rfl
    | 10, _ => rfl
    | 11, _ => rfl
    | k + 12, hk => exact absurd hk (by omega)
theorem gC1 {c : Nat} (h : isC c) : GAM[c + 1]? = some (.inr (.int, 56, fun _ => none)) := by
  rcases h with ⟨k, hk, rfl⟩ | ⟨k, hk, rfl⟩
  · match k, hk with
    | 0, _ => rfl
    | 1, _ => rfl
    | 2, _ => rfl
    | k + 3, hk => exact absurd hk (by omega)
  · match k, hk with
    | 0, _ => rfl
    | 1, _ => rfl
    | 2, _ => rfl
    | 3, _ => rfl
    | 4, _ => rfl
    | 5, _ => rfl
    | 6, _ => rfl
    | 7, _ => rfl
    | 8, _ => rfl
    | 9, _ => rfl
    | 10, _ => rfl
    | 11, _ => rfl
    | k + 12, hk => exact absurd hk (by omega)
theorem gC2 {c : Nat} (h : isC c) : GAM[c + 2]? = some (.inr (.int, 72, fun _ => none)) := by
  rcases h with ⟨k, hk, rfl⟩ | ⟨k, hk, rfl⟩
  · match k, hk with
    | 0, _ => rfl
    | 1, _ => rfl
    | 2, _ => rfl
    | k + 3, hk => exact absurd hk (by omega)
  · match k, hk with
    | 0, _ => rfl
    | 1, _ => rfl
    | 2, _ => rfl
    | 3, _ => rfl
    | 4, _ => rfl
    | 5, _ => rfl
    | 6, _ => rfl
    | 7, _ => rfl
    | 8, _ => rfl
    | 9, _ => rfl
    | 10, _ => rfl
    | 11, _ => rfl
    | k + 12, hk => exact absurd hk (by omega)
theorem gC3 {c : Nat} (h : isC c) : GAM[c + 3]? = some (.inr (.int, 240, fun _ => none)) := by
  rcases h with ⟨k, hk, rfl⟩ | ⟨k, hk, rfl⟩
  · match k, hk with
    | 0, _ => rfl
    | 1, _ => rfl
    | 2, _ => rfl
    | k + 3, hk => exact absurd hk (by omega)
  · match k, hk with
    | 0, _ => rfl
    | 1, _ => rfl
    | 2, _ => rfl
    | 3, _ => rfl
    | 4, _ => rfl
    | 5, _ => rfl
    | 6, _ => rfl
    | 7, _ => rfl
    | 8, _ => rfl
    | 9, _ => rfl
    | 10, _ => rfl
    | 11, _ => rfl
    | k + 12, hk => exact absurd hk (by omega)
theorem gC0 {c : Nat} (h : isC c) : GAM[c]? = some (.inl (0, [none, none, none, none, none, none, none, none, none, some (some (c + 1)), some (some (c + 2)), some (some (c + 3))])) := gC h
theorem gL0 {c : Nat} (h : isL c) : GAM[c]? = some (.inl (2, [none, none, some (some (c + 1)), some (some (c + 2)), some (some (c + 3)), some (some (c + 4)), some (some (c + 5)), some (some (c + 6))])) := by
  rcases h with rfl | rfl | rfl <;> rfl
theorem gL1 {c : Nat} (h : isL c) : GAM[c + 1]? = some (.inr (.int, 12, fun _ => none)) := by
  rcases h with rfl | rfl | rfl <;> rfl
theorem gL2 {c : Nat} (h : isL c) : GAM[c + 2]? = some (.inr (.int, 12, fun _ => none)) := by
  rcases h with rfl | rfl | rfl <;> rfl
theorem gL3 {c : Nat} (h : isL c) : GAM[c + 3]? = some (.inr (.int, 12, fun _ => none)) := by
  rcases h with rfl | rfl | rfl <;> rfl
theorem gL4 {c : Nat} (h : isL c) : GAM[c + 4]? = some (.inr (.int, 400, fun _ => none)) := by
  rcases h with rfl | rfl | rfl <;> rfl
theorem gL5 {c : Nat} (h : isL c) : GAM[c + 5]? = some (.inr (.int, 10, fun _ => none)) := by
  rcases h with rfl | rfl | rfl <;> rfl
theorem gL6 {c : Nat} (h : isL c) : GAM[c + 6]? = some (.inr (.int, 32, fun _ => none)) := by
  rcases h with rfl | rfl | rfl <;> rfl
def Rp (v : Option Value) (J : Hi) : Rs → Hi → Prop := fun o K => o = .inl v ∧ K = J
theorem Ct.mk {G : Gx} {Ga : List Shp} {y : Ym} {d b : Nat} {vs : List Value} {I : Hi} {Q : Rs → Hi → Prop} (ls : List (Option Value)) (k : Rn G Ga y (kM G Ga Q) d b 0 ls [] I) (hy : plainName y.1.cls = true := by decide +kernel) (hc : vs.all (fun v => v.category == 1) = true := by rfl) (hn : vs.length ≤ y.2.2.1 := by exact Nat.le_of_ble_eq_true rfl)
    (hl : ls = vs.map some ++ List.replicate (y.2.2.1 - vs.length) none := by rfl) : Ct G Ga y d b vs I Q :=
  Ct.of hy (fun v hv => by simpa using List.all_eq_true.mp hc v hv) hn hl k
theorem Ct.weak {G : Gx} {Ga : List Shp} {y : Ym} {d b : Nat} {vs : List Value} {I : Hi} {Q Q' : Rs → Hi → Prop} (h : Ct G Ga y d b vs I Q) (hq : ∀ o J, Q o J → Q' o J) : Ct G Ga y d b vs I Q' := by
  intro sz
  intro p e ha hc hk s m args below hf hfit hP hK
  obtain ⟨t, o, h1, h2, h3, h4⟩ := h sz p e ha hc hk s m args below hf hfit hP hK
  refine ⟨t, o, h1, h2, h3, ?_⟩
  rcases h4 with ⟨⟨⟨v, J, e1, e2, e3⟩, e4⟩, h5⟩ | ⟨q, e1, E, ce, L, ⟨⟨J, e2, e3⟩, e4⟩, h5⟩
  · exact Or.inl ⟨⟨⟨v, J, e1, hq _ _ e2, e3⟩, e4⟩, h5⟩
  · exact Or.inr ⟨q, e1, E, ce, L, ⟨⟨J, hq _ _ e2, e3⟩, e4⟩, h5⟩
section RnN
variable {G : Gx} {Ga : List Shp} {Y : Ym} {kx : Kx} {d b pc pc' : Nat} {ls : List (Option Value)} {st : List Value} {I : Hi}
theorem Rn.topI {x : Int32} (y : Int32) (h : x = y) (k : Rn G Ga Y kx d b pc ls (.int y :: st) I) : Rn G Ga Y kx d b pc ls (.int x :: st) I := h ▸ k
theorem Rn.ialdN {a n j : Nat} {f : Nat → Option Nat} (hd : decode Y.2.1 pc = .ok (.iaload, 1)) (hG : Ga[a]? = some (.inr (.int, n, f))) (k : Rn G Ga Y kx d b pc' ls (.int (I a j) :: st) I) (hj : j < n := by omega) (hn : n < 2147483648 := by decide) (hp : pc + 1 = pc' := by rfl) : Rn G Ga Y kx d b pc ls (.int (nI j) :: .ref a :: st) I := by
  refine Rn.iald hd hG (vp_in_nI hj (by omega)) ?_ hp
  rw [nI_clamp (by omega)]
  exact k
theorem Rn.baldN {a n j : Nat} {f : Nat → Option Nat} (hd : decode Y.2.1 pc = .ok (.baload, 1)) (hG : Ga[a]? = some (.inr (.byte, n, f))) (k : Rn G Ga Y kx d b pc' ls (.int (I a j) :: st) I) (hj : j < n := by omega) (hn : n < 2147483648 := by decide) (hp : pc + 1 = pc' := by rfl) : Rn G Ga Y kx d b pc ls (.int (nI j) :: .ref a :: st) I := by
  refine Rn.bald hd hG (vp_in_nI hj (by omega)) ?_ hp
  rw [nI_clamp (by omega)]
  exact k
theorem Rn.iastN {a n j : Nat} {f : Nat → Option Nat} {x : Int32} (hd : decode Y.2.1 pc = .ok (.iastore, 1)) (hG : Ga[a]? = some (.inr (.int, n, f))) (k : Rn G Ga Y kx d b pc' ls st (zup I a j x)) (hj : j < n := by omega) (hn : n < 2147483648 := by decide) (hp : pc + 1 = pc' := by rfl) : Rn G Ga Y kx d b pc ls (.int x :: .int (nI j) :: .ref a :: st) I := by
  refine Rn.iast hd hG (vp_in_nI hj (by omega)) ?_ hp
  rw [nI_clamp (by omega)]
  exact k
theorem Rn.bastN {a n j : Nat} {f : Nat → Option Nat} {x : Int32} (hd : decode Y.2.1 pc = .ok (.bastore, 1)) (hG : Ga[a]? = some (.inr (.byte, n, f))) (k : Rn G Ga Y kx d b pc' ls st (zup I a j (vp_nar .byte x))) (hj : j < n := by omega) (hn : n < 2147483648 := by decide) (hp : pc + 1 = pc' := by rfl) : Rn G Ga Y kx d b pc ls (.int x :: .int (nI j) :: .ref a :: st) I := by
  refine Rn.bast hd hG (vp_in_nI hj (by omega)) ?_ hp
  rw [nI_clamp (by omega)]
  exact k
theorem Rn.if_ltN {x : Nat} {off : Int} (hd : decode Y.2.1 pc = .ok (.ifCond .lt off, 3)) (k : Rn G Ga Y kx d b pc' ls st I) (tgt : Nat) (ht : (pc : Int) + off = (tgt : Int) := by decide) (hx : x < 2147483648 := by omega) (hp : pc + 3 = pc' := by rfl) : Rn G Ga Y kx d b pc ls (.int (nI x) :: st) I := Rn.if_lt hd ht (fun h => absurd h (nI_pos hx)) (fun _ => k) hp
theorem Rn.if_geN {x : Nat} {off : Int} (hd : decode Y.2.1 pc = .ok (.ifCond .ge off, 3)) (tgt : Nat) (k : Rn G Ga Y kx d b tgt ls st I) (ht : (pc : Int) + off = (tgt : Int) := by decide) (hx : x < 2147483648 := by omega) : Rn G Ga Y kx d b pc ls (.int (nI x) :: st) I := Rn.if_ge (pc' := pc + 3) hd ht (fun _ => k) (fun h => absurd (nI_pos' hx) h) rfl
theorem nI_z {x : Nat} (hx : x < 2147483648) : nI x = 0 ↔ x = 0 := by rw [← nI_0]; exact nI_eq (by omega) (by omega)
theorem nI_le0 {x : Nat} (hx : x < 2147483648) : nI x ≤ 0 ↔ x ≤ 0 := by rw [← nI_0]; exact nI_leI (by omega) (by omega)
theorem nI_gt0 {x : Nat} (hx : x < 2147483648) : 0 < nI x ↔ 0 < x := by rw [← nI_0]; exact nI_ltI (by omega) (by omega)
theorem Rn.if_eqN {x : Nat} {off : Int} (hd : decode Y.2.1 pc = .ok (.ifCond .eq off, 3)) (tgt : Nat) (kt : x = 0 → Rn G Ga Y kx d b tgt ls st I) (kf : x ≠ 0 → Rn G Ga Y kx d b pc' ls st I) (ht : (pc : Int) + off = (tgt : Int) := by decide) (hx : x < 2147483648 := by omega) (hp : pc + 3 = pc' := by rfl) : Rn G Ga Y kx d b pc ls (.int (nI x) :: st) I := Rn.if_eq hd ht (fun h => kt ((nI_z hx).mp h)) (fun h => kf (fun q => h ((nI_z hx).mpr q))) hp
theorem Rn.if_neN {x : Nat} {off : Int} (hd : decode Y.2.1 pc = .ok (.ifCond .ne off, 3)) (tgt : Nat) (kt : x ≠ 0 → Rn G Ga Y kx d b tgt ls st I) (kf : x = 0 → Rn G Ga Y kx d b pc' ls st I) (ht : (pc : Int) + off = (tgt : Int) := by decide) (hx : x < 2147483648 := by omega) (hp : pc + 3 = pc' := by rfl) : Rn G Ga Y kx d b pc ls (.int (nI x) :: st) I := Rn.if_ne hd ht (fun h => kt (fun q => h ((nI_z hx).mpr q))) (fun h => kf ((nI_z hx).mp h)) hp
theorem Rn.if_leN {x : Nat} {off : Int} (hd : decode Y.2.1 pc = .ok (.ifCond .le off, 3)) (tgt : Nat) (kt : x = 0 → Rn G Ga Y kx d b tgt ls st I) (kf : x ≠ 0 → Rn G Ga Y kx d b pc' ls st I) (ht : (pc : Int) + off = (tgt : Int) := by decide) (hx : x < 2147483648 := by omega) (hp : pc + 3 = pc' := by rfl) : Rn G Ga Y kx d b pc ls (.int (nI x) :: st) I := Rn.if_le hd ht (fun h => kt (by have := (nI_le0 hx).mp h; omega)) (fun h => kf (fun q => h ((nI_le0 hx).mpr (by omega)))) hp
theorem Rn.if_gtN {x : Nat} {off : Int} (hd : decode Y.2.1 pc = .ok (.ifCond .gt off, 3)) (tgt : Nat) (kt : x ≠ 0 → Rn G Ga Y kx d b tgt ls st I) (kf : x = 0 → Rn G Ga Y kx d b pc' ls st I) (ht : (pc : Int) + off = (tgt : Int) := by decide) (hx : x < 2147483648 := by omega) (hp : pc + 3 = pc' := by rfl) : Rn G Ga Y kx d b pc ls (.int (nI x) :: st) I := Rn.if_gt hd ht (fun h => kt (by have := (nI_gt0 hx).mp h; omega)) (fun h => kf (by false_or_by_contra; exact h ((nI_gt0 hx).mpr (by omega)))) hp
theorem Rn.icmp_eqN {x y : Nat} {off : Int} (hd : decode Y.2.1 pc = .ok (.if_icmp .eq off, 3)) (tgt : Nat) (kt : x = y → Rn G Ga Y kx d b tgt ls st I) (kf : x ≠ y → Rn G Ga Y kx d b pc' ls st I) (ht : (pc : Int) + off = (tgt : Int) := by decide) (hx : x < 2147483648 := by omega) (hy : y < 2147483648 := by omega) (hp : pc + 3 = pc' := by rfl) : Rn G Ga Y kx d b pc ls (.int (nI y) :: .int (nI x) :: st) I := Rn.icmp_eq hd ht (fun h => kt ((nI_eq hx hy).mp h)) (fun h => kf (fun q => h ((nI_eq hx hy).mpr q))) hp
theorem Rn.icmp_neN {x y : Nat} {off : Int} (hd : decode Y.2.1 pc = .ok (.if_icmp .ne off, 3)) (tgt : Nat) (kt : x ≠ y → Rn G Ga Y kx d b tgt ls st I) (kf : x = y → Rn G Ga Y kx d b pc' ls st I) (ht : (pc : Int) + off = (tgt : Int) := by decide) (hx : x < 2147483648 := by omega) (hy : y < 2147483648 := by omega) (hp : pc + 3 = pc' := by rfl) : Rn G Ga Y kx d b pc ls (.int (nI y) :: .int (nI x) :: st) I := Rn.icmp_ne hd ht (fun h => kt (fun q => h ((nI_eq hx hy).mpr q))) (fun h => kf ((nI_eq hx hy).mp h)) hp
theorem Rn.icmp_ltN {x y : Nat} {off : Int} (hd : decode Y.2.1 pc = .ok (.if_icmp .lt off, 3)) (tgt : Nat) (kt : x < y → Rn G Ga Y kx d b tgt ls st I) (kf : y ≤ x → Rn G Ga Y kx d b pc' ls st I) (ht : (pc : Int) + off = (tgt : Int) := by decide) (hx : x < 2147483648 := by omega) (hy : y < 2147483648 := by omega) (hp : pc + 3 = pc' := by rfl) : Rn G Ga Y kx d b pc ls (.int (nI y) :: .int (nI x) :: st) I := Rn.icmp_lt hd ht (fun h => kt ((nI_ltI hx hy).mp h)) (fun h => kf (Nat.not_lt.mp fun q => h ((nI_ltI hx hy).mpr q))) hp
theorem Rn.icmp_geN {x y : Nat} {off : Int} (hd : decode Y.2.1 pc = .ok (.if_icmp .ge off, 3)) (tgt : Nat) (kt : y ≤ x → Rn G Ga Y kx d b tgt ls st I) (kf : x < y → Rn G Ga Y kx d b pc' ls st I) (ht : (pc : Int) + off = (tgt : Int) := by decide) (hx : x < 2147483648 := by omega) (hy : y < 2147483648 := by omega) (hp : pc + 3 = pc' := by rfl) : Rn G Ga Y kx d b pc ls (.int (nI y) :: .int (nI x) :: st) I := Rn.icmp_ge hd ht (fun h => kt ((nI_leI hy hx).mp h)) (fun h => kf (Nat.not_le.mp fun q => h ((nI_leI hy hx).mpr q))) hp
theorem Rn.icmp_gtN {x y : Nat} {off : Int} (hd : decode Y.2.1 pc = .ok (.if_icmp .gt off, 3)) (tgt : Nat) (kt : y < x → Rn G Ga Y kx d b tgt ls st I) (kf : x ≤ y → Rn G Ga Y kx d b pc' ls st I) (ht : (pc : Int) + off = (tgt : Int) := by decide) (hx : x < 2147483648 := by omega) (hy : y < 2147483648 := by omega) (hp : pc + 3 = pc' := by rfl) : Rn G Ga Y kx d b pc ls (.int (nI y) :: .int (nI x) :: st) I := Rn.icmp_gt hd ht (fun h => kt ((nI_ltI hy hx).mp h)) (fun h => kf (Nat.not_lt.mp fun q => h ((nI_ltI hy hx).mpr q))) hp
theorem Rn.icmp_leN {x y : Nat} {off : Int} (hd : decode Y.2.1 pc = .ok (.if_icmp .le off, 3)) (tgt : Nat) (kt : x ≤ y → Rn G Ga Y kx d b tgt ls st I) (kf : y < x → Rn G Ga Y kx d b pc' ls st I) (ht : (pc : Int) + off = (tgt : Int) := by decide) (hx : x < 2147483648 := by omega) (hy : y < 2147483648 := by omega) (hp : pc + 3 = pc' := by rfl) : Rn G Ga Y kx d b pc ls (.int (nI y) :: .int (nI x) :: st) I := Rn.icmp_le hd ht (fun h => kt ((nI_leI hx hy).mp h)) (fun h => kf (Nat.not_le.mp fun q => h ((nI_leI hx hy).mpr q))) hp
theorem Rn.iincN {i x : Nat} (hd : decode Y.2.1 pc = .ok (.iinc i 1, 3)) (h : ls[i]? = some (some (.int (nI x)))) (hn : i < Y.2.2.1) (k : Rn G Ga Y kx d b pc' (ls.set i (some (.int (nI (x + 1))))) st I) (hp : pc + 3 = pc' := by rfl) : Rn G Ga Y kx d b pc ls st I := Rn.iinc hd h (nI_1 x) hn k hp
theorem Rn.callVp {C : String} {T : u_T} {N ci idx a n : Nat} {fl : List (Option (Option Nat))} {As rest : List Value} {y : Ym} {v : Option Value} {J : Hi} (hd : decode Y.2.1 pc = .ok (.invokevirtual idx, 3)) (hM : zMv Y.1.cls idx C y n) (hG : Ga[a]? = some (.inl (ci, fl))) (hC : vwCl[ci]? = some (C, T, N))
    (hst : st = As.reverse ++ .ref a :: rest) (hn : As.length = n) (hr : (rest.map fun v => v.category).sum ≤ 8) (hct : Ct G Ga y d 0 (.ref a :: As) I (Rp v J))
    (k : Rn G Ga Y kx (d + 1) b pc' ls (v.toList ++ rest) J) (hp : pc + 3 = pc' := by rfl) : Rn G Ga Y kx (d + 1) b pc ls st I :=
  Rn.callV hd hM hG hC hst hn hr hct (fun E J h => nomatch h.1) (fun w K h => by obtain ⟨h1, h2⟩ := h; cases h1; cases h2; exact k) hp
theorem Rn.callSp {idx n : Nat} {As rest : List Value} {y : Ym} {v : Option Value} {J : Hi} (hd : decode Y.2.1 pc = .ok (.invokestatic idx, 3)) (hM : zMs Y.1.cls idx y n)
    (hst : st = As.reverse ++ rest) (hn : As.length = n) (hr : (rest.map fun v => v.category).sum ≤ 8) (hct : Ct G Ga y d 0 As I (Rp v J))
    (k : Rn G Ga Y kx (d + 1) b pc' ls (v.toList ++ rest) J) (hp : pc + 3 = pc' := by rfl) : Rn G Ga Y kx (d + 1) b pc ls st I :=
  Rn.callS hd hM hst hn hr hct (fun E J h => nomatch h.1) (fun w K h => by obtain ⟨h1, h2⟩ := h; cases h1; cases h2; exact k) hp
end RnN
end
section
def imin (x y : Int32) : Int32 := if y < x then y else x
def imax (x y : Int32) : Int32 := if x < y then y else x
def iabs (x : Int32) : Int32 := if 0 ≤ x then x else 0 - x
section RnMath
variable {G : Gx} {Ga : List Shp} {Y : Ym} {kx : Kx} {d b pc pc' idx : Nat} {ls : List (Option Value)} {st : List Value} {I : Hi}
theorem Rn.mmin {x y : Int32} (hd : decode Y.2.1 pc = .ok (.invokestatic idx, 3)) (hM : zMs Y.1.cls idx (Lib.Math.min.name, Lib.Math.min.code, 2, some .int) 2) (hr : (st.map fun v => v.category).sum ≤ 8) (k : Rn G Ga Y kx d b pc' ls (.int (imin x y) :: st) I) (hp : pc + 3 = pc' := by rfl) : Rn G Ga Y kx d b pc ls (.int y :: .int x :: st) I := by
  subst hp
  intro p e R s m args below meth c H locs cells slots tc ts Z F hk lsA hl
  have hts := F.1.2.2.2.2.2.2.1
  exact va_mmin F.1.1 F.1.2.1 (F.1.2.2.1.trans hl.1.symm) F.1.2.2.2.2.2.1 (hts _ hM.1.1) (hts _ hM.2) (hts _ hM.1.2.1) (hts _ hM.1.2.2.1) (by have := F.2.2.1; omega) (by rw [zsum]; have := F.2.2.2.1; omega) (by have := F.2.2.2.2.1; have := F.2.2.2.2.2.2.1; omega) (by have := F.2.2.2.2.2.1; have := F.2.2.2.2.2.2.2; omega) hd (k p e R s m args below meth c H locs cells slots tc ts Z F hk lsA hl)
theorem Rn.mmax {x y : Int32} (hd : decode Y.2.1 pc = .ok (.invokestatic idx, 3)) (hM : zMs Y.1.cls idx (Lib.Math.max.name, Lib.Math.max.code, 2, some .int) 2) (hr : (st.map fun v => v.category).sum ≤ 8) (k : Rn G Ga Y kx d b pc' ls (.int (imax x y) :: st) I) (hp : pc + 3 = pc' := by rfl) : Rn G Ga Y kx d b pc ls (.int y :: .int x :: st) I := by
  subst hp
  intro p e R s m args below meth c H locs cells slots tc ts Z F hk lsA hl
  have hts := F.1.2.2.2.2.2.2.1
  exact va_mmax F.1.1 F.1.2.1 (F.1.2.2.1.trans hl.1.symm) F.1.2.2.2.2.2.1 (hts _ hM.1.1) (hts _ hM.2) (hts _ hM.1.2.1) (hts _ hM.1.2.2.1) (by have := F.2.2.1; omega) (by rw [zsum]; have := F.2.2.2.1; omega) (by have := F.2.2.2.2.1; have := F.2.2.2.2.2.2.1; omega) (by have := F.2.2.2.2.2.1; have := F.2.2.2.2.2.2.2; omega) hd (k p e R s m args below meth c H locs cells slots tc ts Z F hk lsA hl)
theorem Rn.mabs {x : Int32} (hd : decode Y.2.1 pc = .ok (.invokestatic idx, 3)) (hM : zMs Y.1.cls idx (Lib.Math.abs.name, Lib.Math.abs.code, 1, some .int) 1) (hr : (st.map fun v => v.category).sum ≤ 8) (k : Rn G Ga Y kx d b pc' ls (.int (iabs x) :: st) I) (hp : pc + 3 = pc' := by rfl) : Rn G Ga Y kx d b pc ls (.int x :: st) I := by
  subst hp
  intro p e R s m args below meth c H locs cells slots tc ts Z F hk lsA hl
  have hts := F.1.2.2.2.2.2.2.1
  exact va_mabs F.1.1 F.1.2.1 (F.1.2.2.1.trans hl.1.symm) F.1.2.2.2.2.2.1 (hts _ hM.1.1) (hts _ hM.2) (hts _ hM.1.2.1) (hts _ hM.1.2.2.1) (by have := F.2.2.1; omega) (by rw [zsum]; have := F.2.2.2.1; omega) (by have := F.2.2.2.2.1; have := F.2.2.2.2.2.2.1; omega) (by have := F.2.2.2.2.2.1; have := F.2.2.2.2.2.2.2; omega) hd (k p e R s m args below meth c H locs cells slots tc ts Z F hk lsA hl)
end RnMath
end
section
/-! worlds that grow: what constructors make -/
theorem zin {w : Cond} (i : Nat) (h : lw_tbl[i]? = some w) (g : goodWord w = true) : w ∈ WA := List.mem_filter.mpr ⟨List.mem_of_getElem? h, g⟩
abbrev gw (G : Gx) (ad : Nat → Nat) : Gx := (G.1, G.2.1, G.2.2.1, ad, G.2.2.2.2.1, G.2.2.2.2.2)
def adx (ad : Nat → Nat) (n a : Nat) : Nat → Nat := fun k => if k = n then a else ad k
/-- all that a shape refers to is below n -/
def zok (n : Nat) : Shp → Prop
  | .inl q => ∀ x ∈ q.2, ∀ r, x = some (some r) → r < n
  | .inr q => (∃ C, q.1 = .object C) → ∀ j r, q.2.2 j = some r → r < n
def zOK (Ga : List Shp) (n : Nat) : Prop := ∀ sh ∈ Ga, zok n sh
theorem zok.up {n m : Nat} {sh : Shp} (h : zok n sh) (hm : n ≤ m) : zok m sh := by
  cases sh with
  | inl q => exact fun x hx r hr => Nat.lt_of_lt_of_le (h x hx r hr) hm
  | inr q => exact fun hC j r hr => Nat.lt_of_lt_of_le (h hC j r hr) hm
theorem zOK.up {n m : Nat} {Ga : List Shp} (h : zOK Ga n) (hm : n ≤ m) : zOK Ga m := fun sh hs => (h sh hs).up hm
theorem zOK.app {n : Nat} {Ga Gb : List Shp} (h : zOK Ga n) (h2 : zOK Gb n) : zOK (Ga ++ Gb) n := fun sh hs => (List.mem_append.mp hs).elim (h sh) (h2 sh)
theorem zOK.set {n a : Nat} {Ga : List Shp} {sh : Shp} (h : zOK Ga n) (h2 : zok n sh) : zOK (Ga.set a sh) n := fun x hx => (List.mem_or_eq_of_mem_set hx).elim (h x) (fun e => by rw [e]; exact h2)
theorem zcell_ad {ad ad' : Nat → Nat} {n : Nat} (he : ∀ k, k < n → ad' k = ad k) {dA : FieldType → ClassId} {g : Nat → Int32} {sh : Shp} (h : zok n sh) : zcell ad' dA g sh = zcell ad dA g sh := by
  cases sh with
  | inl q =>
    show (Sum.inr (q.1, _) : va_E) = Sum.inr (q.1, _)
    congr 2
    apply List.ext_getElem?
    intro i
    simp only [List.getElem?_mapIdx]
    cases hx : q.2[i]? with
    | none => rfl
    | some x =>
      have hm := List.mem_of_getElem? hx
      simp only [Option.map_some]
      cases x with
      | none => rfl
      | some r =>
        cases r with
        | none => rfl
        | some r => simp only [zfv, Option.map_some, va_rf]; rw [he r (h _ hm r rfl)]
  | inr q =>
    obtain ⟨ty, len, f⟩ := q
    cases ty with
    | object C =>
      show (Sum.inl (dA (.object C), len, Sum.inr (Sum.inr (Sum.inr (Sum.inr (fun j => (f j).map ad'))))) : va_E) = Sum.inl (dA (.object C), len, Sum.inr (Sum.inr (Sum.inr (Sum.inr (fun j => (f j).map ad)))))
      have : (fun j => (f j).map ad') = (fun j => (f j).map ad) := by
        funext j
        cases hj : f j with
        | none => rfl
        | some r => simp only [Option.map_some]; rw [he r (h ⟨C, rfl⟩ j r hj)]
      rw [this]
    | _ => rfl
theorem zws_ad {Ga : List Shp} {ad ad' : Nat → Nat} {dA : FieldType → ClassId} {I : Hi} {n : Nat} (hn : Ga.length ≤ n) (he : ∀ k, k < n → ad' k = ad k) (hok : zOK Ga n) : zws Ga ad' dA I = zws Ga ad dA I := by
  apply List.ext_getElem?
  intro i
  simp only [zws, List.getElem?_mapIdx]
  cases hx : Ga[i]? with
  | none => rfl
  | some sh =>
    have hi : i < Ga.length := (List.getElem?_eq_some_iff.mp hx).1
    simp only [Option.map_some]
    rw [zcell_ad he (hok sh (List.mem_of_getElem? hx)), he i (Nat.lt_of_lt_of_le hi hn)]
theorem zws_app {Ga : List Shp} {ad : Nat → Nat} {dA : FieldType → ClassId} {I : Hi} {sh : Shp} {n : Nat} (hn : Ga.length = n) : zws (Ga ++ [sh]) ad dA I = zws Ga ad dA I ++ [(ad n, zcell ad dA (I n) sh)] := by
  subst hn
  simp [zws, List.mapIdx_append]
theorem zA_eq {G0 : Gx} {ad : Nat → Nat} {Ga0 Ga : List Shp} {sz : Nat} (hn : Ga0.length ≤ Ga.length) (h1 : ∀ k, k < Ga0.length → ad k = gad G0 k) (h2 : ∀ k, Ga0.length ≤ k → k < Ga.length → sz ≤ ad k) : zA (gw G0 ad) Ga sz = zA G0 Ga0 sz := by
  funext q
  apply propext
  constructor
  · rintro (⟨k, hk, rfl⟩ | h)
    · by_cases hk0 : k < Ga0.length
      · exact Or.inl ⟨k, hk0, h1 k hk0⟩
      · exact Or.inr (h2 k (Nat.not_lt.mp hk0) hk)
    · exact Or.inr h
  · rintro (⟨k, hk, rfl⟩ | h)
    · exact Or.inl ⟨k, Nat.lt_of_lt_of_le hk hn, (h1 k hk).symm⟩
    · exact Or.inr h
/-- an id that growth from n up to m leaves as it was -/
def vlt (n m : Nat) : Value → Bool
  | .ref r => Nat.blt r n || Nat.ble m r
  | _ => true
theorem vlt_zr {n m : Nat} {ad ad' : Nat → Nat} (he : ∀ k, (k < n ∨ m ≤ k) → ad' k = ad k) {v : Value} (h : vlt n m v = true) : zr ad' v = zr ad v := by
  cases v with
  | ref r =>
    simp only [vlt, Bool.or_eq_true, Nat.blt_eq, Nat.ble_eq] at h
    show Value.ref _ = Value.ref _
    rw [he r h]
  | _ => rfl
def zlt (n m : Nat) (ls : List (Option Value)) (st : List Value) : Bool := ls.all (fun o => match o with | some v => vlt n m v | none => true) && st.all (vlt n m)
theorem zlt_st {n m : Nat} {ad ad' : Nat → Nat} {ls : List (Option Value)} {st : List Value} (he : ∀ k, (k < n ∨ m ≤ k) → ad' k = ad k) (h : zlt n m ls st = true) : st.map (zr ad') = st.map (zr ad) := by
  simp only [zlt, Bool.and_eq_true, List.all_eq_true] at h
  exact List.map_congr_left (fun v hv => vlt_zr he (h.2 v hv))
theorem zlt_ls {n m : Nat} {ad ad' : Nat → Nat} (he : ∀ k, (k < n ∨ m ≤ k) → ad' k = ad k) : ∀ {ls : List (Option Value)} {st : List Value} (i : Nat), zlt n m ls st = true → zl ad' i ls = zl ad i ls := by
  intro ls
  induction ls with
  | nil => intro st i h; rfl
  | cons o r ih =>
    intro st i h
    have h2 : zlt n m r st = true := by
      simp only [zlt, List.all_cons, Bool.and_eq_true] at h ⊢
      exact ⟨h.1.2, h.2⟩
    cases o with
    | none => exact ih (i + 1) h2
    | some v =>
      have hv : vlt n m v = true := by
        simp only [zlt, List.all_cons, Bool.and_eq_true] at h
        exact h.1.1
      simp only [zl, ih (i + 1) h2, vlt_zr he hv]
theorem zK.grow {G : Gx} {ad : Nat → Nat} {A : Nat → Prop} {U : State} {H : Heap} (he : ∀ k, 1000 ≤ k → ad k = gad G k) (h : zK G A U H) : zK (gw G ad) A U H := by
  obtain ⟨h1, h2, h3, h4⟩ := h
  refine ⟨h1, h2, fun r hr => ?_, h4⟩
  have h5 := h3 r hr
  have h6 : 1000 ≤ r.2.2.2 := by
    have : ∀ r ∈ zSR, 1000 ≤ r.2.2.2 := by decide +kernel
    exact this r hr
  show vk_R r.1 r.2.1 r.2.2.1 (ad r.2.2.2) U
  rw [he _ h6]
  exact h5
/-- a frame's end under growth: K, and what has grown since (G0, n0) -/
def kZ (K : Kx) (G0 : Gx) (n0 : Nat) (ad : Nat → Nat) (n : Nat) : Kx := fun s args below c tc ts Z => K s args below c tc ts Z ∧ (∀ k, (k < n0 ∨ n ≤ k) → ad k = gad G0 k) ∧ (∀ k, n0 ≤ k → k < n → s.heap.size ≤ ad k) ∧ n0 ≤ n ∧ n ≤ 900
theorem Rn.kmono {G : Gx} {Ga : List Shp} {Y : Ym} {kx kx' : Kx} {d b pc : Nat} {ls : List (Option Value)} {st : List Value} {I : Hi} (h : ∀ s args below c tc ts Z, kx s args below c tc ts Z → kx' s args below c tc ts Z) (k : Rn G Ga Y kx' d b pc ls st I) : Rn G Ga Y kx d b pc ls st I := fun p e R s m args below meth c H locs cells slots tc ts Z F hk lsA hl => k p e R s m args below meth c H locs cells slots tc ts Z F (h _ _ _ _ _ _ _ hk) lsA hl
section Grow
variable {G0 : Gx} {K : Kx} {n0 : Nat} {ad : Nat → Nat} {Ga : List Shp} {Y : Ym} {d b pc pc' : Nat} {ls : List (Option Value)} {st : List Value} {I : Hi}
/-- behind a growth by one cell -/
theorem zgrow1 {sh : Shp} {p : Program} {e : Env} {R : Room} {s : State} {m : MethodId} {args : Array Value} {below : List Frame} {meth : Method} {c : Code} {H H1 : Heap} {locs : List Loc} {cells slots tc ts N q b2 pc2 : Nat} {Z : State → Prop} {lsA : Array Slot}
    (F : zFr (gw G0 ad) Ga Y d b2 I p R s m args meth c H locs cells slots tc ts) (hk : kZ K G0 n0 ad Ga.length s args below c tc ts Z) (hl : lv_has lsA Y.2.2.1 (zl ad 0 ls)) (hok : zOK Ga Ga.length) (hsh : zok Ga.length sh) (hv : zlt Ga.length (Ga.length + 1) ls st = true) (hn : Ga.length < 900)
    (hP : va_P (gD G0) vwCl (zws Ga ad (gA G0) I ++ [(q, zcell ad (gA G0) (I Ga.length) sh)]) H1) (hD : va_D (zA (gw G0 ad) Ga s.heap.size) (zws Ga ad (gA G0) I ++ [(q, zcell ad (gA G0) (I Ga.length) sh)])) (hS : va_S (zA (gw G0 ad) Ga s.heap.size) s.heap H1 locs)
    (hb : 1 + b ≤ b2) (hb6 : N + 6 * b ≤ 6 * b2)
    (kk : ∀ ad', Rn (gw G0 ad') (Ga ++ [sh]) Y (kZ K G0 n0 ad' (Ga.length + 1)) d b pc2 ls (.ref Ga.length :: st) I) : W p (gL G0) e R s m args below meth c H1 locs (cells + 1) (slots + N) Z (F0 m pc2 lsA (.ref q :: st.map (zr ad))) := by
  obtain ⟨F1, -, F3, F4, F5, F6, F7, F8⟩ := F
  obtain ⟨hK, g1, g2, g3, g4⟩ := hk
  have he : ∀ k, (k < Ga.length ∨ Ga.length + 1 ≤ k) → adx ad Ga.length q k = ad k := fun k hk => if_neg (by omega)
  have hq : s.heap.size ≤ q := by
    have h1 := hD.2 Ga.length (q, zcell ad (gA G0) (I Ga.length) sh) (by rw [List.getElem?_append_right (by rw [zws_len]; exact Nat.le_refl _), zws_len]; simp)
    rcases h1 with ⟨k, hk, h2⟩ | h1
    · exfalso
      have h3 := hD.1 k Ga.length (ad k, zcell ad (gA G0) (I k) Ga[k]) (q, zcell ad (gA G0) (I Ga.length) sh) (by rw [List.getElem?_append_left (by rw [zws_len]; exact hk)]; exact zws_get (List.getElem?_eq_getElem hk)) (by rw [List.getElem?_append_right (by rw [zws_len]; exact Nat.le_refl _), zws_len]; simp) h2.symm
      omega
    · exact h1
  have hw : zws (Ga ++ [sh]) (adx ad Ga.length q) (gA G0) I = zws Ga ad (gA G0) I ++ [(q, zcell ad (gA G0) (I Ga.length) sh)] := by
    rw [zws_app rfl, zws_ad (Nat.le_refl _) (fun k hk => he k (Or.inl hk)) hok, zcell_ad (fun k hk => he k (Or.inl hk)) hsh]
    rw [show adx ad Ga.length q Ga.length = q from if_pos rfl]
  have hA : zA (gw G0 (adx ad Ga.length q)) (Ga ++ [sh]) s.heap.size = zA (gw G0 ad) Ga s.heap.size :=
    zA_eq (G0 := gw G0 ad) (Ga0 := Ga) (by simp) (fun k hk => he k (Or.inl hk)) (fun k h1 h2 => by
      rw [List.length_append] at h2
      obtain rfl : k = Ga.length := by simp at h2; omega
      rw [show adx ad Ga.length q Ga.length = q from if_pos rfl]; exact hq)
  have F9 : zFr (gw G0 (adx ad Ga.length q)) (Ga ++ [sh]) Y d b I p R s m args meth c H1 locs (cells + 1) (slots + N) tc ts := by
    refine ⟨⟨F1.1, F1.2.1, F1.2.2.1, F1.2.2.2.1, F1.2.2.2.2.1, F1.2.2.2.2.2.1, F1.2.2.2.2.2.2.1, ?_⟩, ⟨?_, ?_, ?_⟩, F3, F4, by omega, by omega, F7, F8⟩
    · rw [hA]; exact zK.grow (G := gw G0 ad) (fun k hk => he k (Or.inr (by omega))) F1.2.2.2.2.2.2.2
    · show va_P (gD G0) vwCl (zws (Ga ++ [sh]) (adx ad Ga.length q) (gA G0) I) H1
      rw [hw]; exact hP
    · rw [hA]
      show va_D _ (zws (Ga ++ [sh]) (adx ad Ga.length q) (gA G0) I)
      rw [hw]; exact hD
    · rw [hA]; exact hS
  have hk9 : kZ K G0 n0 (adx ad Ga.length q) (Ga.length + 1) s args below c tc ts Z := by
    refine ⟨hK, fun k hk => ?_, fun k h1 h2 => ?_, by omega, by omega⟩
    · rw [he k (by omega)]; exact g1 k (by omega)
    · by_cases h3 : k = Ga.length
      · rw [h3, show adx ad Ga.length q Ga.length = q from if_pos rfl]; exact hq
      · rw [he k (by omega)]; exact g2 k h1 (by omega)
  have h9 := kk (adx ad Ga.length q) p e R s m args below meth c H1 locs (cells + 1) (slots + N) tc ts Z F9 hk9 lsA (by show lv_has lsA Y.2.2.1 (zl (adx ad Ga.length q) 0 ls); rw [zlt_ls he 0 hv]; exact hl)
  have h10 : (Value.ref Ga.length :: st).map (zr (adx ad Ga.length q)) = .ref q :: st.map (zr ad) := by
    rw [List.map_cons, zlt_st he hv]
    show Value.ref (adx ad Ga.length q Ga.length) :: _ = _
    rw [show adx ad Ga.length q Ga.length = q from if_pos rfl]
  exact W.eq (by show F0 m pc2 lsA _ = F0 m pc2 lsA _; rw [← h10]) h9
/-- a class that may be made: its number, its fields as they are made -/
def zNw (own : String) (idx ci N : Nat) (fl : List (Option (Option Nat))) : Prop := ∃ (C : String) (T : u_T) (ty : Nat → FieldType), vwCl[ci]? = some (C, T, N) ∧ (∀ w ∈ u_ws C T N, w ∈ WA) ∧ (∀ k, k < N → parseFieldDescriptor (T k).2.2.1 = some (ty k)) ∧ Cond.classLink own idx C ∈ WA ∧ Cond.instantiable C N ∈ WA ∧ Cond.initialized C ∈ WA ∧ fl.length = N ∧
  (List.range N).all (fun j => match fl[j]? with | some none => decide (defaultValue (ty j) = .int 0) | some (some none) => decide (defaultValue (ty j) = .null) | _ => false) = true
theorem Rn.newZ {idx ci N k : Nat} {fl : List (Option (Option Nat))} (hd : decode Y.2.1 pc = .ok (.new idx, 3)) (hN : zNw Y.1.cls idx ci N fl) (hok : zOK Ga Ga.length) (hz : I Ga.length = fun _ => 0) (hv : zlt Ga.length (Ga.length + 1) ls st = true) (hn : Ga.length < 900) (hk1 : 1 ≤ k) (hk6 : N ≤ 6 * k)
    (kk : ∀ ad', Rn (gw G0 ad') (Ga ++ [.inl (ci, fl)]) Y (kZ K G0 n0 ad' (Ga.length + 1)) d b pc' ls (.ref Ga.length :: st) I) (hp : pc + 3 = pc' := by rfl) : Rn (gw G0 ad) Ga Y (kZ K G0 n0 ad Ga.length) d (b + k) pc ls st I := by
  subst hp
  obtain ⟨C, T, ty, h1, h2, h3, h4, h5, h6, h7, h8⟩ := hN
  intro p e R s m args below meth c H locs cells slots tc ts Z F hk lsA hl
  have F0' := F
  obtain ⟨F1, ⟨hP, hD, hS⟩, F3, F4, F5, F6, F7, F8⟩ := F
  have hts := F1.2.2.2.2.2.2.1
  have hfl : ∀ j, j < N → (fl[j]? = some none ∧ defaultValue (ty j) = .int 0) ∨ (fl[j]? = some (some none) ∧ defaultValue (ty j) = .null) := by
    intro j hj
    have := List.all_eq_true.mp h8 j (List.mem_range.mpr hj)
    split at this
    · rename_i e; exact Or.inl ⟨e, by simpa using this⟩
    · rename_i e; exact Or.inr ⟨e, by simpa using this⟩
    · cases this
  have hsh : zok Ga.length (.inl (ci, fl)) := by
    intro x hx r hr
    obtain ⟨j, hj, rfl⟩ := List.getElem_of_mem hx
    have hj9 : j < fl.length := hj
    rcases hfl j (by omega) with ⟨e1, -⟩ | ⟨e1, -⟩
    · rw [List.getElem?_eq_getElem hj, hr] at e1; cases e1
    · rw [List.getElem?_eq_getElem hj, hr] at e1; cases e1
  refine va_new (ci := ci) (C := C) (T := T) (N := N) F1.1 F1.2.1 hts h2 ty h3 F1.2.2.2.2.2.1 (hts _ h4) (hts _ h5) (hts _ h6) F1.2.2.2.2.2.2.2.1 hP hD hS (fun q h => Or.inr h) h1 (fs := fl.mapIdx (fun j x => zfv ad (I Ga.length j) x)) (fun j hj => ?_) (by omega) (by omega) hd (fun q H1 hP1 hD1 hS1 => ?_)
  · have : ((fl.mapIdx (fun j x => zfv ad (I Ga.length j) x)) : List Value)[j]? = some (defaultValue (ty j)) := by
      rw [List.getElem?_mapIdx]
      rcases hfl j hj with ⟨e1, e2⟩ | ⟨e1, e2⟩
      · rw [e1, e2, hz]; rfl
      · rw [e1, e2]; rfl
    unfold vp_V
    rw [List.getD_eq_getElem?_getD, this]; rfl
  · exact zgrow1 (G0 := G0) (K := K) (n0 := n0) (ad := ad) (b := b) (sh := .inl (ci, fl)) F0' hk hl hok hsh hv hn hP1 hD1 hS1 (by omega) (by omega) kk
theorem Rn.newaZ {n k : Nat} {at_ : ArrayType} {ty : FieldType} {x : Int32} (hd : decode Y.2.1 pc = .ok (.newarray at_, 2)) (hty : newarray.typeOf at_ = ty) (ht3 : ty = .int ∨ ty = .byte ∨ ty = .long) (hw : Cond.arrayClass ty ∈ WA) (hx : x = nI n) (hn9 : n < 100000) (hok : zOK Ga Ga.length) (hz : I Ga.length = fun _ => 0) (hv : zlt Ga.length (Ga.length + 1) ls st = true) (hn : Ga.length < 900) (hk1 : 1 ≤ k) (hk6 : n ≤ 6 * k)
    (kk : ∀ ad', Rn (gw G0 ad') (Ga ++ [.inr (ty, n, fun _ => none)]) Y (kZ K G0 n0 ad' (Ga.length + 1)) d b pc' ls (.ref Ga.length :: st) I) (hp : pc + 2 = pc' := by rfl) : Rn (gw G0 ad) Ga Y (kZ K G0 n0 ad Ga.length) d (b + k) pc ls (.int x :: st) I := by
  subst hp
  subst hx
  intro p e R s m args below meth c H locs cells slots tc ts Z F hk lsA hl
  have F0' := F
  obtain ⟨F1, ⟨hP, hD, hS⟩, F3, F4, F5, F6, F7, F8⟩ := F
  have hts := F1.2.2.2.2.2.2.1
  have hK1 := F1.2.2.2.2.2.2.2.1
  have hsh : zok Ga.length (.inr (ty, n, fun _ => none)) := fun _ j r hr => nomatch hr
  have hza : ∀ cA : ClassId, vp_cell cA (n, zarr ad (I Ga.length) (fun _ => none) ty) = arrV cA n (fun _ => defaultValue ty) := by
    intro cA
    rcases ht3 with rfl | rfl | rfl <;> (rw [hz]; rfl)
  have hk4 : ∃ i : Nat, (ztys (gA G0))[i]? = some (gA G0 ty, ty) := by
    rcases ht3 with rfl | rfl | rfl
    · exact ⟨0, rfl⟩
    · exact ⟨1, rfl⟩
    · exact ⟨2, rfl⟩
  obtain ⟨i4, hi4⟩ := hk4
  refine va_newa (ty := ty) (N' := n) (a0 := (n, zarr ad (I Ga.length) (fun _ => none) ty)) F1.1 F1.2.1 (by rw [hty]; exact hts _ hw) hty hK1 hP hD hS (fun q h => Or.inr h) hza (nI_pos (by omega)) (nI_clamp (by omega)) (by rcases ht3 with rfl | rfl | rfl <;> (simp only [componentBytes]; omega)) (by omega) (by omega) hd (fun q cA H1 hK9 hP1 hD1 hS1 => ?_)
  have e1 := (hK1.2 i4 _ hi4).2
  have e2 := (hK9.2 4 (cA, ty) rfl).2
  have hcA : cA = gA G0 ty := by
    rcases ht3 with rfl | rfl | rfl <;> exact Option.some.inj (e2.symm.trans e1)
  subst hcA
  exact zgrow1 (G0 := G0) (K := K) (n0 := n0) (ad := ad) (b := b) (sh := .inr (ty, n, fun _ => none)) F0' hk hl hok hsh hv hn hP1 hD1 hS1 (by omega) (by omega) kk
theorem Rn.newqZ {n k idx : Nat} {x : Int32} (hd : decode Y.2.1 pc = .ok (.anewarray idx, 3)) (hw : Cond.classLink Y.1.cls idx "BorrowedLuck$Coast" ∈ WA) (hx : x = nI n) (hn9 : n < 100000) (hok : zOK Ga Ga.length) (hv : zlt Ga.length (Ga.length + 1) ls st = true) (hn : Ga.length < 900) (hk1 : 1 ≤ k) (hk6 : n ≤ 6 * k)
    (kk : ∀ ad', Rn (gw G0 ad') (Ga ++ [.inr (.object "BorrowedLuck$Coast", n, fun _ => none)]) Y (kZ K G0 n0 ad' (Ga.length + 1)) d b pc' ls (.ref Ga.length :: st) I) (hp : pc + 3 = pc' := by rfl) : Rn (gw G0 ad) Ga Y (kZ K G0 n0 ad Ga.length) d (b + k) pc ls (.int x :: st) I := by
  subst hp
  subst hx
  intro p e R s m args below meth c H locs cells slots tc ts Z F hk lsA hl
  have F0' := F
  obtain ⟨F1, ⟨hP, hD, hS⟩, F3, F4, F5, F6, F7, F8⟩ := F
  have hts := F1.2.2.2.2.2.2.1
  have hK1 := F1.2.2.2.2.2.2.2.1
  have hsh : zok Ga.length (.inr (.object "BorrowedLuck$Coast", n, fun _ => none)) := fun _ j r hr => nomatch hr
  refine va_newq (C := "BorrowedLuck$Coast") (N' := n) F1.1 F1.2.1 F1.2.2.2.2.2.1 (hts _ hw) F1.2.2.2.2.2.2.2.2.2.2.2.2.1.2.2.2 hK1 hP hD hS (fun q h => Or.inr h) (nI_pos (by omega)) (nI_clamp (by omega)) (by omega) (by omega) (by omega) hd (fun q cA H1 hK9 hP1 hD1 hS1 => ?_)
  have e1 := (hK1.2 3 _ rfl).2
  have e2 := (hK9.2 4 (cA, .object "BorrowedLuck$Coast") rfl).2
  have hcA : cA = gA G0 (.object "BorrowedLuck$Coast") := by
    obtain ⟨_, _, _, _, _, e1⟩ := e1
    obtain ⟨_, _, _, _, _, e2⟩ := e2
    exact Option.some.inj (e2.symm.trans e1)
  subst hcA
  exact zgrow1 (G0 := G0) (K := K) (n0 := n0) (ad := ad) (b := b) (sh := .inr (.object "BorrowedLuck$Coast", n, fun _ => none)) F0' hk hl hok hsh hv hn hP1 hD1 hS1 (by omega) (by omega) kk
end Grow
section GrowPut
variable {G : Gx} {kx : Kx} {Ga : List Shp} {Y : Ym} {d b pc pc' : Nat} {ls : List (Option Value)} {st : List Value} {I : Hi}
/-- a final field of own's pool entry idx, written in a constructor -/
def zFf (own : String) (idx ci k : Nat) (ty : FieldType) : Prop := ∃ (C : String) (T : u_T) (N : Nat) (ref : String) (ty0 : Nat → FieldType), vwCl[ci]? = some (C, T, N) ∧ k < N ∧ (∀ w ∈ u_ws C T N, w ∈ WA) ∧ (ref = (T k).1 ∨ Cond.sameField ref (T k).1 (T k).2.1 (T k).2.2.1 ∈ WA) ∧
  (Cond.fieldLink own idx ref (T k).2.1 (T k).2.2.1 ∈ WA ∨ ∃ host, (own, idx, ref, (T k).2.1, (T k).2.2.1, host) ∈ zNl) ∧ (∀ k, k < N → parseFieldDescriptor (T k).2.2.1 = some (ty0 k)) ∧ (∀ a, a < N → ∀ b, b < N → a ≠ b → (T a).2.1 ≠ (T b).2.1) ∧ (T k).2.2.2 = true ∧ (T k).1 = own ∧ parseFieldDescriptor (T k).2.2.1 = some ty
theorem zws_sh {Ga : List Shp} {ad : Nat → Nat} {dA : FieldType → ClassId} {I : Hi} {a : Nat} (ha : a < Ga.length) (sh : Shp) {e : va_E} (he : e = zcell ad dA (I a) sh) : (zws Ga ad dA I).set a (ad a, e) = zws (Ga.set a sh) ad dA I := by
  subst he
  apply List.ext_getElem?
  intro i
  simp only [List.getElem?_set, zws, List.getElem?_mapIdx, List.length_mapIdx]
  by_cases hi : a = i
  · subst hi; simp [ha]
  · simp [hi]
theorem zA_set {G : Gx} {Ga : List Shp} {sz a : Nat} {sh : Shp} : zA G (Ga.set a sh) sz = zA G Ga sz := by
  unfold zA; rw [List.length_set]
theorem Rn.putR {idx ci j a r : Nat} {fl : List (Option (Option Nat))} {ty : FieldType} {x : Option Nat} (hd : decode Y.2.1 pc = .ok (.putfield idx, 3)) (hF : zFf Y.1.cls idx ci j ty) (hin : Y.1.name = "<init>") (hG : Ga[a]? = some (.inl (ci, fl))) (hj : fl[j]? = some (some x))
    (hn : ∀ q : Nat, narrow ty (.ref q) = .ref q ∧ fits ty (.ref q) = true) (k : Rn G (Ga.set a (.inl (ci, fl.set j (some (some r))))) Y kx d b pc' ls st I) (hp : pc + 3 = pc' := by rfl) : Rn G Ga Y kx d b pc ls (.ref r :: .ref a :: st) I := by
  subst hp
  obtain ⟨C, T, N, ref, ty0, h1, h2, h3, h4, h5, h6, h7, h8, h10, h9⟩ := hF
  intro p e R s m args below meth c H locs cells slots tc ts Z F hk lsA hl
  obtain ⟨F1, ⟨hP, hD, hS⟩, F3, F4, F5, F6, F7, F8, Fn⟩ := F
  have hlen : j < ((fl.mapIdx (fun q y => zfv (gad G) (I a q) y)) : List Value).length := by
    rw [List.length_mapIdx]; exact (List.getElem?_eq_some_iff.mp hj).1
  have ha : a < Ga.length := (List.getElem?_eq_some_iff.mp hG).1
  have hc : (.inr (ci, (fl.mapIdx (fun q y => zfv (gad G) (I a q) y)).set j (.ref (gad G r))) : va_E) = zcell (gad G) (gA G) (I a) (.inl (ci, fl.set j (some (some r)))) := by
    show (_ : va_E) = .inr (ci, (fl.set j (some (some r))).mapIdx (fun q y => zfv (gad G) (I a q) y))
    congr 2
    apply List.ext_getElem?
    intro i
    simp only [List.getElem?_set, List.getElem?_mapIdx, List.length_mapIdx]
    have hjl : j < fl.length := (List.getElem?_eq_some_iff.mp hj).1
    by_cases hi : j = i
    · subst hi; simp [hjl, zfv, va_rf]
    · simp [hi]
  have kk : ∀ (H1 : Heap) (locs1 : List Loc), va_P (gD G) vwCl ((zws Ga (gad G) (gA G) I).set a (gad G a, .inr (ci, (fl.mapIdx (fun q y => zfv (gad G) (I a q) y)).set j (.ref (gad G r))))) H1 → va_D (zA G Ga s.heap.size) ((zws Ga (gad G) (gA G) I).set a (gad G a, .inr (ci, (fl.mapIdx (fun q y => zfv (gad G) (I a q) y)).set j (.ref (gad G r))))) → va_S (zA G Ga s.heap.size) s.heap H1 locs1 → W p (gL G) e R s m args below meth c H1 locs1 cells slots Z (F0 m (pc + 3) lsA (st.map (zr (gad G)))) := by
    intro H1 locs1 hP1 hD1 hS1
    rw [zws_sh ha _ hc] at hP1 hD1
    exact k p e R s m args below meth c H1 locs1 cells slots tc ts Z ⟨⟨F1.1, F1.2.1, F1.2.2.1, F1.2.2.2.1, F1.2.2.2.2.1, F1.2.2.2.2.2.1, F1.2.2.2.2.2.2.1, by rw [zA_set]; exact F1.2.2.2.2.2.2.2⟩, ⟨hP1, by rw [zA_set]; exact hD1, by rw [zA_set]; exact hS1⟩, F3, F4, F5, F6, F7, F8, Fn⟩ hk lsA hl
  rcases h5 with h5 | ⟨host, h5⟩
  · exact va_putF F1.1 F1.2.1 F1.2.2.2.2.2.2.1 h3 ty0 h6 h7 F1.2.2.2.2.2.1 F1.2.2.2.2.2.2.2.1 hP hD hS a (zws_get hG) h1 j h2 (F1.2.2.2.2.2.2.1 _ h5) (zsame F1.2.2.2.2.2.2.1 h4) h8 (Fn.trans hin) h10 h9 (hn _).1 (hn _).2 hlen hd kk
  · exfalso
    have : ∀ r ∈ zNl, r.1 ≠ r.2.2.1 := by decide +kernel
    have h11 := this _ h5
    rcases h4 with h4 | h4
    · exact h11 (by show Y.1.cls = ref; rw [h4, h10])
    · have : ∀ r ∈ zNl, ∀ w ∈ WA, (match w with | .sameField a b n d => decide (a = r.2.2.1 ∧ n = r.2.2.2.1) | _ => false) = false := by decide +kernel
      have h12 := this _ h5 _ h4
      simp at h12
theorem Rn.putFI {idx ci j a : Nat} {fl : List (Option (Option Nat))} {ty : FieldType} {v : Int32} (hd : decode Y.2.1 pc = .ok (.putfield idx, 3)) (hF : zFf Y.1.cls idx ci j ty) (hin : Y.1.name = "<init>") (hl5 : ∀ r ∈ zNl, ¬ (r.1 = Y.1.cls ∧ r.2.1 = idx)) (hG : Ga[a]? = some (.inl (ci, fl))) (hj : fl[j]? = some none)
    (hn : narrow ty (.int v) = .int v ∧ fits ty (.int v) = true) (k : Rn G Ga Y kx d b pc' ls st (zup I a j v)) (hp : pc + 3 = pc' := by rfl) : Rn G Ga Y kx d b pc ls (.int v :: .ref a :: st) I := by
  subst hp
  obtain ⟨C, T, N, ref, ty0, h1, h2, h3, h4, h5, h6, h7, h8, h10, h9⟩ := hF
  intro p e R s m args below meth c H locs cells slots tc ts Z F hk lsA hl
  obtain ⟨F1, ⟨hP, hD, hS⟩, F3, F4, F5, F6, F7, F8, Fn⟩ := F
  have hlen : j < ((fl.mapIdx (fun q y => zfv (gad G) (I a q) y)) : List Value).length := by
    rw [List.length_mapIdx]; exact (List.getElem?_eq_some_iff.mp hj).1
  have kk : ∀ (H1 : Heap) (locs1 : List Loc), va_P (gD G) vwCl ((zws Ga (gad G) (gA G) I).set a (gad G a, .inr (ci, (fl.mapIdx (fun q y => zfv (gad G) (I a q) y)).set j (.int v)))) H1 → va_D (zA G Ga s.heap.size) ((zws Ga (gad G) (gA G) I).set a (gad G a, .inr (ci, (fl.mapIdx (fun q y => zfv (gad G) (I a q) y)).set j (.int v)))) → va_S (zA G Ga s.heap.size) s.heap H1 locs1 → W p (gL G) e R s m args below meth c H1 locs1 cells slots Z (F0 m (pc + 3) lsA (st.map (zr (gad G)))) := by
    intro H1 locs1 hP1 hD1 hS1
    rw [zws_set hG (upd (I a) j v) (zcell_fset (dA := gA G) hj v)] at hP1 hD1
    exact k p e R s m args below meth c H1 locs1 cells slots tc ts Z ⟨F1, ⟨hP1, hD1, hS1⟩, F3, F4, F5, F6, F7, F8, Fn⟩ hk lsA hl
  rcases h5 with h5 | ⟨host, h5⟩
  · exact va_putF F1.1 F1.2.1 F1.2.2.2.2.2.2.1 h3 ty0 h6 h7 F1.2.2.2.2.2.1 F1.2.2.2.2.2.2.2.1 hP hD hS a (zws_get hG) h1 j h2 (F1.2.2.2.2.2.2.1 _ h5) (zsame F1.2.2.2.2.2.2.1 h4) h8 (Fn.trans hin) h10 h9 hn.1 hn.2 hlen hd kk
  · exact absurd ⟨rfl, rfl⟩ (hl5 _ h5)
end GrowPut
end
section
/-! constructors: their contracts, their ends, calls of them -/
def zQn (G : Gx) (Ga Gb : List Shp) (J : Hi) (sz : Nat) : Array Value → State → Outcome → State → Prop := fun _ st oc t =>
  (oc = .returned none ∧ ∃ ad : Nat → Nat, (∀ k, (k < Ga.length ∨ Gb.length ≤ k) → ad k = gad G k) ∧ (∀ k, Ga.length ≤ k → k < Gb.length → sz ≤ ad k) ∧ va_D (fun _ => True) (zws Gb ad (gA G) J) ∧ va_P (gD G) vwCl (zws Gb ad (gA G) J) t.heap) ∧ va_F (zA G Ga sz) st t
/-- a constructor's contract: the world Ga grows to Gb, the ints are J -/
def Cn (G : Gx) (Ga : List Shp) (y : Ym) (d b : Nat) (vs : List Value) (I : Hi) (Gb : List Shp) (J : Hi) : Prop :=
  ∀ sz : Nat, Met (gL G) y.1 (zwy y) (zrm d b) (zPc G Ga vs I sz) (zQn G Ga Gb J sz) b (6 * b) (zA G Ga sz)
def kE (G : Gx) (Ga Gb : List Shp) (J : Hi) : Kx := fun s args below _ tc ts Z => Z = MQ below (zQn G Ga Gb J s.heap.size) args s tc ts (zA G Ga s.heap.size)
theorem Cn.mk {G : Gx} {Ga Gb : List Shp} {y : Ym} {d b : Nat} {vs : List Value} {I J : Hi} (ls : List (Option Value)) (k : ∀ ad, Rn (gw G ad) Ga y (kZ (kE G Ga Gb J) G Ga.length ad Ga.length) d b 0 ls [] I) (hn9 : Ga.length ≤ 900) (hy : plainName y.1.cls = true := by decide +kernel) (hc : vs.all (fun v => v.category == 1) = true := by rfl) (hn : vs.length ≤ y.2.2.1 := by exact Nat.le_of_ble_eq_true rfl)
    (hl : ls = vs.map some ++ List.replicate (y.2.2.1 - vs.length) none := by rfl) : Cn G Ga y d b vs I Gb J := by
  intro sz
  have hc' : ∀ v ∈ vs, v.category = 1 := fun v hv => by simpa using List.all_eq_true.mp hc v hv
  refine Met.ofW (cc := y.2.1) (maxL := y.2.2.1) (ret := y.2.2.2) hy rfl ?_
  intro p e s m args below meth c s₁ B hml hv
  obtain ⟨rfl, rfl, hP, hD, hK⟩ := hv
  have hts := atoms_spec (ws := zwy y) B.pre
  have hown : s.vm.findClass y.1.cls = some m.cls := findClass_of_methodNamed B.named
  have hl9 := lv_entry (vs.map (zr (gad G))) (n := y.2.2.1) (by rw [lg_sl_len vs hc']; exact hn)
  rw [lg_entry_eq]
  have h9 := k (gad G) p e (zrm d b) s m _ below meth c s.heap [] 0 0 b (6 * b) _ ⟨⟨B.exec, B.bytes, hml, B.returns, B.notSynchronized, hown, fun w hw => hts w (List.mem_cons_of_mem _ hw), hK⟩, ⟨hP, hD, va_S.rf⟩, Nat.le_refl _, Nat.le_refl _, by omega, by omega, Nat.le_refl _, Nat.le_refl _, (name_of_methodNamed B.named B.method).1⟩ ⟨rfl, fun k _ => rfl, fun k h1 h2 => absurd h2 (by omega), Nat.le_refl _, hn9⟩ _ (by rw [hl, zl_args vs 0 _ hc']; exact hl9)
  exact h9
section Ctor
variable {G0 : Gx} {K : Kx} {n0 : Nat} {ad : Nat → Nat} {Ga : List Shp} {Y : Ym} {d b pc pc' : Nat} {ls : List (Option Value)} {st : List Value} {I : Hi}
theorem Rn.nret {Ga0 Gb : List Shp} {J : Hi} (hd : decode Y.2.1 pc = .ok (.return_, 1)) (hr : Y.2.2.2 = none) : Rn (gw G0 ad) Gb Y (kZ (kE G0 Ga0 Gb J) G0 Ga0.length ad Gb.length) d b pc ls [] J := by
  intro p e R s m args below meth c H locs cells slots tc ts Z F hk lsA hl
  obtain ⟨F1, ⟨hP, hD, hS⟩, F3, F4, F5, F6, F7, F8⟩ := F
  obtain ⟨rfl, g1, g2, g3, g4⟩ := hk
  refine W.widen (k := tc) (n := ts) (by omega) (by omega) ?_
  have hlocks : meth.locks = false := F1.2.2.2.2.1
  have hA : zA (gw G0 ad) Gb s.heap.size = zA G0 Ga0 s.heap.size := zA_eq g3 (fun k hk => g1 k (Or.inl hk)) g2
  rw [hA] at hS
  exact W.vret F1.1 F1.2.1 (F1.2.2.2.1.trans hr) (fun t h1 _ => ⟨⟨rfl, ad, g1, g2, ⟨hD.1, fun _ _ _ => trivial⟩, by rw [h1]; exact hP⟩, by rw [h1]; exact hS.1, by rw [h1]; exact hS.2.1⟩) hS.2.2 hd hlocks
theorem zafterN {Gb : List Shp} {J : Hi} {rest stA : List Value} {mc b2 : Nat} {p : Program} {e : Env} {R : Room} {s : State} {m : MethodId} {args : Array Value} {below : List Frame} {meth : Method} {c : Code} {H : Heap} {locs : List Loc} {cells slots tc ts : Nat} {Z : State → Prop} {lsA : Array Slot} {a9 : Array Value}
    (F : zFr (gw G0 ad) Ga Y d (b2 + mc) I p R s m args meth c H locs cells slots tc ts) (hk : kZ K G0 n0 ad Ga.length s args below c tc ts Z) (hl : lv_has lsA Y.2.2.1 (zl ad 0 ls))
    (hv : zlt Ga.length Gb.length ls rest = true) (hg : Ga.length ≤ Gb.length) (hg9 : Gb.length ≤ 900)
    (hr : va_Run p (gL G0) e R s m args below meth c H locs cells slots mc (6 * mc) (F0 m pc lsA stA) (rest.map (zr ad)) (zQn (gw G0 ad) Ga Gb J H.size a9) (zA (gw G0 ad) Ga H.size))
    (k : ∀ ad', Rn (gw G0 ad') Gb Y (kZ K G0 n0 ad' Gb.length) d b2 (pc + 3) ls rest J) : W p (gL G0) e R s m args below meth c H locs cells slots Z (F0 m pc lsA stA) := by
  obtain ⟨F1, ⟨hP, hD, hS⟩, F3, F4, F5, F6, F7, F8⟩ := F
  obtain ⟨hK, g1, g2, g3, g4⟩ := hk
  intro T hT X
  have hsz : s.heap.size ≤ H.size := hS.1
  obtain ⟨v, st₀, t, T', L, h0, X', hL, e1, e2, ⟨⟨hv0, ad', q1, q2, q3, q4⟩, hF⟩, go⟩ := hr T hT X
  cases hv0
  obtain ⟨k1, k2, k3⟩ := vx_keep h0 e1 hS (fun q _ h => zsub hsz q h) (fun q h => zsub hsz q h) hL hF
  have hA : zA (gw G0 ad') Gb s.heap.size = zA (gw G0 ad) Ga s.heap.size := zA_eq (G0 := gw G0 ad) hg (fun k hk => q1 k (Or.inl hk)) (fun k h1 h2 => Nat.le_trans hsz (q2 k h1 h2))
  have F9 : zFr (gw G0 ad') Gb Y d b2 J p R s m args meth c T'.heap (locs ++ L) (cells + mc) (slots + 6 * mc) tc ts := by
    refine ⟨⟨F1.1, F1.2.1, F1.2.2.1, F1.2.2.2.1, F1.2.2.2.2.1, F1.2.2.2.2.2.1, F1.2.2.2.2.2.2.1, ?_⟩, ⟨by rw [e1]; exact q4, ?_, ?_⟩, F3, F4, by omega, by omega, F7, F8⟩
    · rw [hA]; exact zK.grow (G := gw G0 ad) (fun k hk => q1 k (Or.inr (by omega))) F1.2.2.2.2.2.2.2
    · rw [hA]
      refine ⟨q3.1, fun k q hk => ?_⟩
      have hlt : k < Gb.length := by
        have := (List.getElem?_eq_some_iff.mp hk).1
        rwa [zws_len] at this
      have hz := zws_get (ad := ad') (dA := gA G0) (I := J) (List.getElem?_eq_getElem hlt)
      have hz2 : (zws Gb ad' (gA G0) J)[k]? = some q := hk
      rw [hz] at hz2
      cases hz2
      by_cases h1 : k < Ga.length
      · exact Or.inl ⟨k, h1, q1 k (Or.inl h1)⟩
      · exact Or.inr (Nat.le_trans hsz (q2 k (Nat.not_lt.mp h1) hlt))
    · rw [hA]; exact k3
  have hk9 : kZ K G0 n0 ad' Gb.length s args below c tc ts Z := by
    refine ⟨hK, fun k hk => ?_, fun k h1 h2 => ?_, by omega, hg9⟩
    · rw [q1 k (by omega)]; exact g1 k (by omega)
    · by_cases h3 : k < Ga.length
      · rw [q1 k (Or.inl h3)]; exact g2 k h1 h3
      · exact Nat.le_trans hsz (q2 k (Nat.not_lt.mp h3) h2)
  obtain ⟨t2, a1, b1⟩ := k ad' p e R s m args below meth c T'.heap (locs ++ L) (cells + mc) (slots + 6 * mc) tc ts Z F9 hk9 lsA (by show lv_has lsA Y.2.2.1 (zl ad' 0 ls); rw [zlt_ls (fun k hk => q1 k hk) 0 hv]; exact hl) T' rfl X'
  refine ⟨t2, go t2 ?_, b1⟩
  have h10 : rest.map (zr ad') = rest.map (zr ad) := zlt_st (fun k hk => q1 k hk) hv
  have a2 : Steps p.tables e below (T'.setTop (F0 m (pc + 3) lsA (rest.map (zr ad')))) t2 := a1
  rw [h10] at a2
  exact a2
/-- a constructor's call: its link, or a nest mate's -/
def zMi (own : String) (idx : Nat) (y : Ym) (n : Nat) : Prop := zMb own idx y n ∧ y.1.name = "<init>" ∧ Cond.instanceMethod y.1 ∈ WA
def zMn (own : String) (idx : Nat) (y : Ym) (n : Nat) : Prop := (∃ host, (own, idx, y.1, host) ∈ zNm) ∧ Cond.initialized y.1.cls ∈ WA ∧ Cond.code y.1 y.2.1 y.2.2.1 y.2.2.2 ∈ WA ∧ y.2.2.1 ≤ 21 ∧ (y.1.cls ≠ "java/lang/invoke/MethodHandle" ∧ y.1.cls ≠ "java/lang/invoke/VarHandle" ∧ (parseMethodDescriptor y.1.desc).map (fun q => q.parameters.length) = some n) ∧ y.1.name = "<init>" ∧ Cond.instanceMethod y.1 ∈ WA
theorem Rn.ctor {idx a n mc : Nat} {As rest : List Value} {y : Ym} {Gb : List Shp} {J : Hi} (hd : decode Y.2.1 pc = .ok (.invokespecial idx, 3)) (hM : zMi Y.1.cls idx y n ∨ zMn Y.1.cls idx y n) (hy0 : y.2.2.2 = none)
    (hst : st = As.reverse ++ .ref a :: rest) (hn : As.length = n) (hr : (rest.map fun v => v.category).sum ≤ 8) (hct : Cn (gw G0 ad) Ga y d mc (.ref a :: As) I Gb J) (hv : zlt Ga.length Gb.length ls rest = true) (hg : Ga.length ≤ Gb.length) (hg9 : Gb.length ≤ 900)
    (k : ∀ ad', Rn (gw G0 ad') Gb Y (kZ K G0 n0 ad' Gb.length) (d + 1) b pc' ls rest J) (hp : pc + 3 = pc' := by rfl) : Rn (gw G0 ad) Ga Y (kZ K G0 n0 ad Ga.length) (d + 1) (b + mc) pc ls st I := by
  subst hp
  subst hst
  obtain ⟨yn, yc, yl, yr⟩ := y
  obtain rfl : yr = none := hy0
  intro p e R s m args below meth c H locs cells slots tc ts Z F hk lsA hl
  have F0' := F
  obtain ⟨F1, ⟨hP, hD, hS⟩, F3, F4, F5, F6, F7, F8⟩ := F
  have hts := F1.2.2.2.2.2.2.1
  refine zafterN (G0 := G0) (K := K) (n0 := n0) (ad := ad) (stA := (As.reverse ++ Value.ref a :: rest).map (zr ad)) F0' hk hl hv hg hg9 (a9 := (Value.ref (ad a) :: As.map (zr ad)).toArray) ?_ k
  rcases hM with hM | hM
  · exact va_runI (As := As.map (zr ad)) (rest := rest.map (zr ad)) (b := ad a) ⟨F1.1, F1.2.1, F1.2.2.1, F1.2.2.2.2.2.1, hts⟩ (hct H.size) ⟨zcallB hts hM.1 F3 F4, hM.2.1, hts _ hM.2.2⟩ ⟨zPc_blind, fun U hU hW => zpre (vs := .ref a :: As) F0' U hU hW⟩ rfl (by rw [List.length_map]; exact hn) hl.1 (by simp [zr, List.map_reverse]) (lv_room (by rw [zsum]; exact hr)) hd ⟨by omega, by omega⟩
  · obtain ⟨⟨host, m1⟩, m2, m3, m4, m5, m6, m7⟩ := hM
    exact va_runIN (host := host) (As := As.map (zr ad)) (rest := rest.map (zr ad)) (b := ad a) ⟨F1.1, F1.2.1, F1.2.2.1, F1.2.2.2.2.2.1, hts⟩ (hct H.size) ⟨va_cnB n hts (zgood m3) rfl rfl rfl (F1.2.2.2.2.2.2.2.2.2.2.2.2.1.2.1 _ m1) (hts _ m2) m5 ⟨by show d + 8 + 1 ≤ _; omega, by show 8 + (yl + 11) + (40 * d + 200) ≤ _; have : yl ≤ 21 := m4; omega⟩, m6, hts _ m7⟩ ⟨zPc_blind, fun U hU hW => zpre (vs := .ref a :: As) F0' U hU hW⟩ rfl (by rw [List.length_map]; exact hn) hl.1 (by simp [zr, List.map_reverse]) (lv_room (by rw [zsum]; exact hr)) hd ⟨by omega, by omega⟩
end Ctor
section Misc
variable {G : Gx} {kx : Kx} {Ga : List Shp} {Y : Ym} {d b pc pc' : Nat} {ls : List (Option Value)} {st : List Value} {I : Hi}
def zOb (own : String) (idx : Nat) : Prop := Cond.methodLink own idx Lib.objectInit ∈ WA ∧ Cond.instanceMethod Lib.objectInit ∈ WA ∧ Cond.code Lib.objectInit ⟨#[0xb1]⟩ 1 none ∈ WA
theorem Rn.objI {idx a : Nat} (hd : decode Y.2.1 pc = .ok (.invokespecial idx, 3)) (hO : zOb Y.1.cls idx) (hr : (st.map fun v => v.category).sum ≤ 8) (k : Rn G Ga Y kx d b pc' ls st I) (hp : pc + 3 = pc' := by rfl) : Rn G Ga Y kx d b pc ls (.ref a :: st) I := by
  subst hp
  intro p e R s m args below meth c H locs cells slots tc ts Z F hk lsA hl
  have hts := F.1.2.2.2.2.2.2.1
  refine W.objInit F.1.1 F.1.2.1 F.1.2.2.2.2.2.1 (hts _ hO.1) (hts _ hO.2.1) (hts _ hO.2.2) rfl (hl.1.trans F.1.2.2.1.symm) rfl hd (by have := F.2.2.1; omega) (by have := F.2.2.2.1; have h9 : 2 * (F0 m pc lsA ((Value.ref a :: st).map (zr (gad G)))).monitorRoom + ((st.map (zr (gad G))).map fun v => v.category).sum ≤ 8 := lv_room (by rw [zsum]; exact hr); omega) ?_
  exact k p e R s m args below meth c H locs cells slots tc ts Z F hk lsA hl
theorem Rn.aast {a v n ci : Nat} {f : Nat → Option Nat} {fl : List (Option (Option Nat))} {i : Int32} {j : Nat} (hd : decode Y.2.1 pc = .ok (.aastore, 1)) (hG : Ga[a]? = some (.inr (.object "BorrowedLuck$Coast", n, f))) (hv : Ga[v]? = some (.inl (0, fl))) (hi : i = nI j) (hj : j < n) (hn : n < 100000)
    (k : Rn G (Ga.set a (.inr (.object "BorrowedLuck$Coast", n, va_up f j (some v)))) Y kx d b pc' ls st I) (hp : pc + 1 = pc' := by rfl) : Rn G Ga Y kx d b pc ls (.ref v :: .int i :: .ref a :: st) I := by
  subst hp
  subst hi
  intro p e R s m args below meth c H locs cells slots tc ts Z F hk lsA hl
  obtain ⟨F1, ⟨hP, hD, hS⟩, F3, F4, F5, F6, F7, F8, Fn⟩ := F
  have ha : a < Ga.length := (List.getElem?_eq_some_iff.mp hG).1
  refine va_astq (r := (RX0, TX0, 12)) F1.1 F1.2.1 F1.2.2.2.2.2.2.2.1 hP hD hS a 3 v 0 (zws_get hG) rfl (zws_get hv) rfl (vp_in_nI hj (show n < 2147483648 by omega)) hd (fun H1 locs1 hP1 hD1 hS1 => ?_)
  rw [nI_clamp (by omega)] at hP1 hD1
  have hc : (.inl (gA G (.object "BorrowedLuck$Coast"), n, .inr (.inr (.inr (.inr (va_up (fun j => (f j).map (gad G)) j (some (gad G v))))))) : va_E) = zcell (gad G) (gA G) (I a) (.inr (.object "BorrowedLuck$Coast", n, va_up f j (some v))) := by
    show _ = (.inl (gA G (.object "BorrowedLuck$Coast"), n, .inr (.inr (.inr (.inr (fun q => (va_up f j (some v) q).map (gad G)))))) : va_E)
    have h9 : va_up (fun j => (f j).map (gad G)) j (some (gad G v)) = fun q => (va_up f j (some v) q).map (gad G) := by
      funext q
      simp only [va_up]
      split <;> rfl
    rw [h9]
  have hP2 : va_P (gD G) vwCl ((zws Ga (gad G) (gA G) I).set a (gad G a, .inl (gA G (.object "BorrowedLuck$Coast"), n, .inr (.inr (.inr (.inr (va_up (fun j => (f j).map (gad G)) j (some (gad G v))))))))) H1 := hP1
  have hD2 : va_D (zA G Ga s.heap.size) ((zws Ga (gad G) (gA G) I).set a (gad G a, .inl (gA G (.object "BorrowedLuck$Coast"), n, .inr (.inr (.inr (.inr (va_up (fun j => (f j).map (gad G)) j (some (gad G v))))))))) := hD1
  rw [zws_sh ha _ hc] at hP2 hD2
  exact k p e R s m args below meth c H1 locs1 cells slots tc ts Z ⟨⟨F1.1, F1.2.1, F1.2.2.1, F1.2.2.2.1, F1.2.2.2.2.1, F1.2.2.2.2.2.1, F1.2.2.2.2.2.2.1, by rw [zA_set]; exact F1.2.2.2.2.2.2.2⟩, ⟨hP2, by rw [zA_set]; exact hD2, by rw [zA_set]; exact hS1⟩, F3, F4, F5, F6, F7, F8, Fn⟩ hk lsA hl
/-- System.arraycopy of the first n ints -/
def zAc (own : String) (idx : Nat) : Prop := Cond.methodLink own idx arraycopyName ∈ WA ∧ Cond.native arraycopyName ∈ WA ∧ Cond.static arraycopyName ∈ WA ∧ Cond.initialized "java/lang/System" ∈ WA
theorem Rn.acopy {idx a a0 n n0 n1 : Nat} {f g : Nat → Option Nat} (hd : decode Y.2.1 pc = .ok (.invokestatic idx, 3)) (hA : zAc Y.1.cls idx) (hG0 : Ga[a0]? = some (.inr (.int, n0, f))) (hG : Ga[a]? = some (.inr (.int, n1, g))) (h0 : n ≤ n0) (h1 : n ≤ n1) (hn : n < 100000) (hr : (st.map fun v => v.category).sum ≤ 8)
    (k : Rn G Ga Y kx d b pc' ls st (zset I a (va_cpy (I a0) (I a) 0 0 n))) (hp : pc + 3 = pc' := by rfl) : Rn G Ga Y kx d b pc ls (.int (nI n) :: .int (nI 0) :: .ref a :: .int (nI 0) :: .ref a0 :: st) I := by
  subst hp
  intro p e R s m args below meth c H locs cells slots tc ts Z F hk lsA hl
  obtain ⟨F1, ⟨hP, hD, hS⟩, F3, F4, F5, F6, F7, F8, Fn⟩ := F
  have hts := F1.2.2.2.2.2.2.1
  have hc0 : (nI 0).toNatClampNeg = 0 := nI_clamp (by omega)
  have hcn : (nI n).toNatClampNeg = n := nI_clamp (by omega)
  have hnf : nativeFrameWords "java/lang/System" "arraycopy" 5 ≤ 100 := by decide +kernel
  refine va_copyi (ty := .int) F1.1 F1.2.1 (F1.2.2.1.trans hl.1.symm) F1.2.2.2.2.2.1 (hts _ hA.1) (hts _ hA.2.1) (hts _ hA.2.2.1) (hts _ hA.2.2.2) F1.2.2.2.2.2.2.2.1 hP hD hS a0 a 0 0 (zws_get hG0) (zws_get hG) rfl rfl rfl (nI_pos (show 0 < 2147483648 by omega)) (nI_pos (show 0 < 2147483648 by omega)) (nI_pos (show n < 2147483648 by omega)) (by rw [hc0, hcn, Nat.zero_add]; exact h0) (by rw [hc0, hcn, Nat.zero_add]; exact h1) (fun i _ => rfl) (by omega) (by rw [zsum]; omega) hd (fun H1 locs1 hP1 hD1 hS1 => ?_)
  rw [hc0, hcn] at hP1 hD1
  have hP2 : va_P (gD G) vwCl ((zws Ga (gad G) (gA G) I).set a (gad G a, .inl (gA G .int, n1, .inl (va_cpy (I a0) (I a) 0 0 n)))) H1 := hP1
  have hD2 : va_D (zA G Ga s.heap.size) ((zws Ga (gad G) (gA G) I).set a (gad G a, .inl (gA G .int, n1, .inl (va_cpy (I a0) (I a) 0 0 n)))) := hD1
  rw [zws_set hG (va_cpy (I a0) (I a) 0 0 n) (show (.inl (gA G .int, n1, .inl (va_cpy (I a0) (I a) 0 0 n)) : va_E) = zcell (gad G) (gA G) (va_cpy (I a0) (I a) 0 0 n) (.inr (.int, n1, g)) from rfl)] at hP2 hD2
  exact k p e R s m args below meth c H1 locs1 cells slots tc ts Z ⟨F1, ⟨hP2, hD2, hS1⟩, F3, F4, F5, F6, F7, F8, Fn⟩ hk lsA hl
end Misc
end
section
/-! a method throws an exception that it makes -/
def zTh (own : String) (ik is ic : Nat) (cls text : String) (names : List String) : Prop := Bundle.fit cls = true ∧ (∀ n ∈ names, Bundle.fit n = true) ∧ Cond.classLink own ik cls ∈ WA ∧ Cond.initialized cls ∈ WA ∧ (∃ i, (own, is, text, i) ∈ zSR) ∧ (∀ w ∈ vx_atS own ic cls names, w ∈ WA ∨ w = .castable cls cls) ∧ cls ∈ zCs ∧ (∀ w ∈ Cond.classLink own ik cls :: Cond.initialized cls :: vx_atS own ic cls names, vx_ot w = true) ∧ names.length ≤ 4
theorem Rn.throwS {G : Gx} {Ga : List Shp} {Y : Ym} {d b pc ik is ic : Nat} {cls text : String} {names : List String} {ls : List (Option Value)} {I : Hi} {Q : Rs → Hi → Prop} (hT : zTh Y.1.cls ik is ic cls text names)
    (d0 : decode Y.2.1 pc = .ok (.new ik, 3)) (d3 : decode Y.2.1 (pc + 3) = .ok (.dup, 1)) (d4 : decode Y.2.1 (pc + 4) = .ok (.ldc is, 2)) (d6 : decode Y.2.1 (pc + 6) = .ok (.invokespecial ic, 3)) (d9 : decode Y.2.1 (pc + 9) = .ok (.athrow, 1))
    (h : Q (.inr cls) I) (hb : 1 ≤ b := by omega) : Rn G Ga Y (kM G Ga Q) d b pc ls [] I := by
  obtain ⟨t1, t2, t3, t4, ⟨i, t5⟩, t6, t9, t7, t8⟩ := hT
  intro p e R s m args below meth c H locs cells slots tc ts Z F hk lsA hl
  obtain ⟨F1, ⟨hP, hD, hS⟩, F3, F4, F5, F6, F7, F8⟩ := F
  obtain ⟨ht, rfl⟩ := hk
  have hts := F1.2.2.2.2.2.2.1
  have hK := F1.2.2.2.2.2.2.2
  exact vx_throwS (names := names) (rest := []) F1.1 F1.2.1 hK.2.2.2.2.2.2 F1.2.2.2.2.2.1 t1 t2 (hts _ t3) (hts _ t4) (hK.2.2.1 _ t5) (fun w hw => (t6 w hw).elim (hts w) (fun e => by rw [e]; exact va_Nw.use rfl (hK.2.2.2.2.2.1.1 _ t9))) t7 hK.2.2.2.1 hK.2.2.2.2.1 hS (hl.1.trans F1.2.2.1.symm) d0 d3 d4 d6 d9 (fun x hx => (ht x hx).elim)
    (by omega) (by simp; omega) (by omega) (by omega) F1.2.2.2.2.1
    (fun t _ h1 h2 => ⟨⟨I, h, fun k q hk => (hP k q hk).kept (h2 _ (hP k q hk).lt)⟩, Nat.le_trans hS.1 h1, fun q hq hA => by rw [h2 q (Nat.lt_of_lt_of_le hq hS.1)]; exact hS.2.1 q hq hA⟩) hS.2.2 (by omega) (by omega)
theorem Rn.throwSW {G : Gx} {Ga : List Shp} {Y : Ym} {d b pc ik is ic : Nat} {cls text : String} {names : List String} {ls : List (Option Value)} {I : Hi} {Q : Rs → Hi → Prop} (hT : zTh Y.1.cls ik is ic cls text names)
    (d0 : decode Y.2.1 pc = .ok (.new ik, 3)) (d3 : decode Y.2.1 (pc + 3) = .ok (.dup, 1)) (d4 : decode Y.2.1 (pc + 4) = .ok (.ldc_w is, 3)) (d6 : decode Y.2.1 (pc + 7) = .ok (.invokespecial ic, 3)) (d9 : decode Y.2.1 (pc + 10) = .ok (.athrow, 1))
    (h : Q (.inr cls) I) (hb : 1 ≤ b := by omega) : Rn G Ga Y (kM G Ga Q) d b pc ls [] I := by
  obtain ⟨t1, t2, t3, t4, ⟨i, t5⟩, t6, t9, t7, t8⟩ := hT
  intro p e R s m args below meth c H locs cells slots tc ts Z F hk lsA hl
  obtain ⟨F1, ⟨hP, hD, hS⟩, F3, F4, F5, F6, F7, F8⟩ := F
  obtain ⟨ht, rfl⟩ := hk
  have hts := F1.2.2.2.2.2.2.1
  have hK := F1.2.2.2.2.2.2.2
  exact vx_throwSW (names := names) (rest := []) F1.1 F1.2.1 hK.2.2.2.2.2.2 F1.2.2.2.2.2.1 t1 t2 (hts _ t3) (hts _ t4) (hK.2.2.1 _ t5) (fun w hw => (t6 w hw).elim (hts w) (fun e => by rw [e]; exact va_Nw.use rfl (hK.2.2.2.2.2.1.1 _ t9))) t7 hK.2.2.2.1 hK.2.2.2.2.1 hS (hl.1.trans F1.2.2.1.symm) d0 d3 d4 d6 d9 (fun x hx => (ht x hx).elim)
    (by omega) (by simp; omega) (by omega) (by omega) F1.2.2.2.2.1
    (fun t _ h1 h2 => ⟨⟨I, h, fun k q hk => (hP k q hk).kept (h2 _ (hP k q hk).lt)⟩, Nat.le_trans hS.1 h1, fun q hq hA => by rw [h2 q (Nat.lt_of_lt_of_le hq hS.1)]; exact hS.2.1 q hq hA⟩) hS.2.2 (by omega) (by omega)

theorem zsubt {L : List Cond} {E : String} (ix : List Nat) (h : L.all (fun w => ((ix.filterMap (fun i => lw_tbl[i]?)).any (fun v => decide (v = w)) && goodWord w) || decide (w = .castable E E)) = true) : ∀ w ∈ L, w ∈ WA ∨ w = .castable E E := by
  intro w hw
  have h1 := List.all_eq_true.mp h w hw
  simp only [Bool.or_eq_true, Bool.and_eq_true, decide_eq_true_eq] at h1
  rcases h1 with ⟨h1, h2⟩ | h1
  · obtain ⟨v, hv, he⟩ := List.any_eq_true.mp h1
    have he := of_decide_eq_true he
    subst he
    obtain ⟨i, -, hi⟩ := List.mem_filterMap.mp hv
    exact Or.inl (List.mem_filter.mpr ⟨List.mem_of_getElem? hi, h2⟩)
  · exact Or.inr h1
theorem zSR_mem {own : String} {is : Nat} {text : String} (h : zSR.any (fun r => decide (r.1 = own) && decide (r.2.1 = is) && decide (r.2.2.1 = text)) = true) : ∃ i, (own, is, text, i) ∈ zSR := by
  obtain ⟨r, hr, h2⟩ := List.any_eq_true.mp h
  simp only [Bool.and_eq_true, decide_eq_true_eq] at h2
  obtain ⟨a, b, c, e⟩ := r
  obtain ⟨⟨rfl, rfl⟩, rfl⟩ := h2
  exact ⟨e, hr⟩
/-! a method with handlers: its contract, its end, what its first handler catches -/
def zwW (y : Ym) (hh : List (Nat × Nat × Nat × Nat)) : List Cond := Cond.codeWith y.1 y.2.1 y.2.2.1 y.2.2.2 hh :: WA
def CtW (G : Gx) (Ga : List Shp) (y : Ym) (hh : List (Nat × Nat × Nat × Nat)) (d b : Nat) (vs : List Value) (I : Hi) (Q : Rs → Hi → Prop) : Prop :=
  ∀ sz : Nat, vx_Met (gL G) y.1 (zwW y hh) (zrm d b) (zPc G Ga vs I sz) (zQ G Ga Q sz) (zX G Ga Q sz) b (6 * b) (zA G Ga sz)
def kH (G : Gx) (Ga : List Shp) (Q : Rs → Hi → Prop) (hh : List (Nat × Nat × Nat × Nat)) : Kx := fun s args below c tc ts Z =>
  c.exceptionTable.toList = tableOf hh ∧ Z = vx_MQ below (zQ G Ga Q s.heap.size) (zX G Ga Q s.heap.size) args s tc ts (zA G Ga s.heap.size)
theorem CtW.mk {G : Gx} {Ga : List Shp} {y : Ym} {hh : List (Nat × Nat × Nat × Nat)} {d b : Nat} {vs : List Value} {I : Hi} {Q : Rs → Hi → Prop} (ls : List (Option Value)) (k : Rn G Ga y (kH G Ga Q hh) d b 0 ls [] I) (hy : plainName y.1.cls = true := by decide +kernel) (hc : vs.all (fun v => v.category == 1) = true := by rfl) (hn : vs.length ≤ y.2.2.1 := by exact Nat.le_of_ble_eq_true rfl)
    (hl : ls = vs.map some ++ List.replicate (y.2.2.1 - vs.length) none := by rfl) : CtW G Ga y hh d b vs I Q := by
  intro sz
  have hc' : ∀ v ∈ vs, v.category = 1 := fun v hv => by simpa using List.all_eq_true.mp hc v hv
  refine vx_ofWH (hh := hh) (cc := y.2.1) (maxL := y.2.2.1) (ret := y.2.2.2) hy rfl ?_
  intro p e s m args below meth c s₁ B hml hv
  obtain ⟨rfl, rfl, hP, hD, hK⟩ := hv
  have hts := atoms_spec (ws := zwW y hh) B.pre
  have ht := vx_table (x := y.1) B (hts _ List.mem_cons_self)
  have hown : s.vm.findClass y.1.cls = some m.cls := findClass_of_methodNamed B.named
  have hl9 := lv_entry (vs.map (zr (gad G))) (n := y.2.2.1) (by rw [lg_sl_len vs hc']; exact hn)
  rw [lg_entry_eq]
  have h9 := k p e (zrm d b) s m _ below meth c s.heap [] 0 0 b (6 * b) _ ⟨⟨B.exec, B.bytes, hml, B.returns, B.notSynchronized, hown, fun w hw => hts w (List.mem_cons_of_mem _ hw), hK⟩, ⟨hP, hD, va_S.rf⟩, Nat.le_refl _, Nat.le_refl _, by omega, by omega, Nat.le_refl _, Nat.le_refl _, (name_of_methodNamed B.named B.method).1⟩ ⟨ht, rfl⟩ _ (by rw [hl, zl_args vs 0 _ hc']; exact hl9)
  exact h9
section Hand
variable {G : Gx} {Ga : List Shp} {Y : Ym} {d b pc pc' : Nat} {ls : List (Option Value)} {st : List Value} {I : Hi} {hh : List (Nat × Nat × Nat × Nat)} {Q : Rs → Hi → Prop} {kx : Kx}
theorem Rn.hret {v : Int32} (hd : decode Y.2.1 pc = .ok (.ireturn, 1)) (hr : Y.2.2.2 = some .int) (h : Q (.inl (some (.int v))) I) : Rn G Ga Y (kH G Ga Q hh) d b pc ls [.int v] I := by
  intro p e R s m args below meth c H locs cells slots tc ts Z F hk lsA hl
  obtain ⟨F1, ⟨hP, hD, hS⟩, F3, F4, F5, F6, F7, F8⟩ := F
  obtain ⟨ht, rfl⟩ := hk
  refine W.widen (k := tc) (n := ts) (by omega) (by omega) (vx_ret ?_)
  have hlocks : meth.locks = false := F1.2.2.2.2.1
  exact W.iret F1.1 F1.2.1 (F1.2.2.2.1.trans hr) (fun t h1 _ => ⟨⟨some (.int v), I, rfl, h, by rw [h1]; exact hP⟩, by rw [h1]; exact hS.1, by rw [h1]; exact hS.2.1⟩) hS.2.2 hd hlocks
/-- the first handler takes it: astore, a constant, ireturn -/
theorem zcatch {x : Nat × Nat × Nat × Nat} {hs : List (Nat × Nat × Nat × Nat)} {E : String} {J : Hi} {i n2 : Nat} {ci : Int} {cv : Int32} {rest : List Value} (hx : covers (⟨x.1, x.2.1, x.2.2.1, x.2.2.2⟩ : ExceptionTableEntry) pc = true) (hk : Cond.classLink Y.1.cls x.2.2.2 E ∈ WA) (hE : E ∈ zCs) (h0 : x.2.2.2 ≠ 0)
    (ha : (∃ q : Fin 4, decode Y.2.1 x.2.2.1 = .ok (.astore_n q, n2) ∧ (q : Nat) = i ∧ n2 = 1) ∨ (decode Y.2.1 x.2.2.1 = .ok (.astore i, n2) ∧ n2 = 2)) (hi : i < Y.2.2.1) (hc : decode Y.2.1 (x.2.2.1 + n2) = .ok (.iconst ci, 1)) (hcv : Int32.ofInt ci = cv) (hd : decode Y.2.1 (x.2.2.1 + n2 + 1) = .ok (.ireturn, 1)) (hr : Y.2.2.2 = some .int) (h : Q (.inl (some (.int cv))) J) :
    ∀ (p : Program) (e : Env) (R : Room) (s : State) (m : MethodId) (args : Array Value) (below : List Frame) (meth : Method) (c : Code) (H : Heap) (locs : List Loc) (cells slots tc ts : Nat) (Z : State → Prop) (q : Addr) (ce : Cell) (lsA : Array Slot), zFr G Ga Y d b J p R s m args meth c H locs cells slots tc ts → kH G Ga Q (x :: hs) s args below c tc ts Z → lv_has lsA Y.2.2.1 (zl (gad G) 0 ls) → H[q]? = some ce → ce.vm = .none → s.vm.findClass E = some ce.cls → vx_W p (gL G) e R s m args below meth c H locs cells slots Z (F0 m pc lsA (rest.map (zr (gad G)))) q := by
  intro p e R s m args below meth c H locs cells slots tc ts Z q ce lsA F hk9 hl h1 h2 h3
  obtain ⟨F1, ⟨hP, hD, hS⟩, F3, F4, F5, F6, F7, F8⟩ := F
  obtain ⟨ht, rfl⟩ := hk9
  have hts := F1.2.2.2.2.2.2.1
  have hlocks : meth.locks = false := F1.2.2.2.2.1
  have htab : c.exceptionTable.toList = [] ++ (⟨x.1, x.2.1, x.2.2.1, x.2.2.2⟩ : ExceptionTableEntry) :: tableOf hs := by rw [ht]; rfl
  refine vx_catch (name := E) (E := E) F1.2.2.2.2.2.1 [] (⟨x.1, x.2.1, x.2.2.1, x.2.2.2⟩ : ExceptionTableEntry) (tableOf hs) htab (fun z hz => nomatch hz) hx h0 (hts _ hk) (va_Nw.use rfl (F1.2.2.2.2.2.2.2.2.2.2.2.2.1.1 _ hE)) h1 h2 h3 ?_
  show W p (gL G) e R s m args below meth c H locs cells slots _ (F0 m x.2.2.1 lsA [.ref q])
  have end9 : ∀ lsB : Array Slot, W p (gL G) e R s m args below meth c H locs cells slots (vx_MQ below (zQ G Ga Q s.heap.size) (zX G Ga Q s.heap.size) args s tc ts (zA G Ga s.heap.size)) (F0 m (x.2.2.1 + n2) lsB []) := by
    intro lsB
    refine lv_iconst F1.1 F1.2.1 hc hcv ?_
    refine W.widen (k := tc) (n := ts) (by omega) (by omega) (vx_ret ?_)
    exact W.iret F1.1 F1.2.1 (F1.2.2.2.1.trans hr) (fun t h1 _ => ⟨⟨some (.int cv), J, rfl, h, by rw [h1]; exact hP⟩, by rw [h1]; exact hS.1, by rw [h1]; exact hS.2.1⟩) hS.2.2 hd hlocks
  rcases ha with ⟨q4, ha, hq, hn⟩ | ⟨ha, hn⟩
  · subst hn
    exact lv_astore_n F1.1 F1.2.1 ha hq hl hi rfl (fun lsB _ => end9 lsB)
  · subst hn
    exact lv_astore F1.1 F1.2.1 ha hl hi rfl (fun lsB _ => end9 lsB)
/-- a call of a method with handlers, which throws nothing itself -/
def zMw (own : String) (idx : Nat) (y : Ym) (hh : List (Nat × Nat × Nat × Nat)) (n : Nat) : Prop := Cond.methodLink own idx y.1 ∈ WA ∧ Cond.initialized y.1.cls ∈ WA ∧ Cond.codeWith y.1 y.2.1 y.2.2.1 y.2.2.2 hh ∈ WA ∧ y.2.2.1 ≤ 21 ∧ (y.1.cls ≠ "java/lang/invoke/MethodHandle" ∧ y.1.cls ≠ "java/lang/invoke/VarHandle" ∧ (parseMethodDescriptor y.1.desc).map (fun q => q.parameters.length) = some n) ∧ Cond.static y.1 ∈ WA
theorem Rn.callW {idx n mc : Nat} {As rest : List Value} {y : Ym} {Rr : Rs → Hi → Prop} (hd : decode Y.2.1 pc = .ok (.invokestatic idx, 3)) (hM : zMw Y.1.cls idx y hh n)
    (hst : st = As.reverse ++ rest) (hn : As.length = n) (hr : (rest.map fun v => v.category).sum ≤ 8) (hct : CtW G Ga y hh d mc As I Rr) (hx : ∀ (E : String) (J : Hi), ¬ Rr (.inr E) J)
    (k : ∀ (v : Option Value) (J : Hi), Rr (.inl v) J → Rn G Ga Y kx (d + 1) b pc' ls (v.toList ++ rest) J) (hp : pc + 3 = pc' := by rfl) : Rn G Ga Y kx (d + 1) (b + mc) pc ls st I := by
  subst hp
  subst hst
  intro p e R s m args below meth c H locs cells slots tc ts Z F hk lsA hl
  have F0' := F
  obtain ⟨F1, ⟨hP, hD, hS⟩, F3, F4, F5, F6, F7, F8⟩ := F
  have hts := F1.2.2.2.2.2.2.1
  have hw : ∀ w ∈ WA, w ∈ WA ∧ ((w.onTables && w.keeps) = true ∨ ∃ ty, w = .arrayClass ty) := fun w hw => ⟨hw, good_of_word (List.mem_filter.mp hw).2⟩
  have hgood : GoodIn WA (va_wsS Y.1.cls idx y.1 (zwW y hh)) := by
    intro w h2
    simp only [va_wsS, List.mem_append, List.mem_cons, List.not_mem_nil, or_false, zwW] at h2
    rcases h2 with (h2 | h2 | h2) | h2 | h2
    all_goals first | (rw [h2]; exact hw _ hM.1) | (rw [h2]; exact hw _ hM.2.1) | (rw [h2]; exact hw _ hM.2.2.2.2.2) | (rw [h2]; exact hw _ hM.2.2.1) | exact hw _ h2
  have run := vx_runSX (hh := hh) (g := F0 m pc lsA ((As.reverse ++ rest).map (zr (gad G)))) (As := As.map (zr (gad G))) (rest := rest.map (zr (gad G))) (cells := cells) (slots := slots) (locs := locs) (e := e) (below := below) (meth := meth) ⟨F1.1, F1.2.1, F1.2.2.1, F1.2.2.2.2.2.1, hts⟩ (hct H.size)
    (vx_cwSW n hts hgood rfl rfl rfl hM.2.2.2.2.1 ⟨by show d + 8 + 1 ≤ _; omega, by have := hM.2.2.2.1; show 8 + (y.2.2.1 + 11) + (40 * d + 200) ≤ _; omega⟩)
    ⟨zPc_blind, fun U hU hW => zpre F0' U hU hW⟩ rfl (by rw [List.length_map]; exact hn) hl.1 (by simp [zr, List.map_reverse]) (lv_room (by rw [zsum]; exact hr)) hd ⟨by omega, by omega⟩
  exact zafter F0' hk hl run (fun E J hE => absurd hE (hx E J)) k
end Hand
end
section
/-! the rules of growth with numbers in place of lengths -/
def zokb (n : Nat) : Shp → Bool
  | .inl q => q.2.all (fun x => match x with | some (some r) => Nat.blt r n | _ => true)
  | .inr (.object _, _, _) => false
  | .inr _ => true
theorem zokb_ok {n : Nat} {sh : Shp} (h : zokb n sh = true) : zok n sh := by
  cases sh with
  | inl q =>
    intro x hx r hr
    have := List.all_eq_true.mp (show q.2.all (fun x => match x with | some (some r) => Nat.blt r n | _ => true) = true from h) x hx
    rw [hr] at this
    exact Nat.blt_eq.mp this
  | inr q =>
    obtain ⟨ty, len, f⟩ := q
    rintro ⟨C, hC⟩
    cases hC
    exact nomatch h
theorem zOKb {Ga : List Shp} {n : Nat} (h : Ga.all (zokb n) = true) : zOK Ga n := fun sh hs => zokb_ok (List.all_eq_true.mp h sh hs)
theorem zok_fM {n m k : Nat} (h : 42 + 4 * m < n) : zok n (.inr (.object "BorrowedLuck$Coast", k, fM m)) := by
  intro _ j r hr
  have hr : fM m j = some r := hr
  simp only [fM] at hr
  split at hr
  · cases hr; omega
  · cases hr
section GrowY
variable {G0 : Gx} {K : Kx} {n0 n : Nat} {ad : Nat → Nat} {Ga : List Shp} {Y : Ym} {d b pc pc' : Nat} {ls : List (Option Value)} {st : List Value} {I : Hi}
theorem Rn.newY {idx ci N k : Nat} {fl : List (Option (Option Nat))} (hd : decode Y.2.1 pc = .ok (.new idx, 3)) (hN : zNw Y.1.cls idx ci N fl) (hn0 : Ga.length = n) (hok : zOK Ga n) (hz : I n = fun _ => 0) (hv : zlt n (n + 1) ls st = true) (hn : n < 900) (hk1 : 1 ≤ k) (hk6 : N ≤ 6 * k)
    (kk : ∀ ad', Rn (gw G0 ad') (Ga ++ [.inl (ci, fl)]) Y (kZ K G0 n0 ad' (n + 1)) d b pc' ls (.ref n :: st) I) (hp : pc + 3 = pc' := by rfl) : Rn (gw G0 ad) Ga Y (kZ K G0 n0 ad n) d (b + k) pc ls st I := by
  subst hn0
  exact Rn.newZ hd hN hok hz hv hn hk1 hk6 kk hp
theorem Rn.newaY {len k : Nat} {at_ : ArrayType} {ty : FieldType} {x : Int32} (hd : decode Y.2.1 pc = .ok (.newarray at_, 2)) (hty : newarray.typeOf at_ = ty) (ht3 : ty = .int ∨ ty = .byte ∨ ty = .long) (hw : Cond.arrayClass ty ∈ WA) (hx : x = nI len) (hn9 : len < 100000) (hn0 : Ga.length = n) (hok : zOK Ga n) (hz : I n = fun _ => 0) (hv : zlt n (n + 1) ls st = true) (hn : n < 900) (hk1 : 1 ≤ k) (hk6 : len ≤ 6 * k)
    (kk : ∀ ad', Rn (gw G0 ad') (Ga ++ [.inr (ty, len, fun _ => none)]) Y (kZ K G0 n0 ad' (n + 1)) d b pc' ls (.ref n :: st) I) (hp : pc + 2 = pc' := by rfl) : Rn (gw G0 ad) Ga Y (kZ K G0 n0 ad n) d (b + k) pc ls (.int x :: st) I := by
  subst hn0
  exact Rn.newaZ hd hty ht3 hw hx hn9 hok hz hv hn hk1 hk6 kk hp
theorem Rn.newqY {len k idx : Nat} {x : Int32} (hd : decode Y.2.1 pc = .ok (.anewarray idx, 3)) (hw : Cond.classLink Y.1.cls idx "BorrowedLuck$Coast" ∈ WA) (hx : x = nI len) (hn9 : len < 100000) (hn0 : Ga.length = n) (hok : zOK Ga n) (hv : zlt n (n + 1) ls st = true) (hn : n < 900) (hk1 : 1 ≤ k) (hk6 : len ≤ 6 * k)
    (kk : ∀ ad', Rn (gw G0 ad') (Ga ++ [.inr (.object "BorrowedLuck$Coast", len, fun _ => none)]) Y (kZ K G0 n0 ad' (n + 1)) d b pc' ls (.ref n :: st) I) (hp : pc + 3 = pc' := by rfl) : Rn (gw G0 ad) Ga Y (kZ K G0 n0 ad n) d (b + k) pc ls (.int x :: st) I := by
  subst hn0
  exact Rn.newqZ hd hw hx hn9 hok hv hn hk1 hk6 kk hp
theorem Rn.ctorY {idx a na mc n2 : Nat} {As rest : List Value} {y : Ym} {Gb : List Shp} {J : Hi} (hd : decode Y.2.1 pc = .ok (.invokespecial idx, 3)) (hM : zMi Y.1.cls idx y na ∨ zMn Y.1.cls idx y na) (hy0 : y.2.2.2 = none)
    (hst : st = As.reverse ++ .ref a :: rest) (hna : As.length = na) (hr : (rest.map fun v => v.category).sum ≤ 8) (hct : Cn (gw G0 ad) Ga y d mc (.ref a :: As) I Gb J) (hn0 : Ga.length = n) (hn2 : Gb.length = n2) (hv : zlt n n2 ls rest = true) (hg : n ≤ n2) (hg9 : n2 ≤ 900)
    (k : ∀ ad', Rn (gw G0 ad') Gb Y (kZ K G0 n0 ad' n2) (d + 1) b pc' ls rest J) (hp : pc + 3 = pc' := by rfl) : Rn (gw G0 ad) Ga Y (kZ K G0 n0 ad n) (d + 1) (b + mc) pc ls st I := by
  subst hn0
  subst hn2
  exact Rn.ctor hd hM hy0 hst hna hr hct hv hg hg9 k hp
theorem Rn.wld {G : Gx} {kx : Kx} (Gb : List Shp) (h : Ga = Gb) (k : Rn G Gb Y kx d b pc ls st I) : Rn G Ga Y kx d b pc ls st I := h ▸ k
theorem Rn.nretY {Ga0 Gb : List Shp} {J : Hi} {m : Nat} (hd : decode Y.2.1 pc = .ok (.return_, 1)) (hr : Y.2.2.2 = none) (h0 : Ga0.length = m) (hb : Gb.length = n) : Rn (gw G0 ad) Gb Y (kZ (kE G0 Ga0 Gb J) G0 m ad n) d b pc ls [] J := by
  subst h0
  subst hb
  exact Rn.nret hd hr
theorem Cn.mkY {G : Gx} {Gb : List Shp} {y : Ym} {vs : List Value} {J : Hi} (ls : List (Option Value)) (hn0 : Ga.length = n) (k : ∀ ad, Rn (gw G ad) Ga y (kZ (kE G Ga Gb J) G n ad n) d b 0 ls [] I) (hn9 : n ≤ 900 := by decide) (hy : plainName y.1.cls = true := by decide +kernel) (hc : vs.all (fun v => v.category == 1) = true := by rfl) (hn : vs.length ≤ y.2.2.1 := by exact Nat.le_of_ble_eq_true rfl)
    (hl : ls = vs.map some ++ List.replicate (y.2.2.1 - vs.length) none := by rfl) : Cn G Ga y d b vs I Gb J := by
  subst hn0
  exact Cn.mk ls k hn9 hy hc hn hl
end GrowY
abbrev ia (n : Nat) : Shp := .inr (.int, n, fun _ => none)
abbrev shC (c : Nat) : Shp := .inl (0, [none, none, none, none, none, none, none, none, none, some (some (c + 1)), some (some (c + 2)), some (some (c + 3))])
abbrev shC0 : Shp := .inl (0, [none, none, none, none, none, none, none, none, none, some none, some none, some none])
abbrev shL (c : Nat) : Shp := .inl (2, [none, none, some (some (c + 1)), some (some (c + 2)), some (some (c + 3)), some (some (c + 4)), some (some (c + 5)), some (some (c + 6))])
abbrev shL0 : Shp := .inl (2, [none, none, some none, some none, some none, some none, some none, some none])
/-- the object's fields of which the first k are set -/
def fB (k : Nat) : List (Option (Option Nat)) := (([1, 3, 7, 11, 15, 23, 30, 37, 38, 39, 44] : List Nat).mapIdx (fun i r => if i < k then some (some r) else some none)) ++ [none, none]
/-- the world in which the first k fields are set and the cells 1 to n stand -/
def wB (k n : Nat) : List Shp := .inl (8, fB k) :: (GAM.drop 1).take n
/-- the world in which j of the memory's coasts stand -/
def wM (j : Nat) : List Shp := wB 10 44 ++ [.inr (.object "BorrowedLuck$Coast", 12, fM j)] ++ (GAM.drop 46).take (4 * j)
end
section
abbrev mX10_throwsIf : Ym := (yX10_throwsIf, cX10_throwsIf, 3, some .boolean)
theorem dX10_throwsIf_0 : decode cX10_throwsIf 0 = .ok (.iload_n 1, 1) := by decide +kernel
theorem dX10_throwsIf_1 : decode cX10_throwsIf 1 = .ok (.ifCond .eq 8, 3) := by decide +kernel
theorem dX10_throwsIf_4 : decode cX10_throwsIf 4 = .ok (.aload_n 0, 1) := by decide +kernel
theorem dX10_throwsIf_5 : decode cX10_throwsIf 5 = .ok (.iload_n 2, 1) := by decide +kernel
theorem dX10_throwsIf_6 : decode cX10_throwsIf 6 = .ok (.putfield 3, 3) := by decide +kernel
theorem uw_X10 : ∀ w ∈ u_ws RX10 TX10 23, w ∈ WA := by decide +kernel
theorem wi_1259 : Cond.fieldLink RX10 3 "BorrowedLuckModel" "thrown" "I" ∈ WA := zin 1259 (by decide +kernel) (by decide +kernel)
theorem fp_X10_3_9 : zFp RX10 3 9 0 .int := ⟨RX10, TX10, 23, "BorrowedLuckModel", tyX10, rfl, by decide, uw_X10, Or.inl rfl, Or.inl wi_1259, tyX10_ok, nmX10, rfl, by decide +kernel⟩
theorem dX10_throwsIf_9 : decode cX10_throwsIf 9 = .ok (.iload_n 1, 1) := by decide +kernel
theorem dX10_throwsIf_10 : decode cX10_throwsIf 10 = .ok (.ireturn, 1) := by decide +kernel
abbrev mX10_in : Ym := (yX10_in, cX10_in, 3, some .boolean)
theorem dX10_in_0 : decode cX10_in 0 = .ok (.iload_n 0, 1) := by decide +kernel
theorem dX10_in_1 : decode cX10_in 1 = .ok (.iload_n 1, 1) := by decide +kernel
theorem dX10_in_2 : decode cX10_in 2 = .ok (.if_icmp .lt 12, 3) := by decide +kernel
theorem dX10_in_14 : decode cX10_in 14 = .ok (.iconst 0, 1) := by decide +kernel
theorem dX10_in_15 : decode cX10_in 15 = .ok (.ireturn, 1) := by decide +kernel
theorem dX10_in_5 : decode cX10_in 5 = .ok (.iload_n 0, 1) := by decide +kernel
theorem dX10_in_6 : decode cX10_in 6 = .ok (.iload_n 2, 1) := by decide +kernel
theorem dX10_in_7 : decode cX10_in 7 = .ok (.if_icmp .gt 7, 3) := by decide +kernel
theorem dX10_in_10 : decode cX10_in 10 = .ok (.iconst 1, 1) := by decide +kernel
theorem dX10_in_11 : decode cX10_in 11 = .ok (.goto 4, 3) := by decide +kernel
abbrev mX10_women : Ym := (yX10_women, cX10_women, 1, some .int)
theorem dX10_women_0 : decode cX10_women 0 = .ok (.aload_n 0, 1) := by decide +kernel
theorem dX10_women_1 : decode cX10_women 1 = .ok (.getfield 13, 3) := by decide +kernel
theorem wi_1260 : Cond.fieldLink RX10 13 "BorrowedLuckModel" "world" "[I" ∈ WA := zin 1260 (by decide +kernel) (by decide +kernel)
theorem fd_X10_13_9 : zFd RX10 13 9 1 := ⟨RX10, TX10, 23, "BorrowedLuckModel", rfl, by decide, uw_X10, Or.inl rfl, Or.inl wi_1260⟩
theorem dX10_women_4 : decode cX10_women 4 = .ok (.iconst 0, 1) := by decide +kernel
theorem dX10_women_5 : decode cX10_women 5 = .ok (.iaload, 1) := by decide +kernel
theorem dX10_women_6 : decode cX10_women 6 = .ok (.ireturn, 1) := by decide +kernel
abbrev mX10_womanAt : Ym := (yX10_womanAt, cX10_womanAt, 2, some .int)
theorem dX10_womanAt_0 : decode cX10_womanAt 0 = .ok (.bipush 9, 2) := by decide +kernel
theorem dX10_womanAt_2 : decode cX10_womanAt 2 = .ok (.bipush 7, 2) := by decide +kernel
theorem dX10_womanAt_4 : decode cX10_womanAt 4 = .ok (.iload_n 0, 1) := by decide +kernel
theorem dX10_womanAt_5 : decode cX10_womanAt 5 = .ok (.imul, 1) := by decide +kernel
theorem dX10_womanAt_6 : decode cX10_womanAt 6 = .ok (.iadd, 1) := by decide +kernel
theorem dX10_womanAt_7 : decode cX10_womanAt 7 = .ok (.iload_n 1, 1) := by decide +kernel
theorem dX10_womanAt_8 : decode cX10_womanAt 8 = .ok (.iadd, 1) := by decide +kernel
theorem dX10_womanAt_9 : decode cX10_womanAt 9 = .ok (.ireturn, 1) := by decide +kernel
abbrev mX10_of : Ym := (yX10_of, cX10_of, 3, some .int)
theorem dX10_of_0 : decode cX10_of 0 = .ok (.aload_n 0, 1) := by decide +kernel
theorem dX10_of_1 : decode cX10_of 1 = .ok (.getfield 13, 3) := by decide +kernel
theorem dX10_of_4 : decode cX10_of 4 = .ok (.iload_n 1, 1) := by decide +kernel
theorem dX10_of_5 : decode cX10_of 5 = .ok (.iload_n 2, 1) := by decide +kernel
theorem dX10_of_6 : decode cX10_of 6 = .ok (.invokestatic 61, 3) := by decide +kernel
theorem wi_1446 : Cond.methodLink RX10 61 yX10_womanAt ∈ WA := zin 1446 (by decide +kernel) (by decide +kernel)
theorem wi_110 : Cond.initialized RX10 ∈ WA := zin 110 (by decide +kernel) (by decide +kernel)
theorem wi_1448 : Cond.code yX10_womanAt cX10_womanAt 2 (some .int) ∈ WA := zin 1448 (by decide +kernel) (by decide +kernel)
theorem wi_1447 : Cond.static yX10_womanAt ∈ WA := zin 1447 (by decide +kernel) (by decide +kernel)
theorem ms_X10_61 : zMs RX10 61 mX10_womanAt 2 := ⟨⟨wi_1446, wi_110, wi_1448, by decide, by decide +kernel⟩, wi_1447⟩
theorem dX10_of_9 : decode cX10_of 9 = .ok (.iaload, 1) := by decide +kernel
theorem dX10_of_10 : decode cX10_of 10 = .ok (.ireturn, 1) := by decide +kernel
abbrev mX0_her : Ym := (yX0_her, cX0_her, 4, some .int)
theorem dX0_her_0 : decode cX0_her 0 = .ok (.iload_n 1, 1) := by decide +kernel
theorem dX0_her_1 : decode cX0_her 1 = .ok (.ifCond .lt 23, 3) := by decide +kernel
theorem dX0_her_4 : decode cX0_her 4 = .ok (.iload_n 1, 1) := by decide +kernel
theorem dX0_her_5 : decode cX0_her 5 = .ok (.bipush 8, 2) := by decide +kernel
theorem dX0_her_7 : decode cX0_her 7 = .ok (.if_icmp .ge 17, 3) := by decide +kernel
theorem dX0_her_10 : decode cX0_her 10 = .ok (.iload_n 2, 1) := by decide +kernel
theorem dX0_her_11 : decode cX0_her 11 = .ok (.ifCond .lt 13, 3) := by decide +kernel
theorem dX0_her_14 : decode cX0_her 14 = .ok (.iload_n 2, 1) := by decide +kernel
theorem dX0_her_15 : decode cX0_her 15 = .ok (.bipush 7, 2) := by decide +kernel
theorem dX0_her_17 : decode cX0_her 17 = .ok (.if_icmp .ge 7, 3) := by decide +kernel
theorem dX0_her_20 : decode cX0_her 20 = .ok (.iconst 1, 1) := by decide +kernel
theorem dX0_her_21 : decode cX0_her 21 = .ok (.goto 4, 3) := by decide +kernel
theorem dX0_her_25 : decode cX0_her 25 = .ok (.istore_n 3, 1) := by decide +kernel
theorem dX0_her_26 : decode cX0_her 26 = .ok (.iload_n 3, 1) := by decide +kernel
theorem dX0_her_27 : decode cX0_her 27 = .ok (.ifCond .eq 17, 3) := by decide +kernel
theorem dX0_her_30 : decode cX0_her 30 = .ok (.aload_n 0, 1) := by decide +kernel
theorem dX0_her_31 : decode cX0_her 31 = .ok (.getfield 21, 3) := by decide +kernel
theorem uw_X0 : ∀ w ∈ u_ws RX0 TX0 12, w ∈ WA := by decide +kernel
theorem wi_201 : Cond.fieldLink RX0 21 "BorrowedLuck$Coast" "hers" "[I" ∈ WA := zin 201 (by decide +kernel) (by decide +kernel)
theorem fd_X0_21_0 : zFd RX0 21 0 9 := ⟨RX0, TX0, 12, "BorrowedLuck$Coast", rfl, by decide, uw_X0, Or.inl rfl, Or.inl wi_201⟩
theorem dX0_her_34 : decode cX0_her 34 = .ok (.iload_n 1, 1) := by decide +kernel
theorem dX0_her_35 : decode cX0_her 35 = .ok (.bipush 7, 2) := by decide +kernel
theorem dX0_her_37 : decode cX0_her 37 = .ok (.imul, 1) := by decide +kernel
theorem dX0_her_38 : decode cX0_her 38 = .ok (.iload_n 2, 1) := by decide +kernel
theorem dX0_her_39 : decode cX0_her 39 = .ok (.iadd, 1) := by decide +kernel
theorem dX0_her_40 : decode cX0_her 40 = .ok (.iaload, 1) := by decide +kernel
theorem dX0_her_41 : decode cX0_her 41 = .ok (.goto 4, 3) := by decide +kernel
theorem dX0_her_45 : decode cX0_her 45 = .ok (.ireturn, 1) := by decide +kernel
abbrev mX10_luckOf : Ym := (yX10_luckOf, cX10_luckOf, 4, some .int)
theorem dX10_luckOf_0 : decode cX10_luckOf 0 = .ok (.iconst 0, 1) := by decide +kernel
theorem dX10_luckOf_1 : decode cX10_luckOf 1 = .ok (.istore_n 2, 1) := by decide +kernel
theorem dX10_luckOf_2 : decode cX10_luckOf 2 = .ok (.iconst 0, 1) := by decide +kernel
theorem dX10_luckOf_3 : decode cX10_luckOf 3 = .ok (.istore_n 3, 1) := by decide +kernel
theorem dX10_luckOf_4 : decode cX10_luckOf 4 = .ok (.iload_n 3, 1) := by decide +kernel
theorem dX10_luckOf_5 : decode cX10_luckOf 5 = .ok (.iconst 4, 1) := by decide +kernel
theorem dX10_luckOf_6 : decode cX10_luckOf 6 = .ok (.if_icmp .ge 18, 3) := by decide +kernel
theorem dX10_luckOf_9 : decode cX10_luckOf 9 = .ok (.iload_n 2, 1) := by decide +kernel
theorem dX10_luckOf_10 : decode cX10_luckOf 10 = .ok (.aload_n 0, 1) := by decide +kernel
theorem dX10_luckOf_11 : decode cX10_luckOf 11 = .ok (.iload_n 1, 1) := by decide +kernel
theorem dX10_luckOf_12 : decode cX10_luckOf 12 = .ok (.iload_n 3, 1) := by decide +kernel
theorem dX10_luckOf_13 : decode cX10_luckOf 13 = .ok (.invokevirtual 65, 3) := by decide +kernel
theorem wi_1573 : Cond.methodLink RX10 65 yX10_of ∈ WA := zin 1573 (by decide +kernel) (by decide +kernel)
theorem wi_1576 : Cond.code yX10_of cX10_of 3 (some .int) ∈ WA := zin 1576 (by decide +kernel) (by decide +kernel)
theorem wi_1575 : Cond.instanceMethod yX10_of ∈ WA := zin 1575 (by decide +kernel) (by decide +kernel)
theorem wi_56 : Cond.selects RX10 yX10_of yX10_of ∈ WA := zin 56 (by decide +kernel) (by decide +kernel)
theorem mv_X10_65 : zMv RX10 65 RX10 mX10_of 2 := ⟨⟨wi_1573, wi_110, wi_1576, by decide, by decide +kernel⟩, wi_1575, wi_56⟩
theorem dX10_luckOf_16 : decode cX10_luckOf 16 = .ok (.iadd, 1) := by decide +kernel
theorem dX10_luckOf_17 : decode cX10_luckOf 17 = .ok (.istore_n 2, 1) := by decide +kernel
theorem dX10_luckOf_18 : decode cX10_luckOf 18 = .ok (.iinc 3 1, 3) := by decide +kernel
theorem dX10_luckOf_21 : decode cX10_luckOf 21 = .ok (.goto (-17), 3) := by decide +kernel
theorem dX10_luckOf_24 : decode cX10_luckOf 24 = .ok (.iload_n 2, 1) := by decide +kernel
theorem dX10_luckOf_25 : decode cX10_luckOf 25 = .ok (.ireturn, 1) := by decide +kernel
def bI (p : Prop) [Decidable p] : Int32 := if p then 1 else 0
theorem bI_t {p : Prop} [Decidable p] (h : p) : bI p = 1 := if_pos h
theorem bI_f {p : Prop} [Decidable p] (h : ¬ p) : bI p = 0 := if_neg h
theorem Rn.secI {G : Gx} {Ga : List Shp} {Y : Ym} {kx : Kx} {d b pc : Nat} {ls : List (Option Value)} {st : List Value} {I : Hi} {v : Value} {x : Int32} (y : Int32) (h : x = y) (k : Rn G Ga Y kx d b pc ls (v :: .int y :: st) I) : Rn G Ga Y kx d b pc ls (v :: .int x :: st) I := h ▸ k
theorem bI_z {p : Prop} [Decidable p] : bI p = 0 ↔ ¬ p := by
  by_cases h : p
  · rw [bI_t h]; exact ⟨fun q => absurd q (by decide), fun q => absurd h q⟩
  · rw [bI_f h]; exact ⟨fun _ => h, fun _ => rfl⟩
theorem bI_nz {p : Prop} [Decidable p] : ¬ bI p = 0 ↔ p := by rw [bI_z]; exact Decidable.not_not
theorem bI_1 {p : Prop} [Decidable p] : bI p = 1 ↔ p := by
  by_cases h : p
  · rw [bI_t h]; exact ⟨fun _ => h, fun _ => rfl⟩
  · rw [bI_f h]; exact ⟨fun q => absurd q (by decide), fun q => absurd q h⟩
theorem bI_congr {p q : Prop} [Decidable p] [Decidable q] (h : p ↔ q) : bI p = bI q := by
  by_cases hp : p
  · rw [bI_t hp, bI_t (h.mp hp)]
  · rw [bI_f hp, bI_f (fun hq => hp (h.mpr hq))]
theorem bI_nar {p : Prop} [Decidable p] : narrow .boolean (.int (bI p)) = .int (bI p) := by
  by_cases h : p
  · rw [bI_t h]; rfl
  · rw [bI_f h]; rfl
section RnB
variable {G : Gx} {Ga : List Shp} {Y : Ym} {kx : Kx} {d b pc pc' : Nat} {ls : List (Option Value)} {st : List Value} {I : Hi} {p : Prop}
theorem Rn.if_eqB [Decidable p] {off : Int} (hd : decode Y.2.1 pc = .ok (.ifCond .eq off, 3)) (tgt : Nat) (kt : ¬ p → Rn G Ga Y kx d b tgt ls st I) (kf : p → Rn G Ga Y kx d b pc' ls st I) (ht : (pc : Int) + off = (tgt : Int) := by decide) (hp : pc + 3 = pc' := by rfl) : Rn G Ga Y kx d b pc ls (.int (bI p) :: st) I := Rn.if_eq hd ht (fun h => kt (bI_z.mp h)) (fun h => kf (bI_nz.mp h)) hp
theorem Rn.if_neB [Decidable p] {off : Int} (hd : decode Y.2.1 pc = .ok (.ifCond .ne off, 3)) (tgt : Nat) (kt : p → Rn G Ga Y kx d b tgt ls st I) (kf : ¬ p → Rn G Ga Y kx d b pc' ls st I) (ht : (pc : Int) + off = (tgt : Int) := by decide) (hp : pc + 3 = pc' := by rfl) : Rn G Ga Y kx d b pc ls (.int (bI p) :: st) I := Rn.if_ne hd ht (fun h => kt (bI_nz.mp h)) (fun h => kf (bI_z.mp h)) hp
end RnB
section RefA
variable (G : Gx) (d : Nat) (I : Hi)
theorem ct_throwsIf (p : Prop) [Decidable p] (c : Int32) : Ct G GAM mX10_throwsIf d 0 [.ref 94, .int (bI p), .int c] I (Rp (some (.int (bI p))) (if p then zup I 94 0 c else I)) := by
  by_cases h : p
  · rw [bI_t h, if_pos h]
    refine Ct.mk [some (.ref 94), some (.int 1), some (.int c)] ?_
    refine Rn.iload_n dX10_throwsIf_0 rfl rfl ?_
    refine Rn.if_eq (tgt := 9) dX10_throwsIf_1 (by decide) (fun h9 => by exfalso; exact absurd h9 (by decide)) (fun _ => ?_)
    refine Rn.aload_n dX10_throwsIf_4 rfl rfl ?_
    refine Rn.iload_n dX10_throwsIf_5 rfl rfl ?_
    refine Rn.putI dX10_throwsIf_6 fp_X10_3_9 (by first | rfl | exact gC0 (by assumption) | exact gL0 (by assumption)) rfl ?_
    refine Rn.iload_n dX10_throwsIf_9 rfl rfl ?_
    exact Rn.zret dX10_throwsIf_10 rfl rfl (⟨rfl, rfl⟩)
  · rw [bI_f h, if_neg h]
    refine Ct.mk [some (.ref 94), some (.int 0), some (.int c)] ?_
    refine Rn.iload_n dX10_throwsIf_0 rfl rfl ?_
    refine Rn.if_eq (tgt := 9) dX10_throwsIf_1 (by decide) (fun _ => ?_) (fun h9 => by exfalso; exact h9 rfl)
    refine Rn.iload_n dX10_throwsIf_9 rfl rfl ?_
    exact Rn.zret dX10_throwsIf_10 rfl rfl (⟨rfl, rfl⟩)
theorem ct_in (v lo hi : Int32) : Ct G GAM mX10_in d 0 [.int v, .int lo, .int hi] I (Rp (some (.int (bI (lo ≤ v ∧ v ≤ hi)))) I) := by
  refine Ct.mk [some (.int v), some (.int lo), some (.int hi)] ?_
  refine Rn.iload_n dX10_in_0 rfl rfl ?_
  refine Rn.iload_n dX10_in_1 rfl rfl ?_
  refine Rn.icmp_lt (tgt := 14) dX10_in_2 (by decide) (fun h1 => ?_) (fun h1 => ?_)
  · refine Rn.iconst (v := (nI 0)) dX10_in_14 rfl ?_
    exact Rn.zret dX10_in_15 rfl rfl (⟨by rw [bI_f (fun q => absurd h1 (Int32.not_lt.mpr q.1))]; rfl, rfl⟩)
  · refine Rn.iload_n dX10_in_5 rfl rfl ?_
    refine Rn.iload_n dX10_in_6 rfl rfl ?_
    refine Rn.icmp_gt (tgt := 14) dX10_in_7 (by decide) (fun h2 => ?_) (fun h2 => ?_)
    · refine Rn.iconst (v := (nI 0)) dX10_in_14 rfl ?_
      exact Rn.zret dX10_in_15 rfl rfl (⟨by rw [bI_f (fun q => absurd h2 (Int32.not_lt.mpr q.2))]; rfl, rfl⟩)
    · refine Rn.iconst (v := (nI 1)) dX10_in_10 rfl ?_
      refine Rn.goto 15 dX10_in_11 (by decide) ?_
      exact Rn.zret dX10_in_15 rfl rfl (⟨by rw [bI_t ⟨Int32.not_lt.mp h1, Int32.not_lt.mp h2⟩]; rfl, rfl⟩)
theorem ct_women : Ct G GAM mX10_women d 0 [.ref 94] I (Rp (some (.int (I 95 0))) I) := by
  refine Ct.mk [some (.ref 94)] ?_
  refine Rn.aload_n dX10_women_0 rfl rfl ?_
  refine Rn.getR dX10_women_1 fd_X10_13_9 (by first | rfl | exact gC0 (by assumption) | exact gL0 (by assumption)) rfl ?_
  refine Rn.iconst (v := (nI 0)) dX10_women_4 rfl ?_
  refine Rn.ialdN dX10_women_5 (by first | rfl | exact gC1 (by assumption) | exact gC2 (by assumption) | exact gC3 (by assumption) | exact gL1 (by assumption) | exact gL2 (by assumption) | exact gL3 (by assumption) | exact gL4 (by assumption) | exact gL5 (by assumption) | exact gL6 (by assumption)) ?_
  exact Rn.iret dX10_women_6 rfl (⟨rfl, rfl⟩)
theorem ct_womanAt (w k : Nat) : Ct G GAM mX10_womanAt d 0 [.int (nI w), .int (nI k)] I (Rp (some (.int (nI (9 + 7 * w + k)))) I) := by
  refine Ct.mk [some (.int (nI w)), some (.int (nI k))] ?_
  refine Rn.bipush (v := (nI 9)) dX10_womanAt_0 rfl ?_
  refine Rn.bipush (v := (nI 7)) dX10_womanAt_2 rfl ?_
  refine Rn.iload_n dX10_womanAt_4 rfl rfl ?_
  refine Rn.imul dX10_womanAt_5 ?_
  refine Rn.iadd dX10_womanAt_6 ?_
  refine Rn.iload_n dX10_womanAt_7 rfl rfl ?_
  refine Rn.iadd dX10_womanAt_8 ?_
  exact Rn.iret dX10_womanAt_9 rfl (⟨by simp only [nI_add, pk_mul], rfl⟩)
theorem ct_of (w k : Nat) (h : 9 + 7 * w + k < 2075) : Ct G GAM mX10_of (d + 1) 0 [.ref 94, .int (nI w), .int (nI k)] I (Rp (some (.int (I 95 (9 + 7 * w + k)))) I) := by
  refine Ct.mk [some (.ref 94), some (.int (nI w)), some (.int (nI k))] ?_
  refine Rn.aload_n dX10_of_0 rfl rfl ?_
  refine Rn.getR dX10_of_1 fd_X10_13_9 (by first | rfl | exact gC0 (by assumption) | exact gL0 (by assumption)) rfl ?_
  refine Rn.iload_n dX10_of_4 rfl rfl ?_
  refine Rn.iload_n dX10_of_5 rfl rfl ?_
  refine Rn.callSp (As := [_, _]) dX10_of_6 ms_X10_61 rfl rfl (Nat.le_of_ble_eq_true rfl) (ct_womanAt G _ _ _ _) ?_
  refine Rn.ialdN dX10_of_9 (by first | rfl | exact gC1 (by assumption) | exact gC2 (by assumption) | exact gC3 (by assumption) | exact gL1 (by assumption) | exact gL2 (by assumption) | exact gL3 (by assumption) | exact gL4 (by assumption) | exact gL5 (by assumption) | exact gL6 (by assumption)) ?_
  exact Rn.iret dX10_of_10 rfl (⟨rfl, rfl⟩)
theorem ct_her {c w k : Nat} (hc : isC c) (hw : w < 8) (hk : k < 7) : Ct G GAM mX0_her d 0 [.ref c, .int (nI w), .int (nI k)] I (Rp (some (.int (I (c + 1) (7 * w + k)))) I) := by
  refine Ct.mk [some (.ref c), some (.int (nI w)), some (.int (nI k)), none] ?_
  refine Rn.iload_n dX0_her_0 rfl rfl ?_
  refine Rn.if_ltN dX0_her_1 ?_ 24
  refine Rn.iload_n dX0_her_4 rfl rfl ?_
  refine Rn.bipush (v := (nI 8)) dX0_her_5 rfl ?_
  refine Rn.icmp_geN dX0_her_7 24 (fun h9 => by exfalso; omega) (fun _ => ?_)
  refine Rn.iload_n dX0_her_10 rfl rfl ?_
  refine Rn.if_ltN dX0_her_11 ?_ 24
  refine Rn.iload_n dX0_her_14 rfl rfl ?_
  refine Rn.bipush (v := (nI 7)) dX0_her_15 rfl ?_
  refine Rn.icmp_geN dX0_her_17 24 (fun h9 => by exfalso; omega) (fun _ => ?_)
  refine Rn.iconst (v := (nI 1)) dX0_her_20 rfl ?_
  refine Rn.goto 25 dX0_her_21 (by decide) ?_
  refine Rn.istore_n dX0_her_25 rfl (by decide) ?_
  refine Rn.iload_n dX0_her_26 rfl rfl ?_
  refine Rn.if_eqN dX0_her_27 44 (fun h9 => by exfalso; omega) (fun _ => ?_)
  refine Rn.aload_n dX0_her_30 rfl rfl ?_
  refine Rn.getR dX0_her_31 fd_X0_21_0 (by first | rfl | exact gC0 (by assumption) | exact gL0 (by assumption)) rfl ?_
  refine Rn.iload_n dX0_her_34 rfl rfl ?_
  refine Rn.bipush (v := (nI 7)) dX0_her_35 rfl ?_
  refine Rn.imul dX0_her_37 ?_
  refine Rn.iload_n dX0_her_38 rfl rfl ?_
  refine Rn.iadd dX0_her_39 ?_
  refine Rn.topI (nI (7 * w + k)) (by first | rfl | (simp only [nI_add, pk_mul, nI_1]; done) | (simp only [nI_add, pk_mul, nI_1]; congr 1; omega)) ?_
  refine Rn.ialdN dX0_her_40 (by first | rfl | exact gC1 (by assumption) | exact gC2 (by assumption) | exact gC3 (by assumption) | exact gL1 (by assumption) | exact gL2 (by assumption) | exact gL3 (by assumption) | exact gL4 (by assumption) | exact gL5 (by assumption) | exact gL6 (by assumption)) ?_
  refine Rn.goto 45 dX0_her_41 (by decide) ?_
  exact Rn.iret dX0_her_45 rfl (⟨rfl, rfl⟩)
theorem ct_luckOf (w : Nat) (h : w < 8) : Ct G GAM mX10_luckOf (d + 2) 0 [.ref 94, .int (nI w)] I (Rp (some (.int (I 95 (9 + 7 * w + 0) + I 95 (9 + 7 * w + 1) + I 95 (9 + 7 * w + 2) + I 95 (9 + 7 * w + 3)))) I) := by
  refine Ct.mk [some (.ref 94), some (.int (nI w)), none, none] ?_
  refine Rn.iconst (v := (nI 0)) dX10_luckOf_0 rfl ?_
  refine Rn.istore_n dX10_luckOf_1 rfl (by decide) ?_
  refine Rn.iconst (v := (nI 0)) dX10_luckOf_2 rfl ?_
  refine Rn.istore_n dX10_luckOf_3 rfl (by decide) ?_
  refine Rn.iload_n dX10_luckOf_4 rfl rfl ?_
  refine Rn.iconst (v := (nI 4)) dX10_luckOf_5 rfl ?_
  refine Rn.icmp_geN dX10_luckOf_6 24 (fun h9 => by exfalso; omega) (fun _ => ?_)
  refine Rn.iload_n dX10_luckOf_9 rfl rfl ?_
  refine Rn.aload_n dX10_luckOf_10 rfl rfl ?_
  refine Rn.iload_n dX10_luckOf_11 rfl rfl ?_
  refine Rn.iload_n dX10_luckOf_12 rfl rfl ?_
  refine Rn.callVp (As := [_, _]) dX10_luckOf_13 mv_X10_65 (by first | rfl | exact gC0 (by assumption) | exact gL0 (by assumption)) rfl rfl rfl (Nat.le_of_ble_eq_true rfl) (ct_of G _ _ _ _ (by omega)) ?_
  refine Rn.iadd dX10_luckOf_16 ?_
  refine Rn.istore_n dX10_luckOf_17 rfl (by decide) ?_
  refine Rn.iincN dX10_luckOf_18 rfl (by decide) ?_
  refine Rn.goto 4 dX10_luckOf_21 (by decide) ?_
  refine Rn.iload_n dX10_luckOf_4 rfl rfl ?_
  refine Rn.iconst (v := (nI 4)) dX10_luckOf_5 rfl ?_
  refine Rn.icmp_geN dX10_luckOf_6 24 (fun h9 => by exfalso; omega) (fun _ => ?_)
  refine Rn.iload_n dX10_luckOf_9 rfl rfl ?_
  refine Rn.aload_n dX10_luckOf_10 rfl rfl ?_
  refine Rn.iload_n dX10_luckOf_11 rfl rfl ?_
  refine Rn.iload_n dX10_luckOf_12 rfl rfl ?_
  refine Rn.callVp (As := [_, _]) dX10_luckOf_13 mv_X10_65 (by first | rfl | exact gC0 (by assumption) | exact gL0 (by assumption)) rfl rfl rfl (Nat.le_of_ble_eq_true rfl) (ct_of G _ _ _ _ (by omega)) ?_
  refine Rn.iadd dX10_luckOf_16 ?_
  refine Rn.istore_n dX10_luckOf_17 rfl (by decide) ?_
  refine Rn.iincN dX10_luckOf_18 rfl (by decide) ?_
  refine Rn.goto 4 dX10_luckOf_21 (by decide) ?_
  refine Rn.iload_n dX10_luckOf_4 rfl rfl ?_
  refine Rn.iconst (v := (nI 4)) dX10_luckOf_5 rfl ?_
  refine Rn.icmp_geN dX10_luckOf_6 24 (fun h9 => by exfalso; omega) (fun _ => ?_)
  refine Rn.iload_n dX10_luckOf_9 rfl rfl ?_
  refine Rn.aload_n dX10_luckOf_10 rfl rfl ?_
  refine Rn.iload_n dX10_luckOf_11 rfl rfl ?_
  refine Rn.iload_n dX10_luckOf_12 rfl rfl ?_
  refine Rn.callVp (As := [_, _]) dX10_luckOf_13 mv_X10_65 (by first | rfl | exact gC0 (by assumption) | exact gL0 (by assumption)) rfl rfl rfl (Nat.le_of_ble_eq_true rfl) (ct_of G _ _ _ _ (by omega)) ?_
  refine Rn.iadd dX10_luckOf_16 ?_
  refine Rn.istore_n dX10_luckOf_17 rfl (by decide) ?_
  refine Rn.iincN dX10_luckOf_18 rfl (by decide) ?_
  refine Rn.goto 4 dX10_luckOf_21 (by decide) ?_
  refine Rn.iload_n dX10_luckOf_4 rfl rfl ?_
  refine Rn.iconst (v := (nI 4)) dX10_luckOf_5 rfl ?_
  refine Rn.icmp_geN dX10_luckOf_6 24 (fun h9 => by exfalso; omega) (fun _ => ?_)
  refine Rn.iload_n dX10_luckOf_9 rfl rfl ?_
  refine Rn.aload_n dX10_luckOf_10 rfl rfl ?_
  refine Rn.iload_n dX10_luckOf_11 rfl rfl ?_
  refine Rn.iload_n dX10_luckOf_12 rfl rfl ?_
  refine Rn.callVp (As := [_, _]) dX10_luckOf_13 mv_X10_65 (by first | rfl | exact gC0 (by assumption) | exact gL0 (by assumption)) rfl rfl rfl (Nat.le_of_ble_eq_true rfl) (ct_of G _ _ _ _ (by omega)) ?_
  refine Rn.iadd dX10_luckOf_16 ?_
  refine Rn.istore_n dX10_luckOf_17 rfl (by decide) ?_
  refine Rn.iincN dX10_luckOf_18 rfl (by decide) ?_
  refine Rn.goto 4 dX10_luckOf_21 (by decide) ?_
  refine Rn.iload_n dX10_luckOf_4 rfl rfl ?_
  refine Rn.iconst (v := (nI 4)) dX10_luckOf_5 rfl ?_
  refine Rn.icmp_geN dX10_luckOf_6 24 (fun _ => ?_) (fun h9 => by exfalso; omega)
  refine Rn.iload_n dX10_luckOf_24 rfl rfl ?_
  exact Rn.iret dX10_luckOf_25 rfl (⟨by rw [show nI 0 = 0 from rfl, Int32.zero_add], rfl⟩)
end RefA
end
section
abbrev mX10_things : Ym := (yX10_things, cX10_things, 1, some .int)
theorem dX10_things_0 : decode cX10_things 0 = .ok (.aload_n 0, 1) := by decide +kernel
theorem dX10_things_1 : decode cX10_things 1 = .ok (.getfield 13, 3) := by decide +kernel
theorem dX10_things_4 : decode cX10_things 4 = .ok (.iconst 1, 1) := by decide +kernel
theorem dX10_things_5 : decode cX10_things 5 = .ok (.iaload, 1) := by decide +kernel
theorem dX10_things_6 : decode cX10_things 6 = .ok (.ireturn, 1) := by decide +kernel
abbrev mX10_thingAt : Ym := (yX10_thingAt, cX10_thingAt, 2, some .int)
theorem dX10_thingAt_0 : decode cX10_thingAt 0 = .ok (.bipush 65, 2) := by decide +kernel
theorem dX10_thingAt_2 : decode cX10_thingAt 2 = .ok (.bipush 9, 2) := by decide +kernel
theorem dX10_thingAt_4 : decode cX10_thingAt 4 = .ok (.iload_n 0, 1) := by decide +kernel
theorem dX10_thingAt_5 : decode cX10_thingAt 5 = .ok (.imul, 1) := by decide +kernel
theorem dX10_thingAt_6 : decode cX10_thingAt 6 = .ok (.iadd, 1) := by decide +kernel
theorem dX10_thingAt_7 : decode cX10_thingAt 7 = .ok (.iload_n 1, 1) := by decide +kernel
theorem dX10_thingAt_8 : decode cX10_thingAt 8 = .ok (.iadd, 1) := by decide +kernel
theorem dX10_thingAt_9 : decode cX10_thingAt 9 = .ok (.ireturn, 1) := by decide +kernel
abbrev mX10_ofThing : Ym := (yX10_ofThing, cX10_ofThing, 3, some .int)
theorem dX10_ofThing_0 : decode cX10_ofThing 0 = .ok (.aload_n 0, 1) := by decide +kernel
theorem dX10_ofThing_1 : decode cX10_ofThing 1 = .ok (.getfield 13, 3) := by decide +kernel
theorem dX10_ofThing_4 : decode cX10_ofThing 4 = .ok (.iload_n 1, 1) := by decide +kernel
theorem dX10_ofThing_5 : decode cX10_ofThing 5 = .ok (.iload_n 2, 1) := by decide +kernel
theorem dX10_ofThing_6 : decode cX10_ofThing 6 = .ok (.invokestatic 68, 3) := by decide +kernel
theorem wi_1481 : Cond.methodLink RX10 68 yX10_thingAt ∈ WA := zin 1481 (by decide +kernel) (by decide +kernel)
theorem wi_1483 : Cond.code yX10_thingAt cX10_thingAt 2 (some .int) ∈ WA := zin 1483 (by decide +kernel) (by decide +kernel)
theorem wi_1482 : Cond.static yX10_thingAt ∈ WA := zin 1482 (by decide +kernel) (by decide +kernel)
theorem ms_X10_68 : zMs RX10 68 mX10_thingAt 2 := ⟨⟨wi_1481, wi_110, wi_1483, by decide, by decide +kernel⟩, wi_1482⟩
theorem dX10_ofThing_9 : decode cX10_ofThing 9 = .ok (.iaload, 1) := by decide +kernel
theorem dX10_ofThing_10 : decode cX10_ofThing 10 = .ok (.ireturn, 1) := by decide +kernel
abbrev mX10_isPawned : Ym := (yX10_isPawned, cX10_isPawned, 2, some .boolean)
theorem dX10_isPawned_0 : decode cX10_isPawned 0 = .ok (.aload_n 0, 1) := by decide +kernel
theorem dX10_isPawned_1 : decode cX10_isPawned 1 = .ok (.iload_n 1, 1) := by decide +kernel
theorem dX10_isPawned_2 : decode cX10_isPawned 2 = .ok (.iconst 5, 1) := by decide +kernel
theorem dX10_isPawned_3 : decode cX10_isPawned 3 = .ok (.invokevirtual 71, 3) := by decide +kernel
theorem wi_1565 : Cond.methodLink RX10 71 yX10_ofThing ∈ WA := zin 1565 (by decide +kernel) (by decide +kernel)
theorem wi_1568 : Cond.code yX10_ofThing cX10_ofThing 3 (some .int) ∈ WA := zin 1568 (by decide +kernel) (by decide +kernel)
theorem wi_1567 : Cond.instanceMethod yX10_ofThing ∈ WA := zin 1567 (by decide +kernel) (by decide +kernel)
theorem wi_54 : Cond.selects RX10 yX10_ofThing yX10_ofThing ∈ WA := zin 54 (by decide +kernel) (by decide +kernel)
theorem mv_X10_71 : zMv RX10 71 RX10 mX10_ofThing 2 := ⟨⟨wi_1565, wi_110, wi_1568, by decide, by decide +kernel⟩, wi_1567, wi_54⟩
theorem dX10_isPawned_6 : decode cX10_isPawned 6 = .ok (.iconst (-1), 1) := by decide +kernel
theorem dX10_isPawned_7 : decode cX10_isPawned 7 = .ok (.if_icmp .ne 7, 3) := by decide +kernel
theorem dX10_isPawned_14 : decode cX10_isPawned 14 = .ok (.iconst 0, 1) := by decide +kernel
theorem dX10_isPawned_15 : decode cX10_isPawned 15 = .ok (.ireturn, 1) := by decide +kernel
theorem dX10_isPawned_10 : decode cX10_isPawned 10 = .ok (.iconst 1, 1) := by decide +kernel
theorem dX10_isPawned_11 : decode cX10_isPawned 11 = .ok (.goto 4, 3) := by decide +kernel
abbrev mX10_isStuck : Ym := (yX10_isStuck, cX10_isStuck, 2, some .boolean)
theorem dX10_isStuck_0 : decode cX10_isStuck 0 = .ok (.aload_n 0, 1) := by decide +kernel
theorem dX10_isStuck_1 : decode cX10_isStuck 1 = .ok (.iload_n 1, 1) := by decide +kernel
theorem dX10_isStuck_2 : decode cX10_isStuck 2 = .ok (.bipush 7, 2) := by decide +kernel
theorem dX10_isStuck_4 : decode cX10_isStuck 4 = .ok (.invokevirtual 71, 3) := by decide +kernel
theorem dX10_isStuck_7 : decode cX10_isStuck 7 = .ok (.iconst 1, 1) := by decide +kernel
theorem dX10_isStuck_8 : decode cX10_isStuck 8 = .ok (.if_icmp .ne 7, 3) := by decide +kernel
theorem dX10_isStuck_15 : decode cX10_isStuck 15 = .ok (.iconst 0, 1) := by decide +kernel
theorem dX10_isStuck_16 : decode cX10_isStuck 16 = .ok (.ireturn, 1) := by decide +kernel
theorem dX10_isStuck_11 : decode cX10_isStuck 11 = .ok (.iconst 1, 1) := by decide +kernel
theorem dX10_isStuck_12 : decode cX10_isStuck 12 = .ok (.goto 4, 3) := by decide +kernel
abbrev mX10_isWidow : Ym := (yX10_isWidow, cX10_isWidow, 2, some .boolean)
theorem dX10_isWidow_0 : decode cX10_isWidow 0 = .ok (.aload_n 0, 1) := by decide +kernel
theorem dX10_isWidow_1 : decode cX10_isWidow 1 = .ok (.iload_n 1, 1) := by decide +kernel
theorem dX10_isWidow_2 : decode cX10_isWidow 2 = .ok (.bipush 6, 2) := by decide +kernel
theorem dX10_isWidow_4 : decode cX10_isWidow 4 = .ok (.invokevirtual 65, 3) := by decide +kernel
theorem dX10_isWidow_7 : decode cX10_isWidow 7 = .ok (.iconst 1, 1) := by decide +kernel
theorem dX10_isWidow_8 : decode cX10_isWidow 8 = .ok (.if_icmp .ne 7, 3) := by decide +kernel
theorem dX10_isWidow_15 : decode cX10_isWidow 15 = .ok (.iconst 0, 1) := by decide +kernel
theorem dX10_isWidow_16 : decode cX10_isWidow 16 = .ok (.ireturn, 1) := by decide +kernel
theorem dX10_isWidow_11 : decode cX10_isWidow 11 = .ok (.iconst 1, 1) := by decide +kernel
theorem dX10_isWidow_12 : decode cX10_isWidow 12 = .ok (.goto 4, 3) := by decide +kernel
abbrev mX10_noWoman : Ym := (yX10_noWoman, cX10_noWoman, 2, some .boolean)
theorem dX10_noWoman_0 : decode cX10_noWoman 0 = .ok (.iload_n 1, 1) := by decide +kernel
theorem dX10_noWoman_1 : decode cX10_noWoman 1 = .ok (.iconst 0, 1) := by decide +kernel
theorem dX10_noWoman_2 : decode cX10_noWoman 2 = .ok (.aload_n 0, 1) := by decide +kernel
theorem dX10_noWoman_3 : decode cX10_noWoman 3 = .ok (.invokevirtual 74, 3) := by decide +kernel
theorem wi_1442 : Cond.methodLink RX10 74 yX10_women ∈ WA := zin 1442 (by decide +kernel) (by decide +kernel)
theorem wi_1445 : Cond.code yX10_women cX10_women 1 (some .int) ∈ WA := zin 1445 (by decide +kernel) (by decide +kernel)
theorem wi_1444 : Cond.instanceMethod yX10_women ∈ WA := zin 1444 (by decide +kernel) (by decide +kernel)
theorem wi_33 : Cond.selects RX10 yX10_women yX10_women ∈ WA := zin 33 (by decide +kernel) (by decide +kernel)
theorem mv_X10_74 : zMv RX10 74 RX10 mX10_women 0 := ⟨⟨wi_1442, wi_110, wi_1445, by decide, by decide +kernel⟩, wi_1444, wi_33⟩
theorem dX10_noWoman_6 : decode cX10_noWoman 6 = .ok (.iconst 1, 1) := by decide +kernel
theorem dX10_noWoman_7 : decode cX10_noWoman 7 = .ok (.isub, 1) := by decide +kernel
theorem dX10_noWoman_8 : decode cX10_noWoman 8 = .ok (.invokestatic 78, 3) := by decide +kernel
theorem wi_1558 : Cond.methodLink RX10 78 yX10_in ∈ WA := zin 1558 (by decide +kernel) (by decide +kernel)
theorem wi_1560 : Cond.code yX10_in cX10_in 3 (some .boolean) ∈ WA := zin 1560 (by decide +kernel) (by decide +kernel)
theorem wi_1559 : Cond.static yX10_in ∈ WA := zin 1559 (by decide +kernel) (by decide +kernel)
theorem ms_X10_78 : zMs RX10 78 mX10_in 3 := ⟨⟨wi_1558, wi_110, wi_1560, by decide, by decide +kernel⟩, wi_1559⟩
theorem dX10_noWoman_11 : decode cX10_noWoman 11 = .ok (.ifCond .ne 7, 3) := by decide +kernel
theorem dX10_noWoman_18 : decode cX10_noWoman 18 = .ok (.iconst 0, 1) := by decide +kernel
theorem dX10_noWoman_19 : decode cX10_noWoman 19 = .ok (.ireturn, 1) := by decide +kernel
theorem dX10_noWoman_14 : decode cX10_noWoman 14 = .ok (.iconst 1, 1) := by decide +kernel
theorem dX10_noWoman_15 : decode cX10_noWoman 15 = .ok (.goto 4, 3) := by decide +kernel
abbrev mX10_noThing : Ym := (yX10_noThing, cX10_noThing, 2, some .boolean)
theorem dX10_noThing_0 : decode cX10_noThing 0 = .ok (.iload_n 1, 1) := by decide +kernel
theorem dX10_noThing_1 : decode cX10_noThing 1 = .ok (.iconst 0, 1) := by decide +kernel
theorem dX10_noThing_2 : decode cX10_noThing 2 = .ok (.aload_n 0, 1) := by decide +kernel
theorem dX10_noThing_3 : decode cX10_noThing 3 = .ok (.invokevirtual 82, 3) := by decide +kernel
theorem wi_1477 : Cond.methodLink RX10 82 yX10_things ∈ WA := zin 1477 (by decide +kernel) (by decide +kernel)
theorem wi_1480 : Cond.code yX10_things cX10_things 1 (some .int) ∈ WA := zin 1480 (by decide +kernel) (by decide +kernel)
theorem wi_1479 : Cond.instanceMethod yX10_things ∈ WA := zin 1479 (by decide +kernel) (by decide +kernel)
theorem wi_40 : Cond.selects RX10 yX10_things yX10_things ∈ WA := zin 40 (by decide +kernel) (by decide +kernel)
theorem mv_X10_82 : zMv RX10 82 RX10 mX10_things 0 := ⟨⟨wi_1477, wi_110, wi_1480, by decide, by decide +kernel⟩, wi_1479, wi_40⟩
theorem dX10_noThing_6 : decode cX10_noThing 6 = .ok (.iconst 1, 1) := by decide +kernel
theorem dX10_noThing_7 : decode cX10_noThing 7 = .ok (.isub, 1) := by decide +kernel
theorem dX10_noThing_8 : decode cX10_noThing 8 = .ok (.invokestatic 78, 3) := by decide +kernel
theorem dX10_noThing_11 : decode cX10_noThing 11 = .ok (.ifCond .ne 7, 3) := by decide +kernel
theorem dX10_noThing_18 : decode cX10_noThing 18 = .ok (.iconst 0, 1) := by decide +kernel
theorem dX10_noThing_19 : decode cX10_noThing 19 = .ok (.ireturn, 1) := by decide +kernel
theorem dX10_noThing_14 : decode cX10_noThing 14 = .ok (.iconst 1, 1) := by decide +kernel
theorem dX10_noThing_15 : decode cX10_noThing 15 = .ok (.goto 4, 3) := by decide +kernel
abbrev mX10_noSort : Ym := (yX10_noSort, cX10_noSort, 1, some .boolean)
theorem dX10_noSort_0 : decode cX10_noSort 0 = .ok (.iload_n 0, 1) := by decide +kernel
theorem dX10_noSort_1 : decode cX10_noSort 1 = .ok (.iconst 0, 1) := by decide +kernel
theorem dX10_noSort_2 : decode cX10_noSort 2 = .ok (.iconst 3, 1) := by decide +kernel
theorem dX10_noSort_3 : decode cX10_noSort 3 = .ok (.invokestatic 78, 3) := by decide +kernel
theorem dX10_noSort_6 : decode cX10_noSort 6 = .ok (.ifCond .ne 7, 3) := by decide +kernel
theorem dX10_noSort_13 : decode cX10_noSort 13 = .ok (.iconst 0, 1) := by decide +kernel
theorem dX10_noSort_14 : decode cX10_noSort 14 = .ok (.ireturn, 1) := by decide +kernel
theorem dX10_noSort_9 : decode cX10_noSort 9 = .ok (.iconst 1, 1) := by decide +kernel
theorem dX10_noSort_10 : decode cX10_noSort 10 = .ok (.goto 4, 3) := by decide +kernel
abbrev mX10_drawn : Ym := (yX10_drawn, cX10_drawn, 2, some .int)
theorem dX10_drawn_0 : decode cX10_drawn 0 = .ok (.aload_n 0, 1) := by decide +kernel
theorem dX10_drawn_1 : decode cX10_drawn 1 = .ok (.getfield 13, 3) := by decide +kernel
theorem dX10_drawn_4 : decode cX10_drawn 4 = .ok (.bipush 8, 2) := by decide +kernel
theorem dX10_drawn_6 : decode cX10_drawn 6 = .ok (.ldc 85, 2) := by decide +kernel
theorem wi_1706 : Cond.constant RX10 85 (1103515245) ∈ WA := zin 1706 (by decide +kernel) (by decide +kernel)
theorem kc_X10_85 : Cond.constant RX10 85 (1103515245) ∈ WA := wi_1706
theorem dX10_drawn_8 : decode cX10_drawn 8 = .ok (.aload_n 0, 1) := by decide +kernel
theorem dX10_drawn_9 : decode cX10_drawn 9 = .ok (.getfield 13, 3) := by decide +kernel
theorem dX10_drawn_12 : decode cX10_drawn 12 = .ok (.bipush 8, 2) := by decide +kernel
theorem dX10_drawn_14 : decode cX10_drawn 14 = .ok (.iaload, 1) := by decide +kernel
theorem dX10_drawn_15 : decode cX10_drawn 15 = .ok (.imul, 1) := by decide +kernel
theorem dX10_drawn_16 : decode cX10_drawn 16 = .ok (.sipush 12345, 3) := by decide +kernel
theorem dX10_drawn_19 : decode cX10_drawn 19 = .ok (.iadd, 1) := by decide +kernel
theorem dX10_drawn_20 : decode cX10_drawn 20 = .ok (.iastore, 1) := by decide +kernel
theorem dX10_drawn_21 : decode cX10_drawn 21 = .ok (.aload_n 0, 1) := by decide +kernel
theorem dX10_drawn_22 : decode cX10_drawn 22 = .ok (.getfield 13, 3) := by decide +kernel
theorem dX10_drawn_25 : decode cX10_drawn 25 = .ok (.bipush 8, 2) := by decide +kernel
theorem dX10_drawn_27 : decode cX10_drawn 27 = .ok (.iaload, 1) := by decide +kernel
theorem dX10_drawn_28 : decode cX10_drawn 28 = .ok (.bipush 16, 2) := by decide +kernel
theorem dX10_drawn_30 : decode cX10_drawn 30 = .ok (.ishr, 1) := by decide +kernel
theorem dX10_drawn_31 : decode cX10_drawn 31 = .ok (.sipush 32767, 3) := by decide +kernel
theorem dX10_drawn_34 : decode cX10_drawn 34 = .ok (.iand, 1) := by decide +kernel
theorem dX10_drawn_35 : decode cX10_drawn 35 = .ok (.iload_n 1, 1) := by decide +kernel
theorem dX10_drawn_36 : decode cX10_drawn 36 = .ok (.irem, 1) := by decide +kernel
theorem dX10_drawn_37 : decode cX10_drawn 37 = .ok (.ireturn, 1) := by decide +kernel
abbrev mX10_end : Ym := (yX10_end, cX10_end, 2, some .boolean)
theorem dX10_end_0 : decode cX10_end 0 = .ok (.aload_n 0, 1) := by decide +kernel
theorem dX10_end_1 : decode cX10_end 1 = .ok (.iconst 0, 1) := by decide +kernel
theorem dX10_end_2 : decode cX10_end 2 = .ok (.putfield 3, 3) := by decide +kernel
theorem dX10_end_5 : decode cX10_end 5 = .ok (.iload_n 1, 1) := by decide +kernel
theorem dX10_end_6 : decode cX10_end 6 = .ok (.ifCond .lt 11, 3) := by decide +kernel
theorem dX10_end_17 : decode cX10_end 17 = .ok (.iconst 0, 1) := by decide +kernel
theorem dX10_end_18 : decode cX10_end 18 = .ok (.ireturn, 1) := by decide +kernel
theorem dX10_end_9 : decode cX10_end 9 = .ok (.iload_n 1, 1) := by decide +kernel
theorem dX10_end_10 : decode cX10_end 10 = .ok (.aload_n 0, 1) := by decide +kernel
theorem dX10_end_11 : decode cX10_end 11 = .ok (.getfield 86, 3) := by decide +kernel
theorem wi_1268 : Cond.fieldLink RX10 86 "BorrowedLuckModel" "taped" "I" ∈ WA := zin 1268 (by decide +kernel) (by decide +kernel)
theorem fd_X10_86_9 : zFd RX10 86 9 9 := ⟨RX10, TX10, 23, "BorrowedLuckModel", rfl, by decide, uw_X10, Or.inl rfl, Or.inl wi_1268⟩
theorem dX10_end_14 : decode cX10_end 14 = .ok (.if_icmp .le 5, 3) := by decide +kernel
theorem dX10_end_19 : decode cX10_end 19 = .ok (.aload_n 0, 1) := by decide +kernel
theorem dX10_end_20 : decode cX10_end 20 = .ok (.iload_n 1, 1) := by decide +kernel
theorem dX10_end_21 : decode cX10_end 21 = .ok (.putfield 86, 3) := by decide +kernel
theorem fp_X10_86_9 : zFp RX10 86 9 9 .int := ⟨RX10, TX10, 23, "BorrowedLuckModel", tyX10, rfl, by decide, uw_X10, Or.inl rfl, Or.inl wi_1268, tyX10_ok, nmX10, rfl, by decide +kernel⟩
theorem dX10_end_24 : decode cX10_end 24 = .ok (.iconst 1, 1) := by decide +kernel
theorem dX10_end_25 : decode cX10_end 25 = .ok (.ireturn, 1) := by decide +kernel
abbrev mX10_uses : Ym := (yX10_uses, cX10_uses, 1, none)
theorem dX10_uses_0 : decode cX10_uses 0 = .ok (.aload_n 0, 1) := by decide +kernel
theorem dX10_uses_1 : decode cX10_uses 1 = .ok (.iconst 0, 1) := by decide +kernel
theorem dX10_uses_2 : decode cX10_uses 2 = .ok (.putfield 3, 3) := by decide +kernel
theorem dX10_uses_5 : decode cX10_uses 5 = .ok (.aload_n 0, 1) := by decide +kernel
theorem dX10_uses_6 : decode cX10_uses 6 = .ok (.aload_n 0, 1) := by decide +kernel
theorem dX10_uses_7 : decode cX10_uses 7 = .ok (.getfield 86, 3) := by decide +kernel
theorem dX10_uses_10 : decode cX10_uses 10 = .ok (.putfield 92, 3) := by decide +kernel
theorem wi_1270 : Cond.fieldLink RX10 92 "BorrowedLuckModel" "end" "I" ∈ WA := zin 1270 (by decide +kernel) (by decide +kernel)
theorem fp_X10_92_9 : zFp RX10 92 9 11 .int := ⟨RX10, TX10, 23, "BorrowedLuckModel", tyX10, rfl, by decide, uw_X10, Or.inl rfl, Or.inl wi_1270, tyX10_ok, nmX10, rfl, by decide +kernel⟩
theorem dX10_uses_13 : decode cX10_uses 13 = .ok (.aload_n 0, 1) := by decide +kernel
theorem dX10_uses_14 : decode cX10_uses 14 = .ok (.iconst 0, 1) := by decide +kernel
theorem dX10_uses_15 : decode cX10_uses 15 = .ok (.putfield 86, 3) := by decide +kernel
theorem dX10_uses_18 : decode cX10_uses 18 = .ok (.aload_n 0, 1) := by decide +kernel
theorem dX10_uses_19 : decode cX10_uses 19 = .ok (.iconst 0, 1) := by decide +kernel
theorem dX10_uses_20 : decode cX10_uses 20 = .ok (.putfield 89, 3) := by decide +kernel
theorem wi_1269 : Cond.fieldLink RX10 89 "BorrowedLuckModel" "point" "I" ∈ WA := zin 1269 (by decide +kernel) (by decide +kernel)
theorem fp_X10_89_9 : zFp RX10 89 9 10 .int := ⟨RX10, TX10, 23, "BorrowedLuckModel", tyX10, rfl, by decide, uw_X10, Or.inl rfl, Or.inl wi_1269, tyX10_ok, nmX10, rfl, by decide +kernel⟩
theorem dX10_uses_23 : decode cX10_uses 23 = .ok (.return_, 1) := by decide +kernel
abbrev mX10_fault : Ym := (yX10_fault, cX10_fault, 1, some .int)
theorem dX10_fault_0 : decode cX10_fault 0 = .ok (.aload_n 0, 1) := by decide +kernel
theorem dX10_fault_1 : decode cX10_fault 1 = .ok (.iconst 0, 1) := by decide +kernel
theorem dX10_fault_2 : decode cX10_fault 2 = .ok (.putfield 3, 3) := by decide +kernel
theorem dX10_fault_5 : decode cX10_fault 5 = .ok (.aload_n 0, 1) := by decide +kernel
theorem dX10_fault_6 : decode cX10_fault 6 = .ok (.getfield 33, 3) := by decide +kernel
theorem wi_1273 : Cond.fieldLink RX10 33 "BorrowedLuckModel" "faultAt" "I" ∈ WA := zin 1273 (by decide +kernel) (by decide +kernel)
theorem fd_X10_33_9 : zFd RX10 33 9 14 := ⟨RX10, TX10, 23, "BorrowedLuckModel", rfl, by decide, uw_X10, Or.inl rfl, Or.inl wi_1273⟩
theorem dX10_fault_9 : decode cX10_fault 9 = .ok (.ireturn, 1) := by decide +kernel
abbrev mX10_image : Ym := (yX10_image, cX10_image, 2, none)
theorem dX10_image_7 : decode cX10_image 7 = .ok (.iload_n 1, 1) := by decide +kernel
theorem dX10_image_8 : decode cX10_image 8 = .ok (.sipush 1226, 3) := by decide +kernel
theorem dX10_image_11 : decode cX10_image 11 = .ok (.if_icmp .ge 21, 3) := by decide +kernel
theorem dX10_image_14 : decode cX10_image 14 = .ok (.aload_n 0, 1) := by decide +kernel
theorem dX10_image_15 : decode cX10_image 15 = .ok (.getfield 17, 3) := by decide +kernel
theorem wi_1261 : Cond.fieldLink RX10 17 "BorrowedLuckModel" "image" "[I" ∈ WA := zin 1261 (by decide +kernel) (by decide +kernel)
theorem fd_X10_17_9 : zFd RX10 17 9 2 := ⟨RX10, TX10, 23, "BorrowedLuckModel", rfl, by decide, uw_X10, Or.inl rfl, Or.inl wi_1261⟩
theorem dX10_image_18 : decode cX10_image 18 = .ok (.iload_n 1, 1) := by decide +kernel
theorem dX10_image_19 : decode cX10_image 19 = .ok (.aload_n 0, 1) := by decide +kernel
theorem dX10_image_20 : decode cX10_image 20 = .ok (.getfield 13, 3) := by decide +kernel
theorem dX10_image_23 : decode cX10_image 23 = .ok (.iload_n 1, 1) := by decide +kernel
theorem dX10_image_24 : decode cX10_image 24 = .ok (.iaload, 1) := by decide +kernel
theorem dX10_image_25 : decode cX10_image 25 = .ok (.iastore, 1) := by decide +kernel
theorem dX10_image_26 : decode cX10_image 26 = .ok (.iinc 1 1, 3) := by decide +kernel
theorem dX10_image_29 : decode cX10_image 29 = .ok (.goto (-22), 3) := by decide +kernel
theorem dX10_image_0 : decode cX10_image 0 = .ok (.aload_n 0, 1) := by decide +kernel
theorem dX10_image_1 : decode cX10_image 1 = .ok (.iconst 0, 1) := by decide +kernel
theorem dX10_image_2 : decode cX10_image 2 = .ok (.putfield 3, 3) := by decide +kernel
theorem dX10_image_5 : decode cX10_image 5 = .ok (.iconst 0, 1) := by decide +kernel
theorem dX10_image_6 : decode cX10_image 6 = .ok (.istore_n 1, 1) := by decide +kernel
theorem dX10_image_32 : decode cX10_image 32 = .ok (.aload_n 0, 1) := by decide +kernel
theorem dX10_image_33 : decode cX10_image 33 = .ok (.iconst 1, 1) := by decide +kernel
theorem dX10_image_34 : decode cX10_image 34 = .ok (.putfield 54, 3) := by decide +kernel
theorem wi_1265 : Cond.fieldLink RX10 54 "BorrowedLuckModel" "hasImage" "Z" ∈ WA := zin 1265 (by decide +kernel) (by decide +kernel)
theorem fp_X10_54_9 : zFp RX10 54 9 6 .boolean := ⟨RX10, TX10, 23, "BorrowedLuckModel", tyX10, rfl, by decide, uw_X10, Or.inl rfl, Or.inl wi_1265, tyX10_ok, nmX10, rfl, by decide +kernel⟩
theorem dX10_image_37 : decode cX10_image 37 = .ok (.return_, 1) := by decide +kernel
abbrev mX10_back : Ym := (yX10_back, cX10_back, 2, some .boolean)
theorem dX10_back_16 : decode cX10_back 16 = .ok (.iload_n 1, 1) := by decide +kernel
theorem dX10_back_17 : decode cX10_back 17 = .ok (.sipush 1226, 3) := by decide +kernel
theorem dX10_back_20 : decode cX10_back 20 = .ok (.if_icmp .ge 21, 3) := by decide +kernel
theorem dX10_back_23 : decode cX10_back 23 = .ok (.aload_n 0, 1) := by decide +kernel
theorem dX10_back_24 : decode cX10_back 24 = .ok (.getfield 13, 3) := by decide +kernel
theorem dX10_back_27 : decode cX10_back 27 = .ok (.iload_n 1, 1) := by decide +kernel
theorem dX10_back_28 : decode cX10_back 28 = .ok (.aload_n 0, 1) := by decide +kernel
theorem dX10_back_29 : decode cX10_back 29 = .ok (.getfield 17, 3) := by decide +kernel
theorem dX10_back_32 : decode cX10_back 32 = .ok (.iload_n 1, 1) := by decide +kernel
theorem dX10_back_33 : decode cX10_back 33 = .ok (.iaload, 1) := by decide +kernel
theorem dX10_back_34 : decode cX10_back 34 = .ok (.iastore, 1) := by decide +kernel
theorem dX10_back_35 : decode cX10_back 35 = .ok (.iinc 1 1, 3) := by decide +kernel
theorem dX10_back_38 : decode cX10_back 38 = .ok (.goto (-22), 3) := by decide +kernel
theorem dX10_back_0 : decode cX10_back 0 = .ok (.aload_n 0, 1) := by decide +kernel
theorem dX10_back_1 : decode cX10_back 1 = .ok (.iconst 0, 1) := by decide +kernel
theorem dX10_back_2 : decode cX10_back 2 = .ok (.putfield 3, 3) := by decide +kernel
theorem dX10_back_5 : decode cX10_back 5 = .ok (.aload_n 0, 1) := by decide +kernel
theorem dX10_back_6 : decode cX10_back 6 = .ok (.getfield 54, 3) := by decide +kernel
theorem fd_X10_54_9 : zFd RX10 54 9 6 := ⟨RX10, TX10, 23, "BorrowedLuckModel", rfl, by decide, uw_X10, Or.inl rfl, Or.inl wi_1265⟩
theorem dX10_back_9 : decode cX10_back 9 = .ok (.ifCond .ne 5, 3) := by decide +kernel
theorem dX10_back_14 : decode cX10_back 14 = .ok (.iconst 0, 1) := by decide +kernel
theorem dX10_back_15 : decode cX10_back 15 = .ok (.istore_n 1, 1) := by decide +kernel
theorem dX10_back_41 : decode cX10_back 41 = .ok (.aload_n 0, 1) := by decide +kernel
theorem dX10_back_42 : decode cX10_back 42 = .ok (.iconst 0, 1) := by decide +kernel
theorem dX10_back_43 : decode cX10_back 43 = .ok (.putfield 58, 3) := by decide +kernel
theorem wi_1266 : Cond.fieldLink RX10 58 "BorrowedLuckModel" "remembered" "I" ∈ WA := zin 1266 (by decide +kernel) (by decide +kernel)
theorem fp_X10_58_9 : zFp RX10 58 9 7 .int := ⟨RX10, TX10, 23, "BorrowedLuckModel", tyX10, rfl, by decide, uw_X10, Or.inl rfl, Or.inl wi_1266, tyX10_ok, nmX10, rfl, by decide +kernel⟩
theorem dX10_back_46 : decode cX10_back 46 = .ok (.iconst 1, 1) := by decide +kernel
theorem dX10_back_47 : decode cX10_back 47 = .ok (.ireturn, 1) := by decide +kernel
theorem dX10_back_12 : decode cX10_back 12 = .ok (.iconst 0, 1) := by decide +kernel
theorem dX10_back_13 : decode cX10_back 13 = .ok (.ireturn, 1) := by decide +kernel
abbrev mX10_keepsAll : Ym := (yX10_keepsAll, cX10_keepsAll, 2, none)
theorem dX10_keepsAll_2 : decode cX10_keepsAll 2 = .ok (.iload_n 1, 1) := by decide +kernel
theorem dX10_keepsAll_3 : decode cX10_keepsAll 3 = .ok (.sipush 377, 3) := by decide +kernel
theorem dX10_keepsAll_6 : decode cX10_keepsAll 6 = .ok (.if_icmp .ge 21, 3) := by decide +kernel
theorem dX10_keepsAll_9 : decode cX10_keepsAll 9 = .ok (.aload_n 0, 1) := by decide +kernel
theorem dX10_keepsAll_10 : decode cX10_keepsAll 10 = .ok (.getfield 23, 3) := by decide +kernel
theorem wi_1263 : Cond.fieldLink RX10 23 "BorrowedLuckModel" "trial" "[I" ∈ WA := zin 1263 (by decide +kernel) (by decide +kernel)
theorem fd_X10_23_9 : zFd RX10 23 9 4 := ⟨RX10, TX10, 23, "BorrowedLuckModel", rfl, by decide, uw_X10, Or.inl rfl, Or.inl wi_1263⟩
theorem dX10_keepsAll_13 : decode cX10_keepsAll 13 = .ok (.iload_n 1, 1) := by decide +kernel
theorem dX10_keepsAll_14 : decode cX10_keepsAll 14 = .ok (.aload_n 0, 1) := by decide +kernel
theorem dX10_keepsAll_15 : decode cX10_keepsAll 15 = .ok (.getfield 13, 3) := by decide +kernel
theorem dX10_keepsAll_18 : decode cX10_keepsAll 18 = .ok (.iload_n 1, 1) := by decide +kernel
theorem dX10_keepsAll_19 : decode cX10_keepsAll 19 = .ok (.iaload, 1) := by decide +kernel
theorem dX10_keepsAll_20 : decode cX10_keepsAll 20 = .ok (.iastore, 1) := by decide +kernel
theorem dX10_keepsAll_21 : decode cX10_keepsAll 21 = .ok (.iinc 1 1, 3) := by decide +kernel
theorem dX10_keepsAll_24 : decode cX10_keepsAll 24 = .ok (.goto (-22), 3) := by decide +kernel
theorem dX10_keepsAll_0 : decode cX10_keepsAll 0 = .ok (.iconst 0, 1) := by decide +kernel
theorem dX10_keepsAll_1 : decode cX10_keepsAll 1 = .ok (.istore_n 1, 1) := by decide +kernel
theorem dX10_keepsAll_27 : decode cX10_keepsAll 27 = .ok (.return_, 1) := by decide +kernel
abbrev mX10_bringsBack : Ym := (yX10_bringsBack, cX10_bringsBack, 2, none)
theorem dX10_bringsBack_2 : decode cX10_bringsBack 2 = .ok (.iload_n 1, 1) := by decide +kernel
theorem dX10_bringsBack_3 : decode cX10_bringsBack 3 = .ok (.sipush 377, 3) := by decide +kernel
theorem dX10_bringsBack_6 : decode cX10_bringsBack 6 = .ok (.if_icmp .ge 21, 3) := by decide +kernel
theorem dX10_bringsBack_9 : decode cX10_bringsBack 9 = .ok (.aload_n 0, 1) := by decide +kernel
theorem dX10_bringsBack_10 : decode cX10_bringsBack 10 = .ok (.getfield 13, 3) := by decide +kernel
theorem dX10_bringsBack_13 : decode cX10_bringsBack 13 = .ok (.iload_n 1, 1) := by decide +kernel
theorem dX10_bringsBack_14 : decode cX10_bringsBack 14 = .ok (.aload_n 0, 1) := by decide +kernel
theorem dX10_bringsBack_15 : decode cX10_bringsBack 15 = .ok (.getfield 23, 3) := by decide +kernel
theorem dX10_bringsBack_18 : decode cX10_bringsBack 18 = .ok (.iload_n 1, 1) := by decide +kernel
theorem dX10_bringsBack_19 : decode cX10_bringsBack 19 = .ok (.iaload, 1) := by decide +kernel
theorem dX10_bringsBack_20 : decode cX10_bringsBack 20 = .ok (.iastore, 1) := by decide +kernel
theorem dX10_bringsBack_21 : decode cX10_bringsBack 21 = .ok (.iinc 1 1, 3) := by decide +kernel
theorem dX10_bringsBack_24 : decode cX10_bringsBack 24 = .ok (.goto (-22), 3) := by decide +kernel
theorem dX10_bringsBack_0 : decode cX10_bringsBack 0 = .ok (.iconst 0, 1) := by decide +kernel
theorem dX10_bringsBack_1 : decode cX10_bringsBack 1 = .ok (.istore_n 1, 1) := by decide +kernel
theorem dX10_bringsBack_27 : decode cX10_bringsBack 27 = .ok (.return_, 1) := by decide +kernel
abbrev mX10_luckIn : Ym := (yX10_luckIn, cX10_luckIn, 4, some .int)
theorem dX10_luckIn_0 : decode cX10_luckIn 0 = .ok (.iconst 0, 1) := by decide +kernel
theorem dX10_luckIn_1 : decode cX10_luckIn 1 = .ok (.istore_n 2, 1) := by decide +kernel
theorem dX10_luckIn_2 : decode cX10_luckIn 2 = .ok (.iconst 0, 1) := by decide +kernel
theorem dX10_luckIn_3 : decode cX10_luckIn 3 = .ok (.istore_n 3, 1) := by decide +kernel
theorem dX10_luckIn_4 : decode cX10_luckIn 4 = .ok (.iload_n 3, 1) := by decide +kernel
theorem dX10_luckIn_5 : decode cX10_luckIn 5 = .ok (.iconst 4, 1) := by decide +kernel
theorem dX10_luckIn_6 : decode cX10_luckIn 6 = .ok (.if_icmp .ge 18, 3) := by decide +kernel
theorem dX10_luckIn_9 : decode cX10_luckIn 9 = .ok (.iload_n 2, 1) := by decide +kernel
theorem dX10_luckIn_10 : decode cX10_luckIn 10 = .ok (.aload_n 0, 1) := by decide +kernel
theorem dX10_luckIn_11 : decode cX10_luckIn 11 = .ok (.iload_n 1, 1) := by decide +kernel
theorem dX10_luckIn_12 : decode cX10_luckIn 12 = .ok (.iload_n 3, 1) := by decide +kernel
theorem dX10_luckIn_13 : decode cX10_luckIn 13 = .ok (.invokevirtual 71, 3) := by decide +kernel
theorem dX10_luckIn_16 : decode cX10_luckIn 16 = .ok (.iadd, 1) := by decide +kernel
theorem dX10_luckIn_17 : decode cX10_luckIn 17 = .ok (.istore_n 2, 1) := by decide +kernel
theorem dX10_luckIn_18 : decode cX10_luckIn 18 = .ok (.iinc 3 1, 3) := by decide +kernel
theorem dX10_luckIn_21 : decode cX10_luckIn 21 = .ok (.goto (-17), 3) := by decide +kernel
theorem dX10_luckIn_24 : decode cX10_luckIn 24 = .ok (.iload_n 2, 1) := by decide +kernel
theorem dX10_luckIn_25 : decode cX10_luckIn 25 = .ok (.ireturn, 1) := by decide +kernel
abbrev mX10_worthOf : Ym := (yX10_worthOf, cX10_worthOf, 2, some .int)
theorem dX10_worthOf_0 : decode cX10_worthOf 0 = .ok (.aload_n 0, 1) := by decide +kernel
theorem dX10_worthOf_1 : decode cX10_worthOf 1 = .ok (.iload_n 1, 1) := by decide +kernel
theorem dX10_worthOf_2 : decode cX10_worthOf 2 = .ok (.invokevirtual 272, 3) := by decide +kernel
theorem wi_1589 : Cond.methodLink RX10 272 yX10_luckIn ∈ WA := zin 1589 (by decide +kernel) (by decide +kernel)
theorem wi_1592 : Cond.code yX10_luckIn cX10_luckIn 4 (some .int) ∈ WA := zin 1592 (by decide +kernel) (by decide +kernel)
theorem wi_1591 : Cond.instanceMethod yX10_luckIn ∈ WA := zin 1591 (by decide +kernel) (by decide +kernel)
theorem wi_59 : Cond.selects RX10 yX10_luckIn yX10_luckIn ∈ WA := zin 59 (by decide +kernel) (by decide +kernel)
theorem mv_X10_272 : zMv RX10 272 RX10 mX10_luckIn 1 := ⟨⟨wi_1589, wi_110, wi_1592, by decide, by decide +kernel⟩, wi_1591, wi_59⟩
theorem dX10_worthOf_5 : decode cX10_worthOf 5 = .ok (.aload_n 0, 1) := by decide +kernel
theorem dX10_worthOf_6 : decode cX10_worthOf 6 = .ok (.iload_n 1, 1) := by decide +kernel
theorem dX10_worthOf_7 : decode cX10_worthOf 7 = .ok (.bipush 6, 2) := by decide +kernel
theorem dX10_worthOf_9 : decode cX10_worthOf 9 = .ok (.invokevirtual 71, 3) := by decide +kernel
theorem dX10_worthOf_12 : decode cX10_worthOf 12 = .ok (.isub, 1) := by decide +kernel
theorem dX10_worthOf_13 : decode cX10_worthOf 13 = .ok (.ireturn, 1) := by decide +kernel
abbrev mX10_ofLog : Ym := (yX10_ofLog, cX10_ofLog, 3, some .int)
theorem dX10_ofLog_0 : decode cX10_ofLog 0 = .ok (.aload_n 0, 1) := by decide +kernel
theorem dX10_ofLog_1 : decode cX10_ofLog 1 = .ok (.getfield 13, 3) := by decide +kernel
theorem dX10_ofLog_4 : decode cX10_ofLog 4 = .ok (.sipush 137, 3) := by decide +kernel
theorem dX10_ofLog_7 : decode cX10_ofLog 7 = .ok (.iconst 4, 1) := by decide +kernel
theorem dX10_ofLog_8 : decode cX10_ofLog 8 = .ok (.iload_n 1, 1) := by decide +kernel
theorem dX10_ofLog_9 : decode cX10_ofLog 9 = .ok (.imul, 1) := by decide +kernel
theorem dX10_ofLog_10 : decode cX10_ofLog 10 = .ok (.iadd, 1) := by decide +kernel
theorem dX10_ofLog_11 : decode cX10_ofLog 11 = .ok (.iload_n 2, 1) := by decide +kernel
theorem dX10_ofLog_12 : decode cX10_ofLog 12 = .ok (.iadd, 1) := by decide +kernel
theorem dX10_ofLog_13 : decode cX10_ofLog 13 = .ok (.iaload, 1) := by decide +kernel
theorem dX10_ofLog_14 : decode cX10_ofLog 14 = .ok (.ireturn, 1) := by decide +kernel
abbrev mX10_has : Ym := (yX10_has, cX10_has, 2, some .boolean)
theorem dX10_has_0 : decode cX10_has 0 = .ok (.iload_n 0, 1) := by decide +kernel
theorem dX10_has_1 : decode cX10_has 1 = .ok (.iload_n 1, 1) := by decide +kernel
theorem dX10_has_2 : decode cX10_has 2 = .ok (.ishr, 1) := by decide +kernel
theorem dX10_has_3 : decode cX10_has 3 = .ok (.iconst 1, 1) := by decide +kernel
theorem dX10_has_4 : decode cX10_has 4 = .ok (.iand, 1) := by decide +kernel
theorem dX10_has_5 : decode cX10_has 5 = .ok (.iconst 1, 1) := by decide +kernel
theorem dX10_has_6 : decode cX10_has 6 = .ok (.if_icmp .ne 7, 3) := by decide +kernel
theorem dX10_has_13 : decode cX10_has 13 = .ok (.iconst 0, 1) := by decide +kernel
theorem dX10_has_14 : decode cX10_has 14 = .ok (.ireturn, 1) := by decide +kernel
theorem dX10_has_9 : decode cX10_has 9 = .ok (.iconst 1, 1) := by decide +kernel
theorem dX10_has_10 : decode cX10_has 10 = .ok (.goto 4, 3) := by decide +kernel
abbrev mX10_allWomen : Ym := (yX10_allWomen, cX10_allWomen, 1, some .int)
theorem dX10_allWomen_0 : decode cX10_allWomen 0 = .ok (.iconst 1, 1) := by decide +kernel
theorem dX10_allWomen_1 : decode cX10_allWomen 1 = .ok (.aload_n 0, 1) := by decide +kernel
theorem dX10_allWomen_2 : decode cX10_allWomen 2 = .ok (.invokevirtual 74, 3) := by decide +kernel
theorem dX10_allWomen_5 : decode cX10_allWomen 5 = .ok (.ishl, 1) := by decide +kernel
theorem dX10_allWomen_6 : decode cX10_allWomen 6 = .ok (.iconst 1, 1) := by decide +kernel
theorem dX10_allWomen_7 : decode cX10_allWomen 7 = .ok (.isub, 1) := by decide +kernel
theorem dX10_allWomen_8 : decode cX10_allWomen 8 = .ok (.ireturn, 1) := by decide +kernel
abbrev mX10_luckOfAll : Ym := (yX10_luckOfAll, cX10_luckOfAll, 3, some .int)
theorem dX10_luckOfAll_4 : decode cX10_luckOfAll 4 = .ok (.iload_n 2, 1) := by decide +kernel
theorem dX10_luckOfAll_5 : decode cX10_luckOfAll 5 = .ok (.aload_n 0, 1) := by decide +kernel
theorem dX10_luckOfAll_6 : decode cX10_luckOfAll 6 = .ok (.invokevirtual 74, 3) := by decide +kernel
theorem dX10_luckOfAll_9 : decode cX10_luckOfAll 9 = .ok (.if_icmp .ge 17, 3) := by decide +kernel
theorem dX10_luckOfAll_12 : decode cX10_luckOfAll 12 = .ok (.iload_n 1, 1) := by decide +kernel
theorem dX10_luckOfAll_13 : decode cX10_luckOfAll 13 = .ok (.aload_n 0, 1) := by decide +kernel
theorem dX10_luckOfAll_14 : decode cX10_luckOfAll 14 = .ok (.iload_n 2, 1) := by decide +kernel
theorem dX10_luckOfAll_15 : decode cX10_luckOfAll 15 = .ok (.invokevirtual 281, 3) := by decide +kernel
theorem wi_1569 : Cond.methodLink RX10 281 yX10_luckOf ∈ WA := zin 1569 (by decide +kernel) (by decide +kernel)
theorem wi_1572 : Cond.code yX10_luckOf cX10_luckOf 4 (some .int) ∈ WA := zin 1572 (by decide +kernel) (by decide +kernel)
theorem wi_1571 : Cond.instanceMethod yX10_luckOf ∈ WA := zin 1571 (by decide +kernel) (by decide +kernel)
theorem wi_55 : Cond.selects RX10 yX10_luckOf yX10_luckOf ∈ WA := zin 55 (by decide +kernel) (by decide +kernel)
theorem mv_X10_281 : zMv RX10 281 RX10 mX10_luckOf 1 := ⟨⟨wi_1569, wi_110, wi_1572, by decide, by decide +kernel⟩, wi_1571, wi_55⟩
theorem dX10_luckOfAll_18 : decode cX10_luckOfAll 18 = .ok (.iadd, 1) := by decide +kernel
theorem dX10_luckOfAll_19 : decode cX10_luckOfAll 19 = .ok (.istore_n 1, 1) := by decide +kernel
theorem dX10_luckOfAll_20 : decode cX10_luckOfAll 20 = .ok (.iinc 2 1, 3) := by decide +kernel
theorem dX10_luckOfAll_23 : decode cX10_luckOfAll 23 = .ok (.goto (-19), 3) := by decide +kernel
theorem dX10_luckOfAll_0 : decode cX10_luckOfAll 0 = .ok (.iconst 0, 1) := by decide +kernel
theorem dX10_luckOfAll_1 : decode cX10_luckOfAll 1 = .ok (.istore_n 1, 1) := by decide +kernel
theorem dX10_luckOfAll_2 : decode cX10_luckOfAll 2 = .ok (.iconst 0, 1) := by decide +kernel
theorem dX10_luckOfAll_3 : decode cX10_luckOfAll 3 = .ok (.istore_n 2, 1) := by decide +kernel
theorem dX10_luckOfAll_26 : decode cX10_luckOfAll 26 = .ok (.iload_n 1, 1) := by decide +kernel
theorem dX10_luckOfAll_27 : decode cX10_luckOfAll 27 = .ok (.ireturn, 1) := by decide +kernel
abbrev mX10_isStuckElsewhere : Ym := (yX10_isStuckElsewhere, cX10_isStuckElsewhere, 3, some .boolean)
theorem dX10_isStuckElsewhere_0 : decode cX10_isStuckElsewhere 0 = .ok (.aload_n 0, 1) := by decide +kernel
theorem dX10_isStuckElsewhere_1 : decode cX10_isStuckElsewhere 1 = .ok (.iload_n 1, 1) := by decide +kernel
theorem dX10_isStuckElsewhere_2 : decode cX10_isStuckElsewhere 2 = .ok (.invokevirtual 302, 3) := by decide +kernel
theorem wi_1642 : Cond.methodLink RX10 302 yX10_isStuck ∈ WA := zin 1642 (by decide +kernel) (by decide +kernel)
theorem wi_1645 : Cond.code yX10_isStuck cX10_isStuck 2 (some .boolean) ∈ WA := zin 1645 (by decide +kernel) (by decide +kernel)
theorem wi_1644 : Cond.instanceMethod yX10_isStuck ∈ WA := zin 1644 (by decide +kernel) (by decide +kernel)
theorem wi_68 : Cond.selects RX10 yX10_isStuck yX10_isStuck ∈ WA := zin 68 (by decide +kernel) (by decide +kernel)
theorem mv_X10_302 : zMv RX10 302 RX10 mX10_isStuck 1 := ⟨⟨wi_1642, wi_110, wi_1645, by decide, by decide +kernel⟩, wi_1644, wi_68⟩
theorem dX10_isStuckElsewhere_5 : decode cX10_isStuckElsewhere 5 = .ok (.ifCond .eq 17, 3) := by decide +kernel
theorem dX10_isStuckElsewhere_22 : decode cX10_isStuckElsewhere 22 = .ok (.iconst 0, 1) := by decide +kernel
theorem dX10_isStuckElsewhere_23 : decode cX10_isStuckElsewhere 23 = .ok (.ireturn, 1) := by decide +kernel
theorem dX10_isStuckElsewhere_8 : decode cX10_isStuckElsewhere 8 = .ok (.aload_n 0, 1) := by decide +kernel
theorem dX10_isStuckElsewhere_9 : decode cX10_isStuckElsewhere 9 = .ok (.iload_n 1, 1) := by decide +kernel
theorem dX10_isStuckElsewhere_10 : decode cX10_isStuckElsewhere 10 = .ok (.iconst 5, 1) := by decide +kernel
theorem dX10_isStuckElsewhere_11 : decode cX10_isStuckElsewhere 11 = .ok (.invokevirtual 71, 3) := by decide +kernel
theorem dX10_isStuckElsewhere_14 : decode cX10_isStuckElsewhere 14 = .ok (.iload_n 2, 1) := by decide +kernel
theorem dX10_isStuckElsewhere_15 : decode cX10_isStuckElsewhere 15 = .ok (.if_icmp .eq 7, 3) := by decide +kernel
theorem dX10_isStuckElsewhere_18 : decode cX10_isStuckElsewhere 18 = .ok (.iconst 1, 1) := by decide +kernel
theorem dX10_isStuckElsewhere_19 : decode cX10_isStuckElsewhere 19 = .ok (.goto 4, 3) := by decide +kernel
abbrev mX10_mayHave : Ym := (yX10_mayHave, cX10_mayHave, 3, some .boolean)
theorem dX10_mayHave_0 : decode cX10_mayHave 0 = .ok (.aload_n 0, 1) := by decide +kernel
theorem dX10_mayHave_1 : decode cX10_mayHave 1 = .ok (.iload_n 1, 1) := by decide +kernel
theorem dX10_mayHave_2 : decode cX10_mayHave 2 = .ok (.invokevirtual 305, 3) := by decide +kernel
theorem wi_1638 : Cond.methodLink RX10 305 yX10_isPawned ∈ WA := zin 1638 (by decide +kernel) (by decide +kernel)
theorem wi_1641 : Cond.code yX10_isPawned cX10_isPawned 2 (some .boolean) ∈ WA := zin 1641 (by decide +kernel) (by decide +kernel)
theorem wi_1640 : Cond.instanceMethod yX10_isPawned ∈ WA := zin 1640 (by decide +kernel) (by decide +kernel)
theorem wi_67 : Cond.selects RX10 yX10_isPawned yX10_isPawned ∈ WA := zin 67 (by decide +kernel) (by decide +kernel)
theorem mv_X10_305 : zMv RX10 305 RX10 mX10_isPawned 1 := ⟨⟨wi_1638, wi_110, wi_1641, by decide, by decide +kernel⟩, wi_1640, wi_67⟩
theorem dX10_mayHave_5 : decode cX10_mayHave 5 = .ok (.ifCond .ne 16, 3) := by decide +kernel
theorem dX10_mayHave_21 : decode cX10_mayHave 21 = .ok (.iconst 0, 1) := by decide +kernel
theorem dX10_mayHave_22 : decode cX10_mayHave 22 = .ok (.ireturn, 1) := by decide +kernel
theorem dX10_mayHave_8 : decode cX10_mayHave 8 = .ok (.aload_n 0, 1) := by decide +kernel
theorem dX10_mayHave_9 : decode cX10_mayHave 9 = .ok (.iload_n 1, 1) := by decide +kernel
theorem dX10_mayHave_10 : decode cX10_mayHave 10 = .ok (.iload_n 2, 1) := by decide +kernel
theorem dX10_mayHave_11 : decode cX10_mayHave 11 = .ok (.invokevirtual 308, 3) := by decide +kernel
theorem wi_1711 : Cond.methodLink RX10 308 yX10_isStuckElsewhere ∈ WA := zin 1711 (by decide +kernel) (by decide +kernel)
theorem wi_1714 : Cond.code yX10_isStuckElsewhere cX10_isStuckElsewhere 3 (some .boolean) ∈ WA := zin 1714 (by decide +kernel) (by decide +kernel)
theorem wi_1713 : Cond.instanceMethod yX10_isStuckElsewhere ∈ WA := zin 1713 (by decide +kernel) (by decide +kernel)
theorem wi_79 : Cond.selects RX10 yX10_isStuckElsewhere yX10_isStuckElsewhere ∈ WA := zin 79 (by decide +kernel) (by decide +kernel)
theorem mv_X10_308 : zMv RX10 308 RX10 mX10_isStuckElsewhere 2 := ⟨⟨wi_1711, wi_110, wi_1714, by decide, by decide +kernel⟩, wi_1713, wi_79⟩
theorem dX10_mayHave_14 : decode cX10_mayHave 14 = .ok (.ifCond .ne 7, 3) := by decide +kernel
theorem dX10_mayHave_17 : decode cX10_mayHave 17 = .ok (.iconst 1, 1) := by decide +kernel
theorem dX10_mayHave_18 : decode cX10_mayHave 18 = .ok (.goto 4, 3) := by decide +kernel
def cp (f g : Nat → Int32) (i : Nat) : Nat → Int32 := fun k => if k < i then f k else g k
theorem cp_upd (f g : Nat → Int32) (i : Nat) : upd (cp f g i) i (f i) = cp f g (i + 1) := by
  funext k
  simp only [upd, cp]
  by_cases h : k = i
  · subst h; simp
  · rw [if_neg h]
    by_cases h2 : k < i
    · rw [if_pos h2, if_pos (by omega)]
    · rw [if_neg h2, if_neg (by omega)]
theorem cp_0 (f g : Nat → Int32) : cp f g 0 = g := by funext k; simp [cp]
theorem zup_zset (I : Hi) (a j : Nat) (g : Nat → Int32) (v : Int32) : zup (zset I a g) a j v = zset I a (upd g j v) := by
  funext k
  simp only [zup, zset]
  by_cases h : k = a <;> simp [h]
theorem zset_zset (I : Hi) (a : Nat) (g h : Nat → Int32) : zset (zset I a g) a h = zset I a h := by
  funext k
  simp only [zset]
  by_cases q : k = a <;> simp [q]
theorem zset_self (I : Hi) (a : Nat) : zset I a (I a) = I := by
  funext k
  simp only [zset]
  by_cases q : k = a <;> simp [q]
theorem zset_at (I : Hi) (a : Nat) (g : Nat → Int32) : zset I a g a = g := by simp [zset]
theorem zset_ne (I : Hi) {a b : Nat} (g : Nat → Int32) (h : b ≠ a) : zset I a g b = I b := by simp [zset, h]
theorem cp_start (J : Hi) (a : Nat) (f : Nat → Int32) : J = zset J a (cp f (J a) 0) := by rw [cp_0, zset_self]
section RefB
variable (G : Gx) (d : Nat) (I : Hi)
theorem ct_things : Ct G GAM mX10_things d 0 [.ref 94] I (Rp (some (.int (I 95 1))) I) := by
  refine Ct.mk [some (.ref 94)] ?_
  refine Rn.aload_n dX10_things_0 rfl rfl ?_
  refine Rn.getR dX10_things_1 fd_X10_13_9 (by first | rfl | exact gC0 (by assumption) | exact gL0 (by assumption)) rfl ?_
  refine Rn.iconst (v := (nI 1)) dX10_things_4 rfl ?_
  refine Rn.ialdN dX10_things_5 (by first | rfl | exact gC1 (by assumption) | exact gC2 (by assumption) | exact gC3 (by assumption) | exact gL1 (by assumption) | exact gL2 (by assumption) | exact gL3 (by assumption) | exact gL4 (by assumption) | exact gL5 (by assumption) | exact gL6 (by assumption)) ?_
  exact Rn.iret dX10_things_6 rfl (⟨rfl, rfl⟩)
theorem ct_thingAt (w k : Nat) : Ct G GAM mX10_thingAt d 0 [.int (nI w), .int (nI k)] I (Rp (some (.int (nI (65 + 9 * w + k)))) I) := by
  refine Ct.mk [some (.int (nI w)), some (.int (nI k))] ?_
  refine Rn.bipush (v := (nI 65)) dX10_thingAt_0 rfl ?_
  refine Rn.bipush (v := (nI 9)) dX10_thingAt_2 rfl ?_
  refine Rn.iload_n dX10_thingAt_4 rfl rfl ?_
  refine Rn.imul dX10_thingAt_5 ?_
  refine Rn.iadd dX10_thingAt_6 ?_
  refine Rn.iload_n dX10_thingAt_7 rfl rfl ?_
  refine Rn.iadd dX10_thingAt_8 ?_
  exact Rn.iret dX10_thingAt_9 rfl (⟨by simp only [nI_add, pk_mul], rfl⟩)
theorem ct_ofThing (w k : Nat) (h : 65 + 9 * w + k < 2075) : Ct G GAM mX10_ofThing (d + 1) 0 [.ref 94, .int (nI w), .int (nI k)] I (Rp (some (.int (I 95 (65 + 9 * w + k)))) I) := by
  refine Ct.mk [some (.ref 94), some (.int (nI w)), some (.int (nI k))] ?_
  refine Rn.aload_n dX10_ofThing_0 rfl rfl ?_
  refine Rn.getR dX10_ofThing_1 fd_X10_13_9 (by first | rfl | exact gC0 (by assumption) | exact gL0 (by assumption)) rfl ?_
  refine Rn.iload_n dX10_ofThing_4 rfl rfl ?_
  refine Rn.iload_n dX10_ofThing_5 rfl rfl ?_
  refine Rn.callSp (As := [_, _]) dX10_ofThing_6 ms_X10_68 rfl rfl (Nat.le_of_ble_eq_true rfl) (ct_thingAt G _ _ _ _) ?_
  refine Rn.ialdN dX10_ofThing_9 (by first | rfl | exact gC1 (by assumption) | exact gC2 (by assumption) | exact gC3 (by assumption) | exact gL1 (by assumption) | exact gL2 (by assumption) | exact gL3 (by assumption) | exact gL4 (by assumption) | exact gL5 (by assumption) | exact gL6 (by assumption)) ?_
  exact Rn.iret dX10_ofThing_10 rfl (⟨rfl, rfl⟩)
theorem ct_isPawned (t : Nat) (h : t < 8) : Ct G GAM mX10_isPawned (d + 2) 0 [.ref 94, .int (nI t)] I (Rp (some (.int (bI (I 95 (65 + 9 * t + 5) = -1)))) I) := by
  refine Ct.mk [some (.ref 94), some (.int (nI t))] ?_
  refine Rn.aload_n dX10_isPawned_0 rfl rfl ?_
  refine Rn.iload_n dX10_isPawned_1 rfl rfl ?_
  refine Rn.iconst (v := (nI 5)) dX10_isPawned_2 rfl ?_
  refine Rn.callVp (As := [_, _]) dX10_isPawned_3 mv_X10_71 (by first | rfl | exact gC0 (by assumption) | exact gL0 (by assumption)) rfl rfl rfl (Nat.le_of_ble_eq_true rfl) (ct_ofThing G _ _ _ _ (by omega)) ?_
  refine Rn.iconst (v := (-1)) dX10_isPawned_6 rfl ?_
  refine Rn.icmp_ne (tgt := 14) dX10_isPawned_7 (by decide) (fun h1 => ?_) (fun h1 => ?_)
  · refine Rn.iconst (v := (nI 0)) dX10_isPawned_14 rfl ?_
    exact Rn.zret dX10_isPawned_15 rfl rfl (⟨by rw [bI_f h1]; rfl, rfl⟩)
  · refine Rn.iconst (v := (nI 1)) dX10_isPawned_10 rfl ?_
    refine Rn.goto 15 dX10_isPawned_11 (by decide) ?_
    exact Rn.zret dX10_isPawned_15 rfl rfl (⟨by rw [bI_t h1]; rfl, rfl⟩)
theorem ct_isStuck (t : Nat) (h : t < 8) : Ct G GAM mX10_isStuck (d + 2) 0 [.ref 94, .int (nI t)] I (Rp (some (.int (bI (I 95 (65 + 9 * t + 7) = nI 1)))) I) := by
  refine Ct.mk [some (.ref 94), some (.int (nI t))] ?_
  refine Rn.aload_n dX10_isStuck_0 rfl rfl ?_
  refine Rn.iload_n dX10_isStuck_1 rfl rfl ?_
  refine Rn.bipush (v := (nI 7)) dX10_isStuck_2 rfl ?_
  refine Rn.callVp (As := [_, _]) dX10_isStuck_4 mv_X10_71 (by first | rfl | exact gC0 (by assumption) | exact gL0 (by assumption)) rfl rfl rfl (Nat.le_of_ble_eq_true rfl) (ct_ofThing G _ _ _ _ (by omega)) ?_
  refine Rn.iconst (v := (nI 1)) dX10_isStuck_7 rfl ?_
  refine Rn.icmp_ne (tgt := 15) dX10_isStuck_8 (by decide) (fun h1 => ?_) (fun h1 => ?_)
  · refine Rn.iconst (v := (nI 0)) dX10_isStuck_15 rfl ?_
    exact Rn.zret dX10_isStuck_16 rfl rfl (⟨by rw [bI_f h1]; rfl, rfl⟩)
  · refine Rn.iconst (v := (nI 1)) dX10_isStuck_11 rfl ?_
    refine Rn.goto 16 dX10_isStuck_12 (by decide) ?_
    exact Rn.zret dX10_isStuck_16 rfl rfl (⟨by rw [bI_t h1]; rfl, rfl⟩)
theorem ct_isWidow (t : Nat) (h : t < 8) : Ct G GAM mX10_isWidow (d + 2) 0 [.ref 94, .int (nI t)] I (Rp (some (.int (bI (I 95 (9 + 7 * t + 6) = nI 1)))) I) := by
  refine Ct.mk [some (.ref 94), some (.int (nI t))] ?_
  refine Rn.aload_n dX10_isWidow_0 rfl rfl ?_
  refine Rn.iload_n dX10_isWidow_1 rfl rfl ?_
  refine Rn.bipush (v := (nI 6)) dX10_isWidow_2 rfl ?_
  refine Rn.callVp (As := [_, _]) dX10_isWidow_4 mv_X10_65 (by first | rfl | exact gC0 (by assumption) | exact gL0 (by assumption)) rfl rfl rfl (Nat.le_of_ble_eq_true rfl) (ct_of G _ _ _ _ (by omega)) ?_
  refine Rn.iconst (v := (nI 1)) dX10_isWidow_7 rfl ?_
  refine Rn.icmp_ne (tgt := 15) dX10_isWidow_8 (by decide) (fun h1 => ?_) (fun h1 => ?_)
  · refine Rn.iconst (v := (nI 0)) dX10_isWidow_15 rfl ?_
    exact Rn.zret dX10_isWidow_16 rfl rfl (⟨by rw [bI_f h1]; rfl, rfl⟩)
  · refine Rn.iconst (v := (nI 1)) dX10_isWidow_11 rfl ?_
    refine Rn.goto 16 dX10_isWidow_12 (by decide) ?_
    exact Rn.zret dX10_isWidow_16 rfl rfl (⟨by rw [bI_t h1]; rfl, rfl⟩)
theorem ct_noWoman (w : Int32) : Ct G GAM mX10_noWoman (d + 1) 0 [.ref 94, .int w] I (Rp (some (.int (bI (¬ (nI 0 ≤ w ∧ w ≤ I 95 0 - nI 1))))) I) := by
  refine Ct.mk [some (.ref 94), some (.int w)] ?_
  refine Rn.iload_n dX10_noWoman_0 rfl rfl ?_
  refine Rn.iconst (v := (nI 0)) dX10_noWoman_1 rfl ?_
  refine Rn.aload_n dX10_noWoman_2 rfl rfl ?_
  refine Rn.callVp (As := []) dX10_noWoman_3 mv_X10_74 (by first | rfl | exact gC0 (by assumption) | exact gL0 (by assumption)) rfl rfl rfl (Nat.le_of_ble_eq_true rfl) (ct_women G _ _) ?_
  refine Rn.iconst (v := (nI 1)) dX10_noWoman_6 rfl ?_
  refine Rn.isub dX10_noWoman_7 ?_
  refine Rn.callSp (As := [_, _, _]) dX10_noWoman_8 ms_X10_78 rfl rfl (Nat.le_of_ble_eq_true rfl) (ct_in G _ _ _ _ _) ?_
  refine Rn.if_neB dX10_noWoman_11 18 (fun h1 => ?_) (fun h1 => ?_)
  · refine Rn.iconst (v := (nI 0)) dX10_noWoman_18 rfl ?_
    exact Rn.zret dX10_noWoman_19 rfl rfl (⟨by rw [bI_f (fun q => q h1)]; rfl, rfl⟩)
  · refine Rn.iconst (v := (nI 1)) dX10_noWoman_14 rfl ?_
    refine Rn.goto 19 dX10_noWoman_15 (by decide) ?_
    exact Rn.zret dX10_noWoman_19 rfl rfl (⟨by rw [bI_t h1]; rfl, rfl⟩)
theorem ct_noThing (w : Int32) : Ct G GAM mX10_noThing (d + 1) 0 [.ref 94, .int w] I (Rp (some (.int (bI (¬ (nI 0 ≤ w ∧ w ≤ I 95 1 - nI 1))))) I) := by
  refine Ct.mk [some (.ref 94), some (.int w)] ?_
  refine Rn.iload_n dX10_noThing_0 rfl rfl ?_
  refine Rn.iconst (v := (nI 0)) dX10_noThing_1 rfl ?_
  refine Rn.aload_n dX10_noThing_2 rfl rfl ?_
  refine Rn.callVp (As := []) dX10_noThing_3 mv_X10_82 (by first | rfl | exact gC0 (by assumption) | exact gL0 (by assumption)) rfl rfl rfl (Nat.le_of_ble_eq_true rfl) (ct_things G _ _) ?_
  refine Rn.iconst (v := (nI 1)) dX10_noThing_6 rfl ?_
  refine Rn.isub dX10_noThing_7 ?_
  refine Rn.callSp (As := [_, _, _]) dX10_noThing_8 ms_X10_78 rfl rfl (Nat.le_of_ble_eq_true rfl) (ct_in G _ _ _ _ _) ?_
  refine Rn.if_neB dX10_noThing_11 18 (fun h1 => ?_) (fun h1 => ?_)
  · refine Rn.iconst (v := (nI 0)) dX10_noThing_18 rfl ?_
    exact Rn.zret dX10_noThing_19 rfl rfl (⟨by rw [bI_f (fun q => q h1)]; rfl, rfl⟩)
  · refine Rn.iconst (v := (nI 1)) dX10_noThing_14 rfl ?_
    refine Rn.goto 19 dX10_noThing_15 (by decide) ?_
    exact Rn.zret dX10_noThing_19 rfl rfl (⟨by rw [bI_t h1]; rfl, rfl⟩)
theorem ct_noSort (w : Int32) : Ct G GAM mX10_noSort (d + 1) 0 [.int w] I (Rp (some (.int (bI (¬ (nI 0 ≤ w ∧ w ≤ nI 3))))) I) := by
  refine Ct.mk [some (.int w)] ?_
  refine Rn.iload_n dX10_noSort_0 rfl rfl ?_
  refine Rn.iconst (v := (nI 0)) dX10_noSort_1 rfl ?_
  refine Rn.iconst (v := (nI 3)) dX10_noSort_2 rfl ?_
  refine Rn.callSp (As := [_, _, _]) dX10_noSort_3 ms_X10_78 rfl rfl (Nat.le_of_ble_eq_true rfl) (ct_in G _ _ _ _ _) ?_
  refine Rn.if_neB dX10_noSort_6 13 (fun h1 => ?_) (fun h1 => ?_)
  · refine Rn.iconst (v := (nI 0)) dX10_noSort_13 rfl ?_
    exact Rn.zret dX10_noSort_14 rfl rfl (⟨by rw [bI_f (fun q => q h1)]; rfl, rfl⟩)
  · refine Rn.iconst (v := (nI 1)) dX10_noSort_9 rfl ?_
    refine Rn.goto 14 dX10_noSort_10 (by decide) ?_
    exact Rn.zret dX10_noSort_14 rfl rfl (⟨by rw [bI_t h1]; rfl, rfl⟩)
def nseed (s : Int32) : Int32 := 1103515245 * s + nI 12345
def ndraw (s : Int32) : Int32 := (nseed s >>> (nI 16 &&& 31)) &&& nI 32767
theorem ct_drawn (n : Int32) (hn : ¬ n = 0) : Ct G GAM mX10_drawn d 0 [.ref 94, .int n] I (Rp (some (.int (ndraw (I 95 8) - ndraw (I 95 8) / n * n))) (zup I 95 8 (nseed (I 95 8)))) := by
  refine Ct.mk [some (.ref 94), some (.int n)] ?_
  refine Rn.aload_n dX10_drawn_0 rfl rfl ?_
  refine Rn.getR dX10_drawn_1 fd_X10_13_9 (by first | rfl | exact gC0 (by assumption) | exact gL0 (by assumption)) rfl ?_
  refine Rn.bipush (v := (nI 8)) dX10_drawn_4 rfl ?_
  refine Rn.ldc dX10_drawn_6 kc_X10_85 ?_
  refine Rn.aload_n dX10_drawn_8 rfl rfl ?_
  refine Rn.getR dX10_drawn_9 fd_X10_13_9 (by first | rfl | exact gC0 (by assumption) | exact gL0 (by assumption)) rfl ?_
  refine Rn.bipush (v := (nI 8)) dX10_drawn_12 rfl ?_
  refine Rn.ialdN dX10_drawn_14 (by first | rfl | exact gC1 (by assumption) | exact gC2 (by assumption) | exact gC3 (by assumption) | exact gL1 (by assumption) | exact gL2 (by assumption) | exact gL3 (by assumption) | exact gL4 (by assumption) | exact gL5 (by assumption) | exact gL6 (by assumption)) ?_
  refine Rn.imul dX10_drawn_15 ?_
  refine Rn.sipush (v := (nI 12345)) dX10_drawn_16 rfl ?_
  refine Rn.iadd dX10_drawn_19 ?_
  refine Rn.iastN dX10_drawn_20 (by first | rfl | exact gC1 (by assumption) | exact gC2 (by assumption) | exact gC3 (by assumption) | exact gL1 (by assumption) | exact gL2 (by assumption) | exact gL3 (by assumption) | exact gL4 (by assumption) | exact gL5 (by assumption) | exact gL6 (by assumption)) ?_
  refine Rn.aload_n dX10_drawn_21 rfl rfl ?_
  refine Rn.getR dX10_drawn_22 fd_X10_13_9 (by first | rfl | exact gC0 (by assumption) | exact gL0 (by assumption)) rfl ?_
  refine Rn.bipush (v := (nI 8)) dX10_drawn_25 rfl ?_
  refine Rn.ialdN dX10_drawn_27 (by first | rfl | exact gC1 (by assumption) | exact gC2 (by assumption) | exact gC3 (by assumption) | exact gL1 (by assumption) | exact gL2 (by assumption) | exact gL3 (by assumption) | exact gL4 (by assumption) | exact gL5 (by assumption) | exact gL6 (by assumption)) ?_
  refine Rn.bipush (v := (nI 16)) dX10_drawn_28 rfl ?_
  refine Rn.ishr dX10_drawn_30 ?_
  refine Rn.sipush (v := (nI 32767)) dX10_drawn_31 rfl ?_
  refine Rn.iand dX10_drawn_34 ?_
  refine Rn.iload_n dX10_drawn_35 rfl rfl ?_
  refine Rn.irem dX10_drawn_36 (by exact hn) ?_
  exact Rn.iret dX10_drawn_37 rfl (⟨rfl, rfl⟩)
theorem ct_end (n : Int32) : Ct G GAM mX10_end d 0 [.ref 94, .int n] I (Rp (some (.int (bI (¬ n < 0 ∧ n ≤ I 94 9)))) (if ¬ n < 0 ∧ n ≤ I 94 9 then zup (zup I 94 0 (nI 0)) 94 9 n else zup I 94 0 (nI 0))) := by
  refine Ct.mk [some (.ref 94), some (.int n)] ?_
  refine Rn.aload_n dX10_end_0 rfl rfl ?_
  refine Rn.iconst (v := (nI 0)) dX10_end_1 rfl ?_
  refine Rn.putI dX10_end_2 fp_X10_3_9 (by first | rfl | exact gC0 (by assumption) | exact gL0 (by assumption)) rfl ?_
  refine Rn.iload_n dX10_end_5 rfl rfl ?_
  refine Rn.if_lt (tgt := 17) dX10_end_6 (by decide) (fun h1 => ?_) (fun h1 => ?_)
  · refine Rn.iconst (v := (nI 0)) dX10_end_17 rfl ?_
    exact Rn.zret dX10_end_18 rfl rfl (⟨by rw [bI_f (fun q => q.1 h1)]; rfl, by rw [if_neg (fun q => q.1 h1)]⟩)
  · refine Rn.iload_n dX10_end_9 rfl rfl ?_
    refine Rn.aload_n dX10_end_10 rfl rfl ?_
    refine Rn.getI dX10_end_11 fd_X10_86_9 (by first | rfl | exact gC0 (by assumption) | exact gL0 (by assumption)) rfl ?_
    refine Rn.icmp_le (tgt := 19) dX10_end_14 (by decide) (fun h2 => ?_) (fun h2 => ?_)
    · refine Rn.aload_n dX10_end_19 rfl rfl ?_
      refine Rn.iload_n dX10_end_20 rfl rfl ?_
      refine Rn.putI dX10_end_21 fp_X10_86_9 (by first | rfl | exact gC0 (by assumption) | exact gL0 (by assumption)) rfl ?_
      refine Rn.iconst (v := (nI 1)) dX10_end_24 rfl ?_
      exact Rn.zret dX10_end_25 rfl rfl (⟨by rw [bI_t ⟨h1, h2⟩]; rfl, by rw [if_pos ⟨h1, h2⟩]⟩)
    · refine Rn.iconst (v := (nI 0)) dX10_end_17 rfl ?_
      exact Rn.zret dX10_end_18 rfl rfl (⟨by rw [bI_f (fun q => h2 q.2)]; rfl, by rw [if_neg (fun q => h2 q.2)]⟩)
theorem ct_uses : Ct G GAM mX10_uses d 0 [.ref 94] I (Rp none (zup (zup (zup (zup I 94 0 (nI 0)) 94 11 (I 94 9)) 94 9 (nI 0)) 94 10 (nI 0))) := by
  refine Ct.mk [some (.ref 94)] ?_
  refine Rn.aload_n dX10_uses_0 rfl rfl ?_
  refine Rn.iconst (v := (nI 0)) dX10_uses_1 rfl ?_
  refine Rn.putI dX10_uses_2 fp_X10_3_9 (by first | rfl | exact gC0 (by assumption) | exact gL0 (by assumption)) rfl ?_
  refine Rn.aload_n dX10_uses_5 rfl rfl ?_
  refine Rn.aload_n dX10_uses_6 rfl rfl ?_
  refine Rn.getI dX10_uses_7 fd_X10_86_9 (by first | rfl | exact gC0 (by assumption) | exact gL0 (by assumption)) rfl ?_
  refine Rn.putI dX10_uses_10 fp_X10_92_9 (by first | rfl | exact gC0 (by assumption) | exact gL0 (by assumption)) rfl ?_
  refine Rn.aload_n dX10_uses_13 rfl rfl ?_
  refine Rn.iconst (v := (nI 0)) dX10_uses_14 rfl ?_
  refine Rn.putI dX10_uses_15 fp_X10_86_9 (by first | rfl | exact gC0 (by assumption) | exact gL0 (by assumption)) rfl ?_
  refine Rn.aload_n dX10_uses_18 rfl rfl ?_
  refine Rn.iconst (v := (nI 0)) dX10_uses_19 rfl ?_
  refine Rn.putI dX10_uses_20 fp_X10_89_9 (by first | rfl | exact gC0 (by assumption) | exact gL0 (by assumption)) rfl ?_
  exact Rn.vret dX10_uses_23 rfl (⟨rfl, rfl⟩)
theorem ct_fault : Ct G GAM mX10_fault d 0 [.ref 94] I (Rp (some (.int (I 94 14))) (zup I 94 0 (nI 0))) := by
  refine Ct.mk [some (.ref 94)] ?_
  refine Rn.aload_n dX10_fault_0 rfl rfl ?_
  refine Rn.iconst (v := (nI 0)) dX10_fault_1 rfl ?_
  refine Rn.putI dX10_fault_2 fp_X10_3_9 (by first | rfl | exact gC0 (by assumption) | exact gL0 (by assumption)) rfl ?_
  refine Rn.aload_n dX10_fault_5 rfl rfl ?_
  refine Rn.getI dX10_fault_6 fd_X10_33_9 (by first | rfl | exact gC0 (by assumption) | exact gL0 (by assumption)) rfl ?_
  exact Rn.iret dX10_fault_9 rfl (⟨rfl, rfl⟩)
theorem lp_image {kx : Kx} {b : Nat} (J : Hi) (k : Rn G GAM mX10_image kx d b 32 [some (.ref 94), some (.int (nI 1226))] [] (zset J 96 (cp (J 95) (J 96) 1226))) : ∀ n i : Nat, i + n = 1226 → Rn G GAM mX10_image kx d b 7 [some (.ref 94), some (.int (nI i))] [] (zset J 96 (cp (J 95) (J 96) i)) := by
  intro n
  induction n with
  | zero =>
    intro i hi
    obtain rfl : i = 1226 := by omega
    refine Rn.iload_n dX10_image_7 rfl rfl ?_
    refine Rn.sipush (v := (nI 1226)) dX10_image_8 rfl ?_
    refine Rn.icmp_geN dX10_image_11 32 (fun _ => ?_) (fun h9 => by exfalso; omega)
    exact k
  | succ n ih =>
    intro i hi
    refine Rn.iload_n dX10_image_7 rfl rfl ?_
    refine Rn.sipush (v := (nI 1226)) dX10_image_8 rfl ?_
    refine Rn.icmp_geN dX10_image_11 32 (fun h9 => by exfalso; omega) (fun _ => ?_)
    refine Rn.aload_n dX10_image_14 rfl rfl ?_
    refine Rn.getR dX10_image_15 fd_X10_17_9 (by first | rfl | exact gC0 (by assumption) | exact gL0 (by assumption)) rfl ?_
    refine Rn.iload_n dX10_image_18 rfl rfl ?_
    refine Rn.aload_n dX10_image_19 rfl rfl ?_
    refine Rn.getR dX10_image_20 fd_X10_13_9 (by first | rfl | exact gC0 (by assumption) | exact gL0 (by assumption)) rfl ?_
    refine Rn.iload_n dX10_image_23 rfl rfl ?_
    refine Rn.ialdN dX10_image_24 (by first | rfl | exact gC1 (by assumption) | exact gC2 (by assumption) | exact gC3 (by assumption) | exact gL1 (by assumption) | exact gL2 (by assumption) | exact gL3 (by assumption) | exact gL4 (by assumption) | exact gL5 (by assumption) | exact gL6 (by assumption)) ?_
    refine Rn.iastN dX10_image_25 (by first | rfl | exact gC1 (by assumption) | exact gC2 (by assumption) | exact gC3 (by assumption) | exact gL1 (by assumption) | exact gL2 (by assumption) | exact gL3 (by assumption) | exact gL4 (by assumption) | exact gL5 (by assumption) | exact gL6 (by assumption)) ?_
    refine Rn.iincN dX10_image_26 rfl (by decide) ?_
    refine Rn.goto 7 dX10_image_29 (by decide) ?_
    exact Rn.hpp _ (by rw [zup_zset]; exact congrArg _ (cp_upd _ _ i)) (ih (i + 1) (by omega))
theorem ct_image : Ct G GAM mX10_image d 0 [.ref 94] I (Rp none (zup (zset (zup I 94 0 (nI 0)) 96 (cp (I 95) (I 96) 1226)) 94 6 (nI 1))) := by
  refine Ct.mk [some (.ref 94), none] ?_
  refine Rn.aload_n dX10_image_0 rfl rfl ?_
  refine Rn.iconst (v := (nI 0)) dX10_image_1 rfl ?_
  refine Rn.putI dX10_image_2 fp_X10_3_9 (by first | rfl | exact gC0 (by assumption) | exact gL0 (by assumption)) rfl ?_
  refine Rn.iconst (v := (nI 0)) dX10_image_5 rfl ?_
  refine Rn.istore_n dX10_image_6 rfl (by decide) ?_
  refine Rn.hpp _ (cp_start _ 96 _) (lp_image G d (zup I 94 0 (nI 0)) ?_ 1226 0 rfl)
  refine Rn.aload_n dX10_image_32 rfl rfl ?_
  refine Rn.iconst (v := (nI 1)) dX10_image_33 rfl ?_
  refine Rn.put dX10_image_34 fp_X10_54_9 (by first | rfl | exact gC0 (by assumption) | exact gL0 (by assumption)) rfl ⟨rfl, rfl⟩ ?_
  exact Rn.vret dX10_image_37 rfl (⟨rfl, rfl⟩)
theorem lp_back {kx : Kx} {b : Nat} (J : Hi) (k : Rn G GAM mX10_back kx d b 41 [some (.ref 94), some (.int (nI 1226))] [] (zset J 95 (cp (J 96) (J 95) 1226))) : ∀ n i : Nat, i + n = 1226 → Rn G GAM mX10_back kx d b 16 [some (.ref 94), some (.int (nI i))] [] (zset J 95 (cp (J 96) (J 95) i)) := by
  intro n
  induction n with
  | zero =>
    intro i hi
    obtain rfl : i = 1226 := by omega
    refine Rn.iload_n dX10_back_16 rfl rfl ?_
    refine Rn.sipush (v := (nI 1226)) dX10_back_17 rfl ?_
    refine Rn.icmp_geN dX10_back_20 41 (fun _ => ?_) (fun h9 => by exfalso; omega)
    exact k
  | succ n ih =>
    intro i hi
    refine Rn.iload_n dX10_back_16 rfl rfl ?_
    refine Rn.sipush (v := (nI 1226)) dX10_back_17 rfl ?_
    refine Rn.icmp_geN dX10_back_20 41 (fun h9 => by exfalso; omega) (fun _ => ?_)
    refine Rn.aload_n dX10_back_23 rfl rfl ?_
    refine Rn.getR dX10_back_24 fd_X10_13_9 (by first | rfl | exact gC0 (by assumption) | exact gL0 (by assumption)) rfl ?_
    refine Rn.iload_n dX10_back_27 rfl rfl ?_
    refine Rn.aload_n dX10_back_28 rfl rfl ?_
    refine Rn.getR dX10_back_29 fd_X10_17_9 (by first | rfl | exact gC0 (by assumption) | exact gL0 (by assumption)) rfl ?_
    refine Rn.iload_n dX10_back_32 rfl rfl ?_
    refine Rn.ialdN dX10_back_33 (by first | rfl | exact gC1 (by assumption) | exact gC2 (by assumption) | exact gC3 (by assumption) | exact gL1 (by assumption) | exact gL2 (by assumption) | exact gL3 (by assumption) | exact gL4 (by assumption) | exact gL5 (by assumption) | exact gL6 (by assumption)) ?_
    refine Rn.iastN dX10_back_34 (by first | rfl | exact gC1 (by assumption) | exact gC2 (by assumption) | exact gC3 (by assumption) | exact gL1 (by assumption) | exact gL2 (by assumption) | exact gL3 (by assumption) | exact gL4 (by assumption) | exact gL5 (by assumption) | exact gL6 (by assumption)) ?_
    refine Rn.iincN dX10_back_35 rfl (by decide) ?_
    refine Rn.goto 16 dX10_back_38 (by decide) ?_
    exact Rn.hpp _ (by rw [zup_zset]; exact congrArg _ (cp_upd _ _ i)) (ih (i + 1) (by omega))
theorem ct_back (h : I 94 6 = nI 0 ∨ I 94 6 = nI 1) : Ct G GAM mX10_back d 0 [.ref 94] I (Rp (some (.int (I 94 6))) (if I 94 6 = nI 0 then zup I 94 0 (nI 0) else zup (zset (zup I 94 0 (nI 0)) 95 (cp (I 96) (I 95) 1226)) 94 7 (nI 0))) := by
  refine Ct.mk [some (.ref 94), none] ?_
  refine Rn.aload_n dX10_back_0 rfl rfl ?_
  refine Rn.iconst (v := (nI 0)) dX10_back_1 rfl ?_
  refine Rn.putI dX10_back_2 fp_X10_3_9 (by first | rfl | exact gC0 (by assumption) | exact gL0 (by assumption)) rfl ?_
  refine Rn.aload_n dX10_back_5 rfl rfl ?_
  refine Rn.getI dX10_back_6 fd_X10_54_9 (by first | rfl | exact gC0 (by assumption) | exact gL0 (by assumption)) rfl ?_
  refine Rn.if_ne (tgt := 14) dX10_back_9 (by decide) (fun h1 => ?_) (fun h1 => ?_)
  · refine Rn.iconst (v := (nI 0)) dX10_back_14 rfl ?_
    refine Rn.istore_n dX10_back_15 rfl (by decide) ?_
    refine Rn.hpp _ (cp_start _ 95 _) (lp_back G d (zup I 94 0 (nI 0)) ?_ 1226 0 rfl)
    refine Rn.aload_n dX10_back_41 rfl rfl ?_
    refine Rn.iconst (v := (nI 0)) dX10_back_42 rfl ?_
    refine Rn.putI dX10_back_43 fp_X10_58_9 (by first | rfl | exact gC0 (by assumption) | exact gL0 (by assumption)) rfl ?_
    refine Rn.iconst (v := (nI 1)) dX10_back_46 rfl ?_
    exact Rn.zret dX10_back_47 rfl rfl (⟨by rw [h.resolve_left h1], by rw [if_neg (show ¬ I 94 6 = nI 0 from h1)]; rfl⟩)
  · refine Rn.iconst (v := (nI 0)) dX10_back_12 rfl ?_
    exact Rn.zret dX10_back_13 rfl rfl (⟨by rw [show I 94 6 = nI 0 from h1], by rw [if_pos (show I 94 6 = nI 0 from h1)]⟩)
theorem lp_keepsAll {kx : Kx} {b : Nat} (J : Hi) (k : Rn G GAM mX10_keepsAll kx d b 27 [some (.ref 94), some (.int (nI 377))] [] (zset J 98 (cp (J 95) (J 98) 377))) : ∀ n i : Nat, i + n = 377 → Rn G GAM mX10_keepsAll kx d b 2 [some (.ref 94), some (.int (nI i))] [] (zset J 98 (cp (J 95) (J 98) i)) := by
  intro n
  induction n with
  | zero =>
    intro i hi
    obtain rfl : i = 377 := by omega
    refine Rn.iload_n dX10_keepsAll_2 rfl rfl ?_
    refine Rn.sipush (v := (nI 377)) dX10_keepsAll_3 rfl ?_
    refine Rn.icmp_geN dX10_keepsAll_6 27 (fun _ => ?_) (fun h9 => by exfalso; omega)
    exact k
  | succ n ih =>
    intro i hi
    refine Rn.iload_n dX10_keepsAll_2 rfl rfl ?_
    refine Rn.sipush (v := (nI 377)) dX10_keepsAll_3 rfl ?_
    refine Rn.icmp_geN dX10_keepsAll_6 27 (fun h9 => by exfalso; omega) (fun _ => ?_)
    refine Rn.aload_n dX10_keepsAll_9 rfl rfl ?_
    refine Rn.getR dX10_keepsAll_10 fd_X10_23_9 (by first | rfl | exact gC0 (by assumption) | exact gL0 (by assumption)) rfl ?_
    refine Rn.iload_n dX10_keepsAll_13 rfl rfl ?_
    refine Rn.aload_n dX10_keepsAll_14 rfl rfl ?_
    refine Rn.getR dX10_keepsAll_15 fd_X10_13_9 (by first | rfl | exact gC0 (by assumption) | exact gL0 (by assumption)) rfl ?_
    refine Rn.iload_n dX10_keepsAll_18 rfl rfl ?_
    refine Rn.ialdN dX10_keepsAll_19 (by first | rfl | exact gC1 (by assumption) | exact gC2 (by assumption) | exact gC3 (by assumption) | exact gL1 (by assumption) | exact gL2 (by assumption) | exact gL3 (by assumption) | exact gL4 (by assumption) | exact gL5 (by assumption) | exact gL6 (by assumption)) ?_
    refine Rn.iastN dX10_keepsAll_20 (by first | rfl | exact gC1 (by assumption) | exact gC2 (by assumption) | exact gC3 (by assumption) | exact gL1 (by assumption) | exact gL2 (by assumption) | exact gL3 (by assumption) | exact gL4 (by assumption) | exact gL5 (by assumption) | exact gL6 (by assumption)) ?_
    refine Rn.iincN dX10_keepsAll_21 rfl (by decide) ?_
    refine Rn.goto 2 dX10_keepsAll_24 (by decide) ?_
    exact Rn.hpp _ (by rw [zup_zset]; exact congrArg _ (cp_upd _ _ i)) (ih (i + 1) (by omega))
theorem ct_keepsAll : Ct G GAM mX10_keepsAll d 0 [.ref 94] I (Rp none (zset I 98 (cp (I 95) (I 98) 377))) := by
  refine Ct.mk [some (.ref 94), none] ?_
  refine Rn.iconst (v := (nI 0)) dX10_keepsAll_0 rfl ?_
  refine Rn.istore_n dX10_keepsAll_1 rfl (by decide) ?_
  refine Rn.hpp _ (cp_start _ 98 _) (lp_keepsAll G d I ?_ 377 0 rfl)
  exact Rn.vret dX10_keepsAll_27 rfl (⟨rfl, rfl⟩)
theorem lp_bringsBack {kx : Kx} {b : Nat} (J : Hi) (k : Rn G GAM mX10_bringsBack kx d b 27 [some (.ref 94), some (.int (nI 377))] [] (zset J 95 (cp (J 98) (J 95) 377))) : ∀ n i : Nat, i + n = 377 → Rn G GAM mX10_bringsBack kx d b 2 [some (.ref 94), some (.int (nI i))] [] (zset J 95 (cp (J 98) (J 95) i)) := by
  intro n
  induction n with
  | zero =>
    intro i hi
    obtain rfl : i = 377 := by omega
    refine Rn.iload_n dX10_bringsBack_2 rfl rfl ?_
    refine Rn.sipush (v := (nI 377)) dX10_bringsBack_3 rfl ?_
    refine Rn.icmp_geN dX10_bringsBack_6 27 (fun _ => ?_) (fun h9 => by exfalso; omega)
    exact k
  | succ n ih =>
    intro i hi
    refine Rn.iload_n dX10_bringsBack_2 rfl rfl ?_
    refine Rn.sipush (v := (nI 377)) dX10_bringsBack_3 rfl ?_
    refine Rn.icmp_geN dX10_bringsBack_6 27 (fun h9 => by exfalso; omega) (fun _ => ?_)
    refine Rn.aload_n dX10_bringsBack_9 rfl rfl ?_
    refine Rn.getR dX10_bringsBack_10 fd_X10_13_9 (by first | rfl | exact gC0 (by assumption) | exact gL0 (by assumption)) rfl ?_
    refine Rn.iload_n dX10_bringsBack_13 rfl rfl ?_
    refine Rn.aload_n dX10_bringsBack_14 rfl rfl ?_
    refine Rn.getR dX10_bringsBack_15 fd_X10_23_9 (by first | rfl | exact gC0 (by assumption) | exact gL0 (by assumption)) rfl ?_
    refine Rn.iload_n dX10_bringsBack_18 rfl rfl ?_
    refine Rn.ialdN dX10_bringsBack_19 (by first | rfl | exact gC1 (by assumption) | exact gC2 (by assumption) | exact gC3 (by assumption) | exact gL1 (by assumption) | exact gL2 (by assumption) | exact gL3 (by assumption) | exact gL4 (by assumption) | exact gL5 (by assumption) | exact gL6 (by assumption)) ?_
    refine Rn.iastN dX10_bringsBack_20 (by first | rfl | exact gC1 (by assumption) | exact gC2 (by assumption) | exact gC3 (by assumption) | exact gL1 (by assumption) | exact gL2 (by assumption) | exact gL3 (by assumption) | exact gL4 (by assumption) | exact gL5 (by assumption) | exact gL6 (by assumption)) ?_
    refine Rn.iincN dX10_bringsBack_21 rfl (by decide) ?_
    refine Rn.goto 2 dX10_bringsBack_24 (by decide) ?_
    exact Rn.hpp _ (by rw [zup_zset]; exact congrArg _ (cp_upd _ _ i)) (ih (i + 1) (by omega))
theorem ct_bringsBack : Ct G GAM mX10_bringsBack d 0 [.ref 94] I (Rp none (zset I 95 (cp (I 98) (I 95) 377))) := by
  refine Ct.mk [some (.ref 94), none] ?_
  refine Rn.iconst (v := (nI 0)) dX10_bringsBack_0 rfl ?_
  refine Rn.istore_n dX10_bringsBack_1 rfl (by decide) ?_
  refine Rn.hpp _ (cp_start _ 95 _) (lp_bringsBack G d I ?_ 377 0 rfl)
  exact Rn.vret dX10_bringsBack_27 rfl (⟨rfl, rfl⟩)
theorem ct_luckIn (t : Nat) (h : t < 8) : Ct G GAM mX10_luckIn (d + 2) 0 [.ref 94, .int (nI t)] I (Rp (some (.int (I 95 (65 + 9 * t + 0) + I 95 (65 + 9 * t + 1) + I 95 (65 + 9 * t + 2) + I 95 (65 + 9 * t + 3)))) I) := by
  refine Ct.mk [some (.ref 94), some (.int (nI t)), none, none] ?_
  refine Rn.iconst (v := (nI 0)) dX10_luckIn_0 rfl ?_
  refine Rn.istore_n dX10_luckIn_1 rfl (by decide) ?_
  refine Rn.iconst (v := (nI 0)) dX10_luckIn_2 rfl ?_
  refine Rn.istore_n dX10_luckIn_3 rfl (by decide) ?_
  refine Rn.iload_n dX10_luckIn_4 rfl rfl ?_
  refine Rn.iconst (v := (nI 4)) dX10_luckIn_5 rfl ?_
  refine Rn.icmp_geN dX10_luckIn_6 24 (fun h9 => by exfalso; omega) (fun _ => ?_)
  refine Rn.iload_n dX10_luckIn_9 rfl rfl ?_
  refine Rn.aload_n dX10_luckIn_10 rfl rfl ?_
  refine Rn.iload_n dX10_luckIn_11 rfl rfl ?_
  refine Rn.iload_n dX10_luckIn_12 rfl rfl ?_
  refine Rn.callVp (As := [_, _]) dX10_luckIn_13 mv_X10_71 (by first | rfl | exact gC0 (by assumption) | exact gL0 (by assumption)) rfl rfl rfl (Nat.le_of_ble_eq_true rfl) (ct_ofThing G _ _ _ _ (by omega)) ?_
  refine Rn.iadd dX10_luckIn_16 ?_
  refine Rn.istore_n dX10_luckIn_17 rfl (by decide) ?_
  refine Rn.iincN dX10_luckIn_18 rfl (by decide) ?_
  refine Rn.goto 4 dX10_luckIn_21 (by decide) ?_
  refine Rn.iload_n dX10_luckIn_4 rfl rfl ?_
  refine Rn.iconst (v := (nI 4)) dX10_luckIn_5 rfl ?_
  refine Rn.icmp_geN dX10_luckIn_6 24 (fun h9 => by exfalso; omega) (fun _ => ?_)
  refine Rn.iload_n dX10_luckIn_9 rfl rfl ?_
  refine Rn.aload_n dX10_luckIn_10 rfl rfl ?_
  refine Rn.iload_n dX10_luckIn_11 rfl rfl ?_
  refine Rn.iload_n dX10_luckIn_12 rfl rfl ?_
  refine Rn.callVp (As := [_, _]) dX10_luckIn_13 mv_X10_71 (by first | rfl | exact gC0 (by assumption) | exact gL0 (by assumption)) rfl rfl rfl (Nat.le_of_ble_eq_true rfl) (ct_ofThing G _ _ _ _ (by omega)) ?_
  refine Rn.iadd dX10_luckIn_16 ?_
  refine Rn.istore_n dX10_luckIn_17 rfl (by decide) ?_
  refine Rn.iincN dX10_luckIn_18 rfl (by decide) ?_
  refine Rn.goto 4 dX10_luckIn_21 (by decide) ?_
  refine Rn.iload_n dX10_luckIn_4 rfl rfl ?_
  refine Rn.iconst (v := (nI 4)) dX10_luckIn_5 rfl ?_
  refine Rn.icmp_geN dX10_luckIn_6 24 (fun h9 => by exfalso; omega) (fun _ => ?_)
  refine Rn.iload_n dX10_luckIn_9 rfl rfl ?_
  refine Rn.aload_n dX10_luckIn_10 rfl rfl ?_
  refine Rn.iload_n dX10_luckIn_11 rfl rfl ?_
  refine Rn.iload_n dX10_luckIn_12 rfl rfl ?_
  refine Rn.callVp (As := [_, _]) dX10_luckIn_13 mv_X10_71 (by first | rfl | exact gC0 (by assumption) | exact gL0 (by assumption)) rfl rfl rfl (Nat.le_of_ble_eq_true rfl) (ct_ofThing G _ _ _ _ (by omega)) ?_
  refine Rn.iadd dX10_luckIn_16 ?_
  refine Rn.istore_n dX10_luckIn_17 rfl (by decide) ?_
  refine Rn.iincN dX10_luckIn_18 rfl (by decide) ?_
  refine Rn.goto 4 dX10_luckIn_21 (by decide) ?_
  refine Rn.iload_n dX10_luckIn_4 rfl rfl ?_
  refine Rn.iconst (v := (nI 4)) dX10_luckIn_5 rfl ?_
  refine Rn.icmp_geN dX10_luckIn_6 24 (fun h9 => by exfalso; omega) (fun _ => ?_)
  refine Rn.iload_n dX10_luckIn_9 rfl rfl ?_
  refine Rn.aload_n dX10_luckIn_10 rfl rfl ?_
  refine Rn.iload_n dX10_luckIn_11 rfl rfl ?_
  refine Rn.iload_n dX10_luckIn_12 rfl rfl ?_
  refine Rn.callVp (As := [_, _]) dX10_luckIn_13 mv_X10_71 (by first | rfl | exact gC0 (by assumption) | exact gL0 (by assumption)) rfl rfl rfl (Nat.le_of_ble_eq_true rfl) (ct_ofThing G _ _ _ _ (by omega)) ?_
  refine Rn.iadd dX10_luckIn_16 ?_
  refine Rn.istore_n dX10_luckIn_17 rfl (by decide) ?_
  refine Rn.iincN dX10_luckIn_18 rfl (by decide) ?_
  refine Rn.goto 4 dX10_luckIn_21 (by decide) ?_
  refine Rn.iload_n dX10_luckIn_4 rfl rfl ?_
  refine Rn.iconst (v := (nI 4)) dX10_luckIn_5 rfl ?_
  refine Rn.icmp_geN dX10_luckIn_6 24 (fun _ => ?_) (fun h9 => by exfalso; omega)
  refine Rn.iload_n dX10_luckIn_24 rfl rfl ?_
  exact Rn.iret dX10_luckIn_25 rfl (⟨by rw [show nI 0 = 0 from rfl, Int32.zero_add], rfl⟩)
def lkT (W : Nat → Int32) (t : Nat) : Int32 := W (65 + 9 * t + 0) + W (65 + 9 * t + 1) + W (65 + 9 * t + 2) + W (65 + 9 * t + 3)
def lkW (W : Nat → Int32) (w : Nat) : Int32 := W (9 + 7 * w + 0) + W (9 + 7 * w + 1) + W (9 + 7 * w + 2) + W (9 + 7 * w + 3)
theorem ct_worthOf (t : Nat) (h : t < 8) : Ct G GAM mX10_worthOf (d + 3) 0 [.ref 94, .int (nI t)] I (Rp (some (.int (lkT (I 95) t - I 95 (65 + 9 * t + 6)))) I) := by
  refine Ct.mk [some (.ref 94), some (.int (nI t))] ?_
  refine Rn.aload_n dX10_worthOf_0 rfl rfl ?_
  refine Rn.iload_n dX10_worthOf_1 rfl rfl ?_
  refine Rn.callVp (As := [_]) dX10_worthOf_2 mv_X10_272 (by first | rfl | exact gC0 (by assumption) | exact gL0 (by assumption)) rfl rfl rfl (Nat.le_of_ble_eq_true rfl) (ct_luckIn G _ _ _ (by omega)) ?_
  refine Rn.aload_n dX10_worthOf_5 rfl rfl ?_
  refine Rn.iload_n dX10_worthOf_6 rfl rfl ?_
  refine Rn.bipush (v := (nI 6)) dX10_worthOf_7 rfl ?_
  refine Rn.callVp (As := [_, _]) dX10_worthOf_9 mv_X10_71 (by first | rfl | exact gC0 (by assumption) | exact gL0 (by assumption)) rfl rfl rfl (Nat.le_of_ble_eq_true rfl) (ct_ofThing G _ _ _ _ (by omega)) ?_
  refine Rn.isub dX10_worthOf_12 ?_
  exact Rn.iret dX10_worthOf_13 rfl (⟨rfl, rfl⟩)
theorem ct_ofLog (k c : Nat) (h : k < 60) (hc : c < 4) : Ct G GAM mX10_ofLog d 0 [.ref 94, .int (nI k), .int (nI c)] I (Rp (some (.int (I 95 (137 + 4 * k + c)))) I) := by
  refine Ct.mk [some (.ref 94), some (.int (nI k)), some (.int (nI c))] ?_
  refine Rn.aload_n dX10_ofLog_0 rfl rfl ?_
  refine Rn.getR dX10_ofLog_1 fd_X10_13_9 (by first | rfl | exact gC0 (by assumption) | exact gL0 (by assumption)) rfl ?_
  refine Rn.sipush (v := (nI 137)) dX10_ofLog_4 rfl ?_
  refine Rn.iconst (v := (nI 4)) dX10_ofLog_7 rfl ?_
  refine Rn.iload_n dX10_ofLog_8 rfl rfl ?_
  refine Rn.imul dX10_ofLog_9 ?_
  refine Rn.iadd dX10_ofLog_10 ?_
  refine Rn.iload_n dX10_ofLog_11 rfl rfl ?_
  refine Rn.iadd dX10_ofLog_12 ?_
  refine Rn.topI (nI (137 + 4 * k + c)) (by first | rfl | (simp only [nI_add, pk_mul, nI_1]; done) | (simp only [nI_add, pk_mul, nI_1]; congr 1; omega)) ?_
  refine Rn.ialdN dX10_ofLog_13 (by first | rfl | exact gC1 (by assumption) | exact gC2 (by assumption) | exact gC3 (by assumption) | exact gL1 (by assumption) | exact gL2 (by assumption) | exact gL3 (by assumption) | exact gL4 (by assumption) | exact gL5 (by assumption) | exact gL6 (by assumption)) ?_
  exact Rn.iret dX10_ofLog_14 rfl (⟨rfl, rfl⟩)
theorem ct_has (s k : Int32) : Ct G GAM mX10_has d 0 [.int s, .int k] I (Rp (some (.int (bI ((s >>> (k &&& 31)) &&& nI 1 = nI 1)))) I) := by
  refine Ct.mk [some (.int s), some (.int k)] ?_
  refine Rn.iload_n dX10_has_0 rfl rfl ?_
  refine Rn.iload_n dX10_has_1 rfl rfl ?_
  refine Rn.ishr dX10_has_2 ?_
  refine Rn.iconst (v := (nI 1)) dX10_has_3 rfl ?_
  refine Rn.iand dX10_has_4 ?_
  refine Rn.iconst (v := (nI 1)) dX10_has_5 rfl ?_
  refine Rn.icmp_ne (tgt := 13) dX10_has_6 (by decide) (fun h1 => ?_) (fun h1 => ?_)
  · refine Rn.iconst (v := (nI 0)) dX10_has_13 rfl ?_
    exact Rn.zret dX10_has_14 rfl rfl (⟨by rw [bI_f h1]; rfl, rfl⟩)
  · refine Rn.iconst (v := (nI 1)) dX10_has_9 rfl ?_
    refine Rn.goto 14 dX10_has_10 (by decide) ?_
    exact Rn.zret dX10_has_14 rfl rfl (⟨by rw [bI_t h1]; rfl, rfl⟩)
theorem ct_allWomen : Ct G GAM mX10_allWomen (d + 1) 0 [.ref 94] I (Rp (some (.int ((nI 1 <<< (I 95 0 &&& 31)) - nI 1))) I) := by
  refine Ct.mk [some (.ref 94)] ?_
  refine Rn.iconst (v := (nI 1)) dX10_allWomen_0 rfl ?_
  refine Rn.aload_n dX10_allWomen_1 rfl rfl ?_
  refine Rn.callVp (As := []) dX10_allWomen_2 mv_X10_74 (by first | rfl | exact gC0 (by assumption) | exact gL0 (by assumption)) rfl rfl rfl (Nat.le_of_ble_eq_true rfl) (ct_women G _ _) ?_
  refine Rn.ishl dX10_allWomen_5 ?_
  refine Rn.iconst (v := (nI 1)) dX10_allWomen_6 rfl ?_
  refine Rn.isub dX10_allWomen_7 ?_
  exact Rn.iret dX10_allWomen_8 rfl (⟨rfl, rfl⟩)
def sumW (W : Nat → Int32) : Nat → Int32
  | 0 => 0
  | n + 1 => sumW W n + lkW W n
theorem lp_luckOfAll {kx : Kx} {b : Nat} (N : Nat) (hN : N ≤ 8) (hW : I 95 0 = nI N) (k : Rn G GAM mX10_luckOfAll kx (d + 3) b 26 [some (.ref 94), some (.int (sumW (I 95) N)), some (.int (nI N))] [] I) : ∀ n i : Nat, i + n = N → Rn G GAM mX10_luckOfAll kx (d + 3) b 4 [some (.ref 94), some (.int (sumW (I 95) i)), some (.int (nI i))] [] I := by
  intro n
  induction n with
  | zero =>
    intro i hi
    obtain rfl : i = N := by omega
    refine Rn.iload_n dX10_luckOfAll_4 rfl rfl ?_
    refine Rn.aload_n dX10_luckOfAll_5 rfl rfl ?_
    refine Rn.callVp (As := []) dX10_luckOfAll_6 mv_X10_74 (by first | rfl | exact gC0 (by assumption) | exact gL0 (by assumption)) rfl rfl rfl (Nat.le_of_ble_eq_true rfl) (ct_women G _ _) ?_
    refine Rn.topI (nI i) hW ?_
    refine Rn.icmp_geN dX10_luckOfAll_9 26 (fun _ => ?_) (fun h9 => by exfalso; omega)
    exact k
  | succ n ih =>
    intro i hi
    refine Rn.iload_n dX10_luckOfAll_4 rfl rfl ?_
    refine Rn.aload_n dX10_luckOfAll_5 rfl rfl ?_
    refine Rn.callVp (As := []) dX10_luckOfAll_6 mv_X10_74 (by first | rfl | exact gC0 (by assumption) | exact gL0 (by assumption)) rfl rfl rfl (Nat.le_of_ble_eq_true rfl) (ct_women G _ _) ?_
    refine Rn.topI (nI N) hW ?_
    refine Rn.icmp_geN dX10_luckOfAll_9 26 (fun h9 => by exfalso; omega) (fun _ => ?_)
    refine Rn.iload_n dX10_luckOfAll_12 rfl rfl ?_
    refine Rn.aload_n dX10_luckOfAll_13 rfl rfl ?_
    refine Rn.iload_n dX10_luckOfAll_14 rfl rfl ?_
    refine Rn.callVp (As := [_]) dX10_luckOfAll_15 mv_X10_281 (by first | rfl | exact gC0 (by assumption) | exact gL0 (by assumption)) rfl rfl rfl (Nat.le_of_ble_eq_true rfl) (ct_luckOf G _ _ _ (by omega)) ?_
    refine Rn.iadd dX10_luckOfAll_18 ?_
    refine Rn.istore_n dX10_luckOfAll_19 rfl (by decide) ?_
    refine Rn.iincN dX10_luckOfAll_20 rfl (by decide) ?_
    refine Rn.goto 4 dX10_luckOfAll_23 (by decide) ?_
    exact ih (i + 1) (by omega)
theorem ct_luckOfAll (N : Nat) (hN : N ≤ 8) (hW : I 95 0 = nI N) : Ct G GAM mX10_luckOfAll (d + 3) 0 [.ref 94] I (Rp (some (.int (sumW (I 95) N))) I) := by
  refine Ct.mk [some (.ref 94), none, none] ?_
  refine Rn.iconst (v := (nI 0)) dX10_luckOfAll_0 rfl ?_
  refine Rn.istore_n dX10_luckOfAll_1 rfl (by decide) ?_
  refine Rn.iconst (v := (nI 0)) dX10_luckOfAll_2 rfl ?_
  refine Rn.istore_n dX10_luckOfAll_3 rfl (by decide) ?_
  refine lp_luckOfAll G d I N hN hW ?_ N 0 (by omega)
  refine Rn.iload_n dX10_luckOfAll_26 rfl rfl ?_
  exact Rn.iret dX10_luckOfAll_27 rfl (⟨rfl, rfl⟩)
theorem ct_isStuckElsewhere (t : Nat) (w : Int32) (h : t < 8) : Ct G GAM mX10_isStuckElsewhere (d + 3) 0 [.ref 94, .int (nI t), .int w] I (Rp (some (.int (bI (I 95 (65 + 9 * t + 7) = nI 1 ∧ ¬ I 95 (65 + 9 * t + 5) = w)))) I) := by
  refine Ct.mk [some (.ref 94), some (.int (nI t)), some (.int w)] ?_
  refine Rn.aload_n dX10_isStuckElsewhere_0 rfl rfl ?_
  refine Rn.iload_n dX10_isStuckElsewhere_1 rfl rfl ?_
  refine Rn.callVp (As := [_]) dX10_isStuckElsewhere_2 mv_X10_302 (by first | rfl | exact gC0 (by assumption) | exact gL0 (by assumption)) rfl rfl rfl (Nat.le_of_ble_eq_true rfl) (ct_isStuck G _ _ _ (by omega)) ?_
  refine Rn.if_eqB dX10_isStuckElsewhere_5 22 (fun h1 => ?_) (fun h1 => ?_)
  · refine Rn.iconst (v := (nI 0)) dX10_isStuckElsewhere_22 rfl ?_
    exact Rn.zret dX10_isStuckElsewhere_23 rfl rfl (⟨by rw [bI_f (fun q => h1 q.1)]; rfl, rfl⟩)
  · refine Rn.aload_n dX10_isStuckElsewhere_8 rfl rfl ?_
    refine Rn.iload_n dX10_isStuckElsewhere_9 rfl rfl ?_
    refine Rn.iconst (v := (nI 5)) dX10_isStuckElsewhere_10 rfl ?_
    refine Rn.callVp (As := [_, _]) dX10_isStuckElsewhere_11 mv_X10_71 (by first | rfl | exact gC0 (by assumption) | exact gL0 (by assumption)) rfl rfl rfl (Nat.le_of_ble_eq_true rfl) (ct_ofThing G _ _ _ _ (by omega)) ?_
    refine Rn.iload_n dX10_isStuckElsewhere_14 rfl rfl ?_
    refine Rn.icmp_eq (tgt := 22) dX10_isStuckElsewhere_15 (by decide) (fun h2 => ?_) (fun h2 => ?_)
    · refine Rn.iconst (v := (nI 0)) dX10_isStuckElsewhere_22 rfl ?_
      exact Rn.zret dX10_isStuckElsewhere_23 rfl rfl (⟨by rw [bI_f (fun q => q.2 h2)]; rfl, rfl⟩)
    · refine Rn.iconst (v := (nI 1)) dX10_isStuckElsewhere_18 rfl ?_
      refine Rn.goto 23 dX10_isStuckElsewhere_19 (by decide) ?_
      exact Rn.zret dX10_isStuckElsewhere_23 rfl rfl (⟨by rw [bI_t ⟨h1, h2⟩]; rfl, rfl⟩)
theorem ct_mayHave (t : Nat) (w : Int32) (h : t < 8) : Ct G GAM mX10_mayHave (d + 4) 0 [.ref 94, .int (nI t), .int w] I (Rp (some (.int (bI (¬ I 95 (65 + 9 * t + 5) = -1 ∧ ¬ (I 95 (65 + 9 * t + 7) = nI 1 ∧ ¬ I 95 (65 + 9 * t + 5) = w))))) I) := by
  refine Ct.mk [some (.ref 94), some (.int (nI t)), some (.int w)] ?_
  refine Rn.aload_n dX10_mayHave_0 rfl rfl ?_
  refine Rn.iload_n dX10_mayHave_1 rfl rfl ?_
  refine Rn.callVp (As := [_]) dX10_mayHave_2 mv_X10_305 (by first | rfl | exact gC0 (by assumption) | exact gL0 (by assumption)) rfl rfl rfl (Nat.le_of_ble_eq_true rfl) (ct_isPawned G _ _ _ (by omega)) ?_
  refine Rn.if_neB dX10_mayHave_5 21 (fun h1 => ?_) (fun h1 => ?_)
  · refine Rn.iconst (v := (nI 0)) dX10_mayHave_21 rfl ?_
    exact Rn.zret dX10_mayHave_22 rfl rfl (⟨by rw [bI_f (fun q => q.1 h1)]; rfl, rfl⟩)
  · refine Rn.aload_n dX10_mayHave_8 rfl rfl ?_
    refine Rn.iload_n dX10_mayHave_9 rfl rfl ?_
    refine Rn.iload_n dX10_mayHave_10 rfl rfl ?_
    refine Rn.callVp (As := [_, _]) dX10_mayHave_11 mv_X10_308 (by first | rfl | exact gC0 (by assumption) | exact gL0 (by assumption)) rfl rfl rfl (Nat.le_of_ble_eq_true rfl) (ct_isStuckElsewhere G _ _ _ _ (by omega)) ?_
    refine Rn.if_neB dX10_mayHave_14 21 (fun h2 => ?_) (fun h2 => ?_)
    · refine Rn.iconst (v := (nI 0)) dX10_mayHave_21 rfl ?_
      exact Rn.zret dX10_mayHave_22 rfl rfl (⟨by rw [bI_f (fun q => q.2 h2)]; rfl, rfl⟩)
    · refine Rn.iconst (v := (nI 1)) dX10_mayHave_17 rfl ?_
      refine Rn.goto 22 dX10_mayHave_18 (by decide) ?_
      exact Rn.zret dX10_mayHave_22 rfl rfl (⟨by rw [bI_t ⟨h1, h2⟩]; rfl, rfl⟩)
end RefB
end
section
def zTi (own : String) (ik is ic : Nat) (cls text : String) (names : List String) : Prop := Bundle.fit cls = true ∧ (∀ n ∈ names, Bundle.fit n = true) ∧ Cond.classLink own ik cls ∈ WA ∧ Cond.initialized cls ∈ WA ∧ (∃ i, (own, is, text, i) ∈ zSR) ∧ (∀ w ∈ vx_atS own ic cls names, w ∈ WA ∨ w = .castable cls cls ∨ ∃ x ∈ zDc, w = .declares x) ∧ cls ∈ zCs ∧ (∀ w ∈ Cond.classLink own ik cls :: Cond.initialized cls :: vx_atS own ic cls names, vx_ot w = true) ∧ names.length ≤ 4
theorem Rn.throwT {G : Gx} {Ga : List Shp} {Y : Ym} {d b pc ik is ic : Nat} {cls text : String} {names : List String} {ls : List (Option Value)} {I : Hi} {Q : Rs → Hi → Prop} (hT : zTi Y.1.cls ik is ic cls text names)
    (d0 : decode Y.2.1 pc = .ok (.new ik, 3)) (d3 : decode Y.2.1 (pc + 3) = .ok (.dup, 1)) (d4 : decode Y.2.1 (pc + 4) = .ok (.ldc is, 2)) (d6 : decode Y.2.1 (pc + 6) = .ok (.invokespecial ic, 3)) (d9 : decode Y.2.1 (pc + 9) = .ok (.athrow, 1))
    (h : Q (.inr cls) I) (hb : 1 ≤ b := by omega) : Rn G Ga Y (kM G Ga Q) d b pc ls [] I := by
  obtain ⟨t1, t2, t3, t4, ⟨i, t5⟩, t6, t9, t7, t8⟩ := hT
  intro p e R s m args below meth c H locs cells slots tc ts Z F hk lsA hl
  obtain ⟨F1, ⟨hP, hD, hS⟩, F3, F4, F5, F6, F7, F8⟩ := F
  obtain ⟨ht, rfl⟩ := hk
  have hts := F1.2.2.2.2.2.2.1
  have hK := F1.2.2.2.2.2.2.2
  exact vx_throwS (names := names) (rest := []) F1.1 F1.2.1 hK.2.2.2.2.2.2 F1.2.2.2.2.2.1 t1 t2 (hts _ t3) (hts _ t4) (hK.2.2.1 _ t5) (fun w hw => (t6 w hw).elim (hts w) (fun e => e.elim (fun e => by rw [e]; exact va_Nw.use rfl (hK.2.2.2.2.2.1.1 _ t9)) (fun ⟨x, hx, e⟩ => by rw [e]; exact va_Nw.use rfl (hK.2.2.2.2.2.1.2.2.1 x hx)))) t7 hK.2.2.2.1 hK.2.2.2.2.1 hS (hl.1.trans F1.2.2.1.symm) d0 d3 d4 d6 d9 (fun x hx => (ht x hx).elim)
    (by omega) (by simp; omega) (by omega) (by omega) F1.2.2.2.2.1
    (fun t _ h1 h2 => ⟨⟨I, h, fun k q hk => (hP k q hk).kept (h2 _ (hP k q hk).lt)⟩, Nat.le_trans hS.1 h1, fun q hq hA => by rw [h2 q (Nat.lt_of_lt_of_le hq hS.1)]; exact hS.2.1 q hq hA⟩) hS.2.2 (by omega) (by omega)
theorem Rn.throwTW {G : Gx} {Ga : List Shp} {Y : Ym} {d b pc ik is ic : Nat} {cls text : String} {names : List String} {ls : List (Option Value)} {I : Hi} {Q : Rs → Hi → Prop} (hT : zTi Y.1.cls ik is ic cls text names)
    (d0 : decode Y.2.1 pc = .ok (.new ik, 3)) (d3 : decode Y.2.1 (pc + 3) = .ok (.dup, 1)) (d4 : decode Y.2.1 (pc + 4) = .ok (.ldc_w is, 3)) (d6 : decode Y.2.1 (pc + 7) = .ok (.invokespecial ic, 3)) (d9 : decode Y.2.1 (pc + 10) = .ok (.athrow, 1))
    (h : Q (.inr cls) I) (hb : 1 ≤ b := by omega) : Rn G Ga Y (kM G Ga Q) d b pc ls [] I := by
  obtain ⟨t1, t2, t3, t4, ⟨i, t5⟩, t6, t9, t7, t8⟩ := hT
  intro p e R s m args below meth c H locs cells slots tc ts Z F hk lsA hl
  obtain ⟨F1, ⟨hP, hD, hS⟩, F3, F4, F5, F6, F7, F8⟩ := F
  obtain ⟨ht, rfl⟩ := hk
  have hts := F1.2.2.2.2.2.2.1
  have hK := F1.2.2.2.2.2.2.2
  exact vx_throwSW (names := names) (rest := []) F1.1 F1.2.1 hK.2.2.2.2.2.2 F1.2.2.2.2.2.1 t1 t2 (hts _ t3) (hts _ t4) (hK.2.2.1 _ t5) (fun w hw => (t6 w hw).elim (hts w) (fun e => e.elim (fun e => by rw [e]; exact va_Nw.use rfl (hK.2.2.2.2.2.1.1 _ t9)) (fun ⟨x, hx, e⟩ => by rw [e]; exact va_Nw.use rfl (hK.2.2.2.2.2.1.2.2.1 x hx)))) t7 hK.2.2.2.1 hK.2.2.2.2.1 hS (hl.1.trans F1.2.2.1.symm) d0 d3 d4 d6 d9 (fun x hx => (ht x hx).elim)
    (by omega) (by simp; omega) (by omega) (by omega) F1.2.2.2.2.1
    (fun t _ h1 h2 => ⟨⟨I, h, fun k q hk => (hP k q hk).kept (h2 _ (hP k q hk).lt)⟩, Nat.le_trans hS.1 h1, fun q hq hA => by rw [h2 q (Nat.lt_of_lt_of_le hq hS.1)]; exact hS.2.1 q hq hA⟩) hS.2.2 (by omega) (by omega)

theorem zsubu {L : List Cond} {E : String} (ix : List Nat) (h : L.all (fun w => ((ix.filterMap (fun i => lw_tbl[i]?)).any (fun v => decide (v = w)) && goodWord w) || (decide (w = .castable E E) || zDc.any (fun x => decide (w = .declares x)))) = true) : ∀ w ∈ L, w ∈ WA ∨ w = .castable E E ∨ ∃ x ∈ zDc, w = .declares x := by
  intro w hw
  have h1 := List.all_eq_true.mp h w hw
  simp only [Bool.or_eq_true, Bool.and_eq_true, decide_eq_true_eq] at h1
  rcases h1 with ⟨h1, h2⟩ | h1 | h1
  · obtain ⟨v, hv, he⟩ := List.any_eq_true.mp h1
    have he := of_decide_eq_true he
    subst he
    obtain ⟨i, -, hi⟩ := List.mem_filterMap.mp hv
    exact Or.inl (List.mem_filter.mpr ⟨List.mem_of_getElem? hi, h2⟩)
  · exact Or.inr (Or.inl h1)
  · obtain ⟨x, hx, he⟩ := List.any_eq_true.mp h1
    exact Or.inr (Or.inr ⟨x, hx, of_decide_eq_true he⟩)
end
section
def nsB : ByteArray := ⟨#[0x2a, 0x2b, 0xb7, 0x00, 0x0d, 0xb1]⟩
theorem nsB_0 : decode nsB 0 = .ok (.aload_n 0, 1) := by decide +kernel
theorem nsB_1 : decode nsB 1 = .ok (.aload_n 1, 1) := by decide +kernel
theorem nsB_2 : decode nsB 2 = .ok (.invokespecial 13, 3) := by decide +kernel
theorem nsB_5 : decode nsB 5 = .ok (.return_, 1) := by decide +kernel
/-- the words of a throw whose class's constructor calls its super's by the pool entry 13 (as Bundle.ownAtoms, with another first link) -/
def nAt (own : String) (ic : Nat) (X Y : String) (names : List String) : List Cond :=
  Bundle.throwableAtoms ++ Bundle.throwableSAtoms ++ Bundle.passSAtoms X Y 13 nsB ++ Bundle.chainSAtoms Y names ++ (Bundle.ownAtoms own ic X []).drop (Bundle.throwableAtoms.length + Bundle.throwableSAtoms.length + 5)
theorem nAt_eq (own : String) (ic : Nat) (X Y : String) (names : List String) : nAt own ic X Y names = Bundle.throwableAtoms ++ Bundle.throwableSAtoms ++ Bundle.passSAtoms X Y 13 nsB ++ Bundle.chainSAtoms Y names ++ [.methodLink own ic (Bundle.initS X), .instantiable X 6, .castable X X, .selects X Bundle.tFill0 Bundle.tFill0, .selects X Bundle.tFill Bundle.tFill,
   .lays X Bundle.tN "cause" "Ljava/lang/Throwable;", .lays X Bundle.tN "stackTrace" Bundle.steD, .lays X Bundle.tN "suppressedExceptions" Bundle.listD, .lays X Bundle.tN "detailMessage" "Ljava/lang/String;",
   .isRef (.static Bundle.tN "UNASSIGNED_STACK" Bundle.steD), .isRef (.static Bundle.tN "SUPPRESSED_SENTINEL" Bundle.listD),
   .fieldLink Bundle.tN 198 Bundle.tN "backtrace" "Ljava/lang/Object;", .lays Bundle.tN Bundle.tN "backtrace" "Ljava/lang/Object;", .lays X Bundle.tN "backtrace" "Ljava/lang/Object;"] := rfl
set_option maxHeartbeats 4000000 in
/-- the constructor and the throw: follows the library's ctorThrowS, with a first link of another pool entry -/
theorem ctorN {p : Program} {l : Launch} {e : Env} {R : Room} {s : State} {m₀ : MethodId} {args : Array Value} {below : List Frame} {meth : Method} {c : Code} {W : State} {locs : List Loc} {cells slots : Nat} (X : Stand p l e R s m₀ args below meth c W locs cells slots) (hexec : p.tables.exec = Jvm.exec) (htr : e.platform.stackTraces = false) {own cls Yn : String} {names : List String} {ic : Nat}
    (hown : s.vm.findClass own = some m₀.cls) (hcls : Bundle.fit cls = true) (hY : Bundle.fit Yn = true) (hnames : ∀ n ∈ names, Bundle.fit n = true)
    (h : ∀ a ∈ nAt own ic cls Yn names, a.before args s = true)
    (hlocs : ∀ x ∈ locs, ∀ cell, s.heap[x.base]? = some cell → cell.vm.isStatics = false)
    {a : Addr} {cX : ClassId} {kX : Class} (hfoundX : s.vm.findClass cls = some cX) (hkX : s.vm.classes[cX]? = some kX) (hcell : W.heap[a]? = some (freshCell cX kX)) (hnew : s.heap.size ≤ a)
    {msg : Value} (hmsg : msg.isRef = true)
    {g : JFrame} (hg : g.method = m₀) (hsize : g.locals.size = c.maxLocals) (hlocked : g.locked = none) (hentered : g.entered = []) {rest : List Value} (hstack : g.stack = msg :: .ref a :: .ref a :: rest)
    (hd6 : decode c.code g.pc = .ok (.invokespecial ic, 3)) (hd9 : decode c.code (g.pc + 3) = .ok (.athrow, 1)) (hout : ∀ x ∈ c.exceptionTable.toList, covers x (g.pc + 3) = false)
    (hRframes : names.length + 4 < R.frames) (hRlocals : 2 * g.monitorRoom + ((Value.ref a :: rest).map fun v => v.category).sum + (13 * (names.length + 2) + 42) ≤ R.locals) (hlocks : meth.locks = false) :
    ∃ U : State, Steps p.tables e below (W.setTop g) U ∧ U.status = .running ∧ Ended U below (.threw a) ∧ s.WarmedH U.vm ∧ s.sameButNew ({ U with vm := s.vm } : State) locs cells slots ∧
      ∃ ce, U.heap[a]? = some ce ∧ ce.vm = .none ∧ s.vm.findClass cls = some ce.cls := by
  rw [nAt_eq] at h
  have howns : e.platform.frameOwnsMonitors = true := by rw [X.admits.platform]
  have hfin : e.platform.finalization = false := by rw [X.admits.platform]
  have hpl : e.platform.magicAccessors = ({} : Platform).magicAccessors := by rw [X.admits.platform]
  have a' := fun (x : Cond) hx => (show x.holds args s none s [] = true from h x hx)
  obtain ⟨T, Z0, L, -, Y⟩ := ThrowableC.of_atoms (args := args) howns hfin hpl (fun x hx => h x (by simp [hx]))
  obtain ⟨Z, M, LZ, LM, hnZ⟩ := Init0T.ofS_atoms (args := args) hpl L Y (fun x hx => h x (by simp [hx]))
  obtain ⟨P1, L1, hP1m, hsup1⟩ := PassC.ofS_atoms (args := args) (s := s) hpl (X := cls) (Y := Yn) (index := 13) (bytes := nsB) (Bundle.fit_spec hcls).1 (Bundle.fit_spec hY).2 nsB_0 nsB_1 nsB_2 nsB_5 (fun x hx => h x (by simp [hx]))
  obtain ⟨P2, Ps, hlen, L2, hL, hP2m, hlink2, hlink⟩ := Bundle.chainS (args := args) hpl hnZ names Yn hY hnames (fun x hx => h x (by simp [hx]))
  have hlink1 : P1.sup = P2.m := Option.some.inj (hsup1.symm.trans hP2m)
  have hfound : s.vm.findClass cls = some P1.m.cls := findClass_of_methodNamed hP1m
  cases Option.some.inj (hfoundX.symm.trans hfound)
  obtain ⟨c1, kX', hc1, hk, hord, -, -, hn6⟩ := Cond.instantiable_spec (a' (.instantiable cls 6) (by simp))
  cases Option.some.inj (hc1.symm.trans hfound)
  cases Option.some.inj (hkX.symm.trans hk)
  have hsel0 : selectMethod e.platform s.vm P1.m.cls T.fill0 = .method T.fill0 := by
    obtain ⟨c2, r2, m2, q1, q2, q3, q4, -⟩ := Cond.selects_spec (a' (.selects cls Bundle.tFill0 Bundle.tFill0) (by simp))
    cases Option.some.inj (q1.symm.trans hfound)
    cases Option.some.inj (q2.symm.trans (State.methodFound?_of_named Y.fill0 (by decide)))
    cases Option.some.inj (q3.symm.trans Y.fill0)
    rw [Launch.admits_selectMethod X.admits]; exact q4
  have hselF : selectMethod e.platform s.vm P1.m.cls T.fill = .method T.fill := by
    obtain ⟨c2, r2, m2, q1, q2, q3, q4, -⟩ := Cond.selects_spec (a' (.selects cls Bundle.tFill Bundle.tFill) (by simp))
    cases Option.some.inj (q1.symm.trans hfound)
    cases Option.some.inj (q2.symm.trans (State.methodFound?_of_named Y.fill (by decide)))
    cases Option.some.inj (q3.symm.trans Y.fill)
    rw [Launch.admits_selectMethod X.admits]; exact q4
  obtain ⟨cellS0, hcS0, hiss⟩ := Y.statics
  obtain ⟨u0, hu0⟩ := Cond.staticRefV Y.unassigned L.unassignedStatic L.statics hcS0 hiss (a' (.isRef (.static Bundle.tN "UNASSIGNED_STACK" Bundle.steD)) (by simp))
  obtain ⟨sen, hsen⟩ := Cond.staticRefV Y.sentinel L.sentinelStatic L.statics hcS0 hiss (a' (.isRef (.static Bundle.tN "SUPPRESSED_SENTINEL" Bundle.listD)) (by simp))
  obtain ⟨ci198, i198, fB, hk198, hg198, ha198, hsB, -, hnB, htB, hffB⟩ := Cond.ownField (t := .object "java/lang/Object") Y.found L.cls (by decide +kernel) (a' (.fieldLink Bundle.tN 198 Bundle.tN "backtrace" "Ljava/lang/Object;") (by simp)) (a' (.lays Bundle.tN Bundle.tN "backtrace" "Ljava/lang/Object;") (by simp)) e.platform hpl
  obtain ⟨cellS, hcS', heS, -, hkeep⟩ := X.same.2.2.2.2.2 T.aS cellS0 hcS0
  have hcellS : W.heap[T.aS]? = some cellS := hcS'
  have hout' : ∀ i, (⟨T.aS, i⟩ : Loc) ∉ locs := fun i hmem => by
    have := hlocs _ hmem cellS0 hcS0
    rw [hiss] at this; cases this
  have hknownS : cellS.vm ≠ .unknown := by
    rw [heS]; intro hu
    rw [show cellS0.vm = .unknown from hu] at hiss
    cases hiss
  have hneS : T.aS ≠ a := Nat.ne_of_lt (Nat.lt_of_lt_of_le (Array.getElem?_eq_some_iff.mp hcS0).1 hnew)
  obtain ⟨iM, hffM⟩ := Y.msg
  obtain ⟨tyC, dC, hdC, hdnC⟩ := Cond.laysAt hfound hk Y.cause (a' (.lays cls Bundle.tN "cause" "Ljava/lang/Throwable;") (by simp))
  obtain ⟨tyS, dS, hdS, hdnS⟩ := Cond.laysAt hfound hk Y.stack (a' (.lays cls Bundle.tN "stackTrace" Bundle.steD) (by simp))
  obtain ⟨tyP, dP, hdP, hdnP⟩ := Cond.laysAt hfound hk Y.supp (a' (.lays cls Bundle.tN "suppressedExceptions" Bundle.listD) (by simp))
  obtain ⟨tyM, dM, hdM, hdnM⟩ := Cond.laysAt hfound hk hffM (a' (.lays cls Bundle.tN "detailMessage" "Ljava/lang/String;") (by simp))
  obtain ⟨tyB, dB, hdB, hdnB⟩ := Cond.laysAt hfound hk hffB (a' (.lays cls Bundle.tN "backtrace" "Ljava/lang/Object;") (by simp))
  have bC := Cond.laysApart hdB hdC hdnB hdnC (by rw [hnB, Y.causeName]; decide)
  have bS := Cond.laysApart hdB hdS hdnB hdnS (by rw [hnB, Y.stackName]; decide)
  have bP := Cond.laysApart hdB hdP hdnB hdnP (by rw [hnB, Y.suppName]; decide)
  have hskip : SkipFacts T e.platform s (fun u => u) u0 ((preparedCellV T.toThrowableT (freshCell P1.m.cls kX) a u0 sen).withEntry W.cur) :=
    ⟨{ ci198 := ci198, i198 := i198, fBack := fB }, ⟨hk198, hg198, ha198, hsB⟩, by
      have := fresh_default (c := P1.m.cls) tyB
      rw [htB] at this
      simpa [preparedCellV, Cell.setSlot, Cell.withEntry, Array.getElem?_setIfInBounds, bC, bS, bP, bC.symm, bS.symm, bP.symm, defaultValue] using this, fun _ _ => rfl⟩
  obtain ⟨tm, methC, cdC, kC, vm₁, hnC, -, -, -, -, -, -, -, hW₁, st1⟩ := Steps.initColdS (tb := p.tables) (e := e) (below := below) (s := s) (U := W) X.here hexec X.warmed hpl hown (t := Bundle.initS cls) rfl rfl (Bundle.fit_spec hcls).2
    (a' (.methodLink own ic (Bundle.initS cls)) (by simp)) (h (.instanceMethod (Bundle.initS cls)) (by simp [Bundle.passSAtoms])) (bytes := nsB) (maxL := 2) (h (.code (Bundle.initS cls) nsB 2 none) (by simp [Bundle.passSAtoms]))
    (f := g) hg (a := a) (msg := msg) (rest := .ref a :: rest) hstack hd6
  cases Option.some.inj (hnC.symm.trans hP1m)
  have X₁ := X.noted hW₁
  obtain ⟨vm₂, X₂, st2⟩ := X₁.ctorMessageOffV hexec (g := { g with stack := .ref a :: rest }) hg hsize T L Z LZ M LM (P1 :: P2 :: Ps)
    (fun P hP => by rcases List.mem_cons.mp hP with rfl | hP; exact L1; rcases List.mem_cons.mp hP with rfl | hP; exact L2; exact hL P hP) ⟨hlink1, hlink2, hlink⟩ (u0 := u0) (sen := sen) (self := a) hmsg (cell := freshCell P1.m.cls kX) (cellS := cellS)
    hcell (fun _ => by simp) (by simp) rfl rfl hsel0 hselF hcellS hneS hknownS (by rw [hkeep _ (hout' _)]; exact hu0) (by rw [hkeep _ (hout' _)]; exact hsen)
    (Takes.of_laid hk hord tyC (by rw [Y.causeType]; rfl)) (Takes.of_laid hk hord tyS (by rw [Y.stackType]; exact fits_refV_array _ u0)) (Takes.of_laid hk hord tyP (by rw [Y.suppType]; exact fits_refV_object _ sen))
    (Takes.of_laid hk hord tyM (by rw [Y.msgType]; exact fits_refV_object _ ⟨msg, hmsg⟩)) Y.objLocals hskip htr [] hd6
    (by simp only [List.length_cons, hlen]; omega) (by simp only [List.length_cons, hlen]; exact hRlocals)
  obtain ⟨hwalk, hrun, hended, hWU, hsame⟩ := X₂.athrowLeaves hexec (g := { g with stack := .ref a :: rest, pc := g.pc + 3 }) hg hlocked hentered hout (a := a) (rest := rest) rfl hd9
  obtain ⟨c3, c4, hc3, hc4, hasg⟩ := Cond.castable_spec (a' (.castable cls cls) (by simp))
  cases Option.some.inj (hc3.symm.trans hfound)
  cases Option.some.inj (hc4.symm.trans hfound)
  have hlt : a < ((W.setVm vm₁).setVm vm₂).heap.size := (Array.getElem?_eq_some_iff.mp hcell).1
  have hU := heapAt_setCell_self (s := (W.setVm vm₁).setVm vm₂) (plainBareV T.toThrowableT (freshCell P1.m.cls kX) a u0 sen msg) hlt
  have _hnM : T.fMsg.name = "detailMessage" := (State.fieldFound?_type hffM (t := .object "java/lang/String") (by decide +kernel)).1
  refine ⟨_, st1 _ (fun acts => ?_), hrun, hended, hWU, hsame.weaken (fun y hy hlt' => ?_) (Nat.le_refl _) (Nat.le_refl _), _, hU, ?_⟩
  · rw [doInvoke_state]
    exact st2 _ hwalk
  · rcases List.mem_append.mp hy with h1 | h1
    · exact h1
    · exfalso
      have hb : y.base = a := by
        simp only [List.mem_cons, List.not_mem_nil, or_false] at h1
        rcases h1 with rfl | rfl | rfl | rfl | rfl <;> rfl
      rw [hb] at hlt'
      exact Nat.not_lt.mpr hnew hlt'
  · exact ⟨rfl, hfound⟩
/-- 'throw new E("text")' where E's constructor calls its super's by the pool entry 13 -/
theorem vx_throwNW {p : Program} {l : Launch} {e : Env} {R : Room} {s : State} {m : MethodId} {args : Array Value} {below : List Frame} {meth : Method} {c : Code} {H : Heap} {locs : List Loc} {cells slots : Nat} {free : Addr → Prop} {ls : Array Slot} {rest : List Value} {Qc : Array Value → State → Outcome → State → Prop} {XC : String → State → State → Prop} {cc : ByteArray} {pc : Nat} (hexec : p.tables.exec = Jvm.exec) (hb : c.code = cc) (hl : l.stackTraces = false) {own cls Yn text : String} {names : List String} {ik is ic mc ms sa : Nat} {A : Nat → Prop}
    (hown : s.vm.findClass own = some m.cls) (hcls : Bundle.fit cls = true) (hY : Bundle.fit Yn = true) (hnames : ∀ n ∈ names, Bundle.fit n = true)
    (hk : (Cond.classLink own ik cls).before args s = true) (hini : (Cond.initialized cls).before args s = true) (hstr : vk_R own is text sa s) (hat : ∀ w ∈ (nAt own ic cls Yn names).filter vx_no, w.before args s = true)
    (hgood : ∀ w ∈ Cond.classLink own ik cls :: Cond.initialized cls :: (nAt own ic cls Yn names).filter vx_no, vx_ot w = true)
    (hU : vx_Zq Bundle.tN "UNASSIGNED_STACK" Bundle.steD A s s.heap) (hN : vx_Zq Bundle.tN "SUPPRESSED_SENTINEL" Bundle.listD A s s.heap) (hS : va_S A s.heap H locs) (hsize : ls.size = c.maxLocals)
    (d0 : decode cc pc = .ok (.new ik, 3)) (d3 : decode cc (pc + 3) = .ok (.dup, 1)) (d4 : decode cc (pc + 4) = .ok (.ldc_w is, 3)) (d7 : decode cc (pc + 7) = .ok (.invokespecial ic, 3)) (d10 : decode cc (pc + 10) = .ok (.athrow, 1))
    (hout : ∀ x ∈ c.exceptionTable.toList, covers x (pc + 10) = false)
    (hRframes : names.length + 4 < R.frames) (hRlocals : (rest.map fun v => v.category).sum + (13 * (names.length + 2) + 43) ≤ R.locals) (hRcells : cells + 1 ≤ R.cells) (hRslots : slots + 6 ≤ R.slots) (hlocks : meth.locks = false)
    (hx : ∀ t : State, s.vm.Alike t.vm → H.size ≤ t.heap.size → (∀ q : Nat, q < H.size → t.heap[q]? = H[q]?) → XC cls s t)
    (hf : ∀ z ∈ locs, free z.base) (hc : cells + 1 ≤ mc) (hs : slots + 6 ≤ ms) :
    W p l e R s m args below meth c H locs cells slots (vx_MQ below Qc XC args s mc ms free) (F0 m pc ls rest) := by
  intro T hT X
  have htr : e.platform.stackTraces = false := (show e.platform.stackTraces = l.stackTraces by rw [X.admits.platform]).trans hl
  have Y := vx_rebase X (R' := { frames := R.frames, locals := R.locals, cells := 1, slots := 6 }) (Nat.le_refl _) (Nat.le_refl _) hRcells hRslots
  obtain ⟨s', hA⟩ : ∃ z, z = (T.setVm s.vm).setFrames (.invoking m args :: below) := ⟨_, rfl⟩
  rw [← hA] at Y
  have hvm : s'.vm = s.vm := by rw [hA]; rfl
  have hhp : s'.heap = H := by rw [hA]; exact hT
  have hW0 : s.WarmedH s'.vm := by rw [hvm]; exact State.WarmedH.refl s
  have hat' : ∀ w ∈ (nAt own ic cls Yn names).filter vx_no, w.before args s' = true := fun w hw => vx_ot_at hW0 hvm.symm (hgood w (List.mem_cons_of_mem _ (List.mem_cons_of_mem _ hw))) (hat w hw)
  have hk' : (Cond.classLink own ik cls).before args s' = true := vx_ot_at hW0 hvm.symm (hgood _ List.mem_cons_self) hk
  have hini' : (Cond.initialized cls).before args s' = true := vx_ot_at hW0 hvm.symm (hgood _ (List.mem_cons_of_mem _ List.mem_cons_self)) hini
  have hU' : vx_Zq Bundle.tN "UNASSIGNED_STACK" Bundle.steD A s' s'.heap := by rw [hhp]; exact vx_Zq.moved hW0.alike (hU.kept hS.2.1)
  have hN' : vx_Zq Bundle.tN "SUPPRESSED_SENTINEL" Bundle.listD A s' s'.heap := by rw [hhp]; exact vx_Zq.moved hW0.alike (hN.kept hS.2.1)
  have h : ∀ w ∈ nAt own ic cls Yn names, w.before args s' = true := vx_own hat' (vx_isRefq hU'.1) (vx_isRefq hN'.1) hU'.2.word hN'.2.word
  have hown' : s'.vm.findClass own = some m.cls := by rw [hvm]; exact hown
  have hins : (Cond.instantiable cls 6).before args s' = true := h _ (by rw [nAt_eq]; simp)
  obtain ⟨vm₁, cX, kX, hfX, hkX, -, -, X₁, st1⟩ := Y.newCold hexec (own := own) (C := cls) (index := ik) (n := 6) hown' hk' hins hini'
    (g := F0 m pc ls rest) rfl (by rw [hb]; exact d0) (Nat.le_refl _) (Nat.le_refl _)
  generalize hT1 : (T.setVm vm₁).pushCell { cls := cX, slots := kX.instanceTypes.map defaultValue, vm := .none } = T1 at X₁ st1
  have hcat : (Value.ref T.heap.size).category = 1 := rfl
  have hcellA : T1.heap[T.heap.size]? = some (freshCell cX kX) := by rw [← hT1]; exact State.heap_pushCell_size _ _
  have d3' : decode c.code (pc + 3) = .ok (.dup, 1) := by rw [hb]; exact d3
  have d4' : decode c.code (pc + 4) = .ok (.ldc_w is, 3) := by rw [hb]; exact d4
  have hstr' : vk_R own is text sa s' := vk_R.warm hW0 hstr
  obtain ⟨U, hsteps, hrun, hend, hW, hsame, ce, hce, hO⟩ := ctorN X₁ hexec htr (own := own) (cls := cls) (Yn := Yn) (names := names) (ic := ic) hown' hcls hY hnames h (fun x hx => nomatch hx) hfX hkX hcellA (by rw [hhp, hT]; exact Nat.le_refl _) (msg := .ref sa) rfl
    (g := { method := m, pc := pc + 7, locals := ls, stack := .ref sa :: .ref T.heap.size :: .ref T.heap.size :: rest, locked := none }) rfl hsize rfl rfl (rest := rest) rfl
    (by rw [hb]; exact d7) (by rw [hb]; exact d10) hout hRframes (by simp only [List.map_cons, List.sum_cons, hcat]; omega) hlocks
  obtain ⟨f1, f2⟩ := vx_frame hsame
  rw [hhp] at f1 f2
  have hWs : s.WarmedH U.vm := State.WarmedH.trans hW0 hW
  have hcl : s.vm.findClass cls = some ce.cls := by
    have h9 := hO.2
    rw [hvm] at h9
    exact h9
  have hall : s.sameButNew ({ U with vm := s.vm } : State) locs mc ms := by
    subst hA
    obtain ⟨e1, e2⟩ := hsame
    rw [State.setFrames_setFrames] at e1
    have h2 : (T.setVm s.vm).sameButNew ({ U with vm := s.vm } : State) [] (0 + 1) (0 + 6) := ⟨e1, e2⟩
    have h3 := X.same.trans h2
    rw [List.append_nil] at h3
    exact h3.mono hc hs
  refine ⟨U, ?_, .threw T.heap.size, hrun, hend, Or.inr ⟨T.heap.size, rfl, cls, ce, locs, hx U hWs.alike f1 (fun q hq => f2 q hq (fun z hz => nomatch hz)), hce, hO.1, hcl, hWs, hall, hf⟩⟩
  refine st1 _ ?_
  show Steps p.tables e below (T1.setTop { method := m, pc := pc + 3, locals := ls, stack := .ref T.heap.size :: rest, locked := none }) _
  jvm_step X₁.here [X₁.here.top, hexec, d3', Value.category]
  exact X₁.ldcStringW hexec (own := own) (text := text) (index := is) (a := sa) hown' hstr'.1 hstr'.2
    (g := { method := m, pc := pc + 4, locals := ls, stack := .ref T.heap.size :: .ref T.heap.size :: rest, locked := none }) rfl d4' _ hsteps
def zTn (own : String) (ik is ic : Nat) (cls Yn text : String) (names : List String) : Prop := Bundle.fit cls = true ∧ Bundle.fit Yn = true ∧ (∀ n ∈ names, Bundle.fit n = true) ∧ Cond.classLink own ik cls ∈ WA ∧ Cond.initialized cls ∈ WA ∧ (∃ i, (own, is, text, i) ∈ zSR) ∧ (∀ w ∈ (nAt own ic cls Yn names).filter vx_no, w ∈ WA ∨ w = .castable cls cls ∨ ∃ x ∈ zDc, w = .declares x) ∧ cls ∈ zCs ∧ (∀ w ∈ Cond.classLink own ik cls :: Cond.initialized cls :: (nAt own ic cls Yn names).filter vx_no, vx_ot w = true) ∧ names.length ≤ 3
theorem Rn.throwN {G : Gx} {Ga : List Shp} {Y : Ym} {d b pc ik is ic : Nat} {cls Yn text : String} {names : List String} {ls : List (Option Value)} {I : Hi} {Q : Rs → Hi → Prop} (hT : zTn Y.1.cls ik is ic cls Yn text names)
    (d0 : decode Y.2.1 pc = .ok (.new ik, 3)) (d3 : decode Y.2.1 (pc + 3) = .ok (.dup, 1)) (d4 : decode Y.2.1 (pc + 4) = .ok (.ldc_w is, 3)) (d6 : decode Y.2.1 (pc + 7) = .ok (.invokespecial ic, 3)) (d9 : decode Y.2.1 (pc + 10) = .ok (.athrow, 1))
    (h : Q (.inr cls) I) (hb : 1 ≤ b := by omega) : Rn G Ga Y (kM G Ga Q) d b pc ls [] I := by
  obtain ⟨t1, t10, t2, t3, t4, ⟨i, t5⟩, t6, t9, t7, t8⟩ := hT
  intro p e R s m args below meth c H locs cells slots tc ts Z F hk lsA hl
  obtain ⟨F1, ⟨hP, hD, hS⟩, F3, F4, F5, F6, F7, F8⟩ := F
  obtain ⟨ht, rfl⟩ := hk
  have hts := F1.2.2.2.2.2.2.1
  have hK := F1.2.2.2.2.2.2.2
  exact vx_throwNW (names := names) (rest := []) F1.1 F1.2.1 hK.2.2.2.2.2.2 F1.2.2.2.2.2.1 t1 t10 t2 (hts _ t3) (hts _ t4) (hK.2.2.1 _ t5) (fun w hw => (t6 w hw).elim (hts w) (fun e => e.elim (fun e => by rw [e]; exact va_Nw.use rfl (hK.2.2.2.2.2.1.1 _ t9)) (fun ⟨x, hx, e⟩ => by rw [e]; exact va_Nw.use rfl (hK.2.2.2.2.2.1.2.2.1 x hx)))) t7 hK.2.2.2.1 hK.2.2.2.2.1 hS (hl.1.trans F1.2.2.1.symm) d0 d3 d4 d6 d9 (fun x hx => (ht x hx).elim)
    (by omega) (by simp; omega) (by omega) (by omega) F1.2.2.2.2.1
    (fun t _ h1 h2 => ⟨⟨I, h, fun k q hk => (hP k q hk).kept (h2 _ (hP k q hk).lt)⟩, Nat.le_trans hS.1 h1, fun q hq hA => by rw [h2 q (Nat.lt_of_lt_of_le hq hS.1)]; exact hS.2.1 q hq hA⟩) hS.2.2 (by omega) (by omega)
end
section
def Rx (E : String) (J : Hi) : Rs → Hi → Prop := fun o K => o = .inr E ∧ K = J
theorem Rn.callWp {G : Gx} {Ga : List Shp} {Y : Ym} {kx : Kx} {d b pc pc' : Nat} {ls : List (Option Value)} {st : List Value} {I : Hi} {hh : List (Nat × Nat × Nat × Nat)} {idx n mc : Nat} {As rest : List Value} {y : Ym} {v : Option Value} {J : Hi} (hd : decode Y.2.1 pc = .ok (.invokestatic idx, 3)) (hM : zMw Y.1.cls idx y hh n)
    (hst : st = As.reverse ++ rest) (hn : As.length = n) (hr : (rest.map fun v => v.category).sum ≤ 8) (hct : CtW G Ga y hh d mc As I (Rp v J))
    (k : Rn G Ga Y kx (d + 1) b pc' ls (v.toList ++ rest) J) (hp : pc + 3 = pc' := by rfl) : Rn G Ga Y kx (d + 1) (b + mc) pc ls st I :=
  Rn.callW hd hM hst hn hr hct (fun E J h => nomatch h.1) (fun w K h => by obtain ⟨h1, h2⟩ := h; cases h1; cases h2; exact k) hp
theorem Rn.ldc_w {G : Gx} {Ga : List Shp} {Y : Ym} {kx : Kx} {d b pc pc' : Nat} {ls : List (Option Value)} {st : List Value} {I : Hi} {idx : Nat} {v : Int32} (hd : decode Y.2.1 pc = .ok (.ldc_w idx, 3)) (hw : Cond.constant Y.1.cls idx v ∈ WA) (k : Rn G Ga Y kx d b pc' ls (.int v :: st) I) (hp : pc + 3 = pc' := by rfl) : Rn G Ga Y kx d b pc ls st I := by
  subst hp
  intro p e R s m args below meth c H locs cells slots tc ts Z F hk lsA hl
  exact lv_ldcw F.1.1 F.1.2.1 F.1.2.2.2.2.2.1 (F.1.2.2.2.2.2.2.1 _ hw) hd (k p e R s m args below meth c H locs cells slots tc ts Z F hk lsA hl)
/-! a call of an inherited method -/
def zMu (own : String) (idx : Nat) (C : String) (y : Ym) (n : Nat) : Prop := (∀ w ∈ va_wsU own idx C y.1.cls ⟨C, y.1.name, y.1.desc⟩ y.1 ([] : List Cond), w ∈ WA) ∧ Cond.code y.1 y.2.1 y.2.2.1 y.2.2.2 ∈ WA ∧ y.2.2.1 ≤ 21 ∧ (y.1.cls ≠ "java/lang/invoke/MethodHandle" ∧ y.1.cls ≠ "java/lang/invoke/VarHandle" ∧ (parseMethodDescriptor y.1.desc).map (fun q => q.parameters.length) = some n)
theorem Ct.met {G : Gx} {Ga : List Shp} {y : Ym} {d b : Nat} {vs : List Value} {I : Hi} {Q : Rs → Hi → Prop} (h : Ct G Ga y d b vs I Q) (hx : ∀ E J, ¬ Q (.inr E) J) (sz : Nat) : Met (gL G) y.1 (zwy y) (zrm d b) (zPc G Ga vs I sz) (zQ G Ga Q sz) b (6 * b) (zA G Ga sz) := by
  intro p e ha hc hk s m args below hf hfit hP hK
  obtain ⟨t, o, h1, h2, h3, h4⟩ := h sz p e ha hc hk s m args below hf hfit hP hK
  refine ⟨t, o, h1, h2, h3, ?_⟩
  rcases h4 with h4 | ⟨q, e1, E, ce, L, ⟨⟨J, e2, e3⟩, e4⟩, h5⟩
  · exact h4
  · exact absurd e2 (hx E J)
theorem Rn.ldcS {G : Gx} {Ga : List Shp} {Y : Ym} {kx : Kx} {d b pc pc' idx : Nat} {ls : List (Option Value)} {st : List Value} {I : Hi} {tx : String} {i : Nat} (hd : decode Y.2.1 pc = .ok (.ldc idx, 2)) (hw : (Y.1.cls, idx, tx, i) ∈ zSR) (k : Rn G Ga Y kx d b pc' ls (.ref i :: st) I) (hp : pc + 2 = pc' := by rfl) : Rn G Ga Y kx d b pc ls st I := by
  subst hp
  intro p e R s m args below meth c H locs cells slots tc ts Z F hk lsA hl
  exact va_ldcS F.1.1 F.1.2.1 F.1.2.2.2.2.2.1 (F.1.2.2.2.2.2.2.2.2.2.1 _ hw) hd (k p e R s m args below meth c H locs cells slots tc ts Z F hk lsA hl)
/-- an inherited method that throws nothing -/
theorem Rn.callUx {G : Gx} {Ga : List Shp} {Y : Ym} {kx : Kx} {d b pc : Nat} {ls : List (Option Value)} {st : List Value} {I : Hi} {C : String} {T : u_T} {N ci idx a n : Nat} {fl : List (Option (Option Nat))} {As rest : List Value} {y : Ym} {Rr : Rs → Hi → Prop} (hd : decode Y.2.1 pc = .ok (.invokevirtual idx, 3)) (hM : zMu Y.1.cls idx C y n) (hG : Ga[a]? = some (.inl (ci, fl))) (hC : vwCl[ci]? = some (C, T, N))
    (hst : st = As.reverse ++ .ref a :: rest) (hn : As.length = n) (hr : (rest.map fun v => v.category).sum ≤ 8) (hct : Ct G Ga y d 0 (.ref a :: As) I Rr) (hx : ∀ (E : String) (J : Hi), ¬ Rr (.inr E) J)
    (k : ∀ (v : Option Value) (J : Hi), Rr (.inl v) J → Rn G Ga Y kx (d + 1) b (pc + 3) ls (v.toList ++ rest) J) : Rn G Ga Y kx (d + 1) b pc ls st I := by
  subst hst
  intro p e R s m args below meth c H locs cells slots tc ts Z F hk lsA hl
  have F0' : zFr G Ga Y (d + 1) (b + 0) I p R s m args meth c H locs cells slots tc ts := F
  obtain ⟨F1, ⟨hP, hD, hS⟩, F3, F4, F5, F6, F7, F8⟩ := F
  have hts := F1.2.2.2.2.2.2.1
  have hw : ∀ w ∈ WA, w ∈ WA ∧ ((w.onTables && w.keeps) = true ∨ ∃ ty, w = .arrayClass ty) := fun w hw => ⟨hw, good_of_word (List.mem_filter.mp hw).2⟩
  have hgood : GoodIn WA (va_wsU Y.1.cls idx C y.1.cls ⟨C, y.1.name, y.1.desc⟩ y.1 (zwy y)) := by
    intro w h2
    unfold va_wsU at h2
    rcases List.mem_append.mp h2 with h2 | h2
    · exact hw _ (hM.1 w (by unfold va_wsU; exact List.mem_append_left _ h2))
    · exact zgood hM.2.1 w h2
  have run := va_runU (g := F0 m pc lsA ((As.reverse ++ Value.ref a :: rest).map (zr (gad G)))) (As := As.map (zr (gad G))) (rest := rest.map (zr (gad G))) (cells := cells) (slots := slots) (locs := locs) (e := e) (below := below) (meth := meth) ⟨F1.1, F1.2.1, F1.2.2.1, F1.2.2.2.2.2.1, hts⟩ (hct.met hx H.size)
    (va_cwU n hts hgood rfl rfl rfl rfl hM.2.2.2 ⟨by show d + 8 + 1 ≤ _; omega, by have := hM.2.2.1; show 8 + (y.2.2.1 + 11) + (40 * d + 200) ≤ _; omega⟩)
    (⟨zPc_blind, va_recv F1.2.2.2.2.2.2.2.1 hP hC (zws_get hG), fun U hU hW => zpre F0' U hU hW⟩) rfl (by rw [List.length_map]; exact hn) hl.1 (by simp [zr, List.map_reverse]) (lv_room (by rw [zsum]; exact hr)) hd ⟨by omega, by omega⟩
  exact zafter (b2 := b) (mc := 0) (Rr := Rr) F0' hk hl (fun T hT X => Or.inl (run T hT X)) (fun E J h => absurd h (hx E J)) k
/-- an overridden method that has no code of its own: the link names x, the receiver's class has y -/
def zMa (own : String) (idx : Nat) (C : String) (x : MethodName) (y : Ym) (n : Nat) : Prop := (∀ w ∈ va_wsU own idx C x.cls x y.1 ([] : List Cond), w ∈ WA) ∧ Cond.code y.1 y.2.1 y.2.2.1 y.2.2.2 ∈ WA ∧ y.2.2.1 ≤ 21 ∧ (x.cls ≠ "java/lang/invoke/MethodHandle" ∧ x.cls ≠ "java/lang/invoke/VarHandle" ∧ (parseMethodDescriptor x.desc).map (fun q => q.parameters.length) = some n) ∧ x ∈ zDc
theorem Rn.callAx {G : Gx} {Ga : List Shp} {Y : Ym} {kx : Kx} {d b pc : Nat} {ls : List (Option Value)} {st : List Value} {I : Hi} {C : String} {T : u_T} {N ci idx a n : Nat} {fl : List (Option (Option Nat))} {As rest : List Value} {x : MethodName} {y : Ym} {Rr : Rs → Hi → Prop} (hd : decode Y.2.1 pc = .ok (.invokevirtual idx, 3)) (hM : zMa Y.1.cls idx C x y n) (hG : Ga[a]? = some (.inl (ci, fl))) (hC : vwCl[ci]? = some (C, T, N))
    (hst : st = As.reverse ++ .ref a :: rest) (hn : As.length = n) (hr : (rest.map fun v => v.category).sum ≤ 8) (hct : Ct G Ga y d 0 (.ref a :: As) I Rr) (hx : ∀ (E : String) (J : Hi), ¬ Rr (.inr E) J)
    (k : ∀ (v : Option Value) (J : Hi), Rr (.inl v) J → Rn G Ga Y kx (d + 1) b (pc + 3) ls (v.toList ++ rest) J) : Rn G Ga Y kx (d + 1) b pc ls st I := by
  subst hst
  intro p e R s m args below meth c H locs cells slots tc ts Z F hk lsA hl
  have F0' : zFr G Ga Y (d + 1) (b + 0) I p R s m args meth c H locs cells slots tc ts := F
  obtain ⟨F1, ⟨hP, hD, hS⟩, F3, F4, F5, F6, F7, F8⟩ := F
  have hts := F1.2.2.2.2.2.2.1
  have hw : ∀ w ∈ WA, w ∈ WA ∧ ((w.onTables && w.keeps) = true ∨ ∃ ty, w = .arrayClass ty) := fun w hw => ⟨hw, good_of_word (List.mem_filter.mp hw).2⟩
  have hgood : GoodIn WA (va_wsU Y.1.cls idx C x.cls x y.1 (zwy y)) := by
    intro w h2
    unfold va_wsU at h2
    rcases List.mem_append.mp h2 with h2 | h2
    · exact hw _ (hM.1 w (by unfold va_wsU; exact List.mem_append_left _ h2))
    · exact zgood hM.2.1 w h2
  have run := va_runU (g := F0 m pc lsA ((As.reverse ++ Value.ref a :: rest).map (zr (gad G)))) (As := As.map (zr (gad G))) (rest := rest.map (zr (gad G))) (cells := cells) (slots := slots) (locs := locs) (e := e) (below := below) (meth := meth) ⟨F1.1, F1.2.1, F1.2.2.1, F1.2.2.2.2.2.1, hts⟩ (hct.met hx H.size)
    (va_cwA n hts hgood rfl rfl rfl (F1.2.2.2.2.2.2.2.2.2.2.2.2.1.2.2.1 x hM.2.2.2.2) hM.2.2.2.1 ⟨by show d + 8 + 1 ≤ _; omega, by have := hM.2.2.1; show 8 + (y.2.2.1 + 11) + (40 * d + 200) ≤ _; omega⟩)
    (⟨zPc_blind, va_recv F1.2.2.2.2.2.2.2.1 hP hC (zws_get hG), fun U hU hW => zpre F0' U hU hW⟩) rfl (by rw [List.length_map]; exact hn) hl.1 (by simp [zr, List.map_reverse]) (lv_room (by rw [zsum]; exact hr)) hd ⟨by omega, by omega⟩
  exact zafter (b2 := b) (mc := 0) (Rr := Rr) F0' hk hl (fun T hT X => Or.inl (run T hT X)) (fun E J h => absurd h (hx E J)) k
theorem vx_throwNS {p : Program} {l : Launch} {e : Env} {R : Room} {s : State} {m : MethodId} {args : Array Value} {below : List Frame} {meth : Method} {c : Code} {H : Heap} {locs : List Loc} {cells slots : Nat} {free : Addr → Prop} {ls : Array Slot} {rest : List Value} {Qc : Array Value → State → Outcome → State → Prop} {XC : String → State → State → Prop} {cc : ByteArray} {pc : Nat} (hexec : p.tables.exec = Jvm.exec) (hb : c.code = cc) (hl : l.stackTraces = false) {own cls Yn text : String} {names : List String} {ik is ic mc ms sa : Nat} {A : Nat → Prop}
    (hown : s.vm.findClass own = some m.cls) (hcls : Bundle.fit cls = true) (hY : Bundle.fit Yn = true) (hnames : ∀ n ∈ names, Bundle.fit n = true)
    (hk : (Cond.classLink own ik cls).before args s = true) (hini : (Cond.initialized cls).before args s = true) (hstr : vk_R own is text sa s) (hat : ∀ w ∈ (nAt own ic cls Yn names).filter vx_no, w.before args s = true)
    (hgood : ∀ w ∈ Cond.classLink own ik cls :: Cond.initialized cls :: (nAt own ic cls Yn names).filter vx_no, vx_ot w = true)
    (hU : vx_Zq Bundle.tN "UNASSIGNED_STACK" Bundle.steD A s s.heap) (hN : vx_Zq Bundle.tN "SUPPRESSED_SENTINEL" Bundle.listD A s s.heap) (hS : va_S A s.heap H locs) (hsize : ls.size = c.maxLocals)
    (d0 : decode cc pc = .ok (.new ik, 3)) (d3 : decode cc (pc + 3) = .ok (.dup, 1)) (d4 : decode cc (pc + 4) = .ok (.ldc is, 2)) (d7 : decode cc (pc + 6) = .ok (.invokespecial ic, 3)) (d10 : decode cc (pc + 9) = .ok (.athrow, 1))
    (hout : ∀ x ∈ c.exceptionTable.toList, covers x (pc + 9) = false)
    (hRframes : names.length + 4 < R.frames) (hRlocals : (rest.map fun v => v.category).sum + (13 * (names.length + 2) + 43) ≤ R.locals) (hRcells : cells + 1 ≤ R.cells) (hRslots : slots + 6 ≤ R.slots) (hlocks : meth.locks = false)
    (hx : ∀ t : State, s.vm.Alike t.vm → H.size ≤ t.heap.size → (∀ q : Nat, q < H.size → t.heap[q]? = H[q]?) → XC cls s t)
    (hf : ∀ z ∈ locs, free z.base) (hc : cells + 1 ≤ mc) (hs : slots + 6 ≤ ms) :
    W p l e R s m args below meth c H locs cells slots (vx_MQ below Qc XC args s mc ms free) (F0 m pc ls rest) := by
  intro T hT X
  have htr : e.platform.stackTraces = false := (show e.platform.stackTraces = l.stackTraces by rw [X.admits.platform]).trans hl
  have Y := vx_rebase X (R' := { frames := R.frames, locals := R.locals, cells := 1, slots := 6 }) (Nat.le_refl _) (Nat.le_refl _) hRcells hRslots
  obtain ⟨s', hA⟩ : ∃ z, z = (T.setVm s.vm).setFrames (.invoking m args :: below) := ⟨_, rfl⟩
  rw [← hA] at Y
  have hvm : s'.vm = s.vm := by rw [hA]; rfl
  have hhp : s'.heap = H := by rw [hA]; exact hT
  have hW0 : s.WarmedH s'.vm := by rw [hvm]; exact State.WarmedH.refl s
  have hat' : ∀ w ∈ (nAt own ic cls Yn names).filter vx_no, w.before args s' = true := fun w hw => vx_ot_at hW0 hvm.symm (hgood w (List.mem_cons_of_mem _ (List.mem_cons_of_mem _ hw))) (hat w hw)
  have hk' : (Cond.classLink own ik cls).before args s' = true := vx_ot_at hW0 hvm.symm (hgood _ List.mem_cons_self) hk
  have hini' : (Cond.initialized cls).before args s' = true := vx_ot_at hW0 hvm.symm (hgood _ (List.mem_cons_of_mem _ List.mem_cons_self)) hini
  have hU' : vx_Zq Bundle.tN "UNASSIGNED_STACK" Bundle.steD A s' s'.heap := by rw [hhp]; exact vx_Zq.moved hW0.alike (hU.kept hS.2.1)
  have hN' : vx_Zq Bundle.tN "SUPPRESSED_SENTINEL" Bundle.listD A s' s'.heap := by rw [hhp]; exact vx_Zq.moved hW0.alike (hN.kept hS.2.1)
  have h : ∀ w ∈ nAt own ic cls Yn names, w.before args s' = true := vx_own hat' (vx_isRefq hU'.1) (vx_isRefq hN'.1) hU'.2.word hN'.2.word
  have hown' : s'.vm.findClass own = some m.cls := by rw [hvm]; exact hown
  have hins : (Cond.instantiable cls 6).before args s' = true := h _ (by rw [nAt_eq]; simp)
  obtain ⟨vm₁, cX, kX, hfX, hkX, -, -, X₁, st1⟩ := Y.newCold hexec (own := own) (C := cls) (index := ik) (n := 6) hown' hk' hins hini'
    (g := F0 m pc ls rest) rfl (by rw [hb]; exact d0) (Nat.le_refl _) (Nat.le_refl _)
  generalize hT1 : (T.setVm vm₁).pushCell { cls := cX, slots := kX.instanceTypes.map defaultValue, vm := .none } = T1 at X₁ st1
  have hcat : (Value.ref T.heap.size).category = 1 := rfl
  have hcellA : T1.heap[T.heap.size]? = some (freshCell cX kX) := by rw [← hT1]; exact State.heap_pushCell_size _ _
  have d3' : decode c.code (pc + 3) = .ok (.dup, 1) := by rw [hb]; exact d3
  have d4' : decode c.code (pc + 4) = .ok (.ldc is, 2) := by rw [hb]; exact d4
  have hstr' : vk_R own is text sa s' := vk_R.warm hW0 hstr
  obtain ⟨U, hsteps, hrun, hend, hW, hsame, ce, hce, hO⟩ := ctorN X₁ hexec htr (own := own) (cls := cls) (Yn := Yn) (names := names) (ic := ic) hown' hcls hY hnames h (fun x hx => nomatch hx) hfX hkX hcellA (by rw [hhp, hT]; exact Nat.le_refl _) (msg := .ref sa) rfl
    (g := { method := m, pc := pc + 6, locals := ls, stack := .ref sa :: .ref T.heap.size :: .ref T.heap.size :: rest, locked := none }) rfl hsize rfl rfl (rest := rest) rfl
    (by rw [hb]; exact d7) (by rw [hb]; exact d10) hout hRframes (by simp only [List.map_cons, List.sum_cons, hcat]; omega) hlocks
  obtain ⟨f1, f2⟩ := vx_frame hsame
  rw [hhp] at f1 f2
  have hWs : s.WarmedH U.vm := State.WarmedH.trans hW0 hW
  have hcl : s.vm.findClass cls = some ce.cls := by
    have h9 := hO.2
    rw [hvm] at h9
    exact h9
  have hall : s.sameButNew ({ U with vm := s.vm } : State) locs mc ms := by
    subst hA
    obtain ⟨e1, e2⟩ := hsame
    rw [State.setFrames_setFrames] at e1
    have h2 : (T.setVm s.vm).sameButNew ({ U with vm := s.vm } : State) [] (0 + 1) (0 + 6) := ⟨e1, e2⟩
    have h3 := X.same.trans h2
    rw [List.append_nil] at h3
    exact h3.mono hc hs
  refine ⟨U, ?_, .threw T.heap.size, hrun, hend, Or.inr ⟨T.heap.size, rfl, cls, ce, locs, hx U hWs.alike f1 (fun q hq => f2 q hq (fun z hz => nomatch hz)), hce, hO.1, hcl, hWs, hall, hf⟩⟩
  refine st1 _ ?_
  show Steps p.tables e below (T1.setTop { method := m, pc := pc + 3, locals := ls, stack := .ref T.heap.size :: rest, locked := none }) _
  jvm_step X₁.here [X₁.here.top, hexec, d3', Value.category]
  exact X₁.ldcString hexec (own := own) (text := text) (index := is) (a := sa) hown' hstr'.1 hstr'.2
    (g := { method := m, pc := pc + 4, locals := ls, stack := .ref T.heap.size :: .ref T.heap.size :: rest, locked := none }) rfl d4' _ hsteps
theorem Rn.throwNS {G : Gx} {Ga : List Shp} {Y : Ym} {d b pc ik is ic : Nat} {cls Yn text : String} {names : List String} {ls : List (Option Value)} {I : Hi} {Q : Rs → Hi → Prop} (hT : zTn Y.1.cls ik is ic cls Yn text names)
    (d0 : decode Y.2.1 pc = .ok (.new ik, 3)) (d3 : decode Y.2.1 (pc + 3) = .ok (.dup, 1)) (d4 : decode Y.2.1 (pc + 4) = .ok (.ldc is, 2)) (d6 : decode Y.2.1 (pc + 6) = .ok (.invokespecial ic, 3)) (d9 : decode Y.2.1 (pc + 9) = .ok (.athrow, 1))
    (h : Q (.inr cls) I) (hb : 1 ≤ b := by omega) : Rn G Ga Y (kM G Ga Q) d b pc ls [] I := by
  obtain ⟨t1, t10, t2, t3, t4, ⟨i, t5⟩, t6, t9, t7, t8⟩ := hT
  intro p e R s m args below meth c H locs cells slots tc ts Z F hk lsA hl
  obtain ⟨F1, ⟨hP, hD, hS⟩, F3, F4, F5, F6, F7, F8⟩ := F
  obtain ⟨ht, rfl⟩ := hk
  have hts := F1.2.2.2.2.2.2.1
  have hK := F1.2.2.2.2.2.2.2
  exact vx_throwNS (names := names) (rest := []) F1.1 F1.2.1 hK.2.2.2.2.2.2 F1.2.2.2.2.2.1 t1 t10 t2 (hts _ t3) (hts _ t4) (hK.2.2.1 _ t5) (fun w hw => (t6 w hw).elim (hts w) (fun e => e.elim (fun e => by rw [e]; exact va_Nw.use rfl (hK.2.2.2.2.2.1.1 _ t9)) (fun ⟨x, hx, e⟩ => by rw [e]; exact va_Nw.use rfl (hK.2.2.2.2.2.1.2.2.1 x hx)))) t7 hK.2.2.2.1 hK.2.2.2.2.1 hS (hl.1.trans F1.2.2.1.symm) d0 d3 d4 d6 d9 (fun x hx => (ht x hx).elim)
    (by omega) (by simp; omega) (by omega) (by omega) F1.2.2.2.2.1
    (fun t _ h1 h2 => ⟨⟨I, h, fun k q hk => (hP k q hk).kept (h2 _ (hP k q hk).lt)⟩, Nat.le_trans hS.1 h1, fun q hq hA => by rw [h2 q (Nat.lt_of_lt_of_le hq hS.1)]; exact hS.2.1 q hq hA⟩) hS.2.2 (by omega) (by omega)
end
section
/-! ===== a checker of methods: a walk over bytecode with intervals; this part: numbers ===== -/
abbrev Iv : Type := Int × Int
/-- m times the variable v and c -/
abbrev Af : Type := Nat × Int × Int
abbrev SV : Type := Af ⊕ Option Nat
abbrev Kb : Type := List ((Nat × Nat) × Af)
/-- intervals of the variables, locals, stack, what is known of the heap -/
abbrev Ast : Type := List Iv × List (Option SV) × List SV × Kb
def ivF : Iv := (-2147483648, 2147483647)
def inIv (i : Iv) (x : Int32) : Prop := i.1 ≤ x.toInt ∧ x.toInt ≤ i.2
theorem inIv_F (x : Int32) : inIv ivF x := by
  have h1 := Int32.le_toInt x
  have h2 := Int32.toInt_lt x
  constructor
  · show (-2147483648 : Int) ≤ _; omega
  · show _ ≤ (2147483647 : Int); omega
theorem toI_of {n : Int} (h1 : -2147483648 ≤ n) (h2 : n ≤ 2147483647) : (Int32.ofInt n).toInt = n := Int32.toInt_ofInt_of_le (by omega) (by omega)
def evI (r : Nat → Int32) (a : Af) : Int32 := Int32.ofInt (a.2.1 * (r a.1).toInt + a.2.2)
def evV (r : Nat → Int32) : SV → Value
  | .inl a => .int (evI r a)
  | .inr (some q) => .ref q
  | .inr none => .null
def evL (r : Nat → Int32) (L : List (Option SV)) : List (Option Value) := L.map (fun o => o.map (evV r))
def evS (r : Nat → Int32) (st : List SV) : List Value := st.map (evV r)
theorem evI_c (r : Nat → Int32) (v : Nat) (c : Int) : evI r (v, 0, c) = Int32.ofInt c := by simp [evI]
theorem evI_v (r : Nat → Int32) (v : Nat) : evI r (v, 1, 0) = r v := by simp [evI]
theorem evI_k (r : Nat → Int32) (v : Nat) (x : Int32) : evI r (v, 0, x.toInt) = x := by simp [evI]
def Sat (r : Nat → Int32) (g : List Iv) : Prop := ∀ v i, g[v]? = some i → inIv i (r v)
def ivV (g : List Iv) (v : Nat) : Iv := (g[v]?).getD ivF
theorem ivV_ok {r : Nat → Int32} {g : List Iv} (h : Sat r g) (v : Nat) : inIv (ivV g v) (r v) := by
  unfold ivV
  cases e : g[v]? with
  | none => exact inIv_F _
  | some i => exact h v i e
def okB (i : Iv) : Bool := decide (-2147483648 ≤ i.1) && decide (i.2 ≤ 2147483647)
def rawI (g : List Iv) (a : Af) : Iv :=
  if a.2.1 = 0 then (a.2.2, a.2.2) else if 0 < a.2.1 then (a.2.1 * (ivV g a.1).1 + a.2.2, a.2.1 * (ivV g a.1).2 + a.2.2) else (a.2.1 * (ivV g a.1).2 + a.2.2, a.2.1 * (ivV g a.1).1 + a.2.2)
theorem rawI_ok {r : Nat → Int32} {g : List Iv} {a : Af} (h : Sat r g) : (rawI g a).1 ≤ a.2.1 * (r a.1).toInt + a.2.2 ∧ a.2.1 * (r a.1).toInt + a.2.2 ≤ (rawI g a).2 := by
  obtain ⟨h1, h2⟩ := ivV_ok h a.1
  unfold rawI
  split
  · rename_i e
    rw [e]
    simp
  · split
    · rename_i e
      have k1 := Int.mul_le_mul_of_nonneg_left h1 (Int.le_of_lt e)
      have k2 := Int.mul_le_mul_of_nonneg_left h2 (Int.le_of_lt e)
      constructor <;> simp only <;> omega
    · rename_i e
      have e : a.2.1 ≤ 0 := Int.not_lt.mp e
      have k1 := Int.mul_le_mul_of_nonpos_left e h1
      have k2 := Int.mul_le_mul_of_nonpos_left e h2
      constructor <;> simp only <;> omega
def ivA (g : List Iv) (a : Af) : Iv := if okB (rawI g a) = true then rawI g a else ivF
theorem okB_ok {i : Iv} (h : okB i = true) : -2147483648 ≤ i.1 ∧ i.2 ≤ 2147483647 := by
  simpa [okB] using h
theorem evI_raw {r : Nat → Int32} {g : List Iv} {a : Af} (h : Sat r g) (hb : okB (rawI g a) = true) : (evI r a).toInt = a.2.1 * (r a.1).toInt + a.2.2 := by
  obtain ⟨h1, h2⟩ := rawI_ok (a := a) h
  obtain ⟨h3, h4⟩ := okB_ok hb
  exact toI_of (by omega) (by omega)
theorem ivA_ok {r : Nat → Int32} {g : List Iv} (h : Sat r g) (a : Af) : inIv (ivA g a) (evI r a) := by
  unfold ivA
  split
  · rename_i hb
    have h2 := rawI_ok (a := a) h
    rw [← evI_raw h hb] at h2
    exact h2
  · exact inIv_F _
theorem Sat_set {r : Nat → Int32} {g : List Iv} {v : Nat} {j : Iv} (h : Sat r g) (hj : inIv j (r v)) : Sat r (g.set v j) := by
  intro w i hw
  rw [List.getElem?_set] at hw
  split at hw
  · rename_i e
    subst e
    split at hw
    · cases hw; exact hj
    · cases hw
  · exact h w i hw
def cutH (g : List Iv) (a : Af) (b : Int) : List Iv := if a.2.1 = 1 ∧ okB (rawI g a) = true then g.set a.1 ((ivV g a.1).1, min (ivV g a.1).2 (b - a.2.2)) else g
def cutL (g : List Iv) (a : Af) (b : Int) : List Iv := if a.2.1 = 1 ∧ okB (rawI g a) = true then g.set a.1 (max (ivV g a.1).1 (b - a.2.2), (ivV g a.1).2) else g
theorem cutH_ok {r : Nat → Int32} {g : List Iv} {a : Af} {b : Int} (h : Sat r g) (hb : (evI r a).toInt ≤ b) : Sat r (cutH g a b) := by
  unfold cutH
  split
  · rename_i e
    have h1 := evI_raw h e.2
    rw [e.1, Int.one_mul] at h1
    obtain ⟨h2, h3⟩ := ivV_ok h a.1
    exact Sat_set h ⟨h2, by simp only; omega⟩
  · exact h
theorem cutL_ok {r : Nat → Int32} {g : List Iv} {a : Af} {b : Int} (h : Sat r g) (hb : b ≤ (evI r a).toInt) : Sat r (cutL g a b) := by
  unfold cutL
  split
  · rename_i e
    have h1 := evI_raw h e.2
    rw [e.1, Int.one_mul] at h1
    obtain ⟨h2, h3⟩ := ivV_ok h a.1
    exact Sat_set h ⟨by simp only; omega, h3⟩
  · exact h
/-- a and d is at most b -/
def refLe (g : List Iv) (a b : Af) (d : Int) : Option (List Iv) := if (ivA g b).2 < (ivA g a).1 + d then none else some (cutL (cutH g a ((ivA g b).2 - d)) b ((ivA g a).1 + d))
def refEq (g : List Iv) (a b : Af) : Option (List Iv) := if (ivA g a).2 < (ivA g b).1 ∨ (ivA g b).2 < (ivA g a).1 then none else some (cutH (cutL (cutH (cutL g a (ivA g b).1) a (ivA g b).2) b (ivA g a).1) b (ivA g a).2)
def refNe (g : List Iv) (a b : Af) : Option (List Iv) :=
  if (ivA g b).1 = (ivA g b).2 then
    (if (ivA g a).1 = (ivA g b).1 ∧ (ivA g a).2 = (ivA g b).1 then none else if (ivA g a).1 = (ivA g b).1 then some (cutL g a ((ivA g a).1 + 1)) else if (ivA g a).2 = (ivA g b).1 then some (cutH g a ((ivA g a).2 - 1)) else some g)
  else if (ivA g a).1 = (ivA g a).2 then
    (if (ivA g b).1 = (ivA g a).1 then some (cutL g b ((ivA g b).1 + 1)) else if (ivA g b).2 = (ivA g a).1 then some (cutH g b ((ivA g b).2 - 1)) else some g)
  else some g
theorem refLe_ok {r : Nat → Int32} {g : List Iv} {a b : Af} {d : Int} (h : Sat r g) (hl : (evI r a).toInt + d ≤ (evI r b).toInt) : ∃ g', refLe g a b d = some g' ∧ Sat r g' := by
  have ha := ivA_ok h a
  have hb := ivA_ok h b
  unfold inIv at ha hb
  unfold refLe
  rw [if_neg (by omega)]
  exact ⟨_, rfl, cutL_ok (cutH_ok h (by omega)) (by omega)⟩
theorem refEq_ok {r : Nat → Int32} {g : List Iv} {a b : Af} (h : Sat r g) (hl : evI r a = evI r b) : ∃ g', refEq g a b = some g' ∧ Sat r g' := by
  have ha := ivA_ok h a
  have hb := ivA_ok h b
  unfold inIv at ha hb
  have hl2 : (evI r a).toInt = (evI r b).toInt := by rw [hl]
  unfold refEq
  rw [if_neg (by omega)]
  exact ⟨_, rfl, cutH_ok (cutL_ok (cutH_ok (cutL_ok h (by omega)) (by omega)) (by omega)) (by omega)⟩
theorem refNe_ok {r : Nat → Int32} {g : List Iv} {a b : Af} (h : Sat r g) (hl : ¬ evI r a = evI r b) : ∃ g', refNe g a b = some g' ∧ Sat r g' := by
  have ha := ivA_ok h a
  have hb := ivA_ok h b
  unfold inIv at ha hb
  have hl2 : (evI r a).toInt ≠ (evI r b).toInt := fun e => hl (Int32.toInt_inj.mp e)
  unfold refNe
  split
  · rw [if_neg (by omega)]
    split
    · exact ⟨_, rfl, cutL_ok h (by omega)⟩
    · split
      · exact ⟨_, rfl, cutH_ok h (by omega)⟩
      · exact ⟨_, rfl, h⟩
  · split
    · split
      · exact ⟨_, rfl, cutL_ok h (by omega)⟩
      · split
        · exact ⟨_, rfl, cutH_ok h (by omega)⟩
        · exact ⟨_, rfl, h⟩
    · exact ⟨_, rfl, h⟩
abbrev Cc : Type := Jvm.ClassFile.Cond
def cmpP : Cc → Int32 → Int32 → Prop
  | .eq, x, y => x = y
  | .ne, x, y => ¬ x = y
  | .lt, x, y => x < y
  | .ge, x, y => y ≤ x
  | .gt, x, y => y < x
  | .le, x, y => x ≤ y
def refT (g : List Iv) (a b : Af) : Cc → Option (List Iv)
  | .eq => refEq g a b
  | .ne => refNe g a b
  | .lt => refLe g a b 1
  | .ge => refLe g b a 0
  | .gt => refLe g b a 1
  | .le => refLe g a b 0
def refF (g : List Iv) (a b : Af) : Cc → Option (List Iv)
  | .eq => refNe g a b
  | .ne => refEq g a b
  | .lt => refLe g b a 0
  | .ge => refLe g a b 1
  | .gt => refLe g a b 0
  | .le => refLe g b a 1
theorem refT_ok {r : Nat → Int32} {g : List Iv} {a b : Af} (h : Sat r g) {c : Cc} (hl : cmpP c (evI r a) (evI r b)) : ∃ g', refT g a b c = some g' ∧ Sat r g' := by
  cases c with
  | eq => exact refEq_ok h hl
  | ne => exact refNe_ok h hl
  | lt => exact refLe_ok h (by have := Int32.lt_iff_toInt_lt.mp hl; omega)
  | ge => exact refLe_ok h (by have := Int32.le_iff_toInt_le.mp hl; omega)
  | gt => exact refLe_ok h (by have := Int32.lt_iff_toInt_lt.mp hl; omega)
  | le => exact refLe_ok h (by have := Int32.le_iff_toInt_le.mp hl; omega)
theorem refF_ok {r : Nat → Int32} {g : List Iv} {a b : Af} (h : Sat r g) {c : Cc} (hl : ¬ cmpP c (evI r a) (evI r b)) : ∃ g', refF g a b c = some g' ∧ Sat r g' := by
  cases c with
  | eq => exact refNe_ok h hl
  | ne => exact refEq_ok h (Decidable.not_not.mp hl)
  | lt => exact refLe_ok h (by have := Int32.le_iff_toInt_le.mp (Int32.not_lt.mp hl); omega)
  | ge => exact refLe_ok h (by have := Int32.lt_iff_toInt_lt.mp (Int32.not_le.mp hl); omega)
  | gt => exact refLe_ok h (by have := Int32.le_iff_toInt_le.mp (Int32.not_lt.mp hl); omega)
  | le => exact refLe_ok h (by have := Int32.lt_iff_toInt_lt.mp (Int32.not_le.mp hl); omega)
/-! sums and products -/
def afAdd (x y : Af) : Option Af := if x.2.1 = 0 then some (y.1, y.2.1, y.2.2 + x.2.2) else if y.2.1 = 0 then some (x.1, x.2.1, x.2.2 + y.2.2) else if x.1 = y.1 then some (x.1, x.2.1 + y.2.1, x.2.2 + y.2.2) else none
def afNeg (x : Af) : Af := (x.1, -x.2.1, -x.2.2)
def afMul (x y : Af) : Option Af := if x.2.1 = 0 then some (y.1, x.2.2 * y.2.1, x.2.2 * y.2.2) else if y.2.1 = 0 then some (x.1, y.2.2 * x.2.1, y.2.2 * x.2.2) else none
theorem afAdd_ok {r : Nat → Int32} {x y z : Af} (h : afAdd x y = some z) : evI r z = evI r x + evI r y := by
  unfold afAdd at h
  unfold evI
  rw [← Int32.ofInt_add]
  congr 1
  split at h
  · rename_i e
    cases h
    simp only
    rw [e, Int.zero_mul]
    omega
  · split at h
    · rename_i e
      cases h
      simp only
      rw [e, Int.zero_mul]
      omega
    · split at h
      · rename_i e
        cases h
        simp only
        rw [Int.add_mul, ← e]
        omega
      · cases h
theorem afNeg_ok {r : Nat → Int32} {x : Af} : evI r (afNeg x) = -evI r x := by
  unfold evI afNeg
  rw [← Int32.ofInt_neg]
  congr 1
  simp only
  rw [Int.neg_mul]
  omega
theorem afMul_ok {r : Nat → Int32} {x y z : Af} (h : afMul x y = some z) : evI r z = evI r x * evI r y := by
  unfold afMul at h
  unfold evI
  rw [← Int32.ofInt_mul]
  congr 1
  split at h
  · rename_i e
    cases h
    simp only
    rw [e, Int.zero_mul, Int.zero_add, Int.mul_add, Int.mul_assoc]
  · split at h
    · rename_i e
      cases h
      simp only
      rw [e, Int.zero_mul, Int.zero_add, Int.mul_comm _ y.2.2, Int.mul_add, Int.mul_assoc]
    · cases h
def cst2 (f : Int32 → Int32 → Int32) (x y : Af) : Option Af := if x.2.1 = 0 ∧ y.2.1 = 0 then some (0, 0, (f (Int32.ofInt x.2.2) (Int32.ofInt y.2.2)).toInt) else none
theorem cst2_ok {r : Nat → Int32} {f : Int32 → Int32 → Int32} {x y z : Af} (h : cst2 f x y = some z) : evI r z = f (evI r x) (evI r y) := by
  unfold cst2 at h
  split at h
  · rename_i e
    cases h
    rw [evI_k]
    unfold evI
    rw [e.1, e.2, Int.zero_mul, Int.zero_mul, Int.zero_add, Int.zero_add]
  · cases h
theorem afSub_ok {r : Nat → Int32} {x y z : Af} (h : afAdd x (afNeg y) = some z) : evI r z = evI r x - evI r y := by
  rw [afAdd_ok h, afNeg_ok, Int32.sub_eq_add_neg]
def ivAdd (i j : Iv) : Iv := if okB (i.1 + j.1, i.2 + j.2) = true then (i.1 + j.1, i.2 + j.2) else ivF
def ivSub (i j : Iv) : Iv := if okB (i.1 - j.2, i.2 - j.1) = true then (i.1 - j.2, i.2 - j.1) else ivF
theorem ivAdd_ok {i j : Iv} {x y : Int32} (hx : inIv i x) (hy : inIv j y) : inIv (ivAdd i j) (x + y) := by
  unfold ivAdd
  split
  · rename_i e
    have e := okB_ok e
    unfold inIv at *
    simp only at e ⊢
    have h : (x + y).toInt = x.toInt + y.toInt := by
      rw [← Int32.ofInt_toInt x, ← Int32.ofInt_toInt y, ← Int32.ofInt_add, Int32.ofInt_toInt, Int32.ofInt_toInt]
      exact toI_of (by omega) (by omega)
    rw [h]
    omega
  · exact inIv_F _
theorem ivSub_ok {i j : Iv} {x y : Int32} (hx : inIv i x) (hy : inIv j y) : inIv (ivSub i j) (x - y) := by
  unfold ivSub
  split
  · rename_i e
    have e := okB_ok e
    unfold inIv at *
    simp only at e ⊢
    have h : (x - y).toInt = x.toInt - y.toInt := by
      rw [← Int32.ofInt_toInt x, ← Int32.ofInt_toInt y, ← Int32.ofInt_sub, Int32.ofInt_toInt, Int32.ofInt_toInt]
      exact toI_of (by omega) (by omega)
    rw [h]
    omega
  · exact inIv_F _
/-! bits -/
theorem toInt_nn {x : Int32} (h : 0 ≤ x.toInt) : x.toInt = (x.toBitVec.toNat : Int) := by
  have h1 : x.toInt = x.toBitVec.toInt := rfl
  rw [h1] at h ⊢
  rw [BitVec.toInt_eq_toNat_cond] at h ⊢
  have := x.toBitVec.isLt
  split at h
  · rename_i e; rw [if_pos e]
  · omega
theorem and_nn {x y : Int32} (h : 0 ≤ y.toInt) : 0 ≤ (x &&& y).toInt ∧ (x &&& y).toInt ≤ y.toInt := by
  have h1 := toInt_nn h
  have h2 := Int32.toInt_lt y
  have h3 : (x &&& y).toBitVec.toNat ≤ y.toBitVec.toNat := by
    show (x.toBitVec &&& y.toBitVec).toNat ≤ _
    rw [BitVec.toNat_and]
    exact Nat.and_le_right
  have h4 : (x &&& y).toInt = ((x &&& y).toBitVec.toNat : Int) := by
    show (x &&& y).toBitVec.toInt = _
    rw [BitVec.toInt_eq_toNat_cond, if_pos (by omega)]
  omega
theorem and_comm32 (x y : Int32) : x &&& y = y &&& x := Int32.toBitVec_inj.mp (BitVec.and_comm _ _)
def ivAnd (i j : Iv) : Iv := if 0 ≤ j.1 then (0, j.2) else if 0 ≤ i.1 then (0, i.2) else ivF
theorem ivAnd_ok {i j : Iv} {x y : Int32} (hx : inIv i x) (hy : inIv j y) : inIv (ivAnd i j) (x &&& y) := by
  unfold inIv at hx hy
  unfold ivAnd
  split
  · have := and_nn (x := x) (y := y) (by omega)
    unfold inIv
    simp only
    omega
  · split
    · have := and_nn (x := y) (y := x) (by omega)
      rw [and_comm32]
      unfold inIv
      simp only
      omega
    · exact inIv_F _
def ivOr (i j : Iv) : Iv := if 0 ≤ i.1 ∧ 0 ≤ j.1 ∧ i.2 ≤ 255 ∧ j.2 ≤ 255 then (0, 255) else ivF
theorem ivOr_ok {i j : Iv} {x y : Int32} (hx : inIv i x) (hy : inIv j y) : inIv (ivOr i j) (x ||| y) := by
  unfold inIv at hx hy
  unfold ivOr
  split
  · have h1 := toInt_nn (x := x) (by omega)
    have h2 := toInt_nn (x := y) (by omega)
    have h3 : (x ||| y).toBitVec.toNat < 256 := by
      show (x.toBitVec ||| y.toBitVec).toNat < 2 ^ 8
      rw [BitVec.toNat_or]
      exact Nat.or_lt_two_pow (by omega) (by omega)
    have h4 : (x ||| y).toInt = ((x ||| y).toBitVec.toNat : Int) := by
      show (x ||| y).toBitVec.toInt = _
      rw [BitVec.toInt_eq_toNat_cond, if_pos (by omega)]
    unfold inIv
    simp only
    omega
  · exact inIv_F _
/-- what divides isn't 0 -/
def nzI (j : Iv) : Bool := decide (1 ≤ j.1) || decide (j.2 ≤ -1)
theorem nzI_ok {j : Iv} {y : Int32} (hy : inIv j y) (h : nzI j = true) : ¬ y = 0 := by
  intro e
  subst e
  unfold inIv at hy
  rw [Int32.toInt_zero] at hy
  simp [nzI] at h
  omega
def ivRem (i j : Iv) : Iv := if 1 ≤ j.1 then (if 0 ≤ i.1 then (0, j.2 - 1) else (1 - j.2, j.2 - 1)) else ivF
theorem ivRem_ok {i j : Iv} {x y : Int32} (hx : inIv i x) (hy : inIv j y) : inIv (ivRem i j) (x - x / y * y) := by
  unfold inIv at hx hy
  unfold ivRem
  split
  · rename_i h1
    have hy1 : y ≠ -1 := by
      intro e
      rw [e, show (-1 : Int32).toInt = -1 from rfl] at hy
      omega
    have e1 : (x / y).toInt = x.toInt.tdiv y.toInt := Int32.toInt_div_of_ne_right x y hy1
    have e2 : x - x / y * y = Int32.ofInt (x.toInt.tmod y.toInt) := by
      rw [Int.tmod_def, Int32.ofInt_sub, Int32.ofInt_mul, Int32.ofInt_toInt, Int32.ofInt_toInt, ← e1, Int32.ofInt_toInt, Int32.mul_comm y]
    have b1 : x.toInt.tmod y.toInt < y.toInt := Int.tmod_lt_of_pos _ (by omega)
    have b2 : -y.toInt < x.toInt.tmod y.toInt := Int.lt_tmod_of_pos _ (by omega)
    have b3 := Int32.toInt_lt y
    have e3 : (x - x / y * y).toInt = x.toInt.tmod y.toInt := by
      rw [e2]
      exact toI_of (by omega) (by omega)
    split
    · have b4 : 0 ≤ x.toInt.tmod y.toInt := Int.tmod_nonneg _ (by omega)
      unfold inIv
      rw [e3]
      simp only
      omega
    · unfold inIv
      rw [e3]
      simp only
      omega
  · exact inIv_F _
def ivDiv (i j : Iv) : Iv := if 1 ≤ j.1 ∧ 0 ≤ i.1 then (0, i.2) else ivF
theorem ivDiv_ok {i j : Iv} {x y : Int32} (hx : inIv i x) (hy : inIv j y) : inIv (ivDiv i j) (x / y) := by
  unfold inIv at hx hy
  unfold ivDiv
  split
  · have hy1 : y ≠ -1 := by
      intro e
      rw [e, show (-1 : Int32).toInt = -1 from rfl] at hy
      omega
    have e1 : (x / y).toInt = x.toInt.tdiv y.toInt := Int32.toInt_div_of_ne_right x y hy1
    have b1 : 0 ≤ x.toInt.tdiv y.toInt := Int.tdiv_nonneg (by omega) (by omega)
    have b2 : x.toInt.tdiv y.toInt ≤ x.toInt := Int.tdiv_le_self _ (by omega)
    unfold inIv
    rw [e1]
    simp only
    omega
  · exact inIv_F _
def ivShl (i j : Iv) : Iv := if i.1 = 1 ∧ i.2 = 1 ∧ 0 ≤ j.1 ∧ j.2 ≤ 7 then (1, 128) else if i.1 = 1 ∧ i.2 = 1 ∧ 0 ≤ j.1 ∧ j.2 ≤ 8 then (1, 256) else ivF
theorem ivShl_ok {i j : Iv} {x y : Int32} (hx : inIv i x) (hy : inIv j y) : inIv (ivShl i j) (x <<< (y &&& 31)) := by
  unfold inIv at hx hy
  have ey : y = Int32.ofInt y.toInt := (Int32.ofInt_toInt y).symm
  unfold ivShl
  split
  · have ex : x = 1 := Int32.toInt_inj.mp (by rw [show (1 : Int32).toInt = 1 from rfl]; omega)
    subst ex
    have : y.toInt = 0 ∨ y.toInt = 1 ∨ y.toInt = 2 ∨ y.toInt = 3 ∨ y.toInt = 4 ∨ y.toInt = 5 ∨ y.toInt = 6 ∨ y.toInt = 7 := by omega
    rcases this with h | h | h | h | h | h | h | h <;> rw [h] at ey <;> subst ey <;> (unfold inIv; decide)
  · split
    · have ex : x = 1 := Int32.toInt_inj.mp (by rw [show (1 : Int32).toInt = 1 from rfl]; omega)
      subst ex
      have : y.toInt = 0 ∨ y.toInt = 1 ∨ y.toInt = 2 ∨ y.toInt = 3 ∨ y.toInt = 4 ∨ y.toInt = 5 ∨ y.toInt = 6 ∨ y.toInt = 7 ∨ y.toInt = 8 := by omega
      rcases this with h | h | h | h | h | h | h | h | h <;> rw [h] at ey <;> subst ey <;> (unfold inIv; decide)
    · exact inIv_F _
def ivMul (i j : Iv) : Iv := if 0 ≤ i.1 ∧ 0 ≤ j.1 ∧ i.2 ≤ 1000 ∧ j.2 ≤ 1000 then (i.1 * j.1, i.2 * j.2) else ivF
theorem ivMul_ok {i j : Iv} {x y : Int32} (hx : inIv i x) (hy : inIv j y) : inIv (ivMul i j) (x * y) := by
  unfold inIv at hx hy
  unfold ivMul
  split
  · have b1 : 0 ≤ x.toInt := by omega
    have b2 : 0 ≤ y.toInt := by omega
    have m1 : i.1 * j.1 ≤ x.toInt * y.toInt := Int.mul_le_mul hx.1 hy.1 (by omega) b1
    have m2 : x.toInt * y.toInt ≤ i.2 * j.2 := Int.mul_le_mul hx.2 hy.2 b2 (by omega)
    have m3 : i.2 * j.2 ≤ 1000 * 1000 := Int.mul_le_mul (by omega) (by omega) (by omega) (by omega)
    have m4 : 0 ≤ x.toInt * y.toInt := Int.mul_nonneg b1 b2
    have e : (x * y).toInt = x.toInt * y.toInt := by
      rw [← Int32.ofInt_toInt x, ← Int32.ofInt_toInt y, ← Int32.ofInt_mul, Int32.ofInt_toInt, Int32.ofInt_toInt]
      exact toI_of (by omega) (by omega)
    unfold inIv
    rw [e]
    exact ⟨m1, m2⟩
  · exact inIv_F _
def ivMin (i j : Iv) : Iv := (min i.1 j.1, min i.2 j.2)
def ivMax (i j : Iv) : Iv := (max i.1 j.1, max i.2 j.2)
def ivAbs (i : Iv) : Iv := if -2147483647 ≤ i.1 then (0, max i.2 (-i.1)) else ivF
theorem ivMin_ok {i j : Iv} {x y : Int32} (hx : inIv i x) (hy : inIv j y) : inIv (ivMin i j) (imin x y) := by
  unfold inIv at *
  unfold imin ivMin
  simp only
  split
  · rename_i h
    have h := Int32.lt_iff_toInt_lt.mp h
    omega
  · rename_i h
    have h := Int32.le_iff_toInt_le.mp (Int32.not_lt.mp h)
    omega
theorem ivMax_ok {i j : Iv} {x y : Int32} (hx : inIv i x) (hy : inIv j y) : inIv (ivMax i j) (imax x y) := by
  unfold inIv at *
  unfold imax ivMax
  simp only
  split
  · rename_i h
    have h := Int32.lt_iff_toInt_lt.mp h
    omega
  · rename_i h
    have h := Int32.le_iff_toInt_le.mp (Int32.not_lt.mp h)
    omega
theorem ivAbs_ok {i : Iv} {x : Int32} (hx : inIv i x) : inIv (ivAbs i) (iabs x) := by
  unfold ivAbs
  split
  · rename_i hi
    unfold inIv at *
    unfold iabs
    simp only
    split
    · rename_i h
      have h := Int32.le_iff_toInt_le.mp h
      rw [Int32.toInt_zero] at h
      omega
    · rename_i h
      have h := Int32.lt_iff_toInt_lt.mp (Int32.not_le.mp h)
      rw [Int32.toInt_zero] at h
      have e : (0 - x).toInt = 0 - x.toInt := by
        have : (0 : Int32) - x = Int32.ofInt (0 - x.toInt) := by rw [Int32.ofInt_sub, Int32.ofInt_toInt]; rfl
        rw [this]
        exact toI_of (by omega) (by have := Int32.le_toInt x; omega)
      rw [e]
      omega
  · exact inIv_F _
theorem i2b_ok (x : Int32) : inIv (-128, 127) x.toInt8.toInt32 := by
  have h1 := Int8.le_toInt x.toInt8
  have h2 := Int8.toInt_lt x.toInt8
  have e : x.toInt8.toInt32.toInt = x.toInt8.toInt := Int8.toInt_toInt32 _
  unfold inIv
  rw [e]
  simp only
  omega
theorem bip_ok {n : Int} (h1 : -128 ≤ n) (h2 : n ≤ 127) : (Int8.ofInt n).toInt32 = Int32.ofInt n := by
  rw [← Int32.ofInt_int8ToInt, Int8.toInt_ofInt_of_le (by omega) (by omega)]
theorem sip_ok {n : Int} (h1 : -32768 ≤ n) (h2 : n ≤ 32767) : (Int16.ofInt n).toInt32 = Int32.ofInt n := by
  rw [← Int32.ofInt_int16ToInt, Int16.toInt_ofInt_of_le (by omega) (by omega)]
/-- shifted by a number: a product -/
def afShl (x y : Af) : Option Af := if y.2.1 = 0 ∧ y.2.2 = 8 then some (x.1, 256 * x.2.1, 256 * x.2.2) else none
theorem afShl_ok {r : Nat → Int32} {x y z : Af} (h : afShl x y = some z) : evI r z = evI r x <<< (evI r y &&& 31) := by
  unfold afShl at h
  split at h
  · rename_i e
    cases h
    have ey : evI r y = 8 := by
      unfold evI
      rw [e.1, e.2, Int.zero_mul, Int.zero_add]
      rfl
    rw [ey]
    have key : ∀ x : Int32, x <<< ((8 : Int32) &&& 31) = Int32.ofInt 256 * x := by
      intro x
      apply Int32.toBitVec_inj.mp
      show x.toBitVec <<< (BitVec.smod (8 &&& 31 : Int32).toBitVec 32).toNat = (256#32 : BitVec 32) * x.toBitVec
      rw [show (BitVec.smod (8 &&& 31 : Int32).toBitVec 32).toNat = 8 from by decide, BitVec.mul_comm, BitVec.shiftLeft_eq_mul_twoPow]
      rfl
    rw [key]
    unfold evI
    rw [← Int32.ofInt_mul]
    congr 1
    simp only
    rw [Int.mul_add, Int.mul_assoc]
  · cases h
end
section
/-! ===== the checker: one step ===== -/
abbrev In : Type := Jvm.ClassFile.Instr
/-- an end: what is returned (none: nothing), or the number of what is thrown -/
abbrev Ed : Type := List Iv × (Option Af ⊕ Nat) × Kb
def KbOK (r : Nat → Int32) (kb : Kb) (I : Hi) : Prop := ∀ e, e ∈ kb → I e.1.1 e.1.2 = evI r e.2
def edV (r : Nat → Int32) : Option Af ⊕ Nat → Rs
  | .inl o => .inl (o.map (fun a => .int (evI r a)))
  | .inr E => .inr (zCs.getD E "")
def Gd (G : Gx) (Y : Ym) (Q : Rs → Hi → Prop) (d b n0 : Nat) (r0 : Nat → Int32) (HP : Hi → Prop) (pc : Nat) (s : Ast) : Prop :=
  ∀ (r : Nat → Int32) (I : Hi), (∀ v, v < n0 → r v = r0 v) → Sat r s.1 → HP I → KbOK r s.2.2.2 I → Rn G GAM Y (kM G GAM Q) d b pc (evL r s.2.1) (evS r s.2.2.1) I
def Ge (Q : Rs → Hi → Prop) (n0 : Nat) (r0 : Nat → Int32) (HP : Hi → Prop) (e : Ed) : Prop :=
  ∀ (r : Nat → Int32) (I : Hi), (∀ v, v < n0 → r v = r0 v) → Sat r e.1 → HP I → KbOK r e.2.2 I → Q (edV r e.2.1) I
/-! new variables -/
def scA (n : Nat) (a : Af) : Bool := decide (a.2.1 = 0) || Nat.blt a.1 n
def scV (n : Nat) : SV → Bool
  | .inl a => scA n a
  | .inr _ => true
def scO (n : Nat) : Option SV → Bool
  | none => true
  | some v => scV n v
def frO (n0 : Nat) (g : List Iv) (L : List (Option SV)) (st : List SV) (kb : Kb) : Bool := Nat.ble n0 g.length && (L.all (scO g.length) && (st.all (scV g.length) && kb.all (fun e => scA g.length e.2)))
theorem scA_ok {n : Nat} {a : Af} {r r' : Nat → Int32} (h : scA n a = true) (hr : ∀ v, v < n → r' v = r v) : evI r' a = evI r a := by
  simp only [scA, Bool.or_eq_true, decide_eq_true_eq] at h
  unfold evI
  rcases h with h | h
  · rw [h, Int.zero_mul, Int.zero_mul]
  · rw [hr _ (Nat.blt_eq.mp h)]
theorem scV_ok {n : Nat} {a : SV} {r r' : Nat → Int32} (h : scV n a = true) (hr : ∀ v, v < n → r' v = r v) : evV r' a = evV r a := by
  cases a with
  | inl a => show Value.int _ = Value.int _; rw [scA_ok h hr]
  | inr q => cases q <;> rfl
theorem evS_ok {n : Nat} {st : List SV} {r r' : Nat → Int32} (h : st.all (scV n) = true) (hr : ∀ v, v < n → r' v = r v) : evS r' st = evS r st :=
  List.map_congr_left (fun a ha => scV_ok (List.all_eq_true.mp h a ha) hr)
theorem scO_ok {n : Nat} {o : Option SV} {r r' : Nat → Int32} (h : scO n o = true) (hr : ∀ v, v < n → r' v = r v) : o.map (evV r') = o.map (evV r) := by
  cases o with
  | none => rw [Option.map_none, Option.map_none]
  | some a => rw [Option.map_some, Option.map_some, scV_ok (a := a) h hr]
theorem evL_ok {n : Nat} {L : List (Option SV)} {r r' : Nat → Int32} (h : L.all (scO n) = true) (hr : ∀ v, v < n → r' v = r v) : evL r' L = evL r L :=
  List.map_congr_left (fun a ha => scO_ok (List.all_eq_true.mp h a ha) hr)
theorem KbOK_ok {n : Nat} {kb : Kb} {r r' : Nat → Int32} {I : Hi} (h : kb.all (fun e => scA n e.2) = true) (hr : ∀ v, v < n → r' v = r v) (hk : KbOK r kb I) : KbOK r' kb I :=
  fun e he => by rw [hk e he, scA_ok (List.all_eq_true.mp h e he) hr]
def exr (r : Nat → Int32) (n : Nat) (xs : List Int32) : Nat → Int32 := fun v => if v < n then r v else (xs[v - n]?).getD 0
theorem exr_lt {r : Nat → Int32} {n : Nat} {xs : List Int32} : ∀ v, v < n → exr r n xs v = r v := fun v hv => by simp [exr, hv]
theorem exr_at {r : Nat → Int32} {n j : Nat} {xs : List Int32} {x : Int32} (h : xs[j]? = some x) : exr r n xs (n + j) = x := by
  unfold exr
  rw [if_neg (by omega), show n + j - n = j by omega, h]
  rfl
theorem exr_Sat {r : Nat → Int32} {g ivs : List Iv} {xs : List Int32} (h : Sat r g) (hl : ivs.length = xs.length) (hx : ∀ (j : Nat) (i : Iv) (x : Int32), ivs[j]? = some i → xs[j]? = some x → inIv i x) : Sat (exr r g.length xs) (g ++ ivs) := by
  intro v i hv
  by_cases hlt : v < g.length
  · rw [List.getElem?_append_left hlt] at hv
    rw [exr_lt v hlt]
    exact h v i hv
  · rw [List.getElem?_append_right (by omega)] at hv
    have hj : v - g.length < xs.length := by
      rw [← hl]; exact (List.getElem?_eq_some_iff.mp hv).1
    have hx2 : xs[v - g.length]? = some xs[v - g.length] := List.getElem?_eq_getElem hj
    have := hx _ _ _ hv hx2
    have e : exr r g.length xs (g.length + (v - g.length)) = xs[v - g.length] := exr_at hx2
    rw [show g.length + (v - g.length) = v by omega] at e
    rw [e]
    exact this
section Fresh
variable {G : Gx} {Y : Ym} {Q : Rs → Hi → Prop} {d b n0 pc : Nat} {r0 r : Nat → Int32} {HP : Hi → Prop} {g : List Iv} {L : List (Option SV)} {st : List SV} {kb : Kb} {I : Hi}
theorem frO_ok (h : frO n0 g L st kb = true) : n0 ≤ g.length ∧ L.all (scO g.length) = true ∧ st.all (scV g.length) = true ∧ kb.all (fun e => scA g.length e.2) = true := by
  simp only [frO, Bool.and_eq_true] at h
  exact ⟨Nat.le_of_ble_eq_true h.1, h.2⟩
/-- new variables ivs for the values xs; what is known more: kb' -/
theorem Gd.exts {ivs : List Iv} {xs : List Int32} {st' : List SV} {kb' : Kb} {vs : List Value} (k : Gd G Y Q d b n0 r0 HP pc (g ++ ivs, L, st' ++ st, kb' ++ kb)) (h : frO n0 g L st kb = true) (ha : ∀ v, v < n0 → r v = r0 v) (hS : Sat r g) (hP : HP I) (hK : KbOK r kb I)
    (hl : ivs.length = xs.length) (hx : ∀ (j : Nat) (i : Iv) (x : Int32), ivs[j]? = some i → xs[j]? = some x → inIv i x) (hv : evS (exr r g.length xs) st' = vs) (hk : KbOK (exr r g.length xs) kb' I) : Rn G GAM Y (kM G GAM Q) d b pc (evL r L) (vs ++ evS r st) I := by
  obtain ⟨h0, h1, h2, h3⟩ := frO_ok h
  have e := k (exr r g.length xs) I (fun v hv => by rw [exr_lt v (by omega)]; exact ha v hv) (exr_Sat hS hl hx) hP (fun e he => (List.mem_append.mp he).elim (hk e) (KbOK_ok h3 exr_lt hK e))
  have e1 : evL (exr r g.length xs) L = evL r L := evL_ok h1 exr_lt
  have e2 : evS (exr r g.length xs) st = evS r st := evS_ok h2 exr_lt
  have e3 : evS (exr r g.length xs) (st' ++ st) = vs ++ evS r st := by
    show List.map _ _ = _
    rw [List.map_append]
    show evS _ st' ++ evS _ st = _
    rw [hv, e2]
  simp only [e1, e3] at e
  exact e
theorem Gd.fr {iv : Iv} {x : Int32} (k : Gd G Y Q d b n0 r0 HP pc (g ++ [iv], L, .inl (g.length, 1, 0) :: st, kb)) (h : frO n0 g L st kb = true) (ha : ∀ v, v < n0 → r v = r0 v) (hS : Sat r g) (hP : HP I) (hK : KbOK r kb I) (hx : inIv iv x) : Rn G GAM Y (kM G GAM Q) d b pc (evL r L) (.int x :: evS r st) I :=
  Gd.exts (ivs := [iv]) (xs := [x]) (st' := [.inl (g.length, 1, 0)]) (kb' := []) (vs := [.int x]) k h ha hS hP hK rfl
    (fun j i y h1 h2 => by
      cases j with
      | zero => simp at h1 h2; subst h1; subst h2; exact hx
      | succ j => simp at h1)
    (by
      show [Value.int (evI _ (g.length, 1, 0))] = _
      rw [evI_v, show exr r g.length [x] g.length = x from exr_at (j := 0) rfl])
    (fun e he => nomatch he)
theorem Gd.frK {iv : Iv} {a j : Nat} (k : Gd G Y Q d b n0 r0 HP pc (g ++ [iv], L, .inl (g.length, 1, 0) :: st, ((a, j), (g.length, 1, 0)) :: kb)) (h : frO n0 g L st kb = true) (ha : ∀ v, v < n0 → r v = r0 v) (hS : Sat r g) (hP : HP I) (hK : KbOK r kb I) (hx : inIv iv (I a j)) : Rn G GAM Y (kM G GAM Q) d b pc (evL r L) (.int (I a j) :: evS r st) I :=
  Gd.exts (ivs := [iv]) (xs := [I a j]) (st' := [.inl (g.length, 1, 0)]) (kb' := [((a, j), (g.length, 1, 0))]) (vs := [.int (I a j)]) k h ha hS hP hK rfl
    (fun j i y h1 h2 => by
      cases j with
      | zero => simp at h1 h2; subst h1; subst h2; exact hx
      | succ j => simp at h1)
    (by
      show [Value.int (evI _ (g.length, 1, 0))] = _
      rw [evI_v, show exr r g.length [I a j] g.length = I a j from exr_at (j := 0) rfl])
    (fun e he => by
      rw [List.mem_singleton.mp he]
      show I a j = evI _ (g.length, 1, 0)
      rw [evI_v, show exr r g.length [I a j] g.length = I a j from exr_at (j := 0) rfl])
end Fresh
/-! the heap -/
def Fs (S : List (Nat × Nat × Nat)) (I J : Hi) : Prop := ∀ c j, (S.any (fun q => decide (q.1 = c) && (Nat.ble q.2.1 j && Nat.ble j q.2.2))) = false → J c j = I c j
/-- what the heap's cells hold, what else is known, what may change -/
abbrev Hx : Type := (Nat → Nat → Iv) × (Nat → Bool) × (Nat → Nat → Bool) × List (Nat × Nat × Nat)
def HPof (hx : Hx) (X : Hi → Prop) (I0 : Hi) : Hi → Prop := fun I => (∀ c j, inIv (hx.1 c j) (I c j)) ∧ X I ∧ Fs hx.2.2.2 I0 I
/-- a trivial cell: anything may stand there, nothing else hangs on it -/
def hxOK (hx : Hx) (X : Hi → Prop) : Prop := (∀ c, hx.2.1 c = true → ∀ j, hx.1 c j = ivF ∧ hx.2.2.1 c j = false) ∧ (∀ I c j v, hx.2.2.1 c j = false → X I → X (zup I c j v)) ∧ (∀ I c f, (∀ j, hx.2.2.1 c j = false) → X I → X (zset I c f))
def subI (i j : Iv) : Bool := decide (j.1 ≤ i.1) && decide (i.2 ≤ j.2)
theorem subI_ok {i j : Iv} {x : Int32} (h : subI i j = true) (hx : inIv i x) : inIv j x := by
  simp only [subI, Bool.and_eq_true, decide_eq_true_eq] at h
  unfold inIv at *
  omega
/-- the places lo to hi of the cell c may be written -/
def covS (S : List (Nat × Nat × Nat)) (c : Nat) (lo hi : Int) : Bool := S.any (fun q => decide (q.1 = c) && (decide ((q.2.1 : Int) ≤ lo) && decide (hi ≤ (q.2.2 : Int))))
/-- the places that m times v and c may be, if they are few -/
def cand (g : List Iv) (a : Af) : List Int := if (ivV g a.1).2 - (ivV g a.1).1 ≤ 300 then (List.range (((ivV g a.1).2 - (ivV g a.1).1).toNat + 1)).map (fun (k : Nat) => a.2.1 * ((ivV g a.1).1 + (k : Int)) + a.2.2) else []
theorem cand_ok {r : Nat → Int32} {g : List Iv} {a : Af} (h : Sat r g) (hb : okB (rawI g a) = true) (hd : (ivV g a.1).2 - (ivV g a.1).1 ≤ 300) : (evI r a).toInt ∈ cand g a := by
  obtain ⟨h1, h2⟩ := ivV_ok h a.1
  unfold cand
  rw [if_pos hd, List.mem_map]
  refine ⟨((r a.1).toInt - (ivV g a.1).1).toNat, List.mem_range.mpr (by omega), ?_⟩
  rw [evI_raw h hb]
  congr 2
  omega
def wrO (hx : Hx) (g : List Iv) (c : Nat) (a : Af) (iv : Iv) : Bool :=
  decide (0 ≤ (ivA g a).1) && (covS hx.2.2.2 c (ivA g a).1 (ivA g a).2 && (hx.2.1 c ||
    (if (ivA g a).1 = (ivA g a).2 then subI iv (hx.1 c (ivA g a).1.toNat) && !hx.2.2.1 c (ivA g a).1.toNat
     else (okB (rawI g a) && decide ((ivV g a.1).2 - (ivV g a.1).1 ≤ 300)) && (cand g a).all (fun j => subI iv (hx.1 c j.toNat) && !hx.2.2.1 c j.toNat))))
theorem clampN {x : Int32} : x.toNatClampNeg = x.toInt.toNat := rfl
theorem wr_up {hx : Hx} {X : Hi → Prop} {I0 I : Hi} {r : Nat → Int32} {g : List Iv} {c : Nat} {a : Af} {iv : Iv} {v : Int32} (hO : hxOK hx X) (hS : Sat r g) (h : wrO hx g c a iv = true) (hv : inIv iv v) (hP : HPof hx X I0 I) : HPof hx X I0 (zup I c (evI r a).toNatClampNeg v) := by
  obtain ⟨p1, p2, p3⟩ := hP
  simp only [wrO, Bool.and_eq_true, Bool.or_eq_true, decide_eq_true_eq] at h
  obtain ⟨h0, h1, h2⟩ := h
  have ha := ivA_ok hS a
  unfold inIv at ha
  have key : inIv (hx.1 c (evI r a).toInt.toNat) v ∧ hx.2.2.1 c (evI r a).toInt.toNat = false := by
    rcases h2 with h2 | h2
    · obtain ⟨e1, e2⟩ := hO.1 c h2 (evI r a).toInt.toNat
      exact ⟨by rw [e1]; exact inIv_F v, e2⟩
    · split at h2
      · rename_i e
        have e9 : (evI r a).toInt = (ivA g a).1 := by omega
        rw [e9]
        simp only [Bool.and_eq_true, Bool.not_eq_true'] at h2
        exact ⟨subI_ok h2.1 hv, h2.2⟩
      · simp only [Bool.and_eq_true, decide_eq_true_eq] at h2
        have hm := cand_ok hS h2.1.1 h2.1.2
        have h3 := List.all_eq_true.mp h2.2 _ hm
        simp only [Bool.and_eq_true, Bool.not_eq_true'] at h3
        exact ⟨subI_ok h3.1 hv, h3.2⟩
  rw [clampN]
  refine ⟨fun c' j' => ?_, hO.2.1 _ _ _ _ key.2 p2, fun c' j' hc => ?_⟩
  · by_cases e : c' = c
    · subst e
      show inIv _ ((if c' = c' then upd (I c') _ v else I c') j')
      rw [if_pos rfl]
      by_cases e2 : j' = (evI r a).toInt.toNat
      · subst e2
        simp only [upd]
        simpa using key.1
      · simp only [upd, e2]
        exact p1 c' j'
    · show inIv _ ((if c' = c then upd (I c) _ v else I c') j')
      rw [if_neg e]
      exact p1 c' j'
  · rw [← p3 c' j' hc]
    by_cases e : c' = c
    · subst e
      show (if c' = c' then upd (I c') _ v else I c') j' = _
      rw [if_pos rfl]
      by_cases e2 : j' = (evI r a).toInt.toNat
      · exfalso
        subst e2
        obtain ⟨q, hq, h4⟩ := List.any_eq_true.mp h1
        simp only [Bool.and_eq_true, decide_eq_true_eq] at h4
        have := List.any_eq_false.mp hc q hq
        simp only [Bool.and_eq_true, decide_eq_true_eq, Nat.ble_eq] at this
        exact this ⟨h4.1, by omega, by omega⟩
      · simp only [upd, e2]
        rfl
    · show (if c' = c then upd (I c) _ v else I c') j' = _
      rw [if_neg e]
def kbG (kb : Kb) (c j : Nat) : Option Af := (kb.find? (fun e => decide (e.1.1 = c) && decide (e.1.2 = j))).map (fun e => e.2)
theorem kbG_ok {r : Nat → Int32} {kb : Kb} {I : Hi} {c j : Nat} {a : Af} (h : kbG kb c j = some a) (hK : KbOK r kb I) : I c j = evI r a := by
  unfold kbG at h
  cases e : kb.find? (fun e => decide (e.1.1 = c) && decide (e.1.2 = j)) with
  | none => rw [e] at h; cases h
  | some q =>
    rw [e] at h
    cases h
    have h1 := List.find?_some e
    simp only [Bool.and_eq_true, decide_eq_true_eq] at h1
    have h2 := hK q (List.mem_of_find?_eq_some e)
    rw [h1.1, h1.2] at h2
    exact h2
/-- behind a write of the place a of the cell c -/
def kbW (g : List Iv) (kb : Kb) (c : Nat) (a v : Af) : Kb :=
  if (ivA g a).1 = (ivA g a).2 then ((c, (ivA g a).1.toNat), v) :: kb.filter (fun e => !(decide (e.1.1 = c) && decide (e.1.2 = (ivA g a).1.toNat))) else kb.filter (fun e => !decide (e.1.1 = c))
theorem kbW_ok {r : Nat → Int32} {g : List Iv} {kb : Kb} {I : Hi} {c : Nat} {a v : Af} (hS : Sat r g) (hK : KbOK r kb I) : KbOK r (kbW g kb c a v) (zup I c (evI r a).toNatClampNeg (evI r v)) := by
  have ha := ivA_ok hS a
  unfold inIv at ha
  rw [clampN]
  unfold kbW
  have key : ∀ e ∈ kb, ¬ (e.1.1 = c ∧ e.1.2 = (evI r a).toInt.toNat) → zup I c (evI r a).toInt.toNat (evI r v) e.1.1 e.1.2 = evI r e.2 := by
    intro e he hne
    rw [← hK e he]
    show (if e.1.1 = c then upd (I c) _ _ else I e.1.1) e.1.2 = _
    by_cases e1 : e.1.1 = c
    · rw [if_pos e1, e1]
      have e2 : ¬ e.1.2 = (evI r a).toInt.toNat := fun q => hne ⟨e1, q⟩
      simp only [upd, e2]
      rfl
    · rw [if_neg e1]
  split
  · rename_i e
    have e9 : (ivA g a).1 = (evI r a).toInt := by omega
    rw [e9]
    intro q hq
    rcases List.mem_cons.mp hq with hq | hq
    · subst hq
      show (if c = c then upd (I c) _ _ else I c) _ = _
      rw [if_pos rfl]
      simp [upd]
    · obtain ⟨h1, h2⟩ := List.mem_filter.mp hq
      simp only [Bool.not_eq_true', Bool.and_eq_false_iff, decide_eq_false_iff_not] at h2
      exact key q h1 (fun h3 => h2.elim (fun h4 => h4 h3.1) (fun h4 => h4 h3.2))
  · intro q hq
    obtain ⟨h1, h2⟩ := List.mem_filter.mp hq
    simp only [Bool.not_eq_true', decide_eq_false_iff_not] at h2
    exact key q h1 (fun h3 => h2 h3.1)
end
section
/-! ===== the checker: what one instruction does ===== -/
abbrev Nx : Type := List (Nat × Ast) × List Ed
def ilen : In → Nat
  | .bipush _ => 2
  | .sipush _ => 3
  | .ldc _ => 2
  | .ldc_w _ => 3
  | .iload _ => 2
  | .aload _ => 2
  | .istore _ => 2
  | .astore _ => 2
  | .iinc _ _ => 3
  | .goto _ => 3
  | .ifCond _ _ => 3
  | .if_icmp _ _ => 3
  | .ifnull _ => 3
  | .ifnonnull _ => 3
  | .getfield _ => 3
  | .putfield _ => 3
  | .invokevirtual _ => 3
  | .invokestatic _ => 3
  | .new _ => 3
  | _ => 1
def isSw : In → Bool
  | .tableswitch _ _ _ _ => true
  | .lookupswitch _ _ => true
  | _ => false
/-- a number of the pool: its amount, 1 if it is below 0 -/
def cnI (q : Nat × Nat) : Int := if q.2 = 0 then (q.1 : Int) else -(q.1 : Int)
/-- a method: its name and code, how many it takes (the object too), what it gives (0 nothing, 1 int, 2 boolean), how much it may throw -/
abbrev Mt : Type := Nat → Ym × Nat × Nat × Nat
/-- what is known of an instruction's links -/
def infO (mt : Mt) (Y : Ym) (pc : Nat) (i : In) (info : List (Nat × Nat)) : Prop :=
  match i with
  | .getfield idx => ∀ q ∈ info, zFd Y.1.cls idx q.1 q.2
  | .putfield idx => ∀ q ∈ info, if q.2 < 1000 then zFp Y.1.cls idx q.1 q.2 .int else zFp Y.1.cls idx q.1 (q.2 - 1000) .boolean
  | .invokevirtual idx => ∀ q ∈ info, ∃ C T N, vwCl[q.1]? = some (C, T, N) ∧ (zMv Y.1.cls idx C (mt q.2).1 ((mt q.2).2.1 - 1) ∨ ((mt q.2).2.2.2 = 0 ∧ (zMu Y.1.cls idx C (mt q.2).1 ((mt q.2).2.1 - 1) ∨ ∃ x, zMa Y.1.cls idx C x (mt q.2).1 ((mt q.2).2.1 - 1))))
  | .invokestatic idx => ∀ q ∈ info, if q.1 = 0 then zMs Y.1.cls idx (mt q.2).1 (mt q.2).2.1 else if q.1 = 1 then zMs Y.1.cls idx (Lib.Math.min.name, Lib.Math.min.code, 2, some .int) 2
    else if q.1 = 2 then zMs Y.1.cls idx (Lib.Math.max.name, Lib.Math.max.code, 2, some .int) 2 else if q.1 = 3 then zMs Y.1.cls idx (Lib.Math.abs.name, Lib.Math.abs.code, 1, some .int) 1 else zAc Y.1.cls idx
  | .ldc idx => ∀ q ∈ info, if q.2 = 2 then ∃ tx, (Y.1.cls, idx, tx, q.1) ∈ zSR else Cond.constant Y.1.cls idx (Int32.ofInt (cnI q)) ∈ WA
  | .ldc_w idx => ∀ q ∈ info, Cond.constant Y.1.cls idx (Int32.ofInt (cnI q)) ∈ WA
  | .new _ => ∀ q ∈ info, ∀ (G : Gx) (d b : Nat) (ls : List (Option Value)) (I : Hi) (Q : Rs → Hi → Prop), 1 ≤ b → Q (.inr (zCs.getD q.1 "")) I → Rn G GAM Y (kM G GAM Q) d b pc ls [] I
  | _ => True
def okI (mt : Mt) (Y : Ym) (pc : Nat) (i : In) (info : List (Nat × Nat)) : Prop :=
  (∃ len, decode Y.2.1 pc = .ok (i, len) ∧ (isSw i = true ∨ len = ilen i)) ∧ infO mt Y pc i info
def decB (c : ByteArray) (pc : Nat) (i : In) : Bool := match decode c pc with
  | .ok q => decide (q.1 = i) && (isSw i || Nat.beq q.2 (ilen i))
  | .error _ => false
theorem decB_ok {c : ByteArray} {pc : Nat} {i : In} (h : decB c pc i = true) : ∃ len, decode c pc = .ok (i, len) ∧ (isSw i = true ∨ len = ilen i) := by
  unfold decB at h
  split at h
  · rename_i q e
    simp only [Bool.and_eq_true, Bool.or_eq_true, decide_eq_true_eq] at h
    obtain ⟨h1, h2⟩ := h
    refine ⟨q.2, by rw [e, ← h1], h2.imp id (fun h3 => Nat.eq_of_beq_eq_true h3)⟩
  · cases h
def tgtO (pc : Nat) (off : Int) : Option Nat := if 0 ≤ (pc : Int) + off then some ((pc : Int) + off).toNat else none
theorem tgtO_ok {pc t : Nat} {off : Int} (h : tgtO pc off = some t) : (pc : Int) + off = (t : Int) := by
  unfold tgtO at h
  split at h
  · cases h; omega
  · cases h
def brN (g : Option (List Iv)) (pc : Nat) (L : List (Option SV)) (st : List SV) (kb : Kb) : List (Nat × Ast) :=
  match g with
  | none => []
  | some g' => [(pc, (g', L, st, kb))]
/-- it isn't 0: below, or above -/
def nzN (g : List Iv) (x : Af) (pc : Nat) (L : List (Option SV)) (st : List SV) (kb : Kb) : List (Nat × Ast) :=
  if (ivA g x).1 < 0 ∧ 0 < (ivA g x).2 then brN (refLe g x (0, 0, 0) 1) pc L st kb ++ brN (refLe g (0, 0, 0) x 1) pc L st kb else brN (refNe g x (0, 0, 0)) pc L st kb
def tN (g : List Iv) (x : Af) (pc : Nat) (L : List (Option SV)) (st : List SV) (kb : Kb) : Cc → List (Nat × Ast)
  | .ne => nzN g x pc L st kb
  | c => brN (refT g x (0, 0, 0) c) pc L st kb
def fN (g : List Iv) (x : Af) (pc : Nat) (L : List (Option SV)) (st : List SV) (kb : Kb) : Cc → List (Nat × Ast)
  | .eq => nzN g x pc L st kb
  | c => brN (refF g x (0, 0, 0) c) pc L st kb
/-- a value that is a known sum, or else a new one -/
def puN (n0 pc : Nat) (g : List Iv) (L : List (Option SV)) (st : List SV) (kb : Kb) (z : Option Af) (iv : Iv) : Option Nx :=
  match z with
  | some a => some ([(pc, (g, L, .inl a :: st, kb))], [])
  | none => if frO n0 g L st kb = true then some ([(pc, (g ++ [iv], L, .inl (g.length, 1, 0) :: st, kb))], []) else none
def orE (a b : Option Af) : Option Af := match a with
  | some x => some x
  | none => b
/-- the value of the place a of the cell c -/
def rdN (hx : Hx) (n0 pc : Nat) (g : List Iv) (L : List (Option SV)) (st : List SV) (kb : Kb) (c : Nat) (a : Af) : Option Nx :=
  if (ivA g a).1 = (ivA g a).2 then
    (match kbG kb c (ivA g a).1.toNat with
     | some v => some ([(pc, (g, L, .inl v :: st, kb))], [])
     | none => if frO n0 g L st kb = true then some ([(pc, (g ++ [hx.1 c (ivA g a).1.toNat], L, .inl (g.length, 1, 0) :: st, ((c, (ivA g a).1.toNat), (g.length, 1, 0)) :: kb))], []) else none)
  else if frO n0 g L st kb = true then
    some ([(pc, (g ++ [if hx.2.1 c = true then ivF else if okB (rawI g a) = true ∧ (ivV g a.1).2 - (ivV g a.1).1 ≤ 300 then (cand g a).foldl (fun i j => (min i.1 (hx.1 c j.toNat).1, max i.2 (hx.1 c j.toNat).2)) (2147483647, -2147483648) else ivF], L, .inl (g.length, 1, 0) :: st, kb))], [])
  else none
/-- places lo to hi, each by itself -/
def eaN (pc : Nat) (g : List Iv) (L : List (Option SV)) (st : List SV) (kb : Kb) (a : Af) : Nat → List (Nat × Ast)
  | 0 => []
  | k + 1 => brN (refEq g a (0, 0, (k : Int))) pc L (.inr (some (46 + 4 * k)) :: st) kb ++ eaN pc g L st kb a k
def swN (pc : Nat) (g : List Iv) (L : List (Option SV)) (st : List SV) (kb : Kb) (a : Af) (lo : Int) : List Int → Option (List (Nat × Ast))
  | [] => some []
  | off :: r => match tgtO pc off, swN pc g L st kb a (lo + 1) r with
    | some t, some q => some (brN (refEq g a (0, 0, lo)) t L st kb ++ q)
    | _, _ => none
def lkN (pc : Nat) (g : List Iv) (L : List (Option SV)) (st : List SV) (kb : Kb) (a : Af) : List (Int × Int) → Option (List (Nat × Ast))
  | [] => some []
  | p :: r => match tgtO pc p.2, lkN pc g L st kb a r with
    | some t, some q => some (brN (refEq g a (0, 0, p.1)) t L st kb ++ q)
    | _, _ => none
def st2 (f : Af → Af → List SV → Option Nx) : List SV → Option Nx
  | .inl y :: .inl x :: st => f x y st
  | _ => none
def st1 (f : Af → List SV → Option Nx) : List SV → Option Nx
  | .inl x :: st => f x st
  | _ => none
/-- System.arraycopy of the first n ints, to a trivial cell -/
def acN (hx : Hx) (pc : Nat) (g : List Iv) (L : List (Option SV)) (kb : Kb) : List SV → Option Nx
  | .inl n :: .inl z1 :: .inr (some a) :: .inl z2 :: .inr (some a0) :: st => match GAM[a]?, GAM[a0]? with
    | some (.inr (.int, n1, _)), some (.inr (.int, n2, _)) => if (n.2.1 = 0 ∧ z1.2.1 = 0 ∧ z1.2.2 = 0 ∧ z2.2.1 = 0 ∧ z2.2.2 = 0) ∧ st.length ≤ 8 ∧ (0 ≤ n.2.2 ∧ n.2.2 ≤ (n2 : Int) ∧ n.2.2 ≤ (n1 : Int) ∧ n.2.2 < 100000) ∧ hx.2.1 a = true ∧ covS hx.2.2.2 a 0 n.2.2 = true then some ([(pc, (g, L, st, kb.filter (fun e => !decide (e.1.1 = a))))], []) else none
    | _, _ => none
  | _ => none
def stp (hx : Hx) (n0 mxl ret bud pc : Nat) (i : In) (info : List (Nat × Nat)) (g : List Iv) (L : List (Option SV)) (st : List SV) (kb : Kb) : Option Nx :=
  match i with
  | .iconst n => some ([(pc + 1, (g, L, .inl (0, 0, n) :: st, kb))], [])
  | .bipush n => if -128 ≤ n ∧ n ≤ 127 then some ([(pc + 2, (g, L, .inl (0, 0, n) :: st, kb))], []) else none
  | .sipush n => if -32768 ≤ n ∧ n ≤ 32767 then some ([(pc + 3, (g, L, .inl (0, 0, n) :: st, kb))], []) else none
  | .ldc _ => match info with
    | [q] => if q.2 = 2 then some ([(pc + 2, (g, L, .inr (some q.1) :: st, kb))], []) else some ([(pc + 2, (g, L, .inl (0, 0, cnI q) :: st, kb))], [])
    | _ => none
  | .ldc_w _ => match info with
    | [q] => some ([(pc + 3, (g, L, .inl (0, 0, cnI q) :: st, kb))], [])
    | _ => none
  | .aconst_null => some ([(pc + 1, (g, L, .inr none :: st, kb))], [])
  | .iload k => match L[k]? with
    | some (some (.inl a)) => some ([(pc + 2, (g, L, .inl a :: st, kb))], [])
    | _ => none
  | .iload_n k => match L[(k : Nat)]? with
    | some (some (.inl a)) => some ([(pc + 1, (g, L, .inl a :: st, kb))], [])
    | _ => none
  | .aload k => match L[k]? with
    | some (some (.inr (some a))) => some ([(pc + 2, (g, L, .inr (some a) :: st, kb))], [])
    | _ => none
  | .aload_n k => match L[(k : Nat)]? with
    | some (some (.inr a)) => some ([(pc + 1, (g, L, .inr a :: st, kb))], [])
    | _ => none
  | .istore k => st1 (fun a st => if k < mxl then some ([(pc + 2, (g, L.set k (some (.inl a)), st, kb))], []) else none) st
  | .istore_n k => st1 (fun a st => if (k : Nat) < mxl then some ([(pc + 1, (g, L.set k (some (.inl a)), st, kb))], []) else none) st
  | .astore k => match st with
    | .inr a :: st => if k < mxl then some ([(pc + 2, (g, L.set k (some (.inr a)), st, kb))], []) else none
    | _ => none
  | .astore_n k => match st with
    | .inr a :: st => if (k : Nat) < mxl then some ([(pc + 1, (g, L.set k (some (.inr a)), st, kb))], []) else none
    | _ => none
  | .iinc k n => match L[k]? with
    | some (some (.inl a)) => if k < mxl then some ([(pc + 3, (g, L.set k (some (.inl (a.1, a.2.1, a.2.2 + n))), st, kb))], []) else none
    | _ => none
  | .iadd => st2 (fun x y st => puN n0 (pc + 1) g L st kb (afAdd x y) (ivAdd (ivA g x) (ivA g y))) st
  | .isub => st2 (fun x y st => puN n0 (pc + 1) g L st kb (afAdd x (afNeg y)) (ivSub (ivA g x) (ivA g y))) st
  | .imul => st2 (fun x y st => puN n0 (pc + 1) g L st kb (afMul x y) (ivMul (ivA g x) (ivA g y))) st
  | .ineg => st1 (fun x st => some ([(pc + 1, (g, L, .inl (afNeg x) :: st, kb))], [])) st
  | .iand => st2 (fun x y st => puN n0 (pc + 1) g L st kb (cst2 (fun a b => a &&& b) x y) (ivAnd (ivA g x) (ivA g y))) st
  | .ior => st2 (fun x y st => puN n0 (pc + 1) g L st kb (cst2 (fun a b => a ||| b) x y) (ivOr (ivA g x) (ivA g y))) st
  | .ixor => st2 (fun x y st => puN n0 (pc + 1) g L st kb (cst2 (fun a b => a ^^^ b) x y) ivF) st
  | .ishl => st2 (fun x y st => puN n0 (pc + 1) g L st kb (orE (cst2 (fun a b => a <<< (b &&& 31)) x y) (afShl x y)) (ivShl (ivA g x) (ivA g y))) st
  | .ishr => st2 (fun x y st => puN n0 (pc + 1) g L st kb (cst2 (fun a b => a >>> (b &&& 31)) x y) ivF) st
  | .iushr => st2 (fun x y st => puN n0 (pc + 1) g L st kb none ivF) st
  | .idiv => st2 (fun x y st => if nzI (ivA g y) = true then puN n0 (pc + 1) g L st kb (cst2 (fun a b => a / b) x y) (ivDiv (ivA g x) (ivA g y)) else none) st
  | .irem => st2 (fun x y st => if nzI (ivA g y) = true then puN n0 (pc + 1) g L st kb (cst2 (fun a b => a - a / b * b) x y) (ivRem (ivA g x) (ivA g y)) else none) st
  | .i2b => st1 (fun _ st => puN n0 (pc + 1) g L st kb none (-128, 127)) st
  | .dup => match st with
    | v :: st => some ([(pc + 1, (g, L, v :: v :: st, kb))], [])
    | _ => none
  | .dup2 => match st with
    | v :: w :: st => some ([(pc + 1, (g, L, v :: w :: v :: w :: st, kb))], [])
    | _ => none
  | .pop => match st with
    | _ :: st => some ([(pc + 1, (g, L, st, kb))], [])
    | _ => none
  | .goto off => match tgtO pc off with
    | some t => some ([(t, (g, L, st, kb))], [])
    | none => none
  | .ifCond c off => st1 (fun x st => match tgtO pc off with
    | some t => some (tN g x t L st kb c ++ fN g x (pc + 3) L st kb c, [])
    | none => none) st
  | .if_icmp c off => st2 (fun x y st => match tgtO pc off with
    | some t => some (brN (refT g x y c) t L st kb ++ brN (refF g x y c) (pc + 3) L st kb, [])
    | none => none) st
  | .ifnull off => match st with
    | .inr (some _) :: st => some ([(pc + 3, (g, L, st, kb))], [])
    | .inr none :: st => match tgtO pc off with
      | some t => some ([(t, (g, L, st, kb))], [])
      | none => none
    | _ => none
  | .ifnonnull off => match st with
    | .inr (some _) :: st => match tgtO pc off with
      | some t => some ([(t, (g, L, st, kb))], [])
      | none => none
    | .inr none :: st => some ([(pc + 3, (g, L, st, kb))], [])
    | _ => none
  | .tableswitch df lo hi offs => st1 (fun x st => if (offs.size : Int) = hi - lo + 1 ∧ -2147483648 ≤ lo ∧ hi ≤ 2147483647 ∧ lo ≤ hi then (match tgtO pc df, swN pc g L st kb x lo offs.toList with
    | some t, some q => some (q ++ (brN (refLe g x (0, 0, lo) 1) t L st kb ++ brN (refLe g (0, 0, hi) x 1) t L st kb), [])
    | _, _ => none) else none) st
  | .lookupswitch df ps => st1 (fun x st => if (ps.toList.zip (ps.toList.drop 1)).all (fun (a, next) => a.1 < next.1) = true then (match tgtO pc df, lkN pc g L st kb x ps.toList with
    | some t, some q => some (q ++ [(t, (g, L, st, kb))], [])
    | _, _ => none) else none) st
  | .getfield _ => match st with
    | .inr (some a) :: st => match GAM[a]? with
      | some (.inl q) => match info.find? (fun z => decide (z.1 = q.1)) with
        | some z => match q.2[z.2]? with
          | some none => if z.2 < 1000 then rdN hx n0 (pc + 3) g L st kb a (0, 0, (z.2 : Int)) else none
          | some (some (some w)) => some ([(pc + 3, (g, L, .inr (some w) :: st, kb))], [])
          | _ => none
        | none => none
      | _ => none
    | _ => none
  | .putfield _ => match st with
    | .inl v :: .inr (some a) :: st => match GAM[a]? with
      | some (.inl q) => match info.find? (fun z => decide (z.1 = q.1)) with
        | some z => if z.2 < 1000 then
            (match q.2[z.2]? with
             | some none => if wrO hx g a (0, 0, (z.2 : Int)) (ivA g v) = true then some ([(pc + 3, (g, L, st, kbW g kb a (0, 0, (z.2 : Int)) v))], []) else none
             | _ => none)
          else
            (match q.2[z.2 - 1000]? with
             | some none => if z.2 < 2000 ∧ wrO hx g a (0, 0, ((z.2 - 1000 : Nat) : Int)) (ivA g v) = true ∧ subI (ivA g v) (0, 1) = true then some ([(pc + 3, (g, L, st, kbW g kb a (0, 0, ((z.2 - 1000 : Nat) : Int)) v))], []) else none
             | _ => none)
        | none => none
      | _ => none
    | _ => none
  | .iaload => match st with
    | .inl j :: .inr (some a) :: st => match GAM[a]? with
      | some (.inr (.int, n, _)) => if 0 ≤ (ivA g j).1 ∧ (ivA g j).2 < (n : Int) then rdN hx n0 (pc + 1) g L st kb a j else none
      | _ => none
    | _ => none
  | .baload => match st with
    | .inl j :: .inr (some a) :: st => match GAM[a]? with
      | some (.inr (.byte, n, _)) => if 0 ≤ (ivA g j).1 ∧ (ivA g j).2 < (n : Int) then rdN hx n0 (pc + 1) g L st kb a j else none
      | _ => none
    | _ => none
  | .iastore => match st with
    | .inl v :: .inl j :: .inr (some a) :: st => match GAM[a]? with
      | some (.inr (.int, n, _)) => if (0 ≤ (ivA g j).1 ∧ (ivA g j).2 < (n : Int)) ∧ wrO hx g a j (ivA g v) = true then some ([(pc + 1, (g, L, st, kbW g kb a j v))], []) else none
      | _ => none
    | _ => none
  | .bastore => match st with
    | .inl _ :: .inl j :: .inr (some a) :: st => match GAM[a]? with
      | some (.inr (.byte, n, _)) => if (0 ≤ (ivA g j).1 ∧ (ivA g j).2 < (n : Int)) ∧ wrO hx g a j ivF = true then some ([(pc + 1, (g, L, st, kb.filter (fun e => !decide (e.1.1 = a))))], []) else none
      | _ => none
    | _ => none
  | .aaload => match st with
    | .inl j :: .inr (some a) :: st => if a = 45 ∧ 0 ≤ (ivA g j).1 ∧ (ivA g j).2 < 12 then some (eaN (pc + 1) g L st kb j 12, []) else none
    | _ => none
  | .invokestatic _ => match info with
    | [q] => if q.1 = 1 then st2 (fun x y st => if st.length ≤ 8 then puN n0 (pc + 3) g L st kb (cst2 imin x y) (ivMin (ivA g x) (ivA g y)) else none) st
      else if q.1 = 2 then st2 (fun x y st => if st.length ≤ 8 then puN n0 (pc + 3) g L st kb (cst2 imax x y) (ivMax (ivA g x) (ivA g y)) else none) st
      else if q.1 = 3 then st1 (fun x st => if st.length ≤ 8 then puN n0 (pc + 3) g L st kb none (ivAbs (ivA g x)) else none) st
      else if q.1 = 4 then acN hx (pc + 3) g L kb st else none
    | _ => none
  | .new _ => match info, st with
    | [q], [] => if 1 ≤ bud then some ([], [(g, .inr q.1, kb)]) else none
    | _, _ => none
  | .ireturn => match st with
    | [.inl a] => if ret = 1 ∨ (ret = 2 ∧ subI (ivA g a) (0, 1) = true) then some ([], [(g, .inl (some a), kb)]) else none
    | _ => none
  | .return_ => match st with
    | [] => if ret = 0 then some ([], [(g, .inl none, kb)]) else none
    | _ => none
  | _ => none
end
section
/-! ===== the checker: one step is sound ===== -/
theorem st2_inv {f : Af → Af → List SV → Option Nx} {st : List SV} {n : Nx} (h : st2 f st = some n) : ∃ x y st', st = .inl y :: .inl x :: st' ∧ f x y st' = some n := by
  unfold st2 at h
  split at h
  · exact ⟨_, _, _, rfl, h⟩
  · cases h
theorem st1_inv {f : Af → List SV → Option Nx} {st : List SV} {n : Nx} (h : st1 f st = some n) : ∃ x st', st = .inl x :: st' ∧ f x st' = some n := by
  unfold st1 at h
  split at h
  · exact ⟨_, _, rfl, h⟩
  · cases h
theorem evV_cat (r : Nat → Int32) (v : SV) : (evV r v).category = 1 := by
  cases v with
  | inl a => rfl
  | inr q => cases q <;> rfl
theorem evS_cat (r : Nat → Int32) (st : List SV) : ((evS r st).map fun v => v.category).sum = st.length := by
  induction st with
  | nil => rfl
  | cons a t ih =>
    show (evV r a).category + ((evS r t).map fun v => v.category).sum = t.length + 1
    rw [ih, evV_cat]
    omega
theorem evL_set (r : Nat → Int32) (L : List (Option SV)) (k : Nat) (v : SV) : evL r (L.set k (some v)) = (evL r L).set k (some (evV r v)) := by
  show List.map _ _ = _
  rw [List.map_set]
  rfl
theorem evL_at {r : Nat → Int32} {L : List (Option SV)} {k : Nat} {v : SV} (h : L[k]? = some (some v)) : (evL r L)[k]? = some (some (evV r v)) := by
  show (List.map _ _)[k]? = _
  rw [List.getElem?_map, h]
  rfl
section Sto
variable {G : Gx} {Y : Ym} {Q : Rs → Hi → Prop} {d b n0 pc : Nat} {r0 r : Nat → Int32} {hx : Hx} {X : Hi → Prop} {I0 : Hi} {g : List Iv} {L : List (Option SV)} {st : List SV} {kb : Kb} {I : Hi} {ss : List (Nat × Ast)} {es : List Ed}
theorem Gd.use {s : Ast} (k : ∀ q ∈ [(pc, s)], Gd G Y Q d b n0 r0 (HPof hx X I0) q.1 q.2) (ha : ∀ v, v < n0 → r v = r0 v) (hS : Sat r s.1) (hP : HPof hx X I0 I) (hK : KbOK r s.2.2.2 I) : Rn G GAM Y (kM G GAM Q) d b pc (evL r s.2.1) (evS r s.2.2.1) I :=
  k _ (List.mem_singleton.mpr rfl) r I ha hS hP hK
theorem puN_ok {z : Option Af} {iv : Iv} {x : Int32} (h : puN n0 pc g L st kb z iv = some (ss, es)) (ks : ∀ q ∈ ss, Gd G Y Q d b n0 r0 (HPof hx X I0) q.1 q.2) (ha : ∀ v, v < n0 → r v = r0 v) (hS : Sat r g) (hP : HPof hx X I0 I) (hK : KbOK r kb I) (hz : ∀ a, z = some a → evI r a = x) (hv : inIv iv x) : Rn G GAM Y (kM G GAM Q) d b pc (evL r L) (.int x :: evS r st) I := by
  unfold puN at h
  split at h
  · rename_i a
    cases h
    have := Gd.use ks ha hS hP hK
    have e : evS r (.inl a :: st) = .int x :: evS r st := by
      show Value.int (evI r a) :: _ = _
      rw [hz a rfl]; rfl
    simp only [e] at this
    exact this
  · split at h
    · rename_i hf
      cases h
      exact Gd.fr (ks _ (List.mem_singleton.mpr rfl)) hf ha hS hP hK hv
    · cases h
theorem foldB {B : Nat → Iv} : ∀ (l : List Int) (i : Iv), (l.foldl (fun i j => (min i.1 (B j.toNat).1, max i.2 (B j.toNat).2)) i).1 ≤ i.1 ∧ i.2 ≤ (l.foldl (fun i j => (min i.1 (B j.toNat).1, max i.2 (B j.toNat).2)) i).2 ∧ ∀ j ∈ l, (l.foldl (fun i j => (min i.1 (B j.toNat).1, max i.2 (B j.toNat).2)) i).1 ≤ (B j.toNat).1 ∧ (B j.toNat).2 ≤ (l.foldl (fun i j => (min i.1 (B j.toNat).1, max i.2 (B j.toNat).2)) i).2 := by
  intro l
  induction l with
  | nil => intro i; exact ⟨Int.le_refl _, Int.le_refl _, fun j hj => nomatch hj⟩
  | cons a t ih =>
    intro i
    obtain ⟨h1, h2, h3⟩ := ih (min i.1 (B a.toNat).1, max i.2 (B a.toNat).2)
    simp only [List.foldl_cons]
    simp only at h1 h2
    refine ⟨by omega, by omega, fun j hj => ?_⟩
    rcases List.mem_cons.mp hj with hj | hj
    · subst hj
      exact ⟨by omega, by omega⟩
    · exact h3 j hj
theorem rdN_ok {c : Nat} {a : Af} (hO : hxOK hx X) (h : rdN hx n0 pc g L st kb c a = some (ss, es)) (ks : ∀ q ∈ ss, Gd G Y Q d b n0 r0 (HPof hx X I0) q.1 q.2) (ha : ∀ v, v < n0 → r v = r0 v) (hS : Sat r g) (hP : HPof hx X I0 I) (hK : KbOK r kb I) : Rn G GAM Y (kM G GAM Q) d b pc (evL r L) (.int (I c (evI r a).toNatClampNeg) :: evS r st) I := by
  have hi := ivA_ok hS a
  unfold inIv at hi
  rw [clampN]
  unfold rdN at h
  split at h
  · rename_i e
    have e9 : (evI r a).toInt = (ivA g a).1 := by omega
    rw [e9]
    split at h
    · rename_i v hv
      cases h
      have := Gd.use ks ha hS hP hK
      have e : evS r (.inl v :: st) = .int (I c (ivA g a).1.toNat) :: evS r st := by
        show Value.int (evI r v) :: _ = _
        rw [kbG_ok hv hK]; rfl
      simp only [e] at this
      exact this
    · split at h
      · rename_i hf
        cases h
        exact Gd.frK (ks _ (List.mem_singleton.mpr rfl)) hf ha hS hP hK (hP.1 _ _)
      · cases h
  · split at h
    · rename_i hf
      cases h
      refine Gd.fr (ks _ (List.mem_singleton.mpr rfl)) hf ha hS hP hK ?_
      split
      · exact inIv_F _
      · split
        · rename_i hq
          have hm := cand_ok hS hq.1 hq.2
          have := (foldB (B := hx.1 c) (cand g a) (2147483647, -2147483648)).2.2 _ hm
          have hB := hP.1 c (evI r a).toInt.toNat
          unfold inIv at hB ⊢
          exact ⟨Int.le_trans this.1 hB.1, Int.le_trans hB.2 this.2⟩
        · exact inIv_F _
    · cases h
theorem brN_ok {go : Option (List Iv)} (ks : ∀ q ∈ brN go pc L st kb, Gd G Y Q d b n0 r0 (HPof hx X I0) q.1 q.2) (hg : ∃ g', go = some g' ∧ Sat r g') (ha : ∀ v, v < n0 → r v = r0 v) (hP : HPof hx X I0 I) (hK : KbOK r kb I) : Rn G GAM Y (kM G GAM Q) d b pc (evL r L) (evS r st) I := by
  obtain ⟨g', rfl, hS⟩ := hg
  exact Gd.use (s := (g', L, st, kb)) ks ha hS hP hK
theorem nzN_ok {x : Af} (ks : ∀ q ∈ nzN g x pc L st kb, Gd G Y Q d b n0 r0 (HPof hx X I0) q.1 q.2) (hc : ¬ evI r x = 0) (ha : ∀ v, v < n0 → r v = r0 v) (hS : Sat r g) (hP : HPof hx X I0 I) (hK : KbOK r kb I) : Rn G GAM Y (kM G GAM Q) d b pc (evL r L) (evS r st) I := by
  have e0 : evI r (0, 0, 0) = 0 := by rw [evI_c]; rfl
  have hc2 : (evI r x).toInt ≠ 0 := fun e => hc (Int32.toInt_inj.mp (by rw [e]; rfl))
  unfold nzN at ks
  split at ks
  · by_cases hlt : (evI r x).toInt < 0
    · exact brN_ok (fun q hq => ks q (List.mem_append_left _ hq)) (refLe_ok hS (by rw [e0, Int32.toInt_zero]; omega)) ha hP hK
    · exact brN_ok (fun q hq => ks q (List.mem_append_right _ hq)) (refLe_ok hS (by rw [e0, Int32.toInt_zero]; omega)) ha hP hK
  · exact brN_ok ks (refNe_ok hS (by rw [e0]; exact hc)) ha hP hK
theorem tN_ok {x : Af} {c : Cc} (ks : ∀ q ∈ tN g x pc L st kb c, Gd G Y Q d b n0 r0 (HPof hx X I0) q.1 q.2) (hc : cmpP c (evI r x) 0) (ha : ∀ v, v < n0 → r v = r0 v) (hS : Sat r g) (hP : HPof hx X I0 I) (hK : KbOK r kb I) : Rn G GAM Y (kM G GAM Q) d b pc (evL r L) (evS r st) I := by
  have e0 : evI r (0, 0, 0) = 0 := by rw [evI_c]; rfl
  by_cases e : c = .ne
  · subst e
    exact nzN_ok ks hc ha hS hP hK
  · have : tN g x pc L st kb c = brN (refT g x (0, 0, 0) c) pc L st kb := by cases c <;> first | rfl | exact absurd rfl e
    rw [this] at ks
    exact brN_ok ks (refT_ok hS (by rw [e0]; exact hc)) ha hP hK
theorem fN_ok {x : Af} {c : Cc} (ks : ∀ q ∈ fN g x pc L st kb c, Gd G Y Q d b n0 r0 (HPof hx X I0) q.1 q.2) (hc : ¬ cmpP c (evI r x) 0) (ha : ∀ v, v < n0 → r v = r0 v) (hS : Sat r g) (hP : HPof hx X I0 I) (hK : KbOK r kb I) : Rn G GAM Y (kM G GAM Q) d b pc (evL r L) (evS r st) I := by
  have e0 : evI r (0, 0, 0) = 0 := by rw [evI_c]; rfl
  by_cases e : c = .eq
  · subst e
    exact nzN_ok ks hc ha hS hP hK
  · have : fN g x pc L st kb c = brN (refF g x (0, 0, 0) c) pc L st kb := by cases c <;> first | rfl | exact absurd rfl e
    rw [this] at ks
    exact brN_ok ks (refF_ok hS (by rw [e0]; exact hc)) ha hP hK
theorem Rn.icmpC {kx : Kx} {ls : List (Option Value)} {sv : List Value} {c : Cc} {x y : Int32} {off : Int} {t : Nat} (hd : decode Y.2.1 pc = .ok (.if_icmp c off, 3)) (ht : (pc : Int) + off = (t : Int)) (kt : cmpP c x y → Rn G GAM Y kx d b t ls sv I) (kf : ¬ cmpP c x y → Rn G GAM Y kx d b (pc + 3) ls sv I) : Rn G GAM Y kx d b pc ls (.int y :: .int x :: sv) I := by
  cases c with
  | eq => exact Rn.icmp_eq hd ht kt kf
  | ne => exact Rn.icmp_ne hd ht kt (fun h => kf (fun q => q h))
  | lt => exact Rn.icmp_lt hd ht kt kf
  | ge => exact Rn.icmp_ge hd ht kt kf
  | gt => exact Rn.icmp_gt hd ht kt kf
  | le => exact Rn.icmp_le hd ht kt kf
theorem Rn.ifC {kx : Kx} {ls : List (Option Value)} {sv : List Value} {c : Cc} {x : Int32} {off : Int} {t : Nat} (hd : decode Y.2.1 pc = .ok (.ifCond c off, 3)) (ht : (pc : Int) + off = (t : Int)) (kt : cmpP c x 0 → Rn G GAM Y kx d b t ls sv I) (kf : ¬ cmpP c x 0 → Rn G GAM Y kx d b (pc + 3) ls sv I) : Rn G GAM Y kx d b pc ls (.int x :: sv) I := by
  cases c with
  | eq => exact Rn.if_eq hd ht kt kf
  | ne => exact Rn.if_ne hd ht kt (fun h => kf (fun q => q h))
  | lt => exact Rn.if_lt hd ht kt kf
  | ge => exact Rn.if_ge hd ht kt kf
  | gt => exact Rn.if_gt hd ht kt kf
  | le => exact Rn.if_le hd ht kt kf
theorem vpin {r : Nat → Int32} {g : List Iv} {a : Af} {n : Nat} (hS : Sat r g) (h1 : 0 ≤ (ivA g a).1) (h2 : (ivA g a).2 < (n : Int)) : vp_in (evI r a) n := by
  have hi := ivA_ok hS a
  unfold inIv at hi
  intro h
  rcases h with h | h
  · have := Int32.lt_iff_toInt_lt.mp h
    rw [Int32.toInt_zero] at this
    omega
  · rw [clampN] at h
    omega
theorem eaN_ok {j : Af} : ∀ (k : Nat), (∀ q ∈ eaN pc g L st kb j k, Gd G Y Q d b n0 r0 (HPof hx X I0) q.1 q.2) → (∀ v, v < n0 → r v = r0 v) → Sat r g → HPof hx X I0 I → KbOK r kb I → 0 ≤ (evI r j).toInt → (evI r j).toInt < (k : Int) → Rn G GAM Y (kM G GAM Q) d b pc (evL r L) (.ref (46 + 4 * (evI r j).toInt.toNat) :: evS r st) I := by
  intro k
  induction k with
  | zero => intro _ _ _ _ _ h1 h2; omega
  | succ k ih =>
    intro ks ha hS hP hK h1 h2
    by_cases e : (evI r j).toInt = (k : Int)
    · have hk : (evI r j).toInt.toNat = k := by omega
      rw [hk]
      have e2 : evI r j = evI r (0, 0, (k : Int)) := by
        rw [evI_c]
        apply Int32.toInt_inj.mp
        have := Int32.toInt_lt (evI r j)
        rw [toI_of (by omega) (by omega)]
        exact e
      exact brN_ok (st := .inr (some (46 + 4 * k)) :: st) (fun q hq => ks q (List.mem_append_left _ hq)) (refEq_ok hS e2) ha hP hK
    · exact ih (fun q hq => ks q (List.mem_append_right _ hq)) ha hS hP hK h1 (by omega)
theorem swN_ok {x : Af} {offs : List Int} : ∀ {lo : Int} {q : List (Nat × Ast)}, swN pc g L st kb x lo offs = some q → (∀ z ∈ q, Gd G Y Q d b n0 r0 (HPof hx X I0) z.1 z.2) → (∀ v, v < n0 → r v = r0 v) → Sat r g → HPof hx X I0 I → KbOK r kb I → lo ≤ (evI r x).toInt → ∀ off, offs[((evI r x).toInt - lo).toNat]? = some off → ∃ t : Nat, (pc : Int) + off = (t : Int) ∧ Rn G GAM Y (kM G GAM Q) d b t (evL r L) (evS r st) I := by
  induction offs with
  | nil => intro lo q _ _ _ _ _ _ _ off ho; simp at ho
  | cons o t ih =>
    intro lo q h ks ha hS hP hK hlo off ho
    unfold swN at h
    split at h
    · rename_i t' q' e1 e2
      cases h
      by_cases e : (evI r x).toInt = lo
      · rw [e] at ho
        simp at ho
        subst ho
        refine ⟨t', tgtO_ok e1, ?_⟩
        have e3 : evI r x = evI r (0, 0, lo) := by
          rw [evI_c, ← e, Int32.ofInt_toInt]
        exact brN_ok (fun z hz => ks z (List.mem_append_left _ hz)) (refEq_ok hS e3) ha hP hK
      · refine ih e2 (fun z hz => ks z (List.mem_append_right _ hz)) ha hS hP hK (by omega) off ?_
        rw [show ((evI r x).toInt - lo).toNat = ((evI r x).toInt - (lo + 1)).toNat + 1 by omega] at ho
        simpa using ho
    · cases h
theorem lkN_ok {x : Af} {ps : List (Int × Int)} {df : Int} {t0 : Nat} (h0 : (pc : Int) + df = (t0 : Int)) (k0 : Rn G GAM Y (kM G GAM Q) d b t0 (evL r L) (evS r st) I) : ∀ {q : List (Nat × Ast)}, lkN pc g L st kb x ps = some q → (∀ z ∈ q, Gd G Y Q d b n0 r0 (HPof hx X I0) z.1 z.2) → (∀ v, v < n0 → r v = r0 v) → Sat r g → HPof hx X I0 I → KbOK r kb I → ∃ t : Nat, (pc : Int) + Op.lookupswitch.offset ps df (evI r x).toInt = (t : Int) ∧ Rn G GAM Y (kM G GAM Q) d b t (evL r L) (evS r st) I := by
  induction ps with
  | nil => intro q _ _ _ _ _ _; exact ⟨t0, h0, k0⟩
  | cons p ps ih =>
    obtain ⟨a, o⟩ := p
    intro q h ks ha hS hP hK
    unfold lkN at h
    split at h
    · rename_i t' q' e1 e2
      cases h
      rw [Op.lookupswitch.offset_cons]
      by_cases e : a = (evI r x).toInt
      · rw [if_pos e]
        refine ⟨t', tgtO_ok e1, ?_⟩
        have e3 : evI r x = evI r (0, 0, a) := by
          rw [evI_c, e, Int32.ofInt_toInt]
        exact brN_ok (fun z hz => ks z (List.mem_append_left _ hz)) (refEq_ok hS e3) ha hP hK
      · rw [if_neg e]
        exact ih e2 (fun z hz => ks z (List.mem_append_right _ hz)) ha hS hP hK
    · cases h
theorem bool_of {x : Int32} (h : inIv (0, 1) x) : x = 0 ∨ x = 1 := by
  unfold inIv at h
  simp only at h
  have : x.toInt = 0 ∨ x.toInt = 1 := by omega
  rcases this with e | e
  · exact Or.inl (Int32.toInt_inj.mp (by rw [e]; rfl))
  · exact Or.inr (Int32.toInt_inj.mp (by rw [e]; rfl))
/-- the trivial cell c gets new numbers -/
theorem HP_set {c : Nat} {f : Nat → Int32} {n : Int} (hO : hxOK hx X) (ht : hx.2.1 c = true) (hc : covS hx.2.2.2 c 0 n = true) (hf : ∀ j : Nat, n ≤ (j : Int) → f j = I c j) (hP : HPof hx X I0 I) : HPof hx X I0 (zset I c f) := by
  obtain ⟨p1, p2, p3⟩ := hP
  refine ⟨fun c' j => ?_, hO.2.2 _ _ _ (fun j => (hO.1 c ht j).2) p2, fun c' j hj => ?_⟩
  · by_cases e : c' = c
    · subst e
      rw [(hO.1 c' ht j).1]
      exact inIv_F _
    · show inIv _ ((if c' = c then f else I c') j)
      rw [if_neg e]
      exact p1 c' j
  · rw [← p3 c' j hj]
    by_cases e : c' = c
    · subst e
      show (if c' = c' then f else I c') j = _
      rw [if_pos rfl]
      refine hf j ?_
      obtain ⟨q, hq, h4⟩ := List.any_eq_true.mp hc
      simp only [Bool.and_eq_true, decide_eq_true_eq] at h4
      have := List.any_eq_false.mp hj q hq
      simp only [Bool.and_eq_true, decide_eq_true_eq, Nat.ble_eq] at this
      false_or_by_contra
      exact this ⟨h4.1, by omega, by omega⟩
    · show (if c' = c then f else I c') j = _
      rw [if_neg e]
theorem kbF_ok {c : Nat} {J : Hi} (hJ : ∀ c', c' ≠ c → J c' = I c') (hK : KbOK r kb I) : KbOK r (kb.filter (fun e => !decide (e.1.1 = c))) J := by
  intro e he
  obtain ⟨h1, h2⟩ := List.mem_filter.mp he
  simp only [Bool.not_eq_true', decide_eq_false_iff_not] at h2
  rw [hJ _ h2]
  exact hK e h1
end Sto
end
section
/-! ===== the checker: one step is sound, all instructions ===== -/
def retO (ret : Nat) (t : Option FieldType) : Prop := (ret = 0 → t = none) ∧ (ret = 1 → t = some .int) ∧ (ret = 2 → t = some .boolean)
section Stk
variable {G : Gx} {Y : Ym} {Q : Rs → Hi → Prop} {d bud n0 pc mxl ret : Nat} {r0 : Nat → Int32} {hx : Hx} {X : Hi → Prop} {I0 : Hi} {g : List Iv} {L : List (Option SV)} {st : List SV} {kb : Kb} {ss : List (Nat × Ast)} {es : List Ed} {mt : Mt} {i : In} {info : List (Nat × Nat)}
theorem Rn.ifnullN {kx : Kx} {ls : List (Option Value)} {sv : List Value} {I : Hi} {b : Nat} {off : Int} (tgt : Nat) (hd : decode Y.2.1 pc = .ok (.ifnull off, 3)) (ht : (pc : Int) + off = (tgt : Int)) (k : Rn G GAM Y kx d b tgt ls sv I) : Rn G GAM Y kx d b pc ls (.null :: sv) I := by
  intro p e R s m args below meth c H locs cells slots tc ts Z F hk lsA hl
  exact lv_ifnullN F.1.1 F.1.2.1 hd ht (k p e R s m args below meth c H locs cells slots tc ts Z F hk lsA hl)
theorem Rn.ifnonnullN {kx : Kx} {ls : List (Option Value)} {sv : List Value} {I : Hi} {b : Nat} {off : Int} (hd : decode Y.2.1 pc = .ok (.ifnonnull off, 3)) (k : Rn G GAM Y kx d b (pc + 3) ls sv I) : Rn G GAM Y kx d b pc ls (.null :: sv) I := by
  intro p e R s m args below meth c H locs cells slots tc ts Z F hk lsA hl
  exact lv_ifnonnullN F.1.1 F.1.2.1 hd (k p e R s m args below meth c H locs cells slots tc ts Z F hk lsA hl)
theorem acN_ok {r : Nat → Int32} {I : Hi} {b idx : Nat} (hO : hxOK hx X) (hd : decode Y.2.1 pc = .ok (.invokestatic idx, 3)) (hA : zAc Y.1.cls idx) (h : acN hx (pc + 3) g L kb st = some (ss, es)) (ks : ∀ q ∈ ss, Gd G Y Q d b n0 r0 (HPof hx X I0) q.1 q.2) (ha : ∀ v, v < n0 → r v = r0 v) (hS : Sat r g) (hP : HPof hx X I0 I) (hK : KbOK r kb I) : Rn G GAM Y (kM G GAM Q) d b pc (evL r L) (evS r st) I := by
  unfold acN at h
  split at h
  · rename_i n z1 a z2 a0 st'
    split at h
    · rename_i n1 f1 n2 f2 hG hG0
      split at h
      · rename_i hn
        obtain ⟨⟨c1, c2, c3, c4, c5⟩, c6, ⟨c7, c8, c9, c10⟩, c11, c12⟩ := hn
        cases h
        have e1 : evI r n = nI n.2.2.toNat := by
          unfold evI
          rw [c1, Int.zero_mul, Int.zero_add]
          show _ = Int32.ofNat _
          rw [← Int32.ofInt_eq_ofNat, Int.toNat_of_nonneg c7]
        have e2 : evI r z1 = nI 0 := by
          unfold evI
          rw [c2, c3, Int.zero_mul]; rfl
        have e3 : evI r z2 = nI 0 := by
          unfold evI
          rw [c4, c5, Int.zero_mul]; rfl
        show Rn G GAM Y (kM G GAM Q) d b pc (evL r L) (.int (evI r n) :: .int (evI r z1) :: .ref a :: .int (evI r z2) :: .ref a0 :: evS r st') I
        rw [e1, e2, e3]
        refine Rn.acopy hd hA hG0 hG (by omega) (by omega) (by omega) (by rw [evS_cat]; exact c6) ?_
        refine Gd.use ks ha hS (HP_set hO c11 c12 (fun j hj => ?_) hP) (kbF_ok (fun c' hc => by show (if c' = _ then _ else _) = _; rw [if_neg hc]) hK)
        unfold va_cpy
        rw [if_neg (by omega)]
      · cases h
    · cases h
  · cases h
set_option maxHeartbeats 4000000 in
theorem stp_ok (hO : hxOK hx X) (hI : okI mt Y pc i info) (hm : mxl = Y.2.2.1) (hr : retO ret Y.2.2.2) (h : stp hx n0 mxl ret bud pc i info g L st kb = some (ss, es)) (ks : ∀ q ∈ ss, Gd G Y Q d bud n0 r0 (HPof hx X I0) q.1 q.2) (ke : ∀ e ∈ es, Ge Q n0 r0 (HPof hx X I0) e) : Gd G Y Q d bud n0 r0 (HPof hx X I0) pc (g, L, st, kb) := by
  subst hm
  intro r I ha hS0 hP hK0
  obtain ⟨⟨len, hd, hl⟩, hi⟩ := hI
  have hS : Sat r g := hS0
  have hK : KbOK r kb I := hK0
  clear hS0 hK0
  show Rn G GAM Y (kM G GAM Q) d bud pc (evL r L) (evS r st) I
  unfold stp at h
  split at h
  · -- iconst
    obtain rfl : len = 1 := hl.resolve_left Bool.false_ne_true
    cases h
    exact Rn.iconst hd (evI_c r 0 _).symm (Gd.use ks ha hS hP hK)
  · obtain rfl : len = 2 := hl.resolve_left Bool.false_ne_true
    split at h
    · rename_i hn
      cases h
      exact Rn.bipush hd ((bip_ok hn.1 hn.2).trans (evI_c r 0 _).symm) (Gd.use ks ha hS hP hK)
    · cases h
  · obtain rfl : len = 3 := hl.resolve_left Bool.false_ne_true
    split at h
    · rename_i hn
      cases h
      exact Rn.sipush hd ((sip_ok hn.1 hn.2).trans (evI_c r 0 _).symm) (Gd.use ks ha hS hP hK)
    · cases h
  · -- ldc
    obtain rfl : len = 2 := hl.resolve_left Bool.false_ne_true
    split at h
    · rename_i q
      have hi := hi q (List.mem_singleton.mpr rfl)
      split at h
      · rename_i e
        rw [if_pos e] at hi
        obtain ⟨tx, hi⟩ := hi
        cases h
        exact Rn.ldcS hd hi (Gd.use ks ha hS hP hK)
      · rename_i e
        rw [if_neg e] at hi
        cases h
        exact Rn.ldc hd (by rw [evI_c]; exact hi) (Gd.use ks ha hS hP hK)
    · cases h
  · obtain rfl : len = 3 := hl.resolve_left Bool.false_ne_true
    split at h
    · rename_i q
      cases h
      exact Rn.ldc_w hd (by rw [evI_c]; exact hi q (List.mem_singleton.mpr rfl)) (Gd.use ks ha hS hP hK)
    · cases h
  · obtain rfl : len = 1 := hl.resolve_left Bool.false_ne_true
    cases h
    exact Rn.aconst_null hd (Gd.use ks ha hS hP hK)
  · -- iload
    obtain rfl : len = 2 := hl.resolve_left Bool.false_ne_true
    split at h
    · rename_i a e
      cases h
      exact Rn.iload hd (evL_at e) (Gd.use ks ha hS hP hK)
    · cases h
  · obtain rfl : len = 1 := hl.resolve_left Bool.false_ne_true
    split at h
    · rename_i a e
      cases h
      exact Rn.iload_n hd rfl (evL_at e) (Gd.use ks ha hS hP hK)
    · cases h
  · obtain rfl : len = 2 := hl.resolve_left Bool.false_ne_true
    split at h
    · rename_i a e
      cases h
      exact Rn.aload hd (evL_at e) (Gd.use ks ha hS hP hK)
    · cases h
  · obtain rfl : len = 1 := hl.resolve_left Bool.false_ne_true
    split at h
    · rename_i a e
      cases h
      cases a with
      | none => exact Rn.aload_nN hd rfl (evL_at e) (Gd.use ks ha hS hP hK)
      | some a => exact Rn.aload_n hd rfl (evL_at e) (Gd.use ks ha hS hP hK)
    · cases h
  · -- istore
    obtain rfl : len = 2 := hl.resolve_left Bool.false_ne_true
    obtain ⟨a, st', e0, h9⟩ := st1_inv h
    clear h
    subst e0
    have h := h9
    clear h9
    split at h
    · rename_i hn
      cases h
      exact Rn.istore hd hn (by have := Gd.use ks ha hS hP hK; simp only [evL_set] at this; exact this)
    · cases h
  · obtain rfl : len = 1 := hl.resolve_left Bool.false_ne_true
    obtain ⟨a, st', e0, h9⟩ := st1_inv h
    clear h
    subst e0
    have h := h9
    clear h9
    split at h
    · rename_i hn
      cases h
      exact Rn.istore_n hd rfl hn (by have := Gd.use ks ha hS hP hK; simp only [evL_set] at this; exact this)
    · cases h
  · -- astore
    obtain rfl : len = 2 := hl.resolve_left Bool.false_ne_true
    split at h
    · rename_i a st'
      split at h
      · rename_i hn
        cases h
        cases a with
        | none => exact Rn.astoreN hd hn (by have := Gd.use ks ha hS hP hK; simp only [evL_set] at this; exact this)
        | some a => exact Rn.astore hd hn (by have := Gd.use ks ha hS hP hK; simp only [evL_set] at this; exact this)
      · cases h
    · cases h
  · obtain rfl : len = 1 := hl.resolve_left Bool.false_ne_true
    split at h
    · rename_i a st'
      split at h
      · rename_i hn
        cases h
        cases a with
        | none => exact Rn.astore_nN hd rfl hn (by have := Gd.use ks ha hS hP hK; simp only [evL_set] at this; exact this)
        | some a => exact Rn.astore_n hd rfl hn (by have := Gd.use ks ha hS hP hK; simp only [evL_set] at this; exact this)
      · cases h
    · cases h
  · -- iinc
    obtain rfl : len = 3 := hl.resolve_left Bool.false_ne_true
    split at h
    · rename_i a e
      split at h
      · rename_i hn
        cases h
        refine Rn.iinc hd (evL_at e) ?_ hn (by have := Gd.use ks ha hS hP hK; simp only [evL_set] at this; exact this)
        unfold evI
        rw [← Int32.ofInt_add, Int.add_assoc]
      · cases h
    · cases h
  · -- iadd
    obtain rfl : len = 1 := hl.resolve_left Bool.false_ne_true
    obtain ⟨x, y, st', e0, h9⟩ := st2_inv h
    clear h
    subst e0
    have h := h9
    clear h9
    exact Rn.iadd hd (puN_ok h ks ha hS hP hK (fun a e => afAdd_ok e) (ivAdd_ok (ivA_ok hS _) (ivA_ok hS _)))
  · obtain rfl : len = 1 := hl.resolve_left Bool.false_ne_true
    obtain ⟨x, y, st', e0, h9⟩ := st2_inv h
    clear h
    subst e0
    have h := h9
    clear h9
    exact Rn.isub hd (puN_ok h ks ha hS hP hK (fun a e => afSub_ok e) (ivSub_ok (ivA_ok hS _) (ivA_ok hS _)))
  · obtain rfl : len = 1 := hl.resolve_left Bool.false_ne_true
    obtain ⟨x, y, st', e0, h9⟩ := st2_inv h
    clear h
    subst e0
    have h := h9
    clear h9
    exact Rn.imul hd (puN_ok h ks ha hS hP hK (fun a e => afMul_ok e) (ivMul_ok (ivA_ok hS _) (ivA_ok hS _)))
  · -- ineg
    obtain rfl : len = 1 := hl.resolve_left Bool.false_ne_true
    obtain ⟨x, st', e0, h9⟩ := st1_inv h
    clear h
    subst e0
    have h := h9
    clear h9
    cases h
    refine Rn.ineg hd ?_
    rw [← afNeg_ok]
    exact Gd.use ks ha hS hP hK
  · obtain rfl : len = 1 := hl.resolve_left Bool.false_ne_true
    obtain ⟨x, y, st', e0, h9⟩ := st2_inv h
    clear h
    subst e0
    have h := h9
    clear h9
    exact Rn.iand hd (puN_ok h ks ha hS hP hK (fun a e => cst2_ok e) (ivAnd_ok (ivA_ok hS _) (ivA_ok hS _)))
  · obtain rfl : len = 1 := hl.resolve_left Bool.false_ne_true
    obtain ⟨x, y, st', e0, h9⟩ := st2_inv h
    clear h
    subst e0
    have h := h9
    clear h9
    exact Rn.ior hd (puN_ok h ks ha hS hP hK (fun a e => cst2_ok e) (ivOr_ok (ivA_ok hS _) (ivA_ok hS _)))
  · obtain rfl : len = 1 := hl.resolve_left Bool.false_ne_true
    obtain ⟨x, y, st', e0, h9⟩ := st2_inv h
    clear h
    subst e0
    have h := h9
    clear h9
    exact Rn.ixor hd (puN_ok h ks ha hS hP hK (fun a e => cst2_ok e) (inIv_F _))
  · -- ishl
    obtain rfl : len = 1 := hl.resolve_left Bool.false_ne_true
    obtain ⟨x, y, st', e0, h9⟩ := st2_inv h
    clear h
    subst e0
    have h := h9
    clear h9
    refine Rn.ishl hd (puN_ok h ks ha hS hP hK (fun a e => ?_) (ivShl_ok (ivA_ok hS _) (ivA_ok hS _)))
    unfold orE at e
    split at e
    · rename_i e2
      cases e
      exact cst2_ok e2
    · exact afShl_ok e
  · obtain rfl : len = 1 := hl.resolve_left Bool.false_ne_true
    obtain ⟨x, y, st', e0, h9⟩ := st2_inv h
    clear h
    subst e0
    have h := h9
    clear h9
    exact Rn.ishr hd (puN_ok h ks ha hS hP hK (fun a e => cst2_ok e) (inIv_F _))
  · obtain rfl : len = 1 := hl.resolve_left Bool.false_ne_true
    obtain ⟨x, y, st', e0, h9⟩ := st2_inv h
    clear h
    subst e0
    have h := h9
    clear h9
    exact Rn.iushr hd (puN_ok h ks ha hS hP hK (fun a e => nomatch e) (inIv_F _))
  · -- idiv
    obtain rfl : len = 1 := hl.resolve_left Bool.false_ne_true
    obtain ⟨x, y, st', e0, h9⟩ := st2_inv h
    clear h
    subst e0
    have h := h9
    clear h9
    split at h
    · rename_i hn
      exact Rn.idiv hd (nzI_ok (ivA_ok hS _) hn) (puN_ok h ks ha hS hP hK (fun a e => cst2_ok e) (ivDiv_ok (ivA_ok hS _) (ivA_ok hS _)))
    · cases h
  · obtain rfl : len = 1 := hl.resolve_left Bool.false_ne_true
    obtain ⟨x, y, st', e0, h9⟩ := st2_inv h
    clear h
    subst e0
    have h := h9
    clear h9
    split at h
    · rename_i hn
      exact Rn.irem hd (nzI_ok (ivA_ok hS _) hn) (puN_ok h ks ha hS hP hK (fun a e => cst2_ok (f := fun a b => a - a / b * b) e) (ivRem_ok (ivA_ok hS _) (ivA_ok hS _)))
    · cases h
  · -- i2b
    obtain rfl : len = 1 := hl.resolve_left Bool.false_ne_true
    obtain ⟨x, st', e0, h9⟩ := st1_inv h
    clear h
    subst e0
    have h := h9
    clear h9
    exact Rn.i2b hd (puN_ok h ks ha hS hP hK (fun a e => nomatch e) (i2b_ok _))
  · -- dup
    obtain rfl : len = 1 := hl.resolve_left Bool.false_ne_true
    split at h
    · cases h
      exact Rn.dup hd (evV_cat r _) (Gd.use ks ha hS hP hK)
    · cases h
  · obtain rfl : len = 1 := hl.resolve_left Bool.false_ne_true
    split at h
    · cases h
      exact Rn.dup2 hd (evV_cat r _) (evV_cat r _) (Gd.use ks ha hS hP hK)
    · cases h
  · obtain rfl : len = 1 := hl.resolve_left Bool.false_ne_true
    split at h
    · cases h
      exact Rn.pop hd (evV_cat r _) (Gd.use ks ha hS hP hK)
    · cases h
  · -- goto
    obtain rfl : len = 3 := hl.resolve_left Bool.false_ne_true
    split at h
    · rename_i t e
      cases h
      exact Rn.goto t hd (tgtO_ok e) (Gd.use ks ha hS hP hK)
    · cases h
  · -- ifCond
    obtain rfl : len = 3 := hl.resolve_left Bool.false_ne_true
    obtain ⟨x, st', e0, h9⟩ := st1_inv h
    clear h
    subst e0
    have h := h9
    clear h9
    split at h
    · rename_i t e
      cases h
      exact Rn.ifC hd (tgtO_ok e) (fun hc => tN_ok (fun q hq => ks q (List.mem_append_left _ hq)) hc ha hS hP hK) (fun hc => fN_ok (fun q hq => ks q (List.mem_append_right _ hq)) hc ha hS hP hK)
    · cases h
  · obtain rfl : len = 3 := hl.resolve_left Bool.false_ne_true
    obtain ⟨x, y, st', e0, h9⟩ := st2_inv h
    clear h
    subst e0
    have h := h9
    clear h9
    split at h
    · rename_i t e
      cases h
      exact Rn.icmpC hd (tgtO_ok e) (fun hc => brN_ok (fun q hq => ks q (List.mem_append_left _ hq)) (refT_ok hS hc) ha hP hK) (fun hc => brN_ok (fun q hq => ks q (List.mem_append_right _ hq)) (refF_ok hS hc) ha hP hK)
    · cases h
  · -- ifnull
    obtain rfl : len = 3 := hl.resolve_left Bool.false_ne_true
    split at h
    · cases h
      exact Rn.ifnull hd (Gd.use ks ha hS hP hK)
    · split at h
      · rename_i t e
        cases h
        exact Rn.ifnullN t hd (tgtO_ok e) (Gd.use ks ha hS hP hK)
      · cases h
    · cases h
  · obtain rfl : len = 3 := hl.resolve_left Bool.false_ne_true
    split at h
    · split at h
      · rename_i t e
        cases h
        exact Rn.ifnonnull t hd (tgtO_ok e) (Gd.use ks ha hS hP hK)
      · cases h
    · cases h
      exact Rn.ifnonnullN hd (Gd.use ks ha hS hP hK)
    · cases h
  · -- tableswitch
    rename_i df lo ho offs
    obtain ⟨x, st', e0, h9⟩ := st1_inv h
    clear h
    subst e0
    have h := h9
    clear h9
    split at h
    · rename_i hz
      split at h
      · rename_i t q e1 e2
        cases h
        by_cases hlo : (evI r x).toInt < lo
        · refine Rn.tableOut t hd (Or.inl hlo) (tgtO_ok e1) (brN_ok (fun z hz => ks z (List.mem_append_right _ (List.mem_append_left _ hz))) (refLe_ok hS ?_) ha hP hK)
          rw [evI_c]
          rw [toI_of (by omega) (by omega)]; omega
        · by_cases hhi : ho < (evI r x).toInt
          · refine Rn.tableOut t hd (Or.inr hhi) (tgtO_ok e1) (brN_ok (fun z hz => ks z (List.mem_append_right _ (List.mem_append_right _ hz))) (refLe_ok hS ?_) ha hP hK)
            rw [evI_c, toI_of (by omega) (by omega)]; omega
          · have hlt : ((evI r x).toInt - lo).toNat < offs.toList.length := by
              rw [Array.length_toList]; omega
            obtain ⟨t2, h2, k2⟩ := swN_ok e2 (fun z hz => ks z (List.mem_append_left _ hz)) ha hS hP hK (Int.not_lt.mp hlo) _ (List.getElem?_eq_getElem hlt)
            exact Rn.tableIn t2 hd hlo hhi (by rw [← Array.getElem?_toList]; exact List.getElem?_eq_getElem hlt) h2 k2
      · cases h
    · cases h
  · -- lookupswitch
    obtain ⟨x, st', e0, h9⟩ := st1_inv h
    clear h
    subst e0
    have h := h9
    clear h9
    split at h
    · rename_i hz
      split at h
      · rename_i t q e1 e2
        cases h
        obtain ⟨t2, h2, k2⟩ := lkN_ok (tgtO_ok e1) (Gd.use (s := (g, L, st', kb)) (fun z hz => ks z (List.mem_append_right _ hz)) ha hS hP hK) e2 (fun z hz => ks z (List.mem_append_left _ hz)) ha hS hP hK
        exact Rn.lookup t2 hd hz rfl h2 k2
      · cases h
    · cases h
  · -- getfield
    obtain rfl : len = 3 := hl.resolve_left Bool.false_ne_true
    split at h
    · split at h
      · rename_i a st' q hG
        split at h
        · rename_i z hz
          have hz1 := List.find?_some hz
          simp only [decide_eq_true_eq] at hz1
          have hF := hi z (List.mem_of_find?_eq_some hz)
          rw [hz1] at hF
          split at h
          · rename_i hj
            split at h
            · rename_i hk
              refine Rn.getI hd hF hG hj ?_
              have e0 : (evI r (0, 0, (z.2 : Int))).toNatClampNeg = z.2 := by
                rw [evI_c, clampN, toI_of (by omega) (by omega)]; omega
              have := rdN_ok (a := (0, 0, (z.2 : Int))) hO h ks ha hS hP hK
              rw [e0] at this
              exact this
            · cases h
          · rename_i w hj
            cases h
            exact Rn.getR hd hF hG hj (Gd.use ks ha hS hP hK)
          · cases h
        · cases h
      · cases h
    · cases h
  · -- putfield
    obtain rfl : len = 3 := hl.resolve_left Bool.false_ne_true
    split at h
    · rename_i v a st'
      split at h
      · rename_i q hG
        split at h
        · rename_i z hz
          have hz1 := List.find?_some hz
          simp only [decide_eq_true_eq] at hz1
          have hF := hi z (List.mem_of_find?_eq_some hz)
          rw [hz1] at hF
          split at h
          · rename_i hk
            rw [if_pos hk] at hF
            split at h
            · rename_i hj
              split at h
              · rename_i hw
                cases h
                have e0 : (evI r (0, 0, (z.2 : Int))).toNatClampNeg = z.2 := by
                  rw [evI_c, clampN, toI_of (by omega) (by omega)]; omega
                refine Rn.putI hd hF hG hj ?_
                have k1 := wr_up hO hS hw (ivA_ok hS v) hP
                have k2 := kbW_ok (c := a) (a := (0, 0, (z.2 : Int))) (v := v) hS hK
                rw [e0] at k1 k2
                exact Gd.use ks ha hS k1 k2
              · cases h
            · cases h
          · rename_i hk
            rw [if_neg hk] at hF
            split at h
            · rename_i hj
              split at h
              · rename_i hw
                cases h
                obtain ⟨hk2, hw⟩ := hw
                have hk3 : z.2 - 1000 < 1000 := by omega
                generalize z.2 - 1000 = w at hF hj hw ks hk3
                have e0 : (evI r (0, 0, (w : Int))).toNatClampNeg = w := by
                  rw [evI_c, clampN, toI_of (by omega) (by omega)]; omega
                refine Rn.put hd hF hG hj ?_ ?_
                · rcases bool_of (subI_ok hw.2 (ivA_ok hS v)) with e | e <;> rw [e] <;> exact ⟨rfl, rfl⟩
                have k1 := wr_up hO hS hw.1 (ivA_ok hS v) hP
                have k2 := kbW_ok (c := a) (a := (0, 0, (w : Int))) (v := v) hS hK
                rw [e0] at k1 k2
                exact Gd.use ks ha hS k1 k2
              · cases h
            · cases h
        · cases h
      · cases h
    · cases h
  · -- iaload
    obtain rfl : len = 1 := hl.resolve_left Bool.false_ne_true
    split at h
    · split at h
      · rename_i j a st' n f hG
        split at h
        · rename_i hn
          exact Rn.iald hd hG (vpin hS hn.1 hn.2) (rdN_ok hO h ks ha hS hP hK)
        · cases h
      · cases h
    · cases h
  · -- baload
    obtain rfl : len = 1 := hl.resolve_left Bool.false_ne_true
    split at h
    · split at h
      · rename_i j a st' n f hG
        split at h
        · rename_i hn
          exact Rn.bald hd hG (vpin hS hn.1 hn.2) (rdN_ok hO h ks ha hS hP hK)
        · cases h
      · cases h
    · cases h
  · -- iastore
    obtain rfl : len = 1 := hl.resolve_left Bool.false_ne_true
    split at h
    · rename_i v j a st'
      split at h
      · rename_i n f hG
        split at h
        · rename_i hn
          cases h
          exact Rn.iast hd hG (vpin hS hn.1.1 hn.1.2) (Gd.use ks ha hS (wr_up hO hS hn.2 (ivA_ok hS v) hP) (kbW_ok hS hK))
        · cases h
      · cases h
    · cases h
  · -- bastore
    obtain rfl : len = 1 := hl.resolve_left Bool.false_ne_true
    split at h
    · rename_i v j a st'
      split at h
      · rename_i n f hG
        split at h
        · rename_i hn
          cases h
          exact Rn.bast hd hG (vpin hS hn.1.1 hn.1.2) (Gd.use ks ha hS (wr_up hO hS hn.2 (inIv_F _) hP) (kbF_ok (fun c' hc => by show (if c' = _ then _ else _) = _; rw [if_neg hc]) hK))
        · cases h
      · cases h
    · cases h
  · -- aaload
    obtain rfl : len = 1 := hl.resolve_left Bool.false_ne_true
    split at h
    · rename_i j a st'
      split at h
      · rename_i hn
        obtain ⟨rfl, hn⟩ := hn
        cases h
        have hi9 := ivA_ok hS j
        unfold inIv at hi9
        refine Rn.aald (a := 45) (n := 12) (f := fM 12) (r := 46 + 4 * (evI r j).toInt.toNat) hd rfl (vpin hS hn.1 (by omega)) ?_ (eaN_ok 12 ks ha hS hP hK (by omega) (by omega))
        rw [clampN]
        simp only [fM]
        rw [if_pos (by omega)]
      · cases h
    · cases h
  · -- invokestatic
    obtain rfl : len = 3 := hl.resolve_left Bool.false_ne_true
    split at h
    · rename_i q
      have hi := hi q (List.mem_singleton.mpr rfl)
      split at h
      · rename_i e
        rw [if_neg (by omega), if_pos e] at hi
        obtain ⟨x, y, st', e0, h9⟩ := st2_inv h
        clear h
        subst e0
        have h := h9
        clear h9
        split at h
        · rename_i hn
          exact Rn.mmin (st := evS r st') hd hi (by rw [evS_cat]; exact hn) (puN_ok h ks ha hS hP hK (fun a e => cst2_ok e) (ivMin_ok (ivA_ok hS _) (ivA_ok hS _)))
        · cases h
      · split at h
        · rename_i e
          rw [if_neg (by omega), if_neg (by omega), if_pos e] at hi
          obtain ⟨x, y, st', e0, h9⟩ := st2_inv h
          clear h
          subst e0
          have h := h9
          clear h9
          split at h
          · rename_i hn
            exact Rn.mmax (st := evS r st') hd hi (by rw [evS_cat]; exact hn) (puN_ok h ks ha hS hP hK (fun a e => cst2_ok e) (ivMax_ok (ivA_ok hS _) (ivA_ok hS _)))
          · cases h
        · split at h
          · rename_i e
            rw [if_neg (by omega), if_neg (by omega), if_neg (by omega), if_pos e] at hi
            obtain ⟨x, st', e0, h9⟩ := st1_inv h
            clear h
            subst e0
            have h := h9
            clear h9
            split at h
            · rename_i hn
              exact Rn.mabs (st := evS r st') hd hi (by rw [evS_cat]; exact hn) (puN_ok h ks ha hS hP hK (fun a e => nomatch e) (ivAbs_ok (ivA_ok hS _)))
            · cases h
          · split at h
            · rename_i e
              rw [if_neg (by omega), if_neg (by omega), if_neg (by omega), if_neg (by omega)] at hi
              exact acN_ok hO hd hi h ks ha hS hP hK
            · cases h
    · cases h
  · -- new
    split at h
    · rename_i q
      split at h
      · rename_i hb
        cases h
        exact hi q (List.mem_singleton.mpr rfl) G d bud _ I Q hb (ke _ (List.mem_singleton.mpr rfl) r I ha hS hP hK)
      · cases h
    · cases h
  · -- ireturn
    obtain rfl : len = 1 := hl.resolve_left Bool.false_ne_true
    split at h
    · rename_i a
      split at h
      · rename_i hn
        cases h
        have hq := ke _ (List.mem_singleton.mpr rfl) r I ha hS hP hK
        rcases hn with hn | ⟨hn, hb⟩
        · exact Rn.iret hd (hr.2.1 hn) hq
        · refine Rn.zret hd (hr.2.2 hn) ?_ hq
          rcases bool_of (subI_ok hb (ivA_ok hS a)) with e | e <;> rw [e] <;> rfl
      · cases h
    · cases h
  · -- return
    obtain rfl : len = 1 := hl.resolve_left Bool.false_ne_true
    split at h
    · split at h
      · rename_i hn
        cases h
        exact Rn.vret hd (hr.1 hn) (ke _ (List.mem_singleton.mpr rfl) r I ha hS hP hK)
      · cases h
    · cases h
  · cases h
end Stk
end
section
/-! ===== the checker: a method ===== -/
abbrev Co : Type := List (Nat × In × List (Nat × Nat))
/-- a place at which ways meet: what stands in the locals, what is known of the heap, how far it is to the end, how much may be thrown -/
abbrev Sp : Type := List (Option (Iv ⊕ Option Nat))
abbrev Fa : Type := List ((Nat × Nat) × Iv)
abbrev Ms : Type := (Nat × Nat) × (Nat × Nat) × (Nat × Nat)
abbrev Cu : Type := Nat × Sp × Fa × Ms × Nat
/-- a contract: the method, how deep, how much it may throw, what it takes, what must be known; what may change; its outcomes -/
abbrev Ctr : Type := Nat × Nat × Nat × List (Iv ⊕ Option Nat) × Fa × List (Nat × Nat × Nat) × List ((Option Iv ⊕ Nat) × Fa)
def spG (sp : Sp) (fa : Fa) : List Iv := sp.map (fun o => match o with
  | some (.inl iv) => iv
  | _ => ivF) ++ fa.map (fun e => e.2)
def spL : Nat → Sp → List (Option SV)
  | _, [] => []
  | k, none :: t => none :: spL (k + 1) t
  | k, some (.inl _) :: t => some (.inl (k, 1, 0)) :: spL (k + 1) t
  | k, some (.inr q) :: t => some (.inr q) :: spL (k + 1) t
def faK : Nat → Fa → Kb
  | _, [] => []
  | k, e :: t => (e.1, (k, 1, 0)) :: faK (k + 1) t
def msV (r : Nat → Int32) (q : Nat × Nat) : Nat := if q.1 = 0 then (2147483647 - (r q.2).toInt).toNat else if q.1 = 1 then ((r q.2).toInt + 2147483648).toNat else q.2
def mu3 (r : Nat → Int32) (m : Ms) : Nat := (msV r m.1 * 17179869184 + msV r m.2.1) * 17179869184 + msV r m.2.2
/-- 2: a measure has become less, 1: it is the same; m0 of the variables at the begin, m1 of the locals now -/
def cmM (g : List Iv) (L : List (Option SV)) (m0 m1 : Nat × Nat) : Nat :=
  if m1.1 = 2 then (if m0.1 = 2 then (if m1.2 < m0.2 then 2 else if m1.2 = m0.2 then 1 else 0) else 0)
  else match L[m1.2]? with
    | some (some (.inl a)) =>
      if m0.1 = 2 then (if (m1.1 = 0 ∨ m1.1 = 1) ∧ 4294967296 ≤ m0.2 then 2 else 0)
      else if m0.1 = 0 ∧ m1.1 = 0 then
        (if a = (m0.2, 1, 0) then 1 else if (a.1 = m0.2 ∧ a.2.1 = 1 ∧ 0 < a.2.2 ∧ okB (rawI g a) = true) ∨ (ivV g m0.2).2 < (ivA g a).1 then 2 else 0)
      else if m0.1 = 1 ∧ m1.1 = 1 then
        (if a = (m0.2, 1, 0) then 1 else if (a.1 = m0.2 ∧ a.2.1 = 1 ∧ a.2.2 < 0 ∧ okB (rawI g a) = true) ∨ (ivA g a).2 < (ivV g m0.2).1 then 2 else 0)
      else 0
    | _ => 0
def lxM (g : List Iv) (L : List (Option SV)) (m0 m1 : Ms) : Bool :=
  decide (cmM g L m0.1 m1.1 = 2) || (decide (cmM g L m0.1 m1.1 = 1) && (decide (cmM g L m0.2.1 m1.2.1 = 2) || (decide (cmM g L m0.2.1 m1.2.1 = 1) && decide (cmM g L m0.2.2 m1.2.2 = 2))))
def szQ (q : Nat × Nat) : Bool := decide (q.1 = 0 ∨ q.1 = 1 ∨ q.2 < 17179869184)
def szM (m : Ms) : Bool := szQ m.1 && (szQ m.2.1 && szQ m.2.2)
def arL (g : List Iv) : List (Option SV) → Sp → Bool
  | _, [] => true
  | [], _ :: _ => false
  | _ :: L, none :: t => arL g L t
  | some (.inl a) :: L, some (.inl iv) :: t => subI (ivA g a) iv && arL g L t
  | some (.inr q) :: L, some (.inr q') :: t => decide (q = q') && arL g L t
  | _, _ => false
def arF (hx : Hx) (g : List Iv) (kb : Kb) (fa : Fa) : Bool := fa.all (fun e => match kbG kb e.1.1 e.1.2 with
  | some a => subI (ivA g a) e.2
  | none => subI (hx.1 e.1.1 e.1.2) e.2)
def mxO (n : Nat) (m : Ms) : Bool := decide ((m.1.1 ≠ 2 → m.1.2 < n) ∧ (m.2.1.1 ≠ 2 → m.2.1.2 < n) ∧ (m.2.2.1 ≠ 2 → m.2.2.2 < n))
def arr (hx : Hx) (bud : Nat) (m0 : Ms) (c : Cu) (s : Ast) : Bool :=
  Nat.ble c.2.2.2.2 bud && (s.2.2.1.isEmpty && (arL s.1 s.2.1 c.2.1 && (arF hx s.1 s.2.2.2 c.2.2.1 && (lxM s.1 s.2.1 m0 c.2.2.2.1 && (szM c.2.2.2.1 && mxO c.2.1.length c.2.2.2.1)))))
def seek (pc : Nat) : Co → Co
  | [] => []
  | e :: t => if e.1 = pc then e :: t else seek pc t
def entO (cs co : Co) (pc : Nat) : Co := match cs with
  | e :: t => if e.1 = pc then e :: t else seek pc co
  | [] => seek pc co
def argO (g : List Iv) : List SV → List (Iv ⊕ Option Nat) → Bool
  | [], [] => true
  | .inl a :: t, .inl iv :: u => subI (ivA g a) iv && argO g t u
  | .inr q :: t, .inr q' :: u => decide (q = q') && argO g t u
  | _, _ => false
def subS (S T : List (Nat × Nat × Nat)) : Bool := S.all (fun q => covS T q.1 (q.2.1 : Int) (q.2.2 : Int))
def inlB {α β : Type} : α ⊕ β → Bool
  | .inl _ => true
  | .inr _ => false
def useO (hx : Hx) (dd mi mb bud : Nat) (g : List Iv) (kb : Kb) (vs : List SV) (c : Ctr) : Bool :=
  decide (c.1 = mi) && (Nat.ble c.2.1 dd && (decide (c.2.2.1 = mb) && (Nat.ble c.2.2.1 bud && (argO g vs c.2.2.2.1 && (arF hx g kb c.2.2.2.2.1 && (subS c.2.2.2.2.2.1 hx.2.2.2 && (Nat.ble 1 c.2.2.1 || c.2.2.2.2.2.2.all (fun p => inlB p.1))))))))
def killS (S : List (Nat × Nat × Nat)) (kb : Kb) : Kb := kb.filter (fun e => !S.any (fun q => decide (q.1 = e.1.1) && (Nat.ble q.2.1 e.1.2 && Nat.ble e.1.2 q.2.2)))
abbrev Tr : Type := Nat → Nat → Nat → Nat → List Cu → Ms → Nat → Co → Ast → Option (List Ed)
/-- all of them -/
def allO {α : Type} (f : α → Option (List Ed)) : List α → Option (List Ed)
  | [] => some []
  | a :: t => match f a, allO f t with
    | some x, some y => some (x ++ y)
    | _, _ => none
def goN (hx : Hx) (ih : Tr) (dd mi bud n0 : Nat) (cuts : List Cu) (m0 : Ms) (cs : Co) (q : Nat × Ast) : Option (List Ed) :=
  match cuts.find? (fun c => decide (c.1 = q.1) && arr hx bud m0 c q.2) with
  | some _ => some []
  | none => if cuts.any (fun c => decide (c.1 = q.1)) = true then none else ih dd mi bud n0 cuts m0 q.1 cs q.2
/-- a state behind a contract's outcome -/
def posN (g : List Iv) (L : List (Option SV)) (rest : List SV) (kb : Kb) (pc : Nat) (S : List (Nat × Nat × Nat)) (p : (Option Iv ⊕ Nat) × Fa) : (Nat × Ast) ⊕ Ed :=
  match p.1 with
  | .inl none => .inl (pc, (g ++ p.2.map (fun e => e.2), L, rest, faK g.length p.2 ++ killS S kb))
  | .inl (some iv) => .inl (pc, (g ++ iv :: p.2.map (fun e => e.2), L, .inl (g.length, 1, 0) :: rest, faK (g.length + 1) p.2 ++ killS S kb))
  | .inr E => .inr (g ++ p.2.map (fun e => e.2), .inr E, faK g.length p.2 ++ killS S kb)
def eitN (f : Nat × Ast → Option (List Ed)) : (Nat × Ast) ⊕ Ed → Option (List Ed)
  | .inl q => f q
  | .inr e => some [e]
/-- behind the end of a method that was walked through -/
def endN (L : List (Option SV)) (rest : List SV) (pc : Nat) (e : Ed) : (Nat × Ast) ⊕ Ed :=
  match e.2.1 with
  | .inl none => .inl (pc, (e.1, L, rest, e.2.2))
  | .inl (some a) => .inl (pc, (e.1, L, .inl a :: rest, e.2.2))
  | .inr E => .inr e
/-- who is called: the method, what it takes, what is left -/
def calO (mt : Mt) (i : In) (info : List (Nat × Nat)) (st : List SV) : Option (Nat × List SV × List SV) :=
  match i with
  | .invokestatic _ => match info with
    | [q] => if q.1 = 0 ∧ (mt q.2).2.1 ≤ st.length then some (q.2, (st.take (mt q.2).2.1).reverse, st.drop (mt q.2).2.1) else none
    | _ => none
  | .invokevirtual _ => match info with
    | q :: _ => match st.drop ((mt q.2).2.1 - 1) with
      | .inr (some a) :: rest => match GAM[a]? with
        | some (.inl o) => match info.find? (fun z => decide (z.1 = o.1)) with
          | some z => if (mt z.2).2.1 = (mt q.2).2.1 ∧ 1 ≤ (mt q.2).2.1 then some (z.2, .inr (some a) :: (st.take ((mt q.2).2.1 - 1)).reverse, rest) else none
          | none => none
        | _ => none
      | _ => none
    | _ => none
  | _ => none
def runF (hx : Hx) (mt : Mt) (mc : Nat → Co) (cts : List Ctr) (ih : Tr) : Tr := fun dd mi bud n0 cuts m0 pc cs s =>
  match entO cs (mc mi) pc with
  | [] => none
  | e :: cs' => match calO mt e.2.1 e.2.2 s.2.2.1 with
    | some (mi', vs, rest) => match dd with
      | 0 => none
      | dd' + 1 => if rest.length ≤ 8 ∧ frO n0 s.1 s.2.1 rest s.2.2.2 = true then
          (match cts.find? (useO hx dd' mi' (mt mi').2.2.2 bud s.1 s.2.2.2 vs) with
           | some c => allO (eitN (goN hx ih dd mi (bud - c.2.2.1) n0 cuts m0 cs')) (c.2.2.2.2.2.2.map (posN s.1 s.2.1 rest s.2.2.2 (pc + 3) c.2.2.2.2.2.1))
           | none => if (mt mi').2.2.2 ≤ bud ∧ vs.length = (mt mi').2.1 ∧ vs.length ≤ (mt mi').1.2.2.1 ∧ (mc mi').isEmpty = false then
               (match ih dd' mi' (mt mi').2.2.2 s.1.length [] ((2, 0), (2, 0), (2, 0)) 0 (mc mi') (s.1, vs.map some ++ List.replicate ((mt mi').1.2.2.1 - vs.length) none, [], s.2.2.2) with
                | some es => if (Nat.ble 1 (mt mi').2.2.2 || es.all (fun e => inlB e.2.1)) = true then allO (eitN (goN hx ih dd mi (bud - (mt mi').2.2.2) n0 cuts m0 cs')) (es.map (endN s.2.1 rest (pc + 3))) else none
                | none => none)
             else none)
        else none
    | none => match stp hx n0 (mt mi).1.2.2.1 (mt mi).2.2.1 bud pc e.2.1 e.2.2 s.1 s.2.1 s.2.2.1 s.2.2.2 with
      | some (ss, es) => match allO (goN hx ih dd mi bud n0 cuts m0 cs') ss with
        | some x => some (x ++ es)
        | none => none
      | none => none
noncomputable def run (hx : Hx) (mt : Mt) (mc : Nat → Co) (cts : List Ctr) (n : Nat) : Tr := Nat.rec (fun _ _ _ _ _ _ _ _ _ => none) (fun _ ih => runF hx mt mc cts ih) n
end
section
/-! ===== the checker: a method, sound ===== -/
section Weak
variable {G : Gx} {Ga : List Shp} {Y : Ym} {kx : Kx} {d b pc : Nat} {ls : List (Option Value)} {st : List Value} {I : Hi}
theorem Rn.weakL {ls' : List (Option Value)} (h : ∀ (k : Nat) (v : Value), ls'[k]? = some (some v) → ls[k]? = some (some v)) (k : Rn G Ga Y kx d b pc ls' st I) : Rn G Ga Y kx d b pc ls st I := by
  intro p e R s m args below meth c H locs cells slots tc ts Z F hk lsA hl
  refine k p e R s m args below meth c H locs cells slots tc ts Z F hk lsA ⟨hl.1, hl.2.1, fun q hq => ?_⟩
  obtain ⟨j, v, e1, e2, e3⟩ := zl_inv hq
  rw [e1]
  exact hl.2.2 _ (zl_mem e3 (h j v e2))
theorem Rn.weakB {b' : Nat} (h : b' ≤ b) (k : Rn G Ga Y kx d b' pc ls st I) : Rn G Ga Y kx d b pc ls st I := by
  intro p e R s m args below meth c H locs cells slots tc ts Z F hk lsA hl
  obtain ⟨F1, F2, F3, F4, F5, F6, F7, F8, F9⟩ := F
  exact k p e R s m args below meth c H locs cells slots tc ts Z ⟨F1, F2, F3, F4, by omega, by omega, F7, F8, F9⟩ hk lsA hl
end Weak
def argM : List Value → List (Iv ⊕ Option Nat) → Prop
  | [], [] => True
  | .int x :: t, .inl iv :: u => inIv iv x ∧ argM t u
  | .ref a :: t, .inr (some q) :: u => a = q ∧ argM t u
  | .null :: t, .inr none :: u => argM t u
  | _, _ => False
def faM (I : Hi) (fa : Fa) : Prop := ∀ e ∈ fa, inIv e.2 (I e.1.1 e.1.2)
def resM : Rs → (Option Iv ⊕ Nat) → Prop
  | .inl none, .inl none => True
  | .inl (some (.int x)), .inl (some iv) => inIv iv x
  | .inr E, .inr n => E = zCs.getD n ""
  | _, _ => False
def CtOK (G : Gx) (hx : Hx) (X : Hi → Prop) (mt : Mt) (c : Ctr) : Prop := ∀ (k : Nat) (I : Hi) (vs : List Value), (∀ c j, inIv (hx.1 c j) (I c j)) → X I → argM vs c.2.2.2.1 → faM I c.2.2.2.2.1 →
  Ct G GAM (mt c.1).1 (c.2.1 + k) c.2.2.1 vs I (fun o J => (∀ c j, inIv (hx.1 c j) (J c j)) ∧ X J ∧ Fs c.2.2.2.2.2.1 I J ∧ ∃ p ∈ c.2.2.2.2.2.2, resM o p.1 ∧ faM J p.2)
def okMc (mt : Mt) (mc : Nat → Co) : Prop := ∀ mi, mc mi ≠ [] → plainName (mt mi).1.1.cls = true ∧ retO (mt mi).2.2.1 (mt mi).1.2.2.2 ∧ ∀ e ∈ mc mi, okI mt (mt mi).1 e.1 e.2.1 e.2.2
def mOK (n0 : Nat) (m : Ms) : Prop := (m.1.1 ≠ 2 → m.1.2 < n0) ∧ (m.2.1.1 ≠ 2 → m.2.1.2 < n0) ∧ (m.2.2.1 ≠ 2 → m.2.2.2 < n0)
theorem argO_ok {r : Nat → Int32} {g : List Iv} (hS : Sat r g) : ∀ {vs : List SV} {as : List (Iv ⊕ Option Nat)}, argO g vs as = true → argM (evS r vs) as := by
  intro vs
  induction vs with
  | nil =>
    intro as h
    cases as with
    | nil => trivial
    | cons a t => exact nomatch h
  | cons v t ih =>
    intro as h
    cases as with
    | nil => cases v <;> exact nomatch h
    | cons a u =>
      cases v with
      | inl v =>
        cases a with
        | inl iv =>
          simp only [argO, Bool.and_eq_true] at h
          exact ⟨subI_ok h.1 (ivA_ok hS v), ih h.2⟩
        | inr q => exact nomatch h
      | inr v =>
        cases a with
        | inl iv => exact nomatch h
        | inr q =>
          simp only [argO, Bool.and_eq_true, decide_eq_true_eq] at h
          obtain ⟨rfl, h⟩ := h
          cases v with
          | none => exact ih h
          | some a => exact ⟨rfl, ih h⟩
theorem arF_ok {hx : Hx} {r : Nat → Int32} {g : List Iv} {kb : Kb} {fa : Fa} {I : Hi} (hS : Sat r g) (hB : ∀ c j, inIv (hx.1 c j) (I c j)) (hK : KbOK r kb I) (h : arF hx g kb fa = true) : faM I fa := by
  intro e he
  have h1 := List.all_eq_true.mp h e he
  split at h1
  · rename_i a ha
    rw [kbG_ok ha hK]
    exact subI_ok h1 (ivA_ok hS a)
  · exact subI_ok h1 (hB _ _)
theorem subS_ok {S T : List (Nat × Nat × Nat)} {I J : Hi} (h : subS S T = true) (hf : Fs S I J) : Fs T I J := by
  intro c j hc
  apply hf
  refine List.any_eq_false.mpr (fun q hq h2 => ?_)
  obtain ⟨t, ht, h3⟩ := List.any_eq_true.mp (List.all_eq_true.mp h q hq)
  simp only [Bool.and_eq_true, decide_eq_true_eq, Nat.ble_eq] at h2 h3
  have := List.any_eq_false.mp hc t ht
  simp only [Bool.and_eq_true, decide_eq_true_eq, Nat.ble_eq] at this
  exact this ⟨h3.1.trans h2.1, by omega, by omega⟩
theorem Fs.tr {S : List (Nat × Nat × Nat)} {I J K : Hi} (h : Fs S I J) (h2 : Fs S J K) : Fs S I K := fun c j hc => (h2 c j hc).trans (h c j hc)
theorem Fs.rf {S : List (Nat × Nat × Nat)} {I : Hi} : Fs S I I := fun _ _ _ => rfl
theorem killS_ok {S : List (Nat × Nat × Nat)} {r : Nat → Int32} {kb : Kb} {I J : Hi} (hf : Fs S I J) (hK : KbOK r kb I) : KbOK r (killS S kb) J := by
  intro e he
  obtain ⟨h1, h2⟩ := List.mem_filter.mp he
  rw [hf _ _ (by simpa using h2)]
  exact hK e h1
theorem faK_mem : ∀ {fa : Fa} {k : Nat} {e : (Nat × Nat) × Af}, e ∈ faK k fa → ∃ (j : Nat) (f : (Nat × Nat) × Iv), fa[j]? = some f ∧ e = (f.1, (k + j, 1, 0)) := by
  intro fa
  induction fa with
  | nil => intro k e h; exact nomatch h
  | cons f t ih =>
    intro k e h
    rcases List.mem_cons.mp h with h | h
    · exact ⟨0, f, rfl, h⟩
    · obtain ⟨j, f', h1, h2⟩ := ih h
      exact ⟨j + 1, f', by simpa using h1, by rw [h2]; simp; omega⟩
/-- facts as new variables -/
theorem fa_new {r : Nat → Int32} {I : Hi} {fa : Fa} {n : Nat} {xs : List Int32} (hx : ∀ (j : Nat) (f : (Nat × Nat) × Iv), fa[j]? = some f → r (n + j) = I f.1.1 f.1.2) : KbOK r (faK n fa) I := by
  intro e he
  obtain ⟨j, f, h1, rfl⟩ := faK_mem he
  show I f.1.1 f.1.2 = evI r (n + j, 1, 0)
  rw [evI_v, hx j f h1]
theorem seek_ok {pc : Nat} : ∀ {co : Co} {e : Nat × In × List (Nat × Nat)} {t : Co}, seek pc co = e :: t → e.1 = pc ∧ ∀ x ∈ e :: t, x ∈ co := by
  intro co
  induction co with
  | nil => intro e t h; exact nomatch h
  | cons c co ih =>
    intro e t h
    unfold seek at h
    split at h
    · rename_i e1
      cases h
      exact ⟨e1, fun x hx => hx⟩
    · obtain ⟨h1, h2⟩ := ih h
      exact ⟨h1, fun x hx => List.mem_cons_of_mem _ (h2 x hx)⟩
theorem entO_ok {cs co : Co} {pc : Nat} {e : Nat × In × List (Nat × Nat)} {t : Co} (hc : ∀ x ∈ cs, x ∈ co) (h : entO cs co pc = e :: t) : e.1 = pc ∧ ∀ x ∈ e :: t, x ∈ co := by
  unfold entO at h
  split at h
  · split at h
    · rename_i e1
      cases h
      exact ⟨e1, hc⟩
    · exact seek_ok h
  · exact seek_ok h
theorem allO_ok {α : Type} {f : α → Option (List Ed)} : ∀ {l : List α} {es : List Ed}, allO f l = some es → ∀ a ∈ l, ∃ x, f a = some x ∧ ∀ e ∈ x, e ∈ es := by
  intro l
  induction l with
  | nil => intro es _ a ha; exact nomatch ha
  | cons b t ih =>
    intro es h a ha
    unfold allO at h
    split at h
    · rename_i x y e1 e2
      cases h
      rcases List.mem_cons.mp ha with ha | ha
      · subst ha
        exact ⟨x, e1, fun e he => List.mem_append_left _ he⟩
      · obtain ⟨z, h1, h2⟩ := ih e2 a ha
        exact ⟨z, h1, fun e he => List.mem_append_right _ (h2 e he)⟩
    · cases h
/-! ways that meet -/
theorem msV_ag {r r0 : Nat → Int32} {n0 : Nat} {q : Nat × Nat} (ha : ∀ v, v < n0 → r v = r0 v) (h : q.1 ≠ 2 → q.2 < n0) : msV r q = msV r0 q ∨ (q.1 ≠ 0 ∧ q.1 ≠ 1) := by
  by_cases h2 : q.1 = 0 ∨ q.1 = 1
  · left
    have := ha q.2 (h (by omega))
    unfold msV
    rw [this]
  · right; omega
theorem msV_ag2 {r r0 : Nat → Int32} {n0 : Nat} {q : Nat × Nat} (ha : ∀ v, v < n0 → r v = r0 v) (h : q.1 ≠ 2 → q.2 < n0) : msV r q = msV r0 q := by
  rcases msV_ag ha h with e | e
  · exact e
  · unfold msV
    rw [if_neg e.1, if_neg e.1, if_neg e.2, if_neg e.2]
theorem msV_lt {r : Nat → Int32} {q : Nat × Nat} (h : q.1 = 0 ∨ q.1 = 1) : msV r q < 4294967296 := by
  have h1 := Int32.le_toInt (r q.2)
  have h2 := Int32.toInt_lt (r q.2)
  unfold msV
  split
  · omega
  · split
    · omega
    · omega
/-- the valuation of a place at which ways meet -/
def cuR (r : Nat → Int32) (L : List (Option SV)) (n : Nat) (fa : Fa) (I : Hi) : Nat → Int32 := fun v =>
  if v < n then (match L[v]? with
    | some (some (.inl a)) => evI r a
    | _ => 0)
  else match fa[v - n]? with
    | some f => I f.1.1 f.1.2
    | none => 0
theorem cmM_ok {r r0 r' : Nat → Int32} {g : List Iv} {L : List (Option SV)} {m0 m1 : Nat × Nat} {n0 : Nat} (hS : Sat r g) (ha : ∀ v, v < n0 → r v = r0 v) (h0 : m0.1 ≠ 2 → m0.2 < n0) (hr : m1.1 ≠ 2 → ∀ a, L[m1.2]? = some (some (.inl a)) → r' m1.2 = evI r a) : (cmM g L m0 m1 = 2 → msV r' m1 < msV r0 m0) ∧ (cmM g L m0 m1 = 1 → msV r' m1 = msV r0 m0) := by
  unfold cmM
  split
  · rename_i e1
    split
    · rename_i e0
      have v0 : msV r0 m0 = m0.2 := by unfold msV; rw [if_neg (by omega), if_neg (by omega)]
      have v1 : msV r' m1 = m1.2 := by unfold msV; rw [if_neg (by omega), if_neg (by omega)]
      rw [v0, v1]
      split
      · exact ⟨fun _ => by assumption, (fun h => nomatch h)⟩
      · split
        · exact ⟨(fun h => nomatch h), fun _ => by assumption⟩
        · exact ⟨(fun h => nomatch h), (fun h => nomatch h)⟩
    · exact ⟨(fun h => nomatch h), (fun h => nomatch h)⟩
  · rename_i e1
    split
    · rename_i a hL
      have hv := hr e1 a hL
      have hiA := ivA_ok hS a
      unfold inIv at hiA
      split
      · rename_i e0
        have v0 : msV r0 m0 = m0.2 := by unfold msV; rw [if_neg (by omega), if_neg (by omega)]
        split
        · rename_i h4
          refine ⟨fun _ => ?_, (fun h => nomatch h)⟩
          rw [v0]
          exact Nat.lt_of_lt_of_le (msV_lt h4.1) h4.2
        · exact ⟨(fun h => nomatch h), (fun h => nomatch h)⟩
      · rename_i e0
        have hlt := h0 e0
        have hv0 := ha _ hlt
        have hi0 := ivV_ok hS m0.2
        rw [hv0] at hi0
        unfold inIv at hi0
        have b1 := Int32.le_toInt (evI r a)
        have b2 := Int32.toInt_lt (evI r a)
        split
        · rename_i e2
          have v0 : msV r0 m0 = (2147483647 - (r0 m0.2).toInt).toNat := by unfold msV; rw [if_pos e2.1]
          have v1 : msV r' m1 = (2147483647 - (evI r a).toInt).toNat := by unfold msV; rw [if_pos e2.2, hv]
          rw [v0, v1]
          split
          · rename_i e3
            refine ⟨(fun h => nomatch h), fun _ => ?_⟩
            rw [e3, evI_v, hv0]
          · split
            · rename_i e4
              refine ⟨fun _ => ?_, (fun h => nomatch h)⟩
              rcases e4 with ⟨f1, f2, f3, f4⟩ | e4
              · have := evI_raw hS f4
                rw [f2, f1, Int.one_mul, hv0] at this
                omega
              · omega
            · exact ⟨(fun h => nomatch h), (fun h => nomatch h)⟩
        · split
          · rename_i e2
            have v0 : msV r0 m0 = ((r0 m0.2).toInt + 2147483648).toNat := by unfold msV; rw [if_neg (by omega), if_pos e2.1]
            have v1 : msV r' m1 = ((evI r a).toInt + 2147483648).toNat := by unfold msV; rw [if_neg (by omega), if_pos e2.2, hv]
            rw [v0, v1]
            split
            · rename_i e3
              refine ⟨(fun h => nomatch h), fun _ => ?_⟩
              rw [e3, evI_v, hv0]
            · split
              · rename_i e4
                refine ⟨fun _ => ?_, (fun h => nomatch h)⟩
                rcases e4 with ⟨f1, f2, f3, f4⟩ | e4
                · have := evI_raw hS f4
                  rw [f2, f1, Int.one_mul, hv0] at this
                  omega
                · omega
              · exact ⟨(fun h => nomatch h), (fun h => nomatch h)⟩
          · exact ⟨(fun h => nomatch h), (fun h => nomatch h)⟩
    · exact ⟨(fun h => nomatch h), (fun h => nomatch h)⟩
end
section
/-! ===== the checker: ways that meet, calls ===== -/
theorem szQ_ok {r : Nat → Int32} {q : Nat × Nat} (h : szQ q = true) : msV r q < 17179869184 := by
  have h := of_decide_eq_true h
  by_cases h2 : q.1 = 0 ∨ q.1 = 1
  · exact Nat.lt_trans (msV_lt h2) (by decide)
  · unfold msV
    rw [if_neg (by omega), if_neg (by omega)]
    omega
theorem lxM_ok {r r0 r' : Nat → Int32} {g : List Iv} {L : List (Option SV)} {m0 m1 : Ms} {n0 : Nat} (hS : Sat r g) (ha : ∀ v, v < n0 → r v = r0 v) (h0 : mOK n0 m0) (hr : ∀ (q : Nat × Nat), (q = m1.1 ∨ q = m1.2.1 ∨ q = m1.2.2) → q.1 ≠ 2 → ∀ a, L[q.2]? = some (some (.inl a)) → r' q.2 = evI r a) (h : lxM g L m0 m1 = true) (hz : szM m1 = true) : mu3 r' m1 < mu3 r0 m0 := by
  obtain ⟨c1, c1'⟩ := cmM_ok (r' := r') (m1 := m1.1) hS ha h0.1 (hr _ (Or.inl rfl))
  obtain ⟨c2, c2'⟩ := cmM_ok (r' := r') (m1 := m1.2.1) hS ha h0.2.1 (hr _ (Or.inr (Or.inl rfl)))
  obtain ⟨c3, c3'⟩ := cmM_ok (r' := r') (m1 := m1.2.2) hS ha h0.2.2 (hr _ (Or.inr (Or.inr rfl)))
  simp only [szM, Bool.and_eq_true] at hz
  have z1 := szQ_ok (r := r') hz.1
  have z2 := szQ_ok (r := r') hz.2.1
  have z3 := szQ_ok (r := r') hz.2.2
  simp only [lxM, Bool.or_eq_true, Bool.and_eq_true, decide_eq_true_eq] at h
  unfold mu3
  rcases h with h | ⟨h, h2 | ⟨h2, h3⟩⟩
  · have := c1 h; omega
  · have e1 := c1' h; have := c2 h2; omega
  · have e1 := c1' h; have e2 := c2' h2; have := c3 h3; omega
theorem arL_ok {g : List Iv} {r r' : Nat → Int32} (hS : Sat r g) : ∀ {L : List (Option SV)} {sp : Sp} {k : Nat}, arL g L sp = true → (∀ (j : Nat) (a : Af), j < sp.length → L[j]? = some (some (.inl a)) → r' (k + j) = evI r a) →
    (∀ (j : Nat) (v : Value), (evL r' (spL k sp))[j]? = some (some v) → (evL r L)[j]? = some (some v)) ∧ (∀ (j : Nat) (iv : Iv), sp[j]? = some (some (.inl iv)) → inIv iv (r' (k + j))) := by
  intro L
  induction L with
  | nil =>
    intro sp k h hr
    cases sp with
    | nil => exact ⟨fun j v hv => by simp [spL, evL] at hv, fun j iv hj => by simp at hj⟩
    | cons s t => exact nomatch h
  | cons l L ih =>
    intro sp k h hr
    cases sp with
    | nil => exact ⟨fun j v hv => by simp [spL, evL] at hv, fun j iv hj => by simp at hj⟩
    | cons s t =>
      have step : ∀ (hh : arL g L t = true), (∀ (j : Nat) (v : Value), (evL r' (spL (k + 1) t))[j]? = some (some v) → (evL r L)[j]? = some (some v)) ∧ (∀ (j : Nat) (iv : Iv), t[j]? = some (some (.inl iv)) → inIv iv (r' (k + 1 + j))) := fun hh =>
        ih hh (fun j a hj hL => by
          have := hr (j + 1) a (by simp; omega) (by simpa using hL)
          rw [show k + 1 + j = k + (j + 1) by omega]
          exact this)
      cases s with
      | none =>
        have hh : arL g L t = true := by
          cases l with
          | none => exact h
          | some l => cases l <;> exact h
        obtain ⟨s1, s2⟩ := step hh
        refine ⟨fun j v hv => ?_, fun j iv hj => ?_⟩
        · cases j with
          | zero => exact nomatch hv
          | succ j => exact s1 j v hv
        · cases j with
          | zero => exact nomatch hj
          | succ j => rw [show k + (j + 1) = k + 1 + j by omega]; exact s2 j iv (by simpa using hj)
      | some s =>
        cases s with
        | inl iv0 =>
          cases l with
          | none => exact nomatch h
          | some l =>
            cases l with
            | inr q => exact nomatch h
            | inl a =>
              simp only [arL, Bool.and_eq_true] at h
              obtain ⟨s1, s2⟩ := step h.2
              have h0 := hr 0 a (by simp) rfl
              rw [Nat.add_zero] at h0
              refine ⟨fun j v hv => ?_, fun j iv hj => ?_⟩
              · cases j with
                | zero =>
                  have hv : some (some (Value.int (evI r' (k, 1, 0)))) = some (some v) := hv
                  rw [evI_v, h0] at hv
                  exact hv
                | succ j => exact s1 j v hv
              · cases j with
                | zero =>
                  have hj : some (some (Sum.inl iv0)) = some (some (Sum.inl iv)) := hj
                  cases hj
                  rw [Nat.add_zero, h0]
                  exact subI_ok h.1 (ivA_ok hS a)
                | succ j => rw [show k + (j + 1) = k + 1 + j by omega]; exact s2 j iv (by simpa using hj)
        | inr q' =>
          cases l with
          | none => exact nomatch h
          | some l =>
            cases l with
            | inl a => exact nomatch h
            | inr q =>
              simp only [arL, Bool.and_eq_true, decide_eq_true_eq] at h
              obtain ⟨s1, s2⟩ := step h.2
              obtain ⟨rfl, _⟩ := h
              refine ⟨fun j v hv => ?_, fun j iv hj => ?_⟩
              · cases j with
                | zero =>
                  cases q with
                  | none =>
                    have hv : some (some Value.null) = some (some v) := hv
                    show some (some Value.null) = some (some v)
                    exact hv
                  | some q =>
                    have hv : some (some (Value.ref q)) = some (some v) := hv
                    show some (some (Value.ref q)) = some (some v)
                    exact hv
                | succ j => exact s1 j v hv
              · cases j with
                | zero => exact nomatch hj
                | succ j => rw [show k + (j + 1) = k + 1 + j by omega]; exact s2 j iv (by simpa using hj)
theorem spL_len : ∀ (sp : Sp) (k : Nat), (spL k sp).length = sp.length := by
  intro sp
  induction sp with
  | nil => intro k; rfl
  | cons s t ih =>
    intro k
    cases s with
    | none => show _ + 1 = _ + 1; rw [ih]
    | some s => cases s <;> (show _ + 1 = _ + 1; rw [ih])
theorem arL_len {g : List Iv} : ∀ {L : List (Option SV)} {sp : Sp}, arL g L sp = true → sp.length ≤ L.length := by
  intro L
  induction L with
  | nil =>
    intro sp h
    cases sp with
    | nil => exact Nat.le_refl _
    | cons s t => exact nomatch h
  | cons l L ih =>
    intro sp h
    cases sp with
    | nil => exact Nat.zero_le _
    | cons s t =>
      have : arL g L t = true := by
        cases s with
        | none => cases l with
          | none => exact h
          | some l => cases l <;> exact h
        | some s =>
          cases s with
          | inl iv => cases l with
            | none => exact nomatch h
            | some l => cases l with
              | inl a => simp only [arL, Bool.and_eq_true] at h; exact h.2
              | inr q => exact nomatch h
          | inr q' => cases l with
            | none => exact nomatch h
            | some l => cases l with
              | inl a => exact nomatch h
              | inr q => simp only [arL, Bool.and_eq_true] at h; exact h.2
      have := ih this
      simp
      exact this
/-- what a place where ways meet owes -/
def cutH9 (G : Gx) (Y : Ym) (Q : Rs → Hi → Prop) (d : Nat) (HP : Hi → Prop) (M : Nat) (c : Cu) : Prop :=
  ∀ (r : Nat → Int32) (I : Hi), Sat r (spG c.2.1 c.2.2.1) → HP I → KbOK r (faK c.2.1.length c.2.2.1) I → mu3 r c.2.2.2.1 < M → Rn G GAM Y (kM G GAM Q) d c.2.2.2.2 c.1 (evL r (spL 0 c.2.1)) [] I
section Arr
variable {G : Gx} {Y : Ym} {Q : Rs → Hi → Prop} {d bud n0 pc : Nat} {r0 : Nat → Int32} {hx : Hx} {X : Hi → Prop} {I0 : Hi} {m0 : Ms} {c : Cu} {s : Ast}
theorem arr_ok (hm : mOK n0 m0) (h : arr hx bud m0 c s = true) (k : cutH9 G Y Q d (HPof hx X I0) (mu3 r0 m0) c) : Gd G Y Q d bud n0 r0 (HPof hx X I0) c.1 s := by
  obtain ⟨g, L, st, kb⟩ := s
  obtain ⟨pc, sp, fa, ms, cb⟩ := c
  intro r I ha hS hP hK
  simp only [arr, Bool.and_eq_true] at h
  obtain ⟨h1, h2, h3, h4, h5, h6, h7⟩ := h
  have h7 := of_decide_eq_true h7
  have hst : st = [] := List.isEmpty_iff.mp h2
  subst hst
  have hS : Sat r g := hS
  have hK : KbOK r kb I := hK
  have hloc : ∀ (j : Nat) (a : Af), j < sp.length → L[j]? = some (some (.inl a)) → cuR r L sp.length fa I (0 + j) = evI r a := by
    intro j a hj hL
    rw [Nat.zero_add]
    unfold cuR
    rw [if_pos hj, hL]
  obtain ⟨q1, q2⟩ := arL_ok hS h3 hloc
  have hfa : ∀ (j : Nat) (f : (Nat × Nat) × Iv), fa[j]? = some f → cuR r L sp.length fa I (sp.length + j) = I f.1.1 f.1.2 := by
    intro j f hf
    unfold cuR
    rw [if_neg (by omega), show sp.length + j - sp.length = j by omega, hf]
  have hfm := arF_ok hS hP.1 hK h4
  refine Rn.weakB (Nat.le_of_ble_eq_true h1) (Rn.weakL q1 (k (cuR r L sp.length fa I) I ?_ hP (fa_new (xs := []) hfa) ?_))
  · intro v i hv
    by_cases hlt : v < sp.length
    · have hv : (sp.map (fun o => match o with | some (.inl iv) => iv | _ => ivF) ++ fa.map (fun e => e.2))[v]? = some i := hv
      rw [List.getElem?_append_left (by rw [List.length_map]; exact hlt), List.getElem?_map, List.getElem?_eq_getElem hlt] at hv
      simp only [Option.map_some, Option.some.injEq] at hv
      have hq := q2 v
      rw [List.getElem?_eq_getElem hlt, Nat.zero_add] at hq
      split at hv
      · rename_i iv e
        subst hv
        exact hq iv (by rw [e])
      · subst hv
        exact inIv_F _
    · have hv : (sp.map (fun o => match o with | some (.inl iv) => iv | _ => ivF) ++ fa.map (fun e => e.2))[v]? = some i := hv
      rw [List.getElem?_append_right (by rw [List.length_map]; omega), List.length_map, List.getElem?_map] at hv
      cases e : fa[v - sp.length]? with
      | none => rw [e] at hv; exact nomatch hv
      | some f =>
        rw [e] at hv
        cases hv
        have := hfa _ f e
        rw [show sp.length + (v - sp.length) = v by omega] at this
        rw [this]
        exact hfm f (List.mem_of_getElem? e)
  · refine lxM_ok (r' := cuR r L sp.length fa I) hS ha hm (fun q hq h2 a hL => ?_) h5 h6
    have hlt : q.2 < sp.length := by
      rcases hq with rfl | rfl | rfl
      · exact h7.1 h2
      · exact h7.2.1 h2
      · exact h7.2.2 h2
    have := hloc q.2 a hlt hL
    rw [Nat.zero_add] at this
    exact this
end Arr
end
section
/-! ===== the checker: calls, the whole walk ===== -/
section Cal
variable {G : Gx} {Y : Ym} {Q : Rs → Hi → Prop} {d b pc : Nat} {ls : List (Option Value)} {I : Hi} {mt : Mt} {i : In} {info : List (Nat × Nat)} {st vs rest : List SV} {mi : Nat} {r : Nat → Int32}
theorem call_any {Rr : Rs → Hi → Prop} (hI : okI mt Y pc i info) (h : calO mt i info st = some (mi, vs, rest)) (h8 : rest.length ≤ 8) (hc : Ct G GAM (mt mi).1 d (mt mi).2.2.2 (evS r vs) I Rr) (hn : (mt mi).2.2.2 = 0 → ∀ E J, ¬ Rr (.inr E) J) (hq : ∀ E J, Rr (.inr E) J → Q (.inr E) J)
    (k : ∀ v J, Rr (.inl v) J → Rn G GAM Y (kM G GAM Q) (d + 1) b (pc + 3) ls (v.toList ++ evS r rest) J) : Rn G GAM Y (kM G GAM Q) (d + 1) (b + (mt mi).2.2.2) pc ls (evS r st) I := by
  obtain ⟨⟨len, hd, hl⟩, hi⟩ := hI
  unfold calO at h
  split at h
  · -- static
    obtain rfl : len = 3 := hl.resolve_left Bool.false_ne_true
    split at h
    · rename_i q
      split at h
      · rename_i hk
        cases h
        have hi := hi q (List.mem_singleton.mpr rfl)
        rw [if_pos hk.1] at hi
        refine Rn.callSt (mc := (mt q.2).2.2.2) (As := evS r (st.take (mt q.2).2.1).reverse) (rest := evS r (st.drop (mt q.2).2.1)) hd hi ?_ ?_ (by rw [evS_cat]; exact h8) hc hq k
        · unfold evS
          rw [← List.map_reverse, List.reverse_reverse, ← List.map_append, List.take_append_drop]
        · unfold evS
          rw [List.length_map, List.length_reverse, List.length_take]
          omega
      · cases h
    · cases h
  · -- virtual
    obtain rfl : len = 3 := hl.resolve_left Bool.false_ne_true
    split at h
    · rename_i q info'
      split at h
      · rename_i a rest' hdr
        split at h
        · rename_i o hG
          split at h
          · rename_i z hz
            split at h
            · rename_i hk
              cases h
              have hz1 := List.find?_some hz
              simp only [decide_eq_true_eq] at hz1
              obtain ⟨C, T, N, hC, hM⟩ := hi z (List.mem_of_find?_eq_some hz)
              rw [hz1] at hC
              have hlt : (mt q.2).2.1 - 1 < st.length := by
                false_or_by_contra
                rw [List.drop_eq_nil_of_le (by omega)] at hdr
                exact nomatch hdr
              have hst : evS r st = (evS r (st.take ((mt q.2).2.1 - 1)).reverse).reverse ++ .ref a :: evS r rest := by
                have : st = st.take ((mt q.2).2.1 - 1) ++ .inr (some a) :: rest := by rw [← hdr, List.take_append_drop]
                show List.map _ st = _
                rw [this]
                unfold evS
                rw [List.map_append, ← List.map_reverse, List.reverse_reverse, ← this]
                rfl
              have hlen : (evS r (st.take ((mt q.2).2.1 - 1)).reverse).length = (mt z.2).2.1 - 1 := by
                unfold evS
                rw [List.length_map, List.length_reverse, List.length_take]
                omega
              rcases hM with hM | ⟨hm0, hM⟩
              · exact Rn.callVt (mc := (mt z.2).2.2.2) hd hM hG hC hst hlen (by rw [evS_cat]; exact h8) hc hq k
              · rw [hm0] at hc ⊢
                rcases hM with hM | ⟨x, hM⟩
                · exact Rn.callUx hd hM hG hC hst hlen (by rw [evS_cat]; exact h8) hc (hn hm0) k
                · exact Rn.callAx hd hM hG hC hst hlen (by rw [evS_cat]; exact h8) hc (hn hm0) k
            · cases h
          · cases h
        · cases h
      · cases h
    · cases h
  · cases h
end Cal
def TrOK (G : Gx) (hx : Hx) (X : Hi → Prop) (mt : Mt) (mc : Nat → Co) (tr : Tr) : Prop :=
  ∀ (dd mi bud n0 : Nat) (cuts : List Cu) (m0 : Ms) (pc : Nat) (cs : Co) (s : Ast) (es : List Ed), tr dd mi bud n0 cuts m0 pc cs s = some es → (∀ e ∈ cs, e ∈ mc mi) → ∀ (k : Nat) (Q : Rs → Hi → Prop) (r0 : Nat → Int32) (I0 : Hi), (∀ c ∈ cuts, cutH9 G (mt mi).1 Q (dd + k) (HPof hx X I0) (mu3 r0 m0) c) → mOK n0 m0 →
    (∀ e ∈ es, Ge Q n0 r0 (HPof hx X I0) e) → Gd G (mt mi).1 Q (dd + k) bud n0 r0 (HPof hx X I0) pc s
section RunOK
variable {G : Gx} {hx : Hx} {X : Hi → Prop} {mt : Mt} {mc : Nat → Co} {cts : List Ctr} {tr : Tr}
theorem goN_ok (hT : TrOK G hx X mt mc tr) {dd mi bud n0 : Nat} {cuts : List Cu} {m0 : Ms} {cs : Co} {q : Nat × Ast} {es : List Ed} (h : goN hx tr dd mi bud n0 cuts m0 cs q = some es) (hcs : ∀ e ∈ cs, e ∈ mc mi) {k : Nat} {Q : Rs → Hi → Prop} {r0 : Nat → Int32} {I0 : Hi} (hc : ∀ c ∈ cuts, cutH9 G (mt mi).1 Q (dd + k) (HPof hx X I0) (mu3 r0 m0) c) (hm : mOK n0 m0)
    (he : ∀ e ∈ es, Ge Q n0 r0 (HPof hx X I0) e) : Gd G (mt mi).1 Q (dd + k) bud n0 r0 (HPof hx X I0) q.1 q.2 := by
  unfold goN at h
  split at h
  · rename_i c hf
    have h1 := List.find?_some hf
    simp only [Bool.and_eq_true, decide_eq_true_eq] at h1
    rw [← h1.1]
    exact arr_ok hm h1.2 (hc c (List.mem_of_find?_eq_some hf))
  · split at h
    · cases h
    · exact hT _ _ _ _ _ _ _ _ _ _ h hcs k Q r0 I0 hc hm he
theorem runF_ok (hO : hxOK hx X) (hmc : okMc mt mc) (hct : ∀ c ∈ cts, CtOK G hx X mt c) (hT : TrOK G hx X mt mc tr) : TrOK G hx X mt mc (runF hx mt mc cts tr) := by
  intro dd mi bud n0 cuts m0 pc cs s es h hcs k Q r0 I0 hc hm he
  obtain ⟨g, L, st, kb⟩ := s
  unfold runF at h
  split at h
  · cases h
  · rename_i e cs' hent
    obtain ⟨e1, e2⟩ := entO_ok hcs hent
    have hmem : e ∈ mc mi := e2 e List.mem_cons_self
    obtain ⟨hpn, hret, hok⟩ := hmc mi (fun q => by rw [q] at hmem; exact nomatch hmem)
    have hI := hok e hmem
    rw [e1] at hI
    have hcs' : ∀ x ∈ cs', x ∈ mc mi := fun x hx => e2 x (List.mem_cons_of_mem _ hx)
    split at h
    · rename_i mi' vs rest hcal
      split at h
      · cases h
      · rename_i dd'
        split at h
        · rename_i hfr
          obtain ⟨h8, hfr⟩ := hfr
          intro r I ha hS hP hK
          have hS : Sat r g := hS
          have hK : KbOK r kb I := hK
          show Rn G GAM (mt mi).1 (kM G GAM Q) (dd' + 1 + k) bud pc (evL r L) (evS r st) I
          have hfr : frO n0 g L rest kb = true := hfr
          obtain ⟨f0, f1, f2, f3⟩ := frO_ok hfr
          rw [show dd' + 1 + k = (dd' + k) + 1 by omega]
          split at h
          · -- a contract
            rename_i c hf
            have hu := List.find?_some hf
            simp only [useO, Bool.and_eq_true, decide_eq_true_eq, Nat.ble_eq] at hu
            obtain ⟨u1, u2, u3, u4, u5, u6, u7, u8⟩ := hu
            have hC := hct c (List.mem_of_find?_eq_some hf) (dd' - c.2.1 + k) I (evS r vs) hP.1 hP.2.1 (argO_ok hS u5) (arF_ok hS hP.1 hK u6)
            rw [u1, show c.2.1 + (dd' - c.2.1 + k) = dd' + k by omega, u3] at hC
            rw [show bud = (bud - c.2.2.1) + (mt mi').2.2.2 by omega]
            have hall := allO_ok h
            refine call_any hI hcal h8 hC ?_ ?_ ?_
            · intro h0 E J hJ
              obtain ⟨-, -, -, p, hp, hr, -⟩ := hJ
              rw [u3, h0] at u8
              have u8 := (Bool.or_eq_true _ _).mp u8
              have := List.all_eq_true.mp (u8.resolve_left (by decide)) p hp
              obtain ⟨p1, p2⟩ := p
              cases p1 with
              | inl o => cases o <;> exact hr
              | inr n => exact nomatch this
            · intro E J hJ
              obtain ⟨j1, j2, j3, p, hp, hr, hfa⟩ := hJ
              obtain ⟨p1, p2⟩ := p
              cases p1 with
              | inl o => cases o <;> exact hr.elim
              | inr n =>
                have hr : E = zCs.getD n "" := hr
                obtain ⟨x, hx1, hx2⟩ := hall _ (List.mem_map.mpr ⟨_, hp, rfl⟩)
                cases hx1
                have := he _ (hx2 _ (List.mem_singleton.mpr rfl)) (exr r g.length (p2.map (fun f => J f.1.1 f.1.2))) J (fun v hv => by rw [exr_lt v (by omega)]; exact ha v hv)
                  (exr_Sat hS (by simp) (fun j i y h1 h2 => by
                    rw [List.getElem?_map] at h1 h2
                    cases e : p2[j]? with
                    | none => rw [e] at h1; exact nomatch h1
                    | some f =>
                      rw [e] at h1 h2
                      cases h1
                      cases h2
                      exact hfa f (List.mem_of_getElem? e)))
                  ⟨j1, j2, hP.2.2.tr (subS_ok u7 j3)⟩
                  (fun z hz => (List.mem_append.mp hz).elim (fa_new (xs := []) (fun j f hf => exr_at (by rw [List.getElem?_map, hf]; rfl)) z) (killS_ok j3 (KbOK_ok f3 exr_lt hK) z))
                rw [hr]
                exact this
            · intro v J hJ
              obtain ⟨j1, j2, j3, p, hp, hr, hfa⟩ := hJ
              obtain ⟨x, hx1, hx2⟩ := hall _ (List.mem_map.mpr ⟨_, hp, rfl⟩)
              have hP' : HPof hx X I0 J := ⟨j1, j2, hP.2.2.tr (subS_ok u7 j3)⟩
              have hK' : KbOK r (killS c.2.2.2.2.2.1 kb) J := killS_ok j3 hK
              have f3' : (killS c.2.2.2.2.2.1 kb).all (fun e => scA g.length e.2) = true := List.all_eq_true.mpr (fun z hz => List.all_eq_true.mp f3 z (List.mem_filter.mp hz).1)
              have hfr' : frO n0 g L rest (killS c.2.2.2.2.2.1 kb) = true := by
                simp only [frO, Bool.and_eq_true]
                exact ⟨Nat.ble_eq.mpr f0, f1, f2, f3'⟩
              obtain ⟨p1, p2⟩ := p
              cases p1 with
              | inr n => cases v <;> (try (rename_i v; cases v)) <;> exact hr.elim
              | inl o =>
                cases o with
                | none =>
                  cases v with
                  | some v => cases v <;> exact hr.elim
                  | none =>
                    have hg := goN_ok hT hx1 hcs' (k := k) hc hm (fun e he' => he e (hx2 e he'))
                    rw [show dd' + 1 + k = (dd' + k) + 1 by omega] at hg
                    exact Gd.exts (xs := p2.map (fun f => J f.1.1 f.1.2)) (st' := []) (vs := []) hg hfr' ha hS hP' hK' (by simp)
                      (fun j i y h1 h2 => by
                        rw [List.getElem?_map] at h1 h2
                        cases e : p2[j]? with
                        | none => rw [e] at h1; exact nomatch h1
                        | some f =>
                          rw [e] at h1 h2
                          cases h1
                          cases h2
                          exact hfa f (List.mem_of_getElem? e)) rfl (fa_new (xs := []) (fun j f hf => exr_at (by rw [List.getElem?_map, hf]; rfl)))
                | some iv =>
                  cases v with
                  | none => exact hr.elim
                  | some v =>
                    cases v with
                    | int y =>
                      have hr : inIv iv y := hr
                      have hg := goN_ok hT hx1 hcs' (k := k) hc hm (fun e he' => he e (hx2 e he'))
                      rw [show dd' + 1 + k = (dd' + k) + 1 by omega] at hg
                      refine Gd.exts (ivs := iv :: p2.map (fun e => e.2)) (xs := y :: p2.map (fun f => J f.1.1 f.1.2)) (st' := [.inl (g.length, 1, 0)]) (vs := [.int y]) hg hfr' ha hS hP' hK' (by simp)
                        (fun j i z h1 h2 => by
                          cases j with
                          | zero => simp at h1 h2; subst h1; subst h2; exact hr
                          | succ j =>
                            simp only [List.getElem?_cons_succ] at h1 h2
                            rw [List.getElem?_map] at h1 h2
                            cases e : p2[j]? with
                            | none => rw [e] at h1; exact nomatch h1
                            | some f =>
                              rw [e] at h1 h2
                              cases h1
                              cases h2
                              exact hfa f (List.mem_of_getElem? e)) ?_ (fa_new (xs := []) (fun j f hf => ?_))
                      · show [Value.int (evI _ (g.length, 1, 0))] = _
                        rw [evI_v, show exr r g.length (y :: p2.map (fun f => J f.1.1 f.1.2)) g.length = y from exr_at (j := 0) rfl]
                      · rw [show g.length + 1 + j = g.length + (j + 1) by omega]
                        exact exr_at (by rw [List.getElem?_cons_succ, List.getElem?_map, hf]; rfl)
                    | _ => exact hr.elim
          · -- walked through
            split at h
            · rename_i hk9
              obtain ⟨k1, k2, k3, k4⟩ := hk9
              split at h
              · rename_i es' hrun
                split at h
                · rename_i hinl
                  have hall := allO_ok h
                  let Rr : Rs → Hi → Prop := fun o J => ∃ e ∈ es', ∃ r' : Nat → Int32, (∀ v, v < g.length → r' v = r v) ∧ Sat r' e.1 ∧ HPof hx X I0 J ∧ KbOK r' e.2.2 J ∧ o = edV r' e.2.1
                  have hmi : mc mi' ≠ [] := fun q => by rw [q] at k4; exact nomatch k4
                  obtain ⟨hpn', -, -⟩ := hmc mi' hmi
                  have hG := hT _ _ _ _ _ _ _ _ _ _ hrun (fun _ h => h) k Rr r I0 (fun c hc => nomatch hc) ⟨(fun h => absurd rfl h), (fun h => absurd rfl h), (fun h => absurd rfl h)⟩ (fun e he' r' J ha' hS' hP' hK' => ⟨e, he', r', ha', hS', hP', hK', rfl⟩)
                  have hG := hG r I (fun _ _ => rfl) hS hP hK
                  have hC : Ct G GAM (mt mi').1 (dd' + k) (mt mi').2.2.2 (evS r vs) I Rr := by
                    refine Ct.of hpn' (fun v hv => ?_) (by unfold evS; rw [List.length_map]; exact k3) ?_ hG
                    · obtain ⟨a, -, rfl⟩ := List.mem_map.mp hv
                      exact evV_cat r a
                    · unfold evL evS
                      simp [List.map_append, List.map_replicate]
                  rw [show bud = (bud - (mt mi').2.2.2) + (mt mi').2.2.2 by omega]
                  refine call_any hI hcal h8 hC ?_ ?_ ?_
                  · intro h0 E J hJ
                    obtain ⟨e, he', r', -, -, -, -, ho⟩ := hJ
                    rw [h0] at hinl
                    have := List.all_eq_true.mp (((Bool.or_eq_true _ _).mp hinl).resolve_left (by decide)) e he'
                    obtain ⟨q1, q2, q3⟩ := e
                    cases q2 with
                    | inl o => exact nomatch ho
                    | inr n => exact nomatch this
                  · intro E J hJ
                    obtain ⟨e, he', r', a1, a2, a3, a4, ho⟩ := hJ
                    obtain ⟨x, hx1, hx2⟩ := hall _ (List.mem_map.mpr ⟨_, he', rfl⟩)
                    obtain ⟨q1, q2, q3⟩ := e
                    cases q2 with
                    | inl o => exact nomatch ho
                    | inr n =>
                      cases hx1
                      rw [ho]
                      exact he _ (hx2 _ (List.mem_singleton.mpr rfl)) r' J (fun v hv => by rw [a1 v (by omega)]; exact ha v hv) a2 a3 a4
                  · intro v J hJ
                    obtain ⟨e, he', r', a1, a2, a3, a4, ho⟩ := hJ
                    obtain ⟨x, hx1, hx2⟩ := hall _ (List.mem_map.mpr ⟨_, he', rfl⟩)
                    obtain ⟨q1, q2, q3⟩ := e
                    have ha' : ∀ v, v < n0 → r' v = r0 v := fun v hv => by rw [a1 v (by omega)]; exact ha v hv
                    cases q2 with
                    | inr n => exact nomatch ho
                    | inl o =>
                      cases o with
                      | none =>
                        have ho : v = none := Sum.inl.inj ho
                        subst ho
                        have hg := goN_ok hT hx1 hcs' (k := k) hc hm (fun e he' => he e (hx2 e he')) r' J ha' a2 a3 a4
                        rw [show dd' + 1 + k = (dd' + k) + 1 by omega] at hg
                        have e4 : evL r' L = evL r L := evL_ok f1 a1
                        have e5 : evS r' rest = evS r rest := evS_ok f2 a1
                        simp only [e4, e5] at hg
                        exact hg
                      | some a =>
                        have ho : v = some (.int (evI r' a)) := Sum.inl.inj ho
                        subst ho
                        have hg := goN_ok hT hx1 hcs' (k := k) hc hm (fun e he' => he e (hx2 e he')) r' J ha' a2 a3 a4
                        rw [show dd' + 1 + k = (dd' + k) + 1 by omega] at hg
                        have e4 : evL r' L = evL r L := evL_ok f1 a1
                        have e5 : evS r' (.inl a :: rest) = .int (evI r' a) :: evS r rest := by
                          show Value.int (evI r' a) :: evS r' rest = _
                          rw [evS_ok f2 a1]
                        simp only [e4, e5] at hg
                        exact hg
                · cases h
              · cases h
            · cases h
        · cases h
    · split at h
      · rename_i ss es' hst
        split at h
        · rename_i x hx1
          cases h
          have hall := allO_ok hx1
          refine stp_ok hO hI rfl hret hst (fun q hq => ?_) (fun e he' => he e (List.mem_append_right _ he'))
          obtain ⟨y, hy1, hy2⟩ := hall q hq
          exact goN_ok hT hy1 hcs' (k := k) hc hm (fun e he' => he e (List.mem_append_left _ (hy2 e he')))
        · cases h
      · cases h
theorem run_ok (hO : hxOK hx X) (hmc : okMc mt mc) (hct : ∀ c ∈ cts, CtOK G hx X mt c) (n : Nat) : TrOK G hx X mt mc (run hx mt mc cts n) := by
  induction n with
  | zero => intro dd mi bud n0 cuts m0 pc cs s es h; cases h
  | succ n ih => exact runF_ok hO hmc hct ih
end RunOK
end
section
/-! ===== the checker: contracts ===== -/
def resO (g : List Iv) : (Option Af ⊕ Nat) → (Option Iv ⊕ Nat) → Bool
  | .inl none, .inl none => true
  | .inl (some a), .inl (some iv) => subI (ivA g a) iv
  | .inr n, .inr m => decide (n = m)
  | _, _ => false
def endO (hx : Hx) (ps : List ((Option Iv ⊕ Nat) × Fa)) (e : Ed) : Bool := ps.any (fun p => resO e.1 e.2.1 p.1 && arF hx e.1 e.2.2 p.2)
def allE (hx : Hx) (ps : List ((Option Iv ⊕ Nat) × Fa)) : Option (List Ed) → Bool
  | some es => es.all (endO hx ps)
  | none => false
def spA (mxl : Nat) (as : List (Iv ⊕ Option Nat)) : Sp := as.map some ++ List.replicate (mxl - as.length) none
noncomputable def chk (hx : Hx) (mt : Mt) (mc : Nat → Co) (cts : List Ctr) (n : Nat) (c : Ctr) (cuts : List Cu) : Bool :=
  (!(mc c.1).isEmpty && (Nat.ble c.2.2.2.1.length (mt c.1).1.2.2.1 &&
    allE hx c.2.2.2.2.2.2 (run hx mt mc cts n c.2.1 c.1 c.2.2.1 (spG (spA (mt c.1).1.2.2.1 c.2.2.2.1) c.2.2.2.2.1).length cuts ((2, 8589934592), (2, 0), (2, 0)) 0 (mc c.1) (spG (spA (mt c.1).1.2.2.1 c.2.2.2.1) c.2.2.2.2.1, spL 0 (spA (mt c.1).1.2.2.1 c.2.2.2.1), [], faK (mt c.1).1.2.2.1 c.2.2.2.2.1)))) &&
  cuts.all (fun u => mxO u.2.1.length u.2.2.2.1 &&
    allE hx c.2.2.2.2.2.2 (run hx mt mc cts n c.2.1 c.1 u.2.2.2.2 (spG u.2.1 u.2.2.1).length cuts u.2.2.2.1 u.1 (mc c.1) (spG u.2.1 u.2.2.1, spL 0 u.2.1, [], faK u.2.1.length u.2.2.1)))
def arR (vs : List Value) (n : Nat) (fa : Fa) (I : Hi) : Nat → Int32 := fun v =>
  if v < n then (match vs[v]? with
    | some (.int x) => x
    | _ => 0)
  else match fa[v - n]? with
    | some f => I f.1.1 f.1.2
    | none => 0
theorem spL_no (r : Nat → Int32) : ∀ (m k : Nat), evL r (spL k (List.replicate m none)) = List.replicate m none := by
  intro m
  induction m with
  | zero => intro k; rfl
  | succ m ih =>
    intro k
    rw [List.replicate_succ]
    show none :: evL r (spL (k + 1) (List.replicate m none)) = none :: List.replicate m none
    rw [ih]
theorem argM_len : ∀ {vs : List Value} {as : List (Iv ⊕ Option Nat)}, argM vs as → vs.length = as.length := by
  intro vs
  induction vs with
  | nil =>
    intro as h
    cases as with
    | nil => rfl
    | cons a t => exact h.elim
  | cons v t ih =>
    intro as h
    cases as with
    | nil => cases v <;> exact h.elim
    | cons a u =>
      have : argM t u := by
        cases v with
        | int x => cases a with
          | inl iv => exact h.2
          | inr q => exact h.elim
        | ref p => cases a with
          | inl iv => exact h.elim
          | inr q => cases q with
            | none => exact h.elim
            | some q => exact h.2
        | null => cases a with
          | inl iv => exact h.elim
          | inr q => cases q with
            | none => exact h
            | some q => exact h.elim
        | _ => exact h.elim
      simp [ih this]
theorem spL_args {r : Nat → Int32} (m : Nat) : ∀ {vs : List Value} {as : List (Iv ⊕ Option Nat)} {k : Nat}, argM vs as → (∀ (j : Nat) (x : Int32), vs[j]? = some (.int x) → r (k + j) = x) → evL r (spL k (as.map some ++ List.replicate m none)) = vs.map some ++ List.replicate m none := by
  intro vs
  induction vs with
  | nil =>
    intro as k h hr
    cases as with
    | nil => exact spL_no r m k
    | cons a t => exact h.elim
  | cons v t ih =>
    intro as k h hr
    cases as with
    | nil => cases v <;> exact h.elim
    | cons a u =>
      have step : argM t u → evL r (spL (k + 1) (u.map some ++ List.replicate m none)) = t.map some ++ List.replicate m none := fun hh =>
        ih hh (fun j x hx => by
          have := hr (j + 1) x (by simpa using hx)
          rw [show k + 1 + j = k + (j + 1) by omega]
          exact this)
      cases v with
      | int x => cases a with
        | inl iv =>
          show some (Value.int (evI r (k, 1, 0))) :: evL r (spL (k + 1) (u.map some ++ List.replicate m none)) = some (Value.int x) :: (t.map some ++ List.replicate m none)
          rw [step h.2, evI_v]
          have := hr 0 x rfl
          rw [Nat.add_zero] at this
          rw [this]
        | inr q => exact h.elim
      | ref p => cases a with
        | inl iv => exact h.elim
        | inr q => cases q with
          | none => exact h.elim
          | some q =>
            obtain ⟨rfl, h⟩ := h
            show some (Value.ref p) :: evL r (spL (k + 1) (u.map some ++ List.replicate m none)) = some (Value.ref p) :: (t.map some ++ List.replicate m none)
            rw [step h]
      | null => cases a with
        | inl iv => exact h.elim
        | inr q => cases q with
          | none =>
            show some Value.null :: evL r (spL (k + 1) (u.map some ++ List.replicate m none)) = some Value.null :: (t.map some ++ List.replicate m none)
            rw [step h]
          | some q => exact h.elim
      | _ => exact h.elim
theorem argM_at : ∀ {vs : List Value} {as : List (Iv ⊕ Option Nat)} {j : Nat} {iv : Iv}, argM vs as → as[j]? = some (.inl iv) → ∃ x, vs[j]? = some (.int x) ∧ inIv iv x := by
  intro vs
  induction vs with
  | nil =>
    intro as j iv h hj
    cases as with
    | nil => simp at hj
    | cons a t => exact h.elim
  | cons v t ih =>
    intro as j iv h hj
    cases as with
    | nil => cases v <;> exact h.elim
    | cons a u =>
      cases v with
      | int x => cases a with
        | inl iv0 =>
          cases j with
          | zero => simp at hj; subst hj; exact ⟨x, rfl, h.1⟩
          | succ j => exact ih h.2 (by simpa using hj)
        | inr q => exact h.elim
      | ref p => cases a with
        | inl iv0 => exact h.elim
        | inr q => cases q with
          | none => exact h.elim
          | some q =>
            cases j with
            | zero => simp at hj
            | succ j => exact ih h.2 (by simpa using hj)
      | null => cases a with
        | inl iv0 => exact h.elim
        | inr q => cases q with
          | none =>
            cases j with
            | zero => simp at hj
            | succ j => exact ih h (by simpa using hj)
          | some q => exact h.elim
      | _ => exact h.elim
theorem argM_cat : ∀ {vs : List Value} {as : List (Iv ⊕ Option Nat)}, argM vs as → ∀ v ∈ vs, v.category = 1 := by
  intro vs
  induction vs with
  | nil => intro as h v hv; exact nomatch hv
  | cons w t ih =>
    intro as h v hv
    cases as with
    | nil => cases w <;> exact h.elim
    | cons a u =>
      rcases List.mem_cons.mp hv with e | hv
      · subst e
        cases v with
        | int x => rfl
        | ref p => rfl
        | null => rfl
        | _ => exact h.elim
      · have : argM t u := by
          cases w with
          | int x => cases a with
            | inl iv => exact h.2
            | inr q => exact h.elim
          | ref p => cases a with
            | inl iv => exact h.elim
            | inr q => cases q with
              | none => exact h.elim
              | some q => exact h.2
          | null => cases a with
            | inl iv => exact h.elim
            | inr q => cases q with
              | none => exact h
              | some q => exact h.elim
          | _ => exact h.elim
        exact ih this v hv
theorem resO_ok {r : Nat → Int32} {g : List Iv} (hS : Sat r g) {a : Option Af ⊕ Nat} {p : Option Iv ⊕ Nat} (h : resO g a p = true) : resM (edV r a) p := by
  cases a with
  | inl o =>
    cases o with
    | none =>
      cases p with
      | inl q => cases q with
        | none => trivial
        | some iv => exact nomatch h
      | inr n => exact nomatch h
    | some a =>
      cases p with
      | inl q => cases q with
        | none => exact nomatch h
        | some iv => exact subI_ok h (ivA_ok hS a)
      | inr n => exact nomatch h
  | inr n =>
    cases p with
    | inl q => cases q <;> exact nomatch h
    | inr m =>
      have h := of_decide_eq_true h
      subst h
      rfl
theorem mxO_ok {n m : Nat} {ms : Ms} (h : mxO n ms = true) (hn : n ≤ m) : mOK m ms := by
  have h := of_decide_eq_true h
  exact ⟨fun q => Nat.lt_of_lt_of_le (h.1 q) hn, fun q => Nat.lt_of_lt_of_le (h.2.1 q) hn, fun q => Nat.lt_of_lt_of_le (h.2.2 q) hn⟩
theorem chk_ok {G : Gx} {hx : Hx} {X : Hi → Prop} {mt : Mt} {mc : Nat → Co} {cts : List Ctr} (n : Nat) (c : Ctr) (cuts : List Cu) (hO : hxOK hx X) (hmc : okMc mt mc) (hct : ∀ c ∈ cts, CtOK G hx X mt c) (hS : c.2.2.2.2.2.1 = hx.2.2.2) (h : chk hx mt mc cts n c cuts = true) : CtOK G hx X mt c := by
  obtain ⟨mi, dd, bud, as, fa, S, ps⟩ := c
  subst hS
  simp only [chk, Bool.and_eq_true, Bool.not_eq_true', Nat.ble_eq] at h
  obtain ⟨⟨h1, h2, h3⟩, h4⟩ := h
  have hR := run_ok hO hmc hct n
  obtain ⟨hpn, -, -⟩ := hmc mi (fun q => by rw [q] at h1; exact nomatch h1)
  intro k I vs hB hX hA hF
  have hA : argM vs as := hA
  have hF : faM I fa := hF
  show Ct G GAM (mt mi).1 (dd + k) bud vs I (fun o J => (∀ c j, inIv (hx.1 c j) (J c j)) ∧ X J ∧ Fs hx.2.2.2 I J ∧ ∃ p ∈ ps, resM o p.1 ∧ faM J p.2)
  have hend : ∀ (n0 : Nat) (r0 : Nat → Int32) (es : List Ed), es.all (endO hx ps) = true → ∀ e ∈ es, Ge (fun o J => (∀ c j, inIv (hx.1 c j) (J c j)) ∧ X J ∧ Fs hx.2.2.2 I J ∧ ∃ p ∈ ps, resM o p.1 ∧ faM J p.2) n0 r0 (HPof hx X I) e := by
    intro n0 r0 es hes e he r J _ hSa hP hK
    obtain ⟨p, hp, h5⟩ := List.any_eq_true.mp (List.all_eq_true.mp hes e he)
    simp only [Bool.and_eq_true] at h5
    exact ⟨hP.1, hP.2.1, hP.2.2, p, hp, resO_ok hSa h5.1, arF_ok hSa hP.1 hK h5.2⟩
  have hcut : ∀ N, ∀ u ∈ cuts, cutH9 G (mt mi).1 (fun o J => (∀ c j, inIv (hx.1 c j) (J c j)) ∧ X J ∧ Fs hx.2.2.2 I J ∧ ∃ p ∈ ps, resM o p.1 ∧ faM J p.2) (dd + k) (HPof hx X I) N u := by
    intro N
    induction N with
    | zero => intro u _ r J _ _ _ hm; exact absurd hm (Nat.not_lt_zero _)
    | succ N ih =>
      intro u hu r J hSa hP hK hm
      have h5 := List.all_eq_true.mp h4 u hu
      simp only [Bool.and_eq_true] at h5
      obtain ⟨h5, h6⟩ := h5
      unfold allE at h6
      split at h6
      · rename_i es hes
        exact hR _ _ _ _ _ _ _ _ _ _ hes (fun _ h => h) k _ r I (fun u' hu' r' J' a1 a2 a3 a4 => ih u' hu' r' J' a1 a2 a3 (by omega)) (mxO_ok h5 (by unfold spG; rw [List.length_append, List.length_map]; omega)) (hend _ _ es h6) r J (fun _ _ => rfl) hSa hP hK
      · cases h6
  unfold allE at h3
  split at h3
  · rename_i es hes
    have hlen := argM_len hA
    have hml : (spA (mt mi).1.2.2.1 as).length = (mt mi).1.2.2.1 := by
      have h2 : as.length ≤ (mt mi).1.2.2.1 := h2
      unfold spA
      rw [List.length_append, List.length_map, List.length_replicate]
      omega
    have hfa : ∀ (j : Nat) (f : (Nat × Nat) × Iv), fa[j]? = some f → arR vs (mt mi).1.2.2.1 fa I ((mt mi).1.2.2.1 + j) = I f.1.1 f.1.2 := by
      intro j f hf
      unfold arR
      rw [if_neg (by omega), show (mt mi).1.2.2.1 + j - (mt mi).1.2.2.1 = j by omega, hf]
    have hv : ∀ (j : Nat) (x : Int32), vs[j]? = some (.int x) → arR vs (mt mi).1.2.2.1 fa I (0 + j) = x := by
      intro j x hx
      rw [Nat.zero_add]
      have h2 : as.length ≤ (mt mi).1.2.2.1 := h2
      have := (List.getElem?_eq_some_iff.mp hx).1
      unfold arR
      rw [if_pos (by omega), hx]
    have hG := hR _ _ _ _ _ _ _ _ _ _ hes (fun _ h => h) k _ (arR vs (mt mi).1.2.2.1 fa I) I (fun u hu => hcut _ u hu) ⟨fun h => absurd rfl h, fun h => absurd rfl h, fun h => absurd rfl h⟩ (hend _ _ es h3) (arR vs (mt mi).1.2.2.1 fa I) I (fun _ _ => rfl) ?_ ⟨hB, hX, Fs.rf⟩ (fa_new (xs := []) hfa)
    · refine Ct.of hpn (argM_cat hA) (by rw [hlen]; exact h2) ?_ hG
      show evL _ (spL 0 (spA (mt mi).1.2.2.1 as)) = _
      unfold spA
      rw [spL_args _ hA hv, hlen]
    · intro v i hi
      have hi : ((spA (mt mi).1.2.2.1 as).map (fun o => match o with | some (.inl iv) => iv | _ => ivF) ++ fa.map (fun e => e.2))[v]? = some i := hi
      by_cases hlt : v < (mt mi).1.2.2.1
      · rw [List.getElem?_append_left (by rw [List.length_map, hml]; exact hlt), List.getElem?_map] at hi
        by_cases hlt2 : v < as.length
        · unfold spA at hi
          rw [List.getElem?_append_left (by rw [List.length_map]; exact hlt2), List.getElem?_map, List.getElem?_eq_getElem hlt2] at hi
          simp only [Option.map_some, Option.some.injEq] at hi
          split at hi
          · rename_i iv e
            subst hi
            have e := Option.some.inj e
            obtain ⟨x, hx1, hx2⟩ := argM_at (j := v) hA (by rw [List.getElem?_eq_getElem hlt2, e])
            have := hv v x hx1
            rw [Nat.zero_add] at this
            rw [this]
            exact hx2
          · subst hi
            exact inIv_F _
        · unfold spA at hi
          rw [List.getElem?_append_right (by rw [List.length_map]; omega), List.getElem?_replicate] at hi
          split at hi
          · simp at hi
            subst hi
            exact inIv_F _
          · simp at hi
      · rw [List.getElem?_append_right (by rw [List.length_map, hml]; omega), List.length_map, hml, List.getElem?_map] at hi
        cases e : fa[v - (mt mi).1.2.2.1]? with
        | none => rw [e] at hi; exact nomatch hi
        | some f =>
          rw [e] at hi
          cases hi
          have := hfa _ f e
          rw [show (mt mi).1.2.2.1 + (v - (mt mi).1.2.2.1) = v by omega] at this
          rw [this]
          exact hF f (List.mem_of_getElem? e)
  · cases h3
end
