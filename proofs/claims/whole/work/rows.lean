section
-- ===== PART A: goes FIRST, ahead of the names: the tables' words, and 'selects' of the private methods out of them =====
/-- a private method of a class that the tables say can be made, by its rows of tables_1 -/
def lw_okq (q : MethodName × Nat) : Prop := (q.1.cls ≠ "java/lang/invoke/MethodHandle" ∧ q.1.cls ≠ "java/lang/invoke/VarHandle") ∧ Cond.instantiable q.1.cls q.2 ∈ tables_1 ∧ Cond.privateMethod q.1 ∈ tables_1 ∧ Cond.instanceMethod q.1 ∈ tables_1
theorem lw_p0 : lw_okq (⟨"MappedBusNode", "boot", "()V"⟩, 10) := ⟨⟨by decide +kernel, by decide +kernel⟩, List.mem_of_getElem? (i := 16) (by decide +kernel), List.mem_of_getElem? (i := 123) (by decide +kernel), List.mem_of_getElem? (i := 124) (by decide +kernel)⟩
theorem lw_p1 : lw_okq (⟨"MappedBusNode", "beat", "()V"⟩, 10) := ⟨⟨by decide +kernel, by decide +kernel⟩, List.mem_of_getElem? (i := 16) (by decide +kernel), List.mem_of_getElem? (i := 170) (by decide +kernel), List.mem_of_getElem? (i := 171) (by decide +kernel)⟩
theorem lw_p2 : lw_okq (⟨"MappedBusNode", "abort", "(II)V"⟩, 10) := ⟨⟨by decide +kernel, by decide +kernel⟩, List.mem_of_getElem? (i := 16) (by decide +kernel), List.mem_of_getElem? (i := 181) (by decide +kernel), List.mem_of_getElem? (i := 182) (by decide +kernel)⟩
theorem lw_p3 : lw_okq (⟨"MappedBusNode", "answer", "(III)V"⟩, 10) := ⟨⟨by decide +kernel, by decide +kernel⟩, List.mem_of_getElem? (i := 16) (by decide +kernel), List.mem_of_getElem? (i := 185) (by decide +kernel), List.mem_of_getElem? (i := 186) (by decide +kernel)⟩
theorem lw_p4 : lw_okq (⟨"java/lang/Throwable", "fillInStackTrace", "(I)Ljava/lang/Throwable;"⟩, 6) := ⟨⟨by decide +kernel, by decide +kernel⟩, List.mem_of_getElem? (i := 269) (by decide +kernel), List.mem_of_getElem? (i := 267) (by decide +kernel), List.mem_of_getElem? (i := 268) (by decide +kernel)⟩
theorem lw_p5 : lw_okq (⟨"MappedBusNode", "command", "(II)V"⟩, 10) := ⟨⟨by decide +kernel, by decide +kernel⟩, List.mem_of_getElem? (i := 16) (by decide +kernel), List.mem_of_getElem? (i := 294) (by decide +kernel), List.mem_of_getElem? (i := 295) (by decide +kernel)⟩
theorem lw_p6 : lw_okq (⟨"MappedBusNode", "run", "()V"⟩, 10) := ⟨⟨by decide +kernel, by decide +kernel⟩, List.mem_of_getElem? (i := 16) (by decide +kernel), List.mem_of_getElem? (i := 298) (by decide +kernel), List.mem_of_getElem? (i := 299) (by decide +kernel)⟩
theorem lw_p7 : lw_okq (⟨"MappedBusNode$Mapping", "target", "(I)I"⟩, 3) := ⟨⟨by decide +kernel, by decide +kernel⟩, List.mem_of_getElem? (i := 50) (by decide +kernel), List.mem_of_getElem? (i := 315) (by decide +kernel), List.mem_of_getElem? (i := 316) (by decide +kernel)⟩
theorem lw_p8 : lw_okq (⟨"MappedBusNode", "sync", "()V"⟩, 10) := ⟨⟨by decide +kernel, by decide +kernel⟩, List.mem_of_getElem? (i := 16) (by decide +kernel), List.mem_of_getElem? (i := 331) (by decide +kernel), List.mem_of_getElem? (i := 332) (by decide +kernel)⟩
theorem lw_p9 : lw_okq (⟨"MappedBusNode", "giveIfNew", "()V"⟩, 10) := ⟨⟨by decide +kernel, by decide +kernel⟩, List.mem_of_getElem? (i := 16) (by decide +kernel), List.mem_of_getElem? (i := 337) (by decide +kernel), List.mem_of_getElem? (i := 338) (by decide +kernel)⟩
theorem lw_p10 : lw_okq (⟨"MappedBusNode", "give", "()V"⟩, 10) := ⟨⟨by decide +kernel, by decide +kernel⟩, List.mem_of_getElem? (i := 16) (by decide +kernel), List.mem_of_getElem? (i := 341) (by decide +kernel), List.mem_of_getElem? (i := 342) (by decide +kernel)⟩
theorem lw_p11 : lw_okq (⟨"MappedBusNode", "take", "(IJ)V"⟩, 10) := ⟨⟨by decide +kernel, by decide +kernel⟩, List.mem_of_getElem? (i := 16) (by decide +kernel), List.mem_of_getElem? (i := 349) (by decide +kernel), List.mem_of_getElem? (i := 350) (by decide +kernel)⟩
theorem lw_p12 : lw_okq (⟨"MappedBusNode", "request", "(II)V"⟩, 10) := ⟨⟨by decide +kernel, by decide +kernel⟩, List.mem_of_getElem? (i := 16) (by decide +kernel), List.mem_of_getElem? (i := 362) (by decide +kernel), List.mem_of_getElem? (i := 363) (by decide +kernel)⟩
theorem lw_p13 : lw_okq (⟨"MappedBusNode", "writeSegment", "(IJ)V"⟩, 10) := ⟨⟨by decide +kernel, by decide +kernel⟩, List.mem_of_getElem? (i := 16) (by decide +kernel), List.mem_of_getElem? (i := 366) (by decide +kernel), List.mem_of_getElem? (i := 367) (by decide +kernel)⟩
theorem lw_p14 : lw_okq (⟨"MappedBusNode", "segmentFault", "(IZ)I"⟩, 10) := ⟨⟨by decide +kernel, by decide +kernel⟩, List.mem_of_getElem? (i := 16) (by decide +kernel), List.mem_of_getElem? (i := 370) (by decide +kernel), List.mem_of_getElem? (i := 371) (by decide +kernel)⟩
theorem lw_p15 : lw_okq (⟨"MappedBusNode", "storeFault", "(II)I"⟩, 10) := ⟨⟨by decide +kernel, by decide +kernel⟩, List.mem_of_getElem? (i := 16) (by decide +kernel), List.mem_of_getElem? (i := 392) (by decide +kernel), List.mem_of_getElem? (i := 393) (by decide +kernel)⟩
def lw_privs_1 : List (MethodName × Nat) := [(⟨"MappedBusNode", "boot", "()V"⟩, 10), (⟨"MappedBusNode", "beat", "()V"⟩, 10), (⟨"MappedBusNode", "abort", "(II)V"⟩, 10), (⟨"MappedBusNode", "answer", "(III)V"⟩, 10), (⟨"java/lang/Throwable", "fillInStackTrace", "(I)Ljava/lang/Throwable;"⟩, 6), (⟨"MappedBusNode", "command", "(II)V"⟩, 10), (⟨"MappedBusNode", "run", "()V"⟩, 10), (⟨"MappedBusNode$Mapping", "target", "(I)I"⟩, 3), (⟨"MappedBusNode", "sync", "()V"⟩, 10), (⟨"MappedBusNode", "giveIfNew", "()V"⟩, 10), (⟨"MappedBusNode", "give", "()V"⟩, 10), (⟨"MappedBusNode", "take", "(IJ)V"⟩, 10), (⟨"MappedBusNode", "request", "(II)V"⟩, 10), (⟨"MappedBusNode", "writeSegment", "(IJ)V"⟩, 10), (⟨"MappedBusNode", "segmentFault", "(IZ)I"⟩, 10), (⟨"MappedBusNode", "storeFault", "(II)I"⟩, 10)]
theorem lw_r1 : ∀ q ∈ lw_privs_1, lw_okq q := List.forall_mem_cons.mpr ⟨lw_p0, List.forall_mem_cons.mpr ⟨lw_p1, List.forall_mem_cons.mpr ⟨lw_p2, List.forall_mem_cons.mpr ⟨lw_p3, List.forall_mem_cons.mpr ⟨lw_p4, List.forall_mem_cons.mpr ⟨lw_p5, List.forall_mem_cons.mpr ⟨lw_p6, List.forall_mem_cons.mpr ⟨lw_p7, List.forall_mem_cons.mpr ⟨lw_p8, List.forall_mem_cons.mpr ⟨lw_p9, List.forall_mem_cons.mpr ⟨lw_p10, List.forall_mem_cons.mpr ⟨lw_p11, List.forall_mem_cons.mpr ⟨lw_p12, List.forall_mem_cons.mpr ⟨lw_p13, List.forall_mem_cons.mpr ⟨lw_p14, List.forall_mem_cons.mpr ⟨lw_p15, fun _ h => absurd h List.not_mem_nil⟩⟩⟩⟩⟩⟩⟩⟩⟩⟩⟩⟩⟩⟩⟩⟩
theorem lw_p16 : lw_okq (⟨"MappedBusNode", "store", "()V"⟩, 10) := ⟨⟨by decide +kernel, by decide +kernel⟩, List.mem_of_getElem? (i := 16) (by decide +kernel), List.mem_of_getElem? (i := 418) (by decide +kernel), List.mem_of_getElem? (i := 419) (by decide +kernel)⟩
theorem lw_p17 : lw_okq (⟨"MappedBusNode", "write", "(III)V"⟩, 10) := ⟨⟨by decide +kernel, by decide +kernel⟩, List.mem_of_getElem? (i := 16) (by decide +kernel), List.mem_of_getElem? (i := 431) (by decide +kernel), List.mem_of_getElem? (i := 432) (by decide +kernel)⟩
theorem lw_p18 : lw_okq (⟨"MappedBusNode", "entryAt", "(I)I"⟩, 10) := ⟨⟨by decide +kernel, by decide +kernel⟩, List.mem_of_getElem? (i := 16) (by decide +kernel), List.mem_of_getElem? (i := 435) (by decide +kernel), List.mem_of_getElem? (i := 436) (by decide +kernel)⟩
theorem lw_p19 : lw_okq (⟨"MappedBusNode", "accessFault", "(III)I"⟩, 10) := ⟨⟨by decide +kernel, by decide +kernel⟩, List.mem_of_getElem? (i := 16) (by decide +kernel), List.mem_of_getElem? (i := 440) (by decide +kernel), List.mem_of_getElem? (i := 441) (by decide +kernel)⟩
theorem lw_p20 : lw_okq (⟨"MappedBusNode", "read", "(I)V"⟩, 10) := ⟨⟨by decide +kernel, by decide +kernel⟩, List.mem_of_getElem? (i := 16) (by decide +kernel), List.mem_of_getElem? (i := 462) (by decide +kernel), List.mem_of_getElem? (i := 463) (by decide +kernel)⟩
theorem lw_p21 : lw_okq (⟨"MappedBusNode", "readSegment", "(I)V"⟩, 10) := ⟨⟨by decide +kernel, by decide +kernel⟩, List.mem_of_getElem? (i := 16) (by decide +kernel), List.mem_of_getElem? (i := 466) (by decide +kernel), List.mem_of_getElem? (i := 467) (by decide +kernel)⟩
theorem lw_p22 : lw_okq (⟨"MappedBusNode", "giveWhenChanged", "()V"⟩, 10) := ⟨⟨by decide +kernel, by decide +kernel⟩, List.mem_of_getElem? (i := 16) (by decide +kernel), List.mem_of_getElem? (i := 470) (by decide +kernel), List.mem_of_getElem? (i := 471) (by decide +kernel)⟩
theorem lw_p23 : lw_okq (⟨"MappedBusNodeModel", "add", "(IIII)V"⟩, 27) := ⟨⟨by decide +kernel, by decide +kernel⟩, List.mem_of_getElem? (i := 531) (by decide +kernel), List.mem_of_getElem? (i := 537) (by decide +kernel), List.mem_of_getElem? (i := 538) (by decide +kernel)⟩
theorem lw_p24 : lw_okq (⟨"MappedBusNodeModel", "addMap", "(I)V"⟩, 27) := ⟨⟨by decide +kernel, by decide +kernel⟩, List.mem_of_getElem? (i := 531) (by decide +kernel), List.mem_of_getElem? (i := 541) (by decide +kernel), List.mem_of_getElem? (i := 542) (by decide +kernel)⟩
theorem lw_p25 : lw_okq (⟨"MappedBusNodeModel", "reset", "(I)V"⟩, 27) := ⟨⟨by decide +kernel, by decide +kernel⟩, List.mem_of_getElem? (i := 531) (by decide +kernel), List.mem_of_getElem? (i := 546) (by decide +kernel), List.mem_of_getElem? (i := 547) (by decide +kernel)⟩
theorem lw_p26 : lw_okq (⟨"MappedBusNodeModel", "boot", "()V"⟩, 27) := ⟨⟨by decide +kernel, by decide +kernel⟩, List.mem_of_getElem? (i := 531) (by decide +kernel), List.mem_of_getElem? (i := 551) (by decide +kernel), List.mem_of_getElem? (i := 552) (by decide +kernel)⟩
theorem lw_p27 : lw_okq (⟨"MappedBusNodeModel", "send", "(IIJ)V"⟩, 27) := ⟨⟨by decide +kernel, by decide +kernel⟩, List.mem_of_getElem? (i := 531) (by decide +kernel), List.mem_of_getElem? (i := 555) (by decide +kernel), List.mem_of_getElem? (i := 556) (by decide +kernel)⟩
theorem lw_p28 : lw_okq (⟨"MappedBusNodeModel", "command", "(I)V"⟩, 27) := ⟨⟨by decide +kernel, by decide +kernel⟩, List.mem_of_getElem? (i := 531) (by decide +kernel), List.mem_of_getElem? (i := 658) (by decide +kernel), List.mem_of_getElem? (i := 659) (by decide +kernel)⟩
theorem lw_p29 : lw_okq (⟨"MappedBusNodeModel", "content", "()J"⟩, 27) := ⟨⟨by decide +kernel, by decide +kernel⟩, List.mem_of_getElem? (i := 531) (by decide +kernel), List.mem_of_getElem? (i := 662) (by decide +kernel), List.mem_of_getElem? (i := 663) (by decide +kernel)⟩
theorem lw_p30 : lw_okq (⟨"MappedBusNodeModel", "number", "(I)I"⟩, 27) := ⟨⟨by decide +kernel, by decide +kernel⟩, List.mem_of_getElem? (i := 531) (by decide +kernel), List.mem_of_getElem? (i := 666) (by decide +kernel), List.mem_of_getElem? (i := 667) (by decide +kernel)⟩
theorem lw_p31 : lw_okq (⟨"MappedBusNodeModel", "named", "(II)I"⟩, 27) := ⟨⟨by decide +kernel, by decide +kernel⟩, List.mem_of_getElem? (i := 531) (by decide +kernel), List.mem_of_getElem? (i := 670) (by decide +kernel), List.mem_of_getElem? (i := 671) (by decide +kernel)⟩
def lw_privs_2 : List (MethodName × Nat) := [(⟨"MappedBusNode", "store", "()V"⟩, 10), (⟨"MappedBusNode", "write", "(III)V"⟩, 10), (⟨"MappedBusNode", "entryAt", "(I)I"⟩, 10), (⟨"MappedBusNode", "accessFault", "(III)I"⟩, 10), (⟨"MappedBusNode", "read", "(I)V"⟩, 10), (⟨"MappedBusNode", "readSegment", "(I)V"⟩, 10), (⟨"MappedBusNode", "giveWhenChanged", "()V"⟩, 10), (⟨"MappedBusNodeModel", "add", "(IIII)V"⟩, 27), (⟨"MappedBusNodeModel", "addMap", "(I)V"⟩, 27), (⟨"MappedBusNodeModel", "reset", "(I)V"⟩, 27), (⟨"MappedBusNodeModel", "boot", "()V"⟩, 27), (⟨"MappedBusNodeModel", "send", "(IIJ)V"⟩, 27), (⟨"MappedBusNodeModel", "command", "(I)V"⟩, 27), (⟨"MappedBusNodeModel", "content", "()J"⟩, 27), (⟨"MappedBusNodeModel", "number", "(I)I"⟩, 27), (⟨"MappedBusNodeModel", "named", "(II)I"⟩, 27)]
theorem lw_r2 : ∀ q ∈ lw_privs_2, lw_okq q := List.forall_mem_cons.mpr ⟨lw_p16, List.forall_mem_cons.mpr ⟨lw_p17, List.forall_mem_cons.mpr ⟨lw_p18, List.forall_mem_cons.mpr ⟨lw_p19, List.forall_mem_cons.mpr ⟨lw_p20, List.forall_mem_cons.mpr ⟨lw_p21, List.forall_mem_cons.mpr ⟨lw_p22, List.forall_mem_cons.mpr ⟨lw_p23, List.forall_mem_cons.mpr ⟨lw_p24, List.forall_mem_cons.mpr ⟨lw_p25, List.forall_mem_cons.mpr ⟨lw_p26, List.forall_mem_cons.mpr ⟨lw_p27, List.forall_mem_cons.mpr ⟨lw_p28, List.forall_mem_cons.mpr ⟨lw_p29, List.forall_mem_cons.mpr ⟨lw_p30, List.forall_mem_cons.mpr ⟨lw_p31, fun _ h => absurd h List.not_mem_nil⟩⟩⟩⟩⟩⟩⟩⟩⟩⟩⟩⟩⟩⟩⟩⟩
theorem lw_p32 : lw_okq (⟨"MappedBusNodeModel", "sync", "()V"⟩, 27) := ⟨⟨by decide +kernel, by decide +kernel⟩, List.mem_of_getElem? (i := 531) (by decide +kernel), List.mem_of_getElem? (i := 674) (by decide +kernel), List.mem_of_getElem? (i := 675) (by decide +kernel)⟩
theorem lw_p33 : lw_okq (⟨"MappedBusNodeModel", "give", "()V"⟩, 27) := ⟨⟨by decide +kernel, by decide +kernel⟩, List.mem_of_getElem? (i := 531) (by decide +kernel), List.mem_of_getElem? (i := 678) (by decide +kernel), List.mem_of_getElem? (i := 679) (by decide +kernel)⟩
theorem lw_p34 : lw_okq (⟨"MappedBusNodeModel", "lengthOf", "(II)I"⟩, 27) := ⟨⟨by decide +kernel, by decide +kernel⟩, List.mem_of_getElem? (i := 531) (by decide +kernel), List.mem_of_getElem? (i := 682) (by decide +kernel), List.mem_of_getElem? (i := 683) (by decide +kernel)⟩
theorem lw_p35 : lw_okq (⟨"MappedBusNodeModel", "take", "(IJ)V"⟩, 27) := ⟨⟨by decide +kernel, by decide +kernel⟩, List.mem_of_getElem? (i := 531) (by decide +kernel), List.mem_of_getElem? (i := 689) (by decide +kernel), List.mem_of_getElem? (i := 690) (by decide +kernel)⟩
theorem lw_p36 : lw_okq (⟨"MappedBusNodeModel", "ask", "(J)V"⟩, 27) := ⟨⟨by decide +kernel, by decide +kernel⟩, List.mem_of_getElem? (i := 531) (by decide +kernel), List.mem_of_getElem? (i := 693) (by decide +kernel), List.mem_of_getElem? (i := 694) (by decide +kernel)⟩
theorem lw_p37 : lw_okq (⟨"MappedBusNodeModel", "writeSegment", "(I)V"⟩, 27) := ⟨⟨by decide +kernel, by decide +kernel⟩, List.mem_of_getElem? (i := 531) (by decide +kernel), List.mem_of_getElem? (i := 697) (by decide +kernel), List.mem_of_getElem? (i := 698) (by decide +kernel)⟩
theorem lw_p38 : lw_okq (⟨"MappedBusNodeModel", "abort", "(IZ)V"⟩, 27) := ⟨⟨by decide +kernel, by decide +kernel⟩, List.mem_of_getElem? (i := 531) (by decide +kernel), List.mem_of_getElem? (i := 702) (by decide +kernel), List.mem_of_getElem? (i := 703) (by decide +kernel)⟩
theorem lw_p39 : lw_okq (⟨"MappedBusNodeModel", "answer", "(IIII)V"⟩, 27) := ⟨⟨by decide +kernel, by decide +kernel⟩, List.mem_of_getElem? (i := 531) (by decide +kernel), List.mem_of_getElem? (i := 707) (by decide +kernel), List.mem_of_getElem? (i := 708) (by decide +kernel)⟩
theorem lw_p40 : lw_okq (⟨"MappedBusNodeModel", "store", "(I)Z"⟩, 27) := ⟨⟨by decide +kernel, by decide +kernel⟩, List.mem_of_getElem? (i := 531) (by decide +kernel), List.mem_of_getElem? (i := 714) (by decide +kernel), List.mem_of_getElem? (i := 715) (by decide +kernel)⟩
theorem lw_p41 : lw_okq (⟨"MappedBusNodeModel", "storing", "(I)I"⟩, 27) := ⟨⟨by decide +kernel, by decide +kernel⟩, List.mem_of_getElem? (i := 531) (by decide +kernel), List.mem_of_getElem? (i := 718) (by decide +kernel), List.mem_of_getElem? (i := 719) (by decide +kernel)⟩
theorem lw_p42 : lw_okq (⟨"MappedBusNodeModel", "write", "(I)V"⟩, 27) := ⟨⟨by decide +kernel, by decide +kernel⟩, List.mem_of_getElem? (i := 531) (by decide +kernel), List.mem_of_getElem? (i := 727) (by decide +kernel), List.mem_of_getElem? (i := 728) (by decide +kernel)⟩
theorem lw_p43 : lw_okq (⟨"MappedBusNodeModel", "find", "(II)I"⟩, 27) := ⟨⟨by decide +kernel, by decide +kernel⟩, List.mem_of_getElem? (i := 531) (by decide +kernel), List.mem_of_getElem? (i := 731) (by decide +kernel), List.mem_of_getElem? (i := 732) (by decide +kernel)⟩
theorem lw_p44 : lw_okq (⟨"MappedBusNodeModel", "begin", "(II)V"⟩, 27) := ⟨⟨by decide +kernel, by decide +kernel⟩, List.mem_of_getElem? (i := 531) (by decide +kernel), List.mem_of_getElem? (i := 738) (by decide +kernel), List.mem_of_getElem? (i := 739) (by decide +kernel)⟩
theorem lw_p45 : lw_okq (⟨"MappedBusNodeModel", "read", "()V"⟩, 27) := ⟨⟨by decide +kernel, by decide +kernel⟩, List.mem_of_getElem? (i := 531) (by decide +kernel), List.mem_of_getElem? (i := 742) (by decide +kernel), List.mem_of_getElem? (i := 743) (by decide +kernel)⟩
theorem lw_p46 : lw_okq (⟨"MappedBusNodeModel", "readSegment", "(I)V"⟩, 27) := ⟨⟨by decide +kernel, by decide +kernel⟩, List.mem_of_getElem? (i := 531) (by decide +kernel), List.mem_of_getElem? (i := 747) (by decide +kernel), List.mem_of_getElem? (i := 748) (by decide +kernel)⟩
theorem lw_p47 : lw_okq (⟨"MappedBusNodeModel", "end", "()V"⟩, 27) := ⟨⟨by decide +kernel, by decide +kernel⟩, List.mem_of_getElem? (i := 531) (by decide +kernel), List.mem_of_getElem? (i := 751) (by decide +kernel), List.mem_of_getElem? (i := 752) (by decide +kernel)⟩
def lw_privs_3 : List (MethodName × Nat) := [(⟨"MappedBusNodeModel", "sync", "()V"⟩, 27), (⟨"MappedBusNodeModel", "give", "()V"⟩, 27), (⟨"MappedBusNodeModel", "lengthOf", "(II)I"⟩, 27), (⟨"MappedBusNodeModel", "take", "(IJ)V"⟩, 27), (⟨"MappedBusNodeModel", "ask", "(J)V"⟩, 27), (⟨"MappedBusNodeModel", "writeSegment", "(I)V"⟩, 27), (⟨"MappedBusNodeModel", "abort", "(IZ)V"⟩, 27), (⟨"MappedBusNodeModel", "answer", "(IIII)V"⟩, 27), (⟨"MappedBusNodeModel", "store", "(I)Z"⟩, 27), (⟨"MappedBusNodeModel", "storing", "(I)I"⟩, 27), (⟨"MappedBusNodeModel", "write", "(I)V"⟩, 27), (⟨"MappedBusNodeModel", "find", "(II)I"⟩, 27), (⟨"MappedBusNodeModel", "begin", "(II)V"⟩, 27), (⟨"MappedBusNodeModel", "read", "()V"⟩, 27), (⟨"MappedBusNodeModel", "readSegment", "(I)V"⟩, 27), (⟨"MappedBusNodeModel", "end", "()V"⟩, 27)]
theorem lw_r3 : ∀ q ∈ lw_privs_3, lw_okq q := List.forall_mem_cons.mpr ⟨lw_p32, List.forall_mem_cons.mpr ⟨lw_p33, List.forall_mem_cons.mpr ⟨lw_p34, List.forall_mem_cons.mpr ⟨lw_p35, List.forall_mem_cons.mpr ⟨lw_p36, List.forall_mem_cons.mpr ⟨lw_p37, List.forall_mem_cons.mpr ⟨lw_p38, List.forall_mem_cons.mpr ⟨lw_p39, List.forall_mem_cons.mpr ⟨lw_p40, List.forall_mem_cons.mpr ⟨lw_p41, List.forall_mem_cons.mpr ⟨lw_p42, List.forall_mem_cons.mpr ⟨lw_p43, List.forall_mem_cons.mpr ⟨lw_p44, List.forall_mem_cons.mpr ⟨lw_p45, List.forall_mem_cons.mpr ⟨lw_p46, List.forall_mem_cons.mpr ⟨lw_p47, fun _ h => absurd h List.not_mem_nil⟩⟩⟩⟩⟩⟩⟩⟩⟩⟩⟩⟩⟩⟩⟩⟩
def lw_privs : List (MethodName × Nat) := lw_privs_1 ++ (lw_privs_2 ++ (lw_privs_3))
def lw_tbl : List Cond := k2_sels lw_privs ++ tables_1
theorem lw_privs_ok : ∀ q ∈ lw_privs, lw_okq q := by
  show ∀ q ∈ lw_privs_1 ++ (lw_privs_2 ++ (lw_privs_3)), lw_okq q
  exact List.forall_mem_append.mpr ⟨lw_r1, List.forall_mem_append.mpr ⟨lw_r2, lw_r3⟩⟩
end
section
/-! the words of the tables that ride: every contract's own words are its code and these -/
def wb : List Cond := lw_tbl.filter goodWord
theorem wb_t {w : Cond} (i : Nat) (h : tables_1[i]? = some w) (hg : goodWord w = true) : w ∈ wb := List.mem_filter.mpr ⟨List.mem_append_right _ (List.mem_of_getElem? h), hg⟩
theorem wb_t1 {w : Cond} (i : Nat) (h : tables_1_1[i]? = some w) (hg : goodWord w = true) : w ∈ wb := List.mem_filter.mpr ⟨List.mem_append_right _ (List.mem_append_left _ (List.mem_of_getElem? h)), hg⟩
theorem wb_t2 {w : Cond} (i : Nat) (h : tables_1_2[i]? = some w) (hg : goodWord w = true) : w ∈ wb := List.mem_filter.mpr ⟨List.mem_append_right _ (List.mem_append_right _ (List.mem_append_left _ (List.mem_of_getElem? h))), hg⟩
theorem wb_t3 {w : Cond} (i : Nat) (h : tables_1_3[i]? = some w) (hg : goodWord w = true) : w ∈ wb := List.mem_filter.mpr ⟨List.mem_append_right _ (List.mem_append_right _ (List.mem_append_right _ (List.mem_append_left _ (List.mem_of_getElem? h)))), hg⟩
theorem wb_t4 {w : Cond} (i : Nat) (h : tables_1_4[i]? = some w) (hg : goodWord w = true) : w ∈ wb := List.mem_filter.mpr ⟨List.mem_append_right _ (List.mem_append_right _ (List.mem_append_right _ (List.mem_append_right _ (List.mem_of_getElem? h)))), hg⟩
theorem wb_s {w : Cond} (i : Nat) (h : (k2_sels lw_privs)[i]? = some w) (hg : goodWord w = true) : w ∈ wb := List.mem_filter.mpr ⟨List.mem_append_left _ (List.mem_of_getElem? h), hg⟩
theorem wb_good {w : Cond} (h : w ∈ wb) : goodWord w = true := (List.mem_filter.mp h).2
theorem wb_gd {c : Cond} (h : c ∈ wb) : GoodIn wb (c :: wb) := fun w hw => by
  rcases List.mem_cons.mp hw with rfl | hw
  · exact ⟨h, good_of_word (wb_good h)⟩
  · exact ⟨hw, good_of_word (wb_good hw)⟩
theorem wb_V {own C : String} {i : Nat} {y : MethodName} {c : Cond} (h1 : Cond.methodLink own i y ∈ wb) (h2 : Cond.instanceMethod y ∈ wb) (h3 : Cond.selects C y y ∈ wb) (h4 : Cond.initialized C ∈ wb) (h5 : c ∈ wb) : GoodIn wb (wsV own i C y (c :: wb)) := fun w hw => by
  simp only [wsV, List.cons_append, List.nil_append, List.mem_cons] at hw
  rcases hw with rfl | rfl | rfl | rfl | hw
  · exact ⟨h1, good_of_word (wb_good h1)⟩
  · exact ⟨h2, good_of_word (wb_good h2)⟩
  · exact ⟨h3, good_of_word (wb_good h3)⟩
  · exact ⟨h4, good_of_word (wb_good h4)⟩
  · exact wb_gd h5 w (List.mem_cons.mpr hw)
theorem wb_S {own : String} {i : Nat} {y : MethodName} {c : Cond} (h1 : Cond.methodLink own i y ∈ wb) (h2 : Cond.static y ∈ wb) (h4 : Cond.initialized y.cls ∈ wb) (h5 : c ∈ wb) : GoodIn wb (va_wsS own i y (c :: wb)) := fun w hw => by
  simp only [va_wsS, List.cons_append, List.nil_append, List.mem_cons] at hw
  rcases hw with rfl | rfl | rfl | hw
  · exact ⟨h1, good_of_word (wb_good h1)⟩
  · exact ⟨h2, good_of_word (wb_good h2)⟩
  · exact ⟨h4, good_of_word (wb_good h4)⟩
  · exact wb_gd h5 w (List.mem_cons.mpr hw)

def RX0 : String := "MappedBusNode$Dictionary"
def TX0 : u_T := fun k => match k with
  | _ => ("MappedBusNode$Dictionary", "bytes", "[I", true)
def tyX0 : Nat → FieldType := fun k => match k with
  | _ => .array .int
theorem nmX0 : ∀ a, a < 1 → ∀ b, b < 1 → a ≠ b → (TX0 a).2.1 ≠ (TX0 b).2.1 := by decide +kernel
theorem tyX0_ok : ∀ k, k < 1 → parseFieldDescriptor (TX0 k).2.2.1 = some (tyX0 k) := by decide +kernel
theorem inX0_t : ∀ w ∈ u_ws RX0 TX0 1, w ∈ tables_1 ∧ goodWord w = true := by decide +kernel
theorem inX0 : ∀ w ∈ u_ws RX0 TX0 1, w ∈ wb := fun w h => List.mem_filter.mpr ⟨List.mem_append_right _ (inX0_t w h).1, (inX0_t w h).2⟩
def RX1 : String := "MappedBusNode$Mapping"
def TX1 : u_T := fun k => match k with
  | 0 => ("MappedBusNode$Mapping", "dictionary", "LMappedBusNode$Dictionary;", true)
  | 1 => ("MappedBusNode$Mapping", "countEntry", "I", true)
  | _ => ("MappedBusNode$Mapping", "rights", "I", true)
def tyX1 : Nat → FieldType := fun k => match k with
  | 0 => .object "MappedBusNode$Dictionary"
  | 1 => .int
  | _ => .int
theorem nmX1 : ∀ a, a < 3 → ∀ b, b < 3 → a ≠ b → (TX1 a).2.1 ≠ (TX1 b).2.1 := by decide +kernel
theorem tyX1_ok : ∀ k, k < 3 → parseFieldDescriptor (TX1 k).2.2.1 = some (tyX1 k) := by decide +kernel
theorem inX1_t : ∀ w ∈ u_ws RX1 TX1 3, w ∈ tables_1 ∧ goodWord w = true := by decide +kernel
theorem inX1 : ∀ w ∈ u_ws RX1 TX1 3, w ∈ wb := fun w h => List.mem_filter.mpr ⟨List.mem_append_right _ (inX1_t w h).1, (inX1_t w h).2⟩
def RX2 : String := "MappedBusNode$Outbox"
def TX2 : u_T := fun k => match k with
  | 0 => ("MappedBusNode$Outbox", "parts", "[I", true)
  | 1 => ("MappedBusNode$Outbox", "kept", "I", false)
  | _ => ("MappedBusNode$Outbox", "sent", "I", false)
def tyX2 : Nat → FieldType := fun k => match k with
  | 0 => .array .int
  | 1 => .int
  | _ => .int
theorem nmX2 : ∀ a, a < 3 → ∀ b, b < 3 → a ≠ b → (TX2 a).2.1 ≠ (TX2 b).2.1 := by decide +kernel
theorem tyX2_ok : ∀ k, k < 3 → parseFieldDescriptor (TX2 k).2.2.1 = some (tyX2 k) := by decide +kernel
theorem inX2_t : ∀ w ∈ u_ws RX2 TX2 3, w ∈ tables_1 ∧ goodWord w = true := by decide +kernel
theorem inX2 : ∀ w ∈ u_ws RX2 TX2 3, w ∈ wb := fun w h => List.mem_filter.mpr ⟨List.mem_append_right _ (inX2_t w h).1, (inX2_t w h).2⟩
def RX3 : String := "MappedBusNode$Transfer"
def TX3 : u_T := fun k => match k with
  | 0 => ("MappedBusNode$Transfer", "bytes", "[I", true)
  | 1 => ("MappedBusNode$Transfer", "going", "Z", false)
  | 2 => ("MappedBusNode$Transfer", "writing", "Z", false)
  | 3 => ("MappedBusNode$Transfer", "entry", "I", false)
  | 4 => ("MappedBusNode$Transfer", "address", "I", false)
  | 5 => ("MappedBusNode$Transfer", "done", "I", false)
  | 6 => ("MappedBusNode$Transfer", "turn", "I", false)
  | _ => ("MappedBusNode$Transfer", "ticks", "I", false)
def tyX3 : Nat → FieldType := fun k => match k with
  | 0 => .array .int
  | 1 => .boolean
  | 2 => .boolean
  | 3 => .int
  | 4 => .int
  | 5 => .int
  | 6 => .int
  | _ => .int
theorem nmX3 : ∀ a, a < 8 → ∀ b, b < 8 → a ≠ b → (TX3 a).2.1 ≠ (TX3 b).2.1 := by decide +kernel
theorem tyX3_ok : ∀ k, k < 8 → parseFieldDescriptor (TX3 k).2.2.1 = some (tyX3 k) := by decide +kernel
theorem inX3_t : ∀ w ∈ u_ws RX3 TX3 8, w ∈ tables_1 ∧ goodWord w = true := by decide +kernel
theorem inX3 : ∀ w ∈ u_ws RX3 TX3 8, w ∈ wb := fun w h => List.mem_filter.mpr ⟨List.mem_append_right _ (inX3_t w h).1, (inX3_t w h).2⟩
def RX4 : String := "MappedBusNode"
def TX4 : u_T := fun k => match k with
  | 0 => ("MappedBusNode", "number", "I", true)
  | 1 => ("MappedBusNode", "dictionary", "LMappedBusNode$Dictionary;", true)
  | 2 => ("MappedBusNode", "taking", "LMappedBusNode$Mapping;", true)
  | 3 => ("MappedBusNode", "giving", "LMappedBusNode$Mapping;", true)
  | 4 => ("MappedBusNode", "outbox", "LMappedBusNode$Outbox;", true)
  | 5 => ("MappedBusNode", "transfer", "LMappedBusNode$Transfer;", true)
  | 6 => ("MappedBusNode", "state", "I", false)
  | 7 => ("MappedBusNode", "syncCount", "I", false)
  | 8 => ("MappedBusNode", "lifeCount", "I", false)
  | _ => ("MappedBusNode", "given", "J", false)
def tyX4 : Nat → FieldType := fun k => match k with
  | 0 => .int
  | 1 => .object "MappedBusNode$Dictionary"
  | 2 => .object "MappedBusNode$Mapping"
  | 3 => .object "MappedBusNode$Mapping"
  | 4 => .object "MappedBusNode$Outbox"
  | 5 => .object "MappedBusNode$Transfer"
  | 6 => .int
  | 7 => .int
  | 8 => .int
  | _ => .long
theorem nmX4 : ∀ a, a < 10 → ∀ b, b < 10 → a ≠ b → (TX4 a).2.1 ≠ (TX4 b).2.1 := by decide +kernel
theorem tyX4_ok : ∀ k, k < 10 → parseFieldDescriptor (TX4 k).2.2.1 = some (tyX4 k) := by decide +kernel
theorem inX4_t : ∀ w ∈ u_ws RX4 TX4 10, w ∈ tables_1 ∧ goodWord w = true := by decide +kernel
theorem inX4 : ∀ w ∈ u_ws RX4 TX4 10, w ∈ wb := fun w h => List.mem_filter.mpr ⟨List.mem_append_right _ (inX4_t w h).1, (inX4_t w h).2⟩
def RX5 : String := "MappedBusNodeModel"
def TX5 : u_T := fun k => match k with
  | 0 => ("MappedBusNodeModel", "thrown", "I", false)
  | 1 => ("MappedBusNodeModel", "node", "I", true)
  | 2 => ("MappedBusNodeModel", "indexes", "[I", true)
  | 3 => ("MappedBusNodeModel", "subs", "[I", true)
  | 4 => ("MappedBusNodeModel", "sizes", "[I", true)
  | 5 => ("MappedBusNodeModel", "rights", "[I", true)
  | 6 => ("MappedBusNodeModel", "places", "[I", true)
  | 7 => ("MappedBusNodeModel", "bytes", "[I", true)
  | 8 => ("MappedBusNodeModel", "entries", "I", false)
  | 9 => ("MappedBusNodeModel", "filled", "I", false)
  | 10 => ("MappedBusNodeModel", "state", "I", false)
  | 11 => ("MappedBusNodeModel", "lifeCount", "I", false)
  | 12 => ("MappedBusNodeModel", "syncCount", "I", false)
  | 13 => ("MappedBusNodeModel", "given", "J", false)
  | 14 => ("MappedBusNodeModel", "transfer", "I", false)
  | 15 => ("MappedBusNodeModel", "entry", "I", false)
  | 16 => ("MappedBusNodeModel", "due", "I", false)
  | 17 => ("MappedBusNodeModel", "done", "I", false)
  | 18 => ("MappedBusNodeModel", "ticks", "I", false)
  | 19 => ("MappedBusNodeModel", "held", "[I", true)
  | 20 => ("MappedBusNodeModel", "request", "J", false)
  | 21 => ("MappedBusNodeModel", "segment", "Z", false)
  | 22 => ("MappedBusNodeModel", "outIds", "[I", true)
  | 23 => ("MappedBusNodeModel", "outLengths", "[I", true)
  | 24 => ("MappedBusNodeModel", "outBytes", "[J", true)
  | 25 => ("MappedBusNodeModel", "outs", "I", false)
  | _ => ("MappedBusNodeModel", "sent", "I", false)
def tyX5 : Nat → FieldType := fun k => match k with
  | 0 => .int
  | 1 => .int
  | 2 => .array .int
  | 3 => .array .int
  | 4 => .array .int
  | 5 => .array .int
  | 6 => .array .int
  | 7 => .array .int
  | 8 => .int
  | 9 => .int
  | 10 => .int
  | 11 => .int
  | 12 => .int
  | 13 => .long
  | 14 => .int
  | 15 => .int
  | 16 => .int
  | 17 => .int
  | 18 => .int
  | 19 => .array .int
  | 20 => .long
  | 21 => .boolean
  | 22 => .array .int
  | 23 => .array .int
  | 24 => .array .long
  | 25 => .int
  | _ => .int
theorem nmX5 : ∀ a, a < 27 → ∀ b, b < 27 → a ≠ b → (TX5 a).2.1 ≠ (TX5 b).2.1 := by decide +kernel
theorem tyX5_ok : ∀ k, k < 27 → parseFieldDescriptor (TX5 k).2.2.1 = some (tyX5 k) := by decide +kernel
theorem inX5_t : ∀ w ∈ u_ws RX5 TX5 27, w ∈ tables_1 ∧ goodWord w = true := by decide +kernel
theorem inX5 : ∀ w ∈ u_ws RX5 TX5 27, w ∈ wb := fun w h => List.mem_filter.mpr ⟨List.mem_append_right _ (inX5_t w h).1, (inX5_t w h).2⟩
def RL : String := "MappedBusNodeLaw"
abbrev vwCl : List vw_C := [(RX0, TX0, 1), (RX1, TX1, 3), (RX2, TX2, 3), (RX3, TX3, 8), (RX4, TX4, 10), (RX5, TX5, 27)]
abbrev cX4_init : ByteArray := prog_1_method_1_code
def yX4_init : MethodName := ⟨RX4, "<init>", "(I)V"⟩
abbrev wX4_init : Cond := .code yX4_init cX4_init 3 none
theorem kD_X4_init : wX4_init ∈ wb := wb_t1 19 rfl rfl
abbrev cX0_init : ByteArray := prog_2_method_1_code
def yX0_init : MethodName := ⟨RX0, "<init>", "()V"⟩
abbrev wX0_init : Cond := .code yX0_init cX0_init 1 none
theorem kD_X0_init : wX0_init ∈ wb := wb_t1 33 rfl rfl
abbrev cX0_resetAll : ByteArray := prog_2_method_2_code
def yX0_resetAll : MethodName := ⟨RX0, "resetAll", "()V"⟩
abbrev wX0_resetAll : Cond := .code yX0_resetAll cX0_resetAll 1 none
theorem kD_X0_resetAll : wX0_resetAll ∈ wb := wb_t1 38 rfl rfl
abbrev cX1_init : ByteArray := prog_3_method_1_code
def yX1_init : MethodName := ⟨RX1, "<init>", "(LMappedBusNode$Dictionary;II)V"⟩
abbrev wX1_init : Cond := .code yX1_init cX1_init 4 none
theorem kD_X1_init : wX1_init ∈ wb := wb_t1 53 rfl rfl
abbrev cX2_init : ByteArray := prog_4_method_1_code
def yX2_init : MethodName := ⟨RX2, "<init>", "()V"⟩
abbrev wX2_init : Cond := .code yX2_init cX2_init 1 none
theorem kD_X2_init : wX2_init ∈ wb := wb_t1 69 rfl rfl
abbrev cX3_init : ByteArray := prog_5_method_1_code
def yX3_init : MethodName := ⟨RX3, "<init>", "()V"⟩
abbrev wX3_init : Cond := .code yX3_init cX3_init 1 none
theorem kD_X3_init : wX3_init ∈ wb := wb_t1 87 rfl rfl
abbrev cX4_boot : ByteArray := prog_1_method_13_code
def yX4_boot : MethodName := ⟨RX4, "boot", "()V"⟩
abbrev wX4_boot : Cond := .code yX4_boot cX4_boot 1 none
theorem kD_X4_boot : wX4_boot ∈ wb := wb_t1 125 rfl rfl
abbrev cX3_end : ByteArray := prog_5_method_3_code
def yX3_end : MethodName := ⟨RX3, "end", "()V"⟩
abbrev wX3_end : Cond := .code yX3_end cX3_end 1 none
theorem kD_X3_end : wX3_end ∈ wb := wb_t1 129 rfl rfl
abbrev cX2_send : ByteArray := prog_4_method_2_code
def yX2_send : MethodName := ⟨RX2, "send", "(IIJ)V"⟩
abbrev wX2_send : Cond := .code yX2_send cX2_send 6 none
theorem kD_X2_send : wX2_send ∈ wb := wb_t1 133 rfl rfl
abbrev cX4_tick : ByteArray := prog_1_method_3_code
def yX4_tick : MethodName := ⟨RX4, "tick", "()I"⟩
abbrev wX4_tick : Cond := .code yX4_tick cX4_tick 2 (some .int)
theorem kD_X4_tick : wX4_tick ∈ wb := wb_t1 168 rfl rfl
abbrev cX4_beat : ByteArray := prog_1_method_14_code
def yX4_beat : MethodName := ⟨RX4, "beat", "()V"⟩
abbrev wX4_beat : Cond := .code yX4_beat cX4_beat 2 none
theorem kD_X4_beat : wX4_beat ∈ wb := wb_t1 172 rfl rfl
abbrev cX0_part : ByteArray := prog_2_method_10_code
def yX0_part : MethodName := ⟨RX0, "part", "(III)J"⟩
abbrev wX0_part : Cond := .code yX0_part cX0_part 8 (some .long)
theorem kD_X0_part : wX0_part ∈ wb := wb_t1 176 rfl rfl
abbrev cX4_abort : ByteArray := prog_1_method_28_code
def yX4_abort : MethodName := ⟨RX4, "abort", "(II)V"⟩
abbrev wX4_abort : Cond := .code yX4_abort cX4_abort 3 none
theorem kD_X4_abort : wX4_abort ∈ wb := wb_t1 183 rfl rfl
abbrev cX4_answer : ByteArray := prog_1_method_27_code
def yX4_answer : MethodName := ⟨RX4, "answer", "(III)V"⟩
abbrev wX4_answer : Cond := .code yX4_answer cX4_answer 4 none
theorem kD_X4_answer : wX4_answer ∈ wb := wb_t1 187 rfl rfl
abbrev cX4_joined : ByteArray := prog_1_method_12_code
def yX4_joined : MethodName := ⟨RX4, "joined", "(II)J"⟩
abbrev wX4_joined : Cond := .code yX4_joined cX4_joined 2 (some .long)
theorem kD_X4_joined : wX4_joined ∈ wb := wb_t1 190 rfl rfl
abbrev cX4_size : ByteArray := prog_1_method_6_code
def yX4_size : MethodName := ⟨RX4, "size", "(II)I"⟩
abbrev wX4_size : Cond := .code yX4_size cX4_size 4 (some .int)
theorem kD_X4_size : wX4_size ∈ wb := wb_t1 195 rfl rfl
abbrev cX0_find : ByteArray := prog_2_method_4_code
def yX0_find : MethodName := ⟨RX0, "find", "(II)I"⟩
abbrev wX0_find : Cond := .code yX0_find cX0_find 5 (some .int)
theorem kD_X0_find : wX0_find ∈ wb := wb_t1 199 rfl rfl
abbrev cX0_sizeOf : ByteArray := prog_2_method_7_code
def yX0_sizeOf : MethodName := ⟨RX0, "sizeOf", "(I)I"⟩
abbrev wX0_sizeOf : Cond := .code yX0_sizeOf cX0_sizeOf 1 (some .int)
theorem kD_X0_sizeOf : wX0_sizeOf ∈ wb := wb_t1 202 rfl rfl
abbrev cX4_state : ByteArray := prog_1_method_7_code
def yX4_state : MethodName := ⟨RX4, "state", "()I"⟩
abbrev wX4_state : Cond := .code yX4_state cX4_state 1 (some .int)
theorem kD_X4_state : wX4_state ∈ wb := wb_t1 206 rfl rfl
abbrev cX4_busy : ByteArray := prog_1_method_8_code
def yX4_busy : MethodName := ⟨RX4, "busy", "()Z"⟩
abbrev wX4_busy : Cond := .code yX4_busy cX4_busy 1 (some .boolean)
theorem kD_X4_busy : wX4_busy ∈ wb := wb_t1 210 rfl rfl
abbrev cX4_outs : ByteArray := prog_1_method_9_code
def yX4_outs : MethodName := ⟨RX4, "outs", "()I"⟩
abbrev wX4_outs : Cond := .code yX4_outs cX4_outs 1 (some .int)
theorem kD_X4_outs : wX4_outs ∈ wb := wb_t1 214 rfl rfl
abbrev cX4_flush : ByteArray := prog_1_method_11_code
def yX4_flush : MethodName := ⟨RX4, "flush", "()I"⟩
abbrev wX4_flush : Cond := .code yX4_flush cX4_flush 2 (some .int)
theorem kD_X4_flush : wX4_flush ∈ wb := wb_t1 218 rfl rfl
abbrev cL_cell : ByteArray := method_2_code
def yL_cell : MethodName := ⟨RL, "cell", "([II)I"⟩
abbrev wL_cell : Cond := .code yL_cell cL_cell 2 (some .int)
theorem kD_L_cell : wL_cell ∈ wb := wb_t1 221 rfl rfl
abbrev cL_frame : ByteArray := method_3_code
def yL_frame : MethodName := ⟨RL, "frame", "(LMappedBusNode;IIII[J)I"⟩
abbrev wL_frame : Cond := .codeWith yL_frame cL_frame 7 (some .int) [(0, 14, 17, 13)]
theorem kD_L_frame : wL_frame ∈ wb := wb_t1 224 rfl rfl
abbrev cX4_frame : ByteArray := prog_1_method_2_code
def yX4_frame : MethodName := ⟨RX4, "frame", "(IIII)I"⟩
abbrev wX4_frame : Cond := .code yX4_frame cX4_frame 6 (some .int)
theorem kD_X4_frame : wX4_frame ∈ wb := wb_t1 229 rfl rfl
abbrev cX4_command : ByteArray := prog_1_method_15_code
def yX4_command : MethodName := ⟨RX4, "command", "(II)V"⟩
abbrev wX4_command : Cond := .code yX4_command cX4_command 3 none
theorem kD_X4_command : wX4_command ∈ wb := wb_t2 56 rfl rfl
abbrev cX4_run : ByteArray := prog_1_method_16_code
def yX4_run : MethodName := ⟨RX4, "run", "()V"⟩
abbrev wX4_run : Cond := .code yX4_run cX4_run 1 none
theorem kD_X4_run : wX4_run ∈ wb := wb_t2 60 rfl rfl
abbrev cX1_content : ByteArray := prog_3_method_9_code
def yX1_content : MethodName := ⟨RX1, "content", "()J"⟩
abbrev wX1_content : Cond := .code yX1_content cX1_content 8 (some .long)
theorem kD_X1_content : wX1_content ∈ wb := wb_t2 64 rfl rfl
abbrev cX1_count : ByteArray := prog_3_method_4_code
def yX1_count : MethodName := ⟨RX1, "count", "()I"⟩
abbrev wX1_count : Cond := .code yX1_count cX1_count 1 (some .int)
theorem kD_X1_count : wX1_count ∈ wb := wb_t2 68 rfl rfl
abbrev cX0_byteAt : ByteArray := prog_2_method_9_code
def yX0_byteAt : MethodName := ⟨RX0, "byteAt", "(II)I"⟩
abbrev wX0_byteAt : Cond := .code yX0_byteAt cX0_byteAt 3 (some .int)
theorem kD_X0_byteAt : wX0_byteAt ∈ wb := wb_t2 72 rfl rfl
abbrev cX1_target : ByteArray := prog_3_method_5_code
def yX1_target : MethodName := ⟨RX1, "target", "(I)I"⟩
abbrev wX1_target : Cond := .code yX1_target cX1_target 2 (some .int)
theorem kD_X1_target : wX1_target ∈ wb := wb_t2 77 rfl rfl
abbrev cX0_named : ByteArray := prog_2_method_6_code
def yX0_named : MethodName := ⟨RX0, "named", "(II)I"⟩
abbrev wX0_named : Cond := .code yX0_named cX0_named 6 (some .int)
theorem kD_X0_named : wX0_named ∈ wb := wb_t2 82 rfl rfl
abbrev cX0_resetOwn : ByteArray := prog_2_method_3_code
def yX0_resetOwn : MethodName := ⟨RX0, "resetOwn", "()V"⟩
abbrev wX0_resetOwn : Cond := .code yX0_resetOwn cX0_resetOwn 1 none
theorem kD_X0_resetOwn : wX0_resetOwn ∈ wb := wb_t2 89 rfl rfl
abbrev cX4_sync : ByteArray := prog_1_method_17_code
def yX4_sync : MethodName := ⟨RX4, "sync", "()V"⟩
abbrev wX4_sync : Cond := .code yX4_sync cX4_sync 2 none
theorem kD_X4_sync : wX4_sync ∈ wb := wb_t2 93 rfl rfl
abbrev cX4_giveIfNew : ByteArray := prog_1_method_19_code
def yX4_giveIfNew : MethodName := ⟨RX4, "giveIfNew", "()V"⟩
abbrev wX4_giveIfNew : Cond := .code yX4_giveIfNew cX4_giveIfNew 1 none
theorem kD_X4_giveIfNew : wX4_giveIfNew ∈ wb := wb_t2 99 rfl rfl
abbrev cX4_give : ByteArray := prog_1_method_20_code
def yX4_give : MethodName := ⟨RX4, "give", "()V"⟩
abbrev wX4_give : Cond := .code yX4_give cX4_give 1 none
theorem kD_X4_give : wX4_give ∈ wb := wb_t2 103 rfl rfl
abbrev cX1_contentLength : ByteArray := prog_3_method_8_code
def yX1_contentLength : MethodName := ⟨RX1, "contentLength", "()I"⟩
abbrev wX1_contentLength : Cond := .code yX1_contentLength cX1_contentLength 5 (some .int)
theorem kD_X1_contentLength : wX1_contentLength ∈ wb := wb_t2 107 rfl rfl
abbrev cX4_take : ByteArray := prog_1_method_21_code
def yX4_take : MethodName := ⟨RX4, "take", "(IJ)V"⟩
abbrev wX4_take : Cond := .code yX4_take cX4_take 5 none
theorem kD_X4_take : wX4_take ∈ wb := wb_t2 111 rfl rfl
abbrev cX1_spread : ByteArray := prog_3_method_10_code
def yX1_spread : MethodName := ⟨RX1, "spread", "(J)V"⟩
abbrev wX1_spread : Cond := .code yX1_spread cX1_spread 7 none
theorem kD_X1_spread : wX1_spread ∈ wb := wb_t2 115 rfl rfl
abbrev cX0_put : ByteArray := prog_2_method_11_code
def yX0_put : MethodName := ⟨RX0, "put", "(IJ)V"⟩
abbrev wX0_put : Cond := .code yX0_put cX0_put 7 none
theorem kD_X0_put : wX0_put ∈ wb := wb_t2 119 rfl rfl
abbrev cX4_request : ByteArray := prog_1_method_22_code
def yX4_request : MethodName := ⟨RX4, "request", "(II)V"⟩
abbrev wX4_request : Cond := .code yX4_request cX4_request 5 none
theorem kD_X4_request : wX4_request ∈ wb := wb_t2 124 rfl rfl
abbrev cX4_writeSegment : ByteArray := prog_1_method_24_code
def yX4_writeSegment : MethodName := ⟨RX4, "writeSegment", "(IJ)V"⟩
abbrev wX4_writeSegment : Cond := .code yX4_writeSegment cX4_writeSegment 6 none
theorem kD_X4_writeSegment : wX4_writeSegment ∈ wb := wb_t2 128 rfl rfl
abbrev cX4_segmentFault : ByteArray := prog_1_method_32_code
def yX4_segmentFault : MethodName := ⟨RX4, "segmentFault", "(IZ)I"⟩
abbrev wX4_segmentFault : Cond := .code yX4_segmentFault cX4_segmentFault 3 (some .int)
theorem kD_X4_segmentFault : wX4_segmentFault ∈ wb := wb_t2 132 rfl rfl
abbrev cX3_add : ByteArray := prog_5_method_6_code
def yX3_add : MethodName := ⟨RX3, "add", "(JI)Z"⟩
abbrev wX3_add : Cond := .code yX3_add cX3_add 5 (some .boolean)
theorem kD_X3_add : wX3_add ∈ wb := wb_t2 138 rfl rfl
abbrev cX3_left : ByteArray := prog_5_method_5_code
def yX3_left : MethodName := ⟨RX3, "left", "()I"⟩
abbrev wX3_left : Cond := .code yX3_left cX3_left 1 (some .int)
theorem kD_X3_left : wX3_left ∈ wb := wb_t2 142 rfl rfl
abbrev cX3_number : ByteArray := prog_5_method_7_code
def yX3_number : MethodName := ⟨RX3, "number", "()I"⟩
abbrev wX3_number : Cond := .code yX3_number cX3_number 3 (some .int)
theorem kD_X3_number : wX3_number ∈ wb := wb_t2 150 rfl rfl
abbrev cX4_storeFault : ByteArray := prog_1_method_33_code
def yX4_storeFault : MethodName := ⟨RX4, "storeFault", "(II)I"⟩
abbrev wX4_storeFault : Cond := .code yX4_storeFault cX4_storeFault 5 (some .int)
theorem kD_X4_storeFault : wX4_storeFault ∈ wb := wb_t2 154 rfl rfl
abbrev cX1_owns : ByteArray := prog_3_method_2_code
def yX1_owns : MethodName := ⟨RX1, "owns", "(I)Z"⟩
abbrev wX1_owns : Cond := .code yX1_owns cX1_owns 2 (some .boolean)
theorem kD_X1_owns : wX1_owns ∈ wb := wb_t2 158 rfl rfl
abbrev cX1_isCount : ByteArray := prog_3_method_3_code
def yX1_isCount : MethodName := ⟨RX1, "isCount", "(I)Z"⟩
abbrev wX1_isCount : Cond := .code yX1_isCount cX1_isCount 2 (some .boolean)
theorem kD_X1_isCount : wX1_isCount ∈ wb := wb_t2 163 rfl rfl
abbrev cX1_countFault : ByteArray := prog_3_method_6_code
def yX1_countFault : MethodName := ⟨RX1, "countFault", "(I)I"⟩
abbrev wX1_countFault : Cond := .code yX1_countFault cX1_countFault 5 (some .int)
theorem kD_X1_countFault : wX1_countFault ∈ wb := wb_t2 167 rfl rfl
abbrev cX1_nameFault : ByteArray := prog_3_method_7_code
def yX1_nameFault : MethodName := ⟨RX1, "nameFault", "(I)I"⟩
abbrev wX1_nameFault : Cond := .code yX1_nameFault cX1_nameFault 3 (some .int)
theorem kD_X1_nameFault : wX1_nameFault ∈ wb := wb_t2 174 rfl rfl
abbrev cX4_store : ByteArray := prog_1_method_34_code
def yX4_store : MethodName := ⟨RX4, "store", "()V"⟩
abbrev wX4_store : Cond := .code yX4_store cX4_store 2 none
theorem kD_X4_store : wX4_store ∈ wb := wb_t2 180 rfl rfl
abbrev cX0_fill : ByteArray := prog_2_method_12_code
def yX0_fill : MethodName := ⟨RX0, "fill", "(I[I)V"⟩
abbrev wX0_fill : Cond := .code yX0_fill cX0_fill 3 none
theorem kD_X0_fill : wX0_fill ∈ wb := wb_t2 184 rfl rfl
abbrev cX3_awaitNext : ByteArray := prog_5_method_4_code
def yX3_awaitNext : MethodName := ⟨RX3, "awaitNext", "()V"⟩
abbrev wX3_awaitNext : Cond := .code yX3_awaitNext cX3_awaitNext 1 none
theorem kD_X3_awaitNext : wX3_awaitNext ∈ wb := wb_t2 189 rfl rfl
abbrev cX4_write : ByteArray := prog_1_method_23_code
def yX4_write : MethodName := ⟨RX4, "write", "(III)V"⟩
abbrev wX4_write : Cond := .code yX4_write cX4_write 7 none
theorem kD_X4_write : wX4_write ∈ wb := wb_t2 193 rfl rfl
abbrev cX4_entryAt : ByteArray := prog_1_method_29_code
def yX4_entryAt : MethodName := ⟨RX4, "entryAt", "(I)I"⟩
abbrev wX4_entryAt : Cond := .code yX4_entryAt cX4_entryAt 2 (some .int)
theorem kD_X4_entryAt : wX4_entryAt ∈ wb := wb_t2 197 rfl rfl
abbrev cX4_accessFault : ByteArray := prog_1_method_30_code
def yX4_accessFault : MethodName := ⟨RX4, "accessFault", "(III)I"⟩
abbrev wX4_accessFault : Cond := .code yX4_accessFault cX4_accessFault 4 (some .int)
theorem kD_X4_accessFault : wX4_accessFault ∈ wb := wb_t2 202 rfl rfl
abbrev cX0_hasIndex : ByteArray := prog_2_method_5_code
def yX0_hasIndex : MethodName := ⟨RX0, "hasIndex", "(I)Z"⟩
abbrev wX0_hasIndex : Cond := .code yX0_hasIndex cX0_hasIndex 3 (some .boolean)
theorem kD_X0_hasIndex : wX0_hasIndex ∈ wb := wb_t2 206 rfl rfl
abbrev cX0_allows : ByteArray := prog_2_method_8_code
def yX0_allows : MethodName := ⟨RX0, "allows", "(II)Z"⟩
abbrev wX0_allows : Cond := .code yX0_allows cX0_allows 2 (some .boolean)
theorem kD_X0_allows : wX0_allows ∈ wb := wb_t2 211 rfl rfl
abbrev cX4_lengthFault : ByteArray := prog_1_method_31_code
def yX4_lengthFault : MethodName := ⟨RX4, "lengthFault", "(III)I"⟩
abbrev wX4_lengthFault : Cond := .code yX4_lengthFault cX4_lengthFault 5 (some .int)
theorem kD_X4_lengthFault : wX4_lengthFault ∈ wb := wb_t2 216 rfl rfl
abbrev cX3_begin : ByteArray := prog_5_method_2_code
def yX3_begin : MethodName := ⟨RX3, "begin", "(IIZ)V"⟩
abbrev wX3_begin : Cond := .code yX3_begin cX3_begin 4 none
theorem kD_X3_begin : wX3_begin ∈ wb := wb_t2 220 rfl rfl
abbrev cX4_read : ByteArray := prog_1_method_25_code
def yX4_read : MethodName := ⟨RX4, "read", "(I)V"⟩
abbrev wX4_read : Cond := .code yX4_read cX4_read 5 none
theorem kD_X4_read : wX4_read ∈ wb := wb_t2 224 rfl rfl
abbrev cX4_readSegment : ByteArray := prog_1_method_26_code
def yX4_readSegment : MethodName := ⟨RX4, "readSegment", "(I)V"⟩
abbrev wX4_readSegment : Cond := .code yX4_readSegment cX4_readSegment 7 none
theorem kD_X4_readSegment : wX4_readSegment ∈ wb := wb_t2 228 rfl rfl
abbrev cX4_giveWhenChanged : ByteArray := prog_1_method_18_code
def yX4_giveWhenChanged : MethodName := ⟨RX4, "giveWhenChanged", "()V"⟩
abbrev wX4_giveWhenChanged : Cond := .code yX4_giveWhenChanged cX4_giveWhenChanged 1 none
theorem kD_X4_giveWhenChanged : wX4_giveWhenChanged ∈ wb := wb_t2 232 rfl rfl
abbrev cL_set : ByteArray := method_4_code
def yL_set : MethodName := ⟨RL, "set", "(LMappedBusNode;IIII[J)I"⟩
abbrev wL_set : Cond := .codeWith yL_set cL_set 7 (some .int) [(0, 14, 17, 18)]
theorem kD_L_set : wL_set ∈ wb := wb_t2 235 rfl rfl
abbrev cX4_set : ByteArray := prog_1_method_4_code
def yX4_set : MethodName := ⟨RX4, "set", "(IIII)I"⟩
abbrev wX4_set : Cond := .code yX4_set cX4_set 7 (some .int)
theorem kD_X4_set : wX4_set ∈ wb := wb_t3 0 rfl rfl
abbrev cL_value : ByteArray := method_5_code
def yL_value : MethodName := ⟨RL, "value", "(LMappedBusNode;III[J)I"⟩
abbrev wL_value : Cond := .codeWith yL_value cL_value 6 (some .int) [(0, 12, 15, 18)]
theorem kD_L_value : wL_value ∈ wb := wb_t3 18 rfl rfl
abbrev cX4_value : ByteArray := prog_1_method_5_code
def yX4_value : MethodName := ⟨RX4, "value", "(III)I"⟩
abbrev wX4_value : Cond := .code yX4_value cX4_value 5 (some .int)
theorem kD_X4_value : wX4_value ∈ wb := wb_t3 22 rfl rfl
abbrev cL_out : ByteArray := method_6_code
def yL_out : MethodName := ⟨RL, "out", "(LMappedBusNode;II[J)I"⟩
abbrev wL_out : Cond := .codeWith yL_out cL_out 5 (some .int) [(0, 10, 13, 28)]
theorem kD_L_out : wL_out ∈ wb := wb_t3 25 rfl rfl
abbrev cX4_out : ByteArray := prog_1_method_10_code
def yX4_out : MethodName := ⟨RX4, "out", "(II)I"⟩
abbrev wX4_out : Cond := .code yX4_out cX4_out 3 (some .int)
theorem kD_X4_out : wX4_out ∈ wb := wb_t3 30 rfl rfl
abbrev cX2_part : ByteArray := prog_4_method_3_code
def yX2_part : MethodName := ⟨RX2, "part", "(II)I"⟩
abbrev wX2_part : Cond := .code yX2_part cX2_part 3 (some .int)
theorem kD_X2_part : wX2_part ∈ wb := wb_t3 49 rfl rfl
abbrev cX5_init : ByteArray := prog_7_method_1_code
def yX5_init : MethodName := ⟨RX5, "<init>", "(I)V"⟩
abbrev wX5_init : Cond := .code yX5_init cX5_init 2 none
theorem kD_X5_init : wX5_init ∈ wb := wb_t3 54 rfl rfl
abbrev cX5_add : ByteArray := prog_7_method_2_code
def yX5_add : MethodName := ⟨RX5, "add", "(IIII)V"⟩
abbrev wX5_add : Cond := .code yX5_add cX5_add 5 none
theorem kD_X5_add : wX5_add ∈ wb := wb_t3 59 rfl rfl
abbrev cX5_addMap : ByteArray := prog_7_method_3_code
def yX5_addMap : MethodName := ⟨RX5, "addMap", "(I)V"⟩
abbrev wX5_addMap : Cond := .code yX5_addMap cX5_addMap 3 none
theorem kD_X5_addMap : wX5_addMap ∈ wb := wb_t3 63 rfl rfl
abbrev cX5_reset : ByteArray := prog_7_method_4_code
def yX5_reset : MethodName := ⟨RX5, "reset", "(I)V"⟩
abbrev wX5_reset : Cond := .code yX5_reset cX5_reset 5 none
theorem kD_X5_reset : wX5_reset ∈ wb := wb_t3 68 rfl rfl
abbrev cX5_boot : ByteArray := prog_7_method_10_code
def yX5_boot : MethodName := ⟨RX5, "boot", "()V"⟩
abbrev wX5_boot : Cond := .code yX5_boot cX5_boot 1 none
theorem kD_X5_boot : wX5_boot ∈ wb := wb_t3 73 rfl rfl
abbrev cX5_send : ByteArray := prog_7_method_9_code
def yX5_send : MethodName := ⟨RX5, "send", "(IIJ)V"⟩
abbrev wX5_send : Cond := .code yX5_send cX5_send 5 none
theorem kD_X5_send : wX5_send ∈ wb := wb_t3 77 rfl rfl
abbrev cX5_thrown : ByteArray := prog_7_method_5_code
def yX5_thrown : MethodName := ⟨RX5, "thrown", "()I"⟩
abbrev wX5_thrown : Cond := .code yX5_thrown cX5_thrown 1 (some .int)
theorem kD_X5_thrown : wX5_thrown ∈ wb := wb_t3 164 rfl rfl
abbrev cX5_frame : ByteArray := prog_7_method_31_code
def yX5_frame : MethodName := ⟨RX5, "frame", "(IIII)I"⟩
abbrev wX5_frame : Cond := .code yX5_frame cX5_frame 7 (some .int)
theorem kD_X5_frame : wX5_frame ∈ wb := wb_t3 168 rfl rfl
abbrev cX5_both : ByteArray := prog_7_method_30_code
def yX5_both : MethodName := ⟨RX5, "both", "(II)J"⟩
abbrev wX5_both : Cond := .code yX5_both cX5_both 2 (some .long)
theorem kD_X5_both : wX5_both ∈ wb := wb_t3 171 rfl rfl
abbrev cX5_byteOf : ByteArray := prog_7_method_8_code
def yX5_byteOf : MethodName := ⟨RX5, "byteOf", "(JI)I"⟩
abbrev wX5_byteOf : Cond := .code yX5_byteOf cX5_byteOf 3 (some .int)
theorem kD_X5_byteOf : wX5_byteOf ∈ wb := wb_t3 175 rfl rfl
abbrev cX5_command : ByteArray := prog_7_method_27_code
def yX5_command : MethodName := ⟨RX5, "command", "(I)V"⟩
abbrev wX5_command : Cond := .code yX5_command cX5_command 2 none
theorem kD_X5_command : wX5_command ∈ wb := wb_t3 180 rfl rfl
abbrev cX5_content : ByteArray := prog_7_method_14_code
def yX5_content : MethodName := ⟨RX5, "content", "()J"⟩
abbrev wX5_content : Cond := .code yX5_content cX5_content 7 (some .long)
theorem kD_X5_content : wX5_content ∈ wb := wb_t3 184 rfl rfl
abbrev cX5_number : ByteArray := prog_7_method_7_code
def yX5_number : MethodName := ⟨RX5, "number", "(I)I"⟩
abbrev wX5_number : Cond := .code yX5_number cX5_number 4 (some .int)
theorem kD_X5_number : wX5_number ∈ wb := wb_t3 188 rfl rfl
abbrev cX5_named : ByteArray := prog_7_method_11_code
def yX5_named : MethodName := ⟨RX5, "named", "(II)I"⟩
abbrev wX5_named : Cond := .code yX5_named cX5_named 5 (some .int)
theorem kD_X5_named : wX5_named ∈ wb := wb_t3 192 rfl rfl
abbrev cX5_sync : ByteArray := prog_7_method_28_code
def yX5_sync : MethodName := ⟨RX5, "sync", "()V"⟩
abbrev wX5_sync : Cond := .code yX5_sync cX5_sync 2 none
theorem kD_X5_sync : wX5_sync ∈ wb := wb_t3 196 rfl rfl
abbrev cX5_give : ByteArray := prog_7_method_15_code
def yX5_give : MethodName := ⟨RX5, "give", "()V"⟩
abbrev wX5_give : Cond := .code yX5_give cX5_give 1 none
theorem kD_X5_give : wX5_give ∈ wb := wb_t3 200 rfl rfl
abbrev cX5_lengthOf : ByteArray := prog_7_method_13_code
def yX5_lengthOf : MethodName := ⟨RX5, "lengthOf", "(II)I"⟩
abbrev wX5_lengthOf : Cond := .code yX5_lengthOf cX5_lengthOf 7 (some .int)
theorem kD_X5_lengthOf : wX5_lengthOf ∈ wb := wb_t3 204 rfl rfl
abbrev cX5_rightOf : ByteArray := prog_7_method_12_code
def yX5_rightOf : MethodName := ⟨RX5, "rightOf", "(I)I"⟩
abbrev wX5_rightOf : Cond := .code yX5_rightOf cX5_rightOf 1 (some .int)
theorem kD_X5_rightOf : wX5_rightOf ∈ wb := wb_t3 207 rfl rfl
abbrev cX5_take : ByteArray := prog_7_method_16_code
def yX5_take : MethodName := ⟨RX5, "take", "(IJ)V"⟩
abbrev wX5_take : Cond := .code yX5_take cX5_take 9 none
theorem kD_X5_take : wX5_take ∈ wb := wb_t3 211 rfl rfl
abbrev cX5_ask : ByteArray := prog_7_method_26_code
def yX5_ask : MethodName := ⟨RX5, "ask", "(J)V"⟩
abbrev wX5_ask : Cond := .code yX5_ask cX5_ask 5 none
theorem kD_X5_ask : wX5_ask ∈ wb := wb_t3 215 rfl rfl
abbrev cX5_writeSegment : ByteArray := prog_7_method_23_code
def yX5_writeSegment : MethodName := ⟨RX5, "writeSegment", "(I)V"⟩
abbrev wX5_writeSegment : Cond := .code yX5_writeSegment cX5_writeSegment 4 none
theorem kD_X5_writeSegment : wX5_writeSegment ∈ wb := wb_t3 219 rfl rfl
abbrev cX5_abort : ByteArray := prog_7_method_18_code
def yX5_abort : MethodName := ⟨RX5, "abort", "(IZ)V"⟩
abbrev wX5_abort : Cond := .code yX5_abort cX5_abort 5 none
theorem kD_X5_abort : wX5_abort ∈ wb := wb_t3 224 rfl rfl
abbrev cX5_answer : ByteArray := prog_7_method_17_code
def yX5_answer : MethodName := ⟨RX5, "answer", "(IIII)V"⟩
abbrev wX5_answer : Cond := .code yX5_answer cX5_answer 5 none
theorem kD_X5_answer : wX5_answer ∈ wb := wb_t3 229 rfl rfl
abbrev cX5_store : ByteArray := prog_7_method_21_code
def yX5_store : MethodName := ⟨RX5, "store", "(I)Z"⟩
abbrev wX5_store : Cond := .code yX5_store cX5_store 4 (some .boolean)
theorem kD_X5_store : wX5_store ∈ wb := wb_t3 236 rfl rfl
abbrev cX5_storing : ByteArray := prog_7_method_20_code
def yX5_storing : MethodName := ⟨RX5, "storing", "(I)I"⟩
abbrev wX5_storing : Cond := .code yX5_storing cX5_storing 5 (some .int)
theorem kD_X5_storing : wX5_storing ∈ wb := wb_t4 0 rfl rfl
abbrev cX5_write : ByteArray := prog_7_method_22_code
def yX5_write : MethodName := ⟨RX5, "write", "(I)V"⟩
abbrev wX5_write : Cond := .code yX5_write cX5_write 8 none
theorem kD_X5_write : wX5_write ∈ wb := wb_t4 9 rfl rfl
abbrev cX5_find : ByteArray := prog_7_method_6_code
def yX5_find : MethodName := ⟨RX5, "find", "(II)I"⟩
abbrev wX5_find : Cond := .code yX5_find cX5_find 5 (some .int)
theorem kD_X5_find : wX5_find ∈ wb := wb_t4 13 rfl rfl
abbrev cX5_begin : ByteArray := prog_7_method_19_code
def yX5_begin : MethodName := ⟨RX5, "begin", "(II)V"⟩
abbrev wX5_begin : Cond := .code yX5_begin cX5_begin 3 none
theorem kD_X5_begin : wX5_begin ∈ wb := wb_t4 20 rfl rfl
abbrev cX5_read : ByteArray := prog_7_method_24_code
def yX5_read : MethodName := ⟨RX5, "read", "()V"⟩
abbrev wX5_read : Cond := .code yX5_read cX5_read 2 none
theorem kD_X5_read : wX5_read ∈ wb := wb_t4 24 rfl rfl
abbrev cX5_readSegment : ByteArray := prog_7_method_25_code
def yX5_readSegment : MethodName := ⟨RX5, "readSegment", "(I)V"⟩
abbrev wX5_readSegment : Cond := .code yX5_readSegment cX5_readSegment 6 none
theorem kD_X5_readSegment : wX5_readSegment ∈ wb := wb_t4 29 rfl rfl
abbrev cX5_end : ByteArray := prog_7_method_29_code
def yX5_end : MethodName := ⟨RX5, "end", "()V"⟩
abbrev wX5_end : Cond := .code yX5_end cX5_end 1 none
theorem kD_X5_end : wX5_end ∈ wb := wb_t4 33 rfl rfl
abbrev cX5_tick : ByteArray := prog_7_method_32_code
def yX5_tick : MethodName := ⟨RX5, "tick", "()I"⟩
abbrev wX5_tick : Cond := .code yX5_tick cX5_tick 2 (some .int)
theorem kD_X5_tick : wX5_tick ∈ wb := wb_t4 37 rfl rfl
abbrev cX5_set : ByteArray := prog_7_method_33_code
def yX5_set : MethodName := ⟨RX5, "set", "(IIII)I"⟩
abbrev wX5_set : Cond := .code yX5_set cX5_set 7 (some .int)
theorem kD_X5_set : wX5_set ∈ wb := wb_t4 42 rfl rfl
abbrev cX5_value : ByteArray := prog_7_method_34_code
def yX5_value : MethodName := ⟨RX5, "value", "(III)I"⟩
abbrev wX5_value : Cond := .code yX5_value cX5_value 5 (some .int)
theorem kD_X5_value : wX5_value ∈ wb := wb_t4 46 rfl rfl
abbrev cX5_size : ByteArray := prog_7_method_35_code
def yX5_size : MethodName := ⟨RX5, "size", "(II)I"⟩
abbrev wX5_size : Cond := .code yX5_size cX5_size 4 (some .int)
theorem kD_X5_size : wX5_size ∈ wb := wb_t4 50 rfl rfl
abbrev cX5_state : ByteArray := prog_7_method_36_code
def yX5_state : MethodName := ⟨RX5, "state", "()I"⟩
abbrev wX5_state : Cond := .code yX5_state cX5_state 1 (some .int)
theorem kD_X5_state : wX5_state ∈ wb := wb_t4 54 rfl rfl
abbrev cX5_busy : ByteArray := prog_7_method_37_code
def yX5_busy : MethodName := ⟨RX5, "busy", "()Z"⟩
abbrev wX5_busy : Cond := .code yX5_busy cX5_busy 1 (some .boolean)
theorem kD_X5_busy : wX5_busy ∈ wb := wb_t4 58 rfl rfl
abbrev cX5_outs : ByteArray := prog_7_method_38_code
def yX5_outs : MethodName := ⟨RX5, "outs", "()I"⟩
abbrev wX5_outs : Cond := .code yX5_outs cX5_outs 1 (some .int)
theorem kD_X5_outs : wX5_outs ∈ wb := wb_t4 62 rfl rfl
abbrev cX5_out : ByteArray := prog_7_method_39_code
def yX5_out : MethodName := ⟨RX5, "out", "(II)I"⟩
abbrev wX5_out : Cond := .code yX5_out cX5_out 3 (some .int)
theorem kD_X5_out : wX5_out ∈ wb := wb_t4 66 rfl rfl
abbrev cX5_flush : ByteArray := prog_7_method_40_code
def yX5_flush : MethodName := ⟨RX5, "flush", "()I"⟩
abbrev wX5_flush : Cond := .code yX5_flush cX5_flush 2 (some .int)
theorem kD_X5_flush : wX5_flush ∈ wb := wb_t4 70 rfl rfl
abbrev cL_law : ByteArray := code
end
section
theorem kN_L : Cond.initialized RL ∈ wb := wb_t1 0 (by decide +kernel) rfl
theorem kN_X4 : Cond.initialized RX4 ∈ wb := wb_t1 1 (by decide +kernel) rfl
theorem kN_Math : Cond.initialized "java/lang/Math" ∈ wb := wb_t1 2 (by decide +kernel) rfl
theorem kN_X0 : Cond.initialized RX0 ∈ wb := wb_t1 3 (by decide +kernel) rfl
theorem kN_System : Cond.initialized "java/lang/System" ∈ wb := wb_t1 4 (by decide +kernel) rfl
theorem kN_X1 : Cond.initialized RX1 ∈ wb := wb_t1 5 (by decide +kernel) rfl
theorem kN_X2 : Cond.initialized RX2 ∈ wb := wb_t1 6 (by decide +kernel) rfl
theorem kN_X3 : Cond.initialized RX3 ∈ wb := wb_t1 7 (by decide +kernel) rfl
theorem kN_X5 : Cond.initialized RX5 ∈ wb := wb_t1 8 (by decide +kernel) rfl
theorem kN_Throwable : Cond.initialized "java/lang/Throwable" ∈ wb := wb_t1 9 (by decide +kernel) rfl
theorem kN_Exception : Cond.initialized "java/lang/Exception" ∈ wb := wb_t1 10 (by decide +kernel) rfl
theorem kN_RuntimeException : Cond.initialized "java/lang/RuntimeException" ∈ wb := wb_t1 11 (by decide +kernel) rfl
theorem kN_IllegalArgumentException : Cond.initialized "java/lang/IllegalArgumentException" ∈ wb := wb_t1 12 (by decide +kernel) rfl
theorem kN_NoSuchElementException : Cond.initialized "java/util/NoSuchElementException" ∈ wb := wb_t1 13 (by decide +kernel) rfl
theorem kN_IndexOutOfBoundsException : Cond.initialized "java/lang/IndexOutOfBoundsException" ∈ wb := wb_t1 14 (by decide +kernel) rfl
theorem kC_L_8 : Cond.classLink RL 8 RX4 ∈ wb := wb_t1 15 (by decide +kernel) rfl
theorem kB_X4 : Cond.instantiable RX4 10 ∈ wb := wb_t1 16 (by decide +kernel) rfl
theorem kM_L_36 : Cond.methodLink RL 36 yX4_init ∈ wb := wb_t1 17 (by decide +kernel) rfl
theorem kI_X4_init : Cond.instanceMethod yX4_init ∈ wb := wb_t1 18 (by decide +kernel) rfl
theorem kM_X4_1 : Cond.methodLink RX4 1 (⟨"java/lang/Object", "<init>", "()V"⟩ : MethodName) ∈ wb := wb_t1 20 (by decide +kernel) rfl
theorem kM_X4_7 : Cond.methodLink RX4 7 (⟨"java/lang/Math", "min", "(II)I"⟩ : MethodName) ∈ wb := wb_t1 23 (by decide +kernel) rfl
theorem kM_X4_13 : Cond.methodLink RX4 13 (⟨"java/lang/Math", "max", "(II)I"⟩ : MethodName) ∈ wb := wb_t1 26 (by decide +kernel) rfl
theorem kC_X4_22 : Cond.classLink RX4 22 RX0 ∈ wb := wb_t1 29 (by decide +kernel) rfl
theorem kB_X0 : Cond.instantiable RX0 1 ∈ wb := wb_t1 30 (by decide +kernel) rfl
theorem kM_X4_24 : Cond.methodLink RX4 24 yX0_init ∈ wb := wb_t1 31 (by decide +kernel) rfl
theorem kI_X0_init : Cond.instanceMethod yX0_init ∈ wb := wb_t1 32 (by decide +kernel) rfl
theorem kM_X0_1 : Cond.methodLink RX0 1 (⟨"java/lang/Object", "<init>", "()V"⟩ : MethodName) ∈ wb := wb_t1 34 (by decide +kernel) rfl
theorem kM_X0_13 : Cond.methodLink RX0 13 yX0_resetAll ∈ wb := wb_t1 35 (by decide +kernel) rfl
theorem kI_X0_resetAll : Cond.instanceMethod yX0_resetAll ∈ wb := wb_t1 36 (by decide +kernel) rfl
theorem kS_X0_resetAll : Cond.selects RX0 yX0_resetAll yX0_resetAll ∈ wb := wb_t1 37 (by decide +kernel) rfl
theorem kF_X0_16 : Cond.fieldLink RX0 16 "MappedBusNode$Dictionary" "FIRST" "[I" ∈ wb := wb_t1 39 (by decide +kernel) rfl
theorem kM_X0_19 : Cond.methodLink RX0 19 (⟨"java/lang/System", "arraycopy", "(Ljava/lang/Object;ILjava/lang/Object;II)V"⟩ : MethodName) ∈ wb := wb_t1 41 (by decide +kernel) rfl
theorem kF_X0_9 : Cond.fieldLink RX0 9 "MappedBusNode$Dictionary" "bytes" "[I" ∈ wb := wb_t1 44 (by decide +kernel) rfl
theorem kA_int : Cond.arrayClass FieldType.int ∈ wb := wb_t1 48 (by decide +kernel) rfl
theorem kC_X4_29 : Cond.classLink RX4 29 RX1 ∈ wb := wb_t1 49 (by decide +kernel) rfl
theorem kB_X1 : Cond.instantiable RX1 3 ∈ wb := wb_t1 50 (by decide +kernel) rfl
theorem kM_X4_31 : Cond.methodLink RX4 31 yX1_init ∈ wb := wb_t1 51 (by decide +kernel) rfl
theorem kI_X1_init : Cond.instanceMethod yX1_init ∈ wb := wb_t1 52 (by decide +kernel) rfl
theorem kM_X1_3 : Cond.methodLink RX1 3 (⟨"java/lang/Object", "<init>", "()V"⟩ : MethodName) ∈ wb := wb_t1 54 (by decide +kernel) rfl
theorem kF_X1_9 : Cond.fieldLink RX1 9 "MappedBusNode$Mapping" "dictionary" "LMappedBusNode$Dictionary;" ∈ wb := wb_t1 55 (by decide +kernel) rfl
theorem kF_X1_15 : Cond.fieldLink RX1 15 "MappedBusNode$Mapping" "countEntry" "I" ∈ wb := wb_t1 56 (by decide +kernel) rfl
theorem kF_X1_21 : Cond.fieldLink RX1 21 "MappedBusNode$Mapping" "rights" "I" ∈ wb := wb_t1 57 (by decide +kernel) rfl
theorem kC_X4_41 : Cond.classLink RX4 41 RX2 ∈ wb := wb_t1 65 (by decide +kernel) rfl
theorem kB_X2 : Cond.instantiable RX2 3 ∈ wb := wb_t1 66 (by decide +kernel) rfl
theorem kI_X2_init : Cond.instanceMethod yX2_init ∈ wb := wb_t1 68 (by decide +kernel) rfl
theorem kM_X2_1 : Cond.methodLink RX2 1 (⟨"java/lang/Object", "<init>", "()V"⟩ : MethodName) ∈ wb := wb_t1 70 (by decide +kernel) rfl
theorem kF_X2_9 : Cond.fieldLink RX2 9 "MappedBusNode$Outbox" "parts" "[I" ∈ wb := wb_t1 71 (by decide +kernel) rfl
theorem kF_X2_17 : Cond.fieldLink RX2 17 "MappedBusNode$Outbox" "kept" "I" ∈ wb := wb_t1 72 (by decide +kernel) rfl
theorem kF_X2_13 : Cond.fieldLink RX2 13 "MappedBusNode$Outbox" "sent" "I" ∈ wb := wb_t1 74 (by decide +kernel) rfl
theorem kC_X4_48 : Cond.classLink RX4 48 RX3 ∈ wb := wb_t1 83 (by decide +kernel) rfl
theorem kB_X3 : Cond.instantiable RX3 8 ∈ wb := wb_t1 84 (by decide +kernel) rfl
theorem kI_X3_init : Cond.instanceMethod yX3_init ∈ wb := wb_t1 86 (by decide +kernel) rfl
theorem kM_X3_3 : Cond.methodLink RX3 3 (⟨"java/lang/Object", "<init>", "()V"⟩ : MethodName) ∈ wb := wb_t1 88 (by decide +kernel) rfl
theorem kF_X3_11 : Cond.fieldLink RX3 11 "MappedBusNode$Transfer" "bytes" "[I" ∈ wb := wb_t1 89 (by decide +kernel) rfl
theorem kF_X3_28 : Cond.fieldLink RX3 28 "MappedBusNode$Transfer" "going" "Z" ∈ wb := wb_t1 91 (by decide +kernel) rfl
theorem kF_X3_24 : Cond.fieldLink RX3 24 "MappedBusNode$Transfer" "writing" "Z" ∈ wb := wb_t1 93 (by decide +kernel) rfl
theorem kF_X3_17 : Cond.fieldLink RX3 17 "MappedBusNode$Transfer" "entry" "I" ∈ wb := wb_t1 95 (by decide +kernel) rfl
theorem kF_X3_21 : Cond.fieldLink RX3 21 "MappedBusNode$Transfer" "address" "I" ∈ wb := wb_t1 97 (by decide +kernel) rfl
theorem kF_X3_31 : Cond.fieldLink RX3 31 "MappedBusNode$Transfer" "done" "I" ∈ wb := wb_t1 99 (by decide +kernel) rfl
theorem kF_X3_34 : Cond.fieldLink RX3 34 "MappedBusNode$Transfer" "turn" "I" ∈ wb := wb_t1 101 (by decide +kernel) rfl
theorem kF_X3_37 : Cond.fieldLink RX3 37 "MappedBusNode$Transfer" "ticks" "I" ∈ wb := wb_t1 103 (by decide +kernel) rfl
theorem kM_X4_55 : Cond.methodLink RX4 55 yX4_boot ∈ wb := wb_t1 122 (by decide +kernel) rfl
theorem kI_X4_boot : Cond.instanceMethod yX4_boot ∈ wb := wb_t1 124 (by decide +kernel) rfl
theorem kM_X4_132 : Cond.methodLink RX4 132 yX3_end ∈ wb := wb_t1 126 (by decide +kernel) rfl
theorem kI_X3_end : Cond.instanceMethod yX3_end ∈ wb := wb_t1 127 (by decide +kernel) rfl
theorem kS_X3_end : Cond.selects RX3 yX3_end yX3_end ∈ wb := wb_t1 128 (by decide +kernel) rfl
theorem kM_X4_141 : Cond.methodLink RX4 141 yX2_send ∈ wb := wb_t1 130 (by decide +kernel) rfl
theorem kI_X2_send : Cond.instanceMethod yX2_send ∈ wb := wb_t1 131 (by decide +kernel) rfl
theorem kS_X2_send : Cond.selects RX2 yX2_send yX2_send ∈ wb := wb_t1 132 (by decide +kernel) rfl
theorem kF_X4_16 : Cond.fieldLink RX4 16 "MappedBusNode" "number" "I" ∈ wb := wb_t1 134 (by decide +kernel) rfl
theorem kF_X4_25 : Cond.fieldLink RX4 25 "MappedBusNode" "dictionary" "LMappedBusNode$Dictionary;" ∈ wb := wb_t1 135 (by decide +kernel) rfl
theorem kF_X4_34 : Cond.fieldLink RX4 34 "MappedBusNode" "taking" "LMappedBusNode$Mapping;" ∈ wb := wb_t1 136 (by decide +kernel) rfl
theorem kF_X4_38 : Cond.fieldLink RX4 38 "MappedBusNode" "giving" "LMappedBusNode$Mapping;" ∈ wb := wb_t1 137 (by decide +kernel) rfl
theorem kF_X4_44 : Cond.fieldLink RX4 44 "MappedBusNode" "outbox" "LMappedBusNode$Outbox;" ∈ wb := wb_t1 138 (by decide +kernel) rfl
theorem kF_X4_51 : Cond.fieldLink RX4 51 "MappedBusNode" "transfer" "LMappedBusNode$Transfer;" ∈ wb := wb_t1 139 (by decide +kernel) rfl
theorem kF_X4_79 : Cond.fieldLink RX4 79 "MappedBusNode" "state" "I" ∈ wb := wb_t1 140 (by decide +kernel) rfl
theorem kF_X4_135 : Cond.fieldLink RX4 135 "MappedBusNode" "syncCount" "I" ∈ wb := wb_t1 141 (by decide +kernel) rfl
theorem kF_X4_138 : Cond.fieldLink RX4 138 "MappedBusNode" "lifeCount" "I" ∈ wb := wb_t1 142 (by decide +kernel) rfl
theorem kF_X4_161 : Cond.fieldLink RX4 161 "MappedBusNode" "given" "J" ∈ wb := wb_t1 143 (by decide +kernel) rfl
theorem kM_L_50 : Cond.methodLink RL 50 yX4_tick ∈ wb := wb_t1 165 (by decide +kernel) rfl
theorem kI_X4_tick : Cond.instanceMethod yX4_tick ∈ wb := wb_t1 166 (by decide +kernel) rfl
theorem kS_X4_tick : Cond.selects RX4 yX4_tick yX4_tick ∈ wb := wb_t1 167 (by decide +kernel) rfl
theorem kM_X4_88 : Cond.methodLink RX4 88 yX4_beat ∈ wb := wb_t1 169 (by decide +kernel) rfl
theorem kI_X4_beat : Cond.instanceMethod yX4_beat ∈ wb := wb_t1 171 (by decide +kernel) rfl
theorem kM_X4_145 : Cond.methodLink RX4 145 yX0_part ∈ wb := wb_t1 173 (by decide +kernel) rfl
theorem kI_X0_part : Cond.instanceMethod yX0_part ∈ wb := wb_t1 174 (by decide +kernel) rfl
theorem kS_X0_part : Cond.selects RX0 yX0_part yX0_part ∈ wb := wb_t1 175 (by decide +kernel) rfl
theorem kF_X0_25 : Cond.fieldLink RX0 25 "MappedBusNode$Dictionary" "TABLE" "[I" ∈ wb := wb_t1 177 (by decide +kernel) rfl
theorem kK_X4_101 : Cond.constant RX4 101 (84148224) ∈ wb := wb_t1 179 (by decide +kernel) rfl
theorem kM_X4_102 : Cond.methodLink RX4 102 yX4_abort ∈ wb := wb_t1 180 (by decide +kernel) rfl
theorem kI_X4_abort : Cond.instanceMethod yX4_abort ∈ wb := wb_t1 182 (by decide +kernel) rfl
theorem kM_X4_223 : Cond.methodLink RX4 223 yX4_answer ∈ wb := wb_t1 184 (by decide +kernel) rfl
theorem kI_X4_answer : Cond.instanceMethod yX4_answer ∈ wb := wb_t1 186 (by decide +kernel) rfl
theorem kM_X4_71 : Cond.methodLink RX4 71 yX4_joined ∈ wb := wb_t1 188 (by decide +kernel) rfl
theorem kZ_X4_joined : Cond.static yX4_joined ∈ wb := wb_t1 189 (by decide +kernel) rfl
theorem kQ_X4_130 : Cond.constantLong RX4 130 (4294967295) ∈ wb := wb_t1 191 (by decide +kernel) rfl
theorem kM_L_61 : Cond.methodLink RL 61 yX4_size ∈ wb := wb_t1 192 (by decide +kernel) rfl
theorem kI_X4_size : Cond.instanceMethod yX4_size ∈ wb := wb_t1 193 (by decide +kernel) rfl
theorem kS_X4_size : Cond.selects RX4 yX4_size yX4_size ∈ wb := wb_t1 194 (by decide +kernel) rfl
theorem kM_X4_105 : Cond.methodLink RX4 105 yX0_find ∈ wb := wb_t1 196 (by decide +kernel) rfl
theorem kI_X0_find : Cond.instanceMethod yX0_find ∈ wb := wb_t1 197 (by decide +kernel) rfl
theorem kS_X0_find : Cond.selects RX0 yX0_find yX0_find ∈ wb := wb_t1 198 (by decide +kernel) rfl
theorem kM_X4_108 : Cond.methodLink RX4 108 yX0_sizeOf ∈ wb := wb_t1 200 (by decide +kernel) rfl
theorem kZ_X0_sizeOf : Cond.static yX0_sizeOf ∈ wb := wb_t1 201 (by decide +kernel) rfl
theorem kM_L_65 : Cond.methodLink RL 65 yX4_state ∈ wb := wb_t1 203 (by decide +kernel) rfl
theorem kI_X4_state : Cond.instanceMethod yX4_state ∈ wb := wb_t1 204 (by decide +kernel) rfl
theorem kS_X4_state : Cond.selects RX4 yX4_state yX4_state ∈ wb := wb_t1 205 (by decide +kernel) rfl
theorem kM_L_69 : Cond.methodLink RL 69 yX4_busy ∈ wb := wb_t1 207 (by decide +kernel) rfl
theorem kI_X4_busy : Cond.instanceMethod yX4_busy ∈ wb := wb_t1 208 (by decide +kernel) rfl
theorem kS_X4_busy : Cond.selects RX4 yX4_busy yX4_busy ∈ wb := wb_t1 209 (by decide +kernel) rfl
theorem kM_L_74 : Cond.methodLink RL 74 yX4_outs ∈ wb := wb_t1 211 (by decide +kernel) rfl
theorem kI_X4_outs : Cond.instanceMethod yX4_outs ∈ wb := wb_t1 212 (by decide +kernel) rfl
theorem kS_X4_outs : Cond.selects RX4 yX4_outs yX4_outs ∈ wb := wb_t1 213 (by decide +kernel) rfl
theorem kM_L_82 : Cond.methodLink RL 82 yX4_flush ∈ wb := wb_t1 215 (by decide +kernel) rfl
theorem kI_X4_flush : Cond.instanceMethod yX4_flush ∈ wb := wb_t1 216 (by decide +kernel) rfl
theorem kS_X4_flush : Cond.selects RX4 yX4_flush yX4_flush ∈ wb := wb_t1 217 (by decide +kernel) rfl
theorem kM_L_30 : Cond.methodLink RL 30 yL_cell ∈ wb := wb_t1 219 (by decide +kernel) rfl
theorem kZ_L_cell : Cond.static yL_cell ∈ wb := wb_t1 220 (by decide +kernel) rfl
theorem kM_L_42 : Cond.methodLink RL 42 yL_frame ∈ wb := wb_t1 222 (by decide +kernel) rfl
theorem kZ_L_frame : Cond.static yL_frame ∈ wb := wb_t1 223 (by decide +kernel) rfl
theorem kC_L_13 : Cond.classLink RL 13 "java/lang/IllegalArgumentException" ∈ wb := wb_t1 225 (by decide +kernel) rfl
theorem kM_L_7 : Cond.methodLink RL 7 yX4_frame ∈ wb := wb_t1 226 (by decide +kernel) rfl
theorem kI_X4_frame : Cond.instanceMethod yX4_frame ∈ wb := wb_t1 227 (by decide +kernel) rfl
theorem kS_X4_frame : Cond.selects RX4 yX4_frame yX4_frame ∈ wb := wb_t1 228 (by decide +kernel) rfl
theorem kC_X4_58 : Cond.classLink RX4 58 "java/lang/IllegalArgumentException" ∈ wb := wb_t1 230 (by decide +kernel) rfl
theorem kM_X4_60 : Cond.methodLink RX4 60 (⟨"java/lang/IllegalArgumentException", "<init>", "()V"⟩ : MethodName) ∈ wb := wb_t2 31 (by decide +kernel) rfl
theorem kM_X4_64 : Cond.methodLink RX4 64 yX4_command ∈ wb := wb_t2 53 (by decide +kernel) rfl
theorem kI_X4_command : Cond.instanceMethod yX4_command ∈ wb := wb_t2 55 (by decide +kernel) rfl
theorem kM_X4_148 : Cond.methodLink RX4 148 yX4_run ∈ wb := wb_t2 57 (by decide +kernel) rfl
theorem kI_X4_run : Cond.instanceMethod yX4_run ∈ wb := wb_t2 59 (by decide +kernel) rfl
theorem kM_X4_157 : Cond.methodLink RX4 157 yX1_content ∈ wb := wb_t2 61 (by decide +kernel) rfl
theorem kI_X1_content : Cond.instanceMethod yX1_content ∈ wb := wb_t2 62 (by decide +kernel) rfl
theorem kS_X1_content : Cond.selects RX1 yX1_content yX1_content ∈ wb := wb_t2 63 (by decide +kernel) rfl
theorem kM_X1_50 : Cond.methodLink RX1 50 yX1_count ∈ wb := wb_t2 65 (by decide +kernel) rfl
theorem kI_X1_count : Cond.instanceMethod yX1_count ∈ wb := wb_t2 66 (by decide +kernel) rfl
theorem kS_X1_count : Cond.selects RX1 yX1_count yX1_count ∈ wb := wb_t2 67 (by decide +kernel) rfl
theorem kM_X1_24 : Cond.methodLink RX1 24 yX0_byteAt ∈ wb := wb_t2 69 (by decide +kernel) rfl
theorem kI_X0_byteAt : Cond.instanceMethod yX0_byteAt ∈ wb := wb_t2 70 (by decide +kernel) rfl
theorem kS_X0_byteAt : Cond.selects RX0 yX0_byteAt yX0_byteAt ∈ wb := wb_t2 71 (by decide +kernel) rfl
theorem kM_X1_28 : Cond.methodLink RX1 28 (⟨"java/lang/Math", "min", "(II)I"⟩ : MethodName) ∈ wb := wb_t2 73 (by decide +kernel) rfl
theorem kM_X1_41 : Cond.methodLink RX1 41 yX1_target ∈ wb := wb_t2 74 (by decide +kernel) rfl
theorem kI_X1_target : Cond.instanceMethod yX1_target ∈ wb := wb_t2 76 (by decide +kernel) rfl
theorem kM_X1_33 : Cond.methodLink RX1 33 yX0_part ∈ wb := wb_t2 78 (by decide +kernel) rfl
theorem kM_X1_37 : Cond.methodLink RX1 37 yX0_named ∈ wb := wb_t2 79 (by decide +kernel) rfl
theorem kI_X0_named : Cond.instanceMethod yX0_named ∈ wb := wb_t2 80 (by decide +kernel) rfl
theorem kS_X0_named : Cond.selects RX0 yX0_named yX0_named ∈ wb := wb_t2 81 (by decide +kernel) rfl
theorem kK_X0_28 : Cond.constant RX0 28 (65536) ∈ wb := wb_t2 83 (by decide +kernel) rfl
theorem kM_X1_46 : Cond.methodLink RX1 46 yX0_sizeOf ∈ wb := wb_t2 84 (by decide +kernel) rfl
theorem kM_X4_151 : Cond.methodLink RX4 151 yX0_resetAll ∈ wb := wb_t2 85 (by decide +kernel) rfl
theorem kM_X4_154 : Cond.methodLink RX4 154 yX0_resetOwn ∈ wb := wb_t2 86 (by decide +kernel) rfl
theorem kI_X0_resetOwn : Cond.instanceMethod yX0_resetOwn ∈ wb := wb_t2 87 (by decide +kernel) rfl
theorem kS_X0_resetOwn : Cond.selects RX0 yX0_resetOwn yX0_resetOwn ∈ wb := wb_t2 88 (by decide +kernel) rfl
theorem kM_X4_68 : Cond.methodLink RX4 68 yX4_sync ∈ wb := wb_t2 90 (by decide +kernel) rfl
theorem kI_X4_sync : Cond.instanceMethod yX4_sync ∈ wb := wb_t2 92 (by decide +kernel) rfl
theorem kM_X4_165 : Cond.methodLink RX4 165 yX1_count ∈ wb := wb_t2 94 (by decide +kernel) rfl
theorem kM_X4_118 : Cond.methodLink RX4 118 yX0_byteAt ∈ wb := wb_t2 95 (by decide +kernel) rfl
theorem kM_X4_169 : Cond.methodLink RX4 169 yX4_giveIfNew ∈ wb := wb_t2 96 (by decide +kernel) rfl
theorem kI_X4_giveIfNew : Cond.instanceMethod yX4_giveIfNew ∈ wb := wb_t2 98 (by decide +kernel) rfl
theorem kM_X4_172 : Cond.methodLink RX4 172 yX4_give ∈ wb := wb_t2 100 (by decide +kernel) rfl
theorem kI_X4_give : Cond.instanceMethod yX4_give ∈ wb := wb_t2 102 (by decide +kernel) rfl
theorem kM_X4_175 : Cond.methodLink RX4 175 yX1_contentLength ∈ wb := wb_t2 104 (by decide +kernel) rfl
theorem kI_X1_contentLength : Cond.instanceMethod yX1_contentLength ∈ wb := wb_t2 105 (by decide +kernel) rfl
theorem kS_X1_contentLength : Cond.selects RX1 yX1_contentLength yX1_contentLength ∈ wb := wb_t2 106 (by decide +kernel) rfl
theorem kM_X4_75 : Cond.methodLink RX4 75 yX4_take ∈ wb := wb_t2 108 (by decide +kernel) rfl
theorem kI_X4_take : Cond.instanceMethod yX4_take ∈ wb := wb_t2 110 (by decide +kernel) rfl
theorem kM_X4_178 : Cond.methodLink RX4 178 yX1_spread ∈ wb := wb_t2 112 (by decide +kernel) rfl
theorem kI_X1_spread : Cond.instanceMethod yX1_spread ∈ wb := wb_t2 113 (by decide +kernel) rfl
theorem kS_X1_spread : Cond.selects RX1 yX1_spread yX1_spread ∈ wb := wb_t2 114 (by decide +kernel) rfl
theorem kM_X1_55 : Cond.methodLink RX1 55 yX0_put ∈ wb := wb_t2 116 (by decide +kernel) rfl
theorem kI_X0_put : Cond.instanceMethod yX0_put ∈ wb := wb_t2 117 (by decide +kernel) rfl
end
section
theorem kS_X0_put : Cond.selects RX0 yX0_put yX0_put ∈ wb := wb_t2 118 (by decide +kernel) rfl
theorem kM_X4_115 : Cond.methodLink RX4 115 yX0_put ∈ wb := wb_t2 120 (by decide +kernel) rfl
theorem kM_X4_82 : Cond.methodLink RX4 82 yX4_request ∈ wb := wb_t2 121 (by decide +kernel) rfl
theorem kI_X4_request : Cond.instanceMethod yX4_request ∈ wb := wb_t2 123 (by decide +kernel) rfl
theorem kM_X4_182 : Cond.methodLink RX4 182 yX4_writeSegment ∈ wb := wb_t2 125 (by decide +kernel) rfl
theorem kI_X4_writeSegment : Cond.instanceMethod yX4_writeSegment ∈ wb := wb_t2 127 (by decide +kernel) rfl
theorem kM_X4_226 : Cond.methodLink RX4 226 yX4_segmentFault ∈ wb := wb_t2 129 (by decide +kernel) rfl
theorem kI_X4_segmentFault : Cond.instanceMethod yX4_segmentFault ∈ wb := wb_t2 131 (by decide +kernel) rfl
theorem kK_X4_196 : Cond.constant RX4 196 (84148225) ∈ wb := wb_t2 133 (by decide +kernel) rfl
theorem kK_X4_263 : Cond.constant RX4 263 (84082688) ∈ wb := wb_t2 134 (by decide +kernel) rfl
theorem kM_X4_211 : Cond.methodLink RX4 211 yX3_add ∈ wb := wb_t2 135 (by decide +kernel) rfl
theorem kI_X3_add : Cond.instanceMethod yX3_add ∈ wb := wb_t2 136 (by decide +kernel) rfl
theorem kS_X3_add : Cond.selects RX3 yX3_add yX3_add ∈ wb := wb_t2 137 (by decide +kernel) rfl
theorem kM_X3_44 : Cond.methodLink RX3 44 yX3_left ∈ wb := wb_t2 139 (by decide +kernel) rfl
theorem kI_X3_left : Cond.instanceMethod yX3_left ∈ wb := wb_t2 140 (by decide +kernel) rfl
theorem kS_X3_left : Cond.selects RX3 yX3_left yX3_left ∈ wb := wb_t2 141 (by decide +kernel) rfl
theorem kM_X3_40 : Cond.methodLink RX3 40 yX0_sizeOf ∈ wb := wb_t2 143 (by decide +kernel) rfl
theorem kK_X4_230 : Cond.constant RX4 230 (101122066) ∈ wb := wb_t2 144 (by decide +kernel) rfl
theorem kM_X4_231 : Cond.methodLink RX4 231 yX3_left ∈ wb := wb_t2 145 (by decide +kernel) rfl
theorem kK_X4_234 : Cond.constant RX4 234 (101122067) ∈ wb := wb_t2 146 (by decide +kernel) rfl
theorem kM_X4_215 : Cond.methodLink RX4 215 yX3_number ∈ wb := wb_t2 147 (by decide +kernel) rfl
theorem kI_X3_number : Cond.instanceMethod yX3_number ∈ wb := wb_t2 148 (by decide +kernel) rfl
theorem kS_X3_number : Cond.selects RX3 yX3_number yX3_number ∈ wb := wb_t2 149 (by decide +kernel) rfl
theorem kM_X4_217 : Cond.methodLink RX4 217 yX4_storeFault ∈ wb := wb_t2 151 (by decide +kernel) rfl
theorem kI_X4_storeFault : Cond.instanceMethod yX4_storeFault ∈ wb := wb_t2 153 (by decide +kernel) rfl
theorem kM_X4_264 : Cond.methodLink RX4 264 yX1_owns ∈ wb := wb_t2 155 (by decide +kernel) rfl
theorem kI_X1_owns : Cond.instanceMethod yX1_owns ∈ wb := wb_t2 156 (by decide +kernel) rfl
theorem kS_X1_owns : Cond.selects RX1 yX1_owns yX1_owns ∈ wb := wb_t2 157 (by decide +kernel) rfl
theorem kK_X4_267 : Cond.constant RX4 267 (134217762) ∈ wb := wb_t2 159 (by decide +kernel) rfl
theorem kM_X4_268 : Cond.methodLink RX4 268 yX1_isCount ∈ wb := wb_t2 160 (by decide +kernel) rfl
theorem kI_X1_isCount : Cond.instanceMethod yX1_isCount ∈ wb := wb_t2 161 (by decide +kernel) rfl
theorem kS_X1_isCount : Cond.selects RX1 yX1_isCount yX1_isCount ∈ wb := wb_t2 162 (by decide +kernel) rfl
theorem kM_X4_271 : Cond.methodLink RX4 271 yX1_countFault ∈ wb := wb_t2 164 (by decide +kernel) rfl
theorem kI_X1_countFault : Cond.instanceMethod yX1_countFault ∈ wb := wb_t2 165 (by decide +kernel) rfl
theorem kS_X1_countFault : Cond.selects RX1 yX1_countFault yX1_countFault ∈ wb := wb_t2 166 (by decide +kernel) rfl
theorem kK_X1_40 : Cond.constant RX1 40 (101253168) ∈ wb := wb_t2 168 (by decide +kernel) rfl
theorem kK_X1_45 : Cond.constant RX1 45 (100925505) ∈ wb := wb_t2 169 (by decide +kernel) rfl
theorem kK_X1_49 : Cond.constant RX1 49 (100925506) ∈ wb := wb_t2 170 (by decide +kernel) rfl
theorem kM_X4_274 : Cond.methodLink RX4 274 yX1_nameFault ∈ wb := wb_t2 171 (by decide +kernel) rfl
theorem kI_X1_nameFault : Cond.instanceMethod yX1_nameFault ∈ wb := wb_t2 172 (by decide +kernel) rfl
theorem kS_X1_nameFault : Cond.selects RX1 yX1_nameFault yX1_nameFault ∈ wb := wb_t2 173 (by decide +kernel) rfl
theorem kK_X1_54 : Cond.constant RX1 54 (100728832) ∈ wb := wb_t2 175 (by decide +kernel) rfl
theorem kK_X4_277 : Cond.constant RX4 277 (101253168) ∈ wb := wb_t2 176 (by decide +kernel) rfl
theorem kM_X4_220 : Cond.methodLink RX4 220 yX4_store ∈ wb := wb_t2 177 (by decide +kernel) rfl
theorem kI_X4_store : Cond.instanceMethod yX4_store ∈ wb := wb_t2 179 (by decide +kernel) rfl
theorem kM_X4_282 : Cond.methodLink RX4 282 yX0_fill ∈ wb := wb_t2 181 (by decide +kernel) rfl
theorem kI_X0_fill : Cond.instanceMethod yX0_fill ∈ wb := wb_t2 182 (by decide +kernel) rfl
theorem kS_X0_fill : Cond.selects RX0 yX0_fill yX0_fill ∈ wb := wb_t2 183 (by decide +kernel) rfl
theorem kM_X0_29 : Cond.methodLink RX0 29 yX0_sizeOf ∈ wb := wb_t2 185 (by decide +kernel) rfl
theorem kM_X4_238 : Cond.methodLink RX4 238 yX3_awaitNext ∈ wb := wb_t2 186 (by decide +kernel) rfl
theorem kI_X3_awaitNext : Cond.instanceMethod yX3_awaitNext ∈ wb := wb_t2 187 (by decide +kernel) rfl
theorem kS_X3_awaitNext : Cond.selects RX3 yX3_awaitNext yX3_awaitNext ∈ wb := wb_t2 188 (by decide +kernel) rfl
theorem kM_X4_185 : Cond.methodLink RX4 185 yX4_write ∈ wb := wb_t2 190 (by decide +kernel) rfl
theorem kI_X4_write : Cond.instanceMethod yX4_write ∈ wb := wb_t2 192 (by decide +kernel) rfl
theorem kM_X4_197 : Cond.methodLink RX4 197 yX4_entryAt ∈ wb := wb_t2 194 (by decide +kernel) rfl
theorem kI_X4_entryAt : Cond.instanceMethod yX4_entryAt ∈ wb := wb_t2 196 (by decide +kernel) rfl
theorem kK_X4_244 : Cond.constant RX4 244 (65535) ∈ wb := wb_t2 198 (by decide +kernel) rfl
theorem kM_X4_200 : Cond.methodLink RX4 200 yX4_accessFault ∈ wb := wb_t2 199 (by decide +kernel) rfl
theorem kI_X4_accessFault : Cond.instanceMethod yX4_accessFault ∈ wb := wb_t2 201 (by decide +kernel) rfl
theorem kM_X4_245 : Cond.methodLink RX4 245 yX0_hasIndex ∈ wb := wb_t2 203 (by decide +kernel) rfl
theorem kI_X0_hasIndex : Cond.instanceMethod yX0_hasIndex ∈ wb := wb_t2 204 (by decide +kernel) rfl
theorem kS_X0_hasIndex : Cond.selects RX0 yX0_hasIndex yX0_hasIndex ∈ wb := wb_t2 205 (by decide +kernel) rfl
theorem kK_X4_249 : Cond.constant RX4 249 (101253137) ∈ wb := wb_t2 207 (by decide +kernel) rfl
theorem kK_X4_250 : Cond.constant RX4 250 (100794368) ∈ wb := wb_t2 208 (by decide +kernel) rfl
theorem kM_X4_251 : Cond.methodLink RX4 251 yX0_allows ∈ wb := wb_t2 209 (by decide +kernel) rfl
theorem kZ_X0_allows : Cond.static yX0_allows ∈ wb := wb_t2 210 (by decide +kernel) rfl
theorem kK_X4_255 : Cond.constant RX4 255 (100728834) ∈ wb := wb_t2 212 (by decide +kernel) rfl
theorem kK_X4_256 : Cond.constant RX4 256 (100728833) ∈ wb := wb_t2 213 (by decide +kernel) rfl
theorem kM_X4_204 : Cond.methodLink RX4 204 yX4_lengthFault ∈ wb := wb_t2 214 (by decide +kernel) rfl
theorem kZ_X4_lengthFault : Cond.static yX4_lengthFault ∈ wb := wb_t2 215 (by decide +kernel) rfl
theorem kM_X4_207 : Cond.methodLink RX4 207 yX3_begin ∈ wb := wb_t2 217 (by decide +kernel) rfl
theorem kI_X3_begin : Cond.instanceMethod yX3_begin ∈ wb := wb_t2 218 (by decide +kernel) rfl
theorem kS_X3_begin : Cond.selects RX3 yX3_begin yX3_begin ∈ wb := wb_t2 219 (by decide +kernel) rfl
theorem kM_X4_189 : Cond.methodLink RX4 189 yX4_read ∈ wb := wb_t2 221 (by decide +kernel) rfl
theorem kI_X4_read : Cond.instanceMethod yX4_read ∈ wb := wb_t2 223 (by decide +kernel) rfl
theorem kM_X4_193 : Cond.methodLink RX4 193 yX4_readSegment ∈ wb := wb_t2 225 (by decide +kernel) rfl
theorem kI_X4_readSegment : Cond.instanceMethod yX4_readSegment ∈ wb := wb_t2 227 (by decide +kernel) rfl
theorem kM_X4_85 : Cond.methodLink RX4 85 yX4_giveWhenChanged ∈ wb := wb_t2 229 (by decide +kernel) rfl
theorem kI_X4_giveWhenChanged : Cond.instanceMethod yX4_giveWhenChanged ∈ wb := wb_t2 231 (by decide +kernel) rfl
theorem kM_L_54 : Cond.methodLink RL 54 yL_set ∈ wb := wb_t2 233 (by decide +kernel) rfl
theorem kZ_L_set : Cond.static yL_set ∈ wb := wb_t2 234 (by decide +kernel) rfl
theorem kC_L_18 : Cond.classLink RL 18 "java/util/NoSuchElementException" ∈ wb := wb_t2 236 (by decide +kernel) rfl
theorem kM_L_15 : Cond.methodLink RL 15 yX4_set ∈ wb := wb_t2 237 (by decide +kernel) rfl
theorem kI_X4_set : Cond.instanceMethod yX4_set ∈ wb := wb_t2 238 (by decide +kernel) rfl
theorem kS_X4_set : Cond.selects RX4 yX4_set yX4_set ∈ wb := wb_t2 239 (by decide +kernel) rfl
theorem kC_X4_112 : Cond.classLink RX4 112 "java/util/NoSuchElementException" ∈ wb := wb_t3 1 (by decide +kernel) rfl
theorem kM_X4_114 : Cond.methodLink RX4 114 (⟨"java/util/NoSuchElementException", "<init>", "()V"⟩ : MethodName) ∈ wb := wb_t3 10 (by decide +kernel) rfl
theorem kM_L_57 : Cond.methodLink RL 57 yL_value ∈ wb := wb_t3 16 (by decide +kernel) rfl
theorem kZ_L_value : Cond.static yL_value ∈ wb := wb_t3 17 (by decide +kernel) rfl
theorem kM_L_20 : Cond.methodLink RL 20 yX4_value ∈ wb := wb_t3 19 (by decide +kernel) rfl
theorem kI_X4_value : Cond.instanceMethod yX4_value ∈ wb := wb_t3 20 (by decide +kernel) rfl
theorem kS_X4_value : Cond.selects RX4 yX4_value yX4_value ∈ wb := wb_t3 21 (by decide +kernel) rfl
theorem kM_L_78 : Cond.methodLink RL 78 yL_out ∈ wb := wb_t3 23 (by decide +kernel) rfl
theorem kZ_L_out : Cond.static yL_out ∈ wb := wb_t3 24 (by decide +kernel) rfl
theorem kC_L_28 : Cond.classLink RL 28 "java/lang/IndexOutOfBoundsException" ∈ wb := wb_t3 26 (by decide +kernel) rfl
theorem kM_L_24 : Cond.methodLink RL 24 yX4_out ∈ wb := wb_t3 27 (by decide +kernel) rfl
theorem kI_X4_out : Cond.instanceMethod yX4_out ∈ wb := wb_t3 28 (by decide +kernel) rfl
theorem kS_X4_out : Cond.selects RX4 yX4_out yX4_out ∈ wb := wb_t3 29 (by decide +kernel) rfl
theorem kC_X4_124 : Cond.classLink RX4 124 "java/lang/IndexOutOfBoundsException" ∈ wb := wb_t3 31 (by decide +kernel) rfl
theorem kM_X4_126 : Cond.methodLink RX4 126 (⟨"java/lang/IndexOutOfBoundsException", "<init>", "()V"⟩ : MethodName) ∈ wb := wb_t3 40 (by decide +kernel) rfl
theorem kM_X4_127 : Cond.methodLink RX4 127 yX2_part ∈ wb := wb_t3 46 (by decide +kernel) rfl
theorem kI_X2_part : Cond.instanceMethod yX2_part ∈ wb := wb_t3 47 (by decide +kernel) rfl
theorem kS_X2_part : Cond.selects RX2 yX2_part yX2_part ∈ wb := wb_t3 48 (by decide +kernel) rfl
theorem kC_L_39 : Cond.classLink RL 39 RX5 ∈ wb := wb_t3 50 (by decide +kernel) rfl
theorem kB_X5 : Cond.instantiable RX5 27 ∈ wb := wb_t3 51 (by decide +kernel) rfl
theorem kM_L_41 : Cond.methodLink RL 41 yX5_init ∈ wb := wb_t3 52 (by decide +kernel) rfl
theorem kI_X5_init : Cond.instanceMethod yX5_init ∈ wb := wb_t3 53 (by decide +kernel) rfl
theorem kM_X5_1 : Cond.methodLink RX5 1 (⟨"java/lang/Object", "<init>", "()V"⟩ : MethodName) ∈ wb := wb_t3 55 (by decide +kernel) rfl
theorem kM_X5_45 : Cond.methodLink RX5 45 yX5_add ∈ wb := wb_t3 56 (by decide +kernel) rfl
theorem kI_X5_add : Cond.instanceMethod yX5_add ∈ wb := wb_t3 58 (by decide +kernel) rfl
theorem kM_X5_49 : Cond.methodLink RX5 49 yX5_addMap ∈ wb := wb_t3 60 (by decide +kernel) rfl
theorem kI_X5_addMap : Cond.instanceMethod yX5_addMap ∈ wb := wb_t3 62 (by decide +kernel) rfl
theorem kK_X5_53 : Cond.constant RX5 53 (65536) ∈ wb := wb_t3 64 (by decide +kernel) rfl
theorem kM_X5_54 : Cond.methodLink RX5 54 yX5_reset ∈ wb := wb_t3 65 (by decide +kernel) rfl
theorem kI_X5_reset : Cond.instanceMethod yX5_reset ∈ wb := wb_t3 67 (by decide +kernel) rfl
theorem kK_X5_66 : Cond.constant RX5 66 (131473) ∈ wb := wb_t3 69 (by decide +kernel) rfl
theorem kM_X5_57 : Cond.methodLink RX5 57 yX5_boot ∈ wb := wb_t3 70 (by decide +kernel) rfl
theorem kI_X5_boot : Cond.instanceMethod yX5_boot ∈ wb := wb_t3 72 (by decide +kernel) rfl
theorem kM_X5_78 : Cond.methodLink RX5 78 yX5_send ∈ wb := wb_t3 74 (by decide +kernel) rfl
theorem kI_X5_send : Cond.instanceMethod yX5_send ∈ wb := wb_t3 76 (by decide +kernel) rfl
theorem kF_X5_67 : Cond.fieldLink RX5 67 "MappedBusNodeModel" "thrown" "I" ∈ wb := wb_t3 78 (by decide +kernel) rfl
theorem kF_X5_41 : Cond.fieldLink RX5 41 "MappedBusNodeModel" "node" "I" ∈ wb := wb_t3 79 (by decide +kernel) rfl
theorem kF_X5_7 : Cond.fieldLink RX5 7 "MappedBusNodeModel" "indexes" "[I" ∈ wb := wb_t3 80 (by decide +kernel) rfl
theorem kF_X5_13 : Cond.fieldLink RX5 13 "MappedBusNodeModel" "subs" "[I" ∈ wb := wb_t3 81 (by decide +kernel) rfl
theorem kF_X5_16 : Cond.fieldLink RX5 16 "MappedBusNodeModel" "sizes" "[I" ∈ wb := wb_t3 82 (by decide +kernel) rfl
theorem kF_X5_19 : Cond.fieldLink RX5 19 "MappedBusNodeModel" "rights" "[I" ∈ wb := wb_t3 83 (by decide +kernel) rfl
theorem kF_X5_22 : Cond.fieldLink RX5 22 "MappedBusNodeModel" "places" "[I" ∈ wb := wb_t3 84 (by decide +kernel) rfl
theorem kF_X5_25 : Cond.fieldLink RX5 25 "MappedBusNodeModel" "bytes" "[I" ∈ wb := wb_t3 85 (by decide +kernel) rfl
theorem kF_X5_60 : Cond.fieldLink RX5 60 "MappedBusNodeModel" "entries" "I" ∈ wb := wb_t3 86 (by decide +kernel) rfl
theorem kF_X5_63 : Cond.fieldLink RX5 63 "MappedBusNodeModel" "filled" "I" ∈ wb := wb_t3 87 (by decide +kernel) rfl
theorem kF_X5_82 : Cond.fieldLink RX5 82 "MappedBusNodeModel" "state" "I" ∈ wb := wb_t3 88 (by decide +kernel) rfl
theorem kF_X5_88 : Cond.fieldLink RX5 88 "MappedBusNodeModel" "lifeCount" "I" ∈ wb := wb_t3 89 (by decide +kernel) rfl
theorem kF_X5_91 : Cond.fieldLink RX5 91 "MappedBusNodeModel" "syncCount" "I" ∈ wb := wb_t3 90 (by decide +kernel) rfl
theorem kF_X5_112 : Cond.fieldLink RX5 112 "MappedBusNodeModel" "given" "J" ∈ wb := wb_t3 91 (by decide +kernel) rfl
theorem kF_X5_85 : Cond.fieldLink RX5 85 "MappedBusNodeModel" "transfer" "I" ∈ wb := wb_t3 92 (by decide +kernel) rfl
theorem kF_X5_128 : Cond.fieldLink RX5 128 "MappedBusNodeModel" "entry" "I" ∈ wb := wb_t3 93 (by decide +kernel) rfl
theorem kF_X5_134 : Cond.fieldLink RX5 134 "MappedBusNodeModel" "due" "I" ∈ wb := wb_t3 94 (by decide +kernel) rfl
theorem kF_X5_137 : Cond.fieldLink RX5 137 "MappedBusNodeModel" "done" "I" ∈ wb := wb_t3 95 (by decide +kernel) rfl
theorem kF_X5_94 : Cond.fieldLink RX5 94 "MappedBusNodeModel" "ticks" "I" ∈ wb := wb_t3 96 (by decide +kernel) rfl
theorem kF_X5_28 : Cond.fieldLink RX5 28 "MappedBusNodeModel" "held" "[I" ∈ wb := wb_t3 97 (by decide +kernel) rfl
theorem kF_X5_123 : Cond.fieldLink RX5 123 "MappedBusNodeModel" "request" "J" ∈ wb := wb_t3 98 (by decide +kernel) rfl
theorem kF_X5_148 : Cond.fieldLink RX5 148 "MappedBusNodeModel" "segment" "Z" ∈ wb := wb_t3 99 (by decide +kernel) rfl
theorem kF_X5_31 : Cond.fieldLink RX5 31 "MappedBusNodeModel" "outIds" "[I" ∈ wb := wb_t3 100 (by decide +kernel) rfl
theorem kF_X5_34 : Cond.fieldLink RX5 34 "MappedBusNodeModel" "outLengths" "[I" ∈ wb := wb_t3 101 (by decide +kernel) rfl
theorem kF_X5_37 : Cond.fieldLink RX5 37 "MappedBusNodeModel" "outBytes" "[J" ∈ wb := wb_t3 102 (by decide +kernel) rfl
theorem kF_X5_75 : Cond.fieldLink RX5 75 "MappedBusNodeModel" "outs" "I" ∈ wb := wb_t3 103 (by decide +kernel) rfl
theorem kF_X5_72 : Cond.fieldLink RX5 72 "MappedBusNodeModel" "sent" "I" ∈ wb := wb_t3 104 (by decide +kernel) rfl
theorem kA_long : Cond.arrayClass FieldType.long ∈ wb := wb_t3 160 (by decide +kernel) rfl
theorem kM_L_46 : Cond.methodLink RL 46 yX5_thrown ∈ wb := wb_t3 161 (by decide +kernel) rfl
theorem kI_X5_thrown : Cond.instanceMethod yX5_thrown ∈ wb := wb_t3 162 (by decide +kernel) rfl
theorem kS_X5_thrown : Cond.selects RX5 yX5_thrown yX5_thrown ∈ wb := wb_t3 163 (by decide +kernel) rfl
theorem kM_L_45 : Cond.methodLink RL 45 yX5_frame ∈ wb := wb_t3 165 (by decide +kernel) rfl
theorem kI_X5_frame : Cond.instanceMethod yX5_frame ∈ wb := wb_t3 166 (by decide +kernel) rfl
theorem kS_X5_frame : Cond.selects RX5 yX5_frame yX5_frame ∈ wb := wb_t3 167 (by decide +kernel) rfl
theorem kM_X5_192 : Cond.methodLink RX5 192 yX5_both ∈ wb := wb_t3 169 (by decide +kernel) rfl
theorem kZ_X5_both : Cond.static yX5_both ∈ wb := wb_t3 170 (by decide +kernel) rfl
theorem kQ_X5_190 : Cond.constantLong RX5 190 (4294967295) ∈ wb := wb_t3 172 (by decide +kernel) rfl
theorem kM_X5_119 : Cond.methodLink RX5 119 yX5_byteOf ∈ wb := wb_t3 173 (by decide +kernel) rfl
theorem kZ_X5_byteOf : Cond.static yX5_byteOf ∈ wb := wb_t3 174 (by decide +kernel) rfl
theorem kQ_X5_70 : Cond.constantLong RX5 70 (255) ∈ wb := wb_t3 176 (by decide +kernel) rfl
theorem kM_X5_196 : Cond.methodLink RX5 196 yX5_command ∈ wb := wb_t3 177 (by decide +kernel) rfl
theorem kI_X5_command : Cond.instanceMethod yX5_command ∈ wb := wb_t3 179 (by decide +kernel) rfl
theorem kM_X5_108 : Cond.methodLink RX5 108 yX5_content ∈ wb := wb_t3 181 (by decide +kernel) rfl
theorem kI_X5_content : Cond.instanceMethod yX5_content ∈ wb := wb_t3 183 (by decide +kernel) rfl
theorem kM_X5_97 : Cond.methodLink RX5 97 yX5_number ∈ wb := wb_t3 185 (by decide +kernel) rfl
theorem kI_X5_number : Cond.instanceMethod yX5_number ∈ wb := wb_t3 187 (by decide +kernel) rfl
theorem kM_X5_104 : Cond.methodLink RX5 104 yX5_named ∈ wb := wb_t3 189 (by decide +kernel) rfl
theorem kI_X5_named : Cond.instanceMethod yX5_named ∈ wb := wb_t3 191 (by decide +kernel) rfl
theorem kM_X5_199 : Cond.methodLink RX5 199 yX5_sync ∈ wb := wb_t3 193 (by decide +kernel) rfl
theorem kI_X5_sync : Cond.instanceMethod yX5_sync ∈ wb := wb_t3 195 (by decide +kernel) rfl
end
section
theorem kM_X5_187 : Cond.methodLink RX5 187 yX5_give ∈ wb := wb_t3 197 (by decide +kernel) rfl
theorem kI_X5_give : Cond.instanceMethod yX5_give ∈ wb := wb_t3 199 (by decide +kernel) rfl
theorem kM_X5_116 : Cond.methodLink RX5 116 yX5_lengthOf ∈ wb := wb_t3 201 (by decide +kernel) rfl
theorem kI_X5_lengthOf : Cond.instanceMethod yX5_lengthOf ∈ wb := wb_t3 203 (by decide +kernel) rfl
theorem kM_X5_101 : Cond.methodLink RX5 101 yX5_rightOf ∈ wb := wb_t3 205 (by decide +kernel) rfl
theorem kZ_X5_rightOf : Cond.static yX5_rightOf ∈ wb := wb_t3 206 (by decide +kernel) rfl
theorem kM_X5_202 : Cond.methodLink RX5 202 yX5_take ∈ wb := wb_t3 208 (by decide +kernel) rfl
theorem kI_X5_take : Cond.instanceMethod yX5_take ∈ wb := wb_t3 210 (by decide +kernel) rfl
theorem kM_X5_206 : Cond.methodLink RX5 206 yX5_ask ∈ wb := wb_t3 212 (by decide +kernel) rfl
theorem kI_X5_ask : Cond.instanceMethod yX5_ask ∈ wb := wb_t3 214 (by decide +kernel) rfl
theorem kM_X5_175 : Cond.methodLink RX5 175 yX5_writeSegment ∈ wb := wb_t3 216 (by decide +kernel) rfl
theorem kI_X5_writeSegment : Cond.instanceMethod yX5_writeSegment ∈ wb := wb_t3 218 (by decide +kernel) rfl
theorem kK_X5_172 : Cond.constant RX5 172 (84148225) ∈ wb := wb_t3 220 (by decide +kernel) rfl
theorem kM_X5_152 : Cond.methodLink RX5 152 yX5_abort ∈ wb := wb_t3 221 (by decide +kernel) rfl
theorem kI_X5_abort : Cond.instanceMethod yX5_abort ∈ wb := wb_t3 223 (by decide +kernel) rfl
theorem kQ_X5_126 : Cond.constantLong RX5 126 (65535) ∈ wb := wb_t3 225 (by decide +kernel) rfl
theorem kM_X5_131 : Cond.methodLink RX5 131 yX5_answer ∈ wb := wb_t3 226 (by decide +kernel) rfl
theorem kI_X5_answer : Cond.instanceMethod yX5_answer ∈ wb := wb_t3 228 (by decide +kernel) rfl
theorem kK_X5_173 : Cond.constant RX5 173 (84082688) ∈ wb := wb_t3 230 (by decide +kernel) rfl
theorem kK_X5_162 : Cond.constant RX5 162 (101122066) ∈ wb := wb_t3 231 (by decide +kernel) rfl
theorem kK_X5_163 : Cond.constant RX5 163 (101122067) ∈ wb := wb_t3 232 (by decide +kernel) rfl
theorem kM_X5_168 : Cond.methodLink RX5 168 yX5_store ∈ wb := wb_t3 233 (by decide +kernel) rfl
theorem kI_X5_store : Cond.instanceMethod yX5_store ∈ wb := wb_t3 235 (by decide +kernel) rfl
theorem kM_X5_145 : Cond.methodLink RX5 145 yX5_storing ∈ wb := wb_t3 237 (by decide +kernel) rfl
theorem kI_X5_storing : Cond.instanceMethod yX5_storing ∈ wb := wb_t3 239 (by decide +kernel) rfl
theorem kK_X5_140 : Cond.constant RX5 140 (101253168) ∈ wb := wb_t4 1 (by decide +kernel) rfl
theorem kK_X5_141 : Cond.constant RX5 141 (134217762) ∈ wb := wb_t4 2 (by decide +kernel) rfl
theorem kK_X5_142 : Cond.constant RX5 142 (100728832) ∈ wb := wb_t4 3 (by decide +kernel) rfl
theorem kK_X5_143 : Cond.constant RX5 143 (100925505) ∈ wb := wb_t4 4 (by decide +kernel) rfl
theorem kK_X5_144 : Cond.constant RX5 144 (100925506) ∈ wb := wb_t4 5 (by decide +kernel) rfl
theorem kM_X5_178 : Cond.methodLink RX5 178 yX5_write ∈ wb := wb_t4 6 (by decide +kernel) rfl
theorem kI_X5_write : Cond.instanceMethod yX5_write ∈ wb := wb_t4 8 (by decide +kernel) rfl
theorem kM_X5_156 : Cond.methodLink RX5 156 yX5_find ∈ wb := wb_t4 10 (by decide +kernel) rfl
theorem kI_X5_find : Cond.instanceMethod yX5_find ∈ wb := wb_t4 12 (by decide +kernel) rfl
theorem kK_X5_159 : Cond.constant RX5 159 (100794368) ∈ wb := wb_t4 14 (by decide +kernel) rfl
theorem kK_X5_160 : Cond.constant RX5 160 (101253137) ∈ wb := wb_t4 15 (by decide +kernel) rfl
theorem kK_X5_161 : Cond.constant RX5 161 (100728834) ∈ wb := wb_t4 16 (by decide +kernel) rfl
theorem kM_X5_164 : Cond.methodLink RX5 164 yX5_begin ∈ wb := wb_t4 17 (by decide +kernel) rfl
theorem kI_X5_begin : Cond.instanceMethod yX5_begin ∈ wb := wb_t4 19 (by decide +kernel) rfl
theorem kM_X5_181 : Cond.methodLink RX5 181 yX5_read ∈ wb := wb_t4 21 (by decide +kernel) rfl
theorem kI_X5_read : Cond.instanceMethod yX5_read ∈ wb := wb_t4 23 (by decide +kernel) rfl
theorem kK_X5_174 : Cond.constant RX5 174 (100728833) ∈ wb := wb_t4 25 (by decide +kernel) rfl
theorem kM_X5_184 : Cond.methodLink RX5 184 yX5_readSegment ∈ wb := wb_t4 26 (by decide +kernel) rfl
theorem kI_X5_readSegment : Cond.instanceMethod yX5_readSegment ∈ wb := wb_t4 28 (by decide +kernel) rfl
theorem kM_X5_210 : Cond.methodLink RX5 210 yX5_end ∈ wb := wb_t4 30 (by decide +kernel) rfl
theorem kI_X5_end : Cond.instanceMethod yX5_end ∈ wb := wb_t4 32 (by decide +kernel) rfl
theorem kM_L_53 : Cond.methodLink RL 53 yX5_tick ∈ wb := wb_t4 34 (by decide +kernel) rfl
theorem kI_X5_tick : Cond.instanceMethod yX5_tick ∈ wb := wb_t4 35 (by decide +kernel) rfl
theorem kS_X5_tick : Cond.selects RX5 yX5_tick yX5_tick ∈ wb := wb_t4 36 (by decide +kernel) rfl
theorem kK_X5_213 : Cond.constant RX5 213 (84148224) ∈ wb := wb_t4 38 (by decide +kernel) rfl
theorem kM_L_56 : Cond.methodLink RL 56 yX5_set ∈ wb := wb_t4 39 (by decide +kernel) rfl
theorem kI_X5_set : Cond.instanceMethod yX5_set ∈ wb := wb_t4 40 (by decide +kernel) rfl
theorem kS_X5_set : Cond.selects RX5 yX5_set yX5_set ∈ wb := wb_t4 41 (by decide +kernel) rfl
theorem kM_L_60 : Cond.methodLink RL 60 yX5_value ∈ wb := wb_t4 43 (by decide +kernel) rfl
theorem kI_X5_value : Cond.instanceMethod yX5_value ∈ wb := wb_t4 44 (by decide +kernel) rfl
theorem kS_X5_value : Cond.selects RX5 yX5_value yX5_value ∈ wb := wb_t4 45 (by decide +kernel) rfl
theorem kM_L_64 : Cond.methodLink RL 64 yX5_size ∈ wb := wb_t4 47 (by decide +kernel) rfl
theorem kI_X5_size : Cond.instanceMethod yX5_size ∈ wb := wb_t4 48 (by decide +kernel) rfl
theorem kS_X5_size : Cond.selects RX5 yX5_size yX5_size ∈ wb := wb_t4 49 (by decide +kernel) rfl
theorem kM_L_68 : Cond.methodLink RL 68 yX5_state ∈ wb := wb_t4 51 (by decide +kernel) rfl
theorem kI_X5_state : Cond.instanceMethod yX5_state ∈ wb := wb_t4 52 (by decide +kernel) rfl
theorem kS_X5_state : Cond.selects RX5 yX5_state yX5_state ∈ wb := wb_t4 53 (by decide +kernel) rfl
theorem kM_L_73 : Cond.methodLink RL 73 yX5_busy ∈ wb := wb_t4 55 (by decide +kernel) rfl
theorem kI_X5_busy : Cond.instanceMethod yX5_busy ∈ wb := wb_t4 56 (by decide +kernel) rfl
theorem kS_X5_busy : Cond.selects RX5 yX5_busy yX5_busy ∈ wb := wb_t4 57 (by decide +kernel) rfl
theorem kM_L_77 : Cond.methodLink RL 77 yX5_outs ∈ wb := wb_t4 59 (by decide +kernel) rfl
theorem kI_X5_outs : Cond.instanceMethod yX5_outs ∈ wb := wb_t4 60 (by decide +kernel) rfl
theorem kS_X5_outs : Cond.selects RX5 yX5_outs yX5_outs ∈ wb := wb_t4 61 (by decide +kernel) rfl
theorem kM_L_81 : Cond.methodLink RL 81 yX5_out ∈ wb := wb_t4 63 (by decide +kernel) rfl
theorem kI_X5_out : Cond.instanceMethod yX5_out ∈ wb := wb_t4 64 (by decide +kernel) rfl
theorem kS_X5_out : Cond.selects RX5 yX5_out yX5_out ∈ wb := wb_t4 65 (by decide +kernel) rfl
theorem kM_L_85 : Cond.methodLink RL 85 yX5_flush ∈ wb := wb_t4 67 (by decide +kernel) rfl
theorem kI_X5_flush : Cond.instanceMethod yX5_flush ∈ wb := wb_t4 68 (by decide +kernel) rfl
theorem kS_X5_flush : Cond.selects RX5 yX5_flush yX5_flush ∈ wb := wb_t4 69 (by decide +kernel) rfl
theorem kS_X4_boot : Cond.selects RX4 yX4_boot yX4_boot ∈ wb := wb_s 0 (by decide +kernel) rfl
theorem kS_X4_beat : Cond.selects RX4 yX4_beat yX4_beat ∈ wb := wb_s 1 (by decide +kernel) rfl
theorem kS_X4_abort : Cond.selects RX4 yX4_abort yX4_abort ∈ wb := wb_s 2 (by decide +kernel) rfl
theorem kS_X4_answer : Cond.selects RX4 yX4_answer yX4_answer ∈ wb := wb_s 3 (by decide +kernel) rfl
theorem kS_X4_command : Cond.selects RX4 yX4_command yX4_command ∈ wb := wb_s 5 (by decide +kernel) rfl
theorem kS_X4_run : Cond.selects RX4 yX4_run yX4_run ∈ wb := wb_s 6 (by decide +kernel) rfl
theorem kS_X1_target : Cond.selects RX1 yX1_target yX1_target ∈ wb := wb_s 7 (by decide +kernel) rfl
theorem kS_X4_sync : Cond.selects RX4 yX4_sync yX4_sync ∈ wb := wb_s 8 (by decide +kernel) rfl
theorem kS_X4_giveIfNew : Cond.selects RX4 yX4_giveIfNew yX4_giveIfNew ∈ wb := wb_s 9 (by decide +kernel) rfl
theorem kS_X4_give : Cond.selects RX4 yX4_give yX4_give ∈ wb := wb_s 10 (by decide +kernel) rfl
theorem kS_X4_take : Cond.selects RX4 yX4_take yX4_take ∈ wb := wb_s 11 (by decide +kernel) rfl
theorem kS_X4_request : Cond.selects RX4 yX4_request yX4_request ∈ wb := wb_s 12 (by decide +kernel) rfl
theorem kS_X4_writeSegment : Cond.selects RX4 yX4_writeSegment yX4_writeSegment ∈ wb := wb_s 13 (by decide +kernel) rfl
theorem kS_X4_segmentFault : Cond.selects RX4 yX4_segmentFault yX4_segmentFault ∈ wb := wb_s 14 (by decide +kernel) rfl
theorem kS_X4_storeFault : Cond.selects RX4 yX4_storeFault yX4_storeFault ∈ wb := wb_s 15 (by decide +kernel) rfl
theorem kS_X4_store : Cond.selects RX4 yX4_store yX4_store ∈ wb := wb_s 16 (by decide +kernel) rfl
theorem kS_X4_write : Cond.selects RX4 yX4_write yX4_write ∈ wb := wb_s 17 (by decide +kernel) rfl
theorem kS_X4_entryAt : Cond.selects RX4 yX4_entryAt yX4_entryAt ∈ wb := wb_s 18 (by decide +kernel) rfl
theorem kS_X4_accessFault : Cond.selects RX4 yX4_accessFault yX4_accessFault ∈ wb := wb_s 19 (by decide +kernel) rfl
theorem kS_X4_read : Cond.selects RX4 yX4_read yX4_read ∈ wb := wb_s 20 (by decide +kernel) rfl
theorem kS_X4_readSegment : Cond.selects RX4 yX4_readSegment yX4_readSegment ∈ wb := wb_s 21 (by decide +kernel) rfl
theorem kS_X4_giveWhenChanged : Cond.selects RX4 yX4_giveWhenChanged yX4_giveWhenChanged ∈ wb := wb_s 22 (by decide +kernel) rfl
theorem kS_X5_add : Cond.selects RX5 yX5_add yX5_add ∈ wb := wb_s 23 (by decide +kernel) rfl
theorem kS_X5_addMap : Cond.selects RX5 yX5_addMap yX5_addMap ∈ wb := wb_s 24 (by decide +kernel) rfl
theorem kS_X5_reset : Cond.selects RX5 yX5_reset yX5_reset ∈ wb := wb_s 25 (by decide +kernel) rfl
theorem kS_X5_boot : Cond.selects RX5 yX5_boot yX5_boot ∈ wb := wb_s 26 (by decide +kernel) rfl
theorem kS_X5_send : Cond.selects RX5 yX5_send yX5_send ∈ wb := wb_s 27 (by decide +kernel) rfl
theorem kS_X5_command : Cond.selects RX5 yX5_command yX5_command ∈ wb := wb_s 28 (by decide +kernel) rfl
theorem kS_X5_content : Cond.selects RX5 yX5_content yX5_content ∈ wb := wb_s 29 (by decide +kernel) rfl
theorem kS_X5_number : Cond.selects RX5 yX5_number yX5_number ∈ wb := wb_s 30 (by decide +kernel) rfl
theorem kS_X5_named : Cond.selects RX5 yX5_named yX5_named ∈ wb := wb_s 31 (by decide +kernel) rfl
theorem kS_X5_sync : Cond.selects RX5 yX5_sync yX5_sync ∈ wb := wb_s 32 (by decide +kernel) rfl
theorem kS_X5_give : Cond.selects RX5 yX5_give yX5_give ∈ wb := wb_s 33 (by decide +kernel) rfl
theorem kS_X5_lengthOf : Cond.selects RX5 yX5_lengthOf yX5_lengthOf ∈ wb := wb_s 34 (by decide +kernel) rfl
theorem kS_X5_take : Cond.selects RX5 yX5_take yX5_take ∈ wb := wb_s 35 (by decide +kernel) rfl
theorem kS_X5_ask : Cond.selects RX5 yX5_ask yX5_ask ∈ wb := wb_s 36 (by decide +kernel) rfl
theorem kS_X5_writeSegment : Cond.selects RX5 yX5_writeSegment yX5_writeSegment ∈ wb := wb_s 37 (by decide +kernel) rfl
theorem kS_X5_abort : Cond.selects RX5 yX5_abort yX5_abort ∈ wb := wb_s 38 (by decide +kernel) rfl
theorem kS_X5_answer : Cond.selects RX5 yX5_answer yX5_answer ∈ wb := wb_s 39 (by decide +kernel) rfl
theorem kS_X5_store : Cond.selects RX5 yX5_store yX5_store ∈ wb := wb_s 40 (by decide +kernel) rfl
theorem kS_X5_storing : Cond.selects RX5 yX5_storing yX5_storing ∈ wb := wb_s 41 (by decide +kernel) rfl
theorem kS_X5_write : Cond.selects RX5 yX5_write yX5_write ∈ wb := wb_s 42 (by decide +kernel) rfl
theorem kS_X5_find : Cond.selects RX5 yX5_find yX5_find ∈ wb := wb_s 43 (by decide +kernel) rfl
theorem kS_X5_begin : Cond.selects RX5 yX5_begin yX5_begin ∈ wb := wb_s 44 (by decide +kernel) rfl
theorem kS_X5_read : Cond.selects RX5 yX5_read yX5_read ∈ wb := wb_s 45 (by decide +kernel) rfl
theorem kS_X5_readSegment : Cond.selects RX5 yX5_readSegment yX5_readSegment ∈ wb := wb_s 46 (by decide +kernel) rfl
theorem kS_X5_end : Cond.selects RX5 yX5_end yX5_end ∈ wb := wb_s 47 (by decide +kernel) rfl
/-! the words that cross a nest: carried beside -/
def nwL : List Cond := [Cond.methodLinkNest RX4 43 yX2_init "MappedBusNode", Cond.fieldLinkNest RX4 121 "MappedBusNode$Outbox" "kept" "I" "MappedBusNode", Cond.fieldLinkNest RX4 61 "MappedBusNode$Outbox" "sent" "I" "MappedBusNode", Cond.methodLinkNest RX4 50 yX3_init "MappedBusNode", Cond.fieldLinkNest RX4 278 "MappedBusNode$Transfer" "bytes" "[I" "MappedBusNode", Cond.fieldLinkNest RX4 91 "MappedBusNode$Transfer" "going" "Z" "MappedBusNode", Cond.fieldLinkNest RX4 257 "MappedBusNode$Transfer" "writing" "Z" "MappedBusNode", Cond.fieldLinkNest RX4 235 "MappedBusNode$Transfer" "entry" "I" "MappedBusNode", Cond.fieldLinkNest RX4 98 "MappedBusNode$Transfer" "address" "I" "MappedBusNode", Cond.fieldLinkNest RX4 241 "MappedBusNode$Transfer" "done" "I" "MappedBusNode", Cond.fieldLinkNest RX4 260 "MappedBusNode$Transfer" "turn" "I" "MappedBusNode", Cond.fieldLinkNest RX4 95 "MappedBusNode$Transfer" "ticks" "I" "MappedBusNode"]
theorem nwL_in : ∀ w ∈ nwL, w ∈ tables_1 := by decide +kernel
theorem kT_X4_43 : Cond.methodLinkNest RX4 43 yX2_init "MappedBusNode" ∈ nwL := List.mem_of_getElem? (i := 0) rfl
theorem kT_X4_121 : Cond.fieldLinkNest RX4 121 "MappedBusNode$Outbox" "kept" "I" "MappedBusNode" ∈ nwL := List.mem_of_getElem? (i := 1) rfl
theorem kT_X4_61 : Cond.fieldLinkNest RX4 61 "MappedBusNode$Outbox" "sent" "I" "MappedBusNode" ∈ nwL := List.mem_of_getElem? (i := 2) rfl
theorem kT_X4_50 : Cond.methodLinkNest RX4 50 yX3_init "MappedBusNode" ∈ nwL := List.mem_of_getElem? (i := 3) rfl
theorem kT_X4_278 : Cond.fieldLinkNest RX4 278 "MappedBusNode$Transfer" "bytes" "[I" "MappedBusNode" ∈ nwL := List.mem_of_getElem? (i := 4) rfl
theorem kT_X4_91 : Cond.fieldLinkNest RX4 91 "MappedBusNode$Transfer" "going" "Z" "MappedBusNode" ∈ nwL := List.mem_of_getElem? (i := 5) rfl
theorem kT_X4_257 : Cond.fieldLinkNest RX4 257 "MappedBusNode$Transfer" "writing" "Z" "MappedBusNode" ∈ nwL := List.mem_of_getElem? (i := 6) rfl
theorem kT_X4_235 : Cond.fieldLinkNest RX4 235 "MappedBusNode$Transfer" "entry" "I" "MappedBusNode" ∈ nwL := List.mem_of_getElem? (i := 7) rfl
theorem kT_X4_98 : Cond.fieldLinkNest RX4 98 "MappedBusNode$Transfer" "address" "I" "MappedBusNode" ∈ nwL := List.mem_of_getElem? (i := 8) rfl
theorem kT_X4_241 : Cond.fieldLinkNest RX4 241 "MappedBusNode$Transfer" "done" "I" "MappedBusNode" ∈ nwL := List.mem_of_getElem? (i := 9) rfl
theorem kT_X4_260 : Cond.fieldLinkNest RX4 260 "MappedBusNode$Transfer" "turn" "I" "MappedBusNode" ∈ nwL := List.mem_of_getElem? (i := 10) rfl
theorem kT_X4_95 : Cond.fieldLinkNest RX4 95 "MappedBusNode$Transfer" "ticks" "I" "MappedBusNode" ∈ nwL := List.mem_of_getElem? (i := 11) rfl
end
section
theorem dL_cell_0 : decode cL_cell 0 = .ok (.iload_n 1, 1) := by decide +kernel
theorem dL_cell_1 : decode cL_cell 1 = .ok (.aload_n 0, 1) := by decide +kernel
theorem dL_cell_2 : decode cL_cell 2 = .ok (.arraylength, 1) := by decide +kernel
theorem dL_cell_3 : decode cL_cell 3 = .ok (.if_icmp .ge 9, 3) := by decide +kernel
theorem dL_cell_6 : decode cL_cell 6 = .ok (.aload_n 0, 1) := by decide +kernel
theorem dL_cell_7 : decode cL_cell 7 = .ok (.iload_n 1, 1) := by decide +kernel
theorem dL_cell_8 : decode cL_cell 8 = .ok (.iaload, 1) := by decide +kernel
theorem dL_cell_9 : decode cL_cell 9 = .ok (.goto 4, 3) := by decide +kernel
theorem dL_cell_12 : decode cL_cell 12 = .ok (.iconst 0, 1) := by decide +kernel
theorem dL_cell_13 : decode cL_cell 13 = .ok (.ireturn, 1) := by decide +kernel
theorem dL_frame_0 : decode cL_frame 0 = .ok (.aload 5, 2) := by decide +kernel
theorem dL_frame_2 : decode cL_frame 2 = .ok (.iconst 0, 1) := by decide +kernel
theorem dL_frame_3 : decode cL_frame 3 = .ok (.aload_n 0, 1) := by decide +kernel
theorem dL_frame_4 : decode cL_frame 4 = .ok (.iload_n 1, 1) := by decide +kernel
theorem dL_frame_5 : decode cL_frame 5 = .ok (.iload_n 2, 1) := by decide +kernel
theorem dL_frame_6 : decode cL_frame 6 = .ok (.iload_n 3, 1) := by decide +kernel
theorem dL_frame_7 : decode cL_frame 7 = .ok (.iload 4, 2) := by decide +kernel
theorem dL_frame_9 : decode cL_frame 9 = .ok (.invokevirtual 7, 3) := by decide +kernel
theorem dL_frame_12 : decode cL_frame 12 = .ok (.i2l, 1) := by decide +kernel
theorem dL_frame_13 : decode cL_frame 13 = .ok (.lastore, 1) := by decide +kernel
theorem dL_frame_14 : decode cL_frame 14 = .ok (.goto 7, 3) := by decide +kernel
theorem dL_frame_17 : decode cL_frame 17 = .ok (.astore 6, 2) := by decide +kernel
theorem dL_frame_19 : decode cL_frame 19 = .ok (.iconst 1, 1) := by decide +kernel
theorem dL_frame_20 : decode cL_frame 20 = .ok (.ireturn, 1) := by decide +kernel
theorem dL_frame_21 : decode cL_frame 21 = .ok (.iconst 0, 1) := by decide +kernel
theorem dL_frame_22 : decode cL_frame 22 = .ok (.ireturn, 1) := by decide +kernel
theorem dL_set_0 : decode cL_set 0 = .ok (.aload 5, 2) := by decide +kernel
theorem dL_set_2 : decode cL_set 2 = .ok (.iconst 0, 1) := by decide +kernel
theorem dL_set_3 : decode cL_set 3 = .ok (.aload_n 0, 1) := by decide +kernel
theorem dL_set_4 : decode cL_set 4 = .ok (.iload_n 1, 1) := by decide +kernel
theorem dL_set_5 : decode cL_set 5 = .ok (.iload_n 2, 1) := by decide +kernel
theorem dL_set_6 : decode cL_set 6 = .ok (.iload_n 3, 1) := by decide +kernel
theorem dL_set_7 : decode cL_set 7 = .ok (.iload 4, 2) := by decide +kernel
theorem dL_set_9 : decode cL_set 9 = .ok (.invokevirtual 15, 3) := by decide +kernel
theorem dL_set_12 : decode cL_set 12 = .ok (.i2l, 1) := by decide +kernel
theorem dL_set_13 : decode cL_set 13 = .ok (.lastore, 1) := by decide +kernel
theorem dL_set_14 : decode cL_set 14 = .ok (.goto 7, 3) := by decide +kernel
theorem dL_set_17 : decode cL_set 17 = .ok (.astore 6, 2) := by decide +kernel
theorem dL_set_19 : decode cL_set 19 = .ok (.iconst 1, 1) := by decide +kernel
theorem dL_set_20 : decode cL_set 20 = .ok (.ireturn, 1) := by decide +kernel
theorem dL_set_21 : decode cL_set 21 = .ok (.iconst 0, 1) := by decide +kernel
theorem dL_set_22 : decode cL_set 22 = .ok (.ireturn, 1) := by decide +kernel
theorem dL_value_0 : decode cL_value 0 = .ok (.aload 4, 2) := by decide +kernel
theorem dL_value_2 : decode cL_value 2 = .ok (.iconst 0, 1) := by decide +kernel
theorem dL_value_3 : decode cL_value 3 = .ok (.aload_n 0, 1) := by decide +kernel
theorem dL_value_4 : decode cL_value 4 = .ok (.iload_n 1, 1) := by decide +kernel
theorem dL_value_5 : decode cL_value 5 = .ok (.iload_n 2, 1) := by decide +kernel
theorem dL_value_6 : decode cL_value 6 = .ok (.iload_n 3, 1) := by decide +kernel
theorem dL_value_7 : decode cL_value 7 = .ok (.invokevirtual 20, 3) := by decide +kernel
theorem dL_value_10 : decode cL_value 10 = .ok (.i2l, 1) := by decide +kernel
theorem dL_value_11 : decode cL_value 11 = .ok (.lastore, 1) := by decide +kernel
theorem dL_value_12 : decode cL_value 12 = .ok (.goto 7, 3) := by decide +kernel
theorem dL_value_15 : decode cL_value 15 = .ok (.astore 5, 2) := by decide +kernel
theorem dL_value_17 : decode cL_value 17 = .ok (.iconst 1, 1) := by decide +kernel
theorem dL_value_18 : decode cL_value 18 = .ok (.ireturn, 1) := by decide +kernel
theorem dL_value_19 : decode cL_value 19 = .ok (.iconst 0, 1) := by decide +kernel
theorem dL_value_20 : decode cL_value 20 = .ok (.ireturn, 1) := by decide +kernel
theorem dL_out_0 : decode cL_out 0 = .ok (.aload_n 3, 1) := by decide +kernel
theorem dL_out_1 : decode cL_out 1 = .ok (.iconst 0, 1) := by decide +kernel
theorem dL_out_2 : decode cL_out 2 = .ok (.aload_n 0, 1) := by decide +kernel
theorem dL_out_3 : decode cL_out 3 = .ok (.iload_n 1, 1) := by decide +kernel
theorem dL_out_4 : decode cL_out 4 = .ok (.iload_n 2, 1) := by decide +kernel
theorem dL_out_5 : decode cL_out 5 = .ok (.invokevirtual 24, 3) := by decide +kernel
theorem dL_out_8 : decode cL_out 8 = .ok (.i2l, 1) := by decide +kernel
theorem dL_out_9 : decode cL_out 9 = .ok (.lastore, 1) := by decide +kernel
theorem dL_out_10 : decode cL_out 10 = .ok (.goto 7, 3) := by decide +kernel
theorem dL_out_13 : decode cL_out 13 = .ok (.astore 4, 2) := by decide +kernel
theorem dL_out_15 : decode cL_out 15 = .ok (.iconst 1, 1) := by decide +kernel
theorem dL_out_16 : decode cL_out 16 = .ok (.ireturn, 1) := by decide +kernel
theorem dL_out_17 : decode cL_out 17 = .ok (.iconst 0, 1) := by decide +kernel
theorem dL_out_18 : decode cL_out 18 = .ok (.ireturn, 1) := by decide +kernel
theorem dL_law_0 : decode cL_law 0 = .ok (.new 8, 3) := by decide +kernel
theorem dL_law_3 : decode cL_law 3 = .ok (.dup, 1) := by decide +kernel
theorem dL_law_4 : decode cL_law 4 = .ok (.aload_n 0, 1) := by decide +kernel
theorem dL_law_5 : decode cL_law 5 = .ok (.iconst 0, 1) := by decide +kernel
theorem dL_law_6 : decode cL_law 6 = .ok (.invokestatic 30, 3) := by decide +kernel
theorem dL_law_9 : decode cL_law 9 = .ok (.invokespecial 36, 3) := by decide +kernel
theorem dL_law_12 : decode cL_law 12 = .ok (.astore_n 1, 1) := by decide +kernel
theorem dL_law_13 : decode cL_law 13 = .ok (.new 39, 3) := by decide +kernel
theorem dL_law_16 : decode cL_law 16 = .ok (.dup, 1) := by decide +kernel
theorem dL_law_17 : decode cL_law 17 = .ok (.aload_n 0, 1) := by decide +kernel
theorem dL_law_18 : decode cL_law 18 = .ok (.iconst 0, 1) := by decide +kernel
theorem dL_law_19 : decode cL_law 19 = .ok (.invokestatic 30, 3) := by decide +kernel
theorem dL_law_22 : decode cL_law 22 = .ok (.invokespecial 41, 3) := by decide +kernel
theorem dL_law_25 : decode cL_law 25 = .ok (.astore_n 2, 1) := by decide +kernel
theorem dL_law_26 : decode cL_law 26 = .ok (.iconst 1, 1) := by decide +kernel
theorem dL_law_27 : decode cL_law 27 = .ok (.newarray .long, 2) := by decide +kernel
theorem dL_law_29 : decode cL_law 29 = .ok (.astore_n 3, 1) := by decide +kernel
theorem dL_law_30 : decode cL_law 30 = .ok (.iconst 1, 1) := by decide +kernel
theorem dL_law_31 : decode cL_law 31 = .ok (.istore 4, 2) := by decide +kernel
theorem dL_law_33 : decode cL_law 33 = .ok (.iload 4, 2) := by decide +kernel
theorem dL_law_35 : decode cL_law 35 = .ok (.aload_n 0, 1) := by decide +kernel
theorem dL_law_36 : decode cL_law 36 = .ok (.arraylength, 1) := by decide +kernel
theorem dL_law_37 : decode cL_law 37 = .ok (.iconst 5, 1) := by decide +kernel
theorem dL_law_38 : decode cL_law 38 = .ok (.isub, 1) := by decide +kernel
theorem dL_law_39 : decode cL_law 39 = .ok (.if_icmp .gt 505, 3) := by decide +kernel
theorem dL_law_42 : decode cL_law 42 = .ok (.aload_n 0, 1) := by decide +kernel
theorem dL_law_43 : decode cL_law 43 = .ok (.iload 4, 2) := by decide +kernel
theorem dL_law_45 : decode cL_law 45 = .ok (.iaload, 1) := by decide +kernel
theorem dL_law_46 : decode cL_law 46 = .ok (.bipush 15, 2) := by decide +kernel
theorem dL_law_48 : decode cL_law 48 = .ok (.iand, 1) := by decide +kernel
theorem dL_law_49 : decode cL_law 49 = .ok (.tableswitch 489 0 9 #[55, 147, 160, 252, 332, 369, 382, 395, 408, 476], 55) := by decide +kernel
theorem dL_law_104 : decode cL_law 104 = .ok (.aload_n 1, 1) := by decide +kernel
theorem dL_law_105 : decode cL_law 105 = .ok (.aload_n 0, 1) := by decide +kernel
theorem dL_law_106 : decode cL_law 106 = .ok (.iload 4, 2) := by decide +kernel
theorem dL_law_108 : decode cL_law 108 = .ok (.iconst 1, 1) := by decide +kernel
theorem dL_law_109 : decode cL_law 109 = .ok (.iadd, 1) := by decide +kernel
theorem dL_law_110 : decode cL_law 110 = .ok (.iaload, 1) := by decide +kernel
theorem dL_law_111 : decode cL_law 111 = .ok (.aload_n 0, 1) := by decide +kernel
theorem dL_law_112 : decode cL_law 112 = .ok (.iload 4, 2) := by decide +kernel
theorem dL_law_114 : decode cL_law 114 = .ok (.iconst 2, 1) := by decide +kernel
theorem dL_law_115 : decode cL_law 115 = .ok (.iadd, 1) := by decide +kernel
theorem dL_law_116 : decode cL_law 116 = .ok (.iaload, 1) := by decide +kernel
theorem dL_law_117 : decode cL_law 117 = .ok (.aload_n 0, 1) := by decide +kernel
theorem dL_law_118 : decode cL_law 118 = .ok (.iload 4, 2) := by decide +kernel
theorem dL_law_120 : decode cL_law 120 = .ok (.iconst 3, 1) := by decide +kernel
theorem dL_law_121 : decode cL_law 121 = .ok (.iadd, 1) := by decide +kernel
theorem dL_law_122 : decode cL_law 122 = .ok (.iaload, 1) := by decide +kernel
theorem dL_law_123 : decode cL_law 123 = .ok (.aload_n 0, 1) := by decide +kernel
theorem dL_law_124 : decode cL_law 124 = .ok (.iload 4, 2) := by decide +kernel
theorem dL_law_126 : decode cL_law 126 = .ok (.iconst 4, 1) := by decide +kernel
theorem dL_law_127 : decode cL_law 127 = .ok (.iadd, 1) := by decide +kernel
theorem dL_law_128 : decode cL_law 128 = .ok (.iaload, 1) := by decide +kernel
theorem dL_law_129 : decode cL_law 129 = .ok (.aload_n 3, 1) := by decide +kernel
theorem dL_law_130 : decode cL_law 130 = .ok (.invokestatic 42, 3) := by decide +kernel
theorem dL_law_133 : decode cL_law 133 = .ok (.istore 5, 2) := by decide +kernel
theorem dL_law_135 : decode cL_law 135 = .ok (.aload_n 2, 1) := by decide +kernel
theorem dL_law_136 : decode cL_law 136 = .ok (.aload_n 0, 1) := by decide +kernel
theorem dL_law_137 : decode cL_law 137 = .ok (.iload 4, 2) := by decide +kernel
theorem dL_law_139 : decode cL_law 139 = .ok (.iconst 1, 1) := by decide +kernel
end
section
theorem dL_law_140 : decode cL_law 140 = .ok (.iadd, 1) := by decide +kernel
theorem dL_law_141 : decode cL_law 141 = .ok (.iaload, 1) := by decide +kernel
theorem dL_law_142 : decode cL_law 142 = .ok (.aload_n 0, 1) := by decide +kernel
theorem dL_law_143 : decode cL_law 143 = .ok (.iload 4, 2) := by decide +kernel
theorem dL_law_145 : decode cL_law 145 = .ok (.iconst 2, 1) := by decide +kernel
theorem dL_law_146 : decode cL_law 146 = .ok (.iadd, 1) := by decide +kernel
theorem dL_law_147 : decode cL_law 147 = .ok (.iaload, 1) := by decide +kernel
theorem dL_law_148 : decode cL_law 148 = .ok (.aload_n 0, 1) := by decide +kernel
theorem dL_law_149 : decode cL_law 149 = .ok (.iload 4, 2) := by decide +kernel
theorem dL_law_151 : decode cL_law 151 = .ok (.iconst 3, 1) := by decide +kernel
theorem dL_law_152 : decode cL_law 152 = .ok (.iadd, 1) := by decide +kernel
theorem dL_law_153 : decode cL_law 153 = .ok (.iaload, 1) := by decide +kernel
theorem dL_law_154 : decode cL_law 154 = .ok (.aload_n 0, 1) := by decide +kernel
theorem dL_law_155 : decode cL_law 155 = .ok (.iload 4, 2) := by decide +kernel
theorem dL_law_157 : decode cL_law 157 = .ok (.iconst 4, 1) := by decide +kernel
theorem dL_law_158 : decode cL_law 158 = .ok (.iadd, 1) := by decide +kernel
theorem dL_law_159 : decode cL_law 159 = .ok (.iaload, 1) := by decide +kernel
theorem dL_law_160 : decode cL_law 160 = .ok (.invokevirtual 45, 3) := by decide +kernel
theorem dL_law_163 : decode cL_law 163 = .ok (.istore 6, 2) := by decide +kernel
theorem dL_law_165 : decode cL_law 165 = .ok (.aload_n 2, 1) := by decide +kernel
theorem dL_law_166 : decode cL_law 166 = .ok (.invokevirtual 46, 3) := by decide +kernel
theorem dL_law_169 : decode cL_law 169 = .ok (.iload 5, 2) := by decide +kernel
theorem dL_law_171 : decode cL_law 171 = .ok (.if_icmp .eq 5, 3) := by decide +kernel
theorem dL_law_174 : decode cL_law 174 = .ok (.iconst 0, 1) := by decide +kernel
theorem dL_law_175 : decode cL_law 175 = .ok (.ireturn, 1) := by decide +kernel
theorem dL_law_176 : decode cL_law 176 = .ok (.iload 5, 2) := by decide +kernel
theorem dL_law_178 : decode cL_law 178 = .ok (.ifCond .ne 15, 3) := by decide +kernel
theorem dL_law_181 : decode cL_law 181 = .ok (.aload_n 3, 1) := by decide +kernel
theorem dL_law_182 : decode cL_law 182 = .ok (.iconst 0, 1) := by decide +kernel
theorem dL_law_183 : decode cL_law 183 = .ok (.laload, 1) := by decide +kernel
theorem dL_law_184 : decode cL_law 184 = .ok (.iload 6, 2) := by decide +kernel
theorem dL_law_186 : decode cL_law 186 = .ok (.i2l, 1) := by decide +kernel
theorem dL_law_187 : decode cL_law 187 = .ok (.lcmp, 1) := by decide +kernel
theorem dL_law_188 : decode cL_law 188 = .ok (.ifCond .eq 5, 3) := by decide +kernel
theorem dL_law_191 : decode cL_law 191 = .ok (.iconst 0, 1) := by decide +kernel
theorem dL_law_192 : decode cL_law 192 = .ok (.ireturn, 1) := by decide +kernel
theorem dL_law_193 : decode cL_law 193 = .ok (.goto 345, 3) := by decide +kernel
theorem dL_law_196 : decode cL_law 196 = .ok (.aload_n 1, 1) := by decide +kernel
theorem dL_law_197 : decode cL_law 197 = .ok (.invokevirtual 50, 3) := by decide +kernel
theorem dL_law_200 : decode cL_law 200 = .ok (.aload_n 2, 1) := by decide +kernel
theorem dL_law_201 : decode cL_law 201 = .ok (.invokevirtual 53, 3) := by decide +kernel
theorem dL_law_204 : decode cL_law 204 = .ok (.if_icmp .eq 334, 3) := by decide +kernel
theorem dL_law_207 : decode cL_law 207 = .ok (.iconst 0, 1) := by decide +kernel
theorem dL_law_208 : decode cL_law 208 = .ok (.ireturn, 1) := by decide +kernel
theorem dL_law_209 : decode cL_law 209 = .ok (.aload_n 1, 1) := by decide +kernel
theorem dL_law_210 : decode cL_law 210 = .ok (.aload_n 0, 1) := by decide +kernel
theorem dL_law_211 : decode cL_law 211 = .ok (.iload 4, 2) := by decide +kernel
theorem dL_law_213 : decode cL_law 213 = .ok (.iconst 1, 1) := by decide +kernel
theorem dL_law_214 : decode cL_law 214 = .ok (.iadd, 1) := by decide +kernel
theorem dL_law_215 : decode cL_law 215 = .ok (.iaload, 1) := by decide +kernel
theorem dL_law_216 : decode cL_law 216 = .ok (.aload_n 0, 1) := by decide +kernel
theorem dL_law_217 : decode cL_law 217 = .ok (.iload 4, 2) := by decide +kernel
theorem dL_law_219 : decode cL_law 219 = .ok (.iconst 2, 1) := by decide +kernel
theorem dL_law_220 : decode cL_law 220 = .ok (.iadd, 1) := by decide +kernel
theorem dL_law_221 : decode cL_law 221 = .ok (.iaload, 1) := by decide +kernel
theorem dL_law_222 : decode cL_law 222 = .ok (.aload_n 0, 1) := by decide +kernel
theorem dL_law_223 : decode cL_law 223 = .ok (.iload 4, 2) := by decide +kernel
theorem dL_law_225 : decode cL_law 225 = .ok (.iconst 3, 1) := by decide +kernel
theorem dL_law_226 : decode cL_law 226 = .ok (.iadd, 1) := by decide +kernel
theorem dL_law_227 : decode cL_law 227 = .ok (.iaload, 1) := by decide +kernel
theorem dL_law_228 : decode cL_law 228 = .ok (.aload_n 0, 1) := by decide +kernel
theorem dL_law_229 : decode cL_law 229 = .ok (.iload 4, 2) := by decide +kernel
theorem dL_law_231 : decode cL_law 231 = .ok (.iconst 4, 1) := by decide +kernel
theorem dL_law_232 : decode cL_law 232 = .ok (.iadd, 1) := by decide +kernel
theorem dL_law_233 : decode cL_law 233 = .ok (.iaload, 1) := by decide +kernel
theorem dL_law_234 : decode cL_law 234 = .ok (.aload_n 3, 1) := by decide +kernel
theorem dL_law_235 : decode cL_law 235 = .ok (.invokestatic 54, 3) := by decide +kernel
theorem dL_law_238 : decode cL_law 238 = .ok (.istore 5, 2) := by decide +kernel
theorem dL_law_240 : decode cL_law 240 = .ok (.aload_n 2, 1) := by decide +kernel
theorem dL_law_241 : decode cL_law 241 = .ok (.aload_n 0, 1) := by decide +kernel
theorem dL_law_242 : decode cL_law 242 = .ok (.iload 4, 2) := by decide +kernel
theorem dL_law_244 : decode cL_law 244 = .ok (.iconst 1, 1) := by decide +kernel
theorem dL_law_245 : decode cL_law 245 = .ok (.iadd, 1) := by decide +kernel
theorem dL_law_246 : decode cL_law 246 = .ok (.iaload, 1) := by decide +kernel
theorem dL_law_247 : decode cL_law 247 = .ok (.aload_n 0, 1) := by decide +kernel
theorem dL_law_248 : decode cL_law 248 = .ok (.iload 4, 2) := by decide +kernel
theorem dL_law_250 : decode cL_law 250 = .ok (.iconst 2, 1) := by decide +kernel
theorem dL_law_251 : decode cL_law 251 = .ok (.iadd, 1) := by decide +kernel
theorem dL_law_252 : decode cL_law 252 = .ok (.iaload, 1) := by decide +kernel
theorem dL_law_253 : decode cL_law 253 = .ok (.aload_n 0, 1) := by decide +kernel
theorem dL_law_254 : decode cL_law 254 = .ok (.iload 4, 2) := by decide +kernel
theorem dL_law_256 : decode cL_law 256 = .ok (.iconst 3, 1) := by decide +kernel
theorem dL_law_257 : decode cL_law 257 = .ok (.iadd, 1) := by decide +kernel
theorem dL_law_258 : decode cL_law 258 = .ok (.iaload, 1) := by decide +kernel
theorem dL_law_259 : decode cL_law 259 = .ok (.aload_n 0, 1) := by decide +kernel
theorem dL_law_260 : decode cL_law 260 = .ok (.iload 4, 2) := by decide +kernel
theorem dL_law_262 : decode cL_law 262 = .ok (.iconst 4, 1) := by decide +kernel
theorem dL_law_263 : decode cL_law 263 = .ok (.iadd, 1) := by decide +kernel
theorem dL_law_264 : decode cL_law 264 = .ok (.iaload, 1) := by decide +kernel
theorem dL_law_265 : decode cL_law 265 = .ok (.invokevirtual 56, 3) := by decide +kernel
theorem dL_law_268 : decode cL_law 268 = .ok (.istore 6, 2) := by decide +kernel
theorem dL_law_270 : decode cL_law 270 = .ok (.aload_n 2, 1) := by decide +kernel
theorem dL_law_271 : decode cL_law 271 = .ok (.invokevirtual 46, 3) := by decide +kernel
theorem dL_law_274 : decode cL_law 274 = .ok (.iload 5, 2) := by decide +kernel
theorem dL_law_276 : decode cL_law 276 = .ok (.if_icmp .eq 5, 3) := by decide +kernel
theorem dL_law_279 : decode cL_law 279 = .ok (.iconst 0, 1) := by decide +kernel
theorem dL_law_280 : decode cL_law 280 = .ok (.ireturn, 1) := by decide +kernel
theorem dL_law_281 : decode cL_law 281 = .ok (.iload 5, 2) := by decide +kernel
theorem dL_law_283 : decode cL_law 283 = .ok (.ifCond .ne 15, 3) := by decide +kernel
theorem dL_law_286 : decode cL_law 286 = .ok (.aload_n 3, 1) := by decide +kernel
theorem dL_law_287 : decode cL_law 287 = .ok (.iconst 0, 1) := by decide +kernel
theorem dL_law_288 : decode cL_law 288 = .ok (.laload, 1) := by decide +kernel
theorem dL_law_289 : decode cL_law 289 = .ok (.iload 6, 2) := by decide +kernel
theorem dL_law_291 : decode cL_law 291 = .ok (.i2l, 1) := by decide +kernel
theorem dL_law_292 : decode cL_law 292 = .ok (.lcmp, 1) := by decide +kernel
theorem dL_law_293 : decode cL_law 293 = .ok (.ifCond .eq 5, 3) := by decide +kernel
theorem dL_law_296 : decode cL_law 296 = .ok (.iconst 0, 1) := by decide +kernel
theorem dL_law_297 : decode cL_law 297 = .ok (.ireturn, 1) := by decide +kernel
theorem dL_law_298 : decode cL_law 298 = .ok (.goto 240, 3) := by decide +kernel
theorem dL_law_301 : decode cL_law 301 = .ok (.aload_n 1, 1) := by decide +kernel
theorem dL_law_302 : decode cL_law 302 = .ok (.aload_n 0, 1) := by decide +kernel
theorem dL_law_303 : decode cL_law 303 = .ok (.iload 4, 2) := by decide +kernel
theorem dL_law_305 : decode cL_law 305 = .ok (.iconst 1, 1) := by decide +kernel
theorem dL_law_306 : decode cL_law 306 = .ok (.iadd, 1) := by decide +kernel
theorem dL_law_307 : decode cL_law 307 = .ok (.iaload, 1) := by decide +kernel
theorem dL_law_308 : decode cL_law 308 = .ok (.aload_n 0, 1) := by decide +kernel
theorem dL_law_309 : decode cL_law 309 = .ok (.iload 4, 2) := by decide +kernel
theorem dL_law_311 : decode cL_law 311 = .ok (.iconst 2, 1) := by decide +kernel
theorem dL_law_312 : decode cL_law 312 = .ok (.iadd, 1) := by decide +kernel
theorem dL_law_313 : decode cL_law 313 = .ok (.iaload, 1) := by decide +kernel
theorem dL_law_314 : decode cL_law 314 = .ok (.aload_n 0, 1) := by decide +kernel
theorem dL_law_315 : decode cL_law 315 = .ok (.iload 4, 2) := by decide +kernel
theorem dL_law_317 : decode cL_law 317 = .ok (.iconst 3, 1) := by decide +kernel
theorem dL_law_318 : decode cL_law 318 = .ok (.iadd, 1) := by decide +kernel
theorem dL_law_319 : decode cL_law 319 = .ok (.iaload, 1) := by decide +kernel
theorem dL_law_320 : decode cL_law 320 = .ok (.aload_n 3, 1) := by decide +kernel
theorem dL_law_321 : decode cL_law 321 = .ok (.invokestatic 57, 3) := by decide +kernel
theorem dL_law_324 : decode cL_law 324 = .ok (.istore 5, 2) := by decide +kernel
theorem dL_law_326 : decode cL_law 326 = .ok (.aload_n 2, 1) := by decide +kernel
theorem dL_law_327 : decode cL_law 327 = .ok (.aload_n 0, 1) := by decide +kernel
end
section
theorem dL_law_328 : decode cL_law 328 = .ok (.iload 4, 2) := by decide +kernel
theorem dL_law_330 : decode cL_law 330 = .ok (.iconst 1, 1) := by decide +kernel
theorem dL_law_331 : decode cL_law 331 = .ok (.iadd, 1) := by decide +kernel
theorem dL_law_332 : decode cL_law 332 = .ok (.iaload, 1) := by decide +kernel
theorem dL_law_333 : decode cL_law 333 = .ok (.aload_n 0, 1) := by decide +kernel
theorem dL_law_334 : decode cL_law 334 = .ok (.iload 4, 2) := by decide +kernel
theorem dL_law_336 : decode cL_law 336 = .ok (.iconst 2, 1) := by decide +kernel
theorem dL_law_337 : decode cL_law 337 = .ok (.iadd, 1) := by decide +kernel
theorem dL_law_338 : decode cL_law 338 = .ok (.iaload, 1) := by decide +kernel
theorem dL_law_339 : decode cL_law 339 = .ok (.aload_n 0, 1) := by decide +kernel
theorem dL_law_340 : decode cL_law 340 = .ok (.iload 4, 2) := by decide +kernel
theorem dL_law_342 : decode cL_law 342 = .ok (.iconst 3, 1) := by decide +kernel
theorem dL_law_343 : decode cL_law 343 = .ok (.iadd, 1) := by decide +kernel
theorem dL_law_344 : decode cL_law 344 = .ok (.iaload, 1) := by decide +kernel
theorem dL_law_345 : decode cL_law 345 = .ok (.invokevirtual 60, 3) := by decide +kernel
theorem dL_law_348 : decode cL_law 348 = .ok (.istore 6, 2) := by decide +kernel
theorem dL_law_350 : decode cL_law 350 = .ok (.aload_n 2, 1) := by decide +kernel
theorem dL_law_351 : decode cL_law 351 = .ok (.invokevirtual 46, 3) := by decide +kernel
theorem dL_law_354 : decode cL_law 354 = .ok (.iload 5, 2) := by decide +kernel
theorem dL_law_356 : decode cL_law 356 = .ok (.if_icmp .eq 5, 3) := by decide +kernel
theorem dL_law_359 : decode cL_law 359 = .ok (.iconst 0, 1) := by decide +kernel
theorem dL_law_360 : decode cL_law 360 = .ok (.ireturn, 1) := by decide +kernel
theorem dL_law_361 : decode cL_law 361 = .ok (.iload 5, 2) := by decide +kernel
theorem dL_law_363 : decode cL_law 363 = .ok (.ifCond .ne 15, 3) := by decide +kernel
theorem dL_law_366 : decode cL_law 366 = .ok (.aload_n 3, 1) := by decide +kernel
theorem dL_law_367 : decode cL_law 367 = .ok (.iconst 0, 1) := by decide +kernel
theorem dL_law_368 : decode cL_law 368 = .ok (.laload, 1) := by decide +kernel
theorem dL_law_369 : decode cL_law 369 = .ok (.iload 6, 2) := by decide +kernel
theorem dL_law_371 : decode cL_law 371 = .ok (.i2l, 1) := by decide +kernel
theorem dL_law_372 : decode cL_law 372 = .ok (.lcmp, 1) := by decide +kernel
theorem dL_law_373 : decode cL_law 373 = .ok (.ifCond .eq 5, 3) := by decide +kernel
theorem dL_law_376 : decode cL_law 376 = .ok (.iconst 0, 1) := by decide +kernel
theorem dL_law_377 : decode cL_law 377 = .ok (.ireturn, 1) := by decide +kernel
theorem dL_law_378 : decode cL_law 378 = .ok (.goto 160, 3) := by decide +kernel
theorem dL_law_381 : decode cL_law 381 = .ok (.aload_n 1, 1) := by decide +kernel
theorem dL_law_382 : decode cL_law 382 = .ok (.aload_n 0, 1) := by decide +kernel
theorem dL_law_383 : decode cL_law 383 = .ok (.iload 4, 2) := by decide +kernel
theorem dL_law_385 : decode cL_law 385 = .ok (.iconst 1, 1) := by decide +kernel
theorem dL_law_386 : decode cL_law 386 = .ok (.iadd, 1) := by decide +kernel
theorem dL_law_387 : decode cL_law 387 = .ok (.iaload, 1) := by decide +kernel
theorem dL_law_388 : decode cL_law 388 = .ok (.aload_n 0, 1) := by decide +kernel
theorem dL_law_389 : decode cL_law 389 = .ok (.iload 4, 2) := by decide +kernel
theorem dL_law_391 : decode cL_law 391 = .ok (.iconst 2, 1) := by decide +kernel
theorem dL_law_392 : decode cL_law 392 = .ok (.iadd, 1) := by decide +kernel
theorem dL_law_393 : decode cL_law 393 = .ok (.iaload, 1) := by decide +kernel
theorem dL_law_394 : decode cL_law 394 = .ok (.invokevirtual 61, 3) := by decide +kernel
theorem dL_law_397 : decode cL_law 397 = .ok (.aload_n 2, 1) := by decide +kernel
theorem dL_law_398 : decode cL_law 398 = .ok (.aload_n 0, 1) := by decide +kernel
theorem dL_law_399 : decode cL_law 399 = .ok (.iload 4, 2) := by decide +kernel
theorem dL_law_401 : decode cL_law 401 = .ok (.iconst 1, 1) := by decide +kernel
theorem dL_law_402 : decode cL_law 402 = .ok (.iadd, 1) := by decide +kernel
theorem dL_law_403 : decode cL_law 403 = .ok (.iaload, 1) := by decide +kernel
theorem dL_law_404 : decode cL_law 404 = .ok (.aload_n 0, 1) := by decide +kernel
theorem dL_law_405 : decode cL_law 405 = .ok (.iload 4, 2) := by decide +kernel
theorem dL_law_407 : decode cL_law 407 = .ok (.iconst 2, 1) := by decide +kernel
theorem dL_law_408 : decode cL_law 408 = .ok (.iadd, 1) := by decide +kernel
theorem dL_law_409 : decode cL_law 409 = .ok (.iaload, 1) := by decide +kernel
theorem dL_law_410 : decode cL_law 410 = .ok (.invokevirtual 64, 3) := by decide +kernel
theorem dL_law_413 : decode cL_law 413 = .ok (.if_icmp .eq 125, 3) := by decide +kernel
theorem dL_law_416 : decode cL_law 416 = .ok (.iconst 0, 1) := by decide +kernel
theorem dL_law_417 : decode cL_law 417 = .ok (.ireturn, 1) := by decide +kernel
theorem dL_law_418 : decode cL_law 418 = .ok (.aload_n 1, 1) := by decide +kernel
theorem dL_law_419 : decode cL_law 419 = .ok (.invokevirtual 65, 3) := by decide +kernel
theorem dL_law_422 : decode cL_law 422 = .ok (.aload_n 2, 1) := by decide +kernel
theorem dL_law_423 : decode cL_law 423 = .ok (.invokevirtual 68, 3) := by decide +kernel
theorem dL_law_426 : decode cL_law 426 = .ok (.if_icmp .eq 112, 3) := by decide +kernel
theorem dL_law_429 : decode cL_law 429 = .ok (.iconst 0, 1) := by decide +kernel
theorem dL_law_430 : decode cL_law 430 = .ok (.ireturn, 1) := by decide +kernel
theorem dL_law_431 : decode cL_law 431 = .ok (.aload_n 1, 1) := by decide +kernel
theorem dL_law_432 : decode cL_law 432 = .ok (.invokevirtual 69, 3) := by decide +kernel
theorem dL_law_435 : decode cL_law 435 = .ok (.aload_n 2, 1) := by decide +kernel
theorem dL_law_436 : decode cL_law 436 = .ok (.invokevirtual 73, 3) := by decide +kernel
theorem dL_law_439 : decode cL_law 439 = .ok (.if_icmp .eq 99, 3) := by decide +kernel
theorem dL_law_442 : decode cL_law 442 = .ok (.iconst 0, 1) := by decide +kernel
theorem dL_law_443 : decode cL_law 443 = .ok (.ireturn, 1) := by decide +kernel
theorem dL_law_444 : decode cL_law 444 = .ok (.aload_n 1, 1) := by decide +kernel
theorem dL_law_445 : decode cL_law 445 = .ok (.invokevirtual 74, 3) := by decide +kernel
theorem dL_law_448 : decode cL_law 448 = .ok (.aload_n 2, 1) := by decide +kernel
theorem dL_law_449 : decode cL_law 449 = .ok (.invokevirtual 77, 3) := by decide +kernel
theorem dL_law_452 : decode cL_law 452 = .ok (.if_icmp .eq 86, 3) := by decide +kernel
theorem dL_law_455 : decode cL_law 455 = .ok (.iconst 0, 1) := by decide +kernel
theorem dL_law_456 : decode cL_law 456 = .ok (.ireturn, 1) := by decide +kernel
theorem dL_law_457 : decode cL_law 457 = .ok (.aload_n 1, 1) := by decide +kernel
theorem dL_law_458 : decode cL_law 458 = .ok (.aload_n 0, 1) := by decide +kernel
theorem dL_law_459 : decode cL_law 459 = .ok (.iload 4, 2) := by decide +kernel
theorem dL_law_461 : decode cL_law 461 = .ok (.iconst 1, 1) := by decide +kernel
theorem dL_law_462 : decode cL_law 462 = .ok (.iadd, 1) := by decide +kernel
theorem dL_law_463 : decode cL_law 463 = .ok (.iaload, 1) := by decide +kernel
theorem dL_law_464 : decode cL_law 464 = .ok (.aload_n 0, 1) := by decide +kernel
theorem dL_law_465 : decode cL_law 465 = .ok (.iload 4, 2) := by decide +kernel
theorem dL_law_467 : decode cL_law 467 = .ok (.iconst 2, 1) := by decide +kernel
theorem dL_law_468 : decode cL_law 468 = .ok (.iadd, 1) := by decide +kernel
theorem dL_law_469 : decode cL_law 469 = .ok (.iaload, 1) := by decide +kernel
theorem dL_law_470 : decode cL_law 470 = .ok (.aload_n 3, 1) := by decide +kernel
theorem dL_law_471 : decode cL_law 471 = .ok (.invokestatic 78, 3) := by decide +kernel
theorem dL_law_474 : decode cL_law 474 = .ok (.istore 5, 2) := by decide +kernel
theorem dL_law_476 : decode cL_law 476 = .ok (.aload_n 2, 1) := by decide +kernel
theorem dL_law_477 : decode cL_law 477 = .ok (.aload_n 0, 1) := by decide +kernel
theorem dL_law_478 : decode cL_law 478 = .ok (.iload 4, 2) := by decide +kernel
theorem dL_law_480 : decode cL_law 480 = .ok (.iconst 1, 1) := by decide +kernel
theorem dL_law_481 : decode cL_law 481 = .ok (.iadd, 1) := by decide +kernel
theorem dL_law_482 : decode cL_law 482 = .ok (.iaload, 1) := by decide +kernel
theorem dL_law_483 : decode cL_law 483 = .ok (.aload_n 0, 1) := by decide +kernel
theorem dL_law_484 : decode cL_law 484 = .ok (.iload 4, 2) := by decide +kernel
theorem dL_law_486 : decode cL_law 486 = .ok (.iconst 2, 1) := by decide +kernel
theorem dL_law_487 : decode cL_law 487 = .ok (.iadd, 1) := by decide +kernel
theorem dL_law_488 : decode cL_law 488 = .ok (.iaload, 1) := by decide +kernel
theorem dL_law_489 : decode cL_law 489 = .ok (.invokevirtual 81, 3) := by decide +kernel
theorem dL_law_492 : decode cL_law 492 = .ok (.istore 6, 2) := by decide +kernel
theorem dL_law_494 : decode cL_law 494 = .ok (.aload_n 2, 1) := by decide +kernel
theorem dL_law_495 : decode cL_law 495 = .ok (.invokevirtual 46, 3) := by decide +kernel
theorem dL_law_498 : decode cL_law 498 = .ok (.iload 5, 2) := by decide +kernel
theorem dL_law_500 : decode cL_law 500 = .ok (.if_icmp .eq 5, 3) := by decide +kernel
theorem dL_law_503 : decode cL_law 503 = .ok (.iconst 0, 1) := by decide +kernel
theorem dL_law_504 : decode cL_law 504 = .ok (.ireturn, 1) := by decide +kernel
theorem dL_law_505 : decode cL_law 505 = .ok (.iload 5, 2) := by decide +kernel
theorem dL_law_507 : decode cL_law 507 = .ok (.ifCond .ne 15, 3) := by decide +kernel
theorem dL_law_510 : decode cL_law 510 = .ok (.aload_n 3, 1) := by decide +kernel
theorem dL_law_511 : decode cL_law 511 = .ok (.iconst 0, 1) := by decide +kernel
theorem dL_law_512 : decode cL_law 512 = .ok (.laload, 1) := by decide +kernel
theorem dL_law_513 : decode cL_law 513 = .ok (.iload 6, 2) := by decide +kernel
theorem dL_law_515 : decode cL_law 515 = .ok (.i2l, 1) := by decide +kernel
theorem dL_law_516 : decode cL_law 516 = .ok (.lcmp, 1) := by decide +kernel
theorem dL_law_517 : decode cL_law 517 = .ok (.ifCond .eq 5, 3) := by decide +kernel
theorem dL_law_520 : decode cL_law 520 = .ok (.iconst 0, 1) := by decide +kernel
theorem dL_law_521 : decode cL_law 521 = .ok (.ireturn, 1) := by decide +kernel
theorem dL_law_522 : decode cL_law 522 = .ok (.goto 16, 3) := by decide +kernel
theorem dL_law_525 : decode cL_law 525 = .ok (.aload_n 1, 1) := by decide +kernel
theorem dL_law_526 : decode cL_law 526 = .ok (.invokevirtual 82, 3) := by decide +kernel
theorem dL_law_529 : decode cL_law 529 = .ok (.aload_n 2, 1) := by decide +kernel
end
section
theorem dL_law_530 : decode cL_law 530 = .ok (.invokevirtual 85, 3) := by decide +kernel
theorem dL_law_533 : decode cL_law 533 = .ok (.if_icmp .eq 5, 3) := by decide +kernel
theorem dL_law_536 : decode cL_law 536 = .ok (.iconst 0, 1) := by decide +kernel
theorem dL_law_537 : decode cL_law 537 = .ok (.ireturn, 1) := by decide +kernel
theorem dL_law_538 : decode cL_law 538 = .ok (.iinc 4 5, 3) := by decide +kernel
theorem dL_law_541 : decode cL_law 541 = .ok (.goto (-508), 3) := by decide +kernel
theorem dL_law_544 : decode cL_law 544 = .ok (.iconst 1, 1) := by decide +kernel
theorem dL_law_545 : decode cL_law 545 = .ok (.ireturn, 1) := by decide +kernel
end
section
theorem dX0_init_0 : decode cX0_init 0 = .ok (.aload_n 0, 1) := by decide +kernel
theorem dX0_init_1 : decode cX0_init 1 = .ok (.invokespecial 1, 3) := by decide +kernel
theorem dX0_init_4 : decode cX0_init 4 = .ok (.aload_n 0, 1) := by decide +kernel
theorem dX0_init_5 : decode cX0_init 5 = .ok (.bipush 95, 2) := by decide +kernel
theorem dX0_init_7 : decode cX0_init 7 = .ok (.newarray .int, 2) := by decide +kernel
theorem dX0_init_9 : decode cX0_init 9 = .ok (.putfield 9, 3) := by decide +kernel
theorem dX0_init_12 : decode cX0_init 12 = .ok (.aload_n 0, 1) := by decide +kernel
theorem dX0_init_13 : decode cX0_init 13 = .ok (.invokevirtual 13, 3) := by decide +kernel
theorem dX0_init_16 : decode cX0_init 16 = .ok (.return_, 1) := by decide +kernel
theorem dX0_resetAll_0 : decode cX0_resetAll 0 = .ok (.getstatic 16, 3) := by decide +kernel
theorem dX0_resetAll_3 : decode cX0_resetAll 3 = .ok (.iconst 0, 1) := by decide +kernel
theorem dX0_resetAll_4 : decode cX0_resetAll 4 = .ok (.aload_n 0, 1) := by decide +kernel
theorem dX0_resetAll_5 : decode cX0_resetAll 5 = .ok (.getfield 9, 3) := by decide +kernel
theorem dX0_resetAll_8 : decode cX0_resetAll 8 = .ok (.iconst 0, 1) := by decide +kernel
theorem dX0_resetAll_9 : decode cX0_resetAll 9 = .ok (.bipush 95, 2) := by decide +kernel
theorem dX0_resetAll_11 : decode cX0_resetAll 11 = .ok (.invokestatic 19, 3) := by decide +kernel
theorem dX0_resetAll_14 : decode cX0_resetAll 14 = .ok (.return_, 1) := by decide +kernel
theorem dX0_part_0 : decode cX0_part 0 = .ok (.getstatic 25, 3) := by decide +kernel
theorem dX0_part_3 : decode cX0_part 3 = .ok (.iload_n 1, 1) := by decide +kernel
theorem dX0_part_4 : decode cX0_part 4 = .ok (.iconst 5, 1) := by decide +kernel
theorem dX0_part_5 : decode cX0_part 5 = .ok (.imul, 1) := by decide +kernel
theorem dX0_part_6 : decode cX0_part 6 = .ok (.iconst 4, 1) := by decide +kernel
theorem dX0_part_7 : decode cX0_part 7 = .ok (.iadd, 1) := by decide +kernel
theorem dX0_part_8 : decode cX0_part 8 = .ok (.iaload, 1) := by decide +kernel
theorem dX0_part_9 : decode cX0_part 9 = .ok (.iload_n 2, 1) := by decide +kernel
theorem dX0_part_10 : decode cX0_part 10 = .ok (.iadd, 1) := by decide +kernel
theorem dX0_part_11 : decode cX0_part 11 = .ok (.istore 4, 2) := by decide +kernel
theorem dX0_part_13 : decode cX0_part 13 = .ok (.lconst 0, 1) := by decide +kernel
theorem dX0_part_14 : decode cX0_part 14 = .ok (.lstore 5, 2) := by decide +kernel
theorem dX0_part_16 : decode cX0_part 16 = .ok (.iconst 0, 1) := by decide +kernel
theorem dX0_part_17 : decode cX0_part 17 = .ok (.istore 7, 2) := by decide +kernel
theorem dX0_part_19 : decode cX0_part 19 = .ok (.iload 7, 2) := by decide +kernel
theorem dX0_part_21 : decode cX0_part 21 = .ok (.iload_n 3, 1) := by decide +kernel
theorem dX0_part_22 : decode cX0_part 22 = .ok (.if_icmp .ge 31, 3) := by decide +kernel
theorem dX0_part_25 : decode cX0_part 25 = .ok (.lload 5, 2) := by decide +kernel
theorem dX0_part_27 : decode cX0_part 27 = .ok (.aload_n 0, 1) := by decide +kernel
theorem dX0_part_28 : decode cX0_part 28 = .ok (.getfield 9, 3) := by decide +kernel
theorem dX0_part_31 : decode cX0_part 31 = .ok (.iload 4, 2) := by decide +kernel
theorem dX0_part_33 : decode cX0_part 33 = .ok (.iload 7, 2) := by decide +kernel
theorem dX0_part_35 : decode cX0_part 35 = .ok (.iadd, 1) := by decide +kernel
theorem dX0_part_36 : decode cX0_part 36 = .ok (.iaload, 1) := by decide +kernel
theorem dX0_part_37 : decode cX0_part 37 = .ok (.i2l, 1) := by decide +kernel
theorem dX0_part_38 : decode cX0_part 38 = .ok (.bipush 8, 2) := by decide +kernel
theorem dX0_part_40 : decode cX0_part 40 = .ok (.iload 7, 2) := by decide +kernel
theorem dX0_part_42 : decode cX0_part 42 = .ok (.imul, 1) := by decide +kernel
theorem dX0_part_43 : decode cX0_part 43 = .ok (.lshl, 1) := by decide +kernel
theorem dX0_part_44 : decode cX0_part 44 = .ok (.lor, 1) := by decide +kernel
theorem dX0_part_45 : decode cX0_part 45 = .ok (.lstore 5, 2) := by decide +kernel
theorem dX0_part_47 : decode cX0_part 47 = .ok (.iinc 7 1, 3) := by decide +kernel
theorem dX0_part_50 : decode cX0_part 50 = .ok (.goto (-31), 3) := by decide +kernel
theorem dX0_part_53 : decode cX0_part 53 = .ok (.lload 5, 2) := by decide +kernel
theorem dX0_part_55 : decode cX0_part 55 = .ok (.lreturn, 1) := by decide +kernel
theorem dX0_find_0 : decode cX0_find 0 = .ok (.iconst 0, 1) := by decide +kernel
theorem dX0_find_1 : decode cX0_find 1 = .ok (.istore_n 3, 1) := by decide +kernel
theorem dX0_find_2 : decode cX0_find 2 = .ok (.iload_n 3, 1) := by decide +kernel
theorem dX0_find_3 : decode cX0_find 3 = .ok (.bipush 22, 2) := by decide +kernel
theorem dX0_find_5 : decode cX0_find 5 = .ok (.if_icmp .ge 38, 3) := by decide +kernel
theorem dX0_find_8 : decode cX0_find 8 = .ok (.iload_n 3, 1) := by decide +kernel
theorem dX0_find_9 : decode cX0_find 9 = .ok (.iconst 5, 1) := by decide +kernel
theorem dX0_find_10 : decode cX0_find 10 = .ok (.imul, 1) := by decide +kernel
theorem dX0_find_11 : decode cX0_find 11 = .ok (.istore 4, 2) := by decide +kernel
theorem dX0_find_13 : decode cX0_find 13 = .ok (.getstatic 25, 3) := by decide +kernel
theorem dX0_find_16 : decode cX0_find 16 = .ok (.iload 4, 2) := by decide +kernel
theorem dX0_find_18 : decode cX0_find 18 = .ok (.iaload, 1) := by decide +kernel
theorem dX0_find_19 : decode cX0_find 19 = .ok (.iload_n 1, 1) := by decide +kernel
theorem dX0_find_20 : decode cX0_find 20 = .ok (.if_icmp .ne 17, 3) := by decide +kernel
theorem dX0_find_23 : decode cX0_find 23 = .ok (.getstatic 25, 3) := by decide +kernel
theorem dX0_find_26 : decode cX0_find 26 = .ok (.iload 4, 2) := by decide +kernel
theorem dX0_find_28 : decode cX0_find 28 = .ok (.iconst 1, 1) := by decide +kernel
theorem dX0_find_29 : decode cX0_find 29 = .ok (.iadd, 1) := by decide +kernel
theorem dX0_find_30 : decode cX0_find 30 = .ok (.iaload, 1) := by decide +kernel
theorem dX0_find_31 : decode cX0_find 31 = .ok (.iload_n 2, 1) := by decide +kernel
theorem dX0_find_32 : decode cX0_find 32 = .ok (.if_icmp .ne 5, 3) := by decide +kernel
theorem dX0_find_35 : decode cX0_find 35 = .ok (.iload_n 3, 1) := by decide +kernel
theorem dX0_find_36 : decode cX0_find 36 = .ok (.ireturn, 1) := by decide +kernel
theorem dX0_find_37 : decode cX0_find 37 = .ok (.iinc 3 1, 3) := by decide +kernel
theorem dX0_find_40 : decode cX0_find 40 = .ok (.goto (-38), 3) := by decide +kernel
theorem dX0_find_43 : decode cX0_find 43 = .ok (.iconst (-1), 1) := by decide +kernel
theorem dX0_find_44 : decode cX0_find 44 = .ok (.ireturn, 1) := by decide +kernel
theorem dX0_sizeOf_0 : decode cX0_sizeOf 0 = .ok (.getstatic 25, 3) := by decide +kernel
theorem dX0_sizeOf_3 : decode cX0_sizeOf 3 = .ok (.iload_n 0, 1) := by decide +kernel
theorem dX0_sizeOf_4 : decode cX0_sizeOf 4 = .ok (.iconst 5, 1) := by decide +kernel
theorem dX0_sizeOf_5 : decode cX0_sizeOf 5 = .ok (.imul, 1) := by decide +kernel
theorem dX0_sizeOf_6 : decode cX0_sizeOf 6 = .ok (.iconst 2, 1) := by decide +kernel
theorem dX0_sizeOf_7 : decode cX0_sizeOf 7 = .ok (.iadd, 1) := by decide +kernel
theorem dX0_sizeOf_8 : decode cX0_sizeOf 8 = .ok (.iaload, 1) := by decide +kernel
theorem dX0_sizeOf_9 : decode cX0_sizeOf 9 = .ok (.ireturn, 1) := by decide +kernel
theorem dX0_byteAt_0 : decode cX0_byteAt 0 = .ok (.aload_n 0, 1) := by decide +kernel
theorem dX0_byteAt_1 : decode cX0_byteAt 1 = .ok (.getfield 9, 3) := by decide +kernel
theorem dX0_byteAt_4 : decode cX0_byteAt 4 = .ok (.getstatic 25, 3) := by decide +kernel
theorem dX0_byteAt_7 : decode cX0_byteAt 7 = .ok (.iload_n 1, 1) := by decide +kernel
theorem dX0_byteAt_8 : decode cX0_byteAt 8 = .ok (.iconst 5, 1) := by decide +kernel
theorem dX0_byteAt_9 : decode cX0_byteAt 9 = .ok (.imul, 1) := by decide +kernel
theorem dX0_byteAt_10 : decode cX0_byteAt 10 = .ok (.iconst 4, 1) := by decide +kernel
theorem dX0_byteAt_11 : decode cX0_byteAt 11 = .ok (.iadd, 1) := by decide +kernel
theorem dX0_byteAt_12 : decode cX0_byteAt 12 = .ok (.iaload, 1) := by decide +kernel
theorem dX0_byteAt_13 : decode cX0_byteAt 13 = .ok (.iload_n 2, 1) := by decide +kernel
theorem dX0_byteAt_14 : decode cX0_byteAt 14 = .ok (.iadd, 1) := by decide +kernel
theorem dX0_byteAt_15 : decode cX0_byteAt 15 = .ok (.iaload, 1) := by decide +kernel
theorem dX0_byteAt_16 : decode cX0_byteAt 16 = .ok (.ireturn, 1) := by decide +kernel
theorem dX0_named_0 : decode cX0_named 0 = .ok (.iconst 0, 1) := by decide +kernel
theorem dX0_named_1 : decode cX0_named 1 = .ok (.istore_n 3, 1) := by decide +kernel
theorem dX0_named_2 : decode cX0_named 2 = .ok (.iload_n 3, 1) := by decide +kernel
theorem dX0_named_3 : decode cX0_named 3 = .ok (.bipush 22, 2) := by decide +kernel
theorem dX0_named_5 : decode cX0_named 5 = .ok (.if_icmp .ge 76, 3) := by decide +kernel
theorem dX0_named_8 : decode cX0_named 8 = .ok (.iload_n 3, 1) := by decide +kernel
theorem dX0_named_9 : decode cX0_named 9 = .ok (.iconst 5, 1) := by decide +kernel
theorem dX0_named_10 : decode cX0_named 10 = .ok (.imul, 1) := by decide +kernel
theorem dX0_named_11 : decode cX0_named 11 = .ok (.istore 4, 2) := by decide +kernel
theorem dX0_named_13 : decode cX0_named 13 = .ok (.getstatic 25, 3) := by decide +kernel
theorem dX0_named_16 : decode cX0_named 16 = .ok (.iload 4, 2) := by decide +kernel
theorem dX0_named_18 : decode cX0_named 18 = .ok (.iaload, 1) := by decide +kernel
theorem dX0_named_19 : decode cX0_named 19 = .ok (.ldc 28, 2) := by decide +kernel
theorem dX0_named_21 : decode cX0_named 21 = .ok (.imul, 1) := by decide +kernel
theorem dX0_named_22 : decode cX0_named 22 = .ok (.getstatic 25, 3) := by decide +kernel
theorem dX0_named_25 : decode cX0_named 25 = .ok (.iload 4, 2) := by decide +kernel
theorem dX0_named_27 : decode cX0_named 27 = .ok (.iconst 1, 1) := by decide +kernel
theorem dX0_named_28 : decode cX0_named 28 = .ok (.iadd, 1) := by decide +kernel
theorem dX0_named_29 : decode cX0_named 29 = .ok (.iaload, 1) := by decide +kernel
theorem dX0_named_30 : decode cX0_named 30 = .ok (.sipush 256, 3) := by decide +kernel
theorem dX0_named_33 : decode cX0_named 33 = .ok (.imul, 1) := by decide +kernel
theorem dX0_named_34 : decode cX0_named 34 = .ok (.iadd, 1) := by decide +kernel
theorem dX0_named_35 : decode cX0_named 35 = .ok (.bipush 8, 2) := by decide +kernel
theorem dX0_named_37 : decode cX0_named 37 = .ok (.getstatic 25, 3) := by decide +kernel
theorem dX0_named_40 : decode cX0_named 40 = .ok (.iload 4, 2) := by decide +kernel
theorem dX0_named_42 : decode cX0_named 42 = .ok (.iconst 2, 1) := by decide +kernel
theorem dX0_named_43 : decode cX0_named 43 = .ok (.iadd, 1) := by decide +kernel
theorem dX0_named_44 : decode cX0_named 44 = .ok (.iaload, 1) := by decide +kernel
theorem dX0_named_45 : decode cX0_named 45 = .ok (.imul, 1) := by decide +kernel
theorem dX0_named_46 : decode cX0_named 46 = .ok (.iadd, 1) := by decide +kernel
theorem dX0_named_47 : decode cX0_named 47 = .ok (.istore 5, 2) := by decide +kernel
theorem dX0_named_49 : decode cX0_named 49 = .ok (.iload 5, 2) := by decide +kernel
theorem dX0_named_51 : decode cX0_named 51 = .ok (.iload_n 1, 1) := by decide +kernel
theorem dX0_named_52 : decode cX0_named 52 = .ok (.if_icmp .ne 23, 3) := by decide +kernel
theorem dX0_named_55 : decode cX0_named 55 = .ok (.getstatic 25, 3) := by decide +kernel
theorem dX0_named_58 : decode cX0_named 58 = .ok (.iload 4, 2) := by decide +kernel
theorem dX0_named_60 : decode cX0_named 60 = .ok (.iconst 3, 1) := by decide +kernel
theorem dX0_named_61 : decode cX0_named 61 = .ok (.iadd, 1) := by decide +kernel
theorem dX0_named_62 : decode cX0_named 62 = .ok (.iaload, 1) := by decide +kernel
theorem dX0_named_63 : decode cX0_named 63 = .ok (.iload_n 2, 1) := by decide +kernel
theorem dX0_named_64 : decode cX0_named 64 = .ok (.iand, 1) := by decide +kernel
theorem dX0_named_65 : decode cX0_named 65 = .ok (.iload_n 2, 1) := by decide +kernel
theorem dX0_named_66 : decode cX0_named 66 = .ok (.if_icmp .ne 7, 3) := by decide +kernel
theorem dX0_named_69 : decode cX0_named 69 = .ok (.iload_n 3, 1) := by decide +kernel
theorem dX0_named_70 : decode cX0_named 70 = .ok (.goto 4, 3) := by decide +kernel
theorem dX0_named_73 : decode cX0_named 73 = .ok (.iconst (-1), 1) := by decide +kernel
theorem dX0_named_74 : decode cX0_named 74 = .ok (.ireturn, 1) := by decide +kernel
theorem dX0_named_75 : decode cX0_named 75 = .ok (.iinc 3 1, 3) := by decide +kernel
theorem dX0_named_78 : decode cX0_named 78 = .ok (.goto (-76), 3) := by decide +kernel
theorem dX0_named_81 : decode cX0_named 81 = .ok (.iconst (-1), 1) := by decide +kernel
theorem dX0_named_82 : decode cX0_named 82 = .ok (.ireturn, 1) := by decide +kernel
theorem dX0_resetOwn_0 : decode cX0_resetOwn 0 = .ok (.getstatic 16, 3) := by decide +kernel
theorem dX0_resetOwn_3 : decode cX0_resetOwn 3 = .ok (.iconst 0, 1) := by decide +kernel
theorem dX0_resetOwn_4 : decode cX0_resetOwn 4 = .ok (.aload_n 0, 1) := by decide +kernel
theorem dX0_resetOwn_5 : decode cX0_resetOwn 5 = .ok (.getfield 9, 3) := by decide +kernel
theorem dX0_resetOwn_8 : decode cX0_resetOwn 8 = .ok (.iconst 0, 1) := by decide +kernel
theorem dX0_resetOwn_9 : decode cX0_resetOwn 9 = .ok (.bipush 42, 2) := by decide +kernel
theorem dX0_resetOwn_11 : decode cX0_resetOwn 11 = .ok (.invokestatic 19, 3) := by decide +kernel
theorem dX0_resetOwn_14 : decode cX0_resetOwn 14 = .ok (.return_, 1) := by decide +kernel
theorem dX0_put_0 : decode cX0_put 0 = .ok (.getstatic 25, 3) := by decide +kernel
theorem dX0_put_3 : decode cX0_put 3 = .ok (.iload_n 1, 1) := by decide +kernel
theorem dX0_put_4 : decode cX0_put 4 = .ok (.iconst 5, 1) := by decide +kernel
theorem dX0_put_5 : decode cX0_put 5 = .ok (.imul, 1) := by decide +kernel
theorem dX0_put_6 : decode cX0_put 6 = .ok (.iconst 4, 1) := by decide +kernel
theorem dX0_put_7 : decode cX0_put 7 = .ok (.iadd, 1) := by decide +kernel
theorem dX0_put_8 : decode cX0_put 8 = .ok (.iaload, 1) := by decide +kernel
theorem dX0_put_9 : decode cX0_put 9 = .ok (.istore 4, 2) := by decide +kernel
theorem dX0_put_11 : decode cX0_put 11 = .ok (.getstatic 25, 3) := by decide +kernel
theorem dX0_put_14 : decode cX0_put 14 = .ok (.iload_n 1, 1) := by decide +kernel
theorem dX0_put_15 : decode cX0_put 15 = .ok (.iconst 5, 1) := by decide +kernel
theorem dX0_put_16 : decode cX0_put 16 = .ok (.imul, 1) := by decide +kernel
theorem dX0_put_17 : decode cX0_put 17 = .ok (.iconst 2, 1) := by decide +kernel
theorem dX0_put_18 : decode cX0_put 18 = .ok (.iadd, 1) := by decide +kernel
theorem dX0_put_19 : decode cX0_put 19 = .ok (.iaload, 1) := by decide +kernel
theorem dX0_put_20 : decode cX0_put 20 = .ok (.istore 5, 2) := by decide +kernel
theorem dX0_put_22 : decode cX0_put 22 = .ok (.iconst 0, 1) := by decide +kernel
theorem dX0_put_23 : decode cX0_put 23 = .ok (.istore 6, 2) := by decide +kernel
theorem dX0_put_25 : decode cX0_put 25 = .ok (.iload 6, 2) := by decide +kernel
theorem dX0_put_27 : decode cX0_put 27 = .ok (.iload 5, 2) := by decide +kernel
theorem dX0_put_29 : decode cX0_put 29 = .ok (.if_icmp .ge 31, 3) := by decide +kernel
theorem dX0_put_32 : decode cX0_put 32 = .ok (.aload_n 0, 1) := by decide +kernel
theorem dX0_put_33 : decode cX0_put 33 = .ok (.getfield 9, 3) := by decide +kernel
theorem dX0_put_36 : decode cX0_put 36 = .ok (.iload 4, 2) := by decide +kernel
theorem dX0_put_38 : decode cX0_put 38 = .ok (.iload 6, 2) := by decide +kernel
theorem dX0_put_40 : decode cX0_put 40 = .ok (.iadd, 1) := by decide +kernel
theorem dX0_put_41 : decode cX0_put 41 = .ok (.lload_n 2, 1) := by decide +kernel
theorem dX0_put_42 : decode cX0_put 42 = .ok (.bipush 8, 2) := by decide +kernel
theorem dX0_put_44 : decode cX0_put 44 = .ok (.iload 6, 2) := by decide +kernel
theorem dX0_put_46 : decode cX0_put 46 = .ok (.imul, 1) := by decide +kernel
theorem dX0_put_47 : decode cX0_put 47 = .ok (.lushr, 1) := by decide +kernel
theorem dX0_put_48 : decode cX0_put 48 = .ok (.l2i, 1) := by decide +kernel
theorem dX0_put_49 : decode cX0_put 49 = .ok (.sipush 255, 3) := by decide +kernel
theorem dX0_put_52 : decode cX0_put 52 = .ok (.iand, 1) := by decide +kernel
theorem dX0_put_53 : decode cX0_put 53 = .ok (.iastore, 1) := by decide +kernel
theorem dX0_put_54 : decode cX0_put 54 = .ok (.iinc 6 1, 3) := by decide +kernel
theorem dX0_put_57 : decode cX0_put 57 = .ok (.goto (-32), 3) := by decide +kernel
theorem dX0_put_60 : decode cX0_put 60 = .ok (.return_, 1) := by decide +kernel
theorem dX0_fill_0 : decode cX0_fill 0 = .ok (.aload_n 2, 1) := by decide +kernel
theorem dX0_fill_1 : decode cX0_fill 1 = .ok (.iconst 0, 1) := by decide +kernel
theorem dX0_fill_2 : decode cX0_fill 2 = .ok (.aload_n 0, 1) := by decide +kernel
theorem dX0_fill_3 : decode cX0_fill 3 = .ok (.getfield 9, 3) := by decide +kernel
theorem dX0_fill_6 : decode cX0_fill 6 = .ok (.getstatic 25, 3) := by decide +kernel
theorem dX0_fill_9 : decode cX0_fill 9 = .ok (.iload_n 1, 1) := by decide +kernel
theorem dX0_fill_10 : decode cX0_fill 10 = .ok (.iconst 5, 1) := by decide +kernel
theorem dX0_fill_11 : decode cX0_fill 11 = .ok (.imul, 1) := by decide +kernel
theorem dX0_fill_12 : decode cX0_fill 12 = .ok (.iconst 4, 1) := by decide +kernel
theorem dX0_fill_13 : decode cX0_fill 13 = .ok (.iadd, 1) := by decide +kernel
theorem dX0_fill_14 : decode cX0_fill 14 = .ok (.iaload, 1) := by decide +kernel
theorem dX0_fill_15 : decode cX0_fill 15 = .ok (.iload_n 1, 1) := by decide +kernel
theorem dX0_fill_16 : decode cX0_fill 16 = .ok (.invokestatic 29, 3) := by decide +kernel
theorem dX0_fill_19 : decode cX0_fill 19 = .ok (.invokestatic 19, 3) := by decide +kernel
theorem dX0_fill_22 : decode cX0_fill 22 = .ok (.return_, 1) := by decide +kernel
theorem dX0_hasIndex_0 : decode cX0_hasIndex 0 = .ok (.iconst 0, 1) := by decide +kernel
theorem dX0_hasIndex_1 : decode cX0_hasIndex 1 = .ok (.istore_n 2, 1) := by decide +kernel
theorem dX0_hasIndex_2 : decode cX0_hasIndex 2 = .ok (.iload_n 2, 1) := by decide +kernel
theorem dX0_hasIndex_3 : decode cX0_hasIndex 3 = .ok (.bipush 22, 2) := by decide +kernel
theorem dX0_hasIndex_5 : decode cX0_hasIndex 5 = .ok (.if_icmp .ge 22, 3) := by decide +kernel
theorem dX0_hasIndex_8 : decode cX0_hasIndex 8 = .ok (.getstatic 25, 3) := by decide +kernel
theorem dX0_hasIndex_11 : decode cX0_hasIndex 11 = .ok (.iload_n 2, 1) := by decide +kernel
theorem dX0_hasIndex_12 : decode cX0_hasIndex 12 = .ok (.iconst 5, 1) := by decide +kernel
theorem dX0_hasIndex_13 : decode cX0_hasIndex 13 = .ok (.imul, 1) := by decide +kernel
theorem dX0_hasIndex_14 : decode cX0_hasIndex 14 = .ok (.iaload, 1) := by decide +kernel
theorem dX0_hasIndex_15 : decode cX0_hasIndex 15 = .ok (.iload_n 1, 1) := by decide +kernel
theorem dX0_hasIndex_16 : decode cX0_hasIndex 16 = .ok (.if_icmp .ne 5, 3) := by decide +kernel
theorem dX0_hasIndex_19 : decode cX0_hasIndex 19 = .ok (.iconst 1, 1) := by decide +kernel
theorem dX0_hasIndex_20 : decode cX0_hasIndex 20 = .ok (.ireturn, 1) := by decide +kernel
theorem dX0_hasIndex_21 : decode cX0_hasIndex 21 = .ok (.iinc 2 1, 3) := by decide +kernel
theorem dX0_hasIndex_24 : decode cX0_hasIndex 24 = .ok (.goto (-22), 3) := by decide +kernel
theorem dX0_hasIndex_27 : decode cX0_hasIndex 27 = .ok (.iconst 0, 1) := by decide +kernel
theorem dX0_hasIndex_28 : decode cX0_hasIndex 28 = .ok (.ireturn, 1) := by decide +kernel
theorem dX0_allows_0 : decode cX0_allows 0 = .ok (.getstatic 25, 3) := by decide +kernel
theorem dX0_allows_3 : decode cX0_allows 3 = .ok (.iload_n 0, 1) := by decide +kernel
theorem dX0_allows_4 : decode cX0_allows 4 = .ok (.iconst 5, 1) := by decide +kernel
theorem dX0_allows_5 : decode cX0_allows 5 = .ok (.imul, 1) := by decide +kernel
theorem dX0_allows_6 : decode cX0_allows 6 = .ok (.iconst 3, 1) := by decide +kernel
theorem dX0_allows_7 : decode cX0_allows 7 = .ok (.iadd, 1) := by decide +kernel
theorem dX0_allows_8 : decode cX0_allows 8 = .ok (.iaload, 1) := by decide +kernel
theorem dX0_allows_9 : decode cX0_allows 9 = .ok (.iload_n 1, 1) := by decide +kernel
theorem dX0_allows_10 : decode cX0_allows 10 = .ok (.iand, 1) := by decide +kernel
theorem dX0_allows_11 : decode cX0_allows 11 = .ok (.ifCond .eq 7, 3) := by decide +kernel
theorem dX0_allows_14 : decode cX0_allows 14 = .ok (.iconst 1, 1) := by decide +kernel
theorem dX0_allows_15 : decode cX0_allows 15 = .ok (.goto 4, 3) := by decide +kernel
theorem dX0_allows_18 : decode cX0_allows 18 = .ok (.iconst 0, 1) := by decide +kernel
theorem dX0_allows_19 : decode cX0_allows 19 = .ok (.ireturn, 1) := by decide +kernel
end
section
theorem dX1_init_0 : decode cX1_init 0 = .ok (.aload_n 0, 1) := by decide +kernel
theorem dX1_init_1 : decode cX1_init 1 = .ok (.invokespecial 3, 3) := by decide +kernel
theorem dX1_init_4 : decode cX1_init 4 = .ok (.aload_n 0, 1) := by decide +kernel
theorem dX1_init_5 : decode cX1_init 5 = .ok (.aload_n 1, 1) := by decide +kernel
theorem dX1_init_6 : decode cX1_init 6 = .ok (.putfield 9, 3) := by decide +kernel
theorem dX1_init_9 : decode cX1_init 9 = .ok (.aload_n 0, 1) := by decide +kernel
theorem dX1_init_10 : decode cX1_init 10 = .ok (.iload_n 2, 1) := by decide +kernel
theorem dX1_init_11 : decode cX1_init 11 = .ok (.putfield 15, 3) := by decide +kernel
theorem dX1_init_14 : decode cX1_init 14 = .ok (.aload_n 0, 1) := by decide +kernel
theorem dX1_init_15 : decode cX1_init 15 = .ok (.iload_n 3, 1) := by decide +kernel
theorem dX1_init_16 : decode cX1_init 16 = .ok (.iconst 4, 1) := by decide +kernel
theorem dX1_init_17 : decode cX1_init 17 = .ok (.ior, 1) := by decide +kernel
theorem dX1_init_18 : decode cX1_init 18 = .ok (.putfield 21, 3) := by decide +kernel
theorem dX1_init_21 : decode cX1_init 21 = .ok (.return_, 1) := by decide +kernel
theorem dX1_content_0 : decode cX1_content 0 = .ok (.aload_n 0, 1) := by decide +kernel
theorem dX1_content_1 : decode cX1_content 1 = .ok (.invokevirtual 50, 3) := by decide +kernel
theorem dX1_content_4 : decode cX1_content 4 = .ok (.istore_n 1, 1) := by decide +kernel
theorem dX1_content_5 : decode cX1_content 5 = .ok (.lconst 0, 1) := by decide +kernel
theorem dX1_content_6 : decode cX1_content 6 = .ok (.lstore_n 2, 1) := by decide +kernel
theorem dX1_content_7 : decode cX1_content 7 = .ok (.iconst 0, 1) := by decide +kernel
theorem dX1_content_8 : decode cX1_content 8 = .ok (.istore 4, 2) := by decide +kernel
theorem dX1_content_10 : decode cX1_content 10 = .ok (.iconst 1, 1) := by decide +kernel
theorem dX1_content_11 : decode cX1_content 11 = .ok (.istore 5, 2) := by decide +kernel
theorem dX1_content_13 : decode cX1_content 13 = .ok (.iload 5, 2) := by decide +kernel
theorem dX1_content_15 : decode cX1_content 15 = .ok (.iload_n 1, 1) := by decide +kernel
theorem dX1_content_16 : decode cX1_content 16 = .ok (.if_icmp .gt 58, 3) := by decide +kernel
theorem dX1_content_19 : decode cX1_content 19 = .ok (.aload_n 0, 1) := by decide +kernel
theorem dX1_content_20 : decode cX1_content 20 = .ok (.iload 5, 2) := by decide +kernel
theorem dX1_content_22 : decode cX1_content 22 = .ok (.invokevirtual 41, 3) := by decide +kernel
theorem dX1_content_25 : decode cX1_content 25 = .ok (.istore 6, 2) := by decide +kernel
theorem dX1_content_27 : decode cX1_content 27 = .ok (.iload 6, 2) := by decide +kernel
theorem dX1_content_29 : decode cX1_content 29 = .ok (.iconst (-1), 1) := by decide +kernel
theorem dX1_content_30 : decode cX1_content 30 = .ok (.if_icmp .eq 38, 3) := by decide +kernel
theorem dX1_content_33 : decode cX1_content 33 = .ok (.iload 6, 2) := by decide +kernel
theorem dX1_content_35 : decode cX1_content 35 = .ok (.invokestatic 46, 3) := by decide +kernel
theorem dX1_content_38 : decode cX1_content 38 = .ok (.istore 7, 2) := by decide +kernel
theorem dX1_content_40 : decode cX1_content 40 = .ok (.lload_n 2, 1) := by decide +kernel
theorem dX1_content_41 : decode cX1_content 41 = .ok (.aload_n 0, 1) := by decide +kernel
theorem dX1_content_42 : decode cX1_content 42 = .ok (.getfield 9, 3) := by decide +kernel
theorem dX1_content_45 : decode cX1_content 45 = .ok (.iload 6, 2) := by decide +kernel
theorem dX1_content_47 : decode cX1_content 47 = .ok (.iconst 0, 1) := by decide +kernel
theorem dX1_content_48 : decode cX1_content 48 = .ok (.iload 7, 2) := by decide +kernel
theorem dX1_content_50 : decode cX1_content 50 = .ok (.invokevirtual 33, 3) := by decide +kernel
theorem dX1_content_53 : decode cX1_content 53 = .ok (.bipush 8, 2) := by decide +kernel
theorem dX1_content_55 : decode cX1_content 55 = .ok (.iload 4, 2) := by decide +kernel
theorem dX1_content_57 : decode cX1_content 57 = .ok (.imul, 1) := by decide +kernel
theorem dX1_content_58 : decode cX1_content 58 = .ok (.lshl, 1) := by decide +kernel
theorem dX1_content_59 : decode cX1_content 59 = .ok (.lor, 1) := by decide +kernel
theorem dX1_content_60 : decode cX1_content 60 = .ok (.lstore_n 2, 1) := by decide +kernel
theorem dX1_content_61 : decode cX1_content 61 = .ok (.iload 4, 2) := by decide +kernel
theorem dX1_content_63 : decode cX1_content 63 = .ok (.iload 7, 2) := by decide +kernel
theorem dX1_content_65 : decode cX1_content 65 = .ok (.iadd, 1) := by decide +kernel
theorem dX1_content_66 : decode cX1_content 66 = .ok (.istore 4, 2) := by decide +kernel
theorem dX1_content_68 : decode cX1_content 68 = .ok (.iinc 5 1, 3) := by decide +kernel
theorem dX1_content_71 : decode cX1_content 71 = .ok (.goto (-58), 3) := by decide +kernel
theorem dX1_content_74 : decode cX1_content 74 = .ok (.lload_n 2, 1) := by decide +kernel
theorem dX1_content_75 : decode cX1_content 75 = .ok (.lreturn, 1) := by decide +kernel
theorem dX1_count_0 : decode cX1_count 0 = .ok (.iconst 4, 1) := by decide +kernel
theorem dX1_count_1 : decode cX1_count 1 = .ok (.aload_n 0, 1) := by decide +kernel
theorem dX1_count_2 : decode cX1_count 2 = .ok (.getfield 9, 3) := by decide +kernel
theorem dX1_count_5 : decode cX1_count 5 = .ok (.aload_n 0, 1) := by decide +kernel
theorem dX1_count_6 : decode cX1_count 6 = .ok (.getfield 15, 3) := by decide +kernel
theorem dX1_count_9 : decode cX1_count 9 = .ok (.iconst 0, 1) := by decide +kernel
theorem dX1_count_10 : decode cX1_count 10 = .ok (.invokevirtual 24, 3) := by decide +kernel
theorem dX1_count_13 : decode cX1_count 13 = .ok (.invokestatic 28, 3) := by decide +kernel
theorem dX1_count_16 : decode cX1_count 16 = .ok (.ireturn, 1) := by decide +kernel
theorem dX1_target_0 : decode cX1_target 0 = .ok (.aload_n 0, 1) := by decide +kernel
theorem dX1_target_1 : decode cX1_target 1 = .ok (.getfield 9, 3) := by decide +kernel
theorem dX1_target_4 : decode cX1_target 4 = .ok (.aload_n 0, 1) := by decide +kernel
theorem dX1_target_5 : decode cX1_target 5 = .ok (.getfield 9, 3) := by decide +kernel
theorem dX1_target_8 : decode cX1_target 8 = .ok (.aload_n 0, 1) := by decide +kernel
theorem dX1_target_9 : decode cX1_target 9 = .ok (.getfield 15, 3) := by decide +kernel
theorem dX1_target_12 : decode cX1_target 12 = .ok (.iload_n 1, 1) := by decide +kernel
theorem dX1_target_13 : decode cX1_target 13 = .ok (.iadd, 1) := by decide +kernel
theorem dX1_target_14 : decode cX1_target 14 = .ok (.iconst 0, 1) := by decide +kernel
theorem dX1_target_15 : decode cX1_target 15 = .ok (.iconst 4, 1) := by decide +kernel
theorem dX1_target_16 : decode cX1_target 16 = .ok (.invokevirtual 33, 3) := by decide +kernel
theorem dX1_target_19 : decode cX1_target 19 = .ok (.l2i, 1) := by decide +kernel
theorem dX1_target_20 : decode cX1_target 20 = .ok (.aload_n 0, 1) := by decide +kernel
theorem dX1_target_21 : decode cX1_target 21 = .ok (.getfield 21, 3) := by decide +kernel
theorem dX1_target_24 : decode cX1_target 24 = .ok (.invokevirtual 37, 3) := by decide +kernel
theorem dX1_target_27 : decode cX1_target 27 = .ok (.ireturn, 1) := by decide +kernel
theorem dX1_contentLength_0 : decode cX1_contentLength 0 = .ok (.aload_n 0, 1) := by decide +kernel
theorem dX1_contentLength_1 : decode cX1_contentLength 1 = .ok (.invokevirtual 50, 3) := by decide +kernel
theorem dX1_contentLength_4 : decode cX1_contentLength 4 = .ok (.istore_n 1, 1) := by decide +kernel
theorem dX1_contentLength_5 : decode cX1_contentLength 5 = .ok (.iconst 0, 1) := by decide +kernel
theorem dX1_contentLength_6 : decode cX1_contentLength 6 = .ok (.istore_n 2, 1) := by decide +kernel
theorem dX1_contentLength_7 : decode cX1_contentLength 7 = .ok (.iconst 1, 1) := by decide +kernel
theorem dX1_contentLength_8 : decode cX1_contentLength 8 = .ok (.istore_n 3, 1) := by decide +kernel
theorem dX1_contentLength_9 : decode cX1_contentLength 9 = .ok (.iload_n 3, 1) := by decide +kernel
theorem dX1_contentLength_10 : decode cX1_contentLength 10 = .ok (.iload_n 1, 1) := by decide +kernel
theorem dX1_contentLength_11 : decode cX1_contentLength 11 = .ok (.if_icmp .gt 30, 3) := by decide +kernel
theorem dX1_contentLength_14 : decode cX1_contentLength 14 = .ok (.aload_n 0, 1) := by decide +kernel
theorem dX1_contentLength_15 : decode cX1_contentLength 15 = .ok (.iload_n 3, 1) := by decide +kernel
theorem dX1_contentLength_16 : decode cX1_contentLength 16 = .ok (.invokevirtual 41, 3) := by decide +kernel
theorem dX1_contentLength_19 : decode cX1_contentLength 19 = .ok (.istore 4, 2) := by decide +kernel
theorem dX1_contentLength_21 : decode cX1_contentLength 21 = .ok (.iload 4, 2) := by decide +kernel
theorem dX1_contentLength_23 : decode cX1_contentLength 23 = .ok (.iconst (-1), 1) := by decide +kernel
theorem dX1_contentLength_24 : decode cX1_contentLength 24 = .ok (.if_icmp .eq 11, 3) := by decide +kernel
theorem dX1_contentLength_27 : decode cX1_contentLength 27 = .ok (.iload_n 2, 1) := by decide +kernel
theorem dX1_contentLength_28 : decode cX1_contentLength 28 = .ok (.iload 4, 2) := by decide +kernel
theorem dX1_contentLength_30 : decode cX1_contentLength 30 = .ok (.invokestatic 46, 3) := by decide +kernel
theorem dX1_contentLength_33 : decode cX1_contentLength 33 = .ok (.iadd, 1) := by decide +kernel
theorem dX1_contentLength_34 : decode cX1_contentLength 34 = .ok (.istore_n 2, 1) := by decide +kernel
theorem dX1_contentLength_35 : decode cX1_contentLength 35 = .ok (.iinc 3 1, 3) := by decide +kernel
theorem dX1_contentLength_38 : decode cX1_contentLength 38 = .ok (.goto (-29), 3) := by decide +kernel
theorem dX1_contentLength_41 : decode cX1_contentLength 41 = .ok (.iload_n 2, 1) := by decide +kernel
theorem dX1_contentLength_42 : decode cX1_contentLength 42 = .ok (.ireturn, 1) := by decide +kernel
theorem dX1_spread_0 : decode cX1_spread 0 = .ok (.aload_n 0, 1) := by decide +kernel
theorem dX1_spread_1 : decode cX1_spread 1 = .ok (.invokevirtual 50, 3) := by decide +kernel
theorem dX1_spread_4 : decode cX1_spread 4 = .ok (.istore_n 3, 1) := by decide +kernel
theorem dX1_spread_5 : decode cX1_spread 5 = .ok (.iconst 0, 1) := by decide +kernel
theorem dX1_spread_6 : decode cX1_spread 6 = .ok (.istore 4, 2) := by decide +kernel
theorem dX1_spread_8 : decode cX1_spread 8 = .ok (.iconst 1, 1) := by decide +kernel
theorem dX1_spread_9 : decode cX1_spread 9 = .ok (.istore 5, 2) := by decide +kernel
theorem dX1_spread_11 : decode cX1_spread 11 = .ok (.iload 5, 2) := by decide +kernel
theorem dX1_spread_13 : decode cX1_spread 13 = .ok (.iload_n 3, 1) := by decide +kernel
theorem dX1_spread_14 : decode cX1_spread 14 = .ok (.if_icmp .gt 49, 3) := by decide +kernel
theorem dX1_spread_17 : decode cX1_spread 17 = .ok (.aload_n 0, 1) := by decide +kernel
theorem dX1_spread_18 : decode cX1_spread 18 = .ok (.iload 5, 2) := by decide +kernel
theorem dX1_spread_20 : decode cX1_spread 20 = .ok (.invokevirtual 41, 3) := by decide +kernel
theorem dX1_spread_23 : decode cX1_spread 23 = .ok (.istore 6, 2) := by decide +kernel
theorem dX1_spread_25 : decode cX1_spread 25 = .ok (.iload 6, 2) := by decide +kernel
theorem dX1_spread_27 : decode cX1_spread 27 = .ok (.iconst (-1), 1) := by decide +kernel
theorem dX1_spread_28 : decode cX1_spread 28 = .ok (.if_icmp .eq 29, 3) := by decide +kernel
theorem dX1_spread_31 : decode cX1_spread 31 = .ok (.aload_n 0, 1) := by decide +kernel
theorem dX1_spread_32 : decode cX1_spread 32 = .ok (.getfield 9, 3) := by decide +kernel
theorem dX1_spread_35 : decode cX1_spread 35 = .ok (.iload 6, 2) := by decide +kernel
theorem dX1_spread_37 : decode cX1_spread 37 = .ok (.lload_n 1, 1) := by decide +kernel
theorem dX1_spread_38 : decode cX1_spread 38 = .ok (.bipush 8, 2) := by decide +kernel
theorem dX1_spread_40 : decode cX1_spread 40 = .ok (.iload 4, 2) := by decide +kernel
theorem dX1_spread_42 : decode cX1_spread 42 = .ok (.imul, 1) := by decide +kernel
theorem dX1_spread_43 : decode cX1_spread 43 = .ok (.lushr, 1) := by decide +kernel
theorem dX1_spread_44 : decode cX1_spread 44 = .ok (.invokevirtual 55, 3) := by decide +kernel
theorem dX1_spread_47 : decode cX1_spread 47 = .ok (.iload 4, 2) := by decide +kernel
theorem dX1_spread_49 : decode cX1_spread 49 = .ok (.iload 6, 2) := by decide +kernel
theorem dX1_spread_51 : decode cX1_spread 51 = .ok (.invokestatic 46, 3) := by decide +kernel
theorem dX1_spread_54 : decode cX1_spread 54 = .ok (.iadd, 1) := by decide +kernel
theorem dX1_spread_55 : decode cX1_spread 55 = .ok (.istore 4, 2) := by decide +kernel
theorem dX1_spread_57 : decode cX1_spread 57 = .ok (.iinc 5 1, 3) := by decide +kernel
theorem dX1_spread_60 : decode cX1_spread 60 = .ok (.goto (-49), 3) := by decide +kernel
theorem dX1_spread_63 : decode cX1_spread 63 = .ok (.return_, 1) := by decide +kernel
theorem dX1_owns_0 : decode cX1_owns 0 = .ok (.iload_n 1, 1) := by decide +kernel
theorem dX1_owns_1 : decode cX1_owns 1 = .ok (.aload_n 0, 1) := by decide +kernel
theorem dX1_owns_2 : decode cX1_owns 2 = .ok (.getfield 15, 3) := by decide +kernel
theorem dX1_owns_5 : decode cX1_owns 5 = .ok (.if_icmp .lt 17, 3) := by decide +kernel
theorem dX1_owns_8 : decode cX1_owns 8 = .ok (.iload_n 1, 1) := by decide +kernel
theorem dX1_owns_9 : decode cX1_owns 9 = .ok (.aload_n 0, 1) := by decide +kernel
theorem dX1_owns_10 : decode cX1_owns 10 = .ok (.getfield 15, 3) := by decide +kernel
theorem dX1_owns_13 : decode cX1_owns 13 = .ok (.iconst 4, 1) := by decide +kernel
theorem dX1_owns_14 : decode cX1_owns 14 = .ok (.iadd, 1) := by decide +kernel
theorem dX1_owns_15 : decode cX1_owns 15 = .ok (.if_icmp .gt 7, 3) := by decide +kernel
theorem dX1_owns_18 : decode cX1_owns 18 = .ok (.iconst 1, 1) := by decide +kernel
theorem dX1_owns_19 : decode cX1_owns 19 = .ok (.goto 4, 3) := by decide +kernel
theorem dX1_owns_22 : decode cX1_owns 22 = .ok (.iconst 0, 1) := by decide +kernel
theorem dX1_owns_23 : decode cX1_owns 23 = .ok (.ireturn, 1) := by decide +kernel
theorem dX1_isCount_0 : decode cX1_isCount 0 = .ok (.iload_n 1, 1) := by decide +kernel
theorem dX1_isCount_1 : decode cX1_isCount 1 = .ok (.aload_n 0, 1) := by decide +kernel
theorem dX1_isCount_2 : decode cX1_isCount 2 = .ok (.getfield 15, 3) := by decide +kernel
theorem dX1_isCount_5 : decode cX1_isCount 5 = .ok (.if_icmp .ne 7, 3) := by decide +kernel
theorem dX1_isCount_8 : decode cX1_isCount 8 = .ok (.iconst 1, 1) := by decide +kernel
theorem dX1_isCount_9 : decode cX1_isCount 9 = .ok (.goto 4, 3) := by decide +kernel
theorem dX1_isCount_12 : decode cX1_isCount 12 = .ok (.iconst 0, 1) := by decide +kernel
theorem dX1_isCount_13 : decode cX1_isCount 13 = .ok (.ireturn, 1) := by decide +kernel
theorem dX1_countFault_0 : decode cX1_countFault 0 = .ok (.iload_n 1, 1) := by decide +kernel
theorem dX1_countFault_1 : decode cX1_countFault 1 = .ok (.iconst 4, 1) := by decide +kernel
theorem dX1_countFault_2 : decode cX1_countFault 2 = .ok (.if_icmp .le 6, 3) := by decide +kernel
theorem dX1_countFault_5 : decode cX1_countFault 5 = .ok (.ldc 40, 2) := by decide +kernel
theorem dX1_countFault_7 : decode cX1_countFault 7 = .ok (.ireturn, 1) := by decide +kernel
theorem dX1_countFault_8 : decode cX1_countFault 8 = .ok (.iconst 0, 1) := by decide +kernel
theorem dX1_countFault_9 : decode cX1_countFault 9 = .ok (.istore_n 2, 1) := by decide +kernel
theorem dX1_countFault_10 : decode cX1_countFault 10 = .ok (.iconst 1, 1) := by decide +kernel
theorem dX1_countFault_11 : decode cX1_countFault 11 = .ok (.istore_n 3, 1) := by decide +kernel
theorem dX1_countFault_12 : decode cX1_countFault 12 = .ok (.iload_n 3, 1) := by decide +kernel
theorem dX1_countFault_13 : decode cX1_countFault 13 = .ok (.iload_n 1, 1) := by decide +kernel
theorem dX1_countFault_14 : decode cX1_countFault 14 = .ok (.if_icmp .gt 33, 3) := by decide +kernel
theorem dX1_countFault_17 : decode cX1_countFault 17 = .ok (.aload_n 0, 1) := by decide +kernel
theorem dX1_countFault_18 : decode cX1_countFault 18 = .ok (.iload_n 3, 1) := by decide +kernel
theorem dX1_countFault_19 : decode cX1_countFault 19 = .ok (.invokevirtual 41, 3) := by decide +kernel
theorem dX1_countFault_22 : decode cX1_countFault 22 = .ok (.istore 4, 2) := by decide +kernel
theorem dX1_countFault_24 : decode cX1_countFault 24 = .ok (.iload 4, 2) := by decide +kernel
theorem dX1_countFault_26 : decode cX1_countFault 26 = .ok (.iconst (-1), 1) := by decide +kernel
theorem dX1_countFault_27 : decode cX1_countFault 27 = .ok (.if_icmp .ne 6, 3) := by decide +kernel
theorem dX1_countFault_30 : decode cX1_countFault 30 = .ok (.ldc 45, 2) := by decide +kernel
theorem dX1_countFault_32 : decode cX1_countFault 32 = .ok (.ireturn, 1) := by decide +kernel
theorem dX1_countFault_33 : decode cX1_countFault 33 = .ok (.iload_n 2, 1) := by decide +kernel
theorem dX1_countFault_34 : decode cX1_countFault 34 = .ok (.iload 4, 2) := by decide +kernel
theorem dX1_countFault_36 : decode cX1_countFault 36 = .ok (.invokestatic 46, 3) := by decide +kernel
theorem dX1_countFault_39 : decode cX1_countFault 39 = .ok (.iadd, 1) := by decide +kernel
theorem dX1_countFault_40 : decode cX1_countFault 40 = .ok (.istore_n 2, 1) := by decide +kernel
theorem dX1_countFault_41 : decode cX1_countFault 41 = .ok (.iinc 3 1, 3) := by decide +kernel
theorem dX1_countFault_44 : decode cX1_countFault 44 = .ok (.goto (-32), 3) := by decide +kernel
theorem dX1_countFault_47 : decode cX1_countFault 47 = .ok (.iload_n 2, 1) := by decide +kernel
theorem dX1_countFault_48 : decode cX1_countFault 48 = .ok (.bipush 8, 2) := by decide +kernel
theorem dX1_countFault_50 : decode cX1_countFault 50 = .ok (.if_icmp .le 8, 3) := by decide +kernel
theorem dX1_countFault_53 : decode cX1_countFault 53 = .ok (.ldc 49, 2) := by decide +kernel
theorem dX1_countFault_55 : decode cX1_countFault 55 = .ok (.goto 4, 3) := by decide +kernel
theorem dX1_countFault_58 : decode cX1_countFault 58 = .ok (.iconst 0, 1) := by decide +kernel
theorem dX1_countFault_59 : decode cX1_countFault 59 = .ok (.ireturn, 1) := by decide +kernel
theorem dX1_nameFault_0 : decode cX1_nameFault 0 = .ok (.aload_n 0, 1) := by decide +kernel
theorem dX1_nameFault_1 : decode cX1_nameFault 1 = .ok (.invokevirtual 50, 3) := by decide +kernel
theorem dX1_nameFault_4 : decode cX1_nameFault 4 = .ok (.ifCond .eq 6, 3) := by decide +kernel
theorem dX1_nameFault_7 : decode cX1_nameFault 7 = .ok (.ldc 54, 2) := by decide +kernel
theorem dX1_nameFault_9 : decode cX1_nameFault 9 = .ok (.ireturn, 1) := by decide +kernel
theorem dX1_nameFault_10 : decode cX1_nameFault 10 = .ok (.iload_n 1, 1) := by decide +kernel
theorem dX1_nameFault_11 : decode cX1_nameFault 11 = .ok (.ifCond .eq 19, 3) := by decide +kernel
theorem dX1_nameFault_14 : decode cX1_nameFault 14 = .ok (.aload_n 0, 1) := by decide +kernel
theorem dX1_nameFault_15 : decode cX1_nameFault 15 = .ok (.getfield 9, 3) := by decide +kernel
theorem dX1_nameFault_18 : decode cX1_nameFault 18 = .ok (.iload_n 1, 1) := by decide +kernel
theorem dX1_nameFault_19 : decode cX1_nameFault 19 = .ok (.aload_n 0, 1) := by decide +kernel
theorem dX1_nameFault_20 : decode cX1_nameFault 20 = .ok (.getfield 21, 3) := by decide +kernel
theorem dX1_nameFault_23 : decode cX1_nameFault 23 = .ok (.invokevirtual 37, 3) := by decide +kernel
theorem dX1_nameFault_26 : decode cX1_nameFault 26 = .ok (.iconst (-1), 1) := by decide +kernel
theorem dX1_nameFault_27 : decode cX1_nameFault 27 = .ok (.if_icmp .eq 7, 3) := by decide +kernel
theorem dX1_nameFault_30 : decode cX1_nameFault 30 = .ok (.iconst 1, 1) := by decide +kernel
theorem dX1_nameFault_31 : decode cX1_nameFault 31 = .ok (.goto 4, 3) := by decide +kernel
theorem dX1_nameFault_34 : decode cX1_nameFault 34 = .ok (.iconst 0, 1) := by decide +kernel
theorem dX1_nameFault_35 : decode cX1_nameFault 35 = .ok (.istore_n 2, 1) := by decide +kernel
theorem dX1_nameFault_36 : decode cX1_nameFault 36 = .ok (.iload_n 2, 1) := by decide +kernel
theorem dX1_nameFault_37 : decode cX1_nameFault 37 = .ok (.ifCond .eq 7, 3) := by decide +kernel
theorem dX1_nameFault_40 : decode cX1_nameFault 40 = .ok (.iconst 0, 1) := by decide +kernel
theorem dX1_nameFault_41 : decode cX1_nameFault 41 = .ok (.goto 5, 3) := by decide +kernel
theorem dX1_nameFault_44 : decode cX1_nameFault 44 = .ok (.ldc 45, 2) := by decide +kernel
theorem dX1_nameFault_46 : decode cX1_nameFault 46 = .ok (.ireturn, 1) := by decide +kernel
end
section
theorem dX2_init_0 : decode cX2_init 0 = .ok (.aload_n 0, 1) := by decide +kernel
theorem dX2_init_1 : decode cX2_init 1 = .ok (.invokespecial 1, 3) := by decide +kernel
theorem dX2_init_4 : decode cX2_init 4 = .ok (.aload_n 0, 1) := by decide +kernel
theorem dX2_init_5 : decode cX2_init 5 = .ok (.sipush 128, 3) := by decide +kernel
theorem dX2_init_8 : decode cX2_init 8 = .ok (.newarray .int, 2) := by decide +kernel
theorem dX2_init_10 : decode cX2_init 10 = .ok (.putfield 9, 3) := by decide +kernel
theorem dX2_init_13 : decode cX2_init 13 = .ok (.return_, 1) := by decide +kernel
theorem dX2_send_0 : decode cX2_send 0 = .ok (.aload_n 0, 1) := by decide +kernel
theorem dX2_send_1 : decode cX2_send 1 = .ok (.dup, 1) := by decide +kernel
theorem dX2_send_2 : decode cX2_send 2 = .ok (.getfield 13, 3) := by decide +kernel
theorem dX2_send_5 : decode cX2_send 5 = .ok (.iconst 1, 1) := by decide +kernel
theorem dX2_send_6 : decode cX2_send 6 = .ok (.iadd, 1) := by decide +kernel
theorem dX2_send_7 : decode cX2_send 7 = .ok (.putfield 13, 3) := by decide +kernel
theorem dX2_send_10 : decode cX2_send 10 = .ok (.aload_n 0, 1) := by decide +kernel
theorem dX2_send_11 : decode cX2_send 11 = .ok (.getfield 17, 3) := by decide +kernel
theorem dX2_send_14 : decode cX2_send 14 = .ok (.bipush 32, 2) := by decide +kernel
theorem dX2_send_16 : decode cX2_send 16 = .ok (.if_icmp .lt 4, 3) := by decide +kernel
theorem dX2_send_19 : decode cX2_send 19 = .ok (.return_, 1) := by decide +kernel
theorem dX2_send_20 : decode cX2_send 20 = .ok (.aload_n 0, 1) := by decide +kernel
theorem dX2_send_21 : decode cX2_send 21 = .ok (.getfield 17, 3) := by decide +kernel
theorem dX2_send_24 : decode cX2_send 24 = .ok (.iconst 4, 1) := by decide +kernel
theorem dX2_send_25 : decode cX2_send 25 = .ok (.imul, 1) := by decide +kernel
theorem dX2_send_26 : decode cX2_send 26 = .ok (.istore 5, 2) := by decide +kernel
theorem dX2_send_28 : decode cX2_send 28 = .ok (.aload_n 0, 1) := by decide +kernel
theorem dX2_send_29 : decode cX2_send 29 = .ok (.getfield 9, 3) := by decide +kernel
theorem dX2_send_32 : decode cX2_send 32 = .ok (.iload 5, 2) := by decide +kernel
theorem dX2_send_34 : decode cX2_send 34 = .ok (.iload_n 1, 1) := by decide +kernel
theorem dX2_send_35 : decode cX2_send 35 = .ok (.iastore, 1) := by decide +kernel
theorem dX2_send_36 : decode cX2_send 36 = .ok (.aload_n 0, 1) := by decide +kernel
theorem dX2_send_37 : decode cX2_send 37 = .ok (.getfield 9, 3) := by decide +kernel
theorem dX2_send_40 : decode cX2_send 40 = .ok (.iload 5, 2) := by decide +kernel
theorem dX2_send_42 : decode cX2_send 42 = .ok (.iconst 1, 1) := by decide +kernel
theorem dX2_send_43 : decode cX2_send 43 = .ok (.iadd, 1) := by decide +kernel
theorem dX2_send_44 : decode cX2_send 44 = .ok (.iload_n 2, 1) := by decide +kernel
theorem dX2_send_45 : decode cX2_send 45 = .ok (.iastore, 1) := by decide +kernel
theorem dX2_send_46 : decode cX2_send 46 = .ok (.aload_n 0, 1) := by decide +kernel
theorem dX2_send_47 : decode cX2_send 47 = .ok (.getfield 9, 3) := by decide +kernel
theorem dX2_send_50 : decode cX2_send 50 = .ok (.iload 5, 2) := by decide +kernel
theorem dX2_send_52 : decode cX2_send 52 = .ok (.iconst 2, 1) := by decide +kernel
theorem dX2_send_53 : decode cX2_send 53 = .ok (.iadd, 1) := by decide +kernel
theorem dX2_send_54 : decode cX2_send 54 = .ok (.lload_n 3, 1) := by decide +kernel
theorem dX2_send_55 : decode cX2_send 55 = .ok (.l2i, 1) := by decide +kernel
theorem dX2_send_56 : decode cX2_send 56 = .ok (.iastore, 1) := by decide +kernel
theorem dX2_send_57 : decode cX2_send 57 = .ok (.aload_n 0, 1) := by decide +kernel
theorem dX2_send_58 : decode cX2_send 58 = .ok (.getfield 9, 3) := by decide +kernel
theorem dX2_send_61 : decode cX2_send 61 = .ok (.iload 5, 2) := by decide +kernel
theorem dX2_send_63 : decode cX2_send 63 = .ok (.iconst 3, 1) := by decide +kernel
theorem dX2_send_64 : decode cX2_send 64 = .ok (.iadd, 1) := by decide +kernel
theorem dX2_send_65 : decode cX2_send 65 = .ok (.lload_n 3, 1) := by decide +kernel
theorem dX2_send_66 : decode cX2_send 66 = .ok (.bipush 32, 2) := by decide +kernel
theorem dX2_send_68 : decode cX2_send 68 = .ok (.lushr, 1) := by decide +kernel
theorem dX2_send_69 : decode cX2_send 69 = .ok (.l2i, 1) := by decide +kernel
theorem dX2_send_70 : decode cX2_send 70 = .ok (.iastore, 1) := by decide +kernel
theorem dX2_send_71 : decode cX2_send 71 = .ok (.aload_n 0, 1) := by decide +kernel
theorem dX2_send_72 : decode cX2_send 72 = .ok (.dup, 1) := by decide +kernel
theorem dX2_send_73 : decode cX2_send 73 = .ok (.getfield 17, 3) := by decide +kernel
theorem dX2_send_76 : decode cX2_send 76 = .ok (.iconst 1, 1) := by decide +kernel
theorem dX2_send_77 : decode cX2_send 77 = .ok (.iadd, 1) := by decide +kernel
theorem dX2_send_78 : decode cX2_send 78 = .ok (.putfield 17, 3) := by decide +kernel
theorem dX2_send_81 : decode cX2_send 81 = .ok (.return_, 1) := by decide +kernel
theorem dX2_part_0 : decode cX2_part 0 = .ok (.aload_n 0, 1) := by decide +kernel
theorem dX2_part_1 : decode cX2_part 1 = .ok (.getfield 9, 3) := by decide +kernel
theorem dX2_part_4 : decode cX2_part 4 = .ok (.iload_n 1, 1) := by decide +kernel
theorem dX2_part_5 : decode cX2_part 5 = .ok (.iconst 4, 1) := by decide +kernel
theorem dX2_part_6 : decode cX2_part 6 = .ok (.imul, 1) := by decide +kernel
theorem dX2_part_7 : decode cX2_part 7 = .ok (.iload_n 2, 1) := by decide +kernel
theorem dX2_part_8 : decode cX2_part 8 = .ok (.iadd, 1) := by decide +kernel
theorem dX2_part_9 : decode cX2_part 9 = .ok (.iaload, 1) := by decide +kernel
theorem dX2_part_10 : decode cX2_part 10 = .ok (.ireturn, 1) := by decide +kernel
end
section
theorem dX3_init_0 : decode cX3_init 0 = .ok (.aload_n 0, 1) := by decide +kernel
theorem dX3_init_1 : decode cX3_init 1 = .ok (.invokespecial 3, 3) := by decide +kernel
theorem dX3_init_4 : decode cX3_init 4 = .ok (.aload_n 0, 1) := by decide +kernel
theorem dX3_init_5 : decode cX3_init 5 = .ok (.bipush 20, 2) := by decide +kernel
theorem dX3_init_7 : decode cX3_init 7 = .ok (.newarray .int, 2) := by decide +kernel
theorem dX3_init_9 : decode cX3_init 9 = .ok (.putfield 11, 3) := by decide +kernel
theorem dX3_init_12 : decode cX3_init 12 = .ok (.return_, 1) := by decide +kernel
theorem dX3_end_0 : decode cX3_end 0 = .ok (.aload_n 0, 1) := by decide +kernel
theorem dX3_end_1 : decode cX3_end 1 = .ok (.iconst 0, 1) := by decide +kernel
theorem dX3_end_2 : decode cX3_end 2 = .ok (.putfield 28, 3) := by decide +kernel
theorem dX3_end_5 : decode cX3_end 5 = .ok (.aload_n 0, 1) := by decide +kernel
theorem dX3_end_6 : decode cX3_end 6 = .ok (.iconst 0, 1) := by decide +kernel
theorem dX3_end_7 : decode cX3_end 7 = .ok (.putfield 21, 3) := by decide +kernel
theorem dX3_end_10 : decode cX3_end 10 = .ok (.return_, 1) := by decide +kernel
theorem dX3_add_0 : decode cX3_add 0 = .ok (.iload_n 3, 1) := by decide +kernel
theorem dX3_add_1 : decode cX3_add 1 = .ok (.aload_n 0, 1) := by decide +kernel
theorem dX3_add_2 : decode cX3_add 2 = .ok (.invokevirtual 44, 3) := by decide +kernel
theorem dX3_add_5 : decode cX3_add 5 = .ok (.if_icmp .le 5, 3) := by decide +kernel
theorem dX3_add_8 : decode cX3_add 8 = .ok (.iconst 0, 1) := by decide +kernel
theorem dX3_add_9 : decode cX3_add 9 = .ok (.ireturn, 1) := by decide +kernel
theorem dX3_add_10 : decode cX3_add 10 = .ok (.iconst 0, 1) := by decide +kernel
theorem dX3_add_11 : decode cX3_add 11 = .ok (.istore 4, 2) := by decide +kernel
theorem dX3_add_13 : decode cX3_add 13 = .ok (.iload 4, 2) := by decide +kernel
theorem dX3_add_15 : decode cX3_add 15 = .ok (.iload_n 3, 1) := by decide +kernel
theorem dX3_add_16 : decode cX3_add 16 = .ok (.if_icmp .ge 33, 3) := by decide +kernel
theorem dX3_add_19 : decode cX3_add 19 = .ok (.aload_n 0, 1) := by decide +kernel
theorem dX3_add_20 : decode cX3_add 20 = .ok (.getfield 11, 3) := by decide +kernel
theorem dX3_add_23 : decode cX3_add 23 = .ok (.aload_n 0, 1) := by decide +kernel
theorem dX3_add_24 : decode cX3_add 24 = .ok (.getfield 31, 3) := by decide +kernel
theorem dX3_add_27 : decode cX3_add 27 = .ok (.iload 4, 2) := by decide +kernel
theorem dX3_add_29 : decode cX3_add 29 = .ok (.iadd, 1) := by decide +kernel
theorem dX3_add_30 : decode cX3_add 30 = .ok (.lload_n 1, 1) := by decide +kernel
theorem dX3_add_31 : decode cX3_add 31 = .ok (.bipush 8, 2) := by decide +kernel
theorem dX3_add_33 : decode cX3_add 33 = .ok (.iload 4, 2) := by decide +kernel
theorem dX3_add_35 : decode cX3_add 35 = .ok (.imul, 1) := by decide +kernel
theorem dX3_add_36 : decode cX3_add 36 = .ok (.lushr, 1) := by decide +kernel
theorem dX3_add_37 : decode cX3_add 37 = .ok (.l2i, 1) := by decide +kernel
theorem dX3_add_38 : decode cX3_add 38 = .ok (.sipush 255, 3) := by decide +kernel
theorem dX3_add_41 : decode cX3_add 41 = .ok (.iand, 1) := by decide +kernel
theorem dX3_add_42 : decode cX3_add 42 = .ok (.iastore, 1) := by decide +kernel
theorem dX3_add_43 : decode cX3_add 43 = .ok (.iinc 4 1, 3) := by decide +kernel
theorem dX3_add_46 : decode cX3_add 46 = .ok (.goto (-33), 3) := by decide +kernel
theorem dX3_add_49 : decode cX3_add 49 = .ok (.aload_n 0, 1) := by decide +kernel
theorem dX3_add_50 : decode cX3_add 50 = .ok (.dup, 1) := by decide +kernel
theorem dX3_add_51 : decode cX3_add 51 = .ok (.getfield 31, 3) := by decide +kernel
theorem dX3_add_54 : decode cX3_add 54 = .ok (.iload_n 3, 1) := by decide +kernel
theorem dX3_add_55 : decode cX3_add 55 = .ok (.iadd, 1) := by decide +kernel
theorem dX3_add_56 : decode cX3_add 56 = .ok (.putfield 31, 3) := by decide +kernel
theorem dX3_add_59 : decode cX3_add 59 = .ok (.iconst 1, 1) := by decide +kernel
theorem dX3_add_60 : decode cX3_add 60 = .ok (.ireturn, 1) := by decide +kernel
theorem dX3_left_0 : decode cX3_left 0 = .ok (.aload_n 0, 1) := by decide +kernel
theorem dX3_left_1 : decode cX3_left 1 = .ok (.getfield 17, 3) := by decide +kernel
theorem dX3_left_4 : decode cX3_left 4 = .ok (.invokestatic 40, 3) := by decide +kernel
theorem dX3_left_7 : decode cX3_left 7 = .ok (.aload_n 0, 1) := by decide +kernel
theorem dX3_left_8 : decode cX3_left 8 = .ok (.getfield 31, 3) := by decide +kernel
theorem dX3_left_11 : decode cX3_left 11 = .ok (.isub, 1) := by decide +kernel
theorem dX3_left_12 : decode cX3_left 12 = .ok (.ireturn, 1) := by decide +kernel
theorem dX3_number_0 : decode cX3_number 0 = .ok (.iconst 0, 1) := by decide +kernel
theorem dX3_number_1 : decode cX3_number 1 = .ok (.istore_n 1, 1) := by decide +kernel
theorem dX3_number_2 : decode cX3_number 2 = .ok (.iconst 0, 1) := by decide +kernel
theorem dX3_number_3 : decode cX3_number 3 = .ok (.istore_n 2, 1) := by decide +kernel
theorem dX3_number_4 : decode cX3_number 4 = .ok (.iload_n 2, 1) := by decide +kernel
theorem dX3_number_5 : decode cX3_number 5 = .ok (.aload_n 0, 1) := by decide +kernel
theorem dX3_number_6 : decode cX3_number 6 = .ok (.getfield 31, 3) := by decide +kernel
theorem dX3_number_9 : decode cX3_number 9 = .ok (.if_icmp .ge 28, 3) := by decide +kernel
theorem dX3_number_12 : decode cX3_number 12 = .ok (.iload_n 2, 1) := by decide +kernel
theorem dX3_number_13 : decode cX3_number 13 = .ok (.iconst 4, 1) := by decide +kernel
theorem dX3_number_14 : decode cX3_number 14 = .ok (.if_icmp .ge 23, 3) := by decide +kernel
theorem dX3_number_17 : decode cX3_number 17 = .ok (.iload_n 1, 1) := by decide +kernel
theorem dX3_number_18 : decode cX3_number 18 = .ok (.aload_n 0, 1) := by decide +kernel
theorem dX3_number_19 : decode cX3_number 19 = .ok (.getfield 11, 3) := by decide +kernel
theorem dX3_number_22 : decode cX3_number 22 = .ok (.iload_n 2, 1) := by decide +kernel
theorem dX3_number_23 : decode cX3_number 23 = .ok (.iaload, 1) := by decide +kernel
theorem dX3_number_24 : decode cX3_number 24 = .ok (.bipush 8, 2) := by decide +kernel
theorem dX3_number_26 : decode cX3_number 26 = .ok (.iload_n 2, 1) := by decide +kernel
theorem dX3_number_27 : decode cX3_number 27 = .ok (.imul, 1) := by decide +kernel
theorem dX3_number_28 : decode cX3_number 28 = .ok (.ishl, 1) := by decide +kernel
theorem dX3_number_29 : decode cX3_number 29 = .ok (.ior, 1) := by decide +kernel
theorem dX3_number_30 : decode cX3_number 30 = .ok (.istore_n 1, 1) := by decide +kernel
theorem dX3_number_31 : decode cX3_number 31 = .ok (.iinc 2 1, 3) := by decide +kernel
theorem dX3_number_34 : decode cX3_number 34 = .ok (.goto (-30), 3) := by decide +kernel
theorem dX3_number_37 : decode cX3_number 37 = .ok (.iload_n 1, 1) := by decide +kernel
theorem dX3_number_38 : decode cX3_number 38 = .ok (.ireturn, 1) := by decide +kernel
theorem dX3_awaitNext_0 : decode cX3_awaitNext 0 = .ok (.aload_n 0, 1) := by decide +kernel
theorem dX3_awaitNext_1 : decode cX3_awaitNext 1 = .ok (.bipush 16, 2) := by decide +kernel
theorem dX3_awaitNext_3 : decode cX3_awaitNext 3 = .ok (.aload_n 0, 1) := by decide +kernel
theorem dX3_awaitNext_4 : decode cX3_awaitNext 4 = .ok (.getfield 34, 3) := by decide +kernel
theorem dX3_awaitNext_7 : decode cX3_awaitNext 7 = .ok (.isub, 1) := by decide +kernel
theorem dX3_awaitNext_8 : decode cX3_awaitNext 8 = .ok (.putfield 34, 3) := by decide +kernel
theorem dX3_awaitNext_11 : decode cX3_awaitNext 11 = .ok (.aload_n 0, 1) := by decide +kernel
theorem dX3_awaitNext_12 : decode cX3_awaitNext 12 = .ok (.iconst 0, 1) := by decide +kernel
theorem dX3_awaitNext_13 : decode cX3_awaitNext 13 = .ok (.putfield 37, 3) := by decide +kernel
theorem dX3_awaitNext_16 : decode cX3_awaitNext 16 = .ok (.return_, 1) := by decide +kernel
theorem dX3_begin_0 : decode cX3_begin 0 = .ok (.aload_n 0, 1) := by decide +kernel
theorem dX3_begin_1 : decode cX3_begin 1 = .ok (.iload_n 1, 1) := by decide +kernel
theorem dX3_begin_2 : decode cX3_begin 2 = .ok (.putfield 17, 3) := by decide +kernel
theorem dX3_begin_5 : decode cX3_begin 5 = .ok (.aload_n 0, 1) := by decide +kernel
theorem dX3_begin_6 : decode cX3_begin 6 = .ok (.iload_n 2, 1) := by decide +kernel
theorem dX3_begin_7 : decode cX3_begin 7 = .ok (.putfield 21, 3) := by decide +kernel
theorem dX3_begin_10 : decode cX3_begin 10 = .ok (.aload_n 0, 1) := by decide +kernel
theorem dX3_begin_11 : decode cX3_begin 11 = .ok (.iload_n 3, 1) := by decide +kernel
theorem dX3_begin_12 : decode cX3_begin 12 = .ok (.putfield 24, 3) := by decide +kernel
theorem dX3_begin_15 : decode cX3_begin 15 = .ok (.aload_n 0, 1) := by decide +kernel
theorem dX3_begin_16 : decode cX3_begin 16 = .ok (.iconst 1, 1) := by decide +kernel
theorem dX3_begin_17 : decode cX3_begin 17 = .ok (.putfield 28, 3) := by decide +kernel
theorem dX3_begin_20 : decode cX3_begin 20 = .ok (.aload_n 0, 1) := by decide +kernel
theorem dX3_begin_21 : decode cX3_begin 21 = .ok (.iconst 0, 1) := by decide +kernel
theorem dX3_begin_22 : decode cX3_begin 22 = .ok (.putfield 31, 3) := by decide +kernel
theorem dX3_begin_25 : decode cX3_begin 25 = .ok (.aload_n 0, 1) := by decide +kernel
theorem dX3_begin_26 : decode cX3_begin 26 = .ok (.iconst 0, 1) := by decide +kernel
theorem dX3_begin_27 : decode cX3_begin 27 = .ok (.putfield 34, 3) := by decide +kernel
theorem dX3_begin_30 : decode cX3_begin 30 = .ok (.aload_n 0, 1) := by decide +kernel
theorem dX3_begin_31 : decode cX3_begin 31 = .ok (.iconst 0, 1) := by decide +kernel
theorem dX3_begin_32 : decode cX3_begin 32 = .ok (.putfield 37, 3) := by decide +kernel
theorem dX3_begin_35 : decode cX3_begin 35 = .ok (.return_, 1) := by decide +kernel
end
section
theorem dX4_init_0 : decode cX4_init 0 = .ok (.aload_n 0, 1) := by decide +kernel
theorem dX4_init_1 : decode cX4_init 1 = .ok (.invokespecial 1, 3) := by decide +kernel
theorem dX4_init_4 : decode cX4_init 4 = .ok (.aload_n 0, 1) := by decide +kernel
theorem dX4_init_5 : decode cX4_init 5 = .ok (.iconst 1, 1) := by decide +kernel
theorem dX4_init_6 : decode cX4_init 6 = .ok (.bipush 15, 2) := by decide +kernel
theorem dX4_init_8 : decode cX4_init 8 = .ok (.iload_n 1, 1) := by decide +kernel
theorem dX4_init_9 : decode cX4_init 9 = .ok (.invokestatic 7, 3) := by decide +kernel
theorem dX4_init_12 : decode cX4_init 12 = .ok (.invokestatic 13, 3) := by decide +kernel
theorem dX4_init_15 : decode cX4_init 15 = .ok (.putfield 16, 3) := by decide +kernel
theorem dX4_init_18 : decode cX4_init 18 = .ok (.new 22, 3) := by decide +kernel
theorem dX4_init_21 : decode cX4_init 21 = .ok (.dup, 1) := by decide +kernel
theorem dX4_init_22 : decode cX4_init 22 = .ok (.invokespecial 24, 3) := by decide +kernel
theorem dX4_init_25 : decode cX4_init 25 = .ok (.astore_n 2, 1) := by decide +kernel
theorem dX4_init_26 : decode cX4_init 26 = .ok (.aload_n 0, 1) := by decide +kernel
theorem dX4_init_27 : decode cX4_init 27 = .ok (.aload_n 2, 1) := by decide +kernel
theorem dX4_init_28 : decode cX4_init 28 = .ok (.putfield 25, 3) := by decide +kernel
theorem dX4_init_31 : decode cX4_init 31 = .ok (.aload_n 0, 1) := by decide +kernel
theorem dX4_init_32 : decode cX4_init 32 = .ok (.new 29, 3) := by decide +kernel
theorem dX4_init_35 : decode cX4_init 35 = .ok (.dup, 1) := by decide +kernel
theorem dX4_init_36 : decode cX4_init 36 = .ok (.aload_n 2, 1) := by decide +kernel
theorem dX4_init_37 : decode cX4_init 37 = .ok (.iconst 3, 1) := by decide +kernel
theorem dX4_init_38 : decode cX4_init 38 = .ok (.iconst 2, 1) := by decide +kernel
theorem dX4_init_39 : decode cX4_init 39 = .ok (.invokespecial 31, 3) := by decide +kernel
theorem dX4_init_42 : decode cX4_init 42 = .ok (.putfield 34, 3) := by decide +kernel
theorem dX4_init_45 : decode cX4_init 45 = .ok (.aload_n 0, 1) := by decide +kernel
theorem dX4_init_46 : decode cX4_init 46 = .ok (.new 29, 3) := by decide +kernel
theorem dX4_init_49 : decode cX4_init 49 = .ok (.dup, 1) := by decide +kernel
theorem dX4_init_50 : decode cX4_init 50 = .ok (.aload_n 2, 1) := by decide +kernel
theorem dX4_init_51 : decode cX4_init 51 = .ok (.bipush 9, 2) := by decide +kernel
theorem dX4_init_53 : decode cX4_init 53 = .ok (.iconst 1, 1) := by decide +kernel
theorem dX4_init_54 : decode cX4_init 54 = .ok (.invokespecial 31, 3) := by decide +kernel
theorem dX4_init_57 : decode cX4_init 57 = .ok (.putfield 38, 3) := by decide +kernel
theorem dX4_init_60 : decode cX4_init 60 = .ok (.aload_n 0, 1) := by decide +kernel
theorem dX4_init_61 : decode cX4_init 61 = .ok (.new 41, 3) := by decide +kernel
theorem dX4_init_64 : decode cX4_init 64 = .ok (.dup, 1) := by decide +kernel
theorem dX4_init_65 : decode cX4_init 65 = .ok (.invokespecial 43, 3) := by decide +kernel
theorem dX4_init_68 : decode cX4_init 68 = .ok (.putfield 44, 3) := by decide +kernel
theorem dX4_init_71 : decode cX4_init 71 = .ok (.aload_n 0, 1) := by decide +kernel
theorem dX4_init_72 : decode cX4_init 72 = .ok (.new 48, 3) := by decide +kernel
theorem dX4_init_75 : decode cX4_init 75 = .ok (.dup, 1) := by decide +kernel
theorem dX4_init_76 : decode cX4_init 76 = .ok (.invokespecial 50, 3) := by decide +kernel
theorem dX4_init_79 : decode cX4_init 79 = .ok (.putfield 51, 3) := by decide +kernel
theorem dX4_init_82 : decode cX4_init 82 = .ok (.aload_n 0, 1) := by decide +kernel
theorem dX4_init_83 : decode cX4_init 83 = .ok (.invokevirtual 55, 3) := by decide +kernel
theorem dX4_init_86 : decode cX4_init 86 = .ok (.return_, 1) := by decide +kernel
theorem dX4_boot_0 : decode cX4_boot 0 = .ok (.aload_n 0, 1) := by decide +kernel
theorem dX4_boot_1 : decode cX4_boot 1 = .ok (.bipush 127, 2) := by decide +kernel
theorem dX4_boot_3 : decode cX4_boot 3 = .ok (.putfield 79, 3) := by decide +kernel
theorem dX4_boot_6 : decode cX4_boot 6 = .ok (.aload_n 0, 1) := by decide +kernel
theorem dX4_boot_7 : decode cX4_boot 7 = .ok (.getfield 51, 3) := by decide +kernel
theorem dX4_boot_10 : decode cX4_boot 10 = .ok (.invokevirtual 132, 3) := by decide +kernel
theorem dX4_boot_13 : decode cX4_boot 13 = .ok (.aload_n 0, 1) := by decide +kernel
theorem dX4_boot_14 : decode cX4_boot 14 = .ok (.iconst 0, 1) := by decide +kernel
theorem dX4_boot_15 : decode cX4_boot 15 = .ok (.putfield 135, 3) := by decide +kernel
theorem dX4_boot_18 : decode cX4_boot 18 = .ok (.aload_n 0, 1) := by decide +kernel
theorem dX4_boot_19 : decode cX4_boot 19 = .ok (.iconst 0, 1) := by decide +kernel
theorem dX4_boot_20 : decode cX4_boot 20 = .ok (.putfield 138, 3) := by decide +kernel
theorem dX4_boot_23 : decode cX4_boot 23 = .ok (.aload_n 0, 1) := by decide +kernel
theorem dX4_boot_24 : decode cX4_boot 24 = .ok (.getfield 44, 3) := by decide +kernel
theorem dX4_boot_27 : decode cX4_boot 27 = .ok (.sipush 1792, 3) := by decide +kernel
theorem dX4_boot_30 : decode cX4_boot 30 = .ok (.aload_n 0, 1) := by decide +kernel
theorem dX4_boot_31 : decode cX4_boot 31 = .ok (.getfield 16, 3) := by decide +kernel
theorem dX4_boot_34 : decode cX4_boot 34 = .ok (.iadd, 1) := by decide +kernel
theorem dX4_boot_35 : decode cX4_boot 35 = .ok (.iconst 1, 1) := by decide +kernel
theorem dX4_boot_36 : decode cX4_boot 36 = .ok (.lconst 0, 1) := by decide +kernel
theorem dX4_boot_37 : decode cX4_boot 37 = .ok (.invokevirtual 141, 3) := by decide +kernel
theorem dX4_boot_40 : decode cX4_boot 40 = .ok (.return_, 1) := by decide +kernel
theorem dX4_tick_0 : decode cX4_tick 0 = .ok (.aload_n 0, 1) := by decide +kernel
theorem dX4_tick_1 : decode cX4_tick 1 = .ok (.getfield 44, 3) := by decide +kernel
theorem dX4_tick_4 : decode cX4_tick 4 = .ok (.getfield 61, 3) := by decide +kernel
theorem dX4_tick_7 : decode cX4_tick 7 = .ok (.istore_n 1, 1) := by decide +kernel
theorem dX4_tick_8 : decode cX4_tick 8 = .ok (.aload_n 0, 1) := by decide +kernel
theorem dX4_tick_9 : decode cX4_tick 9 = .ok (.invokevirtual 88, 3) := by decide +kernel
theorem dX4_tick_12 : decode cX4_tick 12 = .ok (.aload_n 0, 1) := by decide +kernel
theorem dX4_tick_13 : decode cX4_tick 13 = .ok (.getfield 51, 3) := by decide +kernel
theorem dX4_tick_16 : decode cX4_tick 16 = .ok (.getfield 91, 3) := by decide +kernel
theorem dX4_tick_19 : decode cX4_tick 19 = .ok (.ifCond .eq 41, 3) := by decide +kernel
theorem dX4_tick_22 : decode cX4_tick 22 = .ok (.aload_n 0, 1) := by decide +kernel
theorem dX4_tick_23 : decode cX4_tick 23 = .ok (.getfield 51, 3) := by decide +kernel
theorem dX4_tick_26 : decode cX4_tick 26 = .ok (.dup, 1) := by decide +kernel
theorem dX4_tick_27 : decode cX4_tick 27 = .ok (.getfield 95, 3) := by decide +kernel
theorem dX4_tick_30 : decode cX4_tick 30 = .ok (.iconst 1, 1) := by decide +kernel
theorem dX4_tick_31 : decode cX4_tick 31 = .ok (.iadd, 1) := by decide +kernel
theorem dX4_tick_32 : decode cX4_tick 32 = .ok (.putfield 95, 3) := by decide +kernel
theorem dX4_tick_35 : decode cX4_tick 35 = .ok (.aload_n 0, 1) := by decide +kernel
theorem dX4_tick_36 : decode cX4_tick 36 = .ok (.getfield 51, 3) := by decide +kernel
theorem dX4_tick_39 : decode cX4_tick 39 = .ok (.getfield 95, 3) := by decide +kernel
theorem dX4_tick_42 : decode cX4_tick 42 = .ok (.bipush 8, 2) := by decide +kernel
theorem dX4_tick_44 : decode cX4_tick 44 = .ok (.if_icmp .lt 16, 3) := by decide +kernel
theorem dX4_tick_47 : decode cX4_tick 47 = .ok (.aload_n 0, 1) := by decide +kernel
theorem dX4_tick_48 : decode cX4_tick 48 = .ok (.aload_n 0, 1) := by decide +kernel
theorem dX4_tick_49 : decode cX4_tick 49 = .ok (.getfield 51, 3) := by decide +kernel
theorem dX4_tick_52 : decode cX4_tick 52 = .ok (.getfield 98, 3) := by decide +kernel
theorem dX4_tick_55 : decode cX4_tick 55 = .ok (.ldc 101, 2) := by decide +kernel
theorem dX4_tick_57 : decode cX4_tick 57 = .ok (.invokevirtual 102, 3) := by decide +kernel
theorem dX4_tick_60 : decode cX4_tick 60 = .ok (.aload_n 0, 1) := by decide +kernel
theorem dX4_tick_61 : decode cX4_tick 61 = .ok (.getfield 44, 3) := by decide +kernel
theorem dX4_tick_64 : decode cX4_tick 64 = .ok (.getfield 61, 3) := by decide +kernel
theorem dX4_tick_67 : decode cX4_tick 67 = .ok (.iload_n 1, 1) := by decide +kernel
theorem dX4_tick_68 : decode cX4_tick 68 = .ok (.isub, 1) := by decide +kernel
theorem dX4_tick_69 : decode cX4_tick 69 = .ok (.ireturn, 1) := by decide +kernel
theorem dX4_beat_0 : decode cX4_beat 0 = .ok (.aload_n 0, 1) := by decide +kernel
theorem dX4_beat_1 : decode cX4_beat 1 = .ok (.getfield 25, 3) := by decide +kernel
theorem dX4_beat_4 : decode cX4_beat 4 = .ok (.iconst 2, 1) := by decide +kernel
theorem dX4_beat_5 : decode cX4_beat 5 = .ok (.iconst 0, 1) := by decide +kernel
theorem dX4_beat_6 : decode cX4_beat 6 = .ok (.iconst 2, 1) := by decide +kernel
theorem dX4_beat_7 : decode cX4_beat 7 = .ok (.invokevirtual 145, 3) := by decide +kernel
theorem dX4_beat_10 : decode cX4_beat 10 = .ok (.l2i, 1) := by decide +kernel
theorem dX4_beat_11 : decode cX4_beat 11 = .ok (.istore_n 1, 1) := by decide +kernel
theorem dX4_beat_12 : decode cX4_beat 12 = .ok (.iload_n 1, 1) := by decide +kernel
theorem dX4_beat_13 : decode cX4_beat 13 = .ok (.ifCond .ne 4, 3) := by decide +kernel
theorem dX4_beat_16 : decode cX4_beat 16 = .ok (.return_, 1) := by decide +kernel
theorem dX4_beat_17 : decode cX4_beat 17 = .ok (.aload_n 0, 1) := by decide +kernel
theorem dX4_beat_18 : decode cX4_beat 18 = .ok (.dup, 1) := by decide +kernel
theorem dX4_beat_19 : decode cX4_beat 19 = .ok (.getfield 138, 3) := by decide +kernel
theorem dX4_beat_22 : decode cX4_beat 22 = .ok (.iconst 1, 1) := by decide +kernel
theorem dX4_beat_23 : decode cX4_beat 23 = .ok (.iadd, 1) := by decide +kernel
theorem dX4_beat_24 : decode cX4_beat 24 = .ok (.putfield 138, 3) := by decide +kernel
theorem dX4_beat_27 : decode cX4_beat 27 = .ok (.aload_n 0, 1) := by decide +kernel
theorem dX4_beat_28 : decode cX4_beat 28 = .ok (.getfield 138, 3) := by decide +kernel
theorem dX4_beat_31 : decode cX4_beat 31 = .ok (.iload_n 1, 1) := by decide +kernel
theorem dX4_beat_32 : decode cX4_beat 32 = .ok (.if_icmp .lt 29, 3) := by decide +kernel
theorem dX4_beat_35 : decode cX4_beat 35 = .ok (.aload_n 0, 1) := by decide +kernel
theorem dX4_beat_36 : decode cX4_beat 36 = .ok (.iconst 0, 1) := by decide +kernel
theorem dX4_beat_37 : decode cX4_beat 37 = .ok (.putfield 138, 3) := by decide +kernel
theorem dX4_beat_40 : decode cX4_beat 40 = .ok (.aload_n 0, 1) := by decide +kernel
theorem dX4_beat_41 : decode cX4_beat 41 = .ok (.getfield 44, 3) := by decide +kernel
theorem dX4_beat_44 : decode cX4_beat 44 = .ok (.sipush 1792, 3) := by decide +kernel
theorem dX4_beat_47 : decode cX4_beat 47 = .ok (.aload_n 0, 1) := by decide +kernel
theorem dX4_beat_48 : decode cX4_beat 48 = .ok (.getfield 16, 3) := by decide +kernel
theorem dX4_beat_51 : decode cX4_beat 51 = .ok (.iadd, 1) := by decide +kernel
theorem dX4_beat_52 : decode cX4_beat 52 = .ok (.iconst 1, 1) := by decide +kernel
theorem dX4_beat_53 : decode cX4_beat 53 = .ok (.aload_n 0, 1) := by decide +kernel
theorem dX4_beat_54 : decode cX4_beat 54 = .ok (.getfield 79, 3) := by decide +kernel
theorem dX4_beat_57 : decode cX4_beat 57 = .ok (.i2l, 1) := by decide +kernel
theorem dX4_beat_58 : decode cX4_beat 58 = .ok (.invokevirtual 141, 3) := by decide +kernel
theorem dX4_beat_61 : decode cX4_beat 61 = .ok (.return_, 1) := by decide +kernel
theorem dX4_abort_0 : decode cX4_abort 0 = .ok (.aload_n 0, 1) := by decide +kernel
theorem dX4_abort_1 : decode cX4_abort 1 = .ok (.getfield 51, 3) := by decide +kernel
theorem dX4_abort_4 : decode cX4_abort 4 = .ok (.invokevirtual 132, 3) := by decide +kernel
theorem dX4_abort_7 : decode cX4_abort 7 = .ok (.aload_n 0, 1) := by decide +kernel
theorem dX4_abort_8 : decode cX4_abort 8 = .ok (.sipush 128, 3) := by decide +kernel
theorem dX4_abort_11 : decode cX4_abort 11 = .ok (.iload_n 1, 1) := by decide +kernel
theorem dX4_abort_12 : decode cX4_abort 12 = .ok (.iload_n 2, 1) := by decide +kernel
theorem dX4_abort_13 : decode cX4_abort 13 = .ok (.invokevirtual 223, 3) := by decide +kernel
theorem dX4_abort_16 : decode cX4_abort 16 = .ok (.return_, 1) := by decide +kernel
theorem dX4_answer_0 : decode cX4_answer 0 = .ok (.aload_n 0, 1) := by decide +kernel
theorem dX4_answer_1 : decode cX4_answer 1 = .ok (.getfield 44, 3) := by decide +kernel
theorem dX4_answer_4 : decode cX4_answer 4 = .ok (.sipush 1408, 3) := by decide +kernel
theorem dX4_answer_7 : decode cX4_answer 7 = .ok (.aload_n 0, 1) := by decide +kernel
theorem dX4_answer_8 : decode cX4_answer 8 = .ok (.getfield 16, 3) := by decide +kernel
theorem dX4_answer_11 : decode cX4_answer 11 = .ok (.iadd, 1) := by decide +kernel
theorem dX4_answer_12 : decode cX4_answer 12 = .ok (.bipush 8, 2) := by decide +kernel
theorem dX4_answer_14 : decode cX4_answer 14 = .ok (.iload_n 2, 1) := by decide +kernel
theorem dX4_answer_15 : decode cX4_answer 15 = .ok (.bipush 8, 2) := by decide +kernel
theorem dX4_answer_17 : decode cX4_answer 17 = .ok (.ishl, 1) := by decide +kernel
theorem dX4_answer_18 : decode cX4_answer 18 = .ok (.iload_n 1, 1) := by decide +kernel
theorem dX4_answer_19 : decode cX4_answer 19 = .ok (.ior, 1) := by decide +kernel
theorem dX4_answer_20 : decode cX4_answer 20 = .ok (.iload_n 3, 1) := by decide +kernel
theorem dX4_answer_21 : decode cX4_answer 21 = .ok (.invokestatic 71, 3) := by decide +kernel
theorem dX4_answer_24 : decode cX4_answer 24 = .ok (.invokevirtual 141, 3) := by decide +kernel
theorem dX4_answer_27 : decode cX4_answer 27 = .ok (.return_, 1) := by decide +kernel
theorem dX4_joined_0 : decode cX4_joined 0 = .ok (.iload_n 1, 1) := by decide +kernel
theorem dX4_joined_1 : decode cX4_joined 1 = .ok (.i2l, 1) := by decide +kernel
theorem dX4_joined_2 : decode cX4_joined 2 = .ok (.bipush 32, 2) := by decide +kernel
theorem dX4_joined_4 : decode cX4_joined 4 = .ok (.lshl, 1) := by decide +kernel
theorem dX4_joined_5 : decode cX4_joined 5 = .ok (.iload_n 0, 1) := by decide +kernel
theorem dX4_joined_6 : decode cX4_joined 6 = .ok (.i2l, 1) := by decide +kernel
theorem dX4_joined_7 : decode cX4_joined 7 = .ok (.ldc2_w 130, 3) := by decide +kernel
theorem dX4_joined_10 : decode cX4_joined 10 = .ok (.land, 1) := by decide +kernel
theorem dX4_joined_11 : decode cX4_joined 11 = .ok (.lor, 1) := by decide +kernel
theorem dX4_joined_12 : decode cX4_joined 12 = .ok (.lreturn, 1) := by decide +kernel
theorem dX4_size_0 : decode cX4_size 0 = .ok (.aload_n 0, 1) := by decide +kernel
theorem dX4_size_1 : decode cX4_size 1 = .ok (.getfield 25, 3) := by decide +kernel
theorem dX4_size_4 : decode cX4_size 4 = .ok (.iload_n 1, 1) := by decide +kernel
theorem dX4_size_5 : decode cX4_size 5 = .ok (.iload_n 2, 1) := by decide +kernel
theorem dX4_size_6 : decode cX4_size 6 = .ok (.invokevirtual 105, 3) := by decide +kernel
theorem dX4_size_9 : decode cX4_size 9 = .ok (.istore_n 3, 1) := by decide +kernel
theorem dX4_size_10 : decode cX4_size 10 = .ok (.iload_n 3, 1) := by decide +kernel
theorem dX4_size_11 : decode cX4_size 11 = .ok (.iconst (-1), 1) := by decide +kernel
theorem dX4_size_12 : decode cX4_size 12 = .ok (.if_icmp .ne 7, 3) := by decide +kernel
theorem dX4_size_15 : decode cX4_size 15 = .ok (.iconst 0, 1) := by decide +kernel
theorem dX4_size_16 : decode cX4_size 16 = .ok (.goto 7, 3) := by decide +kernel
theorem dX4_size_19 : decode cX4_size 19 = .ok (.iload_n 3, 1) := by decide +kernel
theorem dX4_size_20 : decode cX4_size 20 = .ok (.invokestatic 108, 3) := by decide +kernel
theorem dX4_size_23 : decode cX4_size 23 = .ok (.ireturn, 1) := by decide +kernel
theorem dX4_state_0 : decode cX4_state 0 = .ok (.aload_n 0, 1) := by decide +kernel
theorem dX4_state_1 : decode cX4_state 1 = .ok (.getfield 79, 3) := by decide +kernel
theorem dX4_state_4 : decode cX4_state 4 = .ok (.ireturn, 1) := by decide +kernel
theorem dX4_busy_0 : decode cX4_busy 0 = .ok (.aload_n 0, 1) := by decide +kernel
theorem dX4_busy_1 : decode cX4_busy 1 = .ok (.getfield 51, 3) := by decide +kernel
theorem dX4_busy_4 : decode cX4_busy 4 = .ok (.getfield 91, 3) := by decide +kernel
theorem dX4_busy_7 : decode cX4_busy 7 = .ok (.ireturn, 1) := by decide +kernel
theorem dX4_outs_0 : decode cX4_outs 0 = .ok (.aload_n 0, 1) := by decide +kernel
theorem dX4_outs_1 : decode cX4_outs 1 = .ok (.getfield 44, 3) := by decide +kernel
theorem dX4_outs_4 : decode cX4_outs 4 = .ok (.getfield 121, 3) := by decide +kernel
theorem dX4_outs_7 : decode cX4_outs 7 = .ok (.ireturn, 1) := by decide +kernel
theorem dX4_flush_0 : decode cX4_flush 0 = .ok (.aload_n 0, 1) := by decide +kernel
theorem dX4_flush_1 : decode cX4_flush 1 = .ok (.getfield 44, 3) := by decide +kernel
theorem dX4_flush_4 : decode cX4_flush 4 = .ok (.getfield 121, 3) := by decide +kernel
theorem dX4_flush_7 : decode cX4_flush 7 = .ok (.istore_n 1, 1) := by decide +kernel
theorem dX4_flush_8 : decode cX4_flush 8 = .ok (.aload_n 0, 1) := by decide +kernel
theorem dX4_flush_9 : decode cX4_flush 9 = .ok (.getfield 44, 3) := by decide +kernel
theorem dX4_flush_12 : decode cX4_flush 12 = .ok (.iconst 0, 1) := by decide +kernel
theorem dX4_flush_13 : decode cX4_flush 13 = .ok (.putfield 121, 3) := by decide +kernel
theorem dX4_flush_16 : decode cX4_flush 16 = .ok (.iload_n 1, 1) := by decide +kernel
theorem dX4_flush_17 : decode cX4_flush 17 = .ok (.ireturn, 1) := by decide +kernel
theorem dX4_frame_0 : decode cX4_frame 0 = .ok (.iload_n 1, 1) := by decide +kernel
theorem dX4_frame_1 : decode cX4_frame 1 = .ok (.ifCond .lt 20, 3) := by decide +kernel
theorem dX4_frame_4 : decode cX4_frame 4 = .ok (.iload_n 1, 1) := by decide +kernel
theorem dX4_frame_5 : decode cX4_frame 5 = .ok (.sipush 2047, 3) := by decide +kernel
theorem dX4_frame_8 : decode cX4_frame 8 = .ok (.if_icmp .gt 13, 3) := by decide +kernel
theorem dX4_frame_11 : decode cX4_frame 11 = .ok (.iload_n 2, 1) := by decide +kernel
theorem dX4_frame_12 : decode cX4_frame 12 = .ok (.ifCond .lt 9, 3) := by decide +kernel
theorem dX4_frame_15 : decode cX4_frame 15 = .ok (.iload_n 2, 1) := by decide +kernel
theorem dX4_frame_16 : decode cX4_frame 16 = .ok (.bipush 8, 2) := by decide +kernel
theorem dX4_frame_18 : decode cX4_frame 18 = .ok (.if_icmp .le 11, 3) := by decide +kernel
theorem dX4_frame_21 : decode cX4_frame 21 = .ok (.new 58, 3) := by decide +kernel
theorem dX4_frame_24 : decode cX4_frame 24 = .ok (.dup, 1) := by decide +kernel
theorem dX4_frame_25 : decode cX4_frame 25 = .ok (.invokespecial 60, 3) := by decide +kernel
theorem dX4_frame_28 : decode cX4_frame 28 = .ok (.athrow, 1) := by decide +kernel
theorem dX4_frame_29 : decode cX4_frame 29 = .ok (.aload_n 0, 1) := by decide +kernel
theorem dX4_frame_30 : decode cX4_frame 30 = .ok (.getfield 44, 3) := by decide +kernel
theorem dX4_frame_33 : decode cX4_frame 33 = .ok (.getfield 61, 3) := by decide +kernel
theorem dX4_frame_36 : decode cX4_frame 36 = .ok (.istore 5, 2) := by decide +kernel
theorem dX4_frame_38 : decode cX4_frame 38 = .ok (.iload_n 1, 1) := by decide +kernel
theorem dX4_frame_39 : decode cX4_frame 39 = .ok (.ifCond .ne 28, 3) := by decide +kernel
theorem dX4_frame_42 : decode cX4_frame 42 = .ok (.iload_n 2, 1) := by decide +kernel
theorem dX4_frame_43 : decode cX4_frame 43 = .ok (.iconst 2, 1) := by decide +kernel
theorem dX4_frame_44 : decode cX4_frame 44 = .ok (.if_icmp .ne 23, 3) := by decide +kernel
theorem dX4_frame_47 : decode cX4_frame 47 = .ok (.aload_n 0, 1) := by decide +kernel
theorem dX4_frame_48 : decode cX4_frame 48 = .ok (.iload_n 3, 1) := by decide +kernel
theorem dX4_frame_49 : decode cX4_frame 49 = .ok (.sipush 255, 3) := by decide +kernel
theorem dX4_frame_52 : decode cX4_frame 52 = .ok (.iand, 1) := by decide +kernel
theorem dX4_frame_53 : decode cX4_frame 53 = .ok (.iload_n 3, 1) := by decide +kernel
theorem dX4_frame_54 : decode cX4_frame 54 = .ok (.bipush 8, 2) := by decide +kernel
theorem dX4_frame_56 : decode cX4_frame 56 = .ok (.ishr, 1) := by decide +kernel
theorem dX4_frame_57 : decode cX4_frame 57 = .ok (.sipush 255, 3) := by decide +kernel
theorem dX4_frame_60 : decode cX4_frame 60 = .ok (.iand, 1) := by decide +kernel
theorem dX4_frame_61 : decode cX4_frame 61 = .ok (.invokevirtual 64, 3) := by decide +kernel
theorem dX4_frame_64 : decode cX4_frame 64 = .ok (.goto 76, 3) := by decide +kernel
theorem dX4_frame_67 : decode cX4_frame 67 = .ok (.iload_n 1, 1) := by decide +kernel
theorem dX4_frame_68 : decode cX4_frame 68 = .ok (.sipush 128, 3) := by decide +kernel
theorem dX4_frame_71 : decode cX4_frame 71 = .ok (.if_icmp .ne 10, 3) := by decide +kernel
theorem dX4_frame_74 : decode cX4_frame 74 = .ok (.aload_n 0, 1) := by decide +kernel
theorem dX4_frame_75 : decode cX4_frame 75 = .ok (.invokevirtual 68, 3) := by decide +kernel
theorem dX4_frame_78 : decode cX4_frame 78 = .ok (.goto 62, 3) := by decide +kernel
theorem dX4_frame_81 : decode cX4_frame 81 = .ok (.iload_n 1, 1) := by decide +kernel
theorem dX4_frame_82 : decode cX4_frame 82 = .ok (.sipush 512, 3) := by decide +kernel
theorem dX4_frame_85 : decode cX4_frame 85 = .ok (.aload_n 0, 1) := by decide +kernel
theorem dX4_frame_86 : decode cX4_frame 86 = .ok (.getfield 16, 3) := by decide +kernel
theorem dX4_frame_89 : decode cX4_frame 89 = .ok (.iadd, 1) := by decide +kernel
theorem dX4_frame_90 : decode cX4_frame 90 = .ok (.if_icmp .ne 17, 3) := by decide +kernel
theorem dX4_frame_93 : decode cX4_frame 93 = .ok (.aload_n 0, 1) := by decide +kernel
theorem dX4_frame_94 : decode cX4_frame 94 = .ok (.iload_n 2, 1) := by decide +kernel
theorem dX4_frame_95 : decode cX4_frame 95 = .ok (.iload_n 3, 1) := by decide +kernel
theorem dX4_frame_96 : decode cX4_frame 96 = .ok (.iload 4, 2) := by decide +kernel
theorem dX4_frame_98 : decode cX4_frame 98 = .ok (.invokestatic 71, 3) := by decide +kernel
theorem dX4_frame_101 : decode cX4_frame 101 = .ok (.invokevirtual 75, 3) := by decide +kernel
theorem dX4_frame_104 : decode cX4_frame 104 = .ok (.goto 36, 3) := by decide +kernel
theorem dX4_frame_107 : decode cX4_frame 107 = .ok (.iload_n 1, 1) := by decide +kernel
theorem dX4_frame_108 : decode cX4_frame 108 = .ok (.sipush 1536, 3) := by decide +kernel
theorem dX4_frame_111 : decode cX4_frame 111 = .ok (.aload_n 0, 1) := by decide +kernel
theorem dX4_frame_112 : decode cX4_frame 112 = .ok (.getfield 16, 3) := by decide +kernel
theorem dX4_frame_115 : decode cX4_frame 115 = .ok (.iadd, 1) := by decide +kernel
theorem dX4_frame_116 : decode cX4_frame 116 = .ok (.if_icmp .ne 24, 3) := by decide +kernel
theorem dX4_frame_119 : decode cX4_frame 119 = .ok (.iload_n 2, 1) := by decide +kernel
theorem dX4_frame_120 : decode cX4_frame 120 = .ok (.bipush 8, 2) := by decide +kernel
theorem dX4_frame_122 : decode cX4_frame 122 = .ok (.if_icmp .ne 18, 3) := by decide +kernel
theorem dX4_frame_125 : decode cX4_frame 125 = .ok (.aload_n 0, 1) := by decide +kernel
theorem dX4_frame_126 : decode cX4_frame 126 = .ok (.getfield 79, 3) := by decide +kernel
theorem dX4_frame_129 : decode cX4_frame 129 = .ok (.iconst 4, 1) := by decide +kernel
theorem dX4_frame_130 : decode cX4_frame 130 = .ok (.if_icmp .eq 10, 3) := by decide +kernel
theorem dX4_frame_133 : decode cX4_frame 133 = .ok (.aload_n 0, 1) := by decide +kernel
theorem dX4_frame_134 : decode cX4_frame 134 = .ok (.iload_n 3, 1) := by decide +kernel
theorem dX4_frame_135 : decode cX4_frame 135 = .ok (.iload 4, 2) := by decide +kernel
theorem dX4_frame_137 : decode cX4_frame 137 = .ok (.invokevirtual 82, 3) := by decide +kernel
theorem dX4_frame_140 : decode cX4_frame 140 = .ok (.aload_n 0, 1) := by decide +kernel
theorem dX4_frame_141 : decode cX4_frame 141 = .ok (.invokevirtual 85, 3) := by decide +kernel
theorem dX4_frame_144 : decode cX4_frame 144 = .ok (.aload_n 0, 1) := by decide +kernel
theorem dX4_frame_145 : decode cX4_frame 145 = .ok (.getfield 44, 3) := by decide +kernel
theorem dX4_frame_148 : decode cX4_frame 148 = .ok (.getfield 61, 3) := by decide +kernel
theorem dX4_frame_151 : decode cX4_frame 151 = .ok (.iload 5, 2) := by decide +kernel
theorem dX4_frame_153 : decode cX4_frame 153 = .ok (.isub, 1) := by decide +kernel
theorem dX4_frame_154 : decode cX4_frame 154 = .ok (.ireturn, 1) := by decide +kernel
theorem dX4_command_0 : decode cX4_command 0 = .ok (.iload_n 2, 1) := by decide +kernel
theorem dX4_command_1 : decode cX4_command 1 = .ok (.ifCond .eq 12, 3) := by decide +kernel
theorem dX4_command_4 : decode cX4_command 4 = .ok (.iload_n 2, 1) := by decide +kernel
theorem dX4_command_5 : decode cX4_command 5 = .ok (.aload_n 0, 1) := by decide +kernel
theorem dX4_command_6 : decode cX4_command 6 = .ok (.getfield 16, 3) := by decide +kernel
theorem dX4_command_9 : decode cX4_command 9 = .ok (.if_icmp .eq 4, 3) := by decide +kernel
theorem dX4_command_12 : decode cX4_command 12 = .ok (.return_, 1) := by decide +kernel
theorem dX4_command_13 : decode cX4_command 13 = .ok (.iload_n 1, 1) := by decide +kernel
theorem dX4_command_14 : decode cX4_command 14 = .ok (.lookupswitch 109 #[(1, 50), (2, 57), (128, 72), (129, 81), (130, 95)], 50) := by decide +kernel
theorem dX4_command_64 : decode cX4_command 64 = .ok (.aload_n 0, 1) := by decide +kernel
theorem dX4_command_65 : decode cX4_command 65 = .ok (.invokevirtual 148, 3) := by decide +kernel
theorem dX4_command_68 : decode cX4_command 68 = .ok (.goto 55, 3) := by decide +kernel
theorem dX4_command_71 : decode cX4_command 71 = .ok (.aload_n 0, 1) := by decide +kernel
theorem dX4_command_72 : decode cX4_command 72 = .ok (.iconst 4, 1) := by decide +kernel
theorem dX4_command_73 : decode cX4_command 73 = .ok (.putfield 79, 3) := by decide +kernel
theorem dX4_command_76 : decode cX4_command 76 = .ok (.aload_n 0, 1) := by decide +kernel
theorem dX4_command_77 : decode cX4_command 77 = .ok (.getfield 51, 3) := by decide +kernel
theorem dX4_command_80 : decode cX4_command 80 = .ok (.invokevirtual 132, 3) := by decide +kernel
theorem dX4_command_83 : decode cX4_command 83 = .ok (.goto 40, 3) := by decide +kernel
theorem dX4_command_86 : decode cX4_command 86 = .ok (.aload_n 0, 1) := by decide +kernel
theorem dX4_command_87 : decode cX4_command 87 = .ok (.bipush 127, 2) := by decide +kernel
theorem dX4_command_89 : decode cX4_command 89 = .ok (.putfield 79, 3) := by decide +kernel
theorem dX4_command_92 : decode cX4_command 92 = .ok (.goto 31, 3) := by decide +kernel
theorem dX4_command_95 : decode cX4_command 95 = .ok (.aload_n 0, 1) := by decide +kernel
theorem dX4_command_96 : decode cX4_command 96 = .ok (.getfield 25, 3) := by decide +kernel
theorem dX4_command_99 : decode cX4_command 99 = .ok (.invokevirtual 151, 3) := by decide +kernel
theorem dX4_command_102 : decode cX4_command 102 = .ok (.aload_n 0, 1) := by decide +kernel
theorem dX4_command_103 : decode cX4_command 103 = .ok (.invokevirtual 55, 3) := by decide +kernel
theorem dX4_command_106 : decode cX4_command 106 = .ok (.goto 17, 3) := by decide +kernel
theorem dX4_command_109 : decode cX4_command 109 = .ok (.aload_n 0, 1) := by decide +kernel
theorem dX4_command_110 : decode cX4_command 110 = .ok (.getfield 25, 3) := by decide +kernel
theorem dX4_command_113 : decode cX4_command 113 = .ok (.invokevirtual 154, 3) := by decide +kernel
theorem dX4_command_116 : decode cX4_command 116 = .ok (.aload_n 0, 1) := by decide +kernel
theorem dX4_command_117 : decode cX4_command 117 = .ok (.invokevirtual 55, 3) := by decide +kernel
theorem dX4_command_120 : decode cX4_command 120 = .ok (.goto 3, 3) := by decide +kernel
theorem dX4_command_123 : decode cX4_command 123 = .ok (.return_, 1) := by decide +kernel
theorem dX4_run_0 : decode cX4_run 0 = .ok (.aload_n 0, 1) := by decide +kernel
theorem dX4_run_1 : decode cX4_run 1 = .ok (.getfield 79, 3) := by decide +kernel
theorem dX4_run_4 : decode cX4_run 4 = .ok (.iconst 5, 1) := by decide +kernel
theorem dX4_run_5 : decode cX4_run 5 = .ok (.if_icmp .ne 4, 3) := by decide +kernel
theorem dX4_run_8 : decode cX4_run 8 = .ok (.return_, 1) := by decide +kernel
theorem dX4_run_9 : decode cX4_run 9 = .ok (.aload_n 0, 1) := by decide +kernel
theorem dX4_run_10 : decode cX4_run 10 = .ok (.iconst 5, 1) := by decide +kernel
theorem dX4_run_11 : decode cX4_run 11 = .ok (.putfield 79, 3) := by decide +kernel
theorem dX4_run_14 : decode cX4_run 14 = .ok (.aload_n 0, 1) := by decide +kernel
theorem dX4_run_15 : decode cX4_run 15 = .ok (.iconst 0, 1) := by decide +kernel
theorem dX4_run_16 : decode cX4_run 16 = .ok (.putfield 135, 3) := by decide +kernel
theorem dX4_run_19 : decode cX4_run 19 = .ok (.aload_n 0, 1) := by decide +kernel
theorem dX4_run_20 : decode cX4_run 20 = .ok (.aload_n 0, 1) := by decide +kernel
theorem dX4_run_21 : decode cX4_run 21 = .ok (.getfield 38, 3) := by decide +kernel
theorem dX4_run_24 : decode cX4_run 24 = .ok (.invokevirtual 157, 3) := by decide +kernel
theorem dX4_run_27 : decode cX4_run 27 = .ok (.putfield 161, 3) := by decide +kernel
theorem dX4_run_30 : decode cX4_run 30 = .ok (.return_, 1) := by decide +kernel
theorem dX4_sync_0 : decode cX4_sync 0 = .ok (.aload_n 0, 1) := by decide +kernel
theorem dX4_sync_1 : decode cX4_sync 1 = .ok (.getfield 79, 3) := by decide +kernel
theorem dX4_sync_4 : decode cX4_sync 4 = .ok (.iconst 5, 1) := by decide +kernel
theorem dX4_sync_5 : decode cX4_sync 5 = .ok (.if_icmp .ne 13, 3) := by decide +kernel
theorem dX4_sync_8 : decode cX4_sync 8 = .ok (.aload_n 0, 1) := by decide +kernel
theorem dX4_sync_9 : decode cX4_sync 9 = .ok (.getfield 38, 3) := by decide +kernel
theorem dX4_sync_12 : decode cX4_sync 12 = .ok (.invokevirtual 165, 3) := by decide +kernel
theorem dX4_sync_15 : decode cX4_sync 15 = .ok (.ifCond .ne 4, 3) := by decide +kernel
theorem dX4_sync_18 : decode cX4_sync 18 = .ok (.return_, 1) := by decide +kernel
theorem dX4_sync_19 : decode cX4_sync 19 = .ok (.aload_n 0, 1) := by decide +kernel
theorem dX4_sync_20 : decode cX4_sync 20 = .ok (.getfield 25, 3) := by decide +kernel
theorem dX4_sync_23 : decode cX4_sync 23 = .ok (.bipush 8, 2) := by decide +kernel
theorem dX4_sync_25 : decode cX4_sync 25 = .ok (.iconst 0, 1) := by decide +kernel
theorem dX4_sync_26 : decode cX4_sync 26 = .ok (.invokevirtual 118, 3) := by decide +kernel
theorem dX4_sync_29 : decode cX4_sync 29 = .ok (.istore_n 1, 1) := by decide +kernel
theorem dX4_sync_30 : decode cX4_sync 30 = .ok (.iload_n 1, 1) := by decide +kernel
theorem dX4_sync_31 : decode cX4_sync 31 = .ok (.ifCond .ne 10, 3) := by decide +kernel
theorem dX4_sync_34 : decode cX4_sync 34 = .ok (.aload_n 0, 1) := by decide +kernel
theorem dX4_sync_35 : decode cX4_sync 35 = .ok (.invokevirtual 169, 3) := by decide +kernel
theorem dX4_sync_38 : decode cX4_sync 38 = .ok (.goto 37, 3) := by decide +kernel
theorem dX4_sync_41 : decode cX4_sync 41 = .ok (.iload_n 1, 1) := by decide +kernel
theorem dX4_sync_42 : decode cX4_sync 42 = .ok (.sipush 240, 3) := by decide +kernel
theorem dX4_sync_45 : decode cX4_sync 45 = .ok (.if_icmp .gt 30, 3) := by decide +kernel
theorem dX4_sync_48 : decode cX4_sync 48 = .ok (.aload_n 0, 1) := by decide +kernel
theorem dX4_sync_49 : decode cX4_sync 49 = .ok (.dup, 1) := by decide +kernel
theorem dX4_sync_50 : decode cX4_sync 50 = .ok (.getfield 135, 3) := by decide +kernel
theorem dX4_sync_53 : decode cX4_sync 53 = .ok (.iconst 1, 1) := by decide +kernel
theorem dX4_sync_54 : decode cX4_sync 54 = .ok (.iadd, 1) := by decide +kernel
theorem dX4_sync_55 : decode cX4_sync 55 = .ok (.putfield 135, 3) := by decide +kernel
theorem dX4_sync_58 : decode cX4_sync 58 = .ok (.aload_n 0, 1) := by decide +kernel
theorem dX4_sync_59 : decode cX4_sync 59 = .ok (.getfield 135, 3) := by decide +kernel
theorem dX4_sync_62 : decode cX4_sync 62 = .ok (.iload_n 1, 1) := by decide +kernel
theorem dX4_sync_63 : decode cX4_sync 63 = .ok (.if_icmp .lt 12, 3) := by decide +kernel
theorem dX4_sync_66 : decode cX4_sync 66 = .ok (.aload_n 0, 1) := by decide +kernel
theorem dX4_sync_67 : decode cX4_sync 67 = .ok (.iconst 0, 1) := by decide +kernel
theorem dX4_sync_68 : decode cX4_sync 68 = .ok (.putfield 135, 3) := by decide +kernel
theorem dX4_sync_71 : decode cX4_sync 71 = .ok (.aload_n 0, 1) := by decide +kernel
theorem dX4_sync_72 : decode cX4_sync 72 = .ok (.invokevirtual 172, 3) := by decide +kernel
theorem dX4_sync_75 : decode cX4_sync 75 = .ok (.return_, 1) := by decide +kernel
theorem dX4_giveIfNew_0 : decode cX4_giveIfNew 0 = .ok (.aload_n 0, 1) := by decide +kernel
theorem dX4_giveIfNew_1 : decode cX4_giveIfNew 1 = .ok (.getfield 38, 3) := by decide +kernel
theorem dX4_giveIfNew_4 : decode cX4_giveIfNew 4 = .ok (.invokevirtual 157, 3) := by decide +kernel
theorem dX4_giveIfNew_7 : decode cX4_giveIfNew 7 = .ok (.aload_n 0, 1) := by decide +kernel
theorem dX4_giveIfNew_8 : decode cX4_giveIfNew 8 = .ok (.getfield 161, 3) := by decide +kernel
theorem dX4_giveIfNew_11 : decode cX4_giveIfNew 11 = .ok (.lcmp, 1) := by decide +kernel
theorem dX4_giveIfNew_12 : decode cX4_giveIfNew 12 = .ok (.ifCond .eq 7, 3) := by decide +kernel
theorem dX4_giveIfNew_15 : decode cX4_giveIfNew 15 = .ok (.aload_n 0, 1) := by decide +kernel
theorem dX4_giveIfNew_16 : decode cX4_giveIfNew 16 = .ok (.invokevirtual 172, 3) := by decide +kernel
theorem dX4_giveIfNew_19 : decode cX4_giveIfNew 19 = .ok (.return_, 1) := by decide +kernel
theorem dX4_give_0 : decode cX4_give 0 = .ok (.aload_n 0, 1) := by decide +kernel
theorem dX4_give_1 : decode cX4_give 1 = .ok (.aload_n 0, 1) := by decide +kernel
theorem dX4_give_2 : decode cX4_give 2 = .ok (.getfield 38, 3) := by decide +kernel
theorem dX4_give_5 : decode cX4_give 5 = .ok (.invokevirtual 157, 3) := by decide +kernel
theorem dX4_give_8 : decode cX4_give 8 = .ok (.putfield 161, 3) := by decide +kernel
theorem dX4_give_11 : decode cX4_give 11 = .ok (.aload_n 0, 1) := by decide +kernel
theorem dX4_give_12 : decode cX4_give 12 = .ok (.getfield 44, 3) := by decide +kernel
theorem dX4_give_15 : decode cX4_give 15 = .ok (.sipush 384, 3) := by decide +kernel
theorem dX4_give_18 : decode cX4_give 18 = .ok (.aload_n 0, 1) := by decide +kernel
theorem dX4_give_19 : decode cX4_give 19 = .ok (.getfield 16, 3) := by decide +kernel
theorem dX4_give_22 : decode cX4_give 22 = .ok (.iadd, 1) := by decide +kernel
theorem dX4_give_23 : decode cX4_give 23 = .ok (.aload_n 0, 1) := by decide +kernel
theorem dX4_give_24 : decode cX4_give 24 = .ok (.getfield 38, 3) := by decide +kernel
theorem dX4_give_27 : decode cX4_give 27 = .ok (.invokevirtual 175, 3) := by decide +kernel
theorem dX4_give_30 : decode cX4_give 30 = .ok (.aload_n 0, 1) := by decide +kernel
theorem dX4_give_31 : decode cX4_give 31 = .ok (.getfield 161, 3) := by decide +kernel
theorem dX4_give_34 : decode cX4_give 34 = .ok (.invokevirtual 141, 3) := by decide +kernel
theorem dX4_give_37 : decode cX4_give 37 = .ok (.return_, 1) := by decide +kernel
theorem dX4_take_0 : decode cX4_take 0 = .ok (.aload_n 0, 1) := by decide +kernel
theorem dX4_take_1 : decode cX4_take 1 = .ok (.getfield 79, 3) := by decide +kernel
theorem dX4_take_4 : decode cX4_take 4 = .ok (.iconst 5, 1) := by decide +kernel
theorem dX4_take_5 : decode cX4_take 5 = .ok (.if_icmp .ne 13, 3) := by decide +kernel
theorem dX4_take_8 : decode cX4_take 8 = .ok (.aload_n 0, 1) := by decide +kernel
theorem dX4_take_9 : decode cX4_take 9 = .ok (.getfield 34, 3) := by decide +kernel
theorem dX4_take_12 : decode cX4_take 12 = .ok (.invokevirtual 165, 3) := by decide +kernel
theorem dX4_take_15 : decode cX4_take 15 = .ok (.ifCond .ne 4, 3) := by decide +kernel
theorem dX4_take_18 : decode cX4_take 18 = .ok (.return_, 1) := by decide +kernel
theorem dX4_take_19 : decode cX4_take 19 = .ok (.iload_n 1, 1) := by decide +kernel
theorem dX4_take_20 : decode cX4_take 20 = .ok (.aload_n 0, 1) := by decide +kernel
theorem dX4_take_21 : decode cX4_take 21 = .ok (.getfield 34, 3) := by decide +kernel
theorem dX4_take_24 : decode cX4_take 24 = .ok (.invokevirtual 175, 3) := by decide +kernel
theorem dX4_take_27 : decode cX4_take 27 = .ok (.if_icmp .lt 14, 3) := by decide +kernel
theorem dX4_take_30 : decode cX4_take 30 = .ok (.aload_n 0, 1) := by decide +kernel
end
section
theorem dX4_take_31 : decode cX4_take 31 = .ok (.getfield 34, 3) := by decide +kernel
theorem dX4_take_34 : decode cX4_take 34 = .ok (.lload_n 2, 1) := by decide +kernel
theorem dX4_take_35 : decode cX4_take 35 = .ok (.invokevirtual 178, 3) := by decide +kernel
theorem dX4_take_38 : decode cX4_take 38 = .ok (.goto 28, 3) := by decide +kernel
theorem dX4_take_41 : decode cX4_take 41 = .ok (.aload_n 0, 1) := by decide +kernel
theorem dX4_take_42 : decode cX4_take 42 = .ok (.getfield 25, 3) := by decide +kernel
theorem dX4_take_45 : decode cX4_take 45 = .ok (.iconst 1, 1) := by decide +kernel
theorem dX4_take_46 : decode cX4_take 46 = .ok (.iconst 0, 1) := by decide +kernel
theorem dX4_take_47 : decode cX4_take 47 = .ok (.invokevirtual 118, 3) := by decide +kernel
theorem dX4_take_50 : decode cX4_take 50 = .ok (.istore 4, 2) := by decide +kernel
theorem dX4_take_52 : decode cX4_take 52 = .ok (.aload_n 0, 1) := by decide +kernel
theorem dX4_take_53 : decode cX4_take 53 = .ok (.getfield 25, 3) := by decide +kernel
theorem dX4_take_56 : decode cX4_take 56 = .ok (.iconst 1, 1) := by decide +kernel
theorem dX4_take_57 : decode cX4_take 57 = .ok (.iload 4, 2) := by decide +kernel
theorem dX4_take_59 : decode cX4_take 59 = .ok (.bipush 16, 2) := by decide +kernel
theorem dX4_take_61 : decode cX4_take 61 = .ok (.ior, 1) := by decide +kernel
theorem dX4_take_62 : decode cX4_take 62 = .ok (.i2l, 1) := by decide +kernel
theorem dX4_take_63 : decode cX4_take 63 = .ok (.invokevirtual 115, 3) := by decide +kernel
theorem dX4_take_66 : decode cX4_take 66 = .ok (.return_, 1) := by decide +kernel
theorem dX4_request_0 : decode cX4_request 0 = .ok (.iload_n 1, 1) := by decide +kernel
theorem dX4_request_1 : decode cX4_request 1 = .ok (.sipush 255, 3) := by decide +kernel
theorem dX4_request_4 : decode cX4_request 4 = .ok (.iand, 1) := by decide +kernel
theorem dX4_request_5 : decode cX4_request 5 = .ok (.istore_n 3, 1) := by decide +kernel
theorem dX4_request_6 : decode cX4_request 6 = .ok (.iload_n 1, 1) := by decide +kernel
theorem dX4_request_7 : decode cX4_request 7 = .ok (.bipush 8, 2) := by decide +kernel
theorem dX4_request_9 : decode cX4_request 9 = .ok (.iushr, 1) := by decide +kernel
theorem dX4_request_10 : decode cX4_request 10 = .ok (.istore 4, 2) := by decide +kernel
theorem dX4_request_12 : decode cX4_request 12 = .ok (.iload_n 3, 1) := by decide +kernel
theorem dX4_request_13 : decode cX4_request 13 = .ok (.iconst 5, 1) := by decide +kernel
theorem dX4_request_14 : decode cX4_request 14 = .ok (.ishr, 1) := by decide +kernel
theorem dX4_request_15 : decode cX4_request 15 = .ok (.tableswitch 87 0 4 #[33, 49, 60, 69, 77], 33) := by decide +kernel
theorem dX4_request_48 : decode cX4_request 48 = .ok (.aload_n 0, 1) := by decide +kernel
theorem dX4_request_49 : decode cX4_request 49 = .ok (.iload_n 3, 1) := by decide +kernel
theorem dX4_request_50 : decode cX4_request 50 = .ok (.iload_n 1, 1) := by decide +kernel
theorem dX4_request_51 : decode cX4_request 51 = .ok (.iload_n 2, 1) := by decide +kernel
theorem dX4_request_52 : decode cX4_request 52 = .ok (.invokestatic 71, 3) := by decide +kernel
theorem dX4_request_55 : decode cX4_request 55 = .ok (.bipush 8, 2) := by decide +kernel
theorem dX4_request_57 : decode cX4_request 57 = .ok (.lushr, 1) := by decide +kernel
theorem dX4_request_58 : decode cX4_request 58 = .ok (.invokevirtual 182, 3) := by decide +kernel
theorem dX4_request_61 : decode cX4_request 61 = .ok (.goto 49, 3) := by decide +kernel
theorem dX4_request_64 : decode cX4_request 64 = .ok (.aload_n 0, 1) := by decide +kernel
theorem dX4_request_65 : decode cX4_request 65 = .ok (.iload_n 3, 1) := by decide +kernel
theorem dX4_request_66 : decode cX4_request 66 = .ok (.iload 4, 2) := by decide +kernel
theorem dX4_request_68 : decode cX4_request 68 = .ok (.iload_n 2, 1) := by decide +kernel
theorem dX4_request_69 : decode cX4_request 69 = .ok (.invokevirtual 185, 3) := by decide +kernel
theorem dX4_request_72 : decode cX4_request 72 = .ok (.goto 38, 3) := by decide +kernel
theorem dX4_request_75 : decode cX4_request 75 = .ok (.aload_n 0, 1) := by decide +kernel
theorem dX4_request_76 : decode cX4_request 76 = .ok (.iload 4, 2) := by decide +kernel
theorem dX4_request_78 : decode cX4_request 78 = .ok (.invokevirtual 189, 3) := by decide +kernel
theorem dX4_request_81 : decode cX4_request 81 = .ok (.goto 29, 3) := by decide +kernel
theorem dX4_request_84 : decode cX4_request 84 = .ok (.aload_n 0, 1) := by decide +kernel
theorem dX4_request_85 : decode cX4_request 85 = .ok (.iload_n 3, 1) := by decide +kernel
theorem dX4_request_86 : decode cX4_request 86 = .ok (.invokevirtual 193, 3) := by decide +kernel
theorem dX4_request_89 : decode cX4_request 89 = .ok (.goto 21, 3) := by decide +kernel
theorem dX4_request_92 : decode cX4_request 92 = .ok (.aload_n 0, 1) := by decide +kernel
theorem dX4_request_93 : decode cX4_request 93 = .ok (.getfield 51, 3) := by decide +kernel
theorem dX4_request_96 : decode cX4_request 96 = .ok (.invokevirtual 132, 3) := by decide +kernel
theorem dX4_request_99 : decode cX4_request 99 = .ok (.goto 11, 3) := by decide +kernel
theorem dX4_request_102 : decode cX4_request 102 = .ok (.aload_n 0, 1) := by decide +kernel
theorem dX4_request_103 : decode cX4_request 103 = .ok (.iload 4, 2) := by decide +kernel
theorem dX4_request_105 : decode cX4_request 105 = .ok (.ldc 196, 2) := by decide +kernel
theorem dX4_request_107 : decode cX4_request 107 = .ok (.invokevirtual 102, 3) := by decide +kernel
theorem dX4_request_110 : decode cX4_request 110 = .ok (.return_, 1) := by decide +kernel
theorem dX4_writeSegment_0 : decode cX4_writeSegment 0 = .ok (.iload_n 1, 1) := by decide +kernel
theorem dX4_writeSegment_1 : decode cX4_writeSegment 1 = .ok (.iconst 1, 1) := by decide +kernel
theorem dX4_writeSegment_2 : decode cX4_writeSegment 2 = .ok (.iand, 1) := by decide +kernel
theorem dX4_writeSegment_3 : decode cX4_writeSegment 3 = .ok (.ifCond .eq 7, 3) := by decide +kernel
theorem dX4_writeSegment_6 : decode cX4_writeSegment 6 = .ok (.iconst 1, 1) := by decide +kernel
theorem dX4_writeSegment_7 : decode cX4_writeSegment 7 = .ok (.goto 4, 3) := by decide +kernel
theorem dX4_writeSegment_10 : decode cX4_writeSegment 10 = .ok (.iconst 0, 1) := by decide +kernel
theorem dX4_writeSegment_11 : decode cX4_writeSegment 11 = .ok (.istore 4, 2) := by decide +kernel
theorem dX4_writeSegment_13 : decode cX4_writeSegment 13 = .ok (.aload_n 0, 1) := by decide +kernel
theorem dX4_writeSegment_14 : decode cX4_writeSegment 14 = .ok (.iload_n 1, 1) := by decide +kernel
theorem dX4_writeSegment_15 : decode cX4_writeSegment 15 = .ok (.iconst 1, 1) := by decide +kernel
theorem dX4_writeSegment_16 : decode cX4_writeSegment 16 = .ok (.invokevirtual 226, 3) := by decide +kernel
theorem dX4_writeSegment_19 : decode cX4_writeSegment 19 = .ok (.istore 5, 2) := by decide +kernel
theorem dX4_writeSegment_21 : decode cX4_writeSegment 21 = .ok (.iload 5, 2) := by decide +kernel
theorem dX4_writeSegment_23 : decode cX4_writeSegment 23 = .ok (.ifCond .ne 27, 3) := by decide +kernel
theorem dX4_writeSegment_26 : decode cX4_writeSegment 26 = .ok (.aload_n 0, 1) := by decide +kernel
theorem dX4_writeSegment_27 : decode cX4_writeSegment 27 = .ok (.getfield 51, 3) := by decide +kernel
theorem dX4_writeSegment_30 : decode cX4_writeSegment 30 = .ok (.lload_n 2, 1) := by decide +kernel
theorem dX4_writeSegment_31 : decode cX4_writeSegment 31 = .ok (.bipush 7, 2) := by decide +kernel
theorem dX4_writeSegment_33 : decode cX4_writeSegment 33 = .ok (.iload_n 1, 1) := by decide +kernel
theorem dX4_writeSegment_34 : decode cX4_writeSegment 34 = .ok (.iconst 1, 1) := by decide +kernel
theorem dX4_writeSegment_35 : decode cX4_writeSegment 35 = .ok (.ishr, 1) := by decide +kernel
theorem dX4_writeSegment_36 : decode cX4_writeSegment 36 = .ok (.bipush 7, 2) := by decide +kernel
theorem dX4_writeSegment_38 : decode cX4_writeSegment 38 = .ok (.iand, 1) := by decide +kernel
theorem dX4_writeSegment_39 : decode cX4_writeSegment 39 = .ok (.isub, 1) := by decide +kernel
theorem dX4_writeSegment_40 : decode cX4_writeSegment 40 = .ok (.invokevirtual 211, 3) := by decide +kernel
theorem dX4_writeSegment_43 : decode cX4_writeSegment 43 = .ok (.ifCond .ne 7, 3) := by decide +kernel
theorem dX4_writeSegment_46 : decode cX4_writeSegment 46 = .ok (.ldc 230, 2) := by decide +kernel
theorem dX4_writeSegment_48 : decode cX4_writeSegment 48 = .ok (.istore 5, 2) := by decide +kernel
theorem dX4_writeSegment_50 : decode cX4_writeSegment 50 = .ok (.iload 5, 2) := by decide +kernel
theorem dX4_writeSegment_52 : decode cX4_writeSegment 52 = .ok (.ifCond .ne 43, 3) := by decide +kernel
theorem dX4_writeSegment_55 : decode cX4_writeSegment 55 = .ok (.iload 4, 2) := by decide +kernel
theorem dX4_writeSegment_57 : decode cX4_writeSegment 57 = .ok (.ifCond .eq 38, 3) := by decide +kernel
theorem dX4_writeSegment_60 : decode cX4_writeSegment 60 = .ok (.aload_n 0, 1) := by decide +kernel
theorem dX4_writeSegment_61 : decode cX4_writeSegment 61 = .ok (.getfield 51, 3) := by decide +kernel
theorem dX4_writeSegment_64 : decode cX4_writeSegment 64 = .ok (.invokevirtual 231, 3) := by decide +kernel
theorem dX4_writeSegment_67 : decode cX4_writeSegment 67 = .ok (.ifCond .le 8, 3) := by decide +kernel
theorem dX4_writeSegment_70 : decode cX4_writeSegment 70 = .ok (.ldc 234, 2) := by decide +kernel
theorem dX4_writeSegment_72 : decode cX4_writeSegment 72 = .ok (.goto 21, 3) := by decide +kernel
theorem dX4_writeSegment_75 : decode cX4_writeSegment 75 = .ok (.aload_n 0, 1) := by decide +kernel
theorem dX4_writeSegment_76 : decode cX4_writeSegment 76 = .ok (.aload_n 0, 1) := by decide +kernel
theorem dX4_writeSegment_77 : decode cX4_writeSegment 77 = .ok (.getfield 51, 3) := by decide +kernel
theorem dX4_writeSegment_80 : decode cX4_writeSegment 80 = .ok (.getfield 235, 3) := by decide +kernel
theorem dX4_writeSegment_83 : decode cX4_writeSegment 83 = .ok (.aload_n 0, 1) := by decide +kernel
theorem dX4_writeSegment_84 : decode cX4_writeSegment 84 = .ok (.getfield 51, 3) := by decide +kernel
theorem dX4_writeSegment_87 : decode cX4_writeSegment 87 = .ok (.invokevirtual 215, 3) := by decide +kernel
theorem dX4_writeSegment_90 : decode cX4_writeSegment 90 = .ok (.invokevirtual 217, 3) := by decide +kernel
theorem dX4_writeSegment_93 : decode cX4_writeSegment 93 = .ok (.istore 5, 2) := by decide +kernel
theorem dX4_writeSegment_95 : decode cX4_writeSegment 95 = .ok (.iload 5, 2) := by decide +kernel
theorem dX4_writeSegment_97 : decode cX4_writeSegment 97 = .ok (.ifCond .eq 17, 3) := by decide +kernel
theorem dX4_writeSegment_100 : decode cX4_writeSegment 100 = .ok (.aload_n 0, 1) := by decide +kernel
theorem dX4_writeSegment_101 : decode cX4_writeSegment 101 = .ok (.aload_n 0, 1) := by decide +kernel
theorem dX4_writeSegment_102 : decode cX4_writeSegment 102 = .ok (.getfield 51, 3) := by decide +kernel
theorem dX4_writeSegment_105 : decode cX4_writeSegment 105 = .ok (.getfield 98, 3) := by decide +kernel
theorem dX4_writeSegment_108 : decode cX4_writeSegment 108 = .ok (.iload 5, 2) := by decide +kernel
theorem dX4_writeSegment_110 : decode cX4_writeSegment 110 = .ok (.invokevirtual 102, 3) := by decide +kernel
theorem dX4_writeSegment_113 : decode cX4_writeSegment 113 = .ok (.return_, 1) := by decide +kernel
theorem dX4_writeSegment_114 : decode cX4_writeSegment 114 = .ok (.iload 4, 2) := by decide +kernel
theorem dX4_writeSegment_116 : decode cX4_writeSegment 116 = .ok (.ifCond .eq 10, 3) := by decide +kernel
theorem dX4_writeSegment_119 : decode cX4_writeSegment 119 = .ok (.aload_n 0, 1) := by decide +kernel
theorem dX4_writeSegment_120 : decode cX4_writeSegment 120 = .ok (.invokevirtual 220, 3) := by decide +kernel
theorem dX4_writeSegment_123 : decode cX4_writeSegment 123 = .ok (.goto 10, 3) := by decide +kernel
theorem dX4_writeSegment_126 : decode cX4_writeSegment 126 = .ok (.aload_n 0, 1) := by decide +kernel
theorem dX4_writeSegment_127 : decode cX4_writeSegment 127 = .ok (.getfield 51, 3) := by decide +kernel
theorem dX4_writeSegment_130 : decode cX4_writeSegment 130 = .ok (.invokevirtual 238, 3) := by decide +kernel
theorem dX4_writeSegment_133 : decode cX4_writeSegment 133 = .ok (.aload_n 0, 1) := by decide +kernel
theorem dX4_writeSegment_134 : decode cX4_writeSegment 134 = .ok (.bipush 32, 2) := by decide +kernel
theorem dX4_writeSegment_136 : decode cX4_writeSegment 136 = .ok (.iload_n 1, 1) := by decide +kernel
theorem dX4_writeSegment_137 : decode cX4_writeSegment 137 = .ok (.bipush 16, 2) := by decide +kernel
theorem dX4_writeSegment_139 : decode cX4_writeSegment 139 = .ok (.iand, 1) := by decide +kernel
theorem dX4_writeSegment_140 : decode cX4_writeSegment 140 = .ok (.iadd, 1) := by decide +kernel
theorem dX4_writeSegment_141 : decode cX4_writeSegment 141 = .ok (.iconst 0, 1) := by decide +kernel
theorem dX4_writeSegment_142 : decode cX4_writeSegment 142 = .ok (.iconst 0, 1) := by decide +kernel
theorem dX4_writeSegment_143 : decode cX4_writeSegment 143 = .ok (.invokevirtual 223, 3) := by decide +kernel
theorem dX4_writeSegment_146 : decode cX4_writeSegment 146 = .ok (.return_, 1) := by decide +kernel
theorem dX4_segmentFault_0 : decode cX4_segmentFault 0 = .ok (.aload_n 0, 1) := by decide +kernel
theorem dX4_segmentFault_1 : decode cX4_segmentFault 1 = .ok (.getfield 51, 3) := by decide +kernel
theorem dX4_segmentFault_4 : decode cX4_segmentFault 4 = .ok (.getfield 91, 3) := by decide +kernel
theorem dX4_segmentFault_7 : decode cX4_segmentFault 7 = .ok (.ifCond .eq 14, 3) := by decide +kernel
theorem dX4_segmentFault_10 : decode cX4_segmentFault 10 = .ok (.aload_n 0, 1) := by decide +kernel
theorem dX4_segmentFault_11 : decode cX4_segmentFault 11 = .ok (.getfield 51, 3) := by decide +kernel
theorem dX4_segmentFault_14 : decode cX4_segmentFault 14 = .ok (.getfield 257, 3) := by decide +kernel
theorem dX4_segmentFault_17 : decode cX4_segmentFault 17 = .ok (.iload_n 2, 1) := by decide +kernel
theorem dX4_segmentFault_18 : decode cX4_segmentFault 18 = .ok (.if_icmp .eq 6, 3) := by decide +kernel
theorem dX4_segmentFault_21 : decode cX4_segmentFault 21 = .ok (.ldc 196, 2) := by decide +kernel
theorem dX4_segmentFault_23 : decode cX4_segmentFault 23 = .ok (.ireturn, 1) := by decide +kernel
theorem dX4_segmentFault_24 : decode cX4_segmentFault 24 = .ok (.iload_n 1, 1) := by decide +kernel
theorem dX4_segmentFault_25 : decode cX4_segmentFault 25 = .ok (.bipush 16, 2) := by decide +kernel
theorem dX4_segmentFault_27 : decode cX4_segmentFault 27 = .ok (.iand, 1) := by decide +kernel
theorem dX4_segmentFault_28 : decode cX4_segmentFault 28 = .ok (.aload_n 0, 1) := by decide +kernel
theorem dX4_segmentFault_29 : decode cX4_segmentFault 29 = .ok (.getfield 51, 3) := by decide +kernel
theorem dX4_segmentFault_32 : decode cX4_segmentFault 32 = .ok (.getfield 260, 3) := by decide +kernel
theorem dX4_segmentFault_35 : decode cX4_segmentFault 35 = .ok (.if_icmp .ne 7, 3) := by decide +kernel
theorem dX4_segmentFault_38 : decode cX4_segmentFault 38 = .ok (.iconst 0, 1) := by decide +kernel
theorem dX4_segmentFault_39 : decode cX4_segmentFault 39 = .ok (.goto 6, 3) := by decide +kernel
theorem dX4_segmentFault_42 : decode cX4_segmentFault 42 = .ok (.ldc_w 263, 3) := by decide +kernel
theorem dX4_segmentFault_45 : decode cX4_segmentFault 45 = .ok (.ireturn, 1) := by decide +kernel
theorem dX4_storeFault_0 : decode cX4_storeFault 0 = .ok (.aload_n 0, 1) := by decide +kernel
theorem dX4_storeFault_1 : decode cX4_storeFault 1 = .ok (.getfield 34, 3) := by decide +kernel
theorem dX4_storeFault_4 : decode cX4_storeFault 4 = .ok (.iload_n 1, 1) := by decide +kernel
theorem dX4_storeFault_5 : decode cX4_storeFault 5 = .ok (.invokevirtual 264, 3) := by decide +kernel
theorem dX4_storeFault_8 : decode cX4_storeFault 8 = .ok (.ifCond .eq 10, 3) := by decide +kernel
theorem dX4_storeFault_11 : decode cX4_storeFault 11 = .ok (.aload_n 0, 1) := by decide +kernel
theorem dX4_storeFault_12 : decode cX4_storeFault 12 = .ok (.getfield 34, 3) := by decide +kernel
theorem dX4_storeFault_15 : decode cX4_storeFault 15 = .ok (.goto 7, 3) := by decide +kernel
theorem dX4_storeFault_18 : decode cX4_storeFault 18 = .ok (.aload_n 0, 1) := by decide +kernel
theorem dX4_storeFault_19 : decode cX4_storeFault 19 = .ok (.getfield 38, 3) := by decide +kernel
theorem dX4_storeFault_22 : decode cX4_storeFault 22 = .ok (.astore_n 3, 1) := by decide +kernel
theorem dX4_storeFault_23 : decode cX4_storeFault 23 = .ok (.aload_n 3, 1) := by decide +kernel
theorem dX4_storeFault_24 : decode cX4_storeFault 24 = .ok (.iload_n 1, 1) := by decide +kernel
theorem dX4_storeFault_25 : decode cX4_storeFault 25 = .ok (.invokevirtual 264, 3) := by decide +kernel
theorem dX4_storeFault_28 : decode cX4_storeFault 28 = .ok (.ifCond .eq 38, 3) := by decide +kernel
theorem dX4_storeFault_31 : decode cX4_storeFault 31 = .ok (.aload_n 0, 1) := by decide +kernel
theorem dX4_storeFault_32 : decode cX4_storeFault 32 = .ok (.getfield 79, 3) := by decide +kernel
theorem dX4_storeFault_35 : decode cX4_storeFault 35 = .ok (.bipush 127, 2) := by decide +kernel
theorem dX4_storeFault_37 : decode cX4_storeFault 37 = .ok (.if_icmp .eq 7, 3) := by decide +kernel
theorem dX4_storeFault_40 : decode cX4_storeFault 40 = .ok (.ldc_w 267, 3) := by decide +kernel
theorem dX4_storeFault_43 : decode cX4_storeFault 43 = .ok (.ireturn, 1) := by decide +kernel
theorem dX4_storeFault_44 : decode cX4_storeFault 44 = .ok (.aload_n 3, 1) := by decide +kernel
theorem dX4_storeFault_45 : decode cX4_storeFault 45 = .ok (.iload_n 1, 1) := by decide +kernel
theorem dX4_storeFault_46 : decode cX4_storeFault 46 = .ok (.invokevirtual 268, 3) := by decide +kernel
theorem dX4_storeFault_49 : decode cX4_storeFault 49 = .ok (.ifCond .eq 11, 3) := by decide +kernel
theorem dX4_storeFault_52 : decode cX4_storeFault 52 = .ok (.aload_n 3, 1) := by decide +kernel
theorem dX4_storeFault_53 : decode cX4_storeFault 53 = .ok (.iload_n 2, 1) := by decide +kernel
theorem dX4_storeFault_54 : decode cX4_storeFault 54 = .ok (.invokevirtual 271, 3) := by decide +kernel
theorem dX4_storeFault_57 : decode cX4_storeFault 57 = .ok (.goto 8, 3) := by decide +kernel
theorem dX4_storeFault_60 : decode cX4_storeFault 60 = .ok (.aload_n 3, 1) := by decide +kernel
theorem dX4_storeFault_61 : decode cX4_storeFault 61 = .ok (.iload_n 2, 1) := by decide +kernel
theorem dX4_storeFault_62 : decode cX4_storeFault 62 = .ok (.invokevirtual 274, 3) := by decide +kernel
theorem dX4_storeFault_65 : decode cX4_storeFault 65 = .ok (.ireturn, 1) := by decide +kernel
theorem dX4_storeFault_66 : decode cX4_storeFault 66 = .ok (.iload_n 2, 1) := by decide +kernel
theorem dX4_storeFault_67 : decode cX4_storeFault 67 = .ok (.sipush 240, 3) := by decide +kernel
theorem dX4_storeFault_70 : decode cX4_storeFault 70 = .ok (.if_icmp .le 14, 3) := by decide +kernel
theorem dX4_storeFault_73 : decode cX4_storeFault 73 = .ok (.iload_n 2, 1) := by decide +kernel
theorem dX4_storeFault_74 : decode cX4_storeFault 74 = .ok (.sipush 254, 3) := by decide +kernel
theorem dX4_storeFault_77 : decode cX4_storeFault 77 = .ok (.if_icmp .ge 7, 3) := by decide +kernel
theorem dX4_storeFault_80 : decode cX4_storeFault 80 = .ok (.iconst 1, 1) := by decide +kernel
theorem dX4_storeFault_81 : decode cX4_storeFault 81 = .ok (.goto 4, 3) := by decide +kernel
theorem dX4_storeFault_84 : decode cX4_storeFault 84 = .ok (.iconst 0, 1) := by decide +kernel
theorem dX4_storeFault_85 : decode cX4_storeFault 85 = .ok (.istore 4, 2) := by decide +kernel
theorem dX4_storeFault_87 : decode cX4_storeFault 87 = .ok (.iload_n 1, 1) := by decide +kernel
theorem dX4_storeFault_88 : decode cX4_storeFault 88 = .ok (.bipush 8, 2) := by decide +kernel
theorem dX4_storeFault_90 : decode cX4_storeFault 90 = .ok (.if_icmp .ne 14, 3) := by decide +kernel
theorem dX4_storeFault_93 : decode cX4_storeFault 93 = .ok (.iload 4, 2) := by decide +kernel
theorem dX4_storeFault_95 : decode cX4_storeFault 95 = .ok (.ifCond .eq 9, 3) := by decide +kernel
theorem dX4_storeFault_98 : decode cX4_storeFault 98 = .ok (.ldc_w 277, 3) := by decide +kernel
theorem dX4_storeFault_101 : decode cX4_storeFault 101 = .ok (.goto 4, 3) := by decide +kernel
theorem dX4_storeFault_104 : decode cX4_storeFault 104 = .ok (.iconst 0, 1) := by decide +kernel
theorem dX4_storeFault_105 : decode cX4_storeFault 105 = .ok (.ireturn, 1) := by decide +kernel
theorem dX4_store_0 : decode cX4_store 0 = .ok (.aload_n 0, 1) := by decide +kernel
theorem dX4_store_1 : decode cX4_store 1 = .ok (.getfield 51, 3) := by decide +kernel
theorem dX4_store_4 : decode cX4_store 4 = .ok (.getfield 235, 3) := by decide +kernel
theorem dX4_store_7 : decode cX4_store 7 = .ok (.istore_n 1, 1) := by decide +kernel
theorem dX4_store_8 : decode cX4_store 8 = .ok (.aload_n 0, 1) := by decide +kernel
theorem dX4_store_9 : decode cX4_store 9 = .ok (.getfield 25, 3) := by decide +kernel
theorem dX4_store_12 : decode cX4_store 12 = .ok (.iload_n 1, 1) := by decide +kernel
theorem dX4_store_13 : decode cX4_store 13 = .ok (.aload_n 0, 1) := by decide +kernel
theorem dX4_store_14 : decode cX4_store 14 = .ok (.getfield 51, 3) := by decide +kernel
theorem dX4_store_17 : decode cX4_store 17 = .ok (.getfield 278, 3) := by decide +kernel
theorem dX4_store_20 : decode cX4_store 20 = .ok (.invokevirtual 282, 3) := by decide +kernel
theorem dX4_store_23 : decode cX4_store 23 = .ok (.iload_n 1, 1) := by decide +kernel
theorem dX4_store_24 : decode cX4_store 24 = .ok (.bipush 8, 2) := by decide +kernel
theorem dX4_store_26 : decode cX4_store 26 = .ok (.if_icmp .ne 11, 3) := by decide +kernel
theorem dX4_store_29 : decode cX4_store 29 = .ok (.aload_n 0, 1) := by decide +kernel
theorem dX4_store_30 : decode cX4_store 30 = .ok (.iconst 0, 1) := by decide +kernel
theorem dX4_store_31 : decode cX4_store 31 = .ok (.putfield 135, 3) := by decide +kernel
theorem dX4_store_34 : decode cX4_store 34 = .ok (.goto 13, 3) := by decide +kernel
theorem dX4_store_37 : decode cX4_store 37 = .ok (.iload_n 1, 1) := by decide +kernel
theorem dX4_store_38 : decode cX4_store 38 = .ok (.iconst 2, 1) := by decide +kernel
theorem dX4_store_39 : decode cX4_store 39 = .ok (.if_icmp .ne 8, 3) := by decide +kernel
theorem dX4_store_42 : decode cX4_store 42 = .ok (.aload_n 0, 1) := by decide +kernel
theorem dX4_store_43 : decode cX4_store 43 = .ok (.iconst 0, 1) := by decide +kernel
theorem dX4_store_44 : decode cX4_store 44 = .ok (.putfield 138, 3) := by decide +kernel
theorem dX4_store_47 : decode cX4_store 47 = .ok (.aload_n 0, 1) := by decide +kernel
theorem dX4_store_48 : decode cX4_store 48 = .ok (.getfield 51, 3) := by decide +kernel
theorem dX4_store_51 : decode cX4_store 51 = .ok (.invokevirtual 132, 3) := by decide +kernel
theorem dX4_store_54 : decode cX4_store 54 = .ok (.return_, 1) := by decide +kernel
theorem dX4_write_0 : decode cX4_write 0 = .ok (.aload_n 0, 1) := by decide +kernel
theorem dX4_write_1 : decode cX4_write 1 = .ok (.getfield 51, 3) := by decide +kernel
theorem dX4_write_4 : decode cX4_write 4 = .ok (.invokevirtual 132, 3) := by decide +kernel
theorem dX4_write_7 : decode cX4_write 7 = .ok (.iload_n 1, 1) := by decide +kernel
theorem dX4_write_8 : decode cX4_write 8 = .ok (.iconst 2, 1) := by decide +kernel
theorem dX4_write_9 : decode cX4_write 9 = .ok (.iand, 1) := by decide +kernel
theorem dX4_write_10 : decode cX4_write 10 = .ok (.ifCond .eq 7, 3) := by decide +kernel
theorem dX4_write_13 : decode cX4_write 13 = .ok (.iconst 1, 1) := by decide +kernel
theorem dX4_write_14 : decode cX4_write 14 = .ok (.goto 4, 3) := by decide +kernel
theorem dX4_write_17 : decode cX4_write 17 = .ok (.iconst 0, 1) := by decide +kernel
theorem dX4_write_18 : decode cX4_write 18 = .ok (.istore 4, 2) := by decide +kernel
theorem dX4_write_20 : decode cX4_write 20 = .ok (.aload_n 0, 1) := by decide +kernel
theorem dX4_write_21 : decode cX4_write 21 = .ok (.iload_n 2, 1) := by decide +kernel
theorem dX4_write_22 : decode cX4_write 22 = .ok (.invokevirtual 197, 3) := by decide +kernel
theorem dX4_write_25 : decode cX4_write 25 = .ok (.istore 5, 2) := by decide +kernel
theorem dX4_write_27 : decode cX4_write 27 = .ok (.aload_n 0, 1) := by decide +kernel
theorem dX4_write_28 : decode cX4_write 28 = .ok (.iload 5, 2) := by decide +kernel
theorem dX4_write_30 : decode cX4_write 30 = .ok (.iload_n 2, 1) := by decide +kernel
theorem dX4_write_31 : decode cX4_write 31 = .ok (.iconst 2, 1) := by decide +kernel
theorem dX4_write_32 : decode cX4_write 32 = .ok (.invokevirtual 200, 3) := by decide +kernel
theorem dX4_write_35 : decode cX4_write 35 = .ok (.istore 6, 2) := by decide +kernel
theorem dX4_write_37 : decode cX4_write 37 = .ok (.iload 6, 2) := by decide +kernel
theorem dX4_write_39 : decode cX4_write 39 = .ok (.ifCond .ne 15, 3) := by decide +kernel
theorem dX4_write_42 : decode cX4_write 42 = .ok (.iload_n 1, 1) := by decide +kernel
theorem dX4_write_43 : decode cX4_write 43 = .ok (.iload_n 3, 1) := by decide +kernel
theorem dX4_write_44 : decode cX4_write 44 = .ok (.iload 5, 2) := by decide +kernel
theorem dX4_write_46 : decode cX4_write 46 = .ok (.invokestatic 108, 3) := by decide +kernel
theorem dX4_write_49 : decode cX4_write 49 = .ok (.invokestatic 204, 3) := by decide +kernel
theorem dX4_write_52 : decode cX4_write 52 = .ok (.istore 6, 2) := by decide +kernel
theorem dX4_write_54 : decode cX4_write 54 = .ok (.iload 6, 2) := by decide +kernel
theorem dX4_write_56 : decode cX4_write 56 = .ok (.ifCond .ne 49, 3) := by decide +kernel
theorem dX4_write_59 : decode cX4_write 59 = .ok (.aload_n 0, 1) := by decide +kernel
theorem dX4_write_60 : decode cX4_write 60 = .ok (.getfield 51, 3) := by decide +kernel
theorem dX4_write_63 : decode cX4_write 63 = .ok (.iload 5, 2) := by decide +kernel
theorem dX4_write_65 : decode cX4_write 65 = .ok (.iload_n 2, 1) := by decide +kernel
theorem dX4_write_66 : decode cX4_write 66 = .ok (.iconst 1, 1) := by decide +kernel
theorem dX4_write_67 : decode cX4_write 67 = .ok (.invokevirtual 207, 3) := by decide +kernel
theorem dX4_write_70 : decode cX4_write 70 = .ok (.iload 4, 2) := by decide +kernel
theorem dX4_write_72 : decode cX4_write 72 = .ok (.ifCond .eq 33, 3) := by decide +kernel
theorem dX4_write_75 : decode cX4_write 75 = .ok (.aload_n 0, 1) := by decide +kernel
theorem dX4_write_76 : decode cX4_write 76 = .ok (.getfield 51, 3) := by decide +kernel
theorem dX4_write_79 : decode cX4_write 79 = .ok (.iload_n 3, 1) := by decide +kernel
theorem dX4_write_80 : decode cX4_write 80 = .ok (.i2l, 1) := by decide +kernel
theorem dX4_write_81 : decode cX4_write 81 = .ok (.iload 5, 2) := by decide +kernel
theorem dX4_write_83 : decode cX4_write 83 = .ok (.invokestatic 108, 3) := by decide +kernel
theorem dX4_write_86 : decode cX4_write 86 = .ok (.invokevirtual 211, 3) := by decide +kernel
theorem dX4_write_89 : decode cX4_write 89 = .ok (.pop, 1) := by decide +kernel
theorem dX4_write_90 : decode cX4_write 90 = .ok (.aload_n 0, 1) := by decide +kernel
theorem dX4_write_91 : decode cX4_write 91 = .ok (.iload 5, 2) := by decide +kernel
theorem dX4_write_93 : decode cX4_write 93 = .ok (.aload_n 0, 1) := by decide +kernel
theorem dX4_write_94 : decode cX4_write 94 = .ok (.getfield 51, 3) := by decide +kernel
theorem dX4_write_97 : decode cX4_write 97 = .ok (.invokevirtual 215, 3) := by decide +kernel
theorem dX4_write_100 : decode cX4_write 100 = .ok (.invokevirtual 217, 3) := by decide +kernel
theorem dX4_write_103 : decode cX4_write 103 = .ok (.istore 6, 2) := by decide +kernel
theorem dX4_write_105 : decode cX4_write 105 = .ok (.iload 6, 2) := by decide +kernel
theorem dX4_write_107 : decode cX4_write 107 = .ok (.ifCond .eq 11, 3) := by decide +kernel
theorem dX4_write_110 : decode cX4_write 110 = .ok (.aload_n 0, 1) := by decide +kernel
theorem dX4_write_111 : decode cX4_write 111 = .ok (.iload_n 2, 1) := by decide +kernel
theorem dX4_write_112 : decode cX4_write 112 = .ok (.iload 6, 2) := by decide +kernel
theorem dX4_write_114 : decode cX4_write 114 = .ok (.invokevirtual 102, 3) := by decide +kernel
theorem dX4_write_117 : decode cX4_write 117 = .ok (.return_, 1) := by decide +kernel
theorem dX4_write_118 : decode cX4_write 118 = .ok (.iload 4, 2) := by decide +kernel
theorem dX4_write_120 : decode cX4_write 120 = .ok (.ifCond .eq 7, 3) := by decide +kernel
theorem dX4_write_123 : decode cX4_write 123 = .ok (.aload_n 0, 1) := by decide +kernel
theorem dX4_write_124 : decode cX4_write 124 = .ok (.invokevirtual 220, 3) := by decide +kernel
theorem dX4_write_127 : decode cX4_write 127 = .ok (.aload_n 0, 1) := by decide +kernel
theorem dX4_write_128 : decode cX4_write 128 = .ok (.bipush 96, 2) := by decide +kernel
theorem dX4_write_130 : decode cX4_write 130 = .ok (.iload_n 2, 1) := by decide +kernel
theorem dX4_write_131 : decode cX4_write 131 = .ok (.iconst 0, 1) := by decide +kernel
theorem dX4_write_132 : decode cX4_write 132 = .ok (.invokevirtual 223, 3) := by decide +kernel
theorem dX4_write_135 : decode cX4_write 135 = .ok (.return_, 1) := by decide +kernel
theorem dX4_entryAt_0 : decode cX4_entryAt 0 = .ok (.aload_n 0, 1) := by decide +kernel
theorem dX4_entryAt_1 : decode cX4_entryAt 1 = .ok (.getfield 25, 3) := by decide +kernel
theorem dX4_entryAt_4 : decode cX4_entryAt 4 = .ok (.iload_n 1, 1) := by decide +kernel
theorem dX4_entryAt_5 : decode cX4_entryAt 5 = .ok (.ldc 244, 2) := by decide +kernel
theorem dX4_entryAt_7 : decode cX4_entryAt 7 = .ok (.iand, 1) := by decide +kernel
theorem dX4_entryAt_8 : decode cX4_entryAt 8 = .ok (.iload_n 1, 1) := by decide +kernel
theorem dX4_entryAt_9 : decode cX4_entryAt 9 = .ok (.bipush 16, 2) := by decide +kernel
theorem dX4_entryAt_11 : decode cX4_entryAt 11 = .ok (.ishr, 1) := by decide +kernel
theorem dX4_entryAt_12 : decode cX4_entryAt 12 = .ok (.invokevirtual 105, 3) := by decide +kernel
theorem dX4_entryAt_15 : decode cX4_entryAt 15 = .ok (.ireturn, 1) := by decide +kernel
theorem dX4_accessFault_0 : decode cX4_accessFault 0 = .ok (.iload_n 1, 1) := by decide +kernel
theorem dX4_accessFault_1 : decode cX4_accessFault 1 = .ok (.iconst (-1), 1) := by decide +kernel
theorem dX4_accessFault_2 : decode cX4_accessFault 2 = .ok (.if_icmp .ne 25, 3) := by decide +kernel
theorem dX4_accessFault_5 : decode cX4_accessFault 5 = .ok (.aload_n 0, 1) := by decide +kernel
theorem dX4_accessFault_6 : decode cX4_accessFault 6 = .ok (.getfield 25, 3) := by decide +kernel
theorem dX4_accessFault_9 : decode cX4_accessFault 9 = .ok (.iload_n 2, 1) := by decide +kernel
theorem dX4_accessFault_10 : decode cX4_accessFault 10 = .ok (.ldc 244, 2) := by decide +kernel
theorem dX4_accessFault_12 : decode cX4_accessFault 12 = .ok (.iand, 1) := by decide +kernel
theorem dX4_accessFault_13 : decode cX4_accessFault 13 = .ok (.invokevirtual 245, 3) := by decide +kernel
theorem dX4_accessFault_16 : decode cX4_accessFault 16 = .ok (.ifCond .eq 8, 3) := by decide +kernel
theorem dX4_accessFault_19 : decode cX4_accessFault 19 = .ok (.ldc 249, 2) := by decide +kernel
theorem dX4_accessFault_21 : decode cX4_accessFault 21 = .ok (.goto 5, 3) := by decide +kernel
theorem dX4_accessFault_24 : decode cX4_accessFault 24 = .ok (.ldc 250, 2) := by decide +kernel
theorem dX4_accessFault_26 : decode cX4_accessFault 26 = .ok (.ireturn, 1) := by decide +kernel
theorem dX4_accessFault_27 : decode cX4_accessFault 27 = .ok (.iload_n 1, 1) := by decide +kernel
theorem dX4_accessFault_28 : decode cX4_accessFault 28 = .ok (.iload_n 3, 1) := by decide +kernel
theorem dX4_accessFault_29 : decode cX4_accessFault 29 = .ok (.invokestatic 251, 3) := by decide +kernel
theorem dX4_accessFault_32 : decode cX4_accessFault 32 = .ok (.ifCond .eq 5, 3) := by decide +kernel
theorem dX4_accessFault_35 : decode cX4_accessFault 35 = .ok (.iconst 0, 1) := by decide +kernel
theorem dX4_accessFault_36 : decode cX4_accessFault 36 = .ok (.ireturn, 1) := by decide +kernel
theorem dX4_accessFault_37 : decode cX4_accessFault 37 = .ok (.iload_n 3, 1) := by decide +kernel
theorem dX4_accessFault_38 : decode cX4_accessFault 38 = .ok (.iconst 2, 1) := by decide +kernel
theorem dX4_accessFault_39 : decode cX4_accessFault 39 = .ok (.if_icmp .ne 8, 3) := by decide +kernel
theorem dX4_accessFault_42 : decode cX4_accessFault 42 = .ok (.ldc 255, 2) := by decide +kernel
theorem dX4_accessFault_44 : decode cX4_accessFault 44 = .ok (.goto 6, 3) := by decide +kernel
theorem dX4_accessFault_47 : decode cX4_accessFault 47 = .ok (.ldc_w 256, 3) := by decide +kernel
theorem dX4_accessFault_50 : decode cX4_accessFault 50 = .ok (.ireturn, 1) := by decide +kernel
theorem dX4_lengthFault_0 : decode cX4_lengthFault 0 = .ok (.iload_n 0, 1) := by decide +kernel
theorem dX4_lengthFault_1 : decode cX4_lengthFault 1 = .ok (.iconst 1, 1) := by decide +kernel
theorem dX4_lengthFault_2 : decode cX4_lengthFault 2 = .ok (.iand, 1) := by decide +kernel
theorem dX4_lengthFault_3 : decode cX4_lengthFault 3 = .ok (.ifCond .eq 7, 3) := by decide +kernel
theorem dX4_lengthFault_6 : decode cX4_lengthFault 6 = .ok (.iconst 1, 1) := by decide +kernel
theorem dX4_lengthFault_7 : decode cX4_lengthFault 7 = .ok (.goto 4, 3) := by decide +kernel
theorem dX4_lengthFault_10 : decode cX4_lengthFault 10 = .ok (.iconst 0, 1) := by decide +kernel
theorem dX4_lengthFault_11 : decode cX4_lengthFault 11 = .ok (.istore_n 3, 1) := by decide +kernel
theorem dX4_lengthFault_12 : decode cX4_lengthFault 12 = .ok (.iload_n 3, 1) := by decide +kernel
theorem dX4_lengthFault_13 : decode cX4_lengthFault 13 = .ok (.ifCond .eq 7, 3) := by decide +kernel
theorem dX4_lengthFault_16 : decode cX4_lengthFault 16 = .ok (.iload_n 1, 1) := by decide +kernel
theorem dX4_lengthFault_17 : decode cX4_lengthFault 17 = .ok (.goto 4, 3) := by decide +kernel
theorem dX4_lengthFault_20 : decode cX4_lengthFault 20 = .ok (.iload_n 2, 1) := by decide +kernel
theorem dX4_lengthFault_21 : decode cX4_lengthFault 21 = .ok (.istore 4, 2) := by decide +kernel
theorem dX4_lengthFault_23 : decode cX4_lengthFault 23 = .ok (.iload_n 0, 1) := by decide +kernel
theorem dX4_lengthFault_24 : decode cX4_lengthFault 24 = .ok (.iconst 2, 1) := by decide +kernel
theorem dX4_lengthFault_25 : decode cX4_lengthFault 25 = .ok (.iand, 1) := by decide +kernel
theorem dX4_lengthFault_26 : decode cX4_lengthFault 26 = .ok (.ifCond .eq 24, 3) := by decide +kernel
theorem dX4_lengthFault_29 : decode cX4_lengthFault 29 = .ok (.iload_n 3, 1) := by decide +kernel
theorem dX4_lengthFault_30 : decode cX4_lengthFault 30 = .ok (.ifCond .eq 13, 3) := by decide +kernel
theorem dX4_lengthFault_33 : decode cX4_lengthFault 33 = .ok (.iconst 4, 1) := by decide +kernel
theorem dX4_lengthFault_34 : decode cX4_lengthFault 34 = .ok (.iload_n 0, 1) := by decide +kernel
theorem dX4_lengthFault_35 : decode cX4_lengthFault 35 = .ok (.iconst 2, 1) := by decide +kernel
theorem dX4_lengthFault_36 : decode cX4_lengthFault 36 = .ok (.ishr, 1) := by decide +kernel
theorem dX4_lengthFault_37 : decode cX4_lengthFault 37 = .ok (.iconst 3, 1) := by decide +kernel
theorem dX4_lengthFault_38 : decode cX4_lengthFault 38 = .ok (.iand, 1) := by decide +kernel
theorem dX4_lengthFault_39 : decode cX4_lengthFault 39 = .ok (.isub, 1) := by decide +kernel
theorem dX4_lengthFault_40 : decode cX4_lengthFault 40 = .ok (.goto 8, 3) := by decide +kernel
theorem dX4_lengthFault_43 : decode cX4_lengthFault 43 = .ok (.iload_n 2, 1) := by decide +kernel
theorem dX4_lengthFault_44 : decode cX4_lengthFault 44 = .ok (.iconst 4, 1) := by decide +kernel
theorem dX4_lengthFault_45 : decode cX4_lengthFault 45 = .ok (.invokestatic 7, 3) := by decide +kernel
theorem dX4_lengthFault_48 : decode cX4_lengthFault 48 = .ok (.istore 4, 2) := by decide +kernel
theorem dX4_lengthFault_50 : decode cX4_lengthFault 50 = .ok (.iload 4, 2) := by decide +kernel
theorem dX4_lengthFault_52 : decode cX4_lengthFault 52 = .ok (.iload_n 2, 1) := by decide +kernel
theorem dX4_lengthFault_53 : decode cX4_lengthFault 53 = .ok (.if_icmp .le 6, 3) := by decide +kernel
theorem dX4_lengthFault_56 : decode cX4_lengthFault 56 = .ok (.ldc 230, 2) := by decide +kernel
theorem dX4_lengthFault_58 : decode cX4_lengthFault 58 = .ok (.ireturn, 1) := by decide +kernel
theorem dX4_lengthFault_59 : decode cX4_lengthFault 59 = .ok (.iload 4, 2) := by decide +kernel
theorem dX4_lengthFault_61 : decode cX4_lengthFault 61 = .ok (.iload_n 2, 1) := by decide +kernel
theorem dX4_lengthFault_62 : decode cX4_lengthFault 62 = .ok (.if_icmp .ge 8, 3) := by decide +kernel
theorem dX4_lengthFault_65 : decode cX4_lengthFault 65 = .ok (.ldc 234, 2) := by decide +kernel
theorem dX4_lengthFault_67 : decode cX4_lengthFault 67 = .ok (.goto 4, 3) := by decide +kernel
theorem dX4_lengthFault_70 : decode cX4_lengthFault 70 = .ok (.iconst 0, 1) := by decide +kernel
theorem dX4_lengthFault_71 : decode cX4_lengthFault 71 = .ok (.ireturn, 1) := by decide +kernel
theorem dX4_read_0 : decode cX4_read 0 = .ok (.aload_n 0, 1) := by decide +kernel
theorem dX4_read_1 : decode cX4_read 1 = .ok (.getfield 51, 3) := by decide +kernel
theorem dX4_read_4 : decode cX4_read 4 = .ok (.invokevirtual 132, 3) := by decide +kernel
theorem dX4_read_7 : decode cX4_read 7 = .ok (.aload_n 0, 1) := by decide +kernel
theorem dX4_read_8 : decode cX4_read 8 = .ok (.iload_n 1, 1) := by decide +kernel
theorem dX4_read_9 : decode cX4_read 9 = .ok (.invokevirtual 197, 3) := by decide +kernel
theorem dX4_read_12 : decode cX4_read 12 = .ok (.istore_n 2, 1) := by decide +kernel
theorem dX4_read_13 : decode cX4_read 13 = .ok (.aload_n 0, 1) := by decide +kernel
theorem dX4_read_14 : decode cX4_read 14 = .ok (.iload_n 2, 1) := by decide +kernel
theorem dX4_read_15 : decode cX4_read 15 = .ok (.iload_n 1, 1) := by decide +kernel
theorem dX4_read_16 : decode cX4_read 16 = .ok (.iconst 1, 1) := by decide +kernel
theorem dX4_read_17 : decode cX4_read 17 = .ok (.invokevirtual 200, 3) := by decide +kernel
theorem dX4_read_20 : decode cX4_read 20 = .ok (.istore_n 3, 1) := by decide +kernel
theorem dX4_read_21 : decode cX4_read 21 = .ok (.iload_n 3, 1) := by decide +kernel
theorem dX4_read_22 : decode cX4_read 22 = .ok (.ifCond .eq 10, 3) := by decide +kernel
theorem dX4_read_25 : decode cX4_read 25 = .ok (.aload_n 0, 1) := by decide +kernel
theorem dX4_read_26 : decode cX4_read 26 = .ok (.iload_n 1, 1) := by decide +kernel
theorem dX4_read_27 : decode cX4_read 27 = .ok (.iload_n 3, 1) := by decide +kernel
theorem dX4_read_28 : decode cX4_read 28 = .ok (.invokevirtual 102, 3) := by decide +kernel
theorem dX4_read_31 : decode cX4_read 31 = .ok (.return_, 1) := by decide +kernel
theorem dX4_read_32 : decode cX4_read 32 = .ok (.iload_n 2, 1) := by decide +kernel
theorem dX4_read_33 : decode cX4_read 33 = .ok (.invokestatic 108, 3) := by decide +kernel
theorem dX4_read_36 : decode cX4_read 36 = .ok (.istore 4, 2) := by decide +kernel
theorem dX4_read_38 : decode cX4_read 38 = .ok (.iload 4, 2) := by decide +kernel
theorem dX4_read_40 : decode cX4_read 40 = .ok (.iconst 4, 1) := by decide +kernel
theorem dX4_read_41 : decode cX4_read 41 = .ok (.if_icmp .gt 32, 3) := by decide +kernel
theorem dX4_read_44 : decode cX4_read 44 = .ok (.aload_n 0, 1) := by decide +kernel
theorem dX4_read_45 : decode cX4_read 45 = .ok (.bipush 67, 2) := by decide +kernel
end
section
theorem dX4_read_47 : decode cX4_read 47 = .ok (.iconst 4, 1) := by decide +kernel
theorem dX4_read_48 : decode cX4_read 48 = .ok (.iconst 4, 1) := by decide +kernel
theorem dX4_read_49 : decode cX4_read 49 = .ok (.iload 4, 2) := by decide +kernel
theorem dX4_read_51 : decode cX4_read 51 = .ok (.isub, 1) := by decide +kernel
theorem dX4_read_52 : decode cX4_read 52 = .ok (.imul, 1) := by decide +kernel
theorem dX4_read_53 : decode cX4_read 53 = .ok (.iadd, 1) := by decide +kernel
theorem dX4_read_54 : decode cX4_read 54 = .ok (.iload_n 1, 1) := by decide +kernel
theorem dX4_read_55 : decode cX4_read 55 = .ok (.aload_n 0, 1) := by decide +kernel
theorem dX4_read_56 : decode cX4_read 56 = .ok (.getfield 25, 3) := by decide +kernel
theorem dX4_read_59 : decode cX4_read 59 = .ok (.iload_n 2, 1) := by decide +kernel
theorem dX4_read_60 : decode cX4_read 60 = .ok (.iconst 0, 1) := by decide +kernel
theorem dX4_read_61 : decode cX4_read 61 = .ok (.iload 4, 2) := by decide +kernel
theorem dX4_read_63 : decode cX4_read 63 = .ok (.invokevirtual 145, 3) := by decide +kernel
theorem dX4_read_66 : decode cX4_read 66 = .ok (.l2i, 1) := by decide +kernel
theorem dX4_read_67 : decode cX4_read 67 = .ok (.invokevirtual 223, 3) := by decide +kernel
theorem dX4_read_70 : decode cX4_read 70 = .ok (.goto 22, 3) := by decide +kernel
theorem dX4_read_73 : decode cX4_read 73 = .ok (.aload_n 0, 1) := by decide +kernel
theorem dX4_read_74 : decode cX4_read 74 = .ok (.getfield 51, 3) := by decide +kernel
theorem dX4_read_77 : decode cX4_read 77 = .ok (.iload_n 2, 1) := by decide +kernel
theorem dX4_read_78 : decode cX4_read 78 = .ok (.iload_n 1, 1) := by decide +kernel
theorem dX4_read_79 : decode cX4_read 79 = .ok (.iconst 0, 1) := by decide +kernel
theorem dX4_read_80 : decode cX4_read 80 = .ok (.invokevirtual 207, 3) := by decide +kernel
theorem dX4_read_83 : decode cX4_read 83 = .ok (.aload_n 0, 1) := by decide +kernel
theorem dX4_read_84 : decode cX4_read 84 = .ok (.bipush 65, 2) := by decide +kernel
theorem dX4_read_86 : decode cX4_read 86 = .ok (.iload_n 1, 1) := by decide +kernel
theorem dX4_read_87 : decode cX4_read 87 = .ok (.iload 4, 2) := by decide +kernel
theorem dX4_read_89 : decode cX4_read 89 = .ok (.invokevirtual 223, 3) := by decide +kernel
theorem dX4_read_92 : decode cX4_read 92 = .ok (.return_, 1) := by decide +kernel
theorem dX4_readSegment_0 : decode cX4_readSegment 0 = .ok (.aload_n 0, 1) := by decide +kernel
theorem dX4_readSegment_1 : decode cX4_readSegment 1 = .ok (.iload_n 1, 1) := by decide +kernel
theorem dX4_readSegment_2 : decode cX4_readSegment 2 = .ok (.iconst 0, 1) := by decide +kernel
theorem dX4_readSegment_3 : decode cX4_readSegment 3 = .ok (.invokevirtual 226, 3) := by decide +kernel
theorem dX4_readSegment_6 : decode cX4_readSegment 6 = .ok (.istore_n 2, 1) := by decide +kernel
theorem dX4_readSegment_7 : decode cX4_readSegment 7 = .ok (.iload_n 2, 1) := by decide +kernel
theorem dX4_readSegment_8 : decode cX4_readSegment 8 = .ok (.ifCond .eq 16, 3) := by decide +kernel
theorem dX4_readSegment_11 : decode cX4_readSegment 11 = .ok (.aload_n 0, 1) := by decide +kernel
theorem dX4_readSegment_12 : decode cX4_readSegment 12 = .ok (.aload_n 0, 1) := by decide +kernel
theorem dX4_readSegment_13 : decode cX4_readSegment 13 = .ok (.getfield 51, 3) := by decide +kernel
theorem dX4_readSegment_16 : decode cX4_readSegment 16 = .ok (.getfield 98, 3) := by decide +kernel
theorem dX4_readSegment_19 : decode cX4_readSegment 19 = .ok (.iload_n 2, 1) := by decide +kernel
theorem dX4_readSegment_20 : decode cX4_readSegment 20 = .ok (.invokevirtual 102, 3) := by decide +kernel
theorem dX4_readSegment_23 : decode cX4_readSegment 23 = .ok (.return_, 1) := by decide +kernel
theorem dX4_readSegment_24 : decode cX4_readSegment 24 = .ok (.bipush 7, 2) := by decide +kernel
theorem dX4_readSegment_26 : decode cX4_readSegment 26 = .ok (.aload_n 0, 1) := by decide +kernel
theorem dX4_readSegment_27 : decode cX4_readSegment 27 = .ok (.getfield 51, 3) := by decide +kernel
theorem dX4_readSegment_30 : decode cX4_readSegment 30 = .ok (.invokevirtual 231, 3) := by decide +kernel
theorem dX4_readSegment_33 : decode cX4_readSegment 33 = .ok (.invokestatic 7, 3) := by decide +kernel
theorem dX4_readSegment_36 : decode cX4_readSegment 36 = .ok (.istore_n 3, 1) := by decide +kernel
theorem dX4_readSegment_37 : decode cX4_readSegment 37 = .ok (.aload_n 0, 1) := by decide +kernel
theorem dX4_readSegment_38 : decode cX4_readSegment 38 = .ok (.getfield 25, 3) := by decide +kernel
theorem dX4_readSegment_41 : decode cX4_readSegment 41 = .ok (.aload_n 0, 1) := by decide +kernel
theorem dX4_readSegment_42 : decode cX4_readSegment 42 = .ok (.getfield 51, 3) := by decide +kernel
theorem dX4_readSegment_45 : decode cX4_readSegment 45 = .ok (.getfield 235, 3) := by decide +kernel
theorem dX4_readSegment_48 : decode cX4_readSegment 48 = .ok (.aload_n 0, 1) := by decide +kernel
theorem dX4_readSegment_49 : decode cX4_readSegment 49 = .ok (.getfield 51, 3) := by decide +kernel
theorem dX4_readSegment_52 : decode cX4_readSegment 52 = .ok (.getfield 241, 3) := by decide +kernel
theorem dX4_readSegment_55 : decode cX4_readSegment 55 = .ok (.iload_n 3, 1) := by decide +kernel
theorem dX4_readSegment_56 : decode cX4_readSegment 56 = .ok (.invokevirtual 145, 3) := by decide +kernel
theorem dX4_readSegment_59 : decode cX4_readSegment 59 = .ok (.lstore 4, 2) := by decide +kernel
theorem dX4_readSegment_61 : decode cX4_readSegment 61 = .ok (.iload_n 1, 1) := by decide +kernel
theorem dX4_readSegment_62 : decode cX4_readSegment 62 = .ok (.bipush 16, 2) := by decide +kernel
theorem dX4_readSegment_64 : decode cX4_readSegment 64 = .ok (.iand, 1) := by decide +kernel
theorem dX4_readSegment_65 : decode cX4_readSegment 65 = .ok (.iconst 2, 1) := by decide +kernel
theorem dX4_readSegment_66 : decode cX4_readSegment 66 = .ok (.bipush 7, 2) := by decide +kernel
theorem dX4_readSegment_68 : decode cX4_readSegment 68 = .ok (.iload_n 3, 1) := by decide +kernel
theorem dX4_readSegment_69 : decode cX4_readSegment 69 = .ok (.isub, 1) := by decide +kernel
theorem dX4_readSegment_70 : decode cX4_readSegment 70 = .ok (.imul, 1) := by decide +kernel
theorem dX4_readSegment_71 : decode cX4_readSegment 71 = .ok (.iadd, 1) := by decide +kernel
theorem dX4_readSegment_72 : decode cX4_readSegment 72 = .ok (.istore 6, 2) := by decide +kernel
theorem dX4_readSegment_74 : decode cX4_readSegment 74 = .ok (.aload_n 0, 1) := by decide +kernel
theorem dX4_readSegment_75 : decode cX4_readSegment 75 = .ok (.getfield 51, 3) := by decide +kernel
theorem dX4_readSegment_78 : decode cX4_readSegment 78 = .ok (.dup, 1) := by decide +kernel
theorem dX4_readSegment_79 : decode cX4_readSegment 79 = .ok (.getfield 241, 3) := by decide +kernel
theorem dX4_readSegment_82 : decode cX4_readSegment 82 = .ok (.iload_n 3, 1) := by decide +kernel
theorem dX4_readSegment_83 : decode cX4_readSegment 83 = .ok (.iadd, 1) := by decide +kernel
theorem dX4_readSegment_84 : decode cX4_readSegment 84 = .ok (.putfield 241, 3) := by decide +kernel
theorem dX4_readSegment_87 : decode cX4_readSegment 87 = .ok (.aload_n 0, 1) := by decide +kernel
theorem dX4_readSegment_88 : decode cX4_readSegment 88 = .ok (.getfield 51, 3) := by decide +kernel
theorem dX4_readSegment_91 : decode cX4_readSegment 91 = .ok (.invokevirtual 231, 3) := by decide +kernel
theorem dX4_readSegment_94 : decode cX4_readSegment 94 = .ok (.ifCond .ne 16, 3) := by decide +kernel
theorem dX4_readSegment_97 : decode cX4_readSegment 97 = .ok (.iinc 6 1, 3) := by decide +kernel
theorem dX4_readSegment_100 : decode cX4_readSegment 100 = .ok (.aload_n 0, 1) := by decide +kernel
theorem dX4_readSegment_101 : decode cX4_readSegment 101 = .ok (.getfield 51, 3) := by decide +kernel
theorem dX4_readSegment_104 : decode cX4_readSegment 104 = .ok (.invokevirtual 132, 3) := by decide +kernel
theorem dX4_readSegment_107 : decode cX4_readSegment 107 = .ok (.goto 10, 3) := by decide +kernel
theorem dX4_readSegment_110 : decode cX4_readSegment 110 = .ok (.aload_n 0, 1) := by decide +kernel
theorem dX4_readSegment_111 : decode cX4_readSegment 111 = .ok (.getfield 51, 3) := by decide +kernel
theorem dX4_readSegment_114 : decode cX4_readSegment 114 = .ok (.invokevirtual 238, 3) := by decide +kernel
theorem dX4_readSegment_117 : decode cX4_readSegment 117 = .ok (.aload_n 0, 1) := by decide +kernel
theorem dX4_readSegment_118 : decode cX4_readSegment 118 = .ok (.getfield 44, 3) := by decide +kernel
theorem dX4_readSegment_121 : decode cX4_readSegment 121 = .ok (.sipush 1408, 3) := by decide +kernel
theorem dX4_readSegment_124 : decode cX4_readSegment 124 = .ok (.aload_n 0, 1) := by decide +kernel
theorem dX4_readSegment_125 : decode cX4_readSegment 125 = .ok (.getfield 16, 3) := by decide +kernel
theorem dX4_readSegment_128 : decode cX4_readSegment 128 = .ok (.iadd, 1) := by decide +kernel
theorem dX4_readSegment_129 : decode cX4_readSegment 129 = .ok (.bipush 8, 2) := by decide +kernel
theorem dX4_readSegment_131 : decode cX4_readSegment 131 = .ok (.lload 4, 2) := by decide +kernel
theorem dX4_readSegment_133 : decode cX4_readSegment 133 = .ok (.bipush 8, 2) := by decide +kernel
theorem dX4_readSegment_135 : decode cX4_readSegment 135 = .ok (.lshl, 1) := by decide +kernel
theorem dX4_readSegment_136 : decode cX4_readSegment 136 = .ok (.iload 6, 2) := by decide +kernel
theorem dX4_readSegment_138 : decode cX4_readSegment 138 = .ok (.i2l, 1) := by decide +kernel
theorem dX4_readSegment_139 : decode cX4_readSegment 139 = .ok (.lor, 1) := by decide +kernel
theorem dX4_readSegment_140 : decode cX4_readSegment 140 = .ok (.invokevirtual 141, 3) := by decide +kernel
theorem dX4_readSegment_143 : decode cX4_readSegment 143 = .ok (.return_, 1) := by decide +kernel
theorem dX4_giveWhenChanged_0 : decode cX4_giveWhenChanged 0 = .ok (.aload_n 0, 1) := by decide +kernel
theorem dX4_giveWhenChanged_1 : decode cX4_giveWhenChanged 1 = .ok (.getfield 79, 3) := by decide +kernel
theorem dX4_giveWhenChanged_4 : decode cX4_giveWhenChanged 4 = .ok (.iconst 5, 1) := by decide +kernel
theorem dX4_giveWhenChanged_5 : decode cX4_giveWhenChanged 5 = .ok (.if_icmp .ne 33, 3) := by decide +kernel
theorem dX4_giveWhenChanged_8 : decode cX4_giveWhenChanged 8 = .ok (.aload_n 0, 1) := by decide +kernel
theorem dX4_giveWhenChanged_9 : decode cX4_giveWhenChanged 9 = .ok (.getfield 38, 3) := by decide +kernel
theorem dX4_giveWhenChanged_12 : decode cX4_giveWhenChanged 12 = .ok (.invokevirtual 165, 3) := by decide +kernel
theorem dX4_giveWhenChanged_15 : decode cX4_giveWhenChanged 15 = .ok (.ifCond .eq 23, 3) := by decide +kernel
theorem dX4_giveWhenChanged_18 : decode cX4_giveWhenChanged 18 = .ok (.aload_n 0, 1) := by decide +kernel
theorem dX4_giveWhenChanged_19 : decode cX4_giveWhenChanged 19 = .ok (.getfield 25, 3) := by decide +kernel
theorem dX4_giveWhenChanged_22 : decode cX4_giveWhenChanged 22 = .ok (.bipush 8, 2) := by decide +kernel
theorem dX4_giveWhenChanged_24 : decode cX4_giveWhenChanged 24 = .ok (.iconst 0, 1) := by decide +kernel
theorem dX4_giveWhenChanged_25 : decode cX4_giveWhenChanged 25 = .ok (.invokevirtual 118, 3) := by decide +kernel
theorem dX4_giveWhenChanged_28 : decode cX4_giveWhenChanged 28 = .ok (.sipush 254, 3) := by decide +kernel
theorem dX4_giveWhenChanged_31 : decode cX4_giveWhenChanged 31 = .ok (.if_icmp .lt 7, 3) := by decide +kernel
theorem dX4_giveWhenChanged_34 : decode cX4_giveWhenChanged 34 = .ok (.aload_n 0, 1) := by decide +kernel
theorem dX4_giveWhenChanged_35 : decode cX4_giveWhenChanged 35 = .ok (.invokevirtual 169, 3) := by decide +kernel
theorem dX4_giveWhenChanged_38 : decode cX4_giveWhenChanged 38 = .ok (.return_, 1) := by decide +kernel
theorem dX4_set_0 : decode cX4_set 0 = .ok (.aload_n 0, 1) := by decide +kernel
theorem dX4_set_1 : decode cX4_set 1 = .ok (.getfield 25, 3) := by decide +kernel
theorem dX4_set_4 : decode cX4_set 4 = .ok (.iload_n 1, 1) := by decide +kernel
theorem dX4_set_5 : decode cX4_set 5 = .ok (.iload_n 2, 1) := by decide +kernel
theorem dX4_set_6 : decode cX4_set 6 = .ok (.invokevirtual 105, 3) := by decide +kernel
theorem dX4_set_9 : decode cX4_set 9 = .ok (.istore 5, 2) := by decide +kernel
theorem dX4_set_11 : decode cX4_set 11 = .ok (.iload 5, 2) := by decide +kernel
theorem dX4_set_13 : decode cX4_set 13 = .ok (.bipush 14, 2) := by decide +kernel
theorem dX4_set_15 : decode cX4_set 15 = .ok (.if_icmp .lt 13, 3) := by decide +kernel
theorem dX4_set_18 : decode cX4_set 18 = .ok (.iload 5, 2) := by decide +kernel
theorem dX4_set_20 : decode cX4_set 20 = .ok (.invokestatic 108, 3) := by decide +kernel
theorem dX4_set_23 : decode cX4_set 23 = .ok (.bipush 8, 2) := by decide +kernel
theorem dX4_set_25 : decode cX4_set 25 = .ok (.if_icmp .le 11, 3) := by decide +kernel
theorem dX4_set_28 : decode cX4_set 28 = .ok (.new 112, 3) := by decide +kernel
theorem dX4_set_31 : decode cX4_set 31 = .ok (.dup, 1) := by decide +kernel
theorem dX4_set_32 : decode cX4_set 32 = .ok (.invokespecial 114, 3) := by decide +kernel
theorem dX4_set_35 : decode cX4_set 35 = .ok (.athrow, 1) := by decide +kernel
theorem dX4_set_36 : decode cX4_set 36 = .ok (.aload_n 0, 1) := by decide +kernel
theorem dX4_set_37 : decode cX4_set 37 = .ok (.getfield 44, 3) := by decide +kernel
theorem dX4_set_40 : decode cX4_set 40 = .ok (.getfield 61, 3) := by decide +kernel
theorem dX4_set_43 : decode cX4_set 43 = .ok (.istore 6, 2) := by decide +kernel
theorem dX4_set_45 : decode cX4_set 45 = .ok (.aload_n 0, 1) := by decide +kernel
theorem dX4_set_46 : decode cX4_set 46 = .ok (.getfield 25, 3) := by decide +kernel
theorem dX4_set_49 : decode cX4_set 49 = .ok (.iload 5, 2) := by decide +kernel
theorem dX4_set_51 : decode cX4_set 51 = .ok (.iload_n 3, 1) := by decide +kernel
theorem dX4_set_52 : decode cX4_set 52 = .ok (.iload 4, 2) := by decide +kernel
theorem dX4_set_54 : decode cX4_set 54 = .ok (.invokestatic 71, 3) := by decide +kernel
theorem dX4_set_57 : decode cX4_set 57 = .ok (.invokevirtual 115, 3) := by decide +kernel
theorem dX4_set_60 : decode cX4_set 60 = .ok (.aload_n 0, 1) := by decide +kernel
theorem dX4_set_61 : decode cX4_set 61 = .ok (.invokevirtual 85, 3) := by decide +kernel
theorem dX4_set_64 : decode cX4_set 64 = .ok (.aload_n 0, 1) := by decide +kernel
theorem dX4_set_65 : decode cX4_set 65 = .ok (.getfield 44, 3) := by decide +kernel
theorem dX4_set_68 : decode cX4_set 68 = .ok (.getfield 61, 3) := by decide +kernel
theorem dX4_set_71 : decode cX4_set 71 = .ok (.iload 6, 2) := by decide +kernel
theorem dX4_set_73 : decode cX4_set 73 = .ok (.isub, 1) := by decide +kernel
theorem dX4_set_74 : decode cX4_set 74 = .ok (.ireturn, 1) := by decide +kernel
theorem dX4_value_0 : decode cX4_value 0 = .ok (.aload_n 0, 1) := by decide +kernel
theorem dX4_value_1 : decode cX4_value 1 = .ok (.getfield 25, 3) := by decide +kernel
theorem dX4_value_4 : decode cX4_value 4 = .ok (.iload_n 1, 1) := by decide +kernel
theorem dX4_value_5 : decode cX4_value 5 = .ok (.iload_n 2, 1) := by decide +kernel
theorem dX4_value_6 : decode cX4_value 6 = .ok (.invokevirtual 105, 3) := by decide +kernel
theorem dX4_value_9 : decode cX4_value 9 = .ok (.istore 4, 2) := by decide +kernel
theorem dX4_value_11 : decode cX4_value 11 = .ok (.iload 4, 2) := by decide +kernel
theorem dX4_value_13 : decode cX4_value 13 = .ok (.iconst (-1), 1) := by decide +kernel
theorem dX4_value_14 : decode cX4_value 14 = .ok (.if_icmp .eq 16, 3) := by decide +kernel
theorem dX4_value_17 : decode cX4_value 17 = .ok (.iload_n 3, 1) := by decide +kernel
theorem dX4_value_18 : decode cX4_value 18 = .ok (.ifCond .lt 12, 3) := by decide +kernel
theorem dX4_value_21 : decode cX4_value 21 = .ok (.iload_n 3, 1) := by decide +kernel
theorem dX4_value_22 : decode cX4_value 22 = .ok (.iload 4, 2) := by decide +kernel
theorem dX4_value_24 : decode cX4_value 24 = .ok (.invokestatic 108, 3) := by decide +kernel
theorem dX4_value_27 : decode cX4_value 27 = .ok (.if_icmp .lt 11, 3) := by decide +kernel
theorem dX4_value_30 : decode cX4_value 30 = .ok (.new 112, 3) := by decide +kernel
theorem dX4_value_33 : decode cX4_value 33 = .ok (.dup, 1) := by decide +kernel
theorem dX4_value_34 : decode cX4_value 34 = .ok (.invokespecial 114, 3) := by decide +kernel
theorem dX4_value_37 : decode cX4_value 37 = .ok (.athrow, 1) := by decide +kernel
theorem dX4_value_38 : decode cX4_value 38 = .ok (.aload_n 0, 1) := by decide +kernel
theorem dX4_value_39 : decode cX4_value 39 = .ok (.getfield 25, 3) := by decide +kernel
theorem dX4_value_42 : decode cX4_value 42 = .ok (.iload 4, 2) := by decide +kernel
theorem dX4_value_44 : decode cX4_value 44 = .ok (.iload_n 3, 1) := by decide +kernel
theorem dX4_value_45 : decode cX4_value 45 = .ok (.invokevirtual 118, 3) := by decide +kernel
theorem dX4_value_48 : decode cX4_value 48 = .ok (.ireturn, 1) := by decide +kernel
theorem dX4_out_0 : decode cX4_out 0 = .ok (.iload_n 1, 1) := by decide +kernel
theorem dX4_out_1 : decode cX4_out 1 = .ok (.ifCond .lt 23, 3) := by decide +kernel
theorem dX4_out_4 : decode cX4_out 4 = .ok (.iload_n 1, 1) := by decide +kernel
theorem dX4_out_5 : decode cX4_out 5 = .ok (.aload_n 0, 1) := by decide +kernel
theorem dX4_out_6 : decode cX4_out 6 = .ok (.getfield 44, 3) := by decide +kernel
theorem dX4_out_9 : decode cX4_out 9 = .ok (.getfield 121, 3) := by decide +kernel
theorem dX4_out_12 : decode cX4_out 12 = .ok (.if_icmp .ge 12, 3) := by decide +kernel
theorem dX4_out_15 : decode cX4_out 15 = .ok (.iload_n 2, 1) := by decide +kernel
theorem dX4_out_16 : decode cX4_out 16 = .ok (.ifCond .lt 8, 3) := by decide +kernel
theorem dX4_out_19 : decode cX4_out 19 = .ok (.iload_n 2, 1) := by decide +kernel
theorem dX4_out_20 : decode cX4_out 20 = .ok (.iconst 4, 1) := by decide +kernel
theorem dX4_out_21 : decode cX4_out 21 = .ok (.if_icmp .lt 11, 3) := by decide +kernel
theorem dX4_out_24 : decode cX4_out 24 = .ok (.new 124, 3) := by decide +kernel
theorem dX4_out_27 : decode cX4_out 27 = .ok (.dup, 1) := by decide +kernel
theorem dX4_out_28 : decode cX4_out 28 = .ok (.invokespecial 126, 3) := by decide +kernel
theorem dX4_out_31 : decode cX4_out 31 = .ok (.athrow, 1) := by decide +kernel
theorem dX4_out_32 : decode cX4_out 32 = .ok (.aload_n 0, 1) := by decide +kernel
theorem dX4_out_33 : decode cX4_out 33 = .ok (.getfield 44, 3) := by decide +kernel
theorem dX4_out_36 : decode cX4_out 36 = .ok (.iload_n 1, 1) := by decide +kernel
theorem dX4_out_37 : decode cX4_out 37 = .ok (.iload_n 2, 1) := by decide +kernel
theorem dX4_out_38 : decode cX4_out 38 = .ok (.invokevirtual 127, 3) := by decide +kernel
theorem dX4_out_41 : decode cX4_out 41 = .ok (.ireturn, 1) := by decide +kernel
end
section
theorem dX5_init_0 : decode cX5_init 0 = .ok (.aload_n 0, 1) := by decide +kernel
theorem dX5_init_1 : decode cX5_init 1 = .ok (.invokespecial 1, 3) := by decide +kernel
theorem dX5_init_4 : decode cX5_init 4 = .ok (.aload_n 0, 1) := by decide +kernel
theorem dX5_init_5 : decode cX5_init 5 = .ok (.bipush 22, 2) := by decide +kernel
theorem dX5_init_7 : decode cX5_init 7 = .ok (.newarray .int, 2) := by decide +kernel
theorem dX5_init_9 : decode cX5_init 9 = .ok (.putfield 7, 3) := by decide +kernel
theorem dX5_init_12 : decode cX5_init 12 = .ok (.aload_n 0, 1) := by decide +kernel
theorem dX5_init_13 : decode cX5_init 13 = .ok (.bipush 22, 2) := by decide +kernel
theorem dX5_init_15 : decode cX5_init 15 = .ok (.newarray .int, 2) := by decide +kernel
theorem dX5_init_17 : decode cX5_init 17 = .ok (.putfield 13, 3) := by decide +kernel
theorem dX5_init_20 : decode cX5_init 20 = .ok (.aload_n 0, 1) := by decide +kernel
theorem dX5_init_21 : decode cX5_init 21 = .ok (.bipush 22, 2) := by decide +kernel
theorem dX5_init_23 : decode cX5_init 23 = .ok (.newarray .int, 2) := by decide +kernel
theorem dX5_init_25 : decode cX5_init 25 = .ok (.putfield 16, 3) := by decide +kernel
theorem dX5_init_28 : decode cX5_init 28 = .ok (.aload_n 0, 1) := by decide +kernel
theorem dX5_init_29 : decode cX5_init 29 = .ok (.bipush 22, 2) := by decide +kernel
theorem dX5_init_31 : decode cX5_init 31 = .ok (.newarray .int, 2) := by decide +kernel
theorem dX5_init_33 : decode cX5_init 33 = .ok (.putfield 19, 3) := by decide +kernel
theorem dX5_init_36 : decode cX5_init 36 = .ok (.aload_n 0, 1) := by decide +kernel
theorem dX5_init_37 : decode cX5_init 37 = .ok (.bipush 22, 2) := by decide +kernel
theorem dX5_init_39 : decode cX5_init 39 = .ok (.newarray .int, 2) := by decide +kernel
theorem dX5_init_41 : decode cX5_init 41 = .ok (.putfield 22, 3) := by decide +kernel
theorem dX5_init_44 : decode cX5_init 44 = .ok (.aload_n 0, 1) := by decide +kernel
theorem dX5_init_45 : decode cX5_init 45 = .ok (.bipush 95, 2) := by decide +kernel
theorem dX5_init_47 : decode cX5_init 47 = .ok (.newarray .int, 2) := by decide +kernel
theorem dX5_init_49 : decode cX5_init 49 = .ok (.putfield 25, 3) := by decide +kernel
theorem dX5_init_52 : decode cX5_init 52 = .ok (.aload_n 0, 1) := by decide +kernel
theorem dX5_init_53 : decode cX5_init 53 = .ok (.bipush 20, 2) := by decide +kernel
theorem dX5_init_55 : decode cX5_init 55 = .ok (.newarray .int, 2) := by decide +kernel
theorem dX5_init_57 : decode cX5_init 57 = .ok (.putfield 28, 3) := by decide +kernel
theorem dX5_init_60 : decode cX5_init 60 = .ok (.aload_n 0, 1) := by decide +kernel
theorem dX5_init_61 : decode cX5_init 61 = .ok (.bipush 32, 2) := by decide +kernel
theorem dX5_init_63 : decode cX5_init 63 = .ok (.newarray .int, 2) := by decide +kernel
theorem dX5_init_65 : decode cX5_init 65 = .ok (.putfield 31, 3) := by decide +kernel
theorem dX5_init_68 : decode cX5_init 68 = .ok (.aload_n 0, 1) := by decide +kernel
theorem dX5_init_69 : decode cX5_init 69 = .ok (.bipush 32, 2) := by decide +kernel
theorem dX5_init_71 : decode cX5_init 71 = .ok (.newarray .int, 2) := by decide +kernel
theorem dX5_init_73 : decode cX5_init 73 = .ok (.putfield 34, 3) := by decide +kernel
theorem dX5_init_76 : decode cX5_init 76 = .ok (.aload_n 0, 1) := by decide +kernel
theorem dX5_init_77 : decode cX5_init 77 = .ok (.bipush 32, 2) := by decide +kernel
theorem dX5_init_79 : decode cX5_init 79 = .ok (.newarray .long, 2) := by decide +kernel
theorem dX5_init_81 : decode cX5_init 81 = .ok (.putfield 37, 3) := by decide +kernel
theorem dX5_init_84 : decode cX5_init 84 = .ok (.aload_n 0, 1) := by decide +kernel
theorem dX5_init_85 : decode cX5_init 85 = .ok (.iload_n 1, 1) := by decide +kernel
theorem dX5_init_86 : decode cX5_init 86 = .ok (.iconst 1, 1) := by decide +kernel
theorem dX5_init_87 : decode cX5_init 87 = .ok (.if_icmp .ge 7, 3) := by decide +kernel
theorem dX5_init_90 : decode cX5_init 90 = .ok (.iconst 1, 1) := by decide +kernel
theorem dX5_init_91 : decode cX5_init 91 = .ok (.goto 15, 3) := by decide +kernel
theorem dX5_init_94 : decode cX5_init 94 = .ok (.iload_n 1, 1) := by decide +kernel
theorem dX5_init_95 : decode cX5_init 95 = .ok (.bipush 15, 2) := by decide +kernel
theorem dX5_init_97 : decode cX5_init 97 = .ok (.if_icmp .le 8, 3) := by decide +kernel
theorem dX5_init_100 : decode cX5_init 100 = .ok (.bipush 15, 2) := by decide +kernel
theorem dX5_init_102 : decode cX5_init 102 = .ok (.goto 4, 3) := by decide +kernel
theorem dX5_init_105 : decode cX5_init 105 = .ok (.iload_n 1, 1) := by decide +kernel
theorem dX5_init_106 : decode cX5_init 106 = .ok (.putfield 41, 3) := by decide +kernel
theorem dX5_init_109 : decode cX5_init 109 = .ok (.aload_n 0, 1) := by decide +kernel
theorem dX5_init_110 : decode cX5_init 110 = .ok (.sipush 4096, 3) := by decide +kernel
theorem dX5_init_113 : decode cX5_init 113 = .ok (.iconst 0, 1) := by decide +kernel
theorem dX5_init_114 : decode cX5_init 114 = .ok (.iconst 4, 1) := by decide +kernel
theorem dX5_init_115 : decode cX5_init 115 = .ok (.iconst 1, 1) := by decide +kernel
theorem dX5_init_116 : decode cX5_init 116 = .ok (.invokevirtual 45, 3) := by decide +kernel
theorem dX5_init_119 : decode cX5_init 119 = .ok (.aload_n 0, 1) := by decide +kernel
theorem dX5_init_120 : decode cX5_init 120 = .ok (.sipush 4097, 3) := by decide +kernel
theorem dX5_init_123 : decode cX5_init 123 = .ok (.iconst 0, 1) := by decide +kernel
theorem dX5_init_124 : decode cX5_init 124 = .ok (.iconst 1, 1) := by decide +kernel
theorem dX5_init_125 : decode cX5_init 125 = .ok (.iconst 5, 1) := by decide +kernel
theorem dX5_init_126 : decode cX5_init 126 = .ok (.invokevirtual 45, 3) := by decide +kernel
theorem dX5_init_129 : decode cX5_init 129 = .ok (.aload_n 0, 1) := by decide +kernel
theorem dX5_init_130 : decode cX5_init 130 = .ok (.sipush 4119, 3) := by decide +kernel
theorem dX5_init_133 : decode cX5_init 133 = .ok (.iconst 0, 1) := by decide +kernel
theorem dX5_init_134 : decode cX5_init 134 = .ok (.iconst 2, 1) := by decide +kernel
theorem dX5_init_135 : decode cX5_init 135 = .ok (.iconst 3, 1) := by decide +kernel
theorem dX5_init_136 : decode cX5_init 136 = .ok (.invokevirtual 45, 3) := by decide +kernel
theorem dX5_init_139 : decode cX5_init 139 = .ok (.aload_n 0, 1) := by decide +kernel
theorem dX5_init_140 : decode cX5_init 140 = .ok (.sipush 5632, 3) := by decide +kernel
theorem dX5_init_143 : decode cX5_init 143 = .ok (.invokevirtual 49, 3) := by decide +kernel
theorem dX5_init_146 : decode cX5_init 146 = .ok (.aload_n 0, 1) := by decide +kernel
theorem dX5_init_147 : decode cX5_init 147 = .ok (.sipush 6144, 3) := by decide +kernel
theorem dX5_init_150 : decode cX5_init 150 = .ok (.iconst 2, 1) := by decide +kernel
theorem dX5_init_151 : decode cX5_init 151 = .ok (.iconst 1, 1) := by decide +kernel
theorem dX5_init_152 : decode cX5_init 152 = .ok (.iconst 3, 1) := by decide +kernel
theorem dX5_init_153 : decode cX5_init 153 = .ok (.invokevirtual 45, 3) := by decide +kernel
theorem dX5_init_156 : decode cX5_init 156 = .ok (.aload_n 0, 1) := by decide +kernel
theorem dX5_init_157 : decode cX5_init 157 = .ok (.sipush 6656, 3) := by decide +kernel
theorem dX5_init_160 : decode cX5_init 160 = .ok (.invokevirtual 49, 3) := by decide +kernel
theorem dX5_init_163 : decode cX5_init 163 = .ok (.aload_n 0, 1) := by decide +kernel
theorem dX5_init_164 : decode cX5_init 164 = .ok (.sipush 8192, 3) := by decide +kernel
theorem dX5_init_167 : decode cX5_init 167 = .ok (.iconst 0, 1) := by decide +kernel
theorem dX5_init_168 : decode cX5_init 168 = .ok (.iconst 1, 1) := by decide +kernel
theorem dX5_init_169 : decode cX5_init 169 = .ok (.bipush 7, 2) := by decide +kernel
theorem dX5_init_171 : decode cX5_init 171 = .ok (.invokevirtual 45, 3) := by decide +kernel
theorem dX5_init_174 : decode cX5_init 174 = .ok (.aload_n 0, 1) := by decide +kernel
theorem dX5_init_175 : decode cX5_init 175 = .ok (.sipush 8193, 3) := by decide +kernel
theorem dX5_init_178 : decode cX5_init 178 = .ok (.iconst 0, 1) := by decide +kernel
theorem dX5_init_179 : decode cX5_init 179 = .ok (.iconst 2, 1) := by decide +kernel
theorem dX5_init_180 : decode cX5_init 180 = .ok (.bipush 7, 2) := by decide +kernel
theorem dX5_init_182 : decode cX5_init 182 = .ok (.invokevirtual 45, 3) := by decide +kernel
theorem dX5_init_185 : decode cX5_init 185 = .ok (.aload_n 0, 1) := by decide +kernel
theorem dX5_init_186 : decode cX5_init 186 = .ok (.sipush 8194, 3) := by decide +kernel
theorem dX5_init_189 : decode cX5_init 189 = .ok (.iconst 0, 1) := by decide +kernel
theorem dX5_init_190 : decode cX5_init 190 = .ok (.iconst 4, 1) := by decide +kernel
theorem dX5_init_191 : decode cX5_init 191 = .ok (.bipush 7, 2) := by decide +kernel
theorem dX5_init_193 : decode cX5_init 193 = .ok (.invokevirtual 45, 3) := by decide +kernel
theorem dX5_init_196 : decode cX5_init 196 = .ok (.aload_n 0, 1) := by decide +kernel
theorem dX5_init_197 : decode cX5_init 197 = .ok (.sipush 8195, 3) := by decide +kernel
theorem dX5_init_200 : decode cX5_init 200 = .ok (.iconst 0, 1) := by decide +kernel
theorem dX5_init_201 : decode cX5_init 201 = .ok (.iconst 4, 1) := by decide +kernel
theorem dX5_init_202 : decode cX5_init 202 = .ok (.iconst 5, 1) := by decide +kernel
theorem dX5_init_203 : decode cX5_init 203 = .ok (.invokevirtual 45, 3) := by decide +kernel
theorem dX5_init_206 : decode cX5_init 206 = .ok (.aload_n 0, 1) := by decide +kernel
theorem dX5_init_207 : decode cX5_init 207 = .ok (.sipush 8196, 3) := by decide +kernel
theorem dX5_init_210 : decode cX5_init 210 = .ok (.iconst 0, 1) := by decide +kernel
theorem dX5_init_211 : decode cX5_init 211 = .ok (.bipush 12, 2) := by decide +kernel
theorem dX5_init_213 : decode cX5_init 213 = .ok (.iconst 3, 1) := by decide +kernel
theorem dX5_init_214 : decode cX5_init 214 = .ok (.invokevirtual 45, 3) := by decide +kernel
theorem dX5_init_217 : decode cX5_init 217 = .ok (.aload_n 0, 1) := by decide +kernel
theorem dX5_init_218 : decode cX5_init 218 = .ok (.sipush 8197, 3) := by decide +kernel
theorem dX5_init_221 : decode cX5_init 221 = .ok (.iconst 0, 1) := by decide +kernel
theorem dX5_init_222 : decode cX5_init 222 = .ok (.bipush 8, 2) := by decide +kernel
theorem dX5_init_224 : decode cX5_init 224 = .ok (.bipush 7, 2) := by decide +kernel
theorem dX5_init_226 : decode cX5_init 226 = .ok (.invokevirtual 45, 3) := by decide +kernel
theorem dX5_init_229 : decode cX5_init 229 = .ok (.aload_n 0, 1) := by decide +kernel
theorem dX5_init_230 : decode cX5_init 230 = .ok (.sipush 8198, 3) := by decide +kernel
theorem dX5_init_233 : decode cX5_init 233 = .ok (.iconst 0, 1) := by decide +kernel
theorem dX5_init_234 : decode cX5_init 234 = .ok (.iconst 2, 1) := by decide +kernel
theorem dX5_init_235 : decode cX5_init 235 = .ok (.bipush 6, 2) := by decide +kernel
theorem dX5_init_237 : decode cX5_init 237 = .ok (.invokevirtual 45, 3) := by decide +kernel
theorem dX5_init_240 : decode cX5_init 240 = .ok (.aload_n 0, 1) := by decide +kernel
theorem dX5_init_241 : decode cX5_init 241 = .ok (.sipush 8199, 3) := by decide +kernel
theorem dX5_init_244 : decode cX5_init 244 = .ok (.iconst 0, 1) := by decide +kernel
theorem dX5_init_245 : decode cX5_init 245 = .ok (.bipush 20, 2) := by decide +kernel
theorem dX5_init_247 : decode cX5_init 247 = .ok (.iconst 1, 1) := by decide +kernel
theorem dX5_init_248 : decode cX5_init 248 = .ok (.invokevirtual 45, 3) := by decide +kernel
theorem dX5_init_251 : decode cX5_init 251 = .ok (.aload_n 0, 1) := by decide +kernel
theorem dX5_init_252 : decode cX5_init 252 = .ok (.ldc 53, 2) := by decide +kernel
theorem dX5_init_254 : decode cX5_init 254 = .ok (.invokevirtual 54, 3) := by decide +kernel
theorem dX5_init_257 : decode cX5_init 257 = .ok (.aload_n 0, 1) := by decide +kernel
theorem dX5_init_258 : decode cX5_init 258 = .ok (.invokevirtual 57, 3) := by decide +kernel
theorem dX5_init_261 : decode cX5_init 261 = .ok (.return_, 1) := by decide +kernel
theorem dX5_add_0 : decode cX5_add 0 = .ok (.aload_n 0, 1) := by decide +kernel
theorem dX5_add_1 : decode cX5_add 1 = .ok (.getfield 7, 3) := by decide +kernel
theorem dX5_add_4 : decode cX5_add 4 = .ok (.aload_n 0, 1) := by decide +kernel
theorem dX5_add_5 : decode cX5_add 5 = .ok (.getfield 60, 3) := by decide +kernel
theorem dX5_add_8 : decode cX5_add 8 = .ok (.iload_n 1, 1) := by decide +kernel
theorem dX5_add_9 : decode cX5_add 9 = .ok (.iastore, 1) := by decide +kernel
theorem dX5_add_10 : decode cX5_add 10 = .ok (.aload_n 0, 1) := by decide +kernel
theorem dX5_add_11 : decode cX5_add 11 = .ok (.getfield 13, 3) := by decide +kernel
theorem dX5_add_14 : decode cX5_add 14 = .ok (.aload_n 0, 1) := by decide +kernel
theorem dX5_add_15 : decode cX5_add 15 = .ok (.getfield 60, 3) := by decide +kernel
theorem dX5_add_18 : decode cX5_add 18 = .ok (.iload_n 2, 1) := by decide +kernel
theorem dX5_add_19 : decode cX5_add 19 = .ok (.iastore, 1) := by decide +kernel
theorem dX5_add_20 : decode cX5_add 20 = .ok (.aload_n 0, 1) := by decide +kernel
theorem dX5_add_21 : decode cX5_add 21 = .ok (.getfield 16, 3) := by decide +kernel
theorem dX5_add_24 : decode cX5_add 24 = .ok (.aload_n 0, 1) := by decide +kernel
theorem dX5_add_25 : decode cX5_add 25 = .ok (.getfield 60, 3) := by decide +kernel
theorem dX5_add_28 : decode cX5_add 28 = .ok (.iload_n 3, 1) := by decide +kernel
theorem dX5_add_29 : decode cX5_add 29 = .ok (.iastore, 1) := by decide +kernel
theorem dX5_add_30 : decode cX5_add 30 = .ok (.aload_n 0, 1) := by decide +kernel
theorem dX5_add_31 : decode cX5_add 31 = .ok (.getfield 19, 3) := by decide +kernel
theorem dX5_add_34 : decode cX5_add 34 = .ok (.aload_n 0, 1) := by decide +kernel
theorem dX5_add_35 : decode cX5_add 35 = .ok (.getfield 60, 3) := by decide +kernel
theorem dX5_add_38 : decode cX5_add 38 = .ok (.iload 4, 2) := by decide +kernel
theorem dX5_add_40 : decode cX5_add 40 = .ok (.iastore, 1) := by decide +kernel
theorem dX5_add_41 : decode cX5_add 41 = .ok (.aload_n 0, 1) := by decide +kernel
theorem dX5_add_42 : decode cX5_add 42 = .ok (.getfield 22, 3) := by decide +kernel
theorem dX5_add_45 : decode cX5_add 45 = .ok (.aload_n 0, 1) := by decide +kernel
theorem dX5_add_46 : decode cX5_add 46 = .ok (.getfield 60, 3) := by decide +kernel
theorem dX5_add_49 : decode cX5_add 49 = .ok (.aload_n 0, 1) := by decide +kernel
theorem dX5_add_50 : decode cX5_add 50 = .ok (.getfield 63, 3) := by decide +kernel
theorem dX5_add_53 : decode cX5_add 53 = .ok (.iastore, 1) := by decide +kernel
theorem dX5_add_54 : decode cX5_add 54 = .ok (.aload_n 0, 1) := by decide +kernel
theorem dX5_add_55 : decode cX5_add 55 = .ok (.dup, 1) := by decide +kernel
theorem dX5_add_56 : decode cX5_add 56 = .ok (.getfield 63, 3) := by decide +kernel
theorem dX5_add_59 : decode cX5_add 59 = .ok (.iload_n 3, 1) := by decide +kernel
theorem dX5_add_60 : decode cX5_add 60 = .ok (.iadd, 1) := by decide +kernel
theorem dX5_add_61 : decode cX5_add 61 = .ok (.putfield 63, 3) := by decide +kernel
theorem dX5_add_64 : decode cX5_add 64 = .ok (.aload_n 0, 1) := by decide +kernel
theorem dX5_add_65 : decode cX5_add 65 = .ok (.dup, 1) := by decide +kernel
theorem dX5_add_66 : decode cX5_add 66 = .ok (.getfield 60, 3) := by decide +kernel
theorem dX5_add_69 : decode cX5_add 69 = .ok (.iconst 1, 1) := by decide +kernel
theorem dX5_add_70 : decode cX5_add 70 = .ok (.iadd, 1) := by decide +kernel
theorem dX5_add_71 : decode cX5_add 71 = .ok (.putfield 60, 3) := by decide +kernel
theorem dX5_add_74 : decode cX5_add 74 = .ok (.return_, 1) := by decide +kernel
theorem dX5_addMap_0 : decode cX5_addMap 0 = .ok (.aload_n 0, 1) := by decide +kernel
theorem dX5_addMap_1 : decode cX5_addMap 1 = .ok (.iload_n 1, 1) := by decide +kernel
theorem dX5_addMap_2 : decode cX5_addMap 2 = .ok (.iconst 0, 1) := by decide +kernel
theorem dX5_addMap_3 : decode cX5_addMap 3 = .ok (.iconst 1, 1) := by decide +kernel
theorem dX5_addMap_4 : decode cX5_addMap 4 = .ok (.iconst 3, 1) := by decide +kernel
theorem dX5_addMap_5 : decode cX5_addMap 5 = .ok (.invokevirtual 45, 3) := by decide +kernel
theorem dX5_addMap_8 : decode cX5_addMap 8 = .ok (.iconst 1, 1) := by decide +kernel
theorem dX5_addMap_9 : decode cX5_addMap 9 = .ok (.istore_n 2, 1) := by decide +kernel
theorem dX5_addMap_10 : decode cX5_addMap 10 = .ok (.iload_n 2, 1) := by decide +kernel
theorem dX5_addMap_11 : decode cX5_addMap 11 = .ok (.iconst 5, 1) := by decide +kernel
theorem dX5_addMap_12 : decode cX5_addMap 12 = .ok (.if_icmp .ge 17, 3) := by decide +kernel
theorem dX5_addMap_15 : decode cX5_addMap 15 = .ok (.aload_n 0, 1) := by decide +kernel
theorem dX5_addMap_16 : decode cX5_addMap 16 = .ok (.iload_n 1, 1) := by decide +kernel
theorem dX5_addMap_17 : decode cX5_addMap 17 = .ok (.iload_n 2, 1) := by decide +kernel
theorem dX5_addMap_18 : decode cX5_addMap 18 = .ok (.iconst 4, 1) := by decide +kernel
theorem dX5_addMap_19 : decode cX5_addMap 19 = .ok (.iconst 3, 1) := by decide +kernel
theorem dX5_addMap_20 : decode cX5_addMap 20 = .ok (.invokevirtual 45, 3) := by decide +kernel
theorem dX5_addMap_23 : decode cX5_addMap 23 = .ok (.iinc 2 1, 3) := by decide +kernel
theorem dX5_addMap_26 : decode cX5_addMap 26 = .ok (.goto (-16), 3) := by decide +kernel
theorem dX5_addMap_29 : decode cX5_addMap 29 = .ok (.return_, 1) := by decide +kernel
theorem dX5_reset_0 : decode cX5_reset 0 = .ok (.iconst 0, 1) := by decide +kernel
theorem dX5_reset_1 : decode cX5_reset 1 = .ok (.istore_n 2, 1) := by decide +kernel
theorem dX5_reset_2 : decode cX5_reset 2 = .ok (.iload_n 2, 1) := by decide +kernel
theorem dX5_reset_3 : decode cX5_reset 3 = .ok (.bipush 22, 2) := by decide +kernel
theorem dX5_reset_5 : decode cX5_reset 5 = .ok (.if_icmp .ge 98, 3) := by decide +kernel
theorem dX5_reset_8 : decode cX5_reset 8 = .ok (.iconst 0, 1) := by decide +kernel
theorem dX5_reset_9 : decode cX5_reset 9 = .ok (.istore_n 3, 1) := by decide +kernel
theorem dX5_reset_10 : decode cX5_reset 10 = .ok (.iload_n 3, 1) := by decide +kernel
theorem dX5_reset_11 : decode cX5_reset 11 = .ok (.aload_n 0, 1) := by decide +kernel
theorem dX5_reset_12 : decode cX5_reset 12 = .ok (.getfield 16, 3) := by decide +kernel
theorem dX5_reset_15 : decode cX5_reset 15 = .ok (.iload_n 2, 1) := by decide +kernel
theorem dX5_reset_16 : decode cX5_reset 16 = .ok (.iaload, 1) := by decide +kernel
theorem dX5_reset_17 : decode cX5_reset 17 = .ok (.if_icmp .ge 80, 3) := by decide +kernel
theorem dX5_reset_20 : decode cX5_reset 20 = .ok (.aload_n 0, 1) := by decide +kernel
theorem dX5_reset_21 : decode cX5_reset 21 = .ok (.getfield 7, 3) := by decide +kernel
theorem dX5_reset_24 : decode cX5_reset 24 = .ok (.iload_n 2, 1) := by decide +kernel
theorem dX5_reset_25 : decode cX5_reset 25 = .ok (.iaload, 1) := by decide +kernel
theorem dX5_reset_26 : decode cX5_reset 26 = .ok (.iload_n 1, 1) := by decide +kernel
theorem dX5_reset_27 : decode cX5_reset 27 = .ok (.if_icmp .ge 70, 3) := by decide +kernel
theorem dX5_reset_30 : decode cX5_reset 30 = .ok (.iload_n 2, 1) := by decide +kernel
theorem dX5_reset_31 : decode cX5_reset 31 = .ok (.ifCond .ne 17, 3) := by decide +kernel
theorem dX5_reset_34 : decode cX5_reset 34 = .ok (.ldc 66, 2) := by decide +kernel
theorem dX5_reset_36 : decode cX5_reset 36 = .ok (.bipush 8, 2) := by decide +kernel
theorem dX5_reset_38 : decode cX5_reset 38 = .ok (.iload_n 3, 1) := by decide +kernel
theorem dX5_reset_39 : decode cX5_reset 39 = .ok (.imul, 1) := by decide +kernel
theorem dX5_reset_40 : decode cX5_reset 40 = .ok (.ishr, 1) := by decide +kernel
theorem dX5_reset_41 : decode cX5_reset 41 = .ok (.sipush 255, 3) := by decide +kernel
theorem dX5_reset_44 : decode cX5_reset 44 = .ok (.iand, 1) := by decide +kernel
theorem dX5_reset_45 : decode cX5_reset 45 = .ok (.goto 29, 3) := by decide +kernel
theorem dX5_reset_48 : decode cX5_reset 48 = .ok (.iload_n 2, 1) := by decide +kernel
theorem dX5_reset_49 : decode cX5_reset 49 = .ok (.bipush 8, 2) := by decide +kernel
theorem dX5_reset_51 : decode cX5_reset 51 = .ok (.if_icmp .ne 9, 3) := by decide +kernel
theorem dX5_reset_54 : decode cX5_reset 54 = .ok (.sipush 255, 3) := by decide +kernel
theorem dX5_reset_57 : decode cX5_reset 57 = .ok (.goto 17, 3) := by decide +kernel
theorem dX5_reset_60 : decode cX5_reset 60 = .ok (.iload_n 2, 1) := by decide +kernel
theorem dX5_reset_61 : decode cX5_reset 61 = .ok (.bipush 21, 2) := by decide +kernel
theorem dX5_reset_63 : decode cX5_reset 63 = .ok (.if_icmp .ne 10, 3) := by decide +kernel
theorem dX5_reset_66 : decode cX5_reset 66 = .ok (.bipush 65, 2) := by decide +kernel
theorem dX5_reset_68 : decode cX5_reset 68 = .ok (.iload_n 3, 1) := by decide +kernel
theorem dX5_reset_69 : decode cX5_reset 69 = .ok (.iadd, 1) := by decide +kernel
theorem dX5_reset_70 : decode cX5_reset 70 = .ok (.goto 4, 3) := by decide +kernel
theorem dX5_reset_73 : decode cX5_reset 73 = .ok (.iconst 0, 1) := by decide +kernel
theorem dX5_reset_74 : decode cX5_reset 74 = .ok (.istore 4, 2) := by decide +kernel
theorem dX5_reset_76 : decode cX5_reset 76 = .ok (.aload_n 0, 1) := by decide +kernel
theorem dX5_reset_77 : decode cX5_reset 77 = .ok (.getfield 25, 3) := by decide +kernel
theorem dX5_reset_80 : decode cX5_reset 80 = .ok (.aload_n 0, 1) := by decide +kernel
theorem dX5_reset_81 : decode cX5_reset 81 = .ok (.getfield 22, 3) := by decide +kernel
theorem dX5_reset_84 : decode cX5_reset 84 = .ok (.iload_n 2, 1) := by decide +kernel
theorem dX5_reset_85 : decode cX5_reset 85 = .ok (.iaload, 1) := by decide +kernel
theorem dX5_reset_86 : decode cX5_reset 86 = .ok (.iload_n 3, 1) := by decide +kernel
theorem dX5_reset_87 : decode cX5_reset 87 = .ok (.iadd, 1) := by decide +kernel
theorem dX5_reset_88 : decode cX5_reset 88 = .ok (.iload 4, 2) := by decide +kernel
theorem dX5_reset_90 : decode cX5_reset 90 = .ok (.iastore, 1) := by decide +kernel
theorem dX5_reset_91 : decode cX5_reset 91 = .ok (.iinc 3 1, 3) := by decide +kernel
theorem dX5_reset_94 : decode cX5_reset 94 = .ok (.goto (-84), 3) := by decide +kernel
theorem dX5_reset_97 : decode cX5_reset 97 = .ok (.iinc 2 1, 3) := by decide +kernel
theorem dX5_reset_100 : decode cX5_reset 100 = .ok (.goto (-98), 3) := by decide +kernel
theorem dX5_reset_103 : decode cX5_reset 103 = .ok (.return_, 1) := by decide +kernel
theorem dX5_boot_0 : decode cX5_boot 0 = .ok (.aload_n 0, 1) := by decide +kernel
theorem dX5_boot_1 : decode cX5_boot 1 = .ok (.sipush 1792, 3) := by decide +kernel
theorem dX5_boot_4 : decode cX5_boot 4 = .ok (.aload_n 0, 1) := by decide +kernel
theorem dX5_boot_5 : decode cX5_boot 5 = .ok (.getfield 41, 3) := by decide +kernel
theorem dX5_boot_8 : decode cX5_boot 8 = .ok (.iadd, 1) := by decide +kernel
theorem dX5_boot_9 : decode cX5_boot 9 = .ok (.iconst 1, 1) := by decide +kernel
theorem dX5_boot_10 : decode cX5_boot 10 = .ok (.lconst 0, 1) := by decide +kernel
theorem dX5_boot_11 : decode cX5_boot 11 = .ok (.invokevirtual 78, 3) := by decide +kernel
theorem dX5_boot_14 : decode cX5_boot 14 = .ok (.aload_n 0, 1) := by decide +kernel
theorem dX5_boot_15 : decode cX5_boot 15 = .ok (.bipush 127, 2) := by decide +kernel
theorem dX5_boot_17 : decode cX5_boot 17 = .ok (.putfield 82, 3) := by decide +kernel
theorem dX5_boot_20 : decode cX5_boot 20 = .ok (.aload_n 0, 1) := by decide +kernel
theorem dX5_boot_21 : decode cX5_boot 21 = .ok (.iconst 0, 1) := by decide +kernel
theorem dX5_boot_22 : decode cX5_boot 22 = .ok (.putfield 85, 3) := by decide +kernel
theorem dX5_boot_25 : decode cX5_boot 25 = .ok (.aload_n 0, 1) := by decide +kernel
theorem dX5_boot_26 : decode cX5_boot 26 = .ok (.iconst 0, 1) := by decide +kernel
theorem dX5_boot_27 : decode cX5_boot 27 = .ok (.putfield 88, 3) := by decide +kernel
theorem dX5_boot_30 : decode cX5_boot 30 = .ok (.aload_n 0, 1) := by decide +kernel
theorem dX5_boot_31 : decode cX5_boot 31 = .ok (.iconst 0, 1) := by decide +kernel
theorem dX5_boot_32 : decode cX5_boot 32 = .ok (.putfield 91, 3) := by decide +kernel
theorem dX5_boot_35 : decode cX5_boot 35 = .ok (.aload_n 0, 1) := by decide +kernel
theorem dX5_boot_36 : decode cX5_boot 36 = .ok (.iconst 0, 1) := by decide +kernel
theorem dX5_boot_37 : decode cX5_boot 37 = .ok (.putfield 94, 3) := by decide +kernel
theorem dX5_boot_40 : decode cX5_boot 40 = .ok (.return_, 1) := by decide +kernel
theorem dX5_send_0 : decode cX5_send 0 = .ok (.aload_n 0, 1) := by decide +kernel
theorem dX5_send_1 : decode cX5_send 1 = .ok (.dup, 1) := by decide +kernel
theorem dX5_send_2 : decode cX5_send 2 = .ok (.getfield 72, 3) := by decide +kernel
theorem dX5_send_5 : decode cX5_send 5 = .ok (.iconst 1, 1) := by decide +kernel
theorem dX5_send_6 : decode cX5_send 6 = .ok (.iadd, 1) := by decide +kernel
theorem dX5_send_7 : decode cX5_send 7 = .ok (.putfield 72, 3) := by decide +kernel
theorem dX5_send_10 : decode cX5_send 10 = .ok (.aload_n 0, 1) := by decide +kernel
theorem dX5_send_11 : decode cX5_send 11 = .ok (.getfield 75, 3) := by decide +kernel
theorem dX5_send_14 : decode cX5_send 14 = .ok (.bipush 32, 2) := by decide +kernel
theorem dX5_send_16 : decode cX5_send 16 = .ok (.if_icmp .ge 43, 3) := by decide +kernel
theorem dX5_send_19 : decode cX5_send 19 = .ok (.aload_n 0, 1) := by decide +kernel
theorem dX5_send_20 : decode cX5_send 20 = .ok (.getfield 31, 3) := by decide +kernel
theorem dX5_send_23 : decode cX5_send 23 = .ok (.aload_n 0, 1) := by decide +kernel
theorem dX5_send_24 : decode cX5_send 24 = .ok (.getfield 75, 3) := by decide +kernel
theorem dX5_send_27 : decode cX5_send 27 = .ok (.iload_n 1, 1) := by decide +kernel
theorem dX5_send_28 : decode cX5_send 28 = .ok (.iastore, 1) := by decide +kernel
theorem dX5_send_29 : decode cX5_send 29 = .ok (.aload_n 0, 1) := by decide +kernel
theorem dX5_send_30 : decode cX5_send 30 = .ok (.getfield 34, 3) := by decide +kernel
theorem dX5_send_33 : decode cX5_send 33 = .ok (.aload_n 0, 1) := by decide +kernel
theorem dX5_send_34 : decode cX5_send 34 = .ok (.getfield 75, 3) := by decide +kernel
theorem dX5_send_37 : decode cX5_send 37 = .ok (.iload_n 2, 1) := by decide +kernel
theorem dX5_send_38 : decode cX5_send 38 = .ok (.iastore, 1) := by decide +kernel
theorem dX5_send_39 : decode cX5_send 39 = .ok (.aload_n 0, 1) := by decide +kernel
theorem dX5_send_40 : decode cX5_send 40 = .ok (.getfield 37, 3) := by decide +kernel
theorem dX5_send_43 : decode cX5_send 43 = .ok (.aload_n 0, 1) := by decide +kernel
theorem dX5_send_44 : decode cX5_send 44 = .ok (.getfield 75, 3) := by decide +kernel
theorem dX5_send_47 : decode cX5_send 47 = .ok (.lload_n 3, 1) := by decide +kernel
theorem dX5_send_48 : decode cX5_send 48 = .ok (.lastore, 1) := by decide +kernel
theorem dX5_send_49 : decode cX5_send 49 = .ok (.aload_n 0, 1) := by decide +kernel
theorem dX5_send_50 : decode cX5_send 50 = .ok (.dup, 1) := by decide +kernel
theorem dX5_send_51 : decode cX5_send 51 = .ok (.getfield 75, 3) := by decide +kernel
theorem dX5_send_54 : decode cX5_send 54 = .ok (.iconst 1, 1) := by decide +kernel
theorem dX5_send_55 : decode cX5_send 55 = .ok (.iadd, 1) := by decide +kernel
theorem dX5_send_56 : decode cX5_send 56 = .ok (.putfield 75, 3) := by decide +kernel
theorem dX5_send_59 : decode cX5_send 59 = .ok (.return_, 1) := by decide +kernel
theorem dX5_thrown_0 : decode cX5_thrown 0 = .ok (.aload_n 0, 1) := by decide +kernel
theorem dX5_thrown_1 : decode cX5_thrown 1 = .ok (.getfield 67, 3) := by decide +kernel
theorem dX5_thrown_4 : decode cX5_thrown 4 = .ok (.ireturn, 1) := by decide +kernel
theorem dX5_frame_0 : decode cX5_frame 0 = .ok (.aload_n 0, 1) := by decide +kernel
theorem dX5_frame_1 : decode cX5_frame 1 = .ok (.iload_n 1, 1) := by decide +kernel
theorem dX5_frame_2 : decode cX5_frame 2 = .ok (.ifCond .lt 20, 3) := by decide +kernel
theorem dX5_frame_5 : decode cX5_frame 5 = .ok (.iload_n 1, 1) := by decide +kernel
theorem dX5_frame_6 : decode cX5_frame 6 = .ok (.sipush 2047, 3) := by decide +kernel
theorem dX5_frame_9 : decode cX5_frame 9 = .ok (.if_icmp .gt 13, 3) := by decide +kernel
theorem dX5_frame_12 : decode cX5_frame 12 = .ok (.iload_n 2, 1) := by decide +kernel
theorem dX5_frame_13 : decode cX5_frame 13 = .ok (.ifCond .lt 9, 3) := by decide +kernel
theorem dX5_frame_16 : decode cX5_frame 16 = .ok (.iload_n 2, 1) := by decide +kernel
theorem dX5_frame_17 : decode cX5_frame 17 = .ok (.bipush 8, 2) := by decide +kernel
theorem dX5_frame_19 : decode cX5_frame 19 = .ok (.if_icmp .le 7, 3) := by decide +kernel
theorem dX5_frame_22 : decode cX5_frame 22 = .ok (.iconst 1, 1) := by decide +kernel
theorem dX5_frame_23 : decode cX5_frame 23 = .ok (.goto 4, 3) := by decide +kernel
theorem dX5_frame_26 : decode cX5_frame 26 = .ok (.iconst 0, 1) := by decide +kernel
theorem dX5_frame_27 : decode cX5_frame 27 = .ok (.putfield 67, 3) := by decide +kernel
theorem dX5_frame_30 : decode cX5_frame 30 = .ok (.aload_n 0, 1) := by decide +kernel
theorem dX5_frame_31 : decode cX5_frame 31 = .ok (.getfield 67, 3) := by decide +kernel
theorem dX5_frame_34 : decode cX5_frame 34 = .ok (.ifCond .le 5, 3) := by decide +kernel
theorem dX5_frame_37 : decode cX5_frame 37 = .ok (.iconst 0, 1) := by decide +kernel
theorem dX5_frame_38 : decode cX5_frame 38 = .ok (.ireturn, 1) := by decide +kernel
theorem dX5_frame_39 : decode cX5_frame 39 = .ok (.aload_n 0, 1) := by decide +kernel
theorem dX5_frame_40 : decode cX5_frame 40 = .ok (.iconst 0, 1) := by decide +kernel
theorem dX5_frame_41 : decode cX5_frame 41 = .ok (.putfield 72, 3) := by decide +kernel
theorem dX5_frame_44 : decode cX5_frame 44 = .ok (.iload_n 3, 1) := by decide +kernel
theorem dX5_frame_45 : decode cX5_frame 45 = .ok (.iload 4, 2) := by decide +kernel
theorem dX5_frame_47 : decode cX5_frame 47 = .ok (.invokestatic 192, 3) := by decide +kernel
theorem dX5_frame_50 : decode cX5_frame 50 = .ok (.lstore 5, 2) := by decide +kernel
theorem dX5_frame_52 : decode cX5_frame 52 = .ok (.iload_n 1, 1) := by decide +kernel
theorem dX5_frame_53 : decode cX5_frame 53 = .ok (.ifCond .ne 43, 3) := by decide +kernel
theorem dX5_frame_56 : decode cX5_frame 56 = .ok (.iload_n 2, 1) := by decide +kernel
theorem dX5_frame_57 : decode cX5_frame 57 = .ok (.iconst 2, 1) := by decide +kernel
theorem dX5_frame_58 : decode cX5_frame 58 = .ok (.if_icmp .ne 38, 3) := by decide +kernel
theorem dX5_frame_61 : decode cX5_frame 61 = .ok (.lload 5, 2) := by decide +kernel
theorem dX5_frame_63 : decode cX5_frame 63 = .ok (.iconst 1, 1) := by decide +kernel
theorem dX5_frame_64 : decode cX5_frame 64 = .ok (.invokestatic 119, 3) := by decide +kernel
theorem dX5_frame_67 : decode cX5_frame 67 = .ok (.ifCond .eq 16, 3) := by decide +kernel
theorem dX5_frame_70 : decode cX5_frame 70 = .ok (.lload 5, 2) := by decide +kernel
theorem dX5_frame_72 : decode cX5_frame 72 = .ok (.iconst 1, 1) := by decide +kernel
theorem dX5_frame_73 : decode cX5_frame 73 = .ok (.invokestatic 119, 3) := by decide +kernel
theorem dX5_frame_76 : decode cX5_frame 76 = .ok (.aload_n 0, 1) := by decide +kernel
theorem dX5_frame_77 : decode cX5_frame 77 = .ok (.getfield 41, 3) := by decide +kernel
theorem dX5_frame_80 : decode cX5_frame 80 = .ok (.if_icmp .ne 16, 3) := by decide +kernel
theorem dX5_frame_83 : decode cX5_frame 83 = .ok (.aload_n 0, 1) := by decide +kernel
theorem dX5_frame_84 : decode cX5_frame 84 = .ok (.lload 5, 2) := by decide +kernel
theorem dX5_frame_86 : decode cX5_frame 86 = .ok (.iconst 0, 1) := by decide +kernel
theorem dX5_frame_87 : decode cX5_frame 87 = .ok (.invokestatic 119, 3) := by decide +kernel
theorem dX5_frame_90 : decode cX5_frame 90 = .ok (.invokevirtual 196, 3) := by decide +kernel
theorem dX5_frame_93 : decode cX5_frame 93 = .ok (.goto 95, 3) := by decide +kernel
theorem dX5_frame_96 : decode cX5_frame 96 = .ok (.iload_n 1, 1) := by decide +kernel
theorem dX5_frame_97 : decode cX5_frame 97 = .ok (.sipush 128, 3) := by decide +kernel
theorem dX5_frame_100 : decode cX5_frame 100 = .ok (.if_icmp .ne 18, 3) := by decide +kernel
theorem dX5_frame_103 : decode cX5_frame 103 = .ok (.aload_n 0, 1) := by decide +kernel
theorem dX5_frame_104 : decode cX5_frame 104 = .ok (.getfield 82, 3) := by decide +kernel
theorem dX5_frame_107 : decode cX5_frame 107 = .ok (.iconst 5, 1) := by decide +kernel
theorem dX5_frame_108 : decode cX5_frame 108 = .ok (.if_icmp .ne 10, 3) := by decide +kernel
theorem dX5_frame_111 : decode cX5_frame 111 = .ok (.aload_n 0, 1) := by decide +kernel
theorem dX5_frame_112 : decode cX5_frame 112 = .ok (.invokevirtual 199, 3) := by decide +kernel
theorem dX5_frame_115 : decode cX5_frame 115 = .ok (.goto 73, 3) := by decide +kernel
theorem dX5_frame_118 : decode cX5_frame 118 = .ok (.iload_n 1, 1) := by decide +kernel
theorem dX5_frame_119 : decode cX5_frame 119 = .ok (.sipush 512, 3) := by decide +kernel
theorem dX5_frame_122 : decode cX5_frame 122 = .ok (.aload_n 0, 1) := by decide +kernel
theorem dX5_frame_123 : decode cX5_frame 123 = .ok (.getfield 41, 3) := by decide +kernel
theorem dX5_frame_126 : decode cX5_frame 126 = .ok (.iadd, 1) := by decide +kernel
theorem dX5_frame_127 : decode cX5_frame 127 = .ok (.if_icmp .ne 29, 3) := by decide +kernel
theorem dX5_frame_130 : decode cX5_frame 130 = .ok (.aload_n 0, 1) := by decide +kernel
theorem dX5_frame_131 : decode cX5_frame 131 = .ok (.getfield 82, 3) := by decide +kernel
theorem dX5_frame_134 : decode cX5_frame 134 = .ok (.iconst 5, 1) := by decide +kernel
theorem dX5_frame_135 : decode cX5_frame 135 = .ok (.if_icmp .ne 21, 3) := by decide +kernel
theorem dX5_frame_138 : decode cX5_frame 138 = .ok (.aload_n 0, 1) := by decide +kernel
theorem dX5_frame_139 : decode cX5_frame 139 = .ok (.iconst 3, 1) := by decide +kernel
theorem dX5_frame_140 : decode cX5_frame 140 = .ok (.invokevirtual 97, 3) := by decide +kernel
theorem dX5_frame_143 : decode cX5_frame 143 = .ok (.ifCond .eq 13, 3) := by decide +kernel
theorem dX5_frame_146 : decode cX5_frame 146 = .ok (.aload_n 0, 1) := by decide +kernel
theorem dX5_frame_147 : decode cX5_frame 147 = .ok (.iload_n 2, 1) := by decide +kernel
theorem dX5_frame_148 : decode cX5_frame 148 = .ok (.lload 5, 2) := by decide +kernel
theorem dX5_frame_150 : decode cX5_frame 150 = .ok (.invokevirtual 202, 3) := by decide +kernel
theorem dX5_frame_153 : decode cX5_frame 153 = .ok (.goto 35, 3) := by decide +kernel
theorem dX5_frame_156 : decode cX5_frame 156 = .ok (.iload_n 1, 1) := by decide +kernel
theorem dX5_frame_157 : decode cX5_frame 157 = .ok (.sipush 1536, 3) := by decide +kernel
theorem dX5_frame_160 : decode cX5_frame 160 = .ok (.aload_n 0, 1) := by decide +kernel
theorem dX5_frame_161 : decode cX5_frame 161 = .ok (.getfield 41, 3) := by decide +kernel
theorem dX5_frame_164 : decode cX5_frame 164 = .ok (.iadd, 1) := by decide +kernel
theorem dX5_frame_165 : decode cX5_frame 165 = .ok (.if_icmp .ne 23, 3) := by decide +kernel
theorem dX5_frame_168 : decode cX5_frame 168 = .ok (.iload_n 2, 1) := by decide +kernel
theorem dX5_frame_169 : decode cX5_frame 169 = .ok (.bipush 8, 2) := by decide +kernel
theorem dX5_frame_171 : decode cX5_frame 171 = .ok (.if_icmp .ne 17, 3) := by decide +kernel
theorem dX5_frame_174 : decode cX5_frame 174 = .ok (.aload_n 0, 1) := by decide +kernel
theorem dX5_frame_175 : decode cX5_frame 175 = .ok (.getfield 82, 3) := by decide +kernel
theorem dX5_frame_178 : decode cX5_frame 178 = .ok (.iconst 4, 1) := by decide +kernel
theorem dX5_frame_179 : decode cX5_frame 179 = .ok (.if_icmp .eq 9, 3) := by decide +kernel
theorem dX5_frame_182 : decode cX5_frame 182 = .ok (.aload_n 0, 1) := by decide +kernel
theorem dX5_frame_183 : decode cX5_frame 183 = .ok (.lload 5, 2) := by decide +kernel
theorem dX5_frame_185 : decode cX5_frame 185 = .ok (.invokevirtual 206, 3) := by decide +kernel
theorem dX5_frame_188 : decode cX5_frame 188 = .ok (.aload_n 0, 1) := by decide +kernel
theorem dX5_frame_189 : decode cX5_frame 189 = .ok (.invokevirtual 210, 3) := by decide +kernel
theorem dX5_frame_192 : decode cX5_frame 192 = .ok (.aload_n 0, 1) := by decide +kernel
theorem dX5_frame_193 : decode cX5_frame 193 = .ok (.getfield 72, 3) := by decide +kernel
end
section
theorem dX5_frame_196 : decode cX5_frame 196 = .ok (.ireturn, 1) := by decide +kernel
theorem dX5_both_0 : decode cX5_both 0 = .ok (.iload_n 0, 1) := by decide +kernel
theorem dX5_both_1 : decode cX5_both 1 = .ok (.i2l, 1) := by decide +kernel
theorem dX5_both_2 : decode cX5_both 2 = .ok (.ldc2_w 190, 3) := by decide +kernel
theorem dX5_both_5 : decode cX5_both 5 = .ok (.land, 1) := by decide +kernel
theorem dX5_both_6 : decode cX5_both 6 = .ok (.iload_n 1, 1) := by decide +kernel
theorem dX5_both_7 : decode cX5_both 7 = .ok (.i2l, 1) := by decide +kernel
theorem dX5_both_8 : decode cX5_both 8 = .ok (.bipush 32, 2) := by decide +kernel
theorem dX5_both_10 : decode cX5_both 10 = .ok (.lshl, 1) := by decide +kernel
theorem dX5_both_11 : decode cX5_both 11 = .ok (.lor, 1) := by decide +kernel
theorem dX5_both_12 : decode cX5_both 12 = .ok (.lreturn, 1) := by decide +kernel
theorem dX5_byteOf_0 : decode cX5_byteOf 0 = .ok (.lload_n 0, 1) := by decide +kernel
theorem dX5_byteOf_1 : decode cX5_byteOf 1 = .ok (.bipush 8, 2) := by decide +kernel
theorem dX5_byteOf_3 : decode cX5_byteOf 3 = .ok (.iload_n 2, 1) := by decide +kernel
theorem dX5_byteOf_4 : decode cX5_byteOf 4 = .ok (.imul, 1) := by decide +kernel
theorem dX5_byteOf_5 : decode cX5_byteOf 5 = .ok (.lshr, 1) := by decide +kernel
theorem dX5_byteOf_6 : decode cX5_byteOf 6 = .ok (.ldc2_w 70, 3) := by decide +kernel
theorem dX5_byteOf_9 : decode cX5_byteOf 9 = .ok (.land, 1) := by decide +kernel
theorem dX5_byteOf_10 : decode cX5_byteOf 10 = .ok (.l2i, 1) := by decide +kernel
theorem dX5_byteOf_11 : decode cX5_byteOf 11 = .ok (.ireturn, 1) := by decide +kernel
theorem dX5_command_0 : decode cX5_command 0 = .ok (.iload_n 1, 1) := by decide +kernel
theorem dX5_command_1 : decode cX5_command 1 = .ok (.iconst 1, 1) := by decide +kernel
theorem dX5_command_2 : decode cX5_command 2 = .ok (.if_icmp .ne 32, 3) := by decide +kernel
theorem dX5_command_5 : decode cX5_command 5 = .ok (.aload_n 0, 1) := by decide +kernel
theorem dX5_command_6 : decode cX5_command 6 = .ok (.getfield 82, 3) := by decide +kernel
theorem dX5_command_9 : decode cX5_command 9 = .ok (.iconst 5, 1) := by decide +kernel
theorem dX5_command_10 : decode cX5_command 10 = .ok (.if_icmp .eq 16, 3) := by decide +kernel
theorem dX5_command_13 : decode cX5_command 13 = .ok (.aload_n 0, 1) := by decide +kernel
theorem dX5_command_14 : decode cX5_command 14 = .ok (.iconst 0, 1) := by decide +kernel
theorem dX5_command_15 : decode cX5_command 15 = .ok (.putfield 91, 3) := by decide +kernel
theorem dX5_command_18 : decode cX5_command 18 = .ok (.aload_n 0, 1) := by decide +kernel
theorem dX5_command_19 : decode cX5_command 19 = .ok (.aload_n 0, 1) := by decide +kernel
theorem dX5_command_20 : decode cX5_command 20 = .ok (.invokevirtual 108, 3) := by decide +kernel
theorem dX5_command_23 : decode cX5_command 23 = .ok (.putfield 112, 3) := by decide +kernel
theorem dX5_command_26 : decode cX5_command 26 = .ok (.aload_n 0, 1) := by decide +kernel
theorem dX5_command_27 : decode cX5_command 27 = .ok (.iconst 5, 1) := by decide +kernel
theorem dX5_command_28 : decode cX5_command 28 = .ok (.putfield 82, 3) := by decide +kernel
theorem dX5_command_31 : decode cX5_command 31 = .ok (.goto 74, 3) := by decide +kernel
theorem dX5_command_34 : decode cX5_command 34 = .ok (.iload_n 1, 1) := by decide +kernel
theorem dX5_command_35 : decode cX5_command 35 = .ok (.iconst 2, 1) := by decide +kernel
theorem dX5_command_36 : decode cX5_command 36 = .ok (.if_icmp .ne 16, 3) := by decide +kernel
theorem dX5_command_39 : decode cX5_command 39 = .ok (.aload_n 0, 1) := by decide +kernel
theorem dX5_command_40 : decode cX5_command 40 = .ok (.iconst 4, 1) := by decide +kernel
theorem dX5_command_41 : decode cX5_command 41 = .ok (.putfield 82, 3) := by decide +kernel
theorem dX5_command_44 : decode cX5_command 44 = .ok (.aload_n 0, 1) := by decide +kernel
theorem dX5_command_45 : decode cX5_command 45 = .ok (.iconst 0, 1) := by decide +kernel
theorem dX5_command_46 : decode cX5_command 46 = .ok (.putfield 85, 3) := by decide +kernel
theorem dX5_command_49 : decode cX5_command 49 = .ok (.goto 56, 3) := by decide +kernel
theorem dX5_command_52 : decode cX5_command 52 = .ok (.iload_n 1, 1) := by decide +kernel
theorem dX5_command_53 : decode cX5_command 53 = .ok (.sipush 128, 3) := by decide +kernel
theorem dX5_command_56 : decode cX5_command 56 = .ok (.if_icmp .ne 12, 3) := by decide +kernel
theorem dX5_command_59 : decode cX5_command 59 = .ok (.aload_n 0, 1) := by decide +kernel
theorem dX5_command_60 : decode cX5_command 60 = .ok (.bipush 127, 2) := by decide +kernel
theorem dX5_command_62 : decode cX5_command 62 = .ok (.putfield 82, 3) := by decide +kernel
theorem dX5_command_65 : decode cX5_command 65 = .ok (.goto 40, 3) := by decide +kernel
theorem dX5_command_68 : decode cX5_command 68 = .ok (.iload_n 1, 1) := by decide +kernel
theorem dX5_command_69 : decode cX5_command 69 = .ok (.sipush 129, 3) := by decide +kernel
theorem dX5_command_72 : decode cX5_command 72 = .ok (.if_icmp .eq 10, 3) := by decide +kernel
theorem dX5_command_75 : decode cX5_command 75 = .ok (.iload_n 1, 1) := by decide +kernel
theorem dX5_command_76 : decode cX5_command 76 = .ok (.sipush 130, 3) := by decide +kernel
theorem dX5_command_79 : decode cX5_command 79 = .ok (.if_icmp .ne 26, 3) := by decide +kernel
theorem dX5_command_82 : decode cX5_command 82 = .ok (.aload_n 0, 1) := by decide +kernel
theorem dX5_command_83 : decode cX5_command 83 = .ok (.iload_n 1, 1) := by decide +kernel
theorem dX5_command_84 : decode cX5_command 84 = .ok (.sipush 129, 3) := by decide +kernel
theorem dX5_command_87 : decode cX5_command 87 = .ok (.if_icmp .ne 8, 3) := by decide +kernel
theorem dX5_command_90 : decode cX5_command 90 = .ok (.ldc 53, 2) := by decide +kernel
theorem dX5_command_92 : decode cX5_command 92 = .ok (.goto 6, 3) := by decide +kernel
theorem dX5_command_95 : decode cX5_command 95 = .ok (.sipush 8192, 3) := by decide +kernel
theorem dX5_command_98 : decode cX5_command 98 = .ok (.invokevirtual 54, 3) := by decide +kernel
theorem dX5_command_101 : decode cX5_command 101 = .ok (.aload_n 0, 1) := by decide +kernel
theorem dX5_command_102 : decode cX5_command 102 = .ok (.invokevirtual 57, 3) := by decide +kernel
theorem dX5_command_105 : decode cX5_command 105 = .ok (.return_, 1) := by decide +kernel
theorem dX5_content_0 : decode cX5_content 0 = .ok (.lconst 0, 1) := by decide +kernel
theorem dX5_content_1 : decode cX5_content 1 = .ok (.lstore_n 1, 1) := by decide +kernel
theorem dX5_content_2 : decode cX5_content 2 = .ok (.iconst 0, 1) := by decide +kernel
theorem dX5_content_3 : decode cX5_content 3 = .ok (.istore_n 3, 1) := by decide +kernel
theorem dX5_content_4 : decode cX5_content 4 = .ok (.iconst 1, 1) := by decide +kernel
theorem dX5_content_5 : decode cX5_content 5 = .ok (.istore 4, 2) := by decide +kernel
theorem dX5_content_7 : decode cX5_content 7 = .ok (.iload 4, 2) := by decide +kernel
theorem dX5_content_9 : decode cX5_content 9 = .ok (.aload_n 0, 1) := by decide +kernel
theorem dX5_content_10 : decode cX5_content 10 = .ok (.bipush 9, 2) := by decide +kernel
theorem dX5_content_12 : decode cX5_content 12 = .ok (.invokevirtual 97, 3) := by decide +kernel
theorem dX5_content_15 : decode cX5_content 15 = .ok (.if_icmp .gt 73, 3) := by decide +kernel
theorem dX5_content_18 : decode cX5_content 18 = .ok (.aload_n 0, 1) := by decide +kernel
theorem dX5_content_19 : decode cX5_content 19 = .ok (.aload_n 0, 1) := by decide +kernel
theorem dX5_content_20 : decode cX5_content 20 = .ok (.bipush 9, 2) := by decide +kernel
theorem dX5_content_22 : decode cX5_content 22 = .ok (.iload 4, 2) := by decide +kernel
theorem dX5_content_24 : decode cX5_content 24 = .ok (.iadd, 1) := by decide +kernel
theorem dX5_content_25 : decode cX5_content 25 = .ok (.invokevirtual 97, 3) := by decide +kernel
theorem dX5_content_28 : decode cX5_content 28 = .ok (.iconst 1, 1) := by decide +kernel
theorem dX5_content_29 : decode cX5_content 29 = .ok (.invokevirtual 104, 3) := by decide +kernel
theorem dX5_content_32 : decode cX5_content 32 = .ok (.istore 5, 2) := by decide +kernel
theorem dX5_content_34 : decode cX5_content 34 = .ok (.iconst 0, 1) := by decide +kernel
theorem dX5_content_35 : decode cX5_content 35 = .ok (.istore 6, 2) := by decide +kernel
theorem dX5_content_37 : decode cX5_content 37 = .ok (.iload 6, 2) := by decide +kernel
theorem dX5_content_39 : decode cX5_content 39 = .ok (.aload_n 0, 1) := by decide +kernel
theorem dX5_content_40 : decode cX5_content 40 = .ok (.getfield 16, 3) := by decide +kernel
theorem dX5_content_43 : decode cX5_content 43 = .ok (.iload 5, 2) := by decide +kernel
theorem dX5_content_45 : decode cX5_content 45 = .ok (.iaload, 1) := by decide +kernel
theorem dX5_content_46 : decode cX5_content 46 = .ok (.if_icmp .ge 36, 3) := by decide +kernel
theorem dX5_content_49 : decode cX5_content 49 = .ok (.lload_n 1, 1) := by decide +kernel
theorem dX5_content_50 : decode cX5_content 50 = .ok (.aload_n 0, 1) := by decide +kernel
theorem dX5_content_51 : decode cX5_content 51 = .ok (.getfield 25, 3) := by decide +kernel
theorem dX5_content_54 : decode cX5_content 54 = .ok (.aload_n 0, 1) := by decide +kernel
theorem dX5_content_55 : decode cX5_content 55 = .ok (.getfield 22, 3) := by decide +kernel
theorem dX5_content_58 : decode cX5_content 58 = .ok (.iload 5, 2) := by decide +kernel
theorem dX5_content_60 : decode cX5_content 60 = .ok (.iaload, 1) := by decide +kernel
theorem dX5_content_61 : decode cX5_content 61 = .ok (.iload 6, 2) := by decide +kernel
theorem dX5_content_63 : decode cX5_content 63 = .ok (.iadd, 1) := by decide +kernel
theorem dX5_content_64 : decode cX5_content 64 = .ok (.iaload, 1) := by decide +kernel
theorem dX5_content_65 : decode cX5_content 65 = .ok (.i2l, 1) := by decide +kernel
theorem dX5_content_66 : decode cX5_content 66 = .ok (.bipush 8, 2) := by decide +kernel
theorem dX5_content_68 : decode cX5_content 68 = .ok (.iload_n 3, 1) := by decide +kernel
theorem dX5_content_69 : decode cX5_content 69 = .ok (.imul, 1) := by decide +kernel
theorem dX5_content_70 : decode cX5_content 70 = .ok (.lshl, 1) := by decide +kernel
theorem dX5_content_71 : decode cX5_content 71 = .ok (.lor, 1) := by decide +kernel
theorem dX5_content_72 : decode cX5_content 72 = .ok (.lstore_n 1, 1) := by decide +kernel
theorem dX5_content_73 : decode cX5_content 73 = .ok (.iinc 3 1, 3) := by decide +kernel
theorem dX5_content_76 : decode cX5_content 76 = .ok (.iinc 6 1, 3) := by decide +kernel
theorem dX5_content_79 : decode cX5_content 79 = .ok (.goto (-42), 3) := by decide +kernel
theorem dX5_content_82 : decode cX5_content 82 = .ok (.iinc 4 1, 3) := by decide +kernel
theorem dX5_content_85 : decode cX5_content 85 = .ok (.goto (-78), 3) := by decide +kernel
theorem dX5_content_88 : decode cX5_content 88 = .ok (.lload_n 1, 1) := by decide +kernel
theorem dX5_content_89 : decode cX5_content 89 = .ok (.lreturn, 1) := by decide +kernel
theorem dX5_number_0 : decode cX5_number 0 = .ok (.iconst 0, 1) := by decide +kernel
theorem dX5_number_1 : decode cX5_number 1 = .ok (.istore_n 2, 1) := by decide +kernel
theorem dX5_number_2 : decode cX5_number 2 = .ok (.iconst 0, 1) := by decide +kernel
theorem dX5_number_3 : decode cX5_number 3 = .ok (.istore_n 3, 1) := by decide +kernel
theorem dX5_number_4 : decode cX5_number 4 = .ok (.iload_n 3, 1) := by decide +kernel
theorem dX5_number_5 : decode cX5_number 5 = .ok (.aload_n 0, 1) := by decide +kernel
theorem dX5_number_6 : decode cX5_number 6 = .ok (.getfield 16, 3) := by decide +kernel
theorem dX5_number_9 : decode cX5_number 9 = .ok (.iload_n 1, 1) := by decide +kernel
theorem dX5_number_10 : decode cX5_number 10 = .ok (.iaload, 1) := by decide +kernel
theorem dX5_number_11 : decode cX5_number 11 = .ok (.if_icmp .ge 35, 3) := by decide +kernel
theorem dX5_number_14 : decode cX5_number 14 = .ok (.iload_n 3, 1) := by decide +kernel
theorem dX5_number_15 : decode cX5_number 15 = .ok (.iconst 4, 1) := by decide +kernel
theorem dX5_number_16 : decode cX5_number 16 = .ok (.if_icmp .ge 30, 3) := by decide +kernel
theorem dX5_number_19 : decode cX5_number 19 = .ok (.iload_n 2, 1) := by decide +kernel
theorem dX5_number_20 : decode cX5_number 20 = .ok (.aload_n 0, 1) := by decide +kernel
theorem dX5_number_21 : decode cX5_number 21 = .ok (.getfield 25, 3) := by decide +kernel
theorem dX5_number_24 : decode cX5_number 24 = .ok (.aload_n 0, 1) := by decide +kernel
theorem dX5_number_25 : decode cX5_number 25 = .ok (.getfield 22, 3) := by decide +kernel
theorem dX5_number_28 : decode cX5_number 28 = .ok (.iload_n 1, 1) := by decide +kernel
theorem dX5_number_29 : decode cX5_number 29 = .ok (.iaload, 1) := by decide +kernel
theorem dX5_number_30 : decode cX5_number 30 = .ok (.iload_n 3, 1) := by decide +kernel
theorem dX5_number_31 : decode cX5_number 31 = .ok (.iadd, 1) := by decide +kernel
theorem dX5_number_32 : decode cX5_number 32 = .ok (.iaload, 1) := by decide +kernel
theorem dX5_number_33 : decode cX5_number 33 = .ok (.bipush 8, 2) := by decide +kernel
theorem dX5_number_35 : decode cX5_number 35 = .ok (.iload_n 3, 1) := by decide +kernel
theorem dX5_number_36 : decode cX5_number 36 = .ok (.imul, 1) := by decide +kernel
theorem dX5_number_37 : decode cX5_number 37 = .ok (.ishl, 1) := by decide +kernel
theorem dX5_number_38 : decode cX5_number 38 = .ok (.ior, 1) := by decide +kernel
theorem dX5_number_39 : decode cX5_number 39 = .ok (.istore_n 2, 1) := by decide +kernel
theorem dX5_number_40 : decode cX5_number 40 = .ok (.iinc 3 1, 3) := by decide +kernel
theorem dX5_number_43 : decode cX5_number 43 = .ok (.goto (-39), 3) := by decide +kernel
theorem dX5_number_46 : decode cX5_number 46 = .ok (.iload_n 2, 1) := by decide +kernel
theorem dX5_number_47 : decode cX5_number 47 = .ok (.ireturn, 1) := by decide +kernel
theorem dX5_named_0 : decode cX5_named 0 = .ok (.iconst 0, 1) := by decide +kernel
theorem dX5_named_1 : decode cX5_named 1 = .ok (.istore_n 3, 1) := by decide +kernel
theorem dX5_named_2 : decode cX5_named 2 = .ok (.iload_n 3, 1) := by decide +kernel
theorem dX5_named_3 : decode cX5_named 3 = .ok (.bipush 22, 2) := by decide +kernel
theorem dX5_named_5 : decode cX5_named 5 = .ok (.if_icmp .ge 79, 3) := by decide +kernel
theorem dX5_named_8 : decode cX5_named 8 = .ok (.aload_n 0, 1) := by decide +kernel
theorem dX5_named_9 : decode cX5_named 9 = .ok (.getfield 19, 3) := by decide +kernel
theorem dX5_named_12 : decode cX5_named 12 = .ok (.iload_n 3, 1) := by decide +kernel
theorem dX5_named_13 : decode cX5_named 13 = .ok (.iaload, 1) := by decide +kernel
theorem dX5_named_14 : decode cX5_named 14 = .ok (.iconst 4, 1) := by decide +kernel
theorem dX5_named_15 : decode cX5_named 15 = .ok (.iand, 1) := by decide +kernel
theorem dX5_named_16 : decode cX5_named 16 = .ok (.ifCond .eq 18, 3) := by decide +kernel
theorem dX5_named_19 : decode cX5_named 19 = .ok (.aload_n 0, 1) := by decide +kernel
theorem dX5_named_20 : decode cX5_named 20 = .ok (.getfield 19, 3) := by decide +kernel
theorem dX5_named_23 : decode cX5_named 23 = .ok (.iload_n 3, 1) := by decide +kernel
theorem dX5_named_24 : decode cX5_named 24 = .ok (.iaload, 1) := by decide +kernel
theorem dX5_named_25 : decode cX5_named 25 = .ok (.iload_n 2, 1) := by decide +kernel
theorem dX5_named_26 : decode cX5_named 26 = .ok (.iand, 1) := by decide +kernel
theorem dX5_named_27 : decode cX5_named 27 = .ok (.ifCond .eq 7, 3) := by decide +kernel
theorem dX5_named_30 : decode cX5_named 30 = .ok (.iconst 1, 1) := by decide +kernel
theorem dX5_named_31 : decode cX5_named 31 = .ok (.goto 4, 3) := by decide +kernel
theorem dX5_named_34 : decode cX5_named 34 = .ok (.iconst 0, 1) := by decide +kernel
theorem dX5_named_35 : decode cX5_named 35 = .ok (.istore 4, 2) := by decide +kernel
theorem dX5_named_37 : decode cX5_named 37 = .ok (.iload 4, 2) := by decide +kernel
theorem dX5_named_39 : decode cX5_named 39 = .ok (.ifCond .eq 39, 3) := by decide +kernel
theorem dX5_named_42 : decode cX5_named 42 = .ok (.iload_n 1, 1) := by decide +kernel
theorem dX5_named_43 : decode cX5_named 43 = .ok (.aload_n 0, 1) := by decide +kernel
theorem dX5_named_44 : decode cX5_named 44 = .ok (.getfield 7, 3) := by decide +kernel
theorem dX5_named_47 : decode cX5_named 47 = .ok (.iload_n 3, 1) := by decide +kernel
theorem dX5_named_48 : decode cX5_named 48 = .ok (.iaload, 1) := by decide +kernel
theorem dX5_named_49 : decode cX5_named 49 = .ok (.ldc 53, 2) := by decide +kernel
theorem dX5_named_51 : decode cX5_named 51 = .ok (.imul, 1) := by decide +kernel
theorem dX5_named_52 : decode cX5_named 52 = .ok (.aload_n 0, 1) := by decide +kernel
theorem dX5_named_53 : decode cX5_named 53 = .ok (.getfield 13, 3) := by decide +kernel
theorem dX5_named_56 : decode cX5_named 56 = .ok (.iload_n 3, 1) := by decide +kernel
theorem dX5_named_57 : decode cX5_named 57 = .ok (.iaload, 1) := by decide +kernel
theorem dX5_named_58 : decode cX5_named 58 = .ok (.sipush 256, 3) := by decide +kernel
theorem dX5_named_61 : decode cX5_named 61 = .ok (.imul, 1) := by decide +kernel
theorem dX5_named_62 : decode cX5_named 62 = .ok (.iadd, 1) := by decide +kernel
theorem dX5_named_63 : decode cX5_named 63 = .ok (.bipush 8, 2) := by decide +kernel
theorem dX5_named_65 : decode cX5_named 65 = .ok (.aload_n 0, 1) := by decide +kernel
theorem dX5_named_66 : decode cX5_named 66 = .ok (.getfield 16, 3) := by decide +kernel
theorem dX5_named_69 : decode cX5_named 69 = .ok (.iload_n 3, 1) := by decide +kernel
theorem dX5_named_70 : decode cX5_named 70 = .ok (.iaload, 1) := by decide +kernel
theorem dX5_named_71 : decode cX5_named 71 = .ok (.imul, 1) := by decide +kernel
theorem dX5_named_72 : decode cX5_named 72 = .ok (.iadd, 1) := by decide +kernel
theorem dX5_named_73 : decode cX5_named 73 = .ok (.if_icmp .ne 5, 3) := by decide +kernel
theorem dX5_named_76 : decode cX5_named 76 = .ok (.iload_n 3, 1) := by decide +kernel
theorem dX5_named_77 : decode cX5_named 77 = .ok (.ireturn, 1) := by decide +kernel
theorem dX5_named_78 : decode cX5_named 78 = .ok (.iinc 3 1, 3) := by decide +kernel
theorem dX5_named_81 : decode cX5_named 81 = .ok (.goto (-79), 3) := by decide +kernel
theorem dX5_named_84 : decode cX5_named 84 = .ok (.iconst (-1), 1) := by decide +kernel
theorem dX5_named_85 : decode cX5_named 85 = .ok (.ireturn, 1) := by decide +kernel
theorem dX5_sync_0 : decode cX5_sync 0 = .ok (.aload_n 0, 1) := by decide +kernel
theorem dX5_sync_1 : decode cX5_sync 1 = .ok (.bipush 8, 2) := by decide +kernel
theorem dX5_sync_3 : decode cX5_sync 3 = .ok (.invokevirtual 97, 3) := by decide +kernel
theorem dX5_sync_6 : decode cX5_sync 6 = .ok (.istore_n 1, 1) := by decide +kernel
theorem dX5_sync_7 : decode cX5_sync 7 = .ok (.aload_n 0, 1) := by decide +kernel
theorem dX5_sync_8 : decode cX5_sync 8 = .ok (.bipush 9, 2) := by decide +kernel
theorem dX5_sync_10 : decode cX5_sync 10 = .ok (.invokevirtual 97, 3) := by decide +kernel
theorem dX5_sync_13 : decode cX5_sync 13 = .ok (.ifCond .eq 10, 3) := by decide +kernel
theorem dX5_sync_16 : decode cX5_sync 16 = .ok (.iload_n 1, 1) := by decide +kernel
theorem dX5_sync_17 : decode cX5_sync 17 = .ok (.sipush 240, 3) := by decide +kernel
theorem dX5_sync_20 : decode cX5_sync 20 = .ok (.if_icmp .le 4, 3) := by decide +kernel
theorem dX5_sync_23 : decode cX5_sync 23 = .ok (.return_, 1) := by decide +kernel
theorem dX5_sync_24 : decode cX5_sync 24 = .ok (.iload_n 1, 1) := by decide +kernel
theorem dX5_sync_25 : decode cX5_sync 25 = .ok (.ifCond .ne 20, 3) := by decide +kernel
theorem dX5_sync_28 : decode cX5_sync 28 = .ok (.aload_n 0, 1) := by decide +kernel
theorem dX5_sync_29 : decode cX5_sync 29 = .ok (.invokevirtual 108, 3) := by decide +kernel
theorem dX5_sync_32 : decode cX5_sync 32 = .ok (.aload_n 0, 1) := by decide +kernel
theorem dX5_sync_33 : decode cX5_sync 33 = .ok (.getfield 112, 3) := by decide +kernel
theorem dX5_sync_36 : decode cX5_sync 36 = .ok (.lcmp, 1) := by decide +kernel
theorem dX5_sync_37 : decode cX5_sync 37 = .ok (.ifCond .eq 7, 3) := by decide +kernel
theorem dX5_sync_40 : decode cX5_sync 40 = .ok (.aload_n 0, 1) := by decide +kernel
theorem dX5_sync_41 : decode cX5_sync 41 = .ok (.invokevirtual 187, 3) := by decide +kernel
theorem dX5_sync_44 : decode cX5_sync 44 = .ok (.return_, 1) := by decide +kernel
theorem dX5_sync_45 : decode cX5_sync 45 = .ok (.aload_n 0, 1) := by decide +kernel
theorem dX5_sync_46 : decode cX5_sync 46 = .ok (.dup, 1) := by decide +kernel
theorem dX5_sync_47 : decode cX5_sync 47 = .ok (.getfield 91, 3) := by decide +kernel
theorem dX5_sync_50 : decode cX5_sync 50 = .ok (.iconst 1, 1) := by decide +kernel
theorem dX5_sync_51 : decode cX5_sync 51 = .ok (.iadd, 1) := by decide +kernel
theorem dX5_sync_52 : decode cX5_sync 52 = .ok (.putfield 91, 3) := by decide +kernel
theorem dX5_sync_55 : decode cX5_sync 55 = .ok (.aload_n 0, 1) := by decide +kernel
theorem dX5_sync_56 : decode cX5_sync 56 = .ok (.getfield 91, 3) := by decide +kernel
theorem dX5_sync_59 : decode cX5_sync 59 = .ok (.iload_n 1, 1) := by decide +kernel
theorem dX5_sync_60 : decode cX5_sync 60 = .ok (.if_icmp .lt 12, 3) := by decide +kernel
theorem dX5_sync_63 : decode cX5_sync 63 = .ok (.aload_n 0, 1) := by decide +kernel
theorem dX5_sync_64 : decode cX5_sync 64 = .ok (.iconst 0, 1) := by decide +kernel
theorem dX5_sync_65 : decode cX5_sync 65 = .ok (.putfield 91, 3) := by decide +kernel
theorem dX5_sync_68 : decode cX5_sync 68 = .ok (.aload_n 0, 1) := by decide +kernel
theorem dX5_sync_69 : decode cX5_sync 69 = .ok (.invokevirtual 187, 3) := by decide +kernel
theorem dX5_sync_72 : decode cX5_sync 72 = .ok (.return_, 1) := by decide +kernel
theorem dX5_give_0 : decode cX5_give 0 = .ok (.aload_n 0, 1) := by decide +kernel
theorem dX5_give_1 : decode cX5_give 1 = .ok (.aload_n 0, 1) := by decide +kernel
theorem dX5_give_2 : decode cX5_give 2 = .ok (.invokevirtual 108, 3) := by decide +kernel
theorem dX5_give_5 : decode cX5_give 5 = .ok (.putfield 112, 3) := by decide +kernel
theorem dX5_give_8 : decode cX5_give 8 = .ok (.aload_n 0, 1) := by decide +kernel
theorem dX5_give_9 : decode cX5_give 9 = .ok (.sipush 384, 3) := by decide +kernel
theorem dX5_give_12 : decode cX5_give 12 = .ok (.aload_n 0, 1) := by decide +kernel
theorem dX5_give_13 : decode cX5_give 13 = .ok (.getfield 41, 3) := by decide +kernel
theorem dX5_give_16 : decode cX5_give 16 = .ok (.iadd, 1) := by decide +kernel
theorem dX5_give_17 : decode cX5_give 17 = .ok (.aload_n 0, 1) := by decide +kernel
theorem dX5_give_18 : decode cX5_give 18 = .ok (.bipush 9, 2) := by decide +kernel
theorem dX5_give_20 : decode cX5_give 20 = .ok (.aload_n 0, 1) := by decide +kernel
theorem dX5_give_21 : decode cX5_give 21 = .ok (.bipush 9, 2) := by decide +kernel
theorem dX5_give_23 : decode cX5_give 23 = .ok (.invokevirtual 97, 3) := by decide +kernel
theorem dX5_give_26 : decode cX5_give 26 = .ok (.invokevirtual 116, 3) := by decide +kernel
theorem dX5_give_29 : decode cX5_give 29 = .ok (.aload_n 0, 1) := by decide +kernel
theorem dX5_give_30 : decode cX5_give 30 = .ok (.getfield 112, 3) := by decide +kernel
theorem dX5_give_33 : decode cX5_give 33 = .ok (.invokevirtual 78, 3) := by decide +kernel
theorem dX5_give_36 : decode cX5_give 36 = .ok (.return_, 1) := by decide +kernel
theorem dX5_lengthOf_0 : decode cX5_lengthOf 0 = .ok (.iconst 0, 1) := by decide +kernel
theorem dX5_lengthOf_1 : decode cX5_lengthOf 1 = .ok (.istore_n 3, 1) := by decide +kernel
theorem dX5_lengthOf_2 : decode cX5_lengthOf 2 = .ok (.iconst 1, 1) := by decide +kernel
theorem dX5_lengthOf_3 : decode cX5_lengthOf 3 = .ok (.istore 4, 2) := by decide +kernel
theorem dX5_lengthOf_5 : decode cX5_lengthOf 5 = .ok (.iconst 1, 1) := by decide +kernel
theorem dX5_lengthOf_6 : decode cX5_lengthOf 6 = .ok (.istore 5, 2) := by decide +kernel
theorem dX5_lengthOf_8 : decode cX5_lengthOf 8 = .ok (.iload 5, 2) := by decide +kernel
theorem dX5_lengthOf_10 : decode cX5_lengthOf 10 = .ok (.iload_n 2, 1) := by decide +kernel
theorem dX5_lengthOf_11 : decode cX5_lengthOf 11 = .ok (.if_icmp .gt 63, 3) := by decide +kernel
theorem dX5_lengthOf_14 : decode cX5_lengthOf 14 = .ok (.aload_n 0, 1) := by decide +kernel
theorem dX5_lengthOf_15 : decode cX5_lengthOf 15 = .ok (.aload_n 0, 1) := by decide +kernel
theorem dX5_lengthOf_16 : decode cX5_lengthOf 16 = .ok (.iload_n 1, 1) := by decide +kernel
theorem dX5_lengthOf_17 : decode cX5_lengthOf 17 = .ok (.iload 5, 2) := by decide +kernel
theorem dX5_lengthOf_19 : decode cX5_lengthOf 19 = .ok (.iadd, 1) := by decide +kernel
theorem dX5_lengthOf_20 : decode cX5_lengthOf 20 = .ok (.invokevirtual 97, 3) := by decide +kernel
theorem dX5_lengthOf_23 : decode cX5_lengthOf 23 = .ok (.iload_n 1, 1) := by decide +kernel
theorem dX5_lengthOf_24 : decode cX5_lengthOf 24 = .ok (.invokestatic 101, 3) := by decide +kernel
theorem dX5_lengthOf_27 : decode cX5_lengthOf 27 = .ok (.invokevirtual 104, 3) := by decide +kernel
theorem dX5_lengthOf_30 : decode cX5_lengthOf 30 = .ok (.istore 6, 2) := by decide +kernel
theorem dX5_lengthOf_32 : decode cX5_lengthOf 32 = .ok (.iload 4, 2) := by decide +kernel
theorem dX5_lengthOf_34 : decode cX5_lengthOf 34 = .ok (.ifCond .eq 12, 3) := by decide +kernel
theorem dX5_lengthOf_37 : decode cX5_lengthOf 37 = .ok (.iload 6, 2) := by decide +kernel
theorem dX5_lengthOf_39 : decode cX5_lengthOf 39 = .ok (.ifCond .lt 7, 3) := by decide +kernel
theorem dX5_lengthOf_42 : decode cX5_lengthOf 42 = .ok (.iconst 1, 1) := by decide +kernel
theorem dX5_lengthOf_43 : decode cX5_lengthOf 43 = .ok (.goto 4, 3) := by decide +kernel
theorem dX5_lengthOf_46 : decode cX5_lengthOf 46 = .ok (.iconst 0, 1) := by decide +kernel
theorem dX5_lengthOf_47 : decode cX5_lengthOf 47 = .ok (.istore 4, 2) := by decide +kernel
theorem dX5_lengthOf_49 : decode cX5_lengthOf 49 = .ok (.iload 6, 2) := by decide +kernel
theorem dX5_lengthOf_51 : decode cX5_lengthOf 51 = .ok (.ifCond .lt 15, 3) := by decide +kernel
theorem dX5_lengthOf_54 : decode cX5_lengthOf 54 = .ok (.iload_n 3, 1) := by decide +kernel
theorem dX5_lengthOf_55 : decode cX5_lengthOf 55 = .ok (.aload_n 0, 1) := by decide +kernel
theorem dX5_lengthOf_56 : decode cX5_lengthOf 56 = .ok (.getfield 16, 3) := by decide +kernel
theorem dX5_lengthOf_59 : decode cX5_lengthOf 59 = .ok (.iload 6, 2) := by decide +kernel
theorem dX5_lengthOf_61 : decode cX5_lengthOf 61 = .ok (.iaload, 1) := by decide +kernel
theorem dX5_lengthOf_62 : decode cX5_lengthOf 62 = .ok (.iadd, 1) := by decide +kernel
theorem dX5_lengthOf_63 : decode cX5_lengthOf 63 = .ok (.goto 4, 3) := by decide +kernel
theorem dX5_lengthOf_66 : decode cX5_lengthOf 66 = .ok (.iload_n 3, 1) := by decide +kernel
theorem dX5_lengthOf_67 : decode cX5_lengthOf 67 = .ok (.istore_n 3, 1) := by decide +kernel
theorem dX5_lengthOf_68 : decode cX5_lengthOf 68 = .ok (.iinc 5 1, 3) := by decide +kernel
theorem dX5_lengthOf_71 : decode cX5_lengthOf 71 = .ok (.goto (-63), 3) := by decide +kernel
theorem dX5_lengthOf_74 : decode cX5_lengthOf 74 = .ok (.iload 4, 2) := by decide +kernel
theorem dX5_lengthOf_76 : decode cX5_lengthOf 76 = .ok (.ifCond .eq 7, 3) := by decide +kernel
theorem dX5_lengthOf_79 : decode cX5_lengthOf 79 = .ok (.iload_n 3, 1) := by decide +kernel
theorem dX5_lengthOf_80 : decode cX5_lengthOf 80 = .ok (.goto 4, 3) := by decide +kernel
theorem dX5_lengthOf_83 : decode cX5_lengthOf 83 = .ok (.iconst (-1), 1) := by decide +kernel
theorem dX5_lengthOf_84 : decode cX5_lengthOf 84 = .ok (.ireturn, 1) := by decide +kernel
theorem dX5_rightOf_0 : decode cX5_rightOf 0 = .ok (.iload_n 0, 1) := by decide +kernel
theorem dX5_rightOf_1 : decode cX5_rightOf 1 = .ok (.iconst 3, 1) := by decide +kernel
theorem dX5_rightOf_2 : decode cX5_rightOf 2 = .ok (.if_icmp .ne 7, 3) := by decide +kernel
theorem dX5_rightOf_5 : decode cX5_rightOf 5 = .ok (.iconst 2, 1) := by decide +kernel
theorem dX5_rightOf_6 : decode cX5_rightOf 6 = .ok (.goto 4, 3) := by decide +kernel
theorem dX5_rightOf_9 : decode cX5_rightOf 9 = .ok (.iconst 1, 1) := by decide +kernel
theorem dX5_rightOf_10 : decode cX5_rightOf 10 = .ok (.ireturn, 1) := by decide +kernel
theorem dX5_take_0 : decode cX5_take 0 = .ok (.aload_n 0, 1) := by decide +kernel
theorem dX5_take_1 : decode cX5_take 1 = .ok (.iconst 3, 1) := by decide +kernel
theorem dX5_take_2 : decode cX5_take 2 = .ok (.invokevirtual 97, 3) := by decide +kernel
theorem dX5_take_5 : decode cX5_take 5 = .ok (.istore 4, 2) := by decide +kernel
theorem dX5_take_7 : decode cX5_take 7 = .ok (.iload_n 1, 1) := by decide +kernel
theorem dX5_take_8 : decode cX5_take 8 = .ok (.aload_n 0, 1) := by decide +kernel
theorem dX5_take_9 : decode cX5_take 9 = .ok (.iconst 3, 1) := by decide +kernel
theorem dX5_take_10 : decode cX5_take 10 = .ok (.iload 4, 2) := by decide +kernel
theorem dX5_take_12 : decode cX5_take 12 = .ok (.invokevirtual 116, 3) := by decide +kernel
theorem dX5_take_15 : decode cX5_take 15 = .ok (.if_icmp .ge 29, 3) := by decide +kernel
theorem dX5_take_18 : decode cX5_take 18 = .ok (.aload_n 0, 1) := by decide +kernel
theorem dX5_take_19 : decode cX5_take 19 = .ok (.getfield 25, 3) := by decide +kernel
theorem dX5_take_22 : decode cX5_take 22 = .ok (.aload_n 0, 1) := by decide +kernel
theorem dX5_take_23 : decode cX5_take 23 = .ok (.getfield 22, 3) := by decide +kernel
theorem dX5_take_26 : decode cX5_take 26 = .ok (.iconst 1, 1) := by decide +kernel
theorem dX5_take_27 : decode cX5_take 27 = .ok (.iaload, 1) := by decide +kernel
theorem dX5_take_28 : decode cX5_take 28 = .ok (.aload_n 0, 1) := by decide +kernel
theorem dX5_take_29 : decode cX5_take 29 = .ok (.getfield 25, 3) := by decide +kernel
theorem dX5_take_32 : decode cX5_take 32 = .ok (.aload_n 0, 1) := by decide +kernel
theorem dX5_take_33 : decode cX5_take 33 = .ok (.getfield 22, 3) := by decide +kernel
theorem dX5_take_36 : decode cX5_take 36 = .ok (.iconst 1, 1) := by decide +kernel
theorem dX5_take_37 : decode cX5_take 37 = .ok (.iaload, 1) := by decide +kernel
theorem dX5_take_38 : decode cX5_take 38 = .ok (.iaload, 1) := by decide +kernel
theorem dX5_take_39 : decode cX5_take 39 = .ok (.bipush 16, 2) := by decide +kernel
theorem dX5_take_41 : decode cX5_take 41 = .ok (.ior, 1) := by decide +kernel
theorem dX5_take_42 : decode cX5_take 42 = .ok (.iastore, 1) := by decide +kernel
theorem dX5_take_43 : decode cX5_take 43 = .ok (.return_, 1) := by decide +kernel
theorem dX5_take_44 : decode cX5_take 44 = .ok (.iconst 0, 1) := by decide +kernel
theorem dX5_take_45 : decode cX5_take 45 = .ok (.istore 5, 2) := by decide +kernel
theorem dX5_take_47 : decode cX5_take 47 = .ok (.iconst 1, 1) := by decide +kernel
theorem dX5_take_48 : decode cX5_take 48 = .ok (.istore 6, 2) := by decide +kernel
theorem dX5_take_50 : decode cX5_take 50 = .ok (.iload 6, 2) := by decide +kernel
theorem dX5_take_52 : decode cX5_take 52 = .ok (.iload 4, 2) := by decide +kernel
theorem dX5_take_54 : decode cX5_take 54 = .ok (.if_icmp .gt 69, 3) := by decide +kernel
theorem dX5_take_57 : decode cX5_take 57 = .ok (.aload_n 0, 1) := by decide +kernel
theorem dX5_take_58 : decode cX5_take 58 = .ok (.aload_n 0, 1) := by decide +kernel
theorem dX5_take_59 : decode cX5_take 59 = .ok (.iconst 3, 1) := by decide +kernel
theorem dX5_take_60 : decode cX5_take 60 = .ok (.iload 6, 2) := by decide +kernel
theorem dX5_take_62 : decode cX5_take 62 = .ok (.iadd, 1) := by decide +kernel
theorem dX5_take_63 : decode cX5_take 63 = .ok (.invokevirtual 97, 3) := by decide +kernel
theorem dX5_take_66 : decode cX5_take 66 = .ok (.iconst 2, 1) := by decide +kernel
theorem dX5_take_67 : decode cX5_take 67 = .ok (.invokevirtual 104, 3) := by decide +kernel
theorem dX5_take_70 : decode cX5_take 70 = .ok (.istore 7, 2) := by decide +kernel
theorem dX5_take_72 : decode cX5_take 72 = .ok (.iconst 0, 1) := by decide +kernel
theorem dX5_take_73 : decode cX5_take 73 = .ok (.istore 8, 2) := by decide +kernel
theorem dX5_take_75 : decode cX5_take 75 = .ok (.iload 8, 2) := by decide +kernel
theorem dX5_take_77 : decode cX5_take 77 = .ok (.aload_n 0, 1) := by decide +kernel
theorem dX5_take_78 : decode cX5_take 78 = .ok (.getfield 16, 3) := by decide +kernel
theorem dX5_take_81 : decode cX5_take 81 = .ok (.iload 7, 2) := by decide +kernel
theorem dX5_take_83 : decode cX5_take 83 = .ok (.iaload, 1) := by decide +kernel
theorem dX5_take_84 : decode cX5_take 84 = .ok (.if_icmp .ge 33, 3) := by decide +kernel
theorem dX5_take_87 : decode cX5_take 87 = .ok (.aload_n 0, 1) := by decide +kernel
theorem dX5_take_88 : decode cX5_take 88 = .ok (.getfield 25, 3) := by decide +kernel
theorem dX5_take_91 : decode cX5_take 91 = .ok (.aload_n 0, 1) := by decide +kernel
theorem dX5_take_92 : decode cX5_take 92 = .ok (.getfield 22, 3) := by decide +kernel
theorem dX5_take_95 : decode cX5_take 95 = .ok (.iload 7, 2) := by decide +kernel
theorem dX5_take_97 : decode cX5_take 97 = .ok (.iaload, 1) := by decide +kernel
theorem dX5_take_98 : decode cX5_take 98 = .ok (.iload 8, 2) := by decide +kernel
theorem dX5_take_100 : decode cX5_take 100 = .ok (.iadd, 1) := by decide +kernel
theorem dX5_take_101 : decode cX5_take 101 = .ok (.lload_n 2, 1) := by decide +kernel
theorem dX5_take_102 : decode cX5_take 102 = .ok (.iload 5, 2) := by decide +kernel
theorem dX5_take_104 : decode cX5_take 104 = .ok (.invokestatic 119, 3) := by decide +kernel
theorem dX5_take_107 : decode cX5_take 107 = .ok (.iastore, 1) := by decide +kernel
theorem dX5_take_108 : decode cX5_take 108 = .ok (.iinc 5 1, 3) := by decide +kernel
theorem dX5_take_111 : decode cX5_take 111 = .ok (.iinc 8 1, 3) := by decide +kernel
theorem dX5_take_114 : decode cX5_take 114 = .ok (.goto (-39), 3) := by decide +kernel
theorem dX5_take_117 : decode cX5_take 117 = .ok (.iinc 6 1, 3) := by decide +kernel
theorem dX5_take_120 : decode cX5_take 120 = .ok (.goto (-70), 3) := by decide +kernel
theorem dX5_take_123 : decode cX5_take 123 = .ok (.return_, 1) := by decide +kernel
theorem dX5_ask_0 : decode cX5_ask 0 = .ok (.aload_n 0, 1) := by decide +kernel
theorem dX5_ask_1 : decode cX5_ask 1 = .ok (.lload_n 1, 1) := by decide +kernel
theorem dX5_ask_2 : decode cX5_ask 2 = .ok (.putfield 123, 3) := by decide +kernel
theorem dX5_ask_5 : decode cX5_ask 5 = .ok (.lload_n 1, 1) := by decide +kernel
theorem dX5_ask_6 : decode cX5_ask 6 = .ok (.iconst 0, 1) := by decide +kernel
theorem dX5_ask_7 : decode cX5_ask 7 = .ok (.invokestatic 119, 3) := by decide +kernel
theorem dX5_ask_10 : decode cX5_ask 10 = .ok (.istore_n 3, 1) := by decide +kernel
theorem dX5_ask_11 : decode cX5_ask 11 = .ok (.iload_n 3, 1) := by decide +kernel
theorem dX5_ask_12 : decode cX5_ask 12 = .ok (.iconst 5, 1) := by decide +kernel
theorem dX5_ask_13 : decode cX5_ask 13 = .ok (.ishr, 1) := by decide +kernel
theorem dX5_ask_14 : decode cX5_ask 14 = .ok (.istore 4, 2) := by decide +kernel
theorem dX5_ask_16 : decode cX5_ask 16 = .ok (.aload_n 0, 1) := by decide +kernel
theorem dX5_ask_17 : decode cX5_ask 17 = .ok (.iload 4, 2) := by decide +kernel
theorem dX5_ask_19 : decode cX5_ask 19 = .ok (.ifCond .eq 9, 3) := by decide +kernel
theorem dX5_ask_22 : decode cX5_ask 22 = .ok (.iload 4, 2) := by decide +kernel
theorem dX5_ask_24 : decode cX5_ask 24 = .ok (.iconst 3, 1) := by decide +kernel
theorem dX5_ask_25 : decode cX5_ask 25 = .ok (.if_icmp .ne 7, 3) := by decide +kernel
theorem dX5_ask_28 : decode cX5_ask 28 = .ok (.iconst 1, 1) := by decide +kernel
theorem dX5_ask_29 : decode cX5_ask 29 = .ok (.goto 4, 3) := by decide +kernel
theorem dX5_ask_32 : decode cX5_ask 32 = .ok (.iconst 0, 1) := by decide +kernel
theorem dX5_ask_33 : decode cX5_ask 33 = .ok (.putfield 148, 3) := by decide +kernel
theorem dX5_ask_36 : decode cX5_ask 36 = .ok (.iload 4, 2) := by decide +kernel
theorem dX5_ask_38 : decode cX5_ask 38 = .ok (.tableswitch 73 0 4 #[34, 42, 50, 57, 65], 34) := by decide +kernel
theorem dX5_ask_72 : decode cX5_ask 72 = .ok (.aload_n 0, 1) := by decide +kernel
theorem dX5_ask_73 : decode cX5_ask 73 = .ok (.iload_n 3, 1) := by decide +kernel
theorem dX5_ask_74 : decode cX5_ask 74 = .ok (.invokevirtual 175, 3) := by decide +kernel
theorem dX5_ask_77 : decode cX5_ask 77 = .ok (.goto 41, 3) := by decide +kernel
theorem dX5_ask_80 : decode cX5_ask 80 = .ok (.aload_n 0, 1) := by decide +kernel
theorem dX5_ask_81 : decode cX5_ask 81 = .ok (.iload_n 3, 1) := by decide +kernel
theorem dX5_ask_82 : decode cX5_ask 82 = .ok (.invokevirtual 178, 3) := by decide +kernel
end
section
theorem dX5_ask_85 : decode cX5_ask 85 = .ok (.goto 33, 3) := by decide +kernel
theorem dX5_ask_88 : decode cX5_ask 88 = .ok (.aload_n 0, 1) := by decide +kernel
theorem dX5_ask_89 : decode cX5_ask 89 = .ok (.invokevirtual 181, 3) := by decide +kernel
theorem dX5_ask_92 : decode cX5_ask 92 = .ok (.goto 26, 3) := by decide +kernel
theorem dX5_ask_95 : decode cX5_ask 95 = .ok (.aload_n 0, 1) := by decide +kernel
theorem dX5_ask_96 : decode cX5_ask 96 = .ok (.iload_n 3, 1) := by decide +kernel
theorem dX5_ask_97 : decode cX5_ask 97 = .ok (.invokevirtual 184, 3) := by decide +kernel
theorem dX5_ask_100 : decode cX5_ask 100 = .ok (.goto 18, 3) := by decide +kernel
theorem dX5_ask_103 : decode cX5_ask 103 = .ok (.aload_n 0, 1) := by decide +kernel
theorem dX5_ask_104 : decode cX5_ask 104 = .ok (.iconst 0, 1) := by decide +kernel
theorem dX5_ask_105 : decode cX5_ask 105 = .ok (.putfield 85, 3) := by decide +kernel
theorem dX5_ask_108 : decode cX5_ask 108 = .ok (.goto 10, 3) := by decide +kernel
theorem dX5_ask_111 : decode cX5_ask 111 = .ok (.aload_n 0, 1) := by decide +kernel
theorem dX5_ask_112 : decode cX5_ask 112 = .ok (.ldc 172, 2) := by decide +kernel
theorem dX5_ask_114 : decode cX5_ask 114 = .ok (.iconst 0, 1) := by decide +kernel
theorem dX5_ask_115 : decode cX5_ask 115 = .ok (.invokevirtual 152, 3) := by decide +kernel
theorem dX5_ask_118 : decode cX5_ask 118 = .ok (.return_, 1) := by decide +kernel
theorem dX5_writeSegment_0 : decode cX5_writeSegment 0 = .ok (.aload_n 0, 1) := by decide +kernel
theorem dX5_writeSegment_1 : decode cX5_writeSegment 1 = .ok (.getfield 85, 3) := by decide +kernel
theorem dX5_writeSegment_4 : decode cX5_writeSegment 4 = .ok (.iconst 1, 1) := by decide +kernel
theorem dX5_writeSegment_5 : decode cX5_writeSegment 5 = .ok (.if_icmp .eq 11, 3) := by decide +kernel
theorem dX5_writeSegment_8 : decode cX5_writeSegment 8 = .ok (.aload_n 0, 1) := by decide +kernel
theorem dX5_writeSegment_9 : decode cX5_writeSegment 9 = .ok (.ldc 172, 2) := by decide +kernel
theorem dX5_writeSegment_11 : decode cX5_writeSegment 11 = .ok (.iconst 1, 1) := by decide +kernel
theorem dX5_writeSegment_12 : decode cX5_writeSegment 12 = .ok (.invokevirtual 152, 3) := by decide +kernel
theorem dX5_writeSegment_15 : decode cX5_writeSegment 15 = .ok (.return_, 1) := by decide +kernel
theorem dX5_writeSegment_16 : decode cX5_writeSegment 16 = .ok (.iload_n 1, 1) := by decide +kernel
theorem dX5_writeSegment_17 : decode cX5_writeSegment 17 = .ok (.iconst 4, 1) := by decide +kernel
theorem dX5_writeSegment_18 : decode cX5_writeSegment 18 = .ok (.ishr, 1) := by decide +kernel
theorem dX5_writeSegment_19 : decode cX5_writeSegment 19 = .ok (.iconst 1, 1) := by decide +kernel
theorem dX5_writeSegment_20 : decode cX5_writeSegment 20 = .ok (.iand, 1) := by decide +kernel
theorem dX5_writeSegment_21 : decode cX5_writeSegment 21 = .ok (.aload_n 0, 1) := by decide +kernel
theorem dX5_writeSegment_22 : decode cX5_writeSegment 22 = .ok (.getfield 134, 3) := by decide +kernel
theorem dX5_writeSegment_25 : decode cX5_writeSegment 25 = .ok (.if_icmp .eq 11, 3) := by decide +kernel
theorem dX5_writeSegment_28 : decode cX5_writeSegment 28 = .ok (.aload_n 0, 1) := by decide +kernel
theorem dX5_writeSegment_29 : decode cX5_writeSegment 29 = .ok (.ldc 173, 2) := by decide +kernel
theorem dX5_writeSegment_31 : decode cX5_writeSegment 31 = .ok (.iconst 1, 1) := by decide +kernel
theorem dX5_writeSegment_32 : decode cX5_writeSegment 32 = .ok (.invokevirtual 152, 3) := by decide +kernel
theorem dX5_writeSegment_35 : decode cX5_writeSegment 35 = .ok (.return_, 1) := by decide +kernel
theorem dX5_writeSegment_36 : decode cX5_writeSegment 36 = .ok (.bipush 7, 2) := by decide +kernel
theorem dX5_writeSegment_38 : decode cX5_writeSegment 38 = .ok (.iload_n 1, 1) := by decide +kernel
theorem dX5_writeSegment_39 : decode cX5_writeSegment 39 = .ok (.iconst 1, 1) := by decide +kernel
theorem dX5_writeSegment_40 : decode cX5_writeSegment 40 = .ok (.ishr, 1) := by decide +kernel
theorem dX5_writeSegment_41 : decode cX5_writeSegment 41 = .ok (.bipush 7, 2) := by decide +kernel
theorem dX5_writeSegment_43 : decode cX5_writeSegment 43 = .ok (.iand, 1) := by decide +kernel
theorem dX5_writeSegment_44 : decode cX5_writeSegment 44 = .ok (.isub, 1) := by decide +kernel
theorem dX5_writeSegment_45 : decode cX5_writeSegment 45 = .ok (.istore_n 2, 1) := by decide +kernel
theorem dX5_writeSegment_46 : decode cX5_writeSegment 46 = .ok (.aload_n 0, 1) := by decide +kernel
theorem dX5_writeSegment_47 : decode cX5_writeSegment 47 = .ok (.getfield 137, 3) := by decide +kernel
theorem dX5_writeSegment_50 : decode cX5_writeSegment 50 = .ok (.iload_n 2, 1) := by decide +kernel
theorem dX5_writeSegment_51 : decode cX5_writeSegment 51 = .ok (.iadd, 1) := by decide +kernel
theorem dX5_writeSegment_52 : decode cX5_writeSegment 52 = .ok (.aload_n 0, 1) := by decide +kernel
theorem dX5_writeSegment_53 : decode cX5_writeSegment 53 = .ok (.getfield 16, 3) := by decide +kernel
theorem dX5_writeSegment_56 : decode cX5_writeSegment 56 = .ok (.aload_n 0, 1) := by decide +kernel
theorem dX5_writeSegment_57 : decode cX5_writeSegment 57 = .ok (.getfield 128, 3) := by decide +kernel
theorem dX5_writeSegment_60 : decode cX5_writeSegment 60 = .ok (.iaload, 1) := by decide +kernel
theorem dX5_writeSegment_61 : decode cX5_writeSegment 61 = .ok (.if_icmp .le 11, 3) := by decide +kernel
theorem dX5_writeSegment_64 : decode cX5_writeSegment 64 = .ok (.aload_n 0, 1) := by decide +kernel
theorem dX5_writeSegment_65 : decode cX5_writeSegment 65 = .ok (.ldc 162, 2) := by decide +kernel
theorem dX5_writeSegment_67 : decode cX5_writeSegment 67 = .ok (.iconst 1, 1) := by decide +kernel
theorem dX5_writeSegment_68 : decode cX5_writeSegment 68 = .ok (.invokevirtual 152, 3) := by decide +kernel
theorem dX5_writeSegment_71 : decode cX5_writeSegment 71 = .ok (.return_, 1) := by decide +kernel
theorem dX5_writeSegment_72 : decode cX5_writeSegment 72 = .ok (.iconst 0, 1) := by decide +kernel
theorem dX5_writeSegment_73 : decode cX5_writeSegment 73 = .ok (.istore_n 3, 1) := by decide +kernel
theorem dX5_writeSegment_74 : decode cX5_writeSegment 74 = .ok (.iload_n 3, 1) := by decide +kernel
theorem dX5_writeSegment_75 : decode cX5_writeSegment 75 = .ok (.iload_n 2, 1) := by decide +kernel
theorem dX5_writeSegment_76 : decode cX5_writeSegment 76 = .ok (.if_icmp .ge 30, 3) := by decide +kernel
theorem dX5_writeSegment_79 : decode cX5_writeSegment 79 = .ok (.aload_n 0, 1) := by decide +kernel
theorem dX5_writeSegment_80 : decode cX5_writeSegment 80 = .ok (.getfield 28, 3) := by decide +kernel
theorem dX5_writeSegment_83 : decode cX5_writeSegment 83 = .ok (.aload_n 0, 1) := by decide +kernel
theorem dX5_writeSegment_84 : decode cX5_writeSegment 84 = .ok (.getfield 137, 3) := by decide +kernel
theorem dX5_writeSegment_87 : decode cX5_writeSegment 87 = .ok (.iload_n 3, 1) := by decide +kernel
theorem dX5_writeSegment_88 : decode cX5_writeSegment 88 = .ok (.iadd, 1) := by decide +kernel
theorem dX5_writeSegment_89 : decode cX5_writeSegment 89 = .ok (.aload_n 0, 1) := by decide +kernel
theorem dX5_writeSegment_90 : decode cX5_writeSegment 90 = .ok (.getfield 123, 3) := by decide +kernel
theorem dX5_writeSegment_93 : decode cX5_writeSegment 93 = .ok (.iconst 1, 1) := by decide +kernel
theorem dX5_writeSegment_94 : decode cX5_writeSegment 94 = .ok (.iload_n 3, 1) := by decide +kernel
theorem dX5_writeSegment_95 : decode cX5_writeSegment 95 = .ok (.iadd, 1) := by decide +kernel
theorem dX5_writeSegment_96 : decode cX5_writeSegment 96 = .ok (.invokestatic 119, 3) := by decide +kernel
theorem dX5_writeSegment_99 : decode cX5_writeSegment 99 = .ok (.iastore, 1) := by decide +kernel
theorem dX5_writeSegment_100 : decode cX5_writeSegment 100 = .ok (.iinc 3 1, 3) := by decide +kernel
theorem dX5_writeSegment_103 : decode cX5_writeSegment 103 = .ok (.goto (-29), 3) := by decide +kernel
theorem dX5_writeSegment_106 : decode cX5_writeSegment 106 = .ok (.aload_n 0, 1) := by decide +kernel
theorem dX5_writeSegment_107 : decode cX5_writeSegment 107 = .ok (.dup, 1) := by decide +kernel
theorem dX5_writeSegment_108 : decode cX5_writeSegment 108 = .ok (.getfield 137, 3) := by decide +kernel
theorem dX5_writeSegment_111 : decode cX5_writeSegment 111 = .ok (.iload_n 2, 1) := by decide +kernel
theorem dX5_writeSegment_112 : decode cX5_writeSegment 112 = .ok (.iadd, 1) := by decide +kernel
theorem dX5_writeSegment_113 : decode cX5_writeSegment 113 = .ok (.putfield 137, 3) := by decide +kernel
theorem dX5_writeSegment_116 : decode cX5_writeSegment 116 = .ok (.iload_n 1, 1) := by decide +kernel
theorem dX5_writeSegment_117 : decode cX5_writeSegment 117 = .ok (.iconst 1, 1) := by decide +kernel
theorem dX5_writeSegment_118 : decode cX5_writeSegment 118 = .ok (.iand, 1) := by decide +kernel
theorem dX5_writeSegment_119 : decode cX5_writeSegment 119 = .ok (.ifCond .eq 7, 3) := by decide +kernel
theorem dX5_writeSegment_122 : decode cX5_writeSegment 122 = .ok (.iconst 1, 1) := by decide +kernel
theorem dX5_writeSegment_123 : decode cX5_writeSegment 123 = .ok (.goto 4, 3) := by decide +kernel
theorem dX5_writeSegment_126 : decode cX5_writeSegment 126 = .ok (.iconst 0, 1) := by decide +kernel
theorem dX5_writeSegment_127 : decode cX5_writeSegment 127 = .ok (.istore_n 3, 1) := by decide +kernel
theorem dX5_writeSegment_128 : decode cX5_writeSegment 128 = .ok (.iload_n 3, 1) := by decide +kernel
theorem dX5_writeSegment_129 : decode cX5_writeSegment 129 = .ok (.ifCond .eq 27, 3) := by decide +kernel
theorem dX5_writeSegment_132 : decode cX5_writeSegment 132 = .ok (.aload_n 0, 1) := by decide +kernel
theorem dX5_writeSegment_133 : decode cX5_writeSegment 133 = .ok (.getfield 137, 3) := by decide +kernel
theorem dX5_writeSegment_136 : decode cX5_writeSegment 136 = .ok (.aload_n 0, 1) := by decide +kernel
theorem dX5_writeSegment_137 : decode cX5_writeSegment 137 = .ok (.getfield 16, 3) := by decide +kernel
theorem dX5_writeSegment_140 : decode cX5_writeSegment 140 = .ok (.aload_n 0, 1) := by decide +kernel
theorem dX5_writeSegment_141 : decode cX5_writeSegment 141 = .ok (.getfield 128, 3) := by decide +kernel
theorem dX5_writeSegment_144 : decode cX5_writeSegment 144 = .ok (.iaload, 1) := by decide +kernel
theorem dX5_writeSegment_145 : decode cX5_writeSegment 145 = .ok (.if_icmp .ge 11, 3) := by decide +kernel
theorem dX5_writeSegment_148 : decode cX5_writeSegment 148 = .ok (.aload_n 0, 1) := by decide +kernel
theorem dX5_writeSegment_149 : decode cX5_writeSegment 149 = .ok (.ldc 163, 2) := by decide +kernel
theorem dX5_writeSegment_151 : decode cX5_writeSegment 151 = .ok (.iconst 1, 1) := by decide +kernel
theorem dX5_writeSegment_152 : decode cX5_writeSegment 152 = .ok (.invokevirtual 152, 3) := by decide +kernel
theorem dX5_writeSegment_155 : decode cX5_writeSegment 155 = .ok (.return_, 1) := by decide +kernel
theorem dX5_writeSegment_156 : decode cX5_writeSegment 156 = .ok (.iload_n 3, 1) := by decide +kernel
theorem dX5_writeSegment_157 : decode cX5_writeSegment 157 = .ok (.ifCond .eq 20, 3) := by decide +kernel
theorem dX5_writeSegment_160 : decode cX5_writeSegment 160 = .ok (.aload_n 0, 1) := by decide +kernel
theorem dX5_writeSegment_161 : decode cX5_writeSegment 161 = .ok (.aload_n 0, 1) := by decide +kernel
theorem dX5_writeSegment_162 : decode cX5_writeSegment 162 = .ok (.getfield 128, 3) := by decide +kernel
theorem dX5_writeSegment_165 : decode cX5_writeSegment 165 = .ok (.invokevirtual 168, 3) := by decide +kernel
theorem dX5_writeSegment_168 : decode cX5_writeSegment 168 = .ok (.ifCond .ne 4, 3) := by decide +kernel
theorem dX5_writeSegment_171 : decode cX5_writeSegment 171 = .ok (.return_, 1) := by decide +kernel
theorem dX5_writeSegment_172 : decode cX5_writeSegment 172 = .ok (.aload_n 0, 1) := by decide +kernel
theorem dX5_writeSegment_173 : decode cX5_writeSegment 173 = .ok (.iconst 0, 1) := by decide +kernel
theorem dX5_writeSegment_174 : decode cX5_writeSegment 174 = .ok (.putfield 85, 3) := by decide +kernel
theorem dX5_writeSegment_177 : decode cX5_writeSegment 177 = .ok (.aload_n 0, 1) := by decide +kernel
theorem dX5_writeSegment_178 : decode cX5_writeSegment 178 = .ok (.bipush 32, 2) := by decide +kernel
theorem dX5_writeSegment_180 : decode cX5_writeSegment 180 = .ok (.iload_n 1, 1) := by decide +kernel
theorem dX5_writeSegment_181 : decode cX5_writeSegment 181 = .ok (.bipush 16, 2) := by decide +kernel
theorem dX5_writeSegment_183 : decode cX5_writeSegment 183 = .ok (.iand, 1) := by decide +kernel
theorem dX5_writeSegment_184 : decode cX5_writeSegment 184 = .ok (.iadd, 1) := by decide +kernel
theorem dX5_writeSegment_185 : decode cX5_writeSegment 185 = .ok (.iconst 0, 1) := by decide +kernel
theorem dX5_writeSegment_186 : decode cX5_writeSegment 186 = .ok (.iconst 0, 1) := by decide +kernel
theorem dX5_writeSegment_187 : decode cX5_writeSegment 187 = .ok (.iconst 0, 1) := by decide +kernel
theorem dX5_writeSegment_188 : decode cX5_writeSegment 188 = .ok (.invokevirtual 131, 3) := by decide +kernel
theorem dX5_writeSegment_191 : decode cX5_writeSegment 191 = .ok (.aload_n 0, 1) := by decide +kernel
theorem dX5_writeSegment_192 : decode cX5_writeSegment 192 = .ok (.iconst 1, 1) := by decide +kernel
theorem dX5_writeSegment_193 : decode cX5_writeSegment 193 = .ok (.aload_n 0, 1) := by decide +kernel
theorem dX5_writeSegment_194 : decode cX5_writeSegment 194 = .ok (.getfield 134, 3) := by decide +kernel
theorem dX5_writeSegment_197 : decode cX5_writeSegment 197 = .ok (.isub, 1) := by decide +kernel
theorem dX5_writeSegment_198 : decode cX5_writeSegment 198 = .ok (.putfield 134, 3) := by decide +kernel
theorem dX5_writeSegment_201 : decode cX5_writeSegment 201 = .ok (.aload_n 0, 1) := by decide +kernel
theorem dX5_writeSegment_202 : decode cX5_writeSegment 202 = .ok (.iconst 0, 1) := by decide +kernel
theorem dX5_writeSegment_203 : decode cX5_writeSegment 203 = .ok (.putfield 94, 3) := by decide +kernel
theorem dX5_writeSegment_206 : decode cX5_writeSegment 206 = .ok (.return_, 1) := by decide +kernel
theorem dX5_abort_0 : decode cX5_abort 0 = .ok (.aload_n 0, 1) := by decide +kernel
theorem dX5_abort_1 : decode cX5_abort 1 = .ok (.getfield 123, 3) := by decide +kernel
theorem dX5_abort_4 : decode cX5_abort 4 = .ok (.bipush 8, 2) := by decide +kernel
theorem dX5_abort_6 : decode cX5_abort 6 = .ok (.lshr, 1) := by decide +kernel
theorem dX5_abort_7 : decode cX5_abort 7 = .ok (.ldc2_w 126, 3) := by decide +kernel
theorem dX5_abort_10 : decode cX5_abort 10 = .ok (.land, 1) := by decide +kernel
theorem dX5_abort_11 : decode cX5_abort 11 = .ok (.l2i, 1) := by decide +kernel
theorem dX5_abort_12 : decode cX5_abort 12 = .ok (.istore_n 3, 1) := by decide +kernel
theorem dX5_abort_13 : decode cX5_abort 13 = .ok (.aload_n 0, 1) := by decide +kernel
theorem dX5_abort_14 : decode cX5_abort 14 = .ok (.getfield 123, 3) := by decide +kernel
theorem dX5_abort_17 : decode cX5_abort 17 = .ok (.iconst 3, 1) := by decide +kernel
theorem dX5_abort_18 : decode cX5_abort 18 = .ok (.invokestatic 119, 3) := by decide +kernel
theorem dX5_abort_21 : decode cX5_abort 21 = .ok (.istore 4, 2) := by decide +kernel
theorem dX5_abort_23 : decode cX5_abort 23 = .ok (.iload_n 2, 1) := by decide +kernel
theorem dX5_abort_24 : decode cX5_abort 24 = .ok (.ifCond .eq 46, 3) := by decide +kernel
theorem dX5_abort_27 : decode cX5_abort 27 = .ok (.aload_n 0, 1) := by decide +kernel
theorem dX5_abort_28 : decode cX5_abort 28 = .ok (.getfield 85, 3) := by decide +kernel
theorem dX5_abort_31 : decode cX5_abort 31 = .ok (.ifCond .ne 7, 3) := by decide +kernel
theorem dX5_abort_34 : decode cX5_abort 34 = .ok (.iconst 0, 1) := by decide +kernel
theorem dX5_abort_35 : decode cX5_abort 35 = .ok (.goto 12, 3) := by decide +kernel
theorem dX5_abort_38 : decode cX5_abort 38 = .ok (.aload_n 0, 1) := by decide +kernel
theorem dX5_abort_39 : decode cX5_abort 39 = .ok (.getfield 7, 3) := by decide +kernel
theorem dX5_abort_42 : decode cX5_abort 42 = .ok (.aload_n 0, 1) := by decide +kernel
theorem dX5_abort_43 : decode cX5_abort 43 = .ok (.getfield 128, 3) := by decide +kernel
theorem dX5_abort_46 : decode cX5_abort 46 = .ok (.iaload, 1) := by decide +kernel
theorem dX5_abort_47 : decode cX5_abort 47 = .ok (.istore_n 3, 1) := by decide +kernel
theorem dX5_abort_48 : decode cX5_abort 48 = .ok (.aload_n 0, 1) := by decide +kernel
theorem dX5_abort_49 : decode cX5_abort 49 = .ok (.getfield 85, 3) := by decide +kernel
theorem dX5_abort_52 : decode cX5_abort 52 = .ok (.ifCond .ne 7, 3) := by decide +kernel
theorem dX5_abort_55 : decode cX5_abort 55 = .ok (.iconst 0, 1) := by decide +kernel
theorem dX5_abort_56 : decode cX5_abort 56 = .ok (.goto 12, 3) := by decide +kernel
theorem dX5_abort_59 : decode cX5_abort 59 = .ok (.aload_n 0, 1) := by decide +kernel
theorem dX5_abort_60 : decode cX5_abort 60 = .ok (.getfield 13, 3) := by decide +kernel
theorem dX5_abort_63 : decode cX5_abort 63 = .ok (.aload_n 0, 1) := by decide +kernel
theorem dX5_abort_64 : decode cX5_abort 64 = .ok (.getfield 128, 3) := by decide +kernel
theorem dX5_abort_67 : decode cX5_abort 67 = .ok (.iaload, 1) := by decide +kernel
theorem dX5_abort_68 : decode cX5_abort 68 = .ok (.istore 4, 2) := by decide +kernel
theorem dX5_abort_70 : decode cX5_abort 70 = .ok (.aload_n 0, 1) := by decide +kernel
theorem dX5_abort_71 : decode cX5_abort 71 = .ok (.iconst 0, 1) := by decide +kernel
theorem dX5_abort_72 : decode cX5_abort 72 = .ok (.putfield 85, 3) := by decide +kernel
theorem dX5_abort_75 : decode cX5_abort 75 = .ok (.aload_n 0, 1) := by decide +kernel
theorem dX5_abort_76 : decode cX5_abort 76 = .ok (.sipush 128, 3) := by decide +kernel
theorem dX5_abort_79 : decode cX5_abort 79 = .ok (.iload_n 3, 1) := by decide +kernel
theorem dX5_abort_80 : decode cX5_abort 80 = .ok (.iload 4, 2) := by decide +kernel
theorem dX5_abort_82 : decode cX5_abort 82 = .ok (.iload_n 1, 1) := by decide +kernel
theorem dX5_abort_83 : decode cX5_abort 83 = .ok (.invokevirtual 131, 3) := by decide +kernel
theorem dX5_abort_86 : decode cX5_abort 86 = .ok (.return_, 1) := by decide +kernel
theorem dX5_answer_0 : decode cX5_answer 0 = .ok (.aload_n 0, 1) := by decide +kernel
theorem dX5_answer_1 : decode cX5_answer 1 = .ok (.sipush 1408, 3) := by decide +kernel
theorem dX5_answer_4 : decode cX5_answer 4 = .ok (.aload_n 0, 1) := by decide +kernel
theorem dX5_answer_5 : decode cX5_answer 5 = .ok (.getfield 41, 3) := by decide +kernel
theorem dX5_answer_8 : decode cX5_answer 8 = .ok (.iadd, 1) := by decide +kernel
theorem dX5_answer_9 : decode cX5_answer 9 = .ok (.bipush 8, 2) := by decide +kernel
theorem dX5_answer_11 : decode cX5_answer 11 = .ok (.iload_n 1, 1) := by decide +kernel
theorem dX5_answer_12 : decode cX5_answer 12 = .ok (.i2l, 1) := by decide +kernel
theorem dX5_answer_13 : decode cX5_answer 13 = .ok (.ldc2_w 70, 3) := by decide +kernel
theorem dX5_answer_16 : decode cX5_answer 16 = .ok (.land, 1) := by decide +kernel
theorem dX5_answer_17 : decode cX5_answer 17 = .ok (.iload_n 2, 1) := by decide +kernel
theorem dX5_answer_18 : decode cX5_answer 18 = .ok (.i2l, 1) := by decide +kernel
theorem dX5_answer_19 : decode cX5_answer 19 = .ok (.bipush 8, 2) := by decide +kernel
theorem dX5_answer_21 : decode cX5_answer 21 = .ok (.lshl, 1) := by decide +kernel
theorem dX5_answer_22 : decode cX5_answer 22 = .ok (.lor, 1) := by decide +kernel
theorem dX5_answer_23 : decode cX5_answer 23 = .ok (.iload_n 3, 1) := by decide +kernel
theorem dX5_answer_24 : decode cX5_answer 24 = .ok (.i2l, 1) := by decide +kernel
theorem dX5_answer_25 : decode cX5_answer 25 = .ok (.bipush 24, 2) := by decide +kernel
theorem dX5_answer_27 : decode cX5_answer 27 = .ok (.lshl, 1) := by decide +kernel
theorem dX5_answer_28 : decode cX5_answer 28 = .ok (.lor, 1) := by decide +kernel
theorem dX5_answer_29 : decode cX5_answer 29 = .ok (.iload 4, 2) := by decide +kernel
theorem dX5_answer_31 : decode cX5_answer 31 = .ok (.i2l, 1) := by decide +kernel
theorem dX5_answer_32 : decode cX5_answer 32 = .ok (.bipush 32, 2) := by decide +kernel
theorem dX5_answer_34 : decode cX5_answer 34 = .ok (.lshl, 1) := by decide +kernel
theorem dX5_answer_35 : decode cX5_answer 35 = .ok (.lor, 1) := by decide +kernel
theorem dX5_answer_36 : decode cX5_answer 36 = .ok (.invokevirtual 78, 3) := by decide +kernel
theorem dX5_answer_39 : decode cX5_answer 39 = .ok (.return_, 1) := by decide +kernel
theorem dX5_store_0 : decode cX5_store 0 = .ok (.aload_n 0, 1) := by decide +kernel
theorem dX5_store_1 : decode cX5_store 1 = .ok (.iload_n 1, 1) := by decide +kernel
theorem dX5_store_2 : decode cX5_store 2 = .ok (.invokevirtual 145, 3) := by decide +kernel
theorem dX5_store_5 : decode cX5_store 5 = .ok (.istore_n 2, 1) := by decide +kernel
theorem dX5_store_6 : decode cX5_store 6 = .ok (.iload_n 2, 1) := by decide +kernel
theorem dX5_store_7 : decode cX5_store 7 = .ok (.ifCond .eq 14, 3) := by decide +kernel
theorem dX5_store_10 : decode cX5_store 10 = .ok (.aload_n 0, 1) := by decide +kernel
theorem dX5_store_11 : decode cX5_store 11 = .ok (.iload_n 2, 1) := by decide +kernel
theorem dX5_store_12 : decode cX5_store 12 = .ok (.aload_n 0, 1) := by decide +kernel
theorem dX5_store_13 : decode cX5_store 13 = .ok (.getfield 148, 3) := by decide +kernel
theorem dX5_store_16 : decode cX5_store 16 = .ok (.invokevirtual 152, 3) := by decide +kernel
theorem dX5_store_19 : decode cX5_store 19 = .ok (.iconst 0, 1) := by decide +kernel
theorem dX5_store_20 : decode cX5_store 20 = .ok (.ireturn, 1) := by decide +kernel
theorem dX5_store_21 : decode cX5_store 21 = .ok (.iconst 0, 1) := by decide +kernel
theorem dX5_store_22 : decode cX5_store 22 = .ok (.istore_n 3, 1) := by decide +kernel
theorem dX5_store_23 : decode cX5_store 23 = .ok (.iload_n 3, 1) := by decide +kernel
theorem dX5_store_24 : decode cX5_store 24 = .ok (.aload_n 0, 1) := by decide +kernel
theorem dX5_store_25 : decode cX5_store 25 = .ok (.getfield 16, 3) := by decide +kernel
theorem dX5_store_28 : decode cX5_store 28 = .ok (.iload_n 1, 1) := by decide +kernel
theorem dX5_store_29 : decode cX5_store 29 = .ok (.iaload, 1) := by decide +kernel
theorem dX5_store_30 : decode cX5_store 30 = .ok (.if_icmp .ge 28, 3) := by decide +kernel
theorem dX5_store_33 : decode cX5_store 33 = .ok (.aload_n 0, 1) := by decide +kernel
theorem dX5_store_34 : decode cX5_store 34 = .ok (.getfield 25, 3) := by decide +kernel
theorem dX5_store_37 : decode cX5_store 37 = .ok (.aload_n 0, 1) := by decide +kernel
theorem dX5_store_38 : decode cX5_store 38 = .ok (.getfield 22, 3) := by decide +kernel
theorem dX5_store_41 : decode cX5_store 41 = .ok (.iload_n 1, 1) := by decide +kernel
theorem dX5_store_42 : decode cX5_store 42 = .ok (.iaload, 1) := by decide +kernel
theorem dX5_store_43 : decode cX5_store 43 = .ok (.iload_n 3, 1) := by decide +kernel
theorem dX5_store_44 : decode cX5_store 44 = .ok (.iadd, 1) := by decide +kernel
theorem dX5_store_45 : decode cX5_store 45 = .ok (.aload_n 0, 1) := by decide +kernel
theorem dX5_store_46 : decode cX5_store 46 = .ok (.getfield 28, 3) := by decide +kernel
theorem dX5_store_49 : decode cX5_store 49 = .ok (.iload_n 3, 1) := by decide +kernel
theorem dX5_store_50 : decode cX5_store 50 = .ok (.iaload, 1) := by decide +kernel
theorem dX5_store_51 : decode cX5_store 51 = .ok (.iastore, 1) := by decide +kernel
theorem dX5_store_52 : decode cX5_store 52 = .ok (.iinc 3 1, 3) := by decide +kernel
theorem dX5_store_55 : decode cX5_store 55 = .ok (.goto (-32), 3) := by decide +kernel
theorem dX5_store_58 : decode cX5_store 58 = .ok (.aload_n 0, 1) := by decide +kernel
theorem dX5_store_59 : decode cX5_store 59 = .ok (.iload_n 1, 1) := by decide +kernel
theorem dX5_store_60 : decode cX5_store 60 = .ok (.bipush 8, 2) := by decide +kernel
theorem dX5_store_62 : decode cX5_store 62 = .ok (.if_icmp .ne 7, 3) := by decide +kernel
theorem dX5_store_65 : decode cX5_store 65 = .ok (.iconst 0, 1) := by decide +kernel
theorem dX5_store_66 : decode cX5_store 66 = .ok (.goto 7, 3) := by decide +kernel
theorem dX5_store_69 : decode cX5_store 69 = .ok (.aload_n 0, 1) := by decide +kernel
theorem dX5_store_70 : decode cX5_store 70 = .ok (.getfield 91, 3) := by decide +kernel
theorem dX5_store_73 : decode cX5_store 73 = .ok (.putfield 91, 3) := by decide +kernel
theorem dX5_store_76 : decode cX5_store 76 = .ok (.aload_n 0, 1) := by decide +kernel
theorem dX5_store_77 : decode cX5_store 77 = .ok (.iload_n 1, 1) := by decide +kernel
theorem dX5_store_78 : decode cX5_store 78 = .ok (.iconst 2, 1) := by decide +kernel
theorem dX5_store_79 : decode cX5_store 79 = .ok (.if_icmp .ne 7, 3) := by decide +kernel
theorem dX5_store_82 : decode cX5_store 82 = .ok (.iconst 0, 1) := by decide +kernel
theorem dX5_store_83 : decode cX5_store 83 = .ok (.goto 7, 3) := by decide +kernel
theorem dX5_store_86 : decode cX5_store 86 = .ok (.aload_n 0, 1) := by decide +kernel
theorem dX5_store_87 : decode cX5_store 87 = .ok (.getfield 88, 3) := by decide +kernel
theorem dX5_store_90 : decode cX5_store 90 = .ok (.putfield 88, 3) := by decide +kernel
theorem dX5_store_93 : decode cX5_store 93 = .ok (.iconst 1, 1) := by decide +kernel
theorem dX5_store_94 : decode cX5_store 94 = .ok (.ireturn, 1) := by decide +kernel
theorem dX5_storing_0 : decode cX5_storing 0 = .ok (.aload_n 0, 1) := by decide +kernel
theorem dX5_storing_1 : decode cX5_storing 1 = .ok (.getfield 28, 3) := by decide +kernel
theorem dX5_storing_4 : decode cX5_storing 4 = .ok (.iconst 0, 1) := by decide +kernel
theorem dX5_storing_5 : decode cX5_storing 5 = .ok (.iaload, 1) := by decide +kernel
theorem dX5_storing_6 : decode cX5_storing 6 = .ok (.istore_n 2, 1) := by decide +kernel
theorem dX5_storing_7 : decode cX5_storing 7 = .ok (.iconst 1, 1) := by decide +kernel
theorem dX5_storing_8 : decode cX5_storing 8 = .ok (.istore_n 3, 1) := by decide +kernel
theorem dX5_storing_9 : decode cX5_storing 9 = .ok (.iload_n 3, 1) := by decide +kernel
theorem dX5_storing_10 : decode cX5_storing 10 = .ok (.aload_n 0, 1) := by decide +kernel
theorem dX5_storing_11 : decode cX5_storing 11 = .ok (.getfield 16, 3) := by decide +kernel
theorem dX5_storing_14 : decode cX5_storing 14 = .ok (.iload_n 1, 1) := by decide +kernel
theorem dX5_storing_15 : decode cX5_storing 15 = .ok (.iaload, 1) := by decide +kernel
theorem dX5_storing_16 : decode cX5_storing 16 = .ok (.if_icmp .ge 28, 3) := by decide +kernel
theorem dX5_storing_19 : decode cX5_storing 19 = .ok (.iload_n 3, 1) := by decide +kernel
theorem dX5_storing_20 : decode cX5_storing 20 = .ok (.iconst 4, 1) := by decide +kernel
theorem dX5_storing_21 : decode cX5_storing 21 = .ok (.if_icmp .ge 23, 3) := by decide +kernel
theorem dX5_storing_24 : decode cX5_storing 24 = .ok (.iload_n 2, 1) := by decide +kernel
theorem dX5_storing_25 : decode cX5_storing 25 = .ok (.aload_n 0, 1) := by decide +kernel
theorem dX5_storing_26 : decode cX5_storing 26 = .ok (.getfield 28, 3) := by decide +kernel
theorem dX5_storing_29 : decode cX5_storing 29 = .ok (.iload_n 3, 1) := by decide +kernel
theorem dX5_storing_30 : decode cX5_storing 30 = .ok (.iaload, 1) := by decide +kernel
theorem dX5_storing_31 : decode cX5_storing 31 = .ok (.bipush 8, 2) := by decide +kernel
theorem dX5_storing_33 : decode cX5_storing 33 = .ok (.iload_n 3, 1) := by decide +kernel
theorem dX5_storing_34 : decode cX5_storing 34 = .ok (.imul, 1) := by decide +kernel
theorem dX5_storing_35 : decode cX5_storing 35 = .ok (.ishl, 1) := by decide +kernel
theorem dX5_storing_36 : decode cX5_storing 36 = .ok (.ior, 1) := by decide +kernel
theorem dX5_storing_37 : decode cX5_storing 37 = .ok (.istore_n 2, 1) := by decide +kernel
theorem dX5_storing_38 : decode cX5_storing 38 = .ok (.iinc 3 1, 3) := by decide +kernel
theorem dX5_storing_41 : decode cX5_storing 41 = .ok (.goto (-32), 3) := by decide +kernel
theorem dX5_storing_44 : decode cX5_storing 44 = .ok (.iload_n 1, 1) := by decide +kernel
theorem dX5_storing_45 : decode cX5_storing 45 = .ok (.bipush 8, 2) := by decide +kernel
theorem dX5_storing_47 : decode cX5_storing 47 = .ok (.if_icmp .ne 24, 3) := by decide +kernel
theorem dX5_storing_50 : decode cX5_storing 50 = .ok (.iload_n 2, 1) := by decide +kernel
theorem dX5_storing_51 : decode cX5_storing 51 = .ok (.sipush 240, 3) := by decide +kernel
theorem dX5_storing_54 : decode cX5_storing 54 = .ok (.if_icmp .le 15, 3) := by decide +kernel
theorem dX5_storing_57 : decode cX5_storing 57 = .ok (.iload_n 2, 1) := by decide +kernel
theorem dX5_storing_58 : decode cX5_storing 58 = .ok (.sipush 254, 3) := by decide +kernel
theorem dX5_storing_61 : decode cX5_storing 61 = .ok (.if_icmp .ge 8, 3) := by decide +kernel
theorem dX5_storing_64 : decode cX5_storing 64 = .ok (.ldc 140, 2) := by decide +kernel
theorem dX5_storing_66 : decode cX5_storing 66 = .ok (.goto 4, 3) := by decide +kernel
theorem dX5_storing_69 : decode cX5_storing 69 = .ok (.iconst 0, 1) := by decide +kernel
theorem dX5_storing_70 : decode cX5_storing 70 = .ok (.ireturn, 1) := by decide +kernel
theorem dX5_storing_71 : decode cX5_storing 71 = .ok (.iload_n 1, 1) := by decide +kernel
theorem dX5_storing_72 : decode cX5_storing 72 = .ok (.iconst 3, 1) := by decide +kernel
theorem dX5_storing_73 : decode cX5_storing 73 = .ok (.if_icmp .lt 13, 3) := by decide +kernel
theorem dX5_storing_76 : decode cX5_storing 76 = .ok (.iload_n 1, 1) := by decide +kernel
theorem dX5_storing_77 : decode cX5_storing 77 = .ok (.bipush 8, 2) := by decide +kernel
theorem dX5_storing_79 : decode cX5_storing 79 = .ok (.if_icmp .ge 7, 3) := by decide +kernel
theorem dX5_storing_82 : decode cX5_storing 82 = .ok (.iconst 3, 1) := by decide +kernel
theorem dX5_storing_83 : decode cX5_storing 83 = .ok (.goto 21, 3) := by decide +kernel
theorem dX5_storing_86 : decode cX5_storing 86 = .ok (.iload_n 1, 1) := by decide +kernel
theorem dX5_storing_87 : decode cX5_storing 87 = .ok (.bipush 9, 2) := by decide +kernel
theorem dX5_storing_89 : decode cX5_storing 89 = .ok (.if_icmp .lt 14, 3) := by decide +kernel
theorem dX5_storing_92 : decode cX5_storing 92 = .ok (.iload_n 1, 1) := by decide +kernel
theorem dX5_storing_93 : decode cX5_storing 93 = .ok (.bipush 14, 2) := by decide +kernel
theorem dX5_storing_95 : decode cX5_storing 95 = .ok (.if_icmp .ge 8, 3) := by decide +kernel
theorem dX5_storing_98 : decode cX5_storing 98 = .ok (.bipush 9, 2) := by decide +kernel
theorem dX5_storing_100 : decode cX5_storing 100 = .ok (.goto 4, 3) := by decide +kernel
theorem dX5_storing_103 : decode cX5_storing 103 = .ok (.iconst 0, 1) := by decide +kernel
theorem dX5_storing_104 : decode cX5_storing 104 = .ok (.istore_n 3, 1) := by decide +kernel
theorem dX5_storing_105 : decode cX5_storing 105 = .ok (.iload_n 3, 1) := by decide +kernel
theorem dX5_storing_106 : decode cX5_storing 106 = .ok (.ifCond .ne 5, 3) := by decide +kernel
theorem dX5_storing_109 : decode cX5_storing 109 = .ok (.iconst 0, 1) := by decide +kernel
theorem dX5_storing_110 : decode cX5_storing 110 = .ok (.ireturn, 1) := by decide +kernel
theorem dX5_storing_111 : decode cX5_storing 111 = .ok (.aload_n 0, 1) := by decide +kernel
theorem dX5_storing_112 : decode cX5_storing 112 = .ok (.getfield 82, 3) := by decide +kernel
theorem dX5_storing_115 : decode cX5_storing 115 = .ok (.bipush 127, 2) := by decide +kernel
theorem dX5_storing_117 : decode cX5_storing 117 = .ok (.if_icmp .eq 6, 3) := by decide +kernel
theorem dX5_storing_120 : decode cX5_storing 120 = .ok (.ldc 141, 2) := by decide +kernel
theorem dX5_storing_122 : decode cX5_storing 122 = .ok (.ireturn, 1) := by decide +kernel
theorem dX5_storing_123 : decode cX5_storing 123 = .ok (.iload_n 1, 1) := by decide +kernel
theorem dX5_storing_124 : decode cX5_storing 124 = .ok (.iload_n 3, 1) := by decide +kernel
theorem dX5_storing_125 : decode cX5_storing 125 = .ok (.if_icmp .le 39, 3) := by decide +kernel
theorem dX5_storing_128 : decode cX5_storing 128 = .ok (.aload_n 0, 1) := by decide +kernel
theorem dX5_storing_129 : decode cX5_storing 129 = .ok (.iload_n 3, 1) := by decide +kernel
theorem dX5_storing_130 : decode cX5_storing 130 = .ok (.invokevirtual 97, 3) := by decide +kernel
theorem dX5_storing_133 : decode cX5_storing 133 = .ok (.ifCond .eq 8, 3) := by decide +kernel
theorem dX5_storing_136 : decode cX5_storing 136 = .ok (.ldc 142, 2) := by decide +kernel
theorem dX5_storing_138 : decode cX5_storing 138 = .ok (.goto 25, 3) := by decide +kernel
theorem dX5_storing_141 : decode cX5_storing 141 = .ok (.iload_n 2, 1) := by decide +kernel
theorem dX5_storing_142 : decode cX5_storing 142 = .ok (.ifCond .eq 20, 3) := by decide +kernel
theorem dX5_storing_145 : decode cX5_storing 145 = .ok (.aload_n 0, 1) := by decide +kernel
theorem dX5_storing_146 : decode cX5_storing 146 = .ok (.iload_n 2, 1) := by decide +kernel
theorem dX5_storing_147 : decode cX5_storing 147 = .ok (.iload_n 3, 1) := by decide +kernel
theorem dX5_storing_148 : decode cX5_storing 148 = .ok (.invokestatic 101, 3) := by decide +kernel
theorem dX5_storing_151 : decode cX5_storing 151 = .ok (.invokevirtual 104, 3) := by decide +kernel
theorem dX5_storing_154 : decode cX5_storing 154 = .ok (.ifCond .ge 8, 3) := by decide +kernel
theorem dX5_storing_157 : decode cX5_storing 157 = .ok (.ldc 143, 2) := by decide +kernel
theorem dX5_storing_159 : decode cX5_storing 159 = .ok (.goto 4, 3) := by decide +kernel
theorem dX5_storing_162 : decode cX5_storing 162 = .ok (.iconst 0, 1) := by decide +kernel
theorem dX5_storing_163 : decode cX5_storing 163 = .ok (.ireturn, 1) := by decide +kernel
theorem dX5_storing_164 : decode cX5_storing 164 = .ok (.iload_n 2, 1) := by decide +kernel
theorem dX5_storing_165 : decode cX5_storing 165 = .ok (.iconst 4, 1) := by decide +kernel
theorem dX5_storing_166 : decode cX5_storing 166 = .ok (.if_icmp .le 6, 3) := by decide +kernel
theorem dX5_storing_169 : decode cX5_storing 169 = .ok (.ldc 140, 2) := by decide +kernel
theorem dX5_storing_171 : decode cX5_storing 171 = .ok (.ireturn, 1) := by decide +kernel
theorem dX5_storing_172 : decode cX5_storing 172 = .ok (.aload_n 0, 1) := by decide +kernel
theorem dX5_storing_173 : decode cX5_storing 173 = .ok (.iload_n 3, 1) := by decide +kernel
theorem dX5_storing_174 : decode cX5_storing 174 = .ok (.iload_n 2, 1) := by decide +kernel
theorem dX5_storing_175 : decode cX5_storing 175 = .ok (.invokevirtual 116, 3) := by decide +kernel
theorem dX5_storing_178 : decode cX5_storing 178 = .ok (.istore 4, 2) := by decide +kernel
theorem dX5_storing_180 : decode cX5_storing 180 = .ok (.iload 4, 2) := by decide +kernel
theorem dX5_storing_182 : decode cX5_storing 182 = .ok (.ifCond .ge 8, 3) := by decide +kernel
theorem dX5_storing_185 : decode cX5_storing 185 = .ok (.ldc 143, 2) := by decide +kernel
theorem dX5_storing_187 : decode cX5_storing 187 = .ok (.goto 16, 3) := by decide +kernel
theorem dX5_storing_190 : decode cX5_storing 190 = .ok (.iload 4, 2) := by decide +kernel
theorem dX5_storing_192 : decode cX5_storing 192 = .ok (.bipush 8, 2) := by decide +kernel
theorem dX5_storing_194 : decode cX5_storing 194 = .ok (.if_icmp .le 8, 3) := by decide +kernel
theorem dX5_storing_197 : decode cX5_storing 197 = .ok (.ldc 144, 2) := by decide +kernel
theorem dX5_storing_199 : decode cX5_storing 199 = .ok (.goto 4, 3) := by decide +kernel
theorem dX5_storing_202 : decode cX5_storing 202 = .ok (.iconst 0, 1) := by decide +kernel
theorem dX5_storing_203 : decode cX5_storing 203 = .ok (.ireturn, 1) := by decide +kernel
theorem dX5_write_0 : decode cX5_write 0 = .ok (.aload_n 0, 1) := by decide +kernel
theorem dX5_write_1 : decode cX5_write 1 = .ok (.iconst 0, 1) := by decide +kernel
theorem dX5_write_2 : decode cX5_write 2 = .ok (.putfield 85, 3) := by decide +kernel
theorem dX5_write_5 : decode cX5_write 5 = .ok (.aload_n 0, 1) := by decide +kernel
theorem dX5_write_6 : decode cX5_write 6 = .ok (.getfield 123, 3) := by decide +kernel
theorem dX5_write_9 : decode cX5_write 9 = .ok (.bipush 8, 2) := by decide +kernel
theorem dX5_write_11 : decode cX5_write 11 = .ok (.lshr, 1) := by decide +kernel
theorem dX5_write_12 : decode cX5_write 12 = .ok (.ldc2_w 126, 3) := by decide +kernel
theorem dX5_write_15 : decode cX5_write 15 = .ok (.land, 1) := by decide +kernel
theorem dX5_write_16 : decode cX5_write 16 = .ok (.l2i, 1) := by decide +kernel
theorem dX5_write_17 : decode cX5_write 17 = .ok (.istore_n 2, 1) := by decide +kernel
theorem dX5_write_18 : decode cX5_write 18 = .ok (.aload_n 0, 1) := by decide +kernel
theorem dX5_write_19 : decode cX5_write 19 = .ok (.iload_n 2, 1) := by decide +kernel
theorem dX5_write_20 : decode cX5_write 20 = .ok (.aload_n 0, 1) := by decide +kernel
theorem dX5_write_21 : decode cX5_write 21 = .ok (.getfield 123, 3) := by decide +kernel
theorem dX5_write_24 : decode cX5_write 24 = .ok (.iconst 3, 1) := by decide +kernel
theorem dX5_write_25 : decode cX5_write 25 = .ok (.invokestatic 119, 3) := by decide +kernel
theorem dX5_write_28 : decode cX5_write 28 = .ok (.invokevirtual 156, 3) := by decide +kernel
theorem dX5_write_31 : decode cX5_write 31 = .ok (.istore_n 3, 1) := by decide +kernel
theorem dX5_write_32 : decode cX5_write 32 = .ok (.iload_n 3, 1) := by decide +kernel
theorem dX5_write_33 : decode cX5_write 33 = .ok (.ifCond .ge 22, 3) := by decide +kernel
theorem dX5_write_36 : decode cX5_write 36 = .ok (.aload_n 0, 1) := by decide +kernel
theorem dX5_write_37 : decode cX5_write 37 = .ok (.iload_n 3, 1) := by decide +kernel
theorem dX5_write_38 : decode cX5_write 38 = .ok (.bipush (-2), 2) := by decide +kernel
theorem dX5_write_40 : decode cX5_write 40 = .ok (.if_icmp .ne 8, 3) := by decide +kernel
theorem dX5_write_43 : decode cX5_write 43 = .ok (.ldc 159, 2) := by decide +kernel
theorem dX5_write_45 : decode cX5_write 45 = .ok (.goto 5, 3) := by decide +kernel
theorem dX5_write_48 : decode cX5_write 48 = .ok (.ldc 160, 2) := by decide +kernel
theorem dX5_write_50 : decode cX5_write 50 = .ok (.iconst 0, 1) := by decide +kernel
theorem dX5_write_51 : decode cX5_write 51 = .ok (.invokevirtual 152, 3) := by decide +kernel
theorem dX5_write_54 : decode cX5_write 54 = .ok (.return_, 1) := by decide +kernel
theorem dX5_write_55 : decode cX5_write 55 = .ok (.aload_n 0, 1) := by decide +kernel
theorem dX5_write_56 : decode cX5_write 56 = .ok (.getfield 19, 3) := by decide +kernel
theorem dX5_write_59 : decode cX5_write 59 = .ok (.iload_n 3, 1) := by decide +kernel
theorem dX5_write_60 : decode cX5_write 60 = .ok (.iaload, 1) := by decide +kernel
theorem dX5_write_61 : decode cX5_write 61 = .ok (.iconst 2, 1) := by decide +kernel
end
section
theorem dX5_write_62 : decode cX5_write 62 = .ok (.iand, 1) := by decide +kernel
theorem dX5_write_63 : decode cX5_write 63 = .ok (.ifCond .ne 11, 3) := by decide +kernel
theorem dX5_write_66 : decode cX5_write 66 = .ok (.aload_n 0, 1) := by decide +kernel
theorem dX5_write_67 : decode cX5_write 67 = .ok (.ldc 161, 2) := by decide +kernel
theorem dX5_write_69 : decode cX5_write 69 = .ok (.iconst 0, 1) := by decide +kernel
theorem dX5_write_70 : decode cX5_write 70 = .ok (.invokevirtual 152, 3) := by decide +kernel
theorem dX5_write_73 : decode cX5_write 73 = .ok (.return_, 1) := by decide +kernel
theorem dX5_write_74 : decode cX5_write 74 = .ok (.iload_n 1, 1) := by decide +kernel
theorem dX5_write_75 : decode cX5_write 75 = .ok (.iconst 2, 1) := by decide +kernel
theorem dX5_write_76 : decode cX5_write 76 = .ok (.iand, 1) := by decide +kernel
theorem dX5_write_77 : decode cX5_write 77 = .ok (.ifCond .eq 7, 3) := by decide +kernel
theorem dX5_write_80 : decode cX5_write 80 = .ok (.iconst 1, 1) := by decide +kernel
theorem dX5_write_81 : decode cX5_write 81 = .ok (.goto 4, 3) := by decide +kernel
theorem dX5_write_84 : decode cX5_write 84 = .ok (.iconst 0, 1) := by decide +kernel
theorem dX5_write_85 : decode cX5_write 85 = .ok (.istore 4, 2) := by decide +kernel
theorem dX5_write_87 : decode cX5_write 87 = .ok (.iload_n 1, 1) := by decide +kernel
theorem dX5_write_88 : decode cX5_write 88 = .ok (.iconst 1, 1) := by decide +kernel
theorem dX5_write_89 : decode cX5_write 89 = .ok (.iand, 1) := by decide +kernel
theorem dX5_write_90 : decode cX5_write 90 = .ok (.ifCond .eq 7, 3) := by decide +kernel
theorem dX5_write_93 : decode cX5_write 93 = .ok (.iconst 1, 1) := by decide +kernel
theorem dX5_write_94 : decode cX5_write 94 = .ok (.goto 4, 3) := by decide +kernel
theorem dX5_write_97 : decode cX5_write 97 = .ok (.iconst 0, 1) := by decide +kernel
theorem dX5_write_98 : decode cX5_write 98 = .ok (.istore 5, 2) := by decide +kernel
theorem dX5_write_100 : decode cX5_write 100 = .ok (.iload 5, 2) := by decide +kernel
theorem dX5_write_102 : decode cX5_write 102 = .ok (.ifCond .ne 12, 3) := by decide +kernel
theorem dX5_write_105 : decode cX5_write 105 = .ok (.aload_n 0, 1) := by decide +kernel
theorem dX5_write_106 : decode cX5_write 106 = .ok (.getfield 16, 3) := by decide +kernel
theorem dX5_write_109 : decode cX5_write 109 = .ok (.iload_n 3, 1) := by decide +kernel
theorem dX5_write_110 : decode cX5_write 110 = .ok (.iaload, 1) := by decide +kernel
theorem dX5_write_111 : decode cX5_write 111 = .ok (.goto 11, 3) := by decide +kernel
theorem dX5_write_114 : decode cX5_write 114 = .ok (.aload_n 0, 1) := by decide +kernel
theorem dX5_write_115 : decode cX5_write 115 = .ok (.getfield 123, 3) := by decide +kernel
theorem dX5_write_118 : decode cX5_write 118 = .ok (.bipush 32, 2) := by decide +kernel
theorem dX5_write_120 : decode cX5_write 120 = .ok (.lshr, 1) := by decide +kernel
theorem dX5_write_121 : decode cX5_write 121 = .ok (.l2i, 1) := by decide +kernel
theorem dX5_write_122 : decode cX5_write 122 = .ok (.istore 6, 2) := by decide +kernel
theorem dX5_write_124 : decode cX5_write 124 = .ok (.iload 4, 2) := by decide +kernel
theorem dX5_write_126 : decode cX5_write 126 = .ok (.ifCond .eq 40, 3) := by decide +kernel
theorem dX5_write_129 : decode cX5_write 129 = .ok (.iload 5, 2) := by decide +kernel
theorem dX5_write_131 : decode cX5_write 131 = .ok (.ifCond .eq 13, 3) := by decide +kernel
theorem dX5_write_134 : decode cX5_write 134 = .ok (.iconst 4, 1) := by decide +kernel
theorem dX5_write_135 : decode cX5_write 135 = .ok (.iload_n 1, 1) := by decide +kernel
theorem dX5_write_136 : decode cX5_write 136 = .ok (.iconst 2, 1) := by decide +kernel
theorem dX5_write_137 : decode cX5_write 137 = .ok (.ishr, 1) := by decide +kernel
theorem dX5_write_138 : decode cX5_write 138 = .ok (.iconst 3, 1) := by decide +kernel
theorem dX5_write_139 : decode cX5_write 139 = .ok (.iand, 1) := by decide +kernel
theorem dX5_write_140 : decode cX5_write 140 = .ok (.isub, 1) := by decide +kernel
theorem dX5_write_141 : decode cX5_write 141 = .ok (.goto 23, 3) := by decide +kernel
theorem dX5_write_144 : decode cX5_write 144 = .ok (.aload_n 0, 1) := by decide +kernel
theorem dX5_write_145 : decode cX5_write 145 = .ok (.getfield 16, 3) := by decide +kernel
theorem dX5_write_148 : decode cX5_write 148 = .ok (.iload_n 3, 1) := by decide +kernel
theorem dX5_write_149 : decode cX5_write 149 = .ok (.iaload, 1) := by decide +kernel
theorem dX5_write_150 : decode cX5_write 150 = .ok (.iconst 4, 1) := by decide +kernel
theorem dX5_write_151 : decode cX5_write 151 = .ok (.if_icmp .ge 12, 3) := by decide +kernel
theorem dX5_write_154 : decode cX5_write 154 = .ok (.aload_n 0, 1) := by decide +kernel
theorem dX5_write_155 : decode cX5_write 155 = .ok (.getfield 16, 3) := by decide +kernel
theorem dX5_write_158 : decode cX5_write 158 = .ok (.iload_n 3, 1) := by decide +kernel
theorem dX5_write_159 : decode cX5_write 159 = .ok (.iaload, 1) := by decide +kernel
theorem dX5_write_160 : decode cX5_write 160 = .ok (.goto 4, 3) := by decide +kernel
theorem dX5_write_163 : decode cX5_write 163 = .ok (.iconst 4, 1) := by decide +kernel
theorem dX5_write_164 : decode cX5_write 164 = .ok (.istore 6, 2) := by decide +kernel
theorem dX5_write_166 : decode cX5_write 166 = .ok (.iload 6, 2) := by decide +kernel
theorem dX5_write_168 : decode cX5_write 168 = .ok (.aload_n 0, 1) := by decide +kernel
theorem dX5_write_169 : decode cX5_write 169 = .ok (.getfield 16, 3) := by decide +kernel
theorem dX5_write_172 : decode cX5_write 172 = .ok (.iload_n 3, 1) := by decide +kernel
theorem dX5_write_173 : decode cX5_write 173 = .ok (.iaload, 1) := by decide +kernel
theorem dX5_write_174 : decode cX5_write 174 = .ok (.if_icmp .eq 27, 3) := by decide +kernel
theorem dX5_write_177 : decode cX5_write 177 = .ok (.aload_n 0, 1) := by decide +kernel
theorem dX5_write_178 : decode cX5_write 178 = .ok (.iload 6, 2) := by decide +kernel
theorem dX5_write_180 : decode cX5_write 180 = .ok (.aload_n 0, 1) := by decide +kernel
theorem dX5_write_181 : decode cX5_write 181 = .ok (.getfield 16, 3) := by decide +kernel
theorem dX5_write_184 : decode cX5_write 184 = .ok (.iload_n 3, 1) := by decide +kernel
theorem dX5_write_185 : decode cX5_write 185 = .ok (.iaload, 1) := by decide +kernel
theorem dX5_write_186 : decode cX5_write 186 = .ok (.if_icmp .le 8, 3) := by decide +kernel
theorem dX5_write_189 : decode cX5_write 189 = .ok (.ldc 162, 2) := by decide +kernel
theorem dX5_write_191 : decode cX5_write 191 = .ok (.goto 5, 3) := by decide +kernel
theorem dX5_write_194 : decode cX5_write 194 = .ok (.ldc 163, 2) := by decide +kernel
theorem dX5_write_196 : decode cX5_write 196 = .ok (.iconst 0, 1) := by decide +kernel
theorem dX5_write_197 : decode cX5_write 197 = .ok (.invokevirtual 152, 3) := by decide +kernel
theorem dX5_write_200 : decode cX5_write 200 = .ok (.return_, 1) := by decide +kernel
theorem dX5_write_201 : decode cX5_write 201 = .ok (.iload 4, 2) := by decide +kernel
theorem dX5_write_203 : decode cX5_write 203 = .ok (.ifCond .ne 29, 3) := by decide +kernel
theorem dX5_write_206 : decode cX5_write 206 = .ok (.aload_n 0, 1) := by decide +kernel
theorem dX5_write_207 : decode cX5_write 207 = .ok (.iconst 1, 1) := by decide +kernel
theorem dX5_write_208 : decode cX5_write 208 = .ok (.iload_n 3, 1) := by decide +kernel
theorem dX5_write_209 : decode cX5_write 209 = .ok (.invokevirtual 164, 3) := by decide +kernel
theorem dX5_write_212 : decode cX5_write 212 = .ok (.aload_n 0, 1) := by decide +kernel
theorem dX5_write_213 : decode cX5_write 213 = .ok (.bipush 96, 2) := by decide +kernel
theorem dX5_write_215 : decode cX5_write 215 = .ok (.aload_n 0, 1) := by decide +kernel
theorem dX5_write_216 : decode cX5_write 216 = .ok (.getfield 7, 3) := by decide +kernel
theorem dX5_write_219 : decode cX5_write 219 = .ok (.iload_n 3, 1) := by decide +kernel
theorem dX5_write_220 : decode cX5_write 220 = .ok (.iaload, 1) := by decide +kernel
theorem dX5_write_221 : decode cX5_write 221 = .ok (.aload_n 0, 1) := by decide +kernel
theorem dX5_write_222 : decode cX5_write 222 = .ok (.getfield 13, 3) := by decide +kernel
theorem dX5_write_225 : decode cX5_write 225 = .ok (.iload_n 3, 1) := by decide +kernel
theorem dX5_write_226 : decode cX5_write 226 = .ok (.iaload, 1) := by decide +kernel
theorem dX5_write_227 : decode cX5_write 227 = .ok (.iconst 0, 1) := by decide +kernel
theorem dX5_write_228 : decode cX5_write 228 = .ok (.invokevirtual 131, 3) := by decide +kernel
theorem dX5_write_231 : decode cX5_write 231 = .ok (.return_, 1) := by decide +kernel
theorem dX5_write_232 : decode cX5_write 232 = .ok (.iconst 0, 1) := by decide +kernel
theorem dX5_write_233 : decode cX5_write 233 = .ok (.istore 7, 2) := by decide +kernel
theorem dX5_write_235 : decode cX5_write 235 = .ok (.iload 7, 2) := by decide +kernel
theorem dX5_write_237 : decode cX5_write 237 = .ok (.iload 6, 2) := by decide +kernel
theorem dX5_write_239 : decode cX5_write 239 = .ok (.if_icmp .ge 27, 3) := by decide +kernel
theorem dX5_write_242 : decode cX5_write 242 = .ok (.aload_n 0, 1) := by decide +kernel
theorem dX5_write_243 : decode cX5_write 243 = .ok (.getfield 28, 3) := by decide +kernel
theorem dX5_write_246 : decode cX5_write 246 = .ok (.iload 7, 2) := by decide +kernel
theorem dX5_write_248 : decode cX5_write 248 = .ok (.aload_n 0, 1) := by decide +kernel
theorem dX5_write_249 : decode cX5_write 249 = .ok (.getfield 123, 3) := by decide +kernel
theorem dX5_write_252 : decode cX5_write 252 = .ok (.iconst 4, 1) := by decide +kernel
theorem dX5_write_253 : decode cX5_write 253 = .ok (.iload 7, 2) := by decide +kernel
theorem dX5_write_255 : decode cX5_write 255 = .ok (.iadd, 1) := by decide +kernel
theorem dX5_write_256 : decode cX5_write 256 = .ok (.invokestatic 119, 3) := by decide +kernel
theorem dX5_write_259 : decode cX5_write 259 = .ok (.iastore, 1) := by decide +kernel
theorem dX5_write_260 : decode cX5_write 260 = .ok (.iinc 7 1, 3) := by decide +kernel
theorem dX5_write_263 : decode cX5_write 263 = .ok (.goto (-28), 3) := by decide +kernel
theorem dX5_write_266 : decode cX5_write 266 = .ok (.aload_n 0, 1) := by decide +kernel
theorem dX5_write_267 : decode cX5_write 267 = .ok (.iload_n 3, 1) := by decide +kernel
theorem dX5_write_268 : decode cX5_write 268 = .ok (.invokevirtual 168, 3) := by decide +kernel
theorem dX5_write_271 : decode cX5_write 271 = .ok (.ifCond .eq 22, 3) := by decide +kernel
theorem dX5_write_274 : decode cX5_write 274 = .ok (.aload_n 0, 1) := by decide +kernel
theorem dX5_write_275 : decode cX5_write 275 = .ok (.bipush 96, 2) := by decide +kernel
theorem dX5_write_277 : decode cX5_write 277 = .ok (.aload_n 0, 1) := by decide +kernel
theorem dX5_write_278 : decode cX5_write 278 = .ok (.getfield 7, 3) := by decide +kernel
theorem dX5_write_281 : decode cX5_write 281 = .ok (.iload_n 3, 1) := by decide +kernel
theorem dX5_write_282 : decode cX5_write 282 = .ok (.iaload, 1) := by decide +kernel
theorem dX5_write_283 : decode cX5_write 283 = .ok (.aload_n 0, 1) := by decide +kernel
theorem dX5_write_284 : decode cX5_write 284 = .ok (.getfield 13, 3) := by decide +kernel
theorem dX5_write_287 : decode cX5_write 287 = .ok (.iload_n 3, 1) := by decide +kernel
theorem dX5_write_288 : decode cX5_write 288 = .ok (.iaload, 1) := by decide +kernel
theorem dX5_write_289 : decode cX5_write 289 = .ok (.iconst 0, 1) := by decide +kernel
theorem dX5_write_290 : decode cX5_write 290 = .ok (.invokevirtual 131, 3) := by decide +kernel
theorem dX5_write_293 : decode cX5_write 293 = .ok (.return_, 1) := by decide +kernel
theorem dX5_find_0 : decode cX5_find 0 = .ok (.bipush (-2), 2) := by decide +kernel
theorem dX5_find_2 : decode cX5_find 2 = .ok (.istore_n 3, 1) := by decide +kernel
theorem dX5_find_3 : decode cX5_find 3 = .ok (.iconst 0, 1) := by decide +kernel
theorem dX5_find_4 : decode cX5_find 4 = .ok (.istore 4, 2) := by decide +kernel
theorem dX5_find_6 : decode cX5_find 6 = .ok (.iload 4, 2) := by decide +kernel
theorem dX5_find_8 : decode cX5_find 8 = .ok (.bipush 22, 2) := by decide +kernel
theorem dX5_find_10 : decode cX5_find 10 = .ok (.if_icmp .ge 48, 3) := by decide +kernel
theorem dX5_find_13 : decode cX5_find 13 = .ok (.aload_n 0, 1) := by decide +kernel
theorem dX5_find_14 : decode cX5_find 14 = .ok (.getfield 7, 3) := by decide +kernel
theorem dX5_find_17 : decode cX5_find 17 = .ok (.iload 4, 2) := by decide +kernel
theorem dX5_find_19 : decode cX5_find 19 = .ok (.iaload, 1) := by decide +kernel
theorem dX5_find_20 : decode cX5_find 20 = .ok (.iload_n 1, 1) := by decide +kernel
theorem dX5_find_21 : decode cX5_find 21 = .ok (.if_icmp .ne 31, 3) := by decide +kernel
theorem dX5_find_24 : decode cX5_find 24 = .ok (.aload_n 0, 1) := by decide +kernel
theorem dX5_find_25 : decode cX5_find 25 = .ok (.getfield 13, 3) := by decide +kernel
theorem dX5_find_28 : decode cX5_find 28 = .ok (.iload 4, 2) := by decide +kernel
theorem dX5_find_30 : decode cX5_find 30 = .ok (.iaload, 1) := by decide +kernel
theorem dX5_find_31 : decode cX5_find 31 = .ok (.iload_n 2, 1) := by decide +kernel
theorem dX5_find_32 : decode cX5_find 32 = .ok (.if_icmp .ne 8, 3) := by decide +kernel
theorem dX5_find_35 : decode cX5_find 35 = .ok (.iload 4, 2) := by decide +kernel
theorem dX5_find_37 : decode cX5_find 37 = .ok (.goto 14, 3) := by decide +kernel
theorem dX5_find_40 : decode cX5_find 40 = .ok (.iload_n 3, 1) := by decide +kernel
theorem dX5_find_41 : decode cX5_find 41 = .ok (.bipush (-2), 2) := by decide +kernel
theorem dX5_find_43 : decode cX5_find 43 = .ok (.if_icmp .ne 7, 3) := by decide +kernel
theorem dX5_find_46 : decode cX5_find 46 = .ok (.iconst (-1), 1) := by decide +kernel
theorem dX5_find_47 : decode cX5_find 47 = .ok (.goto 4, 3) := by decide +kernel
theorem dX5_find_50 : decode cX5_find 50 = .ok (.iload_n 3, 1) := by decide +kernel
theorem dX5_find_51 : decode cX5_find 51 = .ok (.istore_n 3, 1) := by decide +kernel
theorem dX5_find_52 : decode cX5_find 52 = .ok (.iinc 4 1, 3) := by decide +kernel
theorem dX5_find_55 : decode cX5_find 55 = .ok (.goto (-49), 3) := by decide +kernel
theorem dX5_find_58 : decode cX5_find 58 = .ok (.iload_n 3, 1) := by decide +kernel
theorem dX5_find_59 : decode cX5_find 59 = .ok (.ireturn, 1) := by decide +kernel
theorem dX5_begin_0 : decode cX5_begin 0 = .ok (.aload_n 0, 1) := by decide +kernel
theorem dX5_begin_1 : decode cX5_begin 1 = .ok (.iload_n 1, 1) := by decide +kernel
theorem dX5_begin_2 : decode cX5_begin 2 = .ok (.putfield 85, 3) := by decide +kernel
theorem dX5_begin_5 : decode cX5_begin 5 = .ok (.aload_n 0, 1) := by decide +kernel
theorem dX5_begin_6 : decode cX5_begin 6 = .ok (.iload_n 2, 1) := by decide +kernel
theorem dX5_begin_7 : decode cX5_begin 7 = .ok (.putfield 128, 3) := by decide +kernel
theorem dX5_begin_10 : decode cX5_begin 10 = .ok (.aload_n 0, 1) := by decide +kernel
theorem dX5_begin_11 : decode cX5_begin 11 = .ok (.iconst 0, 1) := by decide +kernel
theorem dX5_begin_12 : decode cX5_begin 12 = .ok (.putfield 134, 3) := by decide +kernel
theorem dX5_begin_15 : decode cX5_begin 15 = .ok (.aload_n 0, 1) := by decide +kernel
theorem dX5_begin_16 : decode cX5_begin 16 = .ok (.iconst 0, 1) := by decide +kernel
theorem dX5_begin_17 : decode cX5_begin 17 = .ok (.putfield 137, 3) := by decide +kernel
theorem dX5_begin_20 : decode cX5_begin 20 = .ok (.aload_n 0, 1) := by decide +kernel
theorem dX5_begin_21 : decode cX5_begin 21 = .ok (.iconst 0, 1) := by decide +kernel
theorem dX5_begin_22 : decode cX5_begin 22 = .ok (.putfield 94, 3) := by decide +kernel
theorem dX5_begin_25 : decode cX5_begin 25 = .ok (.return_, 1) := by decide +kernel
theorem dX5_read_0 : decode cX5_read 0 = .ok (.aload_n 0, 1) := by decide +kernel
theorem dX5_read_1 : decode cX5_read 1 = .ok (.iconst 0, 1) := by decide +kernel
theorem dX5_read_2 : decode cX5_read 2 = .ok (.putfield 85, 3) := by decide +kernel
theorem dX5_read_5 : decode cX5_read 5 = .ok (.aload_n 0, 1) := by decide +kernel
theorem dX5_read_6 : decode cX5_read 6 = .ok (.aload_n 0, 1) := by decide +kernel
theorem dX5_read_7 : decode cX5_read 7 = .ok (.getfield 123, 3) := by decide +kernel
theorem dX5_read_10 : decode cX5_read 10 = .ok (.bipush 8, 2) := by decide +kernel
theorem dX5_read_12 : decode cX5_read 12 = .ok (.lshr, 1) := by decide +kernel
theorem dX5_read_13 : decode cX5_read 13 = .ok (.ldc2_w 126, 3) := by decide +kernel
theorem dX5_read_16 : decode cX5_read 16 = .ok (.land, 1) := by decide +kernel
theorem dX5_read_17 : decode cX5_read 17 = .ok (.l2i, 1) := by decide +kernel
theorem dX5_read_18 : decode cX5_read 18 = .ok (.aload_n 0, 1) := by decide +kernel
theorem dX5_read_19 : decode cX5_read 19 = .ok (.getfield 123, 3) := by decide +kernel
theorem dX5_read_22 : decode cX5_read 22 = .ok (.iconst 3, 1) := by decide +kernel
theorem dX5_read_23 : decode cX5_read 23 = .ok (.invokestatic 119, 3) := by decide +kernel
theorem dX5_read_26 : decode cX5_read 26 = .ok (.invokevirtual 156, 3) := by decide +kernel
theorem dX5_read_29 : decode cX5_read 29 = .ok (.istore_n 1, 1) := by decide +kernel
theorem dX5_read_30 : decode cX5_read 30 = .ok (.iload_n 1, 1) := by decide +kernel
theorem dX5_read_31 : decode cX5_read 31 = .ok (.ifCond .ge 24, 3) := by decide +kernel
theorem dX5_read_34 : decode cX5_read 34 = .ok (.aload_n 0, 1) := by decide +kernel
theorem dX5_read_35 : decode cX5_read 35 = .ok (.iload_n 1, 1) := by decide +kernel
theorem dX5_read_36 : decode cX5_read 36 = .ok (.bipush (-2), 2) := by decide +kernel
theorem dX5_read_38 : decode cX5_read 38 = .ok (.if_icmp .ne 8, 3) := by decide +kernel
theorem dX5_read_41 : decode cX5_read 41 = .ok (.ldc 159, 2) := by decide +kernel
theorem dX5_read_43 : decode cX5_read 43 = .ok (.goto 5, 3) := by decide +kernel
theorem dX5_read_46 : decode cX5_read 46 = .ok (.ldc 160, 2) := by decide +kernel
theorem dX5_read_48 : decode cX5_read 48 = .ok (.iconst 0, 1) := by decide +kernel
theorem dX5_read_49 : decode cX5_read 49 = .ok (.invokevirtual 152, 3) := by decide +kernel
theorem dX5_read_52 : decode cX5_read 52 = .ok (.goto 101, 3) := by decide +kernel
theorem dX5_read_55 : decode cX5_read 55 = .ok (.aload_n 0, 1) := by decide +kernel
theorem dX5_read_56 : decode cX5_read 56 = .ok (.getfield 19, 3) := by decide +kernel
theorem dX5_read_59 : decode cX5_read 59 = .ok (.iload_n 1, 1) := by decide +kernel
theorem dX5_read_60 : decode cX5_read 60 = .ok (.iaload, 1) := by decide +kernel
theorem dX5_read_61 : decode cX5_read 61 = .ok (.iconst 1, 1) := by decide +kernel
theorem dX5_read_62 : decode cX5_read 62 = .ok (.iand, 1) := by decide +kernel
theorem dX5_read_63 : decode cX5_read 63 = .ok (.ifCond .ne 13, 3) := by decide +kernel
theorem dX5_read_66 : decode cX5_read 66 = .ok (.aload_n 0, 1) := by decide +kernel
theorem dX5_read_67 : decode cX5_read 67 = .ok (.ldc 174, 2) := by decide +kernel
theorem dX5_read_69 : decode cX5_read 69 = .ok (.iconst 0, 1) := by decide +kernel
theorem dX5_read_70 : decode cX5_read 70 = .ok (.invokevirtual 152, 3) := by decide +kernel
theorem dX5_read_73 : decode cX5_read 73 = .ok (.goto 80, 3) := by decide +kernel
theorem dX5_read_76 : decode cX5_read 76 = .ok (.aload_n 0, 1) := by decide +kernel
theorem dX5_read_77 : decode cX5_read 77 = .ok (.getfield 16, 3) := by decide +kernel
theorem dX5_read_80 : decode cX5_read 80 = .ok (.iload_n 1, 1) := by decide +kernel
theorem dX5_read_81 : decode cX5_read 81 = .ok (.iaload, 1) := by decide +kernel
theorem dX5_read_82 : decode cX5_read 82 = .ok (.iconst 4, 1) := by decide +kernel
theorem dX5_read_83 : decode cX5_read 83 = .ok (.if_icmp .gt 40, 3) := by decide +kernel
theorem dX5_read_86 : decode cX5_read 86 = .ok (.aload_n 0, 1) := by decide +kernel
theorem dX5_read_87 : decode cX5_read 87 = .ok (.bipush 67, 2) := by decide +kernel
theorem dX5_read_89 : decode cX5_read 89 = .ok (.iconst 4, 1) := by decide +kernel
theorem dX5_read_90 : decode cX5_read 90 = .ok (.iconst 4, 1) := by decide +kernel
theorem dX5_read_91 : decode cX5_read 91 = .ok (.aload_n 0, 1) := by decide +kernel
theorem dX5_read_92 : decode cX5_read 92 = .ok (.getfield 16, 3) := by decide +kernel
theorem dX5_read_95 : decode cX5_read 95 = .ok (.iload_n 1, 1) := by decide +kernel
theorem dX5_read_96 : decode cX5_read 96 = .ok (.iaload, 1) := by decide +kernel
theorem dX5_read_97 : decode cX5_read 97 = .ok (.isub, 1) := by decide +kernel
theorem dX5_read_98 : decode cX5_read 98 = .ok (.imul, 1) := by decide +kernel
theorem dX5_read_99 : decode cX5_read 99 = .ok (.iadd, 1) := by decide +kernel
theorem dX5_read_100 : decode cX5_read 100 = .ok (.aload_n 0, 1) := by decide +kernel
theorem dX5_read_101 : decode cX5_read 101 = .ok (.getfield 7, 3) := by decide +kernel
theorem dX5_read_104 : decode cX5_read 104 = .ok (.iload_n 1, 1) := by decide +kernel
theorem dX5_read_105 : decode cX5_read 105 = .ok (.iaload, 1) := by decide +kernel
theorem dX5_read_106 : decode cX5_read 106 = .ok (.aload_n 0, 1) := by decide +kernel
theorem dX5_read_107 : decode cX5_read 107 = .ok (.getfield 13, 3) := by decide +kernel
theorem dX5_read_110 : decode cX5_read 110 = .ok (.iload_n 1, 1) := by decide +kernel
theorem dX5_read_111 : decode cX5_read 111 = .ok (.iaload, 1) := by decide +kernel
theorem dX5_read_112 : decode cX5_read 112 = .ok (.aload_n 0, 1) := by decide +kernel
theorem dX5_read_113 : decode cX5_read 113 = .ok (.iload_n 1, 1) := by decide +kernel
theorem dX5_read_114 : decode cX5_read 114 = .ok (.invokevirtual 97, 3) := by decide +kernel
theorem dX5_read_117 : decode cX5_read 117 = .ok (.invokevirtual 131, 3) := by decide +kernel
theorem dX5_read_120 : decode cX5_read 120 = .ok (.goto 33, 3) := by decide +kernel
theorem dX5_read_123 : decode cX5_read 123 = .ok (.aload_n 0, 1) := by decide +kernel
theorem dX5_read_124 : decode cX5_read 124 = .ok (.iconst 2, 1) := by decide +kernel
theorem dX5_read_125 : decode cX5_read 125 = .ok (.iload_n 1, 1) := by decide +kernel
theorem dX5_read_126 : decode cX5_read 126 = .ok (.invokevirtual 164, 3) := by decide +kernel
theorem dX5_read_129 : decode cX5_read 129 = .ok (.aload_n 0, 1) := by decide +kernel
theorem dX5_read_130 : decode cX5_read 130 = .ok (.bipush 65, 2) := by decide +kernel
theorem dX5_read_132 : decode cX5_read 132 = .ok (.aload_n 0, 1) := by decide +kernel
theorem dX5_read_133 : decode cX5_read 133 = .ok (.getfield 7, 3) := by decide +kernel
theorem dX5_read_136 : decode cX5_read 136 = .ok (.iload_n 1, 1) := by decide +kernel
theorem dX5_read_137 : decode cX5_read 137 = .ok (.iaload, 1) := by decide +kernel
theorem dX5_read_138 : decode cX5_read 138 = .ok (.aload_n 0, 1) := by decide +kernel
theorem dX5_read_139 : decode cX5_read 139 = .ok (.getfield 13, 3) := by decide +kernel
theorem dX5_read_142 : decode cX5_read 142 = .ok (.iload_n 1, 1) := by decide +kernel
theorem dX5_read_143 : decode cX5_read 143 = .ok (.iaload, 1) := by decide +kernel
theorem dX5_read_144 : decode cX5_read 144 = .ok (.aload_n 0, 1) := by decide +kernel
theorem dX5_read_145 : decode cX5_read 145 = .ok (.getfield 16, 3) := by decide +kernel
theorem dX5_read_148 : decode cX5_read 148 = .ok (.iload_n 1, 1) := by decide +kernel
theorem dX5_read_149 : decode cX5_read 149 = .ok (.iaload, 1) := by decide +kernel
theorem dX5_read_150 : decode cX5_read 150 = .ok (.invokevirtual 131, 3) := by decide +kernel
theorem dX5_read_153 : decode cX5_read 153 = .ok (.return_, 1) := by decide +kernel
theorem dX5_readSegment_0 : decode cX5_readSegment 0 = .ok (.aload_n 0, 1) := by decide +kernel
theorem dX5_readSegment_1 : decode cX5_readSegment 1 = .ok (.getfield 85, 3) := by decide +kernel
theorem dX5_readSegment_4 : decode cX5_readSegment 4 = .ok (.iconst 2, 1) := by decide +kernel
theorem dX5_readSegment_5 : decode cX5_readSegment 5 = .ok (.if_icmp .eq 11, 3) := by decide +kernel
theorem dX5_readSegment_8 : decode cX5_readSegment 8 = .ok (.aload_n 0, 1) := by decide +kernel
theorem dX5_readSegment_9 : decode cX5_readSegment 9 = .ok (.ldc 172, 2) := by decide +kernel
theorem dX5_readSegment_11 : decode cX5_readSegment 11 = .ok (.iconst 1, 1) := by decide +kernel
theorem dX5_readSegment_12 : decode cX5_readSegment 12 = .ok (.invokevirtual 152, 3) := by decide +kernel
theorem dX5_readSegment_15 : decode cX5_readSegment 15 = .ok (.return_, 1) := by decide +kernel
theorem dX5_readSegment_16 : decode cX5_readSegment 16 = .ok (.iload_n 1, 1) := by decide +kernel
theorem dX5_readSegment_17 : decode cX5_readSegment 17 = .ok (.iconst 4, 1) := by decide +kernel
theorem dX5_readSegment_18 : decode cX5_readSegment 18 = .ok (.ishr, 1) := by decide +kernel
theorem dX5_readSegment_19 : decode cX5_readSegment 19 = .ok (.iconst 1, 1) := by decide +kernel
theorem dX5_readSegment_20 : decode cX5_readSegment 20 = .ok (.iand, 1) := by decide +kernel
theorem dX5_readSegment_21 : decode cX5_readSegment 21 = .ok (.aload_n 0, 1) := by decide +kernel
theorem dX5_readSegment_22 : decode cX5_readSegment 22 = .ok (.getfield 134, 3) := by decide +kernel
theorem dX5_readSegment_25 : decode cX5_readSegment 25 = .ok (.if_icmp .eq 11, 3) := by decide +kernel
theorem dX5_readSegment_28 : decode cX5_readSegment 28 = .ok (.aload_n 0, 1) := by decide +kernel
theorem dX5_readSegment_29 : decode cX5_readSegment 29 = .ok (.ldc 173, 2) := by decide +kernel
theorem dX5_readSegment_31 : decode cX5_readSegment 31 = .ok (.iconst 1, 1) := by decide +kernel
theorem dX5_readSegment_32 : decode cX5_readSegment 32 = .ok (.invokevirtual 152, 3) := by decide +kernel
theorem dX5_readSegment_35 : decode cX5_readSegment 35 = .ok (.return_, 1) := by decide +kernel
theorem dX5_readSegment_36 : decode cX5_readSegment 36 = .ok (.aload_n 0, 1) := by decide +kernel
theorem dX5_readSegment_37 : decode cX5_readSegment 37 = .ok (.getfield 16, 3) := by decide +kernel
theorem dX5_readSegment_40 : decode cX5_readSegment 40 = .ok (.aload_n 0, 1) := by decide +kernel
theorem dX5_readSegment_41 : decode cX5_readSegment 41 = .ok (.getfield 128, 3) := by decide +kernel
theorem dX5_readSegment_44 : decode cX5_readSegment 44 = .ok (.iaload, 1) := by decide +kernel
theorem dX5_readSegment_45 : decode cX5_readSegment 45 = .ok (.aload_n 0, 1) := by decide +kernel
theorem dX5_readSegment_46 : decode cX5_readSegment 46 = .ok (.getfield 137, 3) := by decide +kernel
theorem dX5_readSegment_49 : decode cX5_readSegment 49 = .ok (.isub, 1) := by decide +kernel
theorem dX5_readSegment_50 : decode cX5_readSegment 50 = .ok (.bipush 7, 2) := by decide +kernel
theorem dX5_readSegment_52 : decode cX5_readSegment 52 = .ok (.if_icmp .ge 20, 3) := by decide +kernel
theorem dX5_readSegment_55 : decode cX5_readSegment 55 = .ok (.aload_n 0, 1) := by decide +kernel
theorem dX5_readSegment_56 : decode cX5_readSegment 56 = .ok (.getfield 16, 3) := by decide +kernel
theorem dX5_readSegment_59 : decode cX5_readSegment 59 = .ok (.aload_n 0, 1) := by decide +kernel
theorem dX5_readSegment_60 : decode cX5_readSegment 60 = .ok (.getfield 128, 3) := by decide +kernel
theorem dX5_readSegment_63 : decode cX5_readSegment 63 = .ok (.iaload, 1) := by decide +kernel
theorem dX5_readSegment_64 : decode cX5_readSegment 64 = .ok (.aload_n 0, 1) := by decide +kernel
theorem dX5_readSegment_65 : decode cX5_readSegment 65 = .ok (.getfield 137, 3) := by decide +kernel
theorem dX5_readSegment_68 : decode cX5_readSegment 68 = .ok (.isub, 1) := by decide +kernel
theorem dX5_readSegment_69 : decode cX5_readSegment 69 = .ok (.goto 5, 3) := by decide +kernel
theorem dX5_readSegment_72 : decode cX5_readSegment 72 = .ok (.bipush 7, 2) := by decide +kernel
theorem dX5_readSegment_74 : decode cX5_readSegment 74 = .ok (.istore_n 2, 1) := by decide +kernel
theorem dX5_readSegment_75 : decode cX5_readSegment 75 = .ok (.lconst 0, 1) := by decide +kernel
theorem dX5_readSegment_76 : decode cX5_readSegment 76 = .ok (.lstore_n 3, 1) := by decide +kernel
theorem dX5_readSegment_77 : decode cX5_readSegment 77 = .ok (.iconst 0, 1) := by decide +kernel
theorem dX5_readSegment_78 : decode cX5_readSegment 78 = .ok (.istore 5, 2) := by decide +kernel
theorem dX5_readSegment_80 : decode cX5_readSegment 80 = .ok (.iload 5, 2) := by decide +kernel
theorem dX5_readSegment_82 : decode cX5_readSegment 82 = .ok (.iload_n 2, 1) := by decide +kernel
theorem dX5_readSegment_83 : decode cX5_readSegment 83 = .ok (.if_icmp .ge 43, 3) := by decide +kernel
theorem dX5_readSegment_86 : decode cX5_readSegment 86 = .ok (.lload_n 3, 1) := by decide +kernel
theorem dX5_readSegment_87 : decode cX5_readSegment 87 = .ok (.aload_n 0, 1) := by decide +kernel
theorem dX5_readSegment_88 : decode cX5_readSegment 88 = .ok (.getfield 25, 3) := by decide +kernel
theorem dX5_readSegment_91 : decode cX5_readSegment 91 = .ok (.aload_n 0, 1) := by decide +kernel
theorem dX5_readSegment_92 : decode cX5_readSegment 92 = .ok (.getfield 22, 3) := by decide +kernel
theorem dX5_readSegment_95 : decode cX5_readSegment 95 = .ok (.aload_n 0, 1) := by decide +kernel
theorem dX5_readSegment_96 : decode cX5_readSegment 96 = .ok (.getfield 128, 3) := by decide +kernel
theorem dX5_readSegment_99 : decode cX5_readSegment 99 = .ok (.iaload, 1) := by decide +kernel
theorem dX5_readSegment_100 : decode cX5_readSegment 100 = .ok (.aload_n 0, 1) := by decide +kernel
theorem dX5_readSegment_101 : decode cX5_readSegment 101 = .ok (.getfield 137, 3) := by decide +kernel
theorem dX5_readSegment_104 : decode cX5_readSegment 104 = .ok (.iadd, 1) := by decide +kernel
theorem dX5_readSegment_105 : decode cX5_readSegment 105 = .ok (.iload 5, 2) := by decide +kernel
theorem dX5_readSegment_107 : decode cX5_readSegment 107 = .ok (.iadd, 1) := by decide +kernel
theorem dX5_readSegment_108 : decode cX5_readSegment 108 = .ok (.iaload, 1) := by decide +kernel
theorem dX5_readSegment_109 : decode cX5_readSegment 109 = .ok (.i2l, 1) := by decide +kernel
theorem dX5_readSegment_110 : decode cX5_readSegment 110 = .ok (.bipush 8, 2) := by decide +kernel
theorem dX5_readSegment_112 : decode cX5_readSegment 112 = .ok (.iload 5, 2) := by decide +kernel
theorem dX5_readSegment_114 : decode cX5_readSegment 114 = .ok (.iconst 1, 1) := by decide +kernel
theorem dX5_readSegment_115 : decode cX5_readSegment 115 = .ok (.iadd, 1) := by decide +kernel
theorem dX5_readSegment_116 : decode cX5_readSegment 116 = .ok (.imul, 1) := by decide +kernel
theorem dX5_readSegment_117 : decode cX5_readSegment 117 = .ok (.lshl, 1) := by decide +kernel
theorem dX5_readSegment_118 : decode cX5_readSegment 118 = .ok (.lor, 1) := by decide +kernel
theorem dX5_readSegment_119 : decode cX5_readSegment 119 = .ok (.lstore_n 3, 1) := by decide +kernel
theorem dX5_readSegment_120 : decode cX5_readSegment 120 = .ok (.iinc 5 1, 3) := by decide +kernel
theorem dX5_readSegment_123 : decode cX5_readSegment 123 = .ok (.goto (-43), 3) := by decide +kernel
theorem dX5_readSegment_126 : decode cX5_readSegment 126 = .ok (.aload_n 0, 1) := by decide +kernel
theorem dX5_readSegment_127 : decode cX5_readSegment 127 = .ok (.dup, 1) := by decide +kernel
theorem dX5_readSegment_128 : decode cX5_readSegment 128 = .ok (.getfield 137, 3) := by decide +kernel
theorem dX5_readSegment_131 : decode cX5_readSegment 131 = .ok (.iload_n 2, 1) := by decide +kernel
theorem dX5_readSegment_132 : decode cX5_readSegment 132 = .ok (.iadd, 1) := by decide +kernel
theorem dX5_readSegment_133 : decode cX5_readSegment 133 = .ok (.putfield 137, 3) := by decide +kernel
theorem dX5_readSegment_136 : decode cX5_readSegment 136 = .ok (.aload_n 0, 1) := by decide +kernel
theorem dX5_readSegment_137 : decode cX5_readSegment 137 = .ok (.getfield 137, 3) := by decide +kernel
theorem dX5_readSegment_140 : decode cX5_readSegment 140 = .ok (.aload_n 0, 1) := by decide +kernel
theorem dX5_readSegment_141 : decode cX5_readSegment 141 = .ok (.getfield 16, 3) := by decide +kernel
theorem dX5_readSegment_144 : decode cX5_readSegment 144 = .ok (.aload_n 0, 1) := by decide +kernel
theorem dX5_readSegment_145 : decode cX5_readSegment 145 = .ok (.getfield 128, 3) := by decide +kernel
theorem dX5_readSegment_148 : decode cX5_readSegment 148 = .ok (.iaload, 1) := by decide +kernel
theorem dX5_readSegment_149 : decode cX5_readSegment 149 = .ok (.if_icmp .ne 7, 3) := by decide +kernel
theorem dX5_readSegment_152 : decode cX5_readSegment 152 = .ok (.iconst 1, 1) := by decide +kernel
theorem dX5_readSegment_153 : decode cX5_readSegment 153 = .ok (.goto 4, 3) := by decide +kernel
theorem dX5_readSegment_156 : decode cX5_readSegment 156 = .ok (.iconst 0, 1) := by decide +kernel
theorem dX5_readSegment_157 : decode cX5_readSegment 157 = .ok (.istore 5, 2) := by decide +kernel
theorem dX5_readSegment_159 : decode cX5_readSegment 159 = .ok (.aload_n 0, 1) := by decide +kernel
theorem dX5_readSegment_160 : decode cX5_readSegment 160 = .ok (.sipush 1408, 3) := by decide +kernel
theorem dX5_readSegment_163 : decode cX5_readSegment 163 = .ok (.aload_n 0, 1) := by decide +kernel
theorem dX5_readSegment_164 : decode cX5_readSegment 164 = .ok (.getfield 41, 3) := by decide +kernel
theorem dX5_readSegment_167 : decode cX5_readSegment 167 = .ok (.iadd, 1) := by decide +kernel
theorem dX5_readSegment_168 : decode cX5_readSegment 168 = .ok (.bipush 8, 2) := by decide +kernel
theorem dX5_readSegment_170 : decode cX5_readSegment 170 = .ok (.lload_n 3, 1) := by decide +kernel
theorem dX5_readSegment_171 : decode cX5_readSegment 171 = .ok (.iload_n 1, 1) := by decide +kernel
theorem dX5_readSegment_172 : decode cX5_readSegment 172 = .ok (.bipush 16, 2) := by decide +kernel
theorem dX5_readSegment_174 : decode cX5_readSegment 174 = .ok (.iand, 1) := by decide +kernel
theorem dX5_readSegment_175 : decode cX5_readSegment 175 = .ok (.iconst 2, 1) := by decide +kernel
theorem dX5_readSegment_176 : decode cX5_readSegment 176 = .ok (.bipush 7, 2) := by decide +kernel
theorem dX5_readSegment_178 : decode cX5_readSegment 178 = .ok (.iload_n 2, 1) := by decide +kernel
theorem dX5_readSegment_179 : decode cX5_readSegment 179 = .ok (.isub, 1) := by decide +kernel
theorem dX5_readSegment_180 : decode cX5_readSegment 180 = .ok (.imul, 1) := by decide +kernel
theorem dX5_readSegment_181 : decode cX5_readSegment 181 = .ok (.iadd, 1) := by decide +kernel
theorem dX5_readSegment_182 : decode cX5_readSegment 182 = .ok (.iload 5, 2) := by decide +kernel
theorem dX5_readSegment_184 : decode cX5_readSegment 184 = .ok (.ifCond .eq 7, 3) := by decide +kernel
theorem dX5_readSegment_187 : decode cX5_readSegment 187 = .ok (.iconst 1, 1) := by decide +kernel
theorem dX5_readSegment_188 : decode cX5_readSegment 188 = .ok (.goto 4, 3) := by decide +kernel
theorem dX5_readSegment_191 : decode cX5_readSegment 191 = .ok (.iconst 0, 1) := by decide +kernel
theorem dX5_readSegment_192 : decode cX5_readSegment 192 = .ok (.iadd, 1) := by decide +kernel
theorem dX5_readSegment_193 : decode cX5_readSegment 193 = .ok (.i2l, 1) := by decide +kernel
theorem dX5_readSegment_194 : decode cX5_readSegment 194 = .ok (.lor, 1) := by decide +kernel
theorem dX5_readSegment_195 : decode cX5_readSegment 195 = .ok (.invokevirtual 78, 3) := by decide +kernel
theorem dX5_readSegment_198 : decode cX5_readSegment 198 = .ok (.aload_n 0, 1) := by decide +kernel
theorem dX5_readSegment_199 : decode cX5_readSegment 199 = .ok (.iload 5, 2) := by decide +kernel
theorem dX5_readSegment_201 : decode cX5_readSegment 201 = .ok (.ifCond .eq 7, 3) := by decide +kernel
theorem dX5_readSegment_204 : decode cX5_readSegment 204 = .ok (.iconst 0, 1) := by decide +kernel
theorem dX5_readSegment_205 : decode cX5_readSegment 205 = .ok (.goto 4, 3) := by decide +kernel
theorem dX5_readSegment_208 : decode cX5_readSegment 208 = .ok (.iconst 2, 1) := by decide +kernel
theorem dX5_readSegment_209 : decode cX5_readSegment 209 = .ok (.putfield 85, 3) := by decide +kernel
theorem dX5_readSegment_212 : decode cX5_readSegment 212 = .ok (.aload_n 0, 1) := by decide +kernel
theorem dX5_readSegment_213 : decode cX5_readSegment 213 = .ok (.iconst 1, 1) := by decide +kernel
theorem dX5_readSegment_214 : decode cX5_readSegment 214 = .ok (.aload_n 0, 1) := by decide +kernel
theorem dX5_readSegment_215 : decode cX5_readSegment 215 = .ok (.getfield 134, 3) := by decide +kernel
theorem dX5_readSegment_218 : decode cX5_readSegment 218 = .ok (.isub, 1) := by decide +kernel
theorem dX5_readSegment_219 : decode cX5_readSegment 219 = .ok (.putfield 134, 3) := by decide +kernel
theorem dX5_readSegment_222 : decode cX5_readSegment 222 = .ok (.aload_n 0, 1) := by decide +kernel
theorem dX5_readSegment_223 : decode cX5_readSegment 223 = .ok (.iconst 0, 1) := by decide +kernel
theorem dX5_readSegment_224 : decode cX5_readSegment 224 = .ok (.putfield 94, 3) := by decide +kernel
theorem dX5_readSegment_227 : decode cX5_readSegment 227 = .ok (.return_, 1) := by decide +kernel
theorem dX5_end_0 : decode cX5_end 0 = .ok (.aload_n 0, 1) := by decide +kernel
theorem dX5_end_1 : decode cX5_end 1 = .ok (.getfield 82, 3) := by decide +kernel
theorem dX5_end_4 : decode cX5_end 4 = .ok (.iconst 5, 1) := by decide +kernel
theorem dX5_end_5 : decode cX5_end 5 = .ok (.if_icmp .ne 40, 3) := by decide +kernel
theorem dX5_end_8 : decode cX5_end 8 = .ok (.aload_n 0, 1) := by decide +kernel
theorem dX5_end_9 : decode cX5_end 9 = .ok (.bipush 8, 2) := by decide +kernel
theorem dX5_end_11 : decode cX5_end 11 = .ok (.invokevirtual 97, 3) := by decide +kernel
theorem dX5_end_14 : decode cX5_end 14 = .ok (.sipush 254, 3) := by decide +kernel
theorem dX5_end_17 : decode cX5_end 17 = .ok (.if_icmp .lt 28, 3) := by decide +kernel
theorem dX5_end_20 : decode cX5_end 20 = .ok (.aload_n 0, 1) := by decide +kernel
theorem dX5_end_21 : decode cX5_end 21 = .ok (.bipush 9, 2) := by decide +kernel
theorem dX5_end_23 : decode cX5_end 23 = .ok (.invokevirtual 97, 3) := by decide +kernel
theorem dX5_end_26 : decode cX5_end 26 = .ok (.ifCond .eq 19, 3) := by decide +kernel
end
section
theorem dX5_end_29 : decode cX5_end 29 = .ok (.aload_n 0, 1) := by decide +kernel
theorem dX5_end_30 : decode cX5_end 30 = .ok (.invokevirtual 108, 3) := by decide +kernel
theorem dX5_end_33 : decode cX5_end 33 = .ok (.aload_n 0, 1) := by decide +kernel
theorem dX5_end_34 : decode cX5_end 34 = .ok (.getfield 112, 3) := by decide +kernel
theorem dX5_end_37 : decode cX5_end 37 = .ok (.lcmp, 1) := by decide +kernel
theorem dX5_end_38 : decode cX5_end 38 = .ok (.ifCond .eq 7, 3) := by decide +kernel
theorem dX5_end_41 : decode cX5_end 41 = .ok (.aload_n 0, 1) := by decide +kernel
theorem dX5_end_42 : decode cX5_end 42 = .ok (.invokevirtual 187, 3) := by decide +kernel
theorem dX5_end_45 : decode cX5_end 45 = .ok (.return_, 1) := by decide +kernel
theorem dX5_tick_0 : decode cX5_tick 0 = .ok (.aload_n 0, 1) := by decide +kernel
theorem dX5_tick_1 : decode cX5_tick 1 = .ok (.iconst 0, 1) := by decide +kernel
theorem dX5_tick_2 : decode cX5_tick 2 = .ok (.putfield 67, 3) := by decide +kernel
theorem dX5_tick_5 : decode cX5_tick 5 = .ok (.aload_n 0, 1) := by decide +kernel
theorem dX5_tick_6 : decode cX5_tick 6 = .ok (.iconst 0, 1) := by decide +kernel
theorem dX5_tick_7 : decode cX5_tick 7 = .ok (.putfield 72, 3) := by decide +kernel
theorem dX5_tick_10 : decode cX5_tick 10 = .ok (.aload_n 0, 1) := by decide +kernel
theorem dX5_tick_11 : decode cX5_tick 11 = .ok (.iconst 2, 1) := by decide +kernel
theorem dX5_tick_12 : decode cX5_tick 12 = .ok (.invokevirtual 97, 3) := by decide +kernel
theorem dX5_tick_15 : decode cX5_tick 15 = .ok (.istore_n 1, 1) := by decide +kernel
theorem dX5_tick_16 : decode cX5_tick 16 = .ok (.iload_n 1, 1) := by decide +kernel
theorem dX5_tick_17 : decode cX5_tick 17 = .ok (.ifCond .eq 44, 3) := by decide +kernel
theorem dX5_tick_20 : decode cX5_tick 20 = .ok (.aload_n 0, 1) := by decide +kernel
theorem dX5_tick_21 : decode cX5_tick 21 = .ok (.dup, 1) := by decide +kernel
theorem dX5_tick_22 : decode cX5_tick 22 = .ok (.getfield 88, 3) := by decide +kernel
theorem dX5_tick_25 : decode cX5_tick 25 = .ok (.iconst 1, 1) := by decide +kernel
theorem dX5_tick_26 : decode cX5_tick 26 = .ok (.iadd, 1) := by decide +kernel
theorem dX5_tick_27 : decode cX5_tick 27 = .ok (.putfield 88, 3) := by decide +kernel
theorem dX5_tick_30 : decode cX5_tick 30 = .ok (.aload_n 0, 1) := by decide +kernel
theorem dX5_tick_31 : decode cX5_tick 31 = .ok (.getfield 88, 3) := by decide +kernel
theorem dX5_tick_34 : decode cX5_tick 34 = .ok (.iload_n 1, 1) := by decide +kernel
theorem dX5_tick_35 : decode cX5_tick 35 = .ok (.if_icmp .lt 26, 3) := by decide +kernel
theorem dX5_tick_38 : decode cX5_tick 38 = .ok (.aload_n 0, 1) := by decide +kernel
theorem dX5_tick_39 : decode cX5_tick 39 = .ok (.iconst 0, 1) := by decide +kernel
theorem dX5_tick_40 : decode cX5_tick 40 = .ok (.putfield 88, 3) := by decide +kernel
theorem dX5_tick_43 : decode cX5_tick 43 = .ok (.aload_n 0, 1) := by decide +kernel
theorem dX5_tick_44 : decode cX5_tick 44 = .ok (.sipush 1792, 3) := by decide +kernel
theorem dX5_tick_47 : decode cX5_tick 47 = .ok (.aload_n 0, 1) := by decide +kernel
theorem dX5_tick_48 : decode cX5_tick 48 = .ok (.getfield 41, 3) := by decide +kernel
theorem dX5_tick_51 : decode cX5_tick 51 = .ok (.iadd, 1) := by decide +kernel
theorem dX5_tick_52 : decode cX5_tick 52 = .ok (.iconst 1, 1) := by decide +kernel
theorem dX5_tick_53 : decode cX5_tick 53 = .ok (.aload_n 0, 1) := by decide +kernel
theorem dX5_tick_54 : decode cX5_tick 54 = .ok (.getfield 82, 3) := by decide +kernel
theorem dX5_tick_57 : decode cX5_tick 57 = .ok (.i2l, 1) := by decide +kernel
theorem dX5_tick_58 : decode cX5_tick 58 = .ok (.invokevirtual 78, 3) := by decide +kernel
theorem dX5_tick_61 : decode cX5_tick 61 = .ok (.aload_n 0, 1) := by decide +kernel
theorem dX5_tick_62 : decode cX5_tick 62 = .ok (.getfield 85, 3) := by decide +kernel
theorem dX5_tick_65 : decode cX5_tick 65 = .ok (.ifCond .eq 29, 3) := by decide +kernel
theorem dX5_tick_68 : decode cX5_tick 68 = .ok (.aload_n 0, 1) := by decide +kernel
theorem dX5_tick_69 : decode cX5_tick 69 = .ok (.dup, 1) := by decide +kernel
theorem dX5_tick_70 : decode cX5_tick 70 = .ok (.getfield 94, 3) := by decide +kernel
theorem dX5_tick_73 : decode cX5_tick 73 = .ok (.iconst 1, 1) := by decide +kernel
theorem dX5_tick_74 : decode cX5_tick 74 = .ok (.iadd, 1) := by decide +kernel
theorem dX5_tick_75 : decode cX5_tick 75 = .ok (.putfield 94, 3) := by decide +kernel
theorem dX5_tick_78 : decode cX5_tick 78 = .ok (.aload_n 0, 1) := by decide +kernel
theorem dX5_tick_79 : decode cX5_tick 79 = .ok (.getfield 94, 3) := by decide +kernel
theorem dX5_tick_82 : decode cX5_tick 82 = .ok (.bipush 8, 2) := by decide +kernel
theorem dX5_tick_84 : decode cX5_tick 84 = .ok (.if_icmp .ne 10, 3) := by decide +kernel
theorem dX5_tick_87 : decode cX5_tick 87 = .ok (.aload_n 0, 1) := by decide +kernel
theorem dX5_tick_88 : decode cX5_tick 88 = .ok (.ldc 213, 2) := by decide +kernel
theorem dX5_tick_90 : decode cX5_tick 90 = .ok (.iconst 1, 1) := by decide +kernel
theorem dX5_tick_91 : decode cX5_tick 91 = .ok (.invokevirtual 152, 3) := by decide +kernel
theorem dX5_tick_94 : decode cX5_tick 94 = .ok (.aload_n 0, 1) := by decide +kernel
theorem dX5_tick_95 : decode cX5_tick 95 = .ok (.getfield 72, 3) := by decide +kernel
theorem dX5_tick_98 : decode cX5_tick 98 = .ok (.ireturn, 1) := by decide +kernel
theorem dX5_set_0 : decode cX5_set 0 = .ok (.aload_n 0, 1) := by decide +kernel
theorem dX5_set_1 : decode cX5_set 1 = .ok (.iload_n 1, 1) := by decide +kernel
theorem dX5_set_2 : decode cX5_set 2 = .ok (.iload_n 2, 1) := by decide +kernel
theorem dX5_set_3 : decode cX5_set 3 = .ok (.invokevirtual 156, 3) := by decide +kernel
theorem dX5_set_6 : decode cX5_set 6 = .ok (.istore 5, 2) := by decide +kernel
theorem dX5_set_8 : decode cX5_set 8 = .ok (.aload_n 0, 1) := by decide +kernel
theorem dX5_set_9 : decode cX5_set 9 = .ok (.iload 5, 2) := by decide +kernel
theorem dX5_set_11 : decode cX5_set 11 = .ok (.ifCond .lt 22, 3) := by decide +kernel
theorem dX5_set_14 : decode cX5_set 14 = .ok (.iload_n 1, 1) := by decide +kernel
theorem dX5_set_15 : decode cX5_set 15 = .ok (.sipush 8192, 3) := by decide +kernel
theorem dX5_set_18 : decode cX5_set 18 = .ok (.if_icmp .lt 15, 3) := by decide +kernel
theorem dX5_set_21 : decode cX5_set 21 = .ok (.aload_n 0, 1) := by decide +kernel
theorem dX5_set_22 : decode cX5_set 22 = .ok (.getfield 16, 3) := by decide +kernel
theorem dX5_set_25 : decode cX5_set 25 = .ok (.iload 5, 2) := by decide +kernel
theorem dX5_set_27 : decode cX5_set 27 = .ok (.iaload, 1) := by decide +kernel
theorem dX5_set_28 : decode cX5_set 28 = .ok (.bipush 8, 2) := by decide +kernel
theorem dX5_set_30 : decode cX5_set 30 = .ok (.if_icmp .le 7, 3) := by decide +kernel
theorem dX5_set_33 : decode cX5_set 33 = .ok (.iconst 1, 1) := by decide +kernel
theorem dX5_set_34 : decode cX5_set 34 = .ok (.goto 4, 3) := by decide +kernel
theorem dX5_set_37 : decode cX5_set 37 = .ok (.iconst 0, 1) := by decide +kernel
theorem dX5_set_38 : decode cX5_set 38 = .ok (.putfield 67, 3) := by decide +kernel
theorem dX5_set_41 : decode cX5_set 41 = .ok (.aload_n 0, 1) := by decide +kernel
theorem dX5_set_42 : decode cX5_set 42 = .ok (.getfield 67, 3) := by decide +kernel
theorem dX5_set_45 : decode cX5_set 45 = .ok (.ifCond .le 5, 3) := by decide +kernel
theorem dX5_set_48 : decode cX5_set 48 = .ok (.iconst 0, 1) := by decide +kernel
theorem dX5_set_49 : decode cX5_set 49 = .ok (.ireturn, 1) := by decide +kernel
theorem dX5_set_50 : decode cX5_set 50 = .ok (.aload_n 0, 1) := by decide +kernel
theorem dX5_set_51 : decode cX5_set 51 = .ok (.iconst 0, 1) := by decide +kernel
theorem dX5_set_52 : decode cX5_set 52 = .ok (.putfield 72, 3) := by decide +kernel
theorem dX5_set_55 : decode cX5_set 55 = .ok (.iconst 0, 1) := by decide +kernel
theorem dX5_set_56 : decode cX5_set 56 = .ok (.istore 6, 2) := by decide +kernel
theorem dX5_set_58 : decode cX5_set 58 = .ok (.iload 6, 2) := by decide +kernel
theorem dX5_set_60 : decode cX5_set 60 = .ok (.aload_n 0, 1) := by decide +kernel
theorem dX5_set_61 : decode cX5_set 61 = .ok (.getfield 16, 3) := by decide +kernel
theorem dX5_set_64 : decode cX5_set 64 = .ok (.iload 5, 2) := by decide +kernel
theorem dX5_set_66 : decode cX5_set 66 = .ok (.iaload, 1) := by decide +kernel
theorem dX5_set_67 : decode cX5_set 67 = .ok (.if_icmp .ge 35, 3) := by decide +kernel
theorem dX5_set_70 : decode cX5_set 70 = .ok (.aload_n 0, 1) := by decide +kernel
theorem dX5_set_71 : decode cX5_set 71 = .ok (.getfield 25, 3) := by decide +kernel
theorem dX5_set_74 : decode cX5_set 74 = .ok (.aload_n 0, 1) := by decide +kernel
theorem dX5_set_75 : decode cX5_set 75 = .ok (.getfield 22, 3) := by decide +kernel
theorem dX5_set_78 : decode cX5_set 78 = .ok (.iload 5, 2) := by decide +kernel
theorem dX5_set_80 : decode cX5_set 80 = .ok (.iaload, 1) := by decide +kernel
theorem dX5_set_81 : decode cX5_set 81 = .ok (.iload 6, 2) := by decide +kernel
theorem dX5_set_83 : decode cX5_set 83 = .ok (.iadd, 1) := by decide +kernel
theorem dX5_set_84 : decode cX5_set 84 = .ok (.iload_n 3, 1) := by decide +kernel
theorem dX5_set_85 : decode cX5_set 85 = .ok (.iload 4, 2) := by decide +kernel
theorem dX5_set_87 : decode cX5_set 87 = .ok (.invokestatic 192, 3) := by decide +kernel
theorem dX5_set_90 : decode cX5_set 90 = .ok (.iload 6, 2) := by decide +kernel
theorem dX5_set_92 : decode cX5_set 92 = .ok (.invokestatic 119, 3) := by decide +kernel
theorem dX5_set_95 : decode cX5_set 95 = .ok (.iastore, 1) := by decide +kernel
theorem dX5_set_96 : decode cX5_set 96 = .ok (.iinc 6 1, 3) := by decide +kernel
theorem dX5_set_99 : decode cX5_set 99 = .ok (.goto (-41), 3) := by decide +kernel
theorem dX5_set_102 : decode cX5_set 102 = .ok (.aload_n 0, 1) := by decide +kernel
theorem dX5_set_103 : decode cX5_set 103 = .ok (.invokevirtual 210, 3) := by decide +kernel
theorem dX5_set_106 : decode cX5_set 106 = .ok (.aload_n 0, 1) := by decide +kernel
theorem dX5_set_107 : decode cX5_set 107 = .ok (.getfield 72, 3) := by decide +kernel
theorem dX5_set_110 : decode cX5_set 110 = .ok (.ireturn, 1) := by decide +kernel
theorem dX5_value_0 : decode cX5_value 0 = .ok (.aload_n 0, 1) := by decide +kernel
theorem dX5_value_1 : decode cX5_value 1 = .ok (.iload_n 1, 1) := by decide +kernel
theorem dX5_value_2 : decode cX5_value 2 = .ok (.iload_n 2, 1) := by decide +kernel
theorem dX5_value_3 : decode cX5_value 3 = .ok (.invokevirtual 156, 3) := by decide +kernel
theorem dX5_value_6 : decode cX5_value 6 = .ok (.istore 4, 2) := by decide +kernel
theorem dX5_value_8 : decode cX5_value 8 = .ok (.aload_n 0, 1) := by decide +kernel
theorem dX5_value_9 : decode cX5_value 9 = .ok (.iload 4, 2) := by decide +kernel
theorem dX5_value_11 : decode cX5_value 11 = .ok (.ifCond .lt 18, 3) := by decide +kernel
theorem dX5_value_14 : decode cX5_value 14 = .ok (.iload_n 3, 1) := by decide +kernel
theorem dX5_value_15 : decode cX5_value 15 = .ok (.ifCond .lt 14, 3) := by decide +kernel
theorem dX5_value_18 : decode cX5_value 18 = .ok (.iload_n 3, 1) := by decide +kernel
theorem dX5_value_19 : decode cX5_value 19 = .ok (.aload_n 0, 1) := by decide +kernel
theorem dX5_value_20 : decode cX5_value 20 = .ok (.getfield 16, 3) := by decide +kernel
theorem dX5_value_23 : decode cX5_value 23 = .ok (.iload 4, 2) := by decide +kernel
theorem dX5_value_25 : decode cX5_value 25 = .ok (.iaload, 1) := by decide +kernel
theorem dX5_value_26 : decode cX5_value 26 = .ok (.if_icmp .lt 7, 3) := by decide +kernel
theorem dX5_value_29 : decode cX5_value 29 = .ok (.iconst 1, 1) := by decide +kernel
theorem dX5_value_30 : decode cX5_value 30 = .ok (.goto 4, 3) := by decide +kernel
theorem dX5_value_33 : decode cX5_value 33 = .ok (.iconst 0, 1) := by decide +kernel
theorem dX5_value_34 : decode cX5_value 34 = .ok (.putfield 67, 3) := by decide +kernel
theorem dX5_value_37 : decode cX5_value 37 = .ok (.aload_n 0, 1) := by decide +kernel
theorem dX5_value_38 : decode cX5_value 38 = .ok (.getfield 67, 3) := by decide +kernel
theorem dX5_value_41 : decode cX5_value 41 = .ok (.ifCond .le 7, 3) := by decide +kernel
theorem dX5_value_44 : decode cX5_value 44 = .ok (.iconst 0, 1) := by decide +kernel
theorem dX5_value_45 : decode cX5_value 45 = .ok (.goto 17, 3) := by decide +kernel
theorem dX5_value_48 : decode cX5_value 48 = .ok (.aload_n 0, 1) := by decide +kernel
theorem dX5_value_49 : decode cX5_value 49 = .ok (.getfield 25, 3) := by decide +kernel
theorem dX5_value_52 : decode cX5_value 52 = .ok (.aload_n 0, 1) := by decide +kernel
theorem dX5_value_53 : decode cX5_value 53 = .ok (.getfield 22, 3) := by decide +kernel
theorem dX5_value_56 : decode cX5_value 56 = .ok (.iload 4, 2) := by decide +kernel
theorem dX5_value_58 : decode cX5_value 58 = .ok (.iaload, 1) := by decide +kernel
theorem dX5_value_59 : decode cX5_value 59 = .ok (.iload_n 3, 1) := by decide +kernel
theorem dX5_value_60 : decode cX5_value 60 = .ok (.iadd, 1) := by decide +kernel
theorem dX5_value_61 : decode cX5_value 61 = .ok (.iaload, 1) := by decide +kernel
theorem dX5_value_62 : decode cX5_value 62 = .ok (.ireturn, 1) := by decide +kernel
theorem dX5_size_0 : decode cX5_size 0 = .ok (.aload_n 0, 1) := by decide +kernel
theorem dX5_size_1 : decode cX5_size 1 = .ok (.iconst 0, 1) := by decide +kernel
theorem dX5_size_2 : decode cX5_size 2 = .ok (.putfield 67, 3) := by decide +kernel
theorem dX5_size_5 : decode cX5_size 5 = .ok (.aload_n 0, 1) := by decide +kernel
theorem dX5_size_6 : decode cX5_size 6 = .ok (.iload_n 1, 1) := by decide +kernel
theorem dX5_size_7 : decode cX5_size 7 = .ok (.iload_n 2, 1) := by decide +kernel
theorem dX5_size_8 : decode cX5_size 8 = .ok (.invokevirtual 156, 3) := by decide +kernel
theorem dX5_size_11 : decode cX5_size 11 = .ok (.istore_n 3, 1) := by decide +kernel
theorem dX5_size_12 : decode cX5_size 12 = .ok (.iload_n 3, 1) := by decide +kernel
theorem dX5_size_13 : decode cX5_size 13 = .ok (.ifCond .ge 7, 3) := by decide +kernel
theorem dX5_size_16 : decode cX5_size 16 = .ok (.iconst 0, 1) := by decide +kernel
theorem dX5_size_17 : decode cX5_size 17 = .ok (.goto 9, 3) := by decide +kernel
theorem dX5_size_20 : decode cX5_size 20 = .ok (.aload_n 0, 1) := by decide +kernel
theorem dX5_size_21 : decode cX5_size 21 = .ok (.getfield 16, 3) := by decide +kernel
theorem dX5_size_24 : decode cX5_size 24 = .ok (.iload_n 3, 1) := by decide +kernel
theorem dX5_size_25 : decode cX5_size 25 = .ok (.iaload, 1) := by decide +kernel
theorem dX5_size_26 : decode cX5_size 26 = .ok (.ireturn, 1) := by decide +kernel
theorem dX5_state_0 : decode cX5_state 0 = .ok (.aload_n 0, 1) := by decide +kernel
theorem dX5_state_1 : decode cX5_state 1 = .ok (.iconst 0, 1) := by decide +kernel
theorem dX5_state_2 : decode cX5_state 2 = .ok (.putfield 67, 3) := by decide +kernel
theorem dX5_state_5 : decode cX5_state 5 = .ok (.aload_n 0, 1) := by decide +kernel
theorem dX5_state_6 : decode cX5_state 6 = .ok (.getfield 82, 3) := by decide +kernel
theorem dX5_state_9 : decode cX5_state 9 = .ok (.ireturn, 1) := by decide +kernel
theorem dX5_busy_0 : decode cX5_busy 0 = .ok (.aload_n 0, 1) := by decide +kernel
theorem dX5_busy_1 : decode cX5_busy 1 = .ok (.iconst 0, 1) := by decide +kernel
theorem dX5_busy_2 : decode cX5_busy 2 = .ok (.putfield 67, 3) := by decide +kernel
theorem dX5_busy_5 : decode cX5_busy 5 = .ok (.aload_n 0, 1) := by decide +kernel
theorem dX5_busy_6 : decode cX5_busy 6 = .ok (.getfield 85, 3) := by decide +kernel
theorem dX5_busy_9 : decode cX5_busy 9 = .ok (.ifCond .eq 7, 3) := by decide +kernel
theorem dX5_busy_12 : decode cX5_busy 12 = .ok (.iconst 1, 1) := by decide +kernel
theorem dX5_busy_13 : decode cX5_busy 13 = .ok (.goto 4, 3) := by decide +kernel
theorem dX5_busy_16 : decode cX5_busy 16 = .ok (.iconst 0, 1) := by decide +kernel
theorem dX5_busy_17 : decode cX5_busy 17 = .ok (.ireturn, 1) := by decide +kernel
theorem dX5_outs_0 : decode cX5_outs 0 = .ok (.aload_n 0, 1) := by decide +kernel
theorem dX5_outs_1 : decode cX5_outs 1 = .ok (.iconst 0, 1) := by decide +kernel
theorem dX5_outs_2 : decode cX5_outs 2 = .ok (.putfield 67, 3) := by decide +kernel
theorem dX5_outs_5 : decode cX5_outs 5 = .ok (.aload_n 0, 1) := by decide +kernel
theorem dX5_outs_6 : decode cX5_outs 6 = .ok (.getfield 75, 3) := by decide +kernel
theorem dX5_outs_9 : decode cX5_outs 9 = .ok (.ireturn, 1) := by decide +kernel
theorem dX5_out_0 : decode cX5_out 0 = .ok (.aload_n 0, 1) := by decide +kernel
theorem dX5_out_1 : decode cX5_out 1 = .ok (.iload_n 1, 1) := by decide +kernel
theorem dX5_out_2 : decode cX5_out 2 = .ok (.ifCond .lt 20, 3) := by decide +kernel
theorem dX5_out_5 : decode cX5_out 5 = .ok (.iload_n 1, 1) := by decide +kernel
theorem dX5_out_6 : decode cX5_out 6 = .ok (.aload_n 0, 1) := by decide +kernel
theorem dX5_out_7 : decode cX5_out 7 = .ok (.getfield 75, 3) := by decide +kernel
theorem dX5_out_10 : decode cX5_out 10 = .ok (.if_icmp .ge 12, 3) := by decide +kernel
theorem dX5_out_13 : decode cX5_out 13 = .ok (.iload_n 2, 1) := by decide +kernel
theorem dX5_out_14 : decode cX5_out 14 = .ok (.ifCond .lt 8, 3) := by decide +kernel
theorem dX5_out_17 : decode cX5_out 17 = .ok (.iload_n 2, 1) := by decide +kernel
theorem dX5_out_18 : decode cX5_out 18 = .ok (.iconst 3, 1) := by decide +kernel
theorem dX5_out_19 : decode cX5_out 19 = .ok (.if_icmp .le 7, 3) := by decide +kernel
theorem dX5_out_22 : decode cX5_out 22 = .ok (.iconst 1, 1) := by decide +kernel
theorem dX5_out_23 : decode cX5_out 23 = .ok (.goto 4, 3) := by decide +kernel
theorem dX5_out_26 : decode cX5_out 26 = .ok (.iconst 0, 1) := by decide +kernel
theorem dX5_out_27 : decode cX5_out 27 = .ok (.putfield 67, 3) := by decide +kernel
theorem dX5_out_30 : decode cX5_out 30 = .ok (.aload_n 0, 1) := by decide +kernel
theorem dX5_out_31 : decode cX5_out 31 = .ok (.getfield 67, 3) := by decide +kernel
theorem dX5_out_34 : decode cX5_out 34 = .ok (.ifCond .le 5, 3) := by decide +kernel
theorem dX5_out_37 : decode cX5_out 37 = .ok (.iconst 0, 1) := by decide +kernel
theorem dX5_out_38 : decode cX5_out 38 = .ok (.ireturn, 1) := by decide +kernel
theorem dX5_out_39 : decode cX5_out 39 = .ok (.iload_n 2, 1) := by decide +kernel
theorem dX5_out_40 : decode cX5_out 40 = .ok (.ifCond .ne 12, 3) := by decide +kernel
theorem dX5_out_43 : decode cX5_out 43 = .ok (.aload_n 0, 1) := by decide +kernel
theorem dX5_out_44 : decode cX5_out 44 = .ok (.getfield 31, 3) := by decide +kernel
theorem dX5_out_47 : decode cX5_out 47 = .ok (.iload_n 1, 1) := by decide +kernel
theorem dX5_out_48 : decode cX5_out 48 = .ok (.iaload, 1) := by decide +kernel
theorem dX5_out_49 : decode cX5_out 49 = .ok (.goto 42, 3) := by decide +kernel
theorem dX5_out_52 : decode cX5_out 52 = .ok (.iload_n 2, 1) := by decide +kernel
theorem dX5_out_53 : decode cX5_out 53 = .ok (.iconst 1, 1) := by decide +kernel
theorem dX5_out_54 : decode cX5_out 54 = .ok (.if_icmp .ne 12, 3) := by decide +kernel
theorem dX5_out_57 : decode cX5_out 57 = .ok (.aload_n 0, 1) := by decide +kernel
theorem dX5_out_58 : decode cX5_out 58 = .ok (.getfield 34, 3) := by decide +kernel
theorem dX5_out_61 : decode cX5_out 61 = .ok (.iload_n 1, 1) := by decide +kernel
theorem dX5_out_62 : decode cX5_out 62 = .ok (.iaload, 1) := by decide +kernel
theorem dX5_out_63 : decode cX5_out 63 = .ok (.goto 28, 3) := by decide +kernel
theorem dX5_out_66 : decode cX5_out 66 = .ok (.iload_n 2, 1) := by decide +kernel
theorem dX5_out_67 : decode cX5_out 67 = .ok (.iconst 2, 1) := by decide +kernel
theorem dX5_out_68 : decode cX5_out 68 = .ok (.if_icmp .ne 13, 3) := by decide +kernel
theorem dX5_out_71 : decode cX5_out 71 = .ok (.aload_n 0, 1) := by decide +kernel
theorem dX5_out_72 : decode cX5_out 72 = .ok (.getfield 37, 3) := by decide +kernel
theorem dX5_out_75 : decode cX5_out 75 = .ok (.iload_n 1, 1) := by decide +kernel
theorem dX5_out_76 : decode cX5_out 76 = .ok (.laload, 1) := by decide +kernel
theorem dX5_out_77 : decode cX5_out 77 = .ok (.l2i, 1) := by decide +kernel
theorem dX5_out_78 : decode cX5_out 78 = .ok (.goto 13, 3) := by decide +kernel
theorem dX5_out_81 : decode cX5_out 81 = .ok (.aload_n 0, 1) := by decide +kernel
theorem dX5_out_82 : decode cX5_out 82 = .ok (.getfield 37, 3) := by decide +kernel
theorem dX5_out_85 : decode cX5_out 85 = .ok (.iload_n 1, 1) := by decide +kernel
theorem dX5_out_86 : decode cX5_out 86 = .ok (.laload, 1) := by decide +kernel
theorem dX5_out_87 : decode cX5_out 87 = .ok (.bipush 32, 2) := by decide +kernel
theorem dX5_out_89 : decode cX5_out 89 = .ok (.lshr, 1) := by decide +kernel
theorem dX5_out_90 : decode cX5_out 90 = .ok (.l2i, 1) := by decide +kernel
theorem dX5_out_91 : decode cX5_out 91 = .ok (.ireturn, 1) := by decide +kernel
theorem dX5_flush_0 : decode cX5_flush 0 = .ok (.aload_n 0, 1) := by decide +kernel
theorem dX5_flush_1 : decode cX5_flush 1 = .ok (.iconst 0, 1) := by decide +kernel
theorem dX5_flush_2 : decode cX5_flush 2 = .ok (.putfield 67, 3) := by decide +kernel
theorem dX5_flush_5 : decode cX5_flush 5 = .ok (.aload_n 0, 1) := by decide +kernel
theorem dX5_flush_6 : decode cX5_flush 6 = .ok (.getfield 75, 3) := by decide +kernel
theorem dX5_flush_9 : decode cX5_flush 9 = .ok (.istore_n 1, 1) := by decide +kernel
theorem dX5_flush_10 : decode cX5_flush 10 = .ok (.aload_n 0, 1) := by decide +kernel
theorem dX5_flush_11 : decode cX5_flush 11 = .ok (.iconst 0, 1) := by decide +kernel
theorem dX5_flush_12 : decode cX5_flush 12 = .ok (.putfield 75, 3) := by decide +kernel
theorem dX5_flush_15 : decode cX5_flush 15 = .ok (.iload_n 1, 1) := by decide +kernel
theorem dX5_flush_16 : decode cX5_flush 16 = .ok (.ireturn, 1) := by decide +kernel
end
section
-- read-only contracts: the answer, the heap as it was; and contracts that leave a new world; their calls
def zb_I (r : Int32) : Array Value → State → Outcome → State → Prop := fun _ st o t => o = .returned (some (.int r)) ∧ t.heap = st.heap
def zb_L (r : Int64) : Array Value → State → Outcome → State → Prop := fun _ st o t => o = .returned (some (.long r)) ∧ t.heap = st.heap
def zb_Vv (D : va_G) (cl : List vw_C) (w1 : va_W) (A : Nat → Prop) : Array Value → State → Outcome → State → Prop := fun _ st o t => o = .returned none ∧ va_P D cl w1 t.heap ∧ va_D A w1 ∧ va_F A st t
def zb_Vi (r : Int32) (D : va_G) (cl : List vw_C) (w1 : va_W) (A : Nat → Prop) : Array Value → State → Outcome → State → Prop := fun _ st o t => o = .returned (some (.int r)) ∧ va_P D cl w1 t.heap ∧ va_D A w1 ∧ va_F A st t
theorem zb_A {D : va_G} {cl : List vw_C} {A : Nat → Prop} {w0 : va_W} {H0 H : Heap} {locs : List Loc} (hD : va_D A w0) (hS : va_S A H0 H locs) (hA : ∀ q, H0.size ≤ q → A q) : ∀ q, va_A w0 H.size q → A q := by
  intro q h
  rcases h with ⟨k, e, h⟩ | h
  · exact hD.2 k (q, e) h
  · exact hA q (Nat.le_trans hS.1 h)
section ZBC
variable {p : Program} {l : Launch} {e : Env} {R : Room} {s : State} {m : MethodId} {args : Array Value} {below : List Frame} {meth : Method} {c : Code} {H : Heap} {locs : List Loc} {cells slots : Nat} {Q : State → Prop}
variable {pc : Nat} {ls : Array Slot} {rest st0 : List Value} {a : Array Value}
theorem zb_abs {Q0 : State → Prop} {g : JFrame} (h : ∀ Q : State → Prop, Q = Q0 → W p l e R s m args below meth c H locs cells slots Q g) : W p l e R s m args below meth c H locs cells slots Q0 g := h Q0 rfl
theorem zb_ci {r : Int32} (hr : va_Run p l e R s m args below meth c H locs cells slots 0 0 (F0 m pc ls st0) rest (zb_I r a) (fun _ => False)) (kk : W p l e R s m args below meth c H locs cells slots Q (F0 m (pc + 3) ls (.int r :: rest))) : W p l e R s m args below meth c H locs cells slots Q (F0 m pc ls st0) := by
  intro T hT X
  obtain ⟨v, st₀, t, T', L, h0, X', hL, e1, e2, ⟨hv, hh⟩, st⟩ := hr T hT X
  cases hv
  have hL0 : L = [] := by
    cases L with
    | nil => rfl
    | cons q L' => exact (hL q List.mem_cons_self).elim
  subst hL0
  rw [List.append_nil] at X'
  obtain ⟨t2, a1, b1⟩ := kk T' (by rw [e1, hh, h0]) X'
  exact ⟨t2, st t2 a1, b1⟩
theorem zb_cl {r : Int64} (hr : va_Run p l e R s m args below meth c H locs cells slots 0 0 (F0 m pc ls st0) rest (zb_L r a) (fun _ => False)) (kk : W p l e R s m args below meth c H locs cells slots Q (F0 m (pc + 3) ls (.long r :: rest))) : W p l e R s m args below meth c H locs cells slots Q (F0 m pc ls st0) := by
  intro T hT X
  obtain ⟨v, st₀, t, T', L, h0, X', hL, e1, e2, ⟨hv, hh⟩, st⟩ := hr T hT X
  cases hv
  have hL0 : L = [] := by
    cases L with
    | nil => rfl
    | cons q L' => exact (hL q List.mem_cons_self).elim
  subst hL0
  rw [List.append_nil] at X'
  obtain ⟨t2, a1, b1⟩ := kk T' (by rw [e1, hh, h0]) X'
  exact ⟨t2, st t2 a1, b1⟩
variable {D : va_G} {cl : List vw_C} {A : Nat → Prop} {w0 w1 : va_W} {mc ms : Nat}
theorem zb_cv (hr : va_Run p l e R s m args below meth c H locs cells slots mc ms (F0 m pc ls st0) rest (zb_Vv D cl w1 (va_A w0 H.size) a) (va_A w0 H.size)) (hD : va_D A w0) (hS : va_S A s.heap H locs) (hA : ∀ q, s.heap.size ≤ q → A q)
    (kk : ∀ (H1 : Heap) (locs1 : List Loc), va_P D cl w1 H1 → va_D A w1 → va_S A s.heap H1 locs1 → W p l e R s m args below meth c H1 locs1 (cells + mc) (slots + ms) Q (F0 m (pc + 3) ls rest)) : W p l e R s m args below meth c H locs cells slots Q (F0 m pc ls st0) := by
  have hF := zb_A (D := D) (cl := cl) hD hS hA
  intro T hT X
  obtain ⟨v, st₀, t, T', L, h0, X', hL, e1, e2, ⟨hv, hP1, hD1, hz, hk⟩, st⟩ := hr T hT X
  cases hv
  rw [h0] at hz hk
  obtain ⟨t2, a1, b1⟩ := kk T'.heap (locs ++ L) (by rw [e1]; exact hP1) (hD1.weaken (fun _ q _ h => hF q.1 h))
    ⟨Nat.le_trans hS.1 (by rw [e1]; exact hz), fun q h1 h2 => by rw [e1, hk q (Nat.lt_of_lt_of_le h1 hS.1) (fun z => h2 (hF q z))]; exact hS.2.1 q h1 h2, fun q hq => by
      rcases List.mem_append.mp hq with h | h
      · exact hS.2.2 q h
      · exact hF _ (hL q h)⟩ T' rfl X'
  exact ⟨t2, st t2 a1, b1⟩
theorem zb_cvi {r : Int32} (hr : va_Run p l e R s m args below meth c H locs cells slots mc ms (F0 m pc ls st0) rest (zb_Vi r D cl w1 (va_A w0 H.size) a) (va_A w0 H.size)) (hD : va_D A w0) (hS : va_S A s.heap H locs) (hA : ∀ q, s.heap.size ≤ q → A q)
    (kk : ∀ (H1 : Heap) (locs1 : List Loc), va_P D cl w1 H1 → va_D A w1 → va_S A s.heap H1 locs1 → W p l e R s m args below meth c H1 locs1 (cells + mc) (slots + ms) Q (F0 m (pc + 3) ls (.int r :: rest))) : W p l e R s m args below meth c H locs cells slots Q (F0 m pc ls st0) := by
  have hF := zb_A (D := D) (cl := cl) hD hS hA
  intro T hT X
  obtain ⟨v, st₀, t, T', L, h0, X', hL, e1, e2, ⟨hv, hP1, hD1, hz, hk⟩, st⟩ := hr T hT X
  cases hv
  rw [h0] at hz hk
  obtain ⟨t2, a1, b1⟩ := kk T'.heap (locs ++ L) (by rw [e1]; exact hP1) (hD1.weaken (fun _ q _ h => hF q.1 h))
    ⟨Nat.le_trans hS.1 (by rw [e1]; exact hz), fun q h1 h2 => by rw [e1, hk q (Nat.lt_of_lt_of_le h1 hS.1) (fun z => h2 (hF q z))]; exact hS.2.1 q h1 h2, fun q hq => by
      rcases List.mem_append.mp hq with h | h
      · exact hS.2.2 q h
      · exact hF _ (hL q h)⟩ T' rfl X'
  exact ⟨t2, st t2 a1, b1⟩
end ZBC
end
section
-- contracts of methods that end by a throw: what they say, how they are walked, how a caller with a handler goes on
def tm_Th (X : String) (st : State) (o : Outcome) (t : State) : Prop := ∃ (x : Addr) (cell : Cell), o = .threw x ∧ st.heap.size ≤ x ∧ t.heap[x]? = some cell ∧ cell.vm.isStatics = false ∧ st.vm.findClass X = some cell.cls ∧ st.vm.assignable cell.cls cell.cls = true
def tm_End (st : State) (t : State) (k n : Nat) : Prop := st.WarmedH t.vm ∧ st.sameButNew ({ t with vm := st.vm } : State) [] k n
def tm_Met (l : Launch) (y : MethodName) (ws : List Cond) (rm : Room) (Pc : Array Value → State → Prop) (X : String) (k n : Nat) : Prop :=
  MetFree l y (headSpec ws rm) Pc (fun _ _ _ _ _ => True) (fun _ st o t => tm_Th X st o t ∧ tm_End st t k n)
def tm_Q (below : List Frame) (X : String) (s : State) (k n : Nat) : State → Prop := fun t => ∃ o, t.status = .running ∧ Ended t below o ∧ tm_Th X s o t ∧ tm_End s t k n
/-- nothing old has changed -/
theorem tm_old {s u : State} {k n : Nat} (h : s.sameButNew u [] k n) {q : Nat} (hq : q < s.heap.size) : u.heap[q]? = s.heap[q]? := by
  obtain ⟨c1, h1, h2, h3, h4⟩ := h.2.2.2.2.2 q _ (Array.getElem?_eq_getElem hq)
  rw [h1, Array.getElem?_eq_getElem hq, h2]
  have e : c1.slots = (s.heap[q]).slots := by
    apply Array.ext_getElem?
    intro i
    exact h4 i (by simp)
  rw [e]
theorem tm_ofW {l : Launch} {y : MethodName} {ws ws' : List Cond} {rm : Room} {Pc : Array Value → State → Prop} {X : String} {mc ms : Nat} {cc : ByteArray} {maxL : Nat} {ret : Option FieldType}
    (hy : plainName y.cls = true) (hw : ws = Cond.code y cc maxL ret :: ws')
    (body : ∀ p e s m args below meth c s₁, BodyLoose p l y (headSpec ws rm) cc maxL ret e s m args below meth c s₁ → c.maxLocals = maxL → Pc args s →
      W p l e (headSpec ws rm).room s m args below meth c s.heap [] 0 0 (tm_Q below X s mc ms) (entryFrame m args maxL)) : tm_Met l y ws rm Pc X mc ms := by
  refine MetFree.of_bodyS (code := cc) (maxLocals := maxL) (ret := ret) hy ?_ ?_
  · intro args s m h hn
    obtain ⟨meth, c, h1, h2, h3, h4, h5, h6, -, -⟩ := Cond.code_spec hn (atoms_spec (ws := ws) h _ (by rw [hw]; exact List.mem_cons_self))
    exact ⟨meth, c, h1, h2, h3, h4, h5, h6⟩
  · intro p e s m args below meth c s₁ B hml hP _
    have hh0 : s₁.heap = s.heap := by rw [B.state]; rfl
    obtain ⟨t, a1, o, b1, b2, b3⟩ := body p e s m args below meth c s₁ B hml hP s₁ hh0 (Stand.of_body B)
    exact ⟨t, o, a1, b1, b2, b3⟩
section TMW
variable {p : Program} {l : Launch} {e : Env} {R : Room} {s : State} {m : MethodId} {args : Array Value} {below : List Frame} {meth : Method} {c : Code} {H : Heap} {locs : List Loc} {cells slots : Nat} {Q : State → Prop}
/-- new X; dup; invokespecial X.<init>(); athrow: in a method without handlers, where nothing has been written yet -/
theorem tm_throwNew {cc : ByteArray} {pc : Nat} {ls : Array Slot} {rest : List Value} (hexec : p.tables.exec = Jvm.exec) (hb : c.code = cc) (htr : e.platform.stackTraces = false) {own X : String} {names : List String} {i0 ic : Nat}
    (hown : s.vm.findClass own = some m.cls) (hX : Bundle.fit X = true) (hns : ∀ n ∈ names, Bundle.fit n = true) (hw : ∀ w ∈ Bundle.ownAtoms0 own ic X names, w.before args s = true)
    (hcl : (Cond.classLink own i0 X).before args s = true) (hini : (Cond.initialized X).before args s = true)
    (hls : ls.size = c.maxLocals) (hd0 : decode cc pc = .ok (.new i0, 3)) (hd3 : decode cc (pc + 3) = .ok (.dup, 1)) (hd4 : decode cc (pc + 4) = .ok (.invokespecial ic, 3)) (hd7 : decode cc (pc + 7) = .ok (.athrow, 1))
    (hne : c.exceptionTable.isEmpty = true) (hlocks : meth.locks = false) (hrf : names.length + 3 < R.frames)
    (hrl : 2 * (F0 m (pc + 4) ls (.ref s.heap.size :: .ref s.heap.size :: rest)).monitorRoom + ((Value.ref s.heap.size :: rest).map fun v => v.category).sum + (13 * (names.length + 1) + 41) ≤ R.locals)
    (hrc : 1 ≤ R.cells) (hrs : 6 ≤ R.slots) : W p l e R s m args below meth c s.heap [] 0 0 (tm_Q below X s 1 6) (F0 m pc ls rest) := by
  have hins : (Cond.instantiable X 6).before args s = true := hw _ (by simp [Bundle.ownAtoms0])
  refine W.newc hexec hb hown hcl hins hini rfl hd0 (by omega) (by omega) (fun cC kC h1 h2 h3 h4 => ?_)
  refine W.eq (g2 := F0 m (pc + 3) ls (.ref s.heap.size :: rest)) rfl ?_
  refine lv_dup hexec hb hd3 rfl ?_
  intro T hT Xs
  have hcell : T.heap[s.heap.size]? = some (freshCell cC kC) := by rw [hT]; simp
  have hout : ∀ x ∈ c.exceptionTable.toList, covers x (pc + 4 + 3) = false := by
    intro x hx
    have h0 : c.exceptionTable = #[] := by simpa using hne
    rw [h0] at hx
    simp at hx
  obtain ⟨U, hst, hrun, hend, hWU, hsame, ce, hce, ho⟩ := Xs.ctorThrow0 hexec htr hown hX hns hw (fun x hx => by cases hx) h1 h2 hcell (Nat.le_refl _)
    (g := F0 m (pc + 4) ls (.ref s.heap.size :: .ref s.heap.size :: rest)) rfl hls rfl rfl (rest := rest) rfl (by rw [hb]; exact hd4) (by rw [hb]; exact hd7) hout hrf hrl hlocks
  exact ⟨U, hst, .threw s.heap.size, hrun, hend, ⟨s.heap.size, ce, rfl, Nat.le_refl _, hce, by rw [ho.vm]; rfl, ho.cls, ho.self⟩, hWU, hsame⟩
end TMW
theorem tm_step {e : Env} {u : State} {a : Addr} {f : JFrame} {r : List Frame} {pc : Nat} {vm' : Vm} (hfind : ∀ (Q : Handler → Pre) (E : CtlPost) (d : Bool) (acts : List Action), wp (findHandler f a) Q E e d acts u ↔ Q (.found pc) d acts (u.setVm vm')) :
    (stepThrowing e u a (.java f :: r)).1 = (u.setVm vm').setFrames (.java { f with pc := pc, stack := [.ref a] } :: r) := by
  simp only [stepThrowing, searchFrame, vmDo]
  generalize hr : Sem.go _ e false [] u = res
  obtain ⟨as, rfl, ha⟩ := Sem.eq_ok_of hr (a := Handler.found pc) (s' := u.setVm vm') (acts' := []) (by simp [hfind _ _ _ _])
  rfl
theorem tm_frames (u : State) (vm' : Vm) (F G : List Frame) : ((u.setFrames F).setVm vm').setFrames G = (u.setVm vm').setFrames G := by
  have h1 : (u.setFrames F).setVm vm' = (u.setVm vm').setFrames F := rfl
  rw [h1, State.setFrames_setFrames]
section TMC
variable {p : Program} {l : Launch} {e : Env} {R : Room} {s : State} {m : MethodId} {args : Array Value} {below : List Frame} {meth : Method} {c : Code} {T : State} {locs : List Loc} {cells slots : Nat}
/-- one row of the table, which covers the place and whose type may still be open -/
theorem tm_find {u : State} {f : JFrame} {a : Addr} {mt : Method} {cd : Code} (hm : u.vm.method? f.method = some mt) (hc : mt.code = some cd) {x : ExceptionTableEntry} (htab : cd.exceptionTable.toList = [x])
    (hx : covers x f.pc = true) (h0 : x.catchType ≠ 0) {t : ClassId} {cell : Cell} (hl : u.vm.ClassLinks e.platform f.method.cls x.catchType t) (hcell : u.heap[a]? = some cell) (hobj : ∀ k, cell.vm ≠ .statics k)
    (hk : ∃ k, u.vm.classes[cell.cls]? = some k) (ht : ∃ k, u.vm.classes[t]? = some k) (hfit : u.vm.assignable cell.cls t = true) (Q : Handler → Pre) (E : CtlPost) (d : Bool) (acts : List Action) :
    wp (findHandler f a) Q E e d acts u ↔ Q (.found x.handlerPc) d acts (u.setVm (u.vm.noted f.method.cls x.catchType (.cls t))) := by
  rw [Jvm.W.findHandler_eq hm hc, htab]
  simp only [covers] at hx
  obtain ⟨ha, hb⟩ := (resolveClass_links e.toSetting hl).op (op := VmOp.resolveClass f.method.cls x.catchType) rfl
  have hal : u.vm.Alike (u.vm.noted f.method.cls x.catchType (.cls t)) := (Vm.Alike.refl u.vm).noted _ _ _
  obtain ⟨k1, hk1⟩ := hk
  obtain ⟨k2, hk2⟩ := ht
  obtain ⟨k3, hk3, -⟩ := hal.2.2 _ _ hk1
  obtain ⟨k4, hk4, -⟩ := hal.2.2 _ _ hk2
  have hf2 : (u.vm.noted f.method.cls x.catchType (.cls t)).assignable cell.cls t = true := by rw [hal.assignable]; exact hfit
  simp [findHandler.go, hx, h0, ha, hb, hcell, hobj, hk3, hk4, hf2, VmOp.dirties, VmOp.acts]
theorem tm_caught (X : Stand p l e R s m args below meth c T locs cells slots) (a : Addr) {g : JFrame} (hg : g.method = m) {own N : String} (hown : s.vm.findClass own = some m.cls) {x : ExceptionTableEntry} (htab : c.exceptionTable.toList = [x])
    (hx : covers x g.pc = true) (h0 : x.catchType ≠ 0) (hlink : (Cond.classLink own x.catchType N).before args s = true) {cell : Cell} (hcT : s.vm.findClass N = some cell.cls) (hcell : T.heap[a]? = some cell) (hobj : cell.vm.isStatics = false) (hfit : s.vm.assignable cell.cls cell.cls = true) :
    ∃ vm', Stand p l e R s m args below meth c (T.setVm vm') locs cells slots ∧
      ∀ tg, Steps p.tables e below ((T.setVm vm').setTop { g with pc := x.handlerPc, stack := [.ref a] }) tg → Steps p.tables e below ((T.setTop g).pushFrame (.throwing a)) tg := by
  have hpl : e.platform.magicAccessors = ({} : Platform).magicAccessors := by rw [X.admits.platform]
  obtain ⟨t, ht, hcl⟩ := Cond.classLink_spec hown hlink e.platform hpl
  cases hcT.symm.trans ht
  obtain ⟨dk, _, _, kt, hd, _, _, _, _, hkt, _, hopen⟩ := hcl.here
  have hcl0 := X.warmed.classLinks hcl
  have hW : s.WarmedH (T.vm.noted m.cls x.catchType (.cls cell.cls)) := X.warmed.noted hd hopen (State.rightAt_cls hcl)
  have hal := X.warmed.alike
  obtain ⟨kt', hkt', -⟩ := hal.2.2 _ _ hkt
  have hfit' : T.vm.assignable cell.cls cell.cls = true := by rw [hal.assignable]; exact hfit
  refine ⟨_, X.noted hW, fun tg hrest => ?_⟩
  subst hg
  obtain ⟨hgo, hwi⟩ := X.here.throwing a
  refine Steps.head hgo hwi ?_
  have hfd := fun Q E d acts => tm_find (e := e) (u := (T.setTop g).pushFrame (.throwing a)) (f := g) (a := a) (mt := meth) (cd := c) X.method' X.code htab hx h0 (t := cell.cls) (cell := cell) hcl0 hcell (VmData.ne_statics_of hobj) ⟨kt', hkt'⟩ ⟨kt', hkt'⟩ hfit' Q E d acts
  rw [stepThread_throwing (frames_entered X.here.top _), tm_step hfd]
  obtain ⟨g0, hfr⟩ := X.frames_eq
  have hfr' : (T.setVm (T.vm.noted g.method.cls x.catchType (.cls cell.cls))).frames = .java g0 :: below := hfr
  rw [State.setTop_of_frames _ hfr'] at hrest
  rw [hfr, List.tail_cons, State.pushFrame, tm_frames, State.setTop_of_frames _ hfr, tm_frames]
  exact hrest
/-- a call by invokevirtual of a method that throws N, where the place is covered by the one row of the table: the walk goes on at the handler -/
theorem tm_catchV {H : Heap} {Q : State → Prop} {y : MethodName} {bytes cc : ByteArray} {maxL nL n index : Nat} {ret : Option FieldType} {ws Ts : List Cond} {rm : Room} {Pc : Array Value → State → Prop} {own C N : String} {b : Addr} {As rest : List Value} {pc : Nat} {ls : Array Slot} {st0 : List Value} {mc ms : Nat}
    (S : CallFix p m c cc nL s args Ts own) (hM : tm_Met l y ws rm Pc N mc ms) (cw : CallW R s args own C index y bytes maxL ret ws rm mc ms n) (hp : PreV s H C b Pc As)
    (hn : As.length = n) (hsize : ls.size = nL) (hstack : st0 = As.reverse ++ .ref b :: rest) (hW : 2 * (F0 m pc ls rest).monitorRoom + (rest.map fun v => v.category).sum ≤ 8) (hdg : decode cc pc = .ok (.invokevirtual index, 3)) (hf : cells + mc ≤ R.cells ∧ slots + ms ≤ R.slots)
    {x : ExceptionTableEntry} (htab : c.exceptionTable.toList = [x]) (hx : covers x pc = true) (h0 : x.catchType ≠ 0) (hlink : (Cond.classLink own x.catchType N).before args s = true)
    (kk : ∀ (H1 : Heap) (q : Nat), H.size ≤ H1.size → (∀ z : Nat, z < H.size → H1[z]? = H[z]?) → W p l e R s m args below meth c H1 locs (cells + mc) (slots + ms) Q (F0 m x.handlerPc ls [.ref q])) :
    W p l e R s m args below meth c H locs cells slots Q (F0 m pc ls st0) := by
  obtain ⟨⟨hrc, hrs, hfr, hlo, hws, hcw, hcode, hini, hy, hlen, hl⟩, hin, hse⟩ := cw
  obtain ⟨hex, hb, hml, ho, -⟩ := S
  obtain ⟨hbl, ⟨cellB, hcB, hoB, hclB⟩, hPc⟩ := hp
  intro T hT X
  obtain ⟨mk, methM, hnamed, hmethM, hstM, habM⟩ := Cond.instanceMethod_spec hin
  obtain ⟨methM', cM, hmethM', hcM, -, hlM, -, -, -, hsigM⟩ := Cond.code_spec hnamed hcode
  cases hmethM.symm.trans hmethM'
  obtain ⟨c2, r2, m2, q1, q2, q3, q4, kP, hkP, hkPi⟩ := Cond.selects_spec hse
  cases hclB.symm.trans q1
  cases (State.methodFound?_of_named hnamed hy).symm.trans q2
  cases hnamed.symm.trans q3
  have hselP : selectMethod e.platform s.vm cellB.cls mk = .method mk := by rw [Launch.admits_selectMethod X.admits]; exact q4
  obtain ⟨vm₁, X₁, hstep₁⟩ := X.invokevirtual hex ho hl hnamed hmethM hstM hkP hkPi hy (a := b) (cell := cellB) (by rw [hT]; exact hcB)
    (fun z h => by rw [h] at hoB; cases hoB) hselP hmethM habM hkP hkPi (g := F0 m pc ls st0) rfl (argsL := As) (rest := rest) (hn.trans (hlen _ hsigM)) hstack (by rw [hb]; exact hdg)
  have hAt : At (T.setVm vm₁) (F0 m pc ls rest).method c below := X₁.here
  have hnm : (T.setVm vm₁).methodNamed? y = some mk := X₁.named hnamed
  obtain ⟨kY, hkY, -⟩ := className_of_methodNamed hnm
  have hinitY : kY.init = .initialized := Cond.initialized_spec (findClass_of_methodNamed hnm) hkY (word_at (a' := #[]) X₁.warmed (Or.inl (by first | rfl | simp [Cond.onTables, Cond.keeps, Cond.steady])) hini)
  have hpre : (headSpec ws rm).pre.before (Value.ref b :: As).toArray (T.setVm vm₁) = true := atoms_intro fun w hw => hws w hw _ _ X₁.warmed
  have hmM : (T.setVm vm₁).vm.method? mk = some methM := by rw [X₁.warmed.alike.method?]; exact hmethM
  have happ : (headSpec ws rm).appliesLoose y e.platform ((T.setVm vm₁).calling (F0 m pc ls rest) mk (Value.ref b :: As).toArray) = true :=
    Spec.appliesLoose_calling (g := F0 m pc ls rest) hAt (by rw [hb]; exact hdg) hnm hkY hinitY
      (X₁.room_calling (g := F0 m pc ls rest) (R' := (headSpec ws rm).room) (hsize.trans hml.symm) hmM hcM hfr (by rw [hlM]; have h8 : (headSpec ws rm).room.locals = rm.locals := rfl; have h9 : 2 * (F0 m pc ls rest).monitorRoom + ((F0 m pc ls rest).stack.map fun v => v.category).sum ≤ 8 := hW; omega)
        (by rw [show (headSpec ws rm).room.cells = mc from hrc]; exact hf.1) (by rw [show (headSpec ws rm).room.slots = ms from hrs]; exact hf.2)) hpre
  obtain ⟨mid, hmid⟩ := hAt.above
  have hfrm : ((T.setVm vm₁).setTop (F0 m pc ls rest)).frames = (.java (F0 m pc ls rest) :: mid) ++ below := by rw [State.frames_setTop' _ hAt.top, hmid]; rfl
  obtain ⟨o, s₂, hsteps, -, hend, hq⟩ := Steps.callFree hM p X.admits X.cas X.clock (acts := []) hfrm happ (hbl _ _ _ _ (hPc _ hT X₁.warmed)) trivial
  obtain ⟨⟨q, cell, rfl, hqn, hqc, hqs, hqf, hqa⟩, hW2, hsame⟩ := hq
  rw [State.frames_setTop' _ hAt.top, X₁.tail] at hend
  obtain ⟨T', X', hWT, hsm, rfl⟩ := X₁.outOfThrown (g := F0 m pc ls rest) rfl hend hW2 hsame
  have hheap : ∀ z : Nat, z < H.size → T'.heap[z]? = H[z]? := by
    intro z hz
    have h9 := tm_old hsm (q := z) (by show z < T.heap.size; rw [hT]; exact hz)
    rw [← hT]; exact h9
  have hsz : H.size ≤ T'.heap.size := by rw [← hT]; exact hsm.2.1
  obtain ⟨vm₂, X₂, hstep₂⟩ := tm_caught X' q (g := F0 m pc ls rest) rfl ho htab hx h0 hlink (cell := cell) (by rw [← X₁.warmed.alike.findClass]; exact hqf) hqc hqs (by rw [← X₁.warmed.alike.assignable]; exact hqa)
  rw [List.append_nil] at X₂
  obtain ⟨t, a1, b1⟩ := kk T'.heap q hsz hheap (T'.setVm vm₂) rfl X₂
  exact ⟨t, hstep₁ _ (fun acts => by rw [doInvoke_state]; exact hsteps.trans (hstep₂ _ a1)), b1⟩
end TMC
end
section
/-! ===== lN n to 2^64: shifts, and, or, masks, one bit ===== -/
theorem wb_tb (n : Nat) : (lN n).toBitVec = BitVec.ofNat 64 n := rfl
theorem wb_inj {a b : Int64} (h : a.toBitVec = b.toBitVec) : a = b := Int64.toBitVec_inj.mp h
theorem wb_tn {n : Nat} (h : n < 2 ^ 64) : (lN n).toBitVec.toNat = n := by rw [wb_tb, BitVec.toNat_ofNat, Nat.mod_eq_of_lt h]
theorem wb_of (x : Int64) : ∃ n, n < 2 ^ 64 ∧ x = lN n := ⟨x.toBitVec.toNat, x.toBitVec.isLt, wb_inj (by rw [wb_tb]; simp)⟩
theorem wb_of32 (x : Int32) : ∃ n, n < 2 ^ 32 ∧ x = nI n := ⟨x.toBitVec.toNat, x.toBitVec.isLt, Int32.toBitVec_inj.mp (by show _ = BitVec.ofNat 32 _; simp)⟩
theorem wb_c : ∀ k, k < 64 → ((nI k).toInt64 &&& 63) = lN k := by decide +kernel
theorem wb_cu : ∀ k, k < 64 → ((nI k).toInt64.toUInt64 &&& Int64.toUInt64 63) = UInt64.ofNat k := by decide +kernel
theorem wb_sm : ∀ k, k < 64 → (BitVec.ofNat 64 k).smod 64 = BitVec.ofNat 64 k := by decide +kernel
theorem wb_pw {a b : Nat} (h : a ≤ b) : 2 ^ b = 2 ^ a * 2 ^ (b - a) := by rw [← Nat.pow_add]; congr 1; omega
theorem wb_lt2 {a b : Nat} (h : a < b) : 2 ^ a < 2 ^ b := Nat.pow_lt_pow_right (by decide) h
theorem wb_mod (n : Nat) : lN n = lN (n % 2 ^ 64) := wb_inj (by rw [wb_tb, wb_tb]; apply BitVec.eq_of_toNat_eq; rw [BitVec.toNat_ofNat, BitVec.toNat_ofNat, Nat.mod_mod])
theorem wb_shr {n k : Nat} (hn : n < 2 ^ 64) (hk : k < 64) : ((lN n).toUInt64 >>> ((nI k).toInt64.toUInt64 &&& Int64.toUInt64 63)).toInt64 = lN (n / 2 ^ k) := by
  rw [wb_cu k hk]
  apply wb_inj
  apply BitVec.eq_of_toNat_eq
  show ((lN n).toUInt64 >>> UInt64.ofNat k).toNat = (BitVec.ofNat 64 _).toNat
  have h1 : (UInt64.ofNat k).toNat = k := by
    show (BitVec.ofNat 64 k).toNat = k
    rw [BitVec.toNat_ofNat, Nat.mod_eq_of_lt (by omega)]
  have h2 : (lN n).toUInt64.toNat = n := wb_tn hn
  rw [UInt64.toNat_shiftRight, h1, h2, Nat.mod_eq_of_lt hk, Nat.shiftRight_eq_div_pow, BitVec.toNat_ofNat, Nat.mod_eq_of_lt (Nat.lt_of_le_of_lt (Nat.div_le_self _ _) hn)]
theorem wb_shl (n : Nat) {k : Nat} (hk : k < 64) : lN n <<< ((nI k).toInt64 &&& 63) = lN (n * 2 ^ k) := by
  rw [wb_c k hk]
  apply wb_inj
  rw [Int64.toBitVec_shiftLeft, wb_tb, wb_tb, wb_tb, wb_sm k hk]
  apply BitVec.eq_of_toNat_eq
  rw [BitVec.shiftLeft_eq', BitVec.toNat_shiftLeft, BitVec.toNat_ofNat, BitVec.toNat_ofNat, BitVec.toNat_ofNat, Nat.mod_eq_of_lt (show k < 2 ^ 64 by omega), Nat.shiftLeft_eq, Nat.mul_mod, Nat.mod_mod, ← Nat.mul_mod]
theorem wb_and {a b : Nat} (ha : a < 2 ^ 64) (hb : b < 2 ^ 64) : lN a &&& lN b = lN (a &&& b) := by
  apply wb_inj
  rw [Int64.toBitVec_and, wb_tb, wb_tb, wb_tb]
  apply BitVec.eq_of_toNat_eq
  rw [BitVec.toNat_and, BitVec.toNat_ofNat, BitVec.toNat_ofNat, BitVec.toNat_ofNat, Nat.mod_eq_of_lt ha, Nat.mod_eq_of_lt hb, Nat.mod_eq_of_lt (Nat.and_lt_two_pow _ hb)]
theorem wb_or {a b : Nat} (ha : a < 2 ^ 64) (hb : b < 2 ^ 64) : lN a ||| lN b = lN (a ||| b) := by
  apply wb_inj
  rw [Int64.toBitVec_or, wb_tb, wb_tb, wb_tb]
  apply BitVec.eq_of_toNat_eq
  rw [BitVec.toNat_or, BitVec.toNat_ofNat, BitVec.toNat_ofNat, BitVec.toNat_ofNat, Nat.mod_eq_of_lt ha, Nat.mod_eq_of_lt hb, Nat.mod_eq_of_lt (Nat.or_lt_two_pow ha hb)]
theorem wb_mask {n k : Nat} (hn : n < 2 ^ 64) (hk : k < 64) : lN n &&& lN (2 ^ k - 1) = lN (n % 2 ^ k) := by
  rw [wb_and hn (by have := wb_lt2 hk; omega), Nat.and_two_pow_sub_one_eq_mod]
theorem wb_a1 {n : Nat} (hn : n < 2 ^ 64) : lN n &&& 1 = lN (n % 2) := wb_mask (k := 1) hn (by decide)
theorem wb_bit {n k : Nat} (hn : n < 2 ^ 64) (hk : k < 64) : ((lN n).toUInt64 >>> ((nI k).toInt64.toUInt64 &&& Int64.toUInt64 63)).toInt64 &&& 1 = lN (n / 2 ^ k % 2) := by
  rw [wb_shr hn hk, wb_a1 (Nat.lt_of_le_of_lt (Nat.div_le_self _ _) hn)]
theorem wb_xor {q k : Nat} (hk : k < 63) (h : 2 ^ k ≤ q) (h2 : q < 2 ^ (k + 1)) : lN q ^^^ lN (2 ^ k) = lN (q - 2 ^ k) := by
  obtain ⟨r, rfl⟩ : ∃ r, q = 2 ^ k + r := ⟨q - 2 ^ k, by omega⟩
  have hr : r < 2 ^ k := by rw [Nat.pow_succ] at h2; omega
  have hx : (2 ^ k + r) ^^^ 2 ^ k = r := by
    apply Nat.eq_of_testBit_eq
    intro i
    rw [Nat.testBit_xor, Nat.testBit_two_pow]
    rcases Nat.lt_trichotomy i k with h | h | h
    · rw [Nat.testBit_two_pow_add_gt h]
      simp [show ¬ k = i by omega]
    · subst h
      rw [Nat.testBit_two_pow_add_eq]
      simp
    · have a1 : 2 ^ (k + 1) ≤ 2 ^ i := Nat.pow_le_pow_right (by decide) h
      rw [Nat.testBit_lt_two_pow (show 2 ^ k + r < 2 ^ i by omega), Nat.testBit_lt_two_pow (show r < 2 ^ i by omega)]
      simp [show ¬ k = i by omega]
  have b1 := wb_lt2 (show k + 1 < 64 by omega)
  have b2 := wb_lt2 (show k < 64 by omega)
  apply wb_inj
  rw [Int64.toBitVec_xor, wb_tb, wb_tb, wb_tb]
  apply BitVec.eq_of_toNat_eq
  rw [BitVec.toNat_xor, BitVec.toNat_ofNat, BitVec.toNat_ofNat, BitVec.toNat_ofNat, Nat.mod_eq_of_lt (by omega : 2 ^ k + r < 2 ^ 64), Nat.mod_eq_of_lt b2, hx, Nat.add_sub_cancel_left, Nat.mod_eq_of_lt (by omega)]
/-! ===== lN: masks, 'or' of parts that don't overlap is a sum ===== -/
theorem u_tn {n : Nat} (h : n < 2 ^ 64) : (UInt64.ofNat n).toNat = n := Nat.mod_eq_of_lt h
theorem g_and {a b c : Nat} (ha : a < 2 ^ 64) (hb : b < 2 ^ 64) (hc : a &&& b = c) : lN a &&& lN b = lN c := by
  subst hc
  have h : UInt64.ofNat a &&& UInt64.ofNat b = UInt64.ofNat (a &&& b) := UInt64.toNat_inj.mp (by rw [UInt64.toNat_and, u_tn ha, u_tn hb, u_tn (Nat.and_lt_two_pow a hb)])
  have h2 := congrArg UInt64.toInt64 h
  exact h2
theorem g_and1 {a : Nat} (ha : a < 2 ^ 64) : lN a &&& 1 = lN (a % 2) := g_and (b := 1) ha (by decide) (Nat.and_two_pow_sub_one_eq_mod a 1)
theorem g_mask {a s p : Nat} (hp : 2 ^ s = p) (hs : s < 64) (ha : a < 2 ^ 64) : lN a &&& lN (p - 1) = lN (a % p) := by
  subst hp
  have := Nat.pow_lt_pow_right (show 1 < 2 by decide) hs
  exact g_and ha (by omega) (Nat.and_two_pow_sub_one_eq_mod a s)
theorem g_or {k p a b : Nat} (hp : 2 ^ k = p) (ha : a < p) (h : b * p + a < 2 ^ 64) : lN (b * p) ||| lN a = lN (b * p + a) := by
  subst hp
  have h1 : b * 2 ^ k ||| a = b * 2 ^ k + a := by rw [← Nat.shiftLeft_eq, Nat.shiftLeft_add_eq_or_of_lt ha]
  have h3 : UInt64.ofNat (b * 2 ^ k) ||| UInt64.ofNat a = UInt64.ofNat (b * 2 ^ k + a) := UInt64.toNat_inj.mp (by rw [UInt64.toNat_or, u_tn (by omega), u_tn (by omega), u_tn h, h1])
  have h2 := congrArg UInt64.toInt64 h3
  exact h2
theorem g_or' {k p a b : Nat} (hp : 2 ^ k = p) (ha : a < p) (h : a + b * p < 2 ^ 64) : lN a ||| lN (b * p) = lN (a + b * p) := by
  rw [Int64.or_comm, g_or hp ha (by omega), Nat.add_comm]
theorem g_ushr {a k p : Nat} {y : UInt64} (hy : y = UInt64.ofNat k) (hk : k < 64) (hp : 2 ^ k = p) (ha : a < 2 ^ 64) : ((lN a).toUInt64 >>> y).toInt64 = lN (a / p) := by
  subst hy hp
  have h : UInt64.ofNat a >>> UInt64.ofNat k = UInt64.ofNat (a / 2 ^ k) := UInt64.toNat_inj.mp (by rw [UInt64.toNat_shiftRight, u_tn ha, u_tn (by omega), u_tn (Nat.lt_of_le_of_lt (Nat.div_le_self _ _) ha), Nat.mod_eq_of_lt hk, Nat.shiftRight_eq_div_pow])
  have h2 := congrArg UInt64.toInt64 h
  exact h2
theorem g_shl {a k p : Nat} {y : Int64} (hy : y.toBitVec.smod 64 = BitVec.ofNat 64 k) (hk : k < 64) (hp : 2 ^ k = p) (ha : a < 2 ^ 64) : lN a <<< y = lN (a * p) := by
  subst hp
  apply Int64.toBitVec_inj.mp
  rw [Int64.toBitVec_shiftLeft, hy]
  apply BitVec.eq_of_toNat_eq
  have hb : (lN a).toBitVec.toNat = a := Nat.mod_eq_of_lt ha
  have hk' : (BitVec.ofNat 64 k).toNat = k := Nat.mod_eq_of_lt (by omega)
  have h : ((lN a).toBitVec <<< BitVec.ofNat 64 k).toNat = (a * 2 ^ k) % 2 ^ 64 := by simp only [BitVec.shiftLeft_eq', BitVec.toNat_shiftLeft, hb, hk', Nat.shiftLeft_eq]
  exact h
-- the dictionary's table, as numbers: index, sub, size, rights, where the bytes begin
def tbI : List Nat := [4096, 4097, 4119, 5632, 5632, 5632, 5632, 5632, 6144, 6656, 6656, 6656, 6656, 6656, 8192, 8193, 8194, 8195, 8196, 8197, 8198, 8199]
def tbS : List Nat := [0, 0, 0, 0, 1, 2, 3, 4, 2, 0, 1, 2, 3, 4, 0, 0, 0, 0, 0, 0, 0, 0]
def tbZ : List Nat := [4, 1, 2, 1, 4, 4, 4, 4, 1, 1, 4, 4, 4, 4, 1, 2, 4, 4, 12, 8, 2, 20]
def tbR : List Nat := [1, 5, 3, 3, 3, 3, 3, 3, 3, 3, 3, 3, 3, 3, 7, 7, 7, 5, 3, 7, 6, 1]
def tbP : List Nat := [0, 4, 5, 7, 8, 12, 16, 20, 24, 25, 26, 30, 34, 38, 42, 43, 45, 49, 53, 65, 73, 75]
def xI (e : Nat) : Nat := tbI.getD e 0
def xS (e : Nat) : Nat := tbS.getD e 0
def xZ (e : Nat) : Nat := tbZ.getD e 0
def xR (e : Nat) : Nat := tbR.getD e 0
def xP (e : Nat) : Nat := tbP.getD e 0
def xKey (e : Nat) : Nat := xI e * 65536 + xS e * 256 + 8 * xZ e
theorem x_fit : ∀ e, e < 22 → xP e + xZ e ≤ 95 ∧ 1 ≤ xZ e ∧ xZ e ≤ 20 ∧ xI e < 65536 ∧ xS e < 5 ∧ xR e < 8 := by decide
-- bytes: of an unsigned number, and of a stretch of ints
def bN (n i : Nat) : Nat := n / 2 ^ (8 * i) % 256
def isB (f : Nat → Int32) : Prop := ∀ j, ∃ b, b < 256 ∧ f j = nI b
def bv (f : Nat → Int32) (j : Nat) : Nat := (f j).toNatClampNeg
def sm (f : Nat → Int32) (s : Nat) : Nat → Nat
  | 0 => 0
  | n + 1 => sm f s n + bv f (s + n) * 2 ^ (8 * n)
theorem bv_of {f : Nat → Int32} (h : isB f) (j : Nat) : bv f j < 256 ∧ f j = nI (bv f j) := by
  obtain ⟨b, hb, he⟩ := h j
  have h1 : bv f j = b := by unfold bv; rw [he, nI_clamp (by omega)]
  rw [h1]; exact ⟨hb, he⟩
theorem sm_lt {f : Nat → Int32} (h : isB f) (s n : Nat) : sm f s n < 2 ^ (8 * n) := by
  induction n with
  | zero => simp [sm]
  | succ n ih =>
    have h1 := (bv_of h (s + n)).1
    have h2 : 2 ^ (8 * (n + 1)) = 2 ^ (8 * n) * 256 := by rw [show 8 * (n + 1) = 8 * n + 8 by omega, Nat.pow_add]
    have h3 : bv f (s + n) * 2 ^ (8 * n) ≤ 255 * 2 ^ (8 * n) := Nat.mul_le_mul_right _ (by omega)
    simp only [sm]
    omega
-- an entry that a number in a map names, with these rights (the map's right and 4)
def mpF (nm : Int32) (r : Nat) : Nat → Nat → Option Nat
  | 0, _ => none
  | n + 1, e => if nI (xKey e) = nm then (if xR e &&& r = r then some e else none) else mpF nm r n (e + 1)
def mp (nm : Int32) (r : Nat) : Option Nat := mpF nm r 22 0
-- find: the first row with this index and sub
def fdF (i s : Int32) : Nat → Nat → Option Nat
  | 0, _ => none
  | n + 1, e => if nI (xI e) = i then (if nI (xS e) = s then some e else fdF i s n (e + 1)) else fdF i s n (e + 1)
def fd (i s : Int32) : Option Nat := fdF i s 22 0
def hiF (i : Int32) : Nat → Nat → Bool
  | 0, _ => false
  | n + 1, e => if nI (xI e) = i then true else hiF i n (e + 1)
def hi (i : Int32) : Bool := hiF i 22 0
def oI : Option Nat → Int32
  | none => -1
  | some e => nI e
theorem fdF_lt {i s : Int32} : ∀ n e k, fdF i s n e = some k → k < e + n ∧ nI (xI k) = i ∧ nI (xS k) = s := by
  intro n
  induction n with
  | zero => intro e k h; cases h
  | succ n ih =>
    intro e k h
    simp only [fdF] at h
    split at h
    · split at h
      · cases h; exact ⟨by omega, by assumption, by assumption⟩
      · have := ih _ _ h; exact ⟨by omega, this.2⟩
    · have := ih _ _ h; exact ⟨by omega, this.2⟩
theorem fd_lt {i s : Int32} {k : Nat} (h : fd i s = some k) : k < 22 ∧ nI (xI k) = i ∧ nI (xS k) = s := by
  have := fdF_lt 22 0 k h; exact ⟨by omega, this.2⟩
theorem mpF_lt {nm : Int32} {r : Nat} : ∀ n e k, mpF nm r n e = some k → k < e + n ∧ nI (xKey k) = nm ∧ xR k &&& r = r := by
  intro n
  induction n with
  | zero => intro e k h; cases h
  | succ n ih =>
    intro e k h
    simp only [mpF] at h
    split at h
    · split at h
      · cases h; exact ⟨by omega, by assumption, by assumption⟩
      · cases h
    · have := ih _ _ h; exact ⟨by omega, this.2⟩
theorem mp_lt {nm : Int32} {r k : Nat} (h : mp nm r = some k) : k < 22 ∧ nI (xKey k) = nm ∧ xR k &&& r = r := by
  have := mpF_lt 22 0 k h; exact ⟨by omega, this.2⟩
-- a map m (3 or 9) with its right: how long the first n are, what they hold
def mE (f : Nat → Int32) (m r k : Nat) : Option Nat := mp (nI (sm f (xP (m + k)) 4)) r
def mL (f : Nat → Int32) (m r : Nat) : Nat → Nat
  | 0 => 0
  | n + 1 => (mE f m r (n + 1)).elim (mL f m r n) (fun e => mL f m r n + xZ e)
def mC (f : Nat → Int32) (m r : Nat) : Nat → Nat
  | 0 => 0
  | n + 1 => (mE f m r (n + 1)).elim (mC f m r n) (fun e => mC f m r n + sm f (xP e) (xZ e) * 2 ^ (8 * mL f m r n))
def pF (f : Nat → Int32) (s n x k : Nat) : Nat → Int32 := fun j => if s ≤ j ∧ j < s + n then nI (bN x (k + (j - s))) else f j
def mW (m r x : Nat) (f : Nat → Int32) : Nat → (Nat → Int32) × Nat
  | 0 => (f, 0)
  | n + 1 => (mE (mW m r x f n).1 m r (n + 1)).elim (mW m r x f n) (fun e => (pF (mW m r x f n).1 (xP e) (xZ e) x (mW m r x f n).2, (mW m r x f n).2 + xZ e))
end
section
/-- where a static field lies, its class's statics cell in H -/
def vx_L (C n d : String) (A : Nat → Prop) (U : State) (H : Heap) : Prop := ∃ (c : ClassId) (k : Class) (i : Nat) (f : Field) (a : Nat) (cell : Cell), U.vm.findClass C = some c ∧ U.fieldFound? C n d = some (c, k, i, f) ∧ f.isStatic = true ∧ k.statics = some a ∧ H[a]? = some cell ∧ cell.vm.isStatics = true ∧ cell.cls = c ∧ f.slot < cell.slots.size ∧ k.staticTypes[f.slot]? = some f.type ∧ ¬ A a
theorem vx_L.moved {C n d : String} {A : Nat → Prop} {u U : State} {H : Heap} (hvm : u.vm.Alike U.vm) (h : vx_L C n d A u H) : vx_L C n d A U H := by
  obtain ⟨c, k, i, f, a, cell, h1, h2, h3, h4, h5, h6, h7, h8, h9, h10⟩ := h
  obtain ⟨k', hi', he⟩ := State.fieldFound?_setVm hvm h2
  exact ⟨c, k', i, f, a, cell, by rw [hvm.findClass]; exact h1, hi', h3, by rw [he]; exact h4, h5, h6, h7, h8, by rw [he]; exact h9, h10⟩
theorem vx_L.kept {C n d : String} {A : Nat → Prop} {U : State} {H H1 : Heap} (h : vx_L C n d A U H) (hq : ∀ a : Nat, a < H.size → ¬ A a → H1[a]? = H[a]?) : vx_L C n d A U H1 := by
  obtain ⟨c, k, i, f, a, cell, h1, h2, h3, h4, h5, h6, h7, h8, h9, h10⟩ := h
  exact ⟨c, k, i, f, a, cell, h1, h2, h3, h4, by rw [hq a (Array.getElem?_eq_some_iff.mp h5).1 h10]; exact h5, h6, h7, h8, h9, h10⟩
theorem vx_L.narrow {C n d : String} {A B : Nat → Prop} {U : State} {H : Heap} (h : vx_L C n d A U H) (hAB : ∀ q, B q → A q) : vx_L C n d B U H := by
  obtain ⟨c, k, i, f, a, cell, h1, h2, h3, h4, h5, h6, h7, h8, h9, h10⟩ := h
  exact ⟨c, k, i, f, a, cell, h1, h2, h3, h4, h5, h6, h7, h8, h9, fun z => h10 (hAB _ z)⟩
theorem vx_L.word {C n d : String} {A : Nat → Prop} {s : State} {args : Array Value} (h : vx_L C n d A s s.heap) : (Cond.laysStatic C n d).before args s = true := by
  obtain ⟨c, k, i, f, a, cell, h1, h2, h3, h4, h5, h6, h7, h8, h9, -⟩ := h
  show (Cond.laysStatic C n d).holds args s none s [] = true
  exact Cond.laysStatic_of h1 h2 h3 h4 h5 h6 h7 h8 h9
/-- .. and what it holds: null or some reference -/
def vx_Zq (C n d : String) (A : Nat → Prop) (U : State) (H : Heap) : Prop := va_Zq C n d A U H ∧ vx_L C n d A U H
theorem vx_Zq.moved {C n d : String} {A : Nat → Prop} {u U : State} {H : Heap} (hvm : u.vm.Alike U.vm) (h : vx_Zq C n d A u H) : vx_Zq C n d A U H := ⟨va_Zq.moved hvm h.1, vx_L.moved hvm h.2⟩
theorem vx_Zq.kept {C n d : String} {A : Nat → Prop} {U : State} {H H1 : Heap} (h : vx_Zq C n d A U H) (hq : ∀ a : Nat, a < H.size → ¬ A a → H1[a]? = H[a]?) : vx_Zq C n d A U H1 := ⟨va_Zq.kept h.1 hq, vx_L.kept h.2 hq⟩
theorem vx_Zq.narrow {C n d : String} {A B : Nat → Prop} {U : State} {H : Heap} (h : vx_Zq C n d A U H) (hAB : ∀ q, B q → A q) : vx_Zq C n d B U H := ⟨va_Zq.narrow h.1 hAB, vx_L.narrow h.2 hAB⟩
theorem vx_Zqof {args : Array Value} {s : State} {C n d : String} {A : Nat → Prop} (hl : (Cond.laysStatic C n d).before args s = true) (hini : (Cond.initialized C).before args s = true) (h : (Cond.isRef (.static C n d)).before args s = true) (hA : ∀ a : Nat, a < s.heap.size → ¬ A a) : vx_Zq C n d A s s.heap := by
  refine ⟨va_Zqof hl hini h hA, ?_⟩
  obtain ⟨c, k, i, f, a, cell, h1, h2, h3, h4, h5, h6, h7, h8, h9⟩ := Cond.laysStatic_spec hl
  exact ⟨c, k, i, f, a, cell, h1, h2, h3, h4, h5, h6, h7, h8, h9, hA a (Array.getElem?_eq_some_iff.mp h5).1⟩
theorem vx_isRef {C n d : String} {v : Value} {A : Nat → Prop} {s : State} {args : Array Value} (h : va_Z C n d v A s s.heap) (hv : v.isRef = true) : (Cond.isRef (.static C n d)).before args s = true := by
  obtain ⟨cf, kf, fi, f, a, cell, h1, h2, h3, h4, h5, h6, h7, -⟩ := h
  have he : (Term.static C n d).eval args s none [] s = some v := by
    simp [Term.eval, State.fieldNamed?, h1, h2, h4, h5, h6, h7]
  simp only [Cond.before, Cond.holds, Cond.value, he]
  cases v <;> simp_all [Value.isRef]
theorem vx_isRefq {C n d : String} {A : Nat → Prop} {s : State} {args : Array Value} (h : va_Zq C n d A s s.heap) : (Cond.isRef (.static C n d)).before args s = true := by
  rcases h with h | ⟨t, h⟩
  · exact vx_isRef h rfl
  · exact vx_isRef h rfl
-- the two static tables of the dictionary, as they lie
def tabT : List Int32 := [4096, 0, 4, 1, 0, 4097, 0, 1, 5, 4, 4119, 0, 2, 3, 5, 5632, 0, 1, 3, 7, 5632, 1, 4, 3, 8, 5632, 2, 4, 3, 12, 5632, 3, 4, 3, 16, 5632, 4, 4, 3, 20, 6144, 2, 1, 3, 24, 6656, 0, 1, 3, 25, 6656, 1, 4, 3, 26, 6656, 2, 4, 3, 30, 6656, 3, 4, 3, 34, 6656, 4, 4, 3, 38, 8192, 0, 1, 7, 42, 8193, 0, 2, 7, 43, 8194, 0, 4, 7, 45, 8195, 0, 4, 5, 49, 8196, 0, 12, 3, 53, 8197, 0, 8, 7, 65, 8198, 0, 2, 6, 73, 8199, 0, 20, 1, 75]
def tabF : List Int32 := [145, 1, 2, 0, 0, 0, 0, 0, 0, 0, 0, 0, 0, 0, 0, 0, 0, 0, 0, 0, 0, 0, 0, 0, 255, 0, 0, 0, 0, 0, 0, 0, 0, 0, 0, 0, 0, 0, 0, 0, 0, 0, 0, 0, 0, 0, 0, 0, 0, 0, 0, 0, 0, 0, 0, 0, 0, 0, 0, 0, 0, 0, 0, 0, 0, 0, 0, 0, 0, 0, 0, 0, 0, 0, 0, 65, 66, 67, 68, 69, 70, 71, 72, 73, 74, 75, 76, 77, 78, 79, 80, 81, 82, 83, 84]
def tT (j : Nat) : Int32 := tabT.getD j 0
def tF (j : Nat) : Int32 := tabF.getD j 0
theorem tT_at : ∀ e, e < 22 → tT (5 * e) = nI (xI e) ∧ tT (5 * e + 1) = nI (xS e) ∧ tT (5 * e + 2) = nI (xZ e) ∧ tT (5 * e + 3) = nI (xR e) ∧ tT (5 * e + 4) = nI (xP e) := by decide +kernel
-- what is carried of the statics: the two tables, and the two of Throwable
def cSt (A : Nat → Prop) (U : State) (H : Heap) : Prop := ∃ t f : Nat, va_Z RX0 "TABLE" "[I" (.ref t) A U H ∧ va_T .int t 110 (fun j => .int (tT j)) A U H ∧ va_Z RX0 "FIRST" "[I" (.ref f) A U H ∧ va_T .int f 95 (fun j => .int (tF j)) A U H
def xSt (A : Nat → Prop) (U : State) (H : Heap) : Prop := vx_Zq Bundle.tN "UNASSIGNED_STACK" Bundle.steD A U H ∧ vx_Zq Bundle.tN "SUPPRESSED_SENTINEL" Bundle.listD A U H
def gSt (A : Nat → Prop) (U : State) (H : Heap) : Prop := cSt A U H ∧ xSt A U H
theorem gSt.moved {A : Nat → Prop} {u U : State} {H : Heap} (hvm : u.vm.Alike U.vm) (h : gSt A u H) : gSt A U H := by
  obtain ⟨⟨t, f, h1, h2, h3, h4⟩, h5, h6⟩ := h
  exact ⟨⟨t, f, va_Z.moved hvm h1, va_T.moved hvm h2, va_Z.moved hvm h3, va_T.moved hvm h4⟩, vx_Zq.moved hvm h5, vx_Zq.moved hvm h6⟩
theorem gSt.kept {A : Nat → Prop} {U : State} {H H1 : Heap} (h : gSt A U H) (hq : ∀ a : Nat, a < H.size → ¬ A a → H1[a]? = H[a]?) : gSt A U H1 := by
  obtain ⟨⟨t, f, h1, h2, h3, h4⟩, h5, h6⟩ := h
  exact ⟨⟨t, f, va_Z.kept h1 hq, va_T.kept h2 hq, va_Z.kept h3 hq, va_T.kept h4 hq⟩, vx_Zq.kept h5 hq, vx_Zq.kept h6 hq⟩
theorem gSt.narrow {A B : Nat → Prop} {U : State} {H : Heap} (h : gSt A U H) (hAB : ∀ q, B q → A q) : gSt B U H := by
  obtain ⟨⟨t, f, h1, h2, h3, h4⟩, h5, h6⟩ := h
  exact ⟨⟨t, f, va_Z.narrow h1 hAB, va_T.narrow h2 hAB, va_Z.narrow h3 hAB, va_T.narrow h4 hAB⟩, vx_Zq.narrow h5 hAB, vx_Zq.narrow h6 hAB⟩
-- the words across the nest
def nw (U : State) : Prop := ∀ w ∈ nwL, va_Nw w U
def nestWord : Cond → Bool
  | .fieldLinkNest .. => true
  | .methodLinkNest .. => true
  | _ => false
theorem nwL_kind : ∀ w ∈ nwL, nestWord w = true := by decide +kernel
theorem nw_on {w : Cond} (h : nestWord w = true) : w.onTables = true := by
  cases w <;> first | rfl | (simp [nestWord] at h)
theorem nw.same {u U : State} (h : u.vm = U.vm) (hz : nw u) : nw U := fun w hw => va_Nw.same (nw_on (nwL_kind w hw)) h (hz w hw)
theorem nw.warm {s U : State} (hW : s.WarmedH U.vm) (hz : nw s) : nw U := fun w hw => by
  have hk := nwL_kind w hw
  have h1 := hz w hw
  cases w with
  | fieldLinkNest a i b n d h => exact va_Nw.warmF hW h1
  | methodLinkNest a i x h => exact va_Nw.warmM hW h1
  | _ => simp [nestWord] at hk
-- a read-only method's start; a writing one's
def zPu (D : va_G) (tys : List (ClassId × FieldType)) (w : va_W) (U : State) : Prop := va_P D vwCl w U.heap ∧ va_K D vwCl tys U ∧ gSt (fun _ => False) U U.heap ∧ nw U
def zPre (D : va_G) (tys : List (ClassId × FieldType)) (w : va_W) (sz : Nat) (U : State) : Prop := U.heap.size = sz ∧ va_P D vwCl w U.heap ∧ va_K D vwCl tys U ∧ va_D (fun _ => True) w ∧ gSt (va_A w sz) U U.heap ∧ nw U
theorem zPu_blind {D : va_G} {tys : List (ClassId × FieldType)} {w : va_W} {av : List Value} : FrameBlind (va_Pc av (zPu D tys w)) := fun a U g mk h => by
  obtain ⟨h0, h1, h2, h3, h4⟩ := h
  exact ⟨h0, h1, va_K.moved (u := U) (U := U.calling g mk a) (Vm.Alike.refl U.vm) h2, gSt.moved (u := U) (U := U.calling g mk a) (Vm.Alike.refl U.vm) h3, nw.same (u := U) rfl h4⟩
theorem zPre_blind {D : va_G} {tys : List (ClassId × FieldType)} {w : va_W} {sz : Nat} {av : List Value} : FrameBlind (va_Pc av (zPre D tys w sz)) := fun a U g mk h => by
  obtain ⟨h0, h1, h2, h3, h4, h5, h6⟩ := h
  exact ⟨h0, h1, h2, va_K.moved (u := U) (U := U.calling g mk a) (Vm.Alike.refl U.vm) h3, h4, gSt.moved (u := U) (U := U.calling g mk a) (Vm.Alike.refl U.vm) h5, nw.same (u := U) rfl h6⟩
section ZP
variable {s : State} {H : Heap} {locs : List Loc} {A : Nat → Prop} {D : va_G} {tys tys' : List (ClassId × FieldType)} {w : va_W} {As : List Value} {b : Nat}
theorem zp_at (hP : va_P D vwCl w H) (hK : va_K D vwCl tys' s) (hSt : gSt A s s.heap) (hS : va_S A s.heap H locs) (hnw : nw s) : ∀ U : State, U.heap = H → s.WarmedH U.vm → zPu D tys' w U := fun U hU hW =>
  ⟨by rw [hU]; exact hP, va_K.moved hW.alike hK, by rw [hU]; exact gSt.moved hW.alike ((hSt.kept hS.2.1).narrow (fun _ h => h.elim)), nw.warm hW hnw⟩
theorem zp_atW (hP : va_P D vwCl w H) (hD : va_D A w) (hK : va_K D vwCl tys' s) (hSt : gSt A s s.heap) (hS : va_S A s.heap H locs) (hA : ∀ q, s.heap.size ≤ q → A q) (hnw : nw s) : ∀ U : State, U.heap = H → s.WarmedH U.vm → zPre D tys' w H.size U := fun U hU hW =>
  ⟨by rw [hU], by rw [hU]; exact hP, va_K.moved hW.alike hK, hD.weaken (fun _ _ _ _ => trivial), by rw [hU]; exact gSt.moved hW.alike ((hSt.kept hS.2.1).narrow (zb_A (D := D) (cl := vwCl) hD hS hA)), nw.warm hW hnw⟩
theorem zp_V (q0 : Nat) {ci : Nat} {fs : List Value} {C : String} {T : u_T} {N : Nat} (he : w[q0]? = some (b, .inr (ci, fs))) (hc : vwCl[ci]? = some (C, T, N)) (hP : va_P D vwCl w H) (hK : va_K D vwCl tys' s) (hSt : gSt A s s.heap) (hS : va_S A s.heap H locs) (hnw : nw s) :
    PreV s H C b (va_Pc (.ref b :: As) (zPu D tys' w)) As := ⟨zPu_blind, va_recv hK hP hc he, fun U hU hW => ⟨rfl, zp_at hP hK hSt hS hnw U hU hW⟩⟩
theorem zp_S (hP : va_P D vwCl w H) (hK : va_K D vwCl tys' s) (hSt : gSt A s s.heap) (hS : va_S A s.heap H locs) (hnw : nw s) :
    PreS s H (va_Pc As (zPu D tys' w)) As := ⟨zPu_blind, fun U hU hW => ⟨rfl, zp_at hP hK hSt hS hnw U hU hW⟩⟩
theorem zp_VW (q0 : Nat) {ci : Nat} {fs : List Value} {C : String} {T : u_T} {N : Nat} (he : w[q0]? = some (b, .inr (ci, fs))) (hc : vwCl[ci]? = some (C, T, N)) (hP : va_P D vwCl w H) (hD : va_D A w) (hK : va_K D vwCl tys' s) (hSt : gSt A s s.heap) (hS : va_S A s.heap H locs) (hA : ∀ q, s.heap.size ≤ q → A q) (hnw : nw s) :
    PreV s H C b (va_Pc (.ref b :: As) (zPre D tys' w H.size)) As := ⟨zPre_blind, va_recv hK hP hc he, fun U hU hW => ⟨rfl, zp_atW hP hD hK hSt hS hA hnw U hU hW⟩⟩
theorem zp_SW (hP : va_P D vwCl w H) (hD : va_D A w) (hK : va_K D vwCl tys' s) (hSt : gSt A s s.heap) (hS : va_S A s.heap H locs) (hA : ∀ q, s.heap.size ≤ q → A q) (hnw : nw s) :
    PreS s H (va_Pc As (zPre D tys' w H.size)) As := ⟨zPre_blind, fun U hU hW => ⟨rfl, zp_atW hP hD hK hSt hS hA hnw U hU hW⟩⟩
end ZP
-- the class's world: node, dictionary, its bytes, the two maps, outbox, its frames, transfer, its bytes
abbrev OB : Type := (Nat → Int32) × Int32 × Int32
abbrev TR : Type := (Nat → Int32) × Int32 × Int32 × Int32 × Int32 × Int32 × Int32 × Int32
abbrev ND : Type := Int32 × Int32 × Int32 × Int64
def cw (a : Nat → Nat) (cA : ClassId) (N : Int32) (f : Nat → Int32) (o : OB) (t : TR) (n : ND) : va_W :=
  [(a 0, .inr (4, [.int N, .ref (a 1), .ref (a 3), .ref (a 4), .ref (a 5), .ref (a 7), .int n.1, .int n.2.1, .int n.2.2.1, .long n.2.2.2])),
   (a 1, .inr (0, [.ref (a 2)])),
   (a 2, .inl (cA, 95, .inl f)),
   (a 3, .inr (1, [.ref (a 1), .int 3, .int 6])),
   (a 4, .inr (1, [.ref (a 1), .int 9, .int 5])),
   (a 5, .inr (2, [.ref (a 6), .int o.2.1, .int o.2.2])),
   (a 6, .inl (cA, 128, .inl o.1)),
   (a 7, .inr (3, [.ref (a 8), .int t.2.1, .int t.2.2.1, .int t.2.2.2.1, .int t.2.2.2.2.1, .int t.2.2.2.2.2.1, .int t.2.2.2.2.2.2.1, .int t.2.2.2.2.2.2.2])),
   (a 8, .inl (cA, 20, .inl t.1))]
end
section
theorem kZ_min : Cond.static Lib.Math.min.name ∈ wb := wb_t1 24 rfl rfl
theorem kD_min : Cond.code Lib.Math.min.name Lib.Math.min.code 2 (some .int) ∈ wb := wb_t1 25 rfl rfl
theorem kZ_max : Cond.static Lib.Math.max.name ∈ wb := wb_t1 27 rfl rfl
theorem kD_max : Cond.code Lib.Math.max.name Lib.Math.max.code 2 (some .int) ∈ wb := wb_t1 28 rfl rfl
theorem kZ_acopy : Cond.static arraycopyName ∈ wb := wb_t1 42 rfl rfl
theorem kV_acopy : Cond.native arraycopyName ∈ wb := wb_t1 43 rfl rfl
theorem kI_obj : Cond.instanceMethod Lib.objectInit ∈ wb := wb_t1 21 rfl rfl
theorem kD_obj : Cond.code Lib.objectInit ⟨#[0xb1]⟩ 1 none ∈ wb := wb_t1 22 rfl rfl
section ZT
variable {p : Program} {l : Launch} {e : Env} {R : Room} {s : State} {m : MethodId} {args : Array Value} {below : List Frame} {meth : Method} {c : Code} {H : Heap} {locs : List Loc} {cells slots : Nat} {Q : State → Prop} {pc : Nat} {ls : Array Slot} {rest : List Value}
theorem zb_ti {x y : Int32} (h : x = y) (k : W p l e R s m args below meth c H locs cells slots Q (F0 m pc ls (.int y :: rest))) : W p l e R s m args below meth c H locs cells slots Q (F0 m pc ls (.int x :: rest)) := h ▸ k
theorem zb_tl {x y : Int64} (h : x = y) (k : W p l e R s m args below meth c H locs cells slots Q (F0 m pc ls (.long y :: rest))) : W p l e R s m args below meth c H locs cells slots Q (F0 m pc ls (.long x :: rest)) := h ▸ k
end ZT
theorem tT_I {e : Nat} (h : e < 22) : tT (e * 5) = nI (xI e) := by rw [Nat.mul_comm]; exact (tT_at e h).1
theorem tT_S {e : Nat} (h : e < 22) : tT (e * 5 + 1) = nI (xS e) := by rw [Nat.mul_comm]; exact (tT_at e h).2.1
theorem tT_Z {e : Nat} (h : e < 22) : tT (e * 5 + 2) = nI (xZ e) := by rw [Nat.mul_comm]; exact (tT_at e h).2.2.1
theorem tT_R {e : Nat} (h : e < 22) : tT (e * 5 + 3) = nI (xR e) := by rw [Nat.mul_comm]; exact (tT_at e h).2.2.2.1
theorem tT_P {e : Nat} (h : e < 22) : tT (e * 5 + 4) = nI (xP e) := by rw [Nat.mul_comm]; exact (tT_at e h).2.2.2.2
/-! ===== nI under and, xor, >>>, one bit, 65535 ===== -/
theorem nx_and (a b : Nat) : nI a &&& nI b = nI (a &&& b) := by
  apply Int32.toBitVec_inj.1
  show BitVec.ofNat 32 a &&& BitVec.ofNat 32 b = BitVec.ofNat 32 (a &&& b)
  apply BitVec.eq_of_getLsbD_eq
  intro i hi
  simp [hi]
end
section
set_option maxHeartbeats 4000000 in
set_option maxRecDepth 100000 in
theorem c_sizeOf (l : Launch) (D : va_G) (a : Nat → Nat) (cA : ClassId) (N : Int32) (f : Nat → Int32) (ob : OB) (tr : TR) (nd : ND) (k : Nat) (hk : k < 22) : Met l yX0_sizeOf (wX0_sizeOf :: wb) ({ frames := 0, cells := 0, slots := 0, locals := 0 } : Room) (va_Pc [.int (nI k)] (zPu D [(cA, .int)] (cw a cA N f ob tr nd))) (zb_I (nI (xZ k))) 0 0 (fun _ => False) := by
  refine Met.ofW (cc := cX0_sizeOf) (maxL := 1) (ret := (some .int)) (by decide) rfl ?_
  intro p ev s m args below meth c s₁ B hml hv
  obtain ⟨rfl, hP, hK, hSt, hnw⟩ := hv
  have hx := B.exec
  have hb := B.bytes
  have hr := B.returns
  have hts := atoms_spec (ws := wX0_sizeOf :: wb) B.pre
  have htb : ∀ w ∈ wb, w.before ([.int (nI k)]).toArray s = true := fun w h => hts w (List.mem_cons_of_mem _ h)
  have hown : s.vm.findClass RX0 = some m.cls := findClass_of_methodNamed B.named
  have hlocks := B.notSynchronized
  have hS : va_S (fun _ => False) s.heap s.heap [] := va_S.rf
  obtain ⟨⟨tt, ff, hZT, hTT, hZF, hTF⟩, hXS⟩ := id hSt
  have hl := lv_entry ([.int (nI k)]) (n := 1) (Nat.le_of_ble_eq_true rfl)
  rw [lg_entry_eq]
  generalize (lg_sl ([.int (nI k)]) ++ List.replicate (1 - (lg_sl ([.int (nI k)])).length) Slot.unset).toArray = ls at hl ⊢
  have hl : lv_has ls 1 [(0, .int (nI k))] := hl
  refine zb_abs (fun Q hQ => ?_)
  refine va_gets hx hb hZT hS hown (htb _ kF_X0_25) (fun _ h9 => h9) dX0_sizeOf_0 ?_
  refine lv_iload_n hx hb dX0_sizeOf_3 rfl (lv_at hl 0 rfl) ?_
  refine lv_iconst (v := 5) hx hb dX0_sizeOf_4 (by decide) ?_
  refine lv_imul hx hb dX0_sizeOf_5 ?_
  refine zb_ti (pk_mul k 5) ?_
  refine lv_iconst (v := 2) hx hb dX0_sizeOf_6 (by decide) ?_
  refine lv_iadd hx hb dX0_sizeOf_7 ?_
  refine zb_ti (nI_add (k * 5) 2) ?_
  refine va_ti hx hb hTT hS (i := nI ((k * 5) + 2)) (vp_in_nI (by omega) (by decide)) (v := .int (tT ((k * 5) + 2))) (by rw [nI_clamp (by omega)]) dX0_sizeOf_8 ?_
  refine zb_ti (tT_Z hk) ?_
  rw [hQ]
  exact W.iret (v := nI (xZ k)) hx hb hr (fun t ht hW => ⟨congrArg (fun z => Outcome.returned (some (Value.int z))) (rfl), ht⟩) (fun q h => nomatch h) dX0_sizeOf_9
set_option maxHeartbeats 4000000 in
set_option maxRecDepth 100000 in
theorem c_allows (l : Launch) (D : va_G) (a : Nat → Nat) (cA : ClassId) (N : Int32) (f : Nat → Int32) (ob : OB) (tr : TR) (nd : ND) (k : Nat) (r : Int32) (hk : k < 22) : Met l yX0_allows (wX0_allows :: wb) ({ frames := 0, cells := 0, slots := 0, locals := 0 } : Room) (va_Pc [.int (nI k), .int r] (zPu D [(cA, .int)] (cw a cA N f ob tr nd))) (zb_I (if nI (xR k) &&& r = 0 then 0 else 1)) 0 0 (fun _ => False) := by
  refine Met.ofW (cc := cX0_allows) (maxL := 2) (ret := (some .boolean)) (by decide) rfl ?_
  intro p ev s m args below meth c s₁ B hml hv
  obtain ⟨rfl, hP, hK, hSt, hnw⟩ := hv
  have hx := B.exec
  have hb := B.bytes
  have hr := B.returns
  have hts := atoms_spec (ws := wX0_allows :: wb) B.pre
  have htb : ∀ w ∈ wb, w.before ([.int (nI k), .int r]).toArray s = true := fun w h => hts w (List.mem_cons_of_mem _ h)
  have hown : s.vm.findClass RX0 = some m.cls := findClass_of_methodNamed B.named
  have hlocks := B.notSynchronized
  have hS : va_S (fun _ => False) s.heap s.heap [] := va_S.rf
  obtain ⟨⟨tt, ff, hZT, hTT, hZF, hTF⟩, hXS⟩ := id hSt
  have hl := lv_entry ([.int (nI k), .int r]) (n := 2) (Nat.le_of_ble_eq_true rfl)
  rw [lg_entry_eq]
  generalize (lg_sl ([.int (nI k), .int r]) ++ List.replicate (2 - (lg_sl ([.int (nI k), .int r])).length) Slot.unset).toArray = ls at hl ⊢
  have hl : lv_has ls 2 [(0, .int (nI k)), (1, .int r)] := hl
  refine zb_abs (fun Q hQ => ?_)
  refine va_gets hx hb hZT hS hown (htb _ kF_X0_25) (fun _ h9 => h9) dX0_allows_0 ?_
  refine lv_iload_n hx hb dX0_allows_3 rfl (lv_at hl 0 rfl) ?_
  refine lv_iconst (v := 5) hx hb dX0_allows_4 (by decide) ?_
  refine lv_imul hx hb dX0_allows_5 ?_
  refine zb_ti (pk_mul k 5) ?_
  refine lv_iconst (v := 3) hx hb dX0_allows_6 (by decide) ?_
  refine lv_iadd hx hb dX0_allows_7 ?_
  refine zb_ti (nI_add (k * 5) 3) ?_
  refine va_ti hx hb hTT hS (i := nI ((k * 5) + 3)) (vp_in_nI (by omega) (by decide)) (v := .int (tT ((k * 5) + 3))) (by rw [nI_clamp (by omega)]) dX0_allows_8 ?_
  refine zb_ti (tT_R hk) ?_
  refine lv_iload_n hx hb dX0_allows_9 rfl (lv_at hl 1 rfl) ?_
  refine lv_iand hx hb dX0_allows_10 ?_
  refine lv_if_eq (tgt := 18) hx hb dX0_allows_11 (by decide) (fun hc1 => ?_) (fun hc1 => ?_)
  · refine lv_iconst (v := 0) hx hb dX0_allows_18 (by decide) ?_
    rw [hQ]
    exact W.zret (v := 0) hx hb hr rfl (fun t ht hW => ⟨congrArg (fun z => Outcome.returned (some (Value.int z))) ((if_pos hc1).symm), ht⟩) (fun q h => nomatch h) dX0_allows_19
  refine lv_iconst (v := 1) hx hb dX0_allows_14 (by decide) ?_
  refine lv_goto (tgt := 19) hx hb dX0_allows_15 (by decide) ?_
  rw [hQ]
  exact W.zret (v := 1) hx hb hr rfl (fun t ht hW => ⟨congrArg (fun z => Outcome.returned (some (Value.int z))) ((if_neg hc1).symm), ht⟩) (fun q h => nomatch h) dX0_allows_19
set_option maxHeartbeats 4000000 in
set_option maxRecDepth 100000 in
theorem c_byteAt (l : Launch) (D : va_G) (a : Nat → Nat) (cA : ClassId) (N : Int32) (f : Nat → Int32) (ob : OB) (tr : TR) (nd : ND) (k i : Nat) (hk : k < 22) (hi : i < xZ k) : Met l yX0_byteAt (wX0_byteAt :: wb) ({ frames := 0, cells := 0, slots := 0, locals := 0 } : Room) (va_Pc [.ref (a 1), .int (nI k), .int (nI i)] (zPu D [(cA, .int)] (cw a cA N f ob tr nd))) (zb_I (f (xP k + i))) 0 0 (fun _ => False) := by
  refine Met.ofW (cc := cX0_byteAt) (maxL := 3) (ret := (some .int)) (by decide) rfl ?_
  intro p ev s m args below meth c s₁ B hml hv
  obtain ⟨rfl, hP, hK, hSt, hnw⟩ := hv
  have hx := B.exec
  have hb := B.bytes
  have hr := B.returns
  have hts := atoms_spec (ws := wX0_byteAt :: wb) B.pre
  have htb : ∀ w ∈ wb, w.before ([.ref (a 1), .int (nI k), .int (nI i)]).toArray s = true := fun w h => hts w (List.mem_cons_of_mem _ h)
  have hown : s.vm.findClass RX0 = some m.cls := findClass_of_methodNamed B.named
  have hlocks := B.notSynchronized
  have hS : va_S (fun _ => False) s.heap s.heap [] := va_S.rf
  obtain ⟨⟨tt, ff, hZT, hTT, hZF, hTF⟩, hXS⟩ := id hSt
  have hl := lv_entry ([.ref (a 1), .int (nI k), .int (nI i)]) (n := 3) (Nat.le_of_ble_eq_true rfl)
  rw [lg_entry_eq]
  generalize (lg_sl ([.ref (a 1), .int (nI k), .int (nI i)]) ++ List.replicate (3 - (lg_sl ([.ref (a 1), .int (nI k), .int (nI i)])).length) Slot.unset).toArray = ls at hl ⊢
  have hl : lv_has ls 3 [(0, .ref (a 1)), (1, .int (nI k)), (2, .int (nI i))] := hl
  refine zb_abs (fun Q hQ => ?_)
  have hft := x_fit k hk
  refine lv_aload_n hx hb dX0_byteAt_0 rfl (lv_at hl 0 rfl) ?_
  refine va_get (D := D) (ci := 0) (v := .ref (a 2)) (fs := [.ref (a 2)]) (C := RX0) (T := TX0) (N := 1) hx hb htb inX0 hown hK hP 1 rfl rfl 0 (by decide) (htb _ kF_X0_9) (fun _ h9 => h9) rfl dX0_byteAt_1 ?_
  refine va_gets hx hb hZT hS hown (htb _ kF_X0_25) (fun _ h9 => h9) dX0_byteAt_4 ?_
  refine lv_iload_n hx hb dX0_byteAt_7 rfl (lv_at hl 1 rfl) ?_
  refine lv_iconst (v := 5) hx hb dX0_byteAt_8 (by decide) ?_
  refine lv_imul hx hb dX0_byteAt_9 ?_
  refine zb_ti (pk_mul k 5) ?_
  refine lv_iconst (v := 4) hx hb dX0_byteAt_10 (by decide) ?_
  refine lv_iadd hx hb dX0_byteAt_11 ?_
  refine zb_ti (nI_add (k * 5) 4) ?_
  refine va_ti hx hb hTT hS (i := nI ((k * 5) + 4)) (vp_in_nI (by omega) (by decide)) (v := .int (tT ((k * 5) + 4))) (by rw [nI_clamp (by omega)]) dX0_byteAt_12 ?_
  refine zb_ti (tT_P hk) ?_
  refine lv_iload_n hx hb dX0_byteAt_13 rfl (lv_at hl 2 rfl) ?_
  refine lv_iadd hx hb dX0_byteAt_14 ?_
  refine zb_ti (nI_add (xP k) i) ?_
  refine va_iald (i := nI ((xP k) + i)) hx hb hK hP 2 0 rfl rfl (vp_in_nI (by omega) (by decide)) dX0_byteAt_15 ?_
  refine zb_ti (y := f ((xP k) + i)) (by rw [nI_clamp (by omega)]) ?_
  rw [hQ]
  exact W.iret (v := f ((xP k) + i)) hx hb hr (fun t ht hW => ⟨congrArg (fun z => Outcome.returned (some (Value.int z))) (rfl), ht⟩) (fun q h => nomatch h) dX0_byteAt_16
set_option maxHeartbeats 4000000 in
set_option maxRecDepth 100000 in
theorem c_find (l : Launch) (D : va_G) (a : Nat → Nat) (cA : ClassId) (N : Int32) (f : Nat → Int32) (ob : OB) (tr : TR) (nd : ND) (i sb : Int32)  : Met l yX0_find (wX0_find :: wb) ({ frames := 0, cells := 0, slots := 0, locals := 0 } : Room) (va_Pc [.ref (a 1), .int i, .int sb] (zPu D [(cA, .int)] (cw a cA N f ob tr nd))) (zb_I (oI (fd i sb))) 0 0 (fun _ => False) := by
  refine Met.ofW (cc := cX0_find) (maxL := 5) (ret := (some .int)) (by decide) rfl ?_
  intro p ev s m args below meth c s₁ B hml hv
  obtain ⟨rfl, hP, hK, hSt, hnw⟩ := hv
  have hx := B.exec
  have hb := B.bytes
  have hr := B.returns
  have hts := atoms_spec (ws := wX0_find :: wb) B.pre
  have htb : ∀ w ∈ wb, w.before ([.ref (a 1), .int i, .int sb]).toArray s = true := fun w h => hts w (List.mem_cons_of_mem _ h)
  have hown : s.vm.findClass RX0 = some m.cls := findClass_of_methodNamed B.named
  have hlocks := B.notSynchronized
  have hS : va_S (fun _ => False) s.heap s.heap [] := va_S.rf
  obtain ⟨⟨tt, ff, hZT, hTT, hZF, hTF⟩, hXS⟩ := id hSt
  have hl := lv_entry ([.ref (a 1), .int i, .int sb]) (n := 5) (Nat.le_of_ble_eq_true rfl)
  rw [lg_entry_eq]
  generalize (lg_sl ([.ref (a 1), .int i, .int sb]) ++ List.replicate (5 - (lg_sl ([.ref (a 1), .int i, .int sb])).length) Slot.unset).toArray = ls at hl ⊢
  have hl : lv_has ls 5 [(0, .ref (a 1)), (1, .int i), (2, .int sb)] := hl
  refine zb_abs (fun Q hQ => ?_)
  refine lv_iconst (v := 0) hx hb dX0_find_0 (by decide) ?_
  refine lv_istore_n hx hb dX0_find_1 rfl hl (by decide) rfl (fun ls hl => ?_)
  have hl : lv_has ls 5 [(3, .int 0), (0, .ref (a 1)), (1, .int i), (2, .int sb)] := hl
  have lp : ∀ (nn k : Nat) (ls : Array Slot), k + nn = 22 → fd i sb = fdF i sb nn k → lv_has ls 5 [(0, .ref (a 1)), (1, .int i), (2, .int sb), (3, .int (nI k))] → W p l ev ({ frames := 0, cells := 0, slots := 0, locals := 0 } : Room) s m ([.ref (a 1), .int i, .int sb]).toArray below meth c s.heap [] 0 0 Q (F0 m 2 ls []) := by
    intro nn
    induction nn with
    | zero =>
      intro k ls hk hfd hl
      obtain rfl : k = 22 := by omega
      refine lv_iload_n hx hb dX0_find_2 rfl (lv_at hl 3 rfl) ?_
      refine lv_bipush (v := 22) hx hb dX0_find_3 (by decide) ?_
      refine lv_icmp_ge (tgt := 43) hx hb dX0_find_5 (by decide) (fun _ => ?_) (fun hno => absurd (by decide) hno)
      refine lv_iconst (v := (-1)) hx hb dX0_find_43 (by decide) ?_
      rw [hQ]
      exact W.iret (v := (-1)) hx hb hr (fun t ht hW => ⟨congrArg (fun z => Outcome.returned (some (Value.int z))) (by rw [hfd]; simp only [fdF]; rfl), ht⟩) (fun q h => nomatch h) dX0_find_44
    | succ nn ih =>
      intro k ls hk hfd hl
      have hk22 : k < 22 := by omega
      refine lv_iload_n hx hb dX0_find_2 rfl (lv_at hl 3 rfl) ?_
      refine lv_bipush (v := 22) hx hb dX0_find_3 (by decide) ?_
      refine lv_icmp_ge (tgt := 43) hx hb dX0_find_5 (by decide) (fun hno => absurd hno (nI_ge (a := k) (b := 22) hk22 (by decide))) (fun _ => ?_)
      refine lv_iload_n hx hb dX0_find_8 rfl (lv_at hl 3 rfl) ?_
      refine lv_iconst (v := 5) hx hb dX0_find_9 (by decide) ?_
      refine lv_imul hx hb dX0_find_10 ?_
      refine zb_ti (pk_mul k 5) ?_
      refine lv_istore hx hb dX0_find_11 hl (by decide) rfl (fun ls hl => ?_)
      have hl : lv_has ls 5 [(4, .int (nI (k * 5))), (0, .ref (a 1)), (1, .int i), (2, .int sb), (3, .int (nI k))] := hl
      refine va_gets hx hb hZT hS hown (htb _ kF_X0_25) (fun _ h9 => h9) dX0_find_13 ?_
      refine lv_iload hx hb dX0_find_16 (lv_at hl 0 rfl) ?_
      refine va_ti hx hb hTT hS (i := nI (k * 5)) (vp_in_nI (by omega) (by decide)) (v := .int (tT (k * 5))) (by rw [nI_clamp (by omega)]) dX0_find_18 ?_
      refine zb_ti (tT_I hk22) ?_
      refine lv_iload_n hx hb dX0_find_19 rfl (lv_at hl 2 rfl) ?_
      refine lv_icmp_ne (tgt := 37) hx hb dX0_find_20 (by decide) (fun hc1 => ?_) (fun hc1 => ?_)
      · refine lv_iinc (k := 4) (v := nI (k + 1)) hx hb dX0_find_37 hl rfl (nI_1 k) (by decide) rfl (fun ls hl => ?_)
        have hl : lv_has ls 5 [(3, .int (nI (k + 1))), (4, .int (nI (k * 5))), (0, .ref (a 1)), (1, .int i), (2, .int sb)] := hl
        refine lv_goto (tgt := 2) hx hb dX0_find_40 (by decide) ?_
        exact ih (k + 1) ls (by omega) (by rw [hfd]; simp only [fdF, if_neg hc1]) (lv_sub hl [2, 3, 4, 0] rfl)
      refine va_gets hx hb hZT hS hown (htb _ kF_X0_25) (fun _ h9 => h9) dX0_find_23 ?_
      refine lv_iload hx hb dX0_find_26 (lv_at hl 0 rfl) ?_
      refine lv_iconst (v := 1) hx hb dX0_find_28 (by decide) ?_
      refine lv_iadd hx hb dX0_find_29 ?_
      refine zb_ti (nI_add (k * 5) 1) ?_
      refine va_ti hx hb hTT hS (i := nI ((k * 5) + 1)) (vp_in_nI (by omega) (by decide)) (v := .int (tT ((k * 5) + 1))) (by rw [nI_clamp (by omega)]) dX0_find_30 ?_
      refine zb_ti (tT_S hk22) ?_
      refine lv_iload_n hx hb dX0_find_31 rfl (lv_at hl 3 rfl) ?_
      refine lv_icmp_ne (tgt := 37) hx hb dX0_find_32 (by decide) (fun hc2 => ?_) (fun hc2 => ?_)
      · refine lv_iinc (k := 4) (v := nI (k + 1)) hx hb dX0_find_37 hl rfl (nI_1 k) (by decide) rfl (fun ls hl => ?_)
        have hl : lv_has ls 5 [(3, .int (nI (k + 1))), (4, .int (nI (k * 5))), (0, .ref (a 1)), (1, .int i), (2, .int sb)] := hl
        refine lv_goto (tgt := 2) hx hb dX0_find_40 (by decide) ?_
        exact ih (k + 1) ls (by omega) (by rw [hfd]; simp only [fdF, if_pos hc1, if_neg hc2]) (lv_sub hl [2, 3, 4, 0] rfl)
      refine lv_iload_n hx hb dX0_find_35 rfl (lv_at hl 4 rfl) ?_
      rw [hQ]
      exact W.iret (v := nI k) hx hb hr (fun t ht hW => ⟨congrArg (fun z => Outcome.returned (some (Value.int z))) (by rw [hfd]; simp only [fdF, if_pos hc1, if_pos hc2]; rfl), ht⟩) (fun q h => nomatch h) dX0_find_36
  exact lp 22 0 ls rfl rfl (lv_sub hl [1, 2, 3, 0] rfl)
end
section
-- a stretch of bytes grows by one; a byte of a long; a stretch is written byte by byte
theorem sm_or {f : Nat → Int32} (h : isB f) {s k : Nat} (hk : k < 8) : lN (sm f s k) ||| (f (s + k)).toInt64 <<< ((nI (8 * k)).toInt64 &&& 63) = lN (sm f s (k + 1)) := by
  obtain ⟨h1, h2⟩ := bv_of h (s + k)
  have h3 := sm_lt h s k
  have h4 := sm_lt h s (k + 1)
  have h5 : 2 ^ (8 * (k + 1)) ≤ 2 ^ 64 := Nat.pow_le_pow_right (by decide) (by omega)
  rw [h2, nI_l (by omega), wb_shl _ (by omega), g_or' rfl h3 (by simp only [sm] at h4; omega)]
  rfl
theorem and255 (n : Nat) : nI n &&& 255 = nI (n % 256) := by
  rw [pk_and (nI n) (m := 255) 8 (by decide)]
  have h : (nI n).toBitVec.toNat = n % 2 ^ 32 := by
    show (BitVec.ofNat 32 n).toNat = _
    rw [BitVec.toNat_ofNat]
  rw [h]
  congr 1
  omega
theorem put_b {x k : Nat} (hx : x < 2 ^ 64) (hk : k < 8) : ((lN x).toUInt64 >>> ((nI (8 * k)).toInt64.toUInt64 &&& Int64.toUInt64 63)).toInt64.toInt32 &&& 255 = nI (bN x k) := by
  rw [wb_shr hx (by omega), lN_i, and255]
  rfl
theorem pF_up (f : Nat → Int32) (s k x j : Nat) : upd (pF f s k x j) (s + k) (nI (bN x (j + k))) = pF f s (k + 1) x j := by
  funext z
  unfold upd pF
  by_cases h : z = s + k
  · subst h
    rw [if_pos rfl, if_pos ⟨by omega, by omega⟩]
    congr 2
    omega
  · rw [if_neg h]
    by_cases h2 : s ≤ z ∧ z < s + k
    · rw [if_pos h2, if_pos ⟨h2.1, by omega⟩]
    · rw [if_neg h2, if_neg (by omega)]
theorem pF_0 (f : Nat → Int32) (s x j : Nat) : pF f s 0 x j = f := by
  funext z
  unfold pF
  rw [if_neg (by omega)]
section ZCT
variable {p : Program} {l : Launch} {e : Env} {R : Room} {s : State} {m : MethodId} {args : Array Value} {below : List Frame} {meth : Method} {c : Code} {H : Heap} {locs : List Loc} {cells slots : Nat} {Q : State → Prop}
variable {pc : Nat} {ls : Array Slot} {rest : List Value} {D : va_G} {cl : List vw_C} {A : Nat → Prop} {a : Nat} {tys : List (ClassId × FieldType)} {ws : va_W}
/-- System.arraycopy out of a static table that nobody writes -/
theorem zb_copyT {cc : ByteArray} (hexec : p.tables.exec = Jvm.exec) (hb : c.code = cc) (hml : c.maxLocals = ls.size) {own : String} {index : Nat} (hown : s.vm.findClass own = some m.cls) (hlink : (Cond.methodLink own index arraycopyName).before args s = true) (hnat : (Cond.native arraycopyName).before args s = true) (hstat : (Cond.static arraycopyName).before args s = true) (hini : (Cond.initialized "java/lang/System").before args s = true)
    (hK : va_K D cl tys s) (hP : va_P D cl ws H) (hD : va_D A ws) (hS : va_S A s.heap H locs) {b0 n0 : Nat} {f : Nat → Int32} (hT0 : va_T .int b0 n0 (fun j => .int (f j)) A s s.heap) (q1 t1 : Nat) {c1 : ClassId} {n1 : Nat} {g : Nat → Int32} (ha1 : ws[q1]? = some (a, .inl (c1, n1, .inl g))) (ht1 : tys[t1]? = some (c1, .int))
    {k : Nat} (hk0 : k ≤ n0) (hk1 : k ≤ n1) (hk2 : k < 2 ^ 31)
    (hframes : 1 ≤ R.frames) (hlocals : (rest.map fun v => v.category).sum + (nativeFrameWords "java/lang/System" "arraycopy" 5 + 11) ≤ R.locals) (hdg : decode cc pc = .ok (.invokestatic index, 3))
    (kk : ∀ (H1 : Heap) (locs1 : List Loc), va_P D cl (ws.set q1 (a, .inl (c1, n1, .inl (va_cpy f g 0 0 k)))) H1 → va_D A (ws.set q1 (a, .inl (c1, n1, .inl (va_cpy f g 0 0 k)))) → va_S A s.heap H1 locs1 → W p l e R s m args below meth c H1 locs1 cells slots Q (F0 m (pc + 3) ls rest)) : W p l e R s m args below meth c H locs cells slots Q (F0 m pc ls (.int (nI k) :: .int 0 :: .ref a :: .int 0 :: .ref b0 :: rest)) := by
  intro T hT X
  obtain ⟨scr, t1', t2, t3, t4, -, t6, t7⟩ := hT0
  have z0 : (0 : Int32).toNatClampNeg = 0 := sb_cl0
  have zk : (nI k).toNatClampNeg = k := nI_clamp hk2
  have ik : (nI k).toInt = (k : Int) := nI_toInt hk2
  have hc0 : H[b0]? = some scr := by rw [hS.2.1 b0 (Array.getElem?_eq_some_iff.mp t1').1 t7]; exact t1'
  have hc1 : H[a]? = some (vp_cell c1 (n1, .inl g)) := hP q1 _ ha1
  obtain ⟨u1, k0, u2, cm0, u3⟩ := t2
  obtain ⟨-, k1, v1, cm1, v2⟩ := (hK.2 t1 _ ht1).1 n1 (fun j => .int (g j))
  obtain ⟨vm', X', step⟩ := X.arraycopy hexec hown hlink hnat hstat hini (src := b0) (dst := a) (cs := scr) (cd := vp_cell c1 (n1, .inl g)) (srcPos := 0) (destPos := 0) (n := nI k) (by rw [hT]; exact hc0) (by rw [hT]; exact hc1)
    u1 (fun _ h => by cases h) t3 (fun h => by cases h) u2 v1 u3 v2 (by simp [refKind]) (by decide) (by decide) (nI_pos hk2)
    (by rw [ik]; show ¬ (0 : Int) + (k : Int) > _; omega)
    (by rw [ik]; show ¬ (0 : Int) + (k : Int) > ((arrV c1 n1 (fun j => .int (g j))).slots.size : Int); rw [arrV_size]; omega)
    (fun vm₁ _ i hi => by
      rw [zk] at hi
      have e : scr.slots.getD ((0 : Int32).toNatClampNeg + i) .null = .int (f i) := by
        rw [Array.getD_eq_getD_getElem?, z0, Nat.zero_add, t6 _ (by omega)]
        rfl
      rw [e]
      exact ⟨rfl, trivial⟩)
    (g := F0 m pc ls (.int (nI k) :: .int 0 :: .ref a :: .int 0 :: .ref b0 :: rest)) rfl (by rw [hml]) (rest := rest) rfl (by rw [hb]; exact hdg) hframes (by show 2 * 0 + _ + _ ≤ _; omega)
  have e1 : copied scr (vp_cell c1 (n1, .inl g)) 0 0 (nI k) = vp_cell c1 (n1, .inl (va_cpy f g 0 0 k)) := by
    have := va_copiedX (sp := 0) (dp := 0) (n := k) (fun z => .int z) scr c1 f g (fun j hj => t6 j hj) (n1 := n1) (by omega)
    unfold copied
    rw [z0, zk]
    exact this
  rw [e1] at X' step
  have hl : a < H.size := (Array.getElem?_eq_some_iff.mp hc1).1
  have hheap : ((T.setVm vm').setCell a (vp_cell c1 (n1, .inl (va_cpy f g 0 0 k)))).heap = H.setIfInBounds a (vp_cell c1 (n1, .inl (va_cpy f g 0 0 k))) := by rw [← hT]; rfl
  have oq : ∀ q : Nat, q ≠ a → (H.setIfInBounds a (vp_cell c1 (n1, .inl (va_cpy f g 0 0 k))))[q]? = H[q]? := fun q hq => by simp [Array.getElem?_setIfInBounds, Ne.symm hq]
  obtain ⟨t, a1, b1⟩ := kk _ _ (hP.set hD ha1 (show (H.setIfInBounds a _)[a]? = some _ by simp [Array.getElem?_setIfInBounds, hl]) oq) (hD.set ha1) ⟨by simp; exact hS.1, fun q g1 g2 => by
      rw [oq q (fun e => g2 (by rw [e]; exact hD.2 q1 _ ha1))]
      exact hS.2.1 q g1 g2, fun q hq => by
      rcases List.mem_append.mp hq with h | h
      · exact hS.2.2 q h
      · obtain ⟨z, -, hz⟩ := List.mem_map.mp h
        rw [← hz]
        exact hD.2 q1 _ ha1⟩ _ hheap X'
  exact ⟨t, step t a1, b1⟩
end ZCT
end
section
set_option maxHeartbeats 4000000 in
set_option maxRecDepth 100000 in
theorem c_hasIndex (l : Launch) (D : va_G) (a : Nat → Nat) (cA : ClassId) (N : Int32) (f : Nat → Int32) (ob : OB) (tr : TR) (nd : ND) (i : Int32)  : Met l yX0_hasIndex (wX0_hasIndex :: wb) ({ frames := 0, cells := 0, slots := 0, locals := 0 } : Room) (va_Pc [.ref (a 1), .int i] (zPu D [(cA, .int)] (cw a cA N f ob tr nd))) (zb_I (if hi i = true then 1 else 0)) 0 0 (fun _ => False) := by
  refine Met.ofW (cc := cX0_hasIndex) (maxL := 3) (ret := (some .boolean)) (by decide) rfl ?_
  intro p ev s m args below meth c s₁ B hml hv
  obtain ⟨rfl, hP, hK, hSt, hnw⟩ := hv
  have hx := B.exec
  have hb := B.bytes
  have hr := B.returns
  have hts := atoms_spec (ws := wX0_hasIndex :: wb) B.pre
  have htb : ∀ w ∈ wb, w.before ([.ref (a 1), .int i]).toArray s = true := fun w h => hts w (List.mem_cons_of_mem _ h)
  have hown : s.vm.findClass RX0 = some m.cls := findClass_of_methodNamed B.named
  have hlocks := B.notSynchronized
  have hS : va_S (fun _ => False) s.heap s.heap [] := va_S.rf
  obtain ⟨⟨tt, ff, hZT, hTT, hZF, hTF⟩, hXS⟩ := id hSt
  have hl := lv_entry ([.ref (a 1), .int i]) (n := 3) (Nat.le_of_ble_eq_true rfl)
  rw [lg_entry_eq]
  generalize (lg_sl ([.ref (a 1), .int i]) ++ List.replicate (3 - (lg_sl ([.ref (a 1), .int i])).length) Slot.unset).toArray = ls at hl ⊢
  have hl : lv_has ls 3 [(0, .ref (a 1)), (1, .int i)] := hl
  refine zb_abs (fun Q hQ => ?_)
  refine lv_iconst (v := 0) hx hb dX0_hasIndex_0 (by decide) ?_
  refine lv_istore_n hx hb dX0_hasIndex_1 rfl hl (by decide) rfl (fun ls hl => ?_)
  have hl : lv_has ls 3 [(2, .int 0), (0, .ref (a 1)), (1, .int i)] := hl
  have lp : ∀ (nn k : Nat) (ls : Array Slot), k + nn = 22 → (hi i = hiF i nn k) → lv_has ls 3 [(0, .ref (a 1)), (1, .int i), (2, .int (nI (k)))] → W p l ev ({ frames := 0, cells := 0, slots := 0, locals := 0 } : Room) s m ([.ref (a 1), .int i]).toArray below meth c s.heap [] 0 0 Q (F0 m 2 ls []) := by
    intro nn
    induction nn with
    | zero =>
      intro k ls hk_lp hfd hl
      have hk0_lp : k = 22 := by omega
      refine lv_iload_n hx hb dX0_hasIndex_2 rfl (lv_at hl 2 rfl) ?_
      refine lv_bipush (v := 22) hx hb dX0_hasIndex_3 (by decide) ?_
      refine lv_icmp_ge (tgt := 27) hx hb dX0_hasIndex_5 (by decide) (fun _ => ?_) (fun hno => absurd (by rw [hk0_lp]; decide) hno)
      refine lv_iconst (v := 0) hx hb dX0_hasIndex_27 (by decide) ?_
      rw [hQ]
      exact W.zret (v := 0) hx hb hr rfl (fun t ht hW => ⟨congrArg (fun z => Outcome.returned (some (Value.int z))) (by rw [hfd]; simp only [hiF]; rfl), ht⟩) (fun q h => nomatch h) dX0_hasIndex_28
    | succ nn ih_lp =>
      intro k ls hk_lp hfd hl
      have hk1_lp : k < 22 := by omega
      refine lv_iload_n hx hb dX0_hasIndex_2 rfl (lv_at hl 2 rfl) ?_
      refine lv_bipush (v := 22) hx hb dX0_hasIndex_3 (by decide) ?_
      refine lv_icmp_ge (tgt := 27) hx hb dX0_hasIndex_5 (by decide) (fun hno => absurd hno (nI_ge (a := k) (b := 22) hk1_lp (by decide))) (fun _ => ?_)
      refine va_gets hx hb hZT hS hown (htb _ kF_X0_25) (fun _ h9 => h9) dX0_hasIndex_8 ?_
      refine lv_iload_n hx hb dX0_hasIndex_11 rfl (lv_at hl 2 rfl) ?_
      refine lv_iconst (v := 5) hx hb dX0_hasIndex_12 (by decide) ?_
      refine lv_imul hx hb dX0_hasIndex_13 ?_
      refine zb_ti (pk_mul (k) 5) ?_
      refine va_ti hx hb hTT hS (i := nI ((k) * 5)) (vp_in_nI (by omega) (by decide)) (v := .int (tT ((k) * 5))) (by rw [nI_clamp (by omega)]) dX0_hasIndex_14 ?_
      refine zb_ti (tT_I hk1_lp) ?_
      refine lv_iload_n hx hb dX0_hasIndex_15 rfl (lv_at hl 1 rfl) ?_
      refine lv_icmp_ne (tgt := 21) hx hb dX0_hasIndex_16 (by decide) (fun hc1 => ?_) (fun hc1 => ?_)
      · refine lv_iinc (k := 2) (v := nI ((k) + 1)) hx hb dX0_hasIndex_21 hl rfl (nI_1 (k)) (by decide) rfl (fun ls hl => ?_)
        have hl : lv_has ls 3 [(2, .int (nI ((k) + 1))), (0, .ref (a 1)), (1, .int i)] := hl
        refine lv_goto (tgt := 2) hx hb dX0_hasIndex_24 (by decide) ?_
        exact ih_lp (k + 1) ls (by omega) (by rw [hfd]; simp only [hiF, if_neg hc1]) (lv_sub hl [1, 2, 0] rfl)
      refine lv_iconst (v := 1) hx hb dX0_hasIndex_19 (by decide) ?_
      rw [hQ]
      exact W.zret (v := 1) hx hb hr rfl (fun t ht hW => ⟨congrArg (fun z => Outcome.returned (some (Value.int z))) (by rw [hfd]; simp only [hiF, if_pos hc1]; rfl), ht⟩) (fun q h => nomatch h) dX0_hasIndex_20
  exact lp (22 - 0) (0) ls (by omega) (rfl) (lv_sub hl [1, 2, 0] rfl)
set_option maxHeartbeats 4000000 in
set_option maxRecDepth 100000 in
theorem c_named (l : Launch) (D : va_G) (a : Nat → Nat) (cA : ClassId) (N : Int32) (f : Nat → Int32) (ob : OB) (tr : TR) (nd : ND) (nm : Int32) (r : Nat) (hr8 : r < 8) : Met l yX0_named (wX0_named :: wb) ({ frames := 0, cells := 0, slots := 0, locals := 0 } : Room) (va_Pc [.ref (a 1), .int nm, .int (nI r)] (zPu D [(cA, .int)] (cw a cA N f ob tr nd))) (zb_I (oI (mp nm r))) 0 0 (fun _ => False) := by
  refine Met.ofW (cc := cX0_named) (maxL := 6) (ret := (some .int)) (by decide) rfl ?_
  intro p ev s m args below meth c s₁ B hml hv
  obtain ⟨rfl, hP, hK, hSt, hnw⟩ := hv
  have hx := B.exec
  have hb := B.bytes
  have hr := B.returns
  have hts := atoms_spec (ws := wX0_named :: wb) B.pre
  have htb : ∀ w ∈ wb, w.before ([.ref (a 1), .int nm, .int (nI r)]).toArray s = true := fun w h => hts w (List.mem_cons_of_mem _ h)
  have hown : s.vm.findClass RX0 = some m.cls := findClass_of_methodNamed B.named
  have hlocks := B.notSynchronized
  have hS : va_S (fun _ => False) s.heap s.heap [] := va_S.rf
  obtain ⟨⟨tt, ff, hZT, hTT, hZF, hTF⟩, hXS⟩ := id hSt
  have hl := lv_entry ([.ref (a 1), .int nm, .int (nI r)]) (n := 6) (Nat.le_of_ble_eq_true rfl)
  rw [lg_entry_eq]
  generalize (lg_sl ([.ref (a 1), .int nm, .int (nI r)]) ++ List.replicate (6 - (lg_sl ([.ref (a 1), .int nm, .int (nI r)])).length) Slot.unset).toArray = ls at hl ⊢
  have hl : lv_has ls 6 [(0, .ref (a 1)), (1, .int nm), (2, .int (nI r))] := hl
  refine zb_abs (fun Q hQ => ?_)
  refine lv_iconst (v := 0) hx hb dX0_named_0 (by decide) ?_
  refine lv_istore_n hx hb dX0_named_1 rfl hl (by decide) rfl (fun ls hl => ?_)
  have hl : lv_has ls 6 [(3, .int 0), (0, .ref (a 1)), (1, .int nm), (2, .int (nI r))] := hl
  have lp : ∀ (nn k : Nat) (ls : Array Slot), k + nn = 22 → (mp nm r = mpF nm r nn k) → lv_has ls 6 [(0, .ref (a 1)), (1, .int nm), (2, .int (nI r)), (3, .int (nI (k)))] → W p l ev ({ frames := 0, cells := 0, slots := 0, locals := 0 } : Room) s m ([.ref (a 1), .int nm, .int (nI r)]).toArray below meth c s.heap [] 0 0 Q (F0 m 2 ls []) := by
    intro nn
    induction nn with
    | zero =>
      intro k ls hk_lp hfd hl
      have hk0_lp : k = 22 := by omega
      refine lv_iload_n hx hb dX0_named_2 rfl (lv_at hl 3 rfl) ?_
      refine lv_bipush (v := 22) hx hb dX0_named_3 (by decide) ?_
      refine lv_icmp_ge (tgt := 81) hx hb dX0_named_5 (by decide) (fun _ => ?_) (fun hno => absurd (by rw [hk0_lp]; decide) hno)
      refine lv_iconst (v := (-1)) hx hb dX0_named_81 (by decide) ?_
      rw [hQ]
      exact W.iret (v := (-1)) hx hb hr (fun t ht hW => ⟨congrArg (fun z => Outcome.returned (some (Value.int z))) (by rw [hfd]; simp only [mpF]; rfl), ht⟩) (fun q h => nomatch h) dX0_named_82
    | succ nn ih_lp =>
      intro k ls hk_lp hfd hl
      have hk1_lp : k < 22 := by omega
      refine lv_iload_n hx hb dX0_named_2 rfl (lv_at hl 3 rfl) ?_
      refine lv_bipush (v := 22) hx hb dX0_named_3 (by decide) ?_
      refine lv_icmp_ge (tgt := 81) hx hb dX0_named_5 (by decide) (fun hno => absurd hno (nI_ge (a := k) (b := 22) hk1_lp (by decide))) (fun _ => ?_)
      refine lv_iload_n hx hb dX0_named_8 rfl (lv_at hl 3 rfl) ?_
      refine lv_iconst (v := 5) hx hb dX0_named_9 (by decide) ?_
      have hft := x_fit k hk1_lp
      refine lv_imul hx hb dX0_named_10 ?_
      refine zb_ti (pk_mul (k) 5) ?_
      refine lv_istore hx hb dX0_named_11 hl (by decide) rfl (fun ls hl => ?_)
      have hl : lv_has ls 6 [(4, .int (nI ((k) * 5))), (0, .ref (a 1)), (1, .int nm), (2, .int (nI r)), (3, .int (nI (k)))] := hl
      refine va_gets hx hb hZT hS hown (htb _ kF_X0_25) (fun _ h9 => h9) dX0_named_13 ?_
      refine lv_iload hx hb dX0_named_16 (lv_at hl 0 rfl) ?_
      refine va_ti hx hb hTT hS (i := nI ((k) * 5)) (vp_in_nI (by omega) (by decide)) (v := .int (tT ((k) * 5))) (by rw [nI_clamp (by omega)]) dX0_named_18 ?_
      refine zb_ti (tT_I hk1_lp) ?_
      refine lv_ldc (v := 65536) hx hb hown (htb _ kK_X0_28) dX0_named_19 ?_
      refine lv_imul hx hb dX0_named_21 ?_
      refine zb_ti (pk_mul (xI k) 65536) ?_
      refine va_gets hx hb hZT hS hown (htb _ kF_X0_25) (fun _ h9 => h9) dX0_named_22 ?_
      refine lv_iload hx hb dX0_named_25 (lv_at hl 0 rfl) ?_
      refine lv_iconst (v := 1) hx hb dX0_named_27 (by decide) ?_
      refine lv_iadd hx hb dX0_named_28 ?_
      refine zb_ti (nI_add ((k) * 5) 1) ?_
      refine va_ti hx hb hTT hS (i := nI (((k) * 5) + 1)) (vp_in_nI (by omega) (by decide)) (v := .int (tT (((k) * 5) + 1))) (by rw [nI_clamp (by omega)]) dX0_named_29 ?_
      refine zb_ti (tT_S hk1_lp) ?_
      refine lv_sipush (v := 256) hx hb dX0_named_30 (by decide) ?_
      refine lv_imul hx hb dX0_named_33 ?_
      refine zb_ti (pk_mul (xS k) 256) ?_
      refine lv_iadd hx hb dX0_named_34 ?_
      refine zb_ti (nI_add ((xI k) * 65536) ((xS k) * 256)) ?_
      refine lv_bipush (v := 8) hx hb dX0_named_35 (by decide) ?_
      refine va_gets hx hb hZT hS hown (htb _ kF_X0_25) (fun _ h9 => h9) dX0_named_37 ?_
      refine lv_iload hx hb dX0_named_40 (lv_at hl 0 rfl) ?_
      refine lv_iconst (v := 2) hx hb dX0_named_42 (by decide) ?_
      refine lv_iadd hx hb dX0_named_43 ?_
      refine zb_ti (nI_add ((k) * 5) 2) ?_
      refine va_ti hx hb hTT hS (i := nI (((k) * 5) + 2)) (vp_in_nI (by omega) (by decide)) (v := .int (tT (((k) * 5) + 2))) (by rw [nI_clamp (by omega)]) dX0_named_44 ?_
      refine zb_ti (tT_Z hk1_lp) ?_
      refine lv_imul hx hb dX0_named_45 ?_
      refine zb_ti (pk_mul 8 (xZ k)) ?_
      refine lv_iadd hx hb dX0_named_46 ?_
      refine zb_ti (nI_add (((xI k) * 65536) + ((xS k) * 256)) (8 * (xZ k))) ?_
      refine zb_ti (y := nI (xKey k)) (rfl) ?_
      refine lv_istore hx hb dX0_named_47 hl (by decide) rfl (fun ls hl => ?_)
      have hl : lv_has ls 6 [(5, .int (nI (xKey k))), (4, .int (nI ((k) * 5))), (0, .ref (a 1)), (1, .int nm), (2, .int (nI r)), (3, .int (nI (k)))] := hl
      refine lv_iload hx hb dX0_named_49 (lv_at hl 0 rfl) ?_
      refine lv_iload_n hx hb dX0_named_51 rfl (lv_at hl 3 rfl) ?_
      refine lv_icmp_ne (tgt := 75) hx hb dX0_named_52 (by decide) (fun hc1 => ?_) (fun hc1 => ?_)
      · refine lv_iinc (k := 5) (v := nI ((k) + 1)) hx hb dX0_named_75 hl rfl (nI_1 (k)) (by decide) rfl (fun ls hl => ?_)
        have hl : lv_has ls 6 [(3, .int (nI ((k) + 1))), (5, .int (nI (xKey k))), (4, .int (nI ((k) * 5))), (0, .ref (a 1)), (1, .int nm), (2, .int (nI r))] := hl
        refine lv_goto (tgt := 2) hx hb dX0_named_78 (by decide) ?_
        exact ih_lp (k + 1) ls (by omega) (by rw [hfd]; simp only [mpF, if_neg hc1]) (lv_sub hl [3, 4, 5, 0] rfl)
      refine va_gets hx hb hZT hS hown (htb _ kF_X0_25) (fun _ h9 => h9) dX0_named_55 ?_
      refine lv_iload hx hb dX0_named_58 (lv_at hl 1 rfl) ?_
      refine lv_iconst (v := 3) hx hb dX0_named_60 (by decide) ?_
      refine lv_iadd hx hb dX0_named_61 ?_
      refine zb_ti (nI_add ((k) * 5) 3) ?_
      refine va_ti hx hb hTT hS (i := nI (((k) * 5) + 3)) (vp_in_nI (by omega) (by decide)) (v := .int (tT (((k) * 5) + 3))) (by rw [nI_clamp (by omega)]) dX0_named_62 ?_
      refine zb_ti (tT_R hk1_lp) ?_
      refine lv_iload_n hx hb dX0_named_63 rfl (lv_at hl 4 rfl) ?_
      refine lv_iand hx hb dX0_named_64 ?_
      refine zb_ti (y := nI (xR k &&& r)) (nx_and _ _) ?_
      refine lv_iload_n hx hb dX0_named_65 rfl (lv_at hl 4 rfl) ?_
      refine lv_icmp_ne (tgt := 73) hx hb dX0_named_66 (by decide) (fun hc2 => ?_) (fun hc2 => ?_)
      · refine lv_iconst (v := (-1)) hx hb dX0_named_73 (by decide) ?_
        rw [hQ]
        exact W.iret (v := (-1)) hx hb hr (fun t ht hW => ⟨congrArg (fun z => Outcome.returned (some (Value.int z))) (by rw [hfd]; simp only [mpF, if_pos hc1, if_neg (fun h : xR k &&& r = r => hc2 (by rw [h]))]; rfl), ht⟩) (fun q h => nomatch h) dX0_named_74
      refine lv_iload_n hx hb dX0_named_69 rfl (lv_at hl 5 rfl) ?_
      refine lv_goto (tgt := 74) hx hb dX0_named_70 (by decide) ?_
      rw [hQ]
      exact W.iret (v := nI (k)) hx hb hr (fun t ht hW => ⟨congrArg (fun z => Outcome.returned (some (Value.int z))) (by rw [hfd]; simp only [mpF, if_pos hc1, if_pos ((nI_eq (by have := Nat.and_le_left (n := xR k) (m := r); omega) (by omega)).mp hc2)]; rfl), ht⟩) (fun q h => nomatch h) dX0_named_74
  exact lp (22 - 0) (0) ls (by omega) (rfl) (lv_sub hl [1, 2, 3, 0] rfl)
set_option maxHeartbeats 4000000 in
set_option maxRecDepth 100000 in
theorem c_part (l : Launch) (D : va_G) (a : Nat → Nat) (cA : ClassId) (N : Int32) (f : Nat → Int32) (ob : OB) (tr : TR) (nd : ND) (k0 fr cn : Nat) (hB : isB f) (hk0 : k0 < 22) (hfc : fr + cn ≤ xZ k0) (hc8 : cn ≤ 8) : Met l yX0_part (wX0_part :: wb) ({ frames := 0, cells := 0, slots := 0, locals := 0 } : Room) (va_Pc [.ref (a 1), .int (nI k0), .int (nI fr), .int (nI cn)] (zPu D [(cA, .int)] (cw a cA N f ob tr nd))) (zb_L (lN (sm f (xP k0 + fr) cn))) 0 0 (fun _ => False) := by
  refine Met.ofW (cc := cX0_part) (maxL := 8) (ret := (some .long)) (by decide) rfl ?_
  intro p ev s m args below meth c s₁ B hml hv
  obtain ⟨rfl, hP, hK, hSt, hnw⟩ := hv
  have hx := B.exec
  have hb := B.bytes
  have hr := B.returns
  have hts := atoms_spec (ws := wX0_part :: wb) B.pre
  have htb : ∀ w ∈ wb, w.before ([.ref (a 1), .int (nI k0), .int (nI fr), .int (nI cn)]).toArray s = true := fun w h => hts w (List.mem_cons_of_mem _ h)
  have hown : s.vm.findClass RX0 = some m.cls := findClass_of_methodNamed B.named
  have hlocks := B.notSynchronized
  have hS : va_S (fun _ => False) s.heap s.heap [] := va_S.rf
  obtain ⟨⟨tt, ff, hZT, hTT, hZF, hTF⟩, hXS⟩ := id hSt
  have hl := lv_entry ([.ref (a 1), .int (nI k0), .int (nI fr), .int (nI cn)]) (n := 8) (Nat.le_of_ble_eq_true rfl)
  rw [lg_entry_eq]
  generalize (lg_sl ([.ref (a 1), .int (nI k0), .int (nI fr), .int (nI cn)]) ++ List.replicate (8 - (lg_sl ([.ref (a 1), .int (nI k0), .int (nI fr), .int (nI cn)])).length) Slot.unset).toArray = ls at hl ⊢
  have hl : lv_has ls 8 [(0, .ref (a 1)), (1, .int (nI k0)), (2, .int (nI fr)), (3, .int (nI cn))] := hl
  refine zb_abs (fun Q hQ => ?_)
  have hft := x_fit k0 hk0
  refine va_gets hx hb hZT hS hown (htb _ kF_X0_25) (fun _ h9 => h9) dX0_part_0 ?_
  refine lv_iload_n hx hb dX0_part_3 rfl (lv_at hl 1 rfl) ?_
  refine lv_iconst (v := 5) hx hb dX0_part_4 (by decide) ?_
  refine lv_imul hx hb dX0_part_5 ?_
  refine zb_ti (pk_mul k0 5) ?_
  refine lv_iconst (v := 4) hx hb dX0_part_6 (by decide) ?_
  refine lv_iadd hx hb dX0_part_7 ?_
  refine zb_ti (nI_add (k0 * 5) 4) ?_
  refine va_ti hx hb hTT hS (i := nI ((k0 * 5) + 4)) (vp_in_nI (by omega) (by decide)) (v := .int (tT ((k0 * 5) + 4))) (by rw [nI_clamp (by omega)]) dX0_part_8 ?_
  refine zb_ti (tT_P hk0) ?_
  refine lv_iload_n hx hb dX0_part_9 rfl (lv_at hl 2 rfl) ?_
  refine lv_iadd hx hb dX0_part_10 ?_
  refine zb_ti (nI_add (xP k0) fr) ?_
  refine lv_istore hx hb dX0_part_11 hl (by decide) rfl (fun ls hl => ?_)
  have hl : lv_has ls 8 [(4, .int (nI ((xP k0) + fr))), (0, .ref (a 1)), (1, .int (nI k0)), (2, .int (nI fr)), (3, .int (nI cn))] := hl
  refine lv_lconst (v := 0) hx hb dX0_part_13 (by decide) ?_
  refine lv_lstore hx hb dX0_part_14 hl (by decide) rfl (fun ls hl => ?_)
  have hl : lv_has ls 8 [(5, .long 0), (4, .int (nI ((xP k0) + fr))), (0, .ref (a 1)), (1, .int (nI k0)), (2, .int (nI fr)), (3, .int (nI cn))] := hl
  refine lv_iconst (v := 0) hx hb dX0_part_16 (by decide) ?_
  refine lv_istore hx hb dX0_part_17 hl (by decide) rfl (fun ls hl => ?_)
  have hl : lv_has ls 8 [(7, .int 0), (5, .long 0), (4, .int (nI ((xP k0) + fr))), (0, .ref (a 1)), (1, .int (nI k0)), (2, .int (nI fr)), (3, .int (nI cn))] := hl
  have lp : ∀ (nn k : Nat) (ls : Array Slot), k + nn = cn → lv_has ls 8 [(0, .ref (a 1)), (3, .int (nI cn)), (4, .int (nI (xP k0 + fr))), (5, .long (lN (sm f (xP k0 + fr) (k)))), (7, .int (nI (k)))] → W p l ev ({ frames := 0, cells := 0, slots := 0, locals := 0 } : Room) s m ([.ref (a 1), .int (nI k0), .int (nI fr), .int (nI cn)]).toArray below meth c s.heap [] 0 0 Q (F0 m 19 ls []) := by
    intro nn
    induction nn with
    | zero =>
      intro k ls hk_lp  hl
      have hk0_lp : k = cn := by omega
      refine lv_iload hx hb dX0_part_19 (lv_at hl 4 rfl) ?_
      refine lv_iload_n hx hb dX0_part_21 rfl (lv_at hl 1 rfl) ?_
      refine lv_icmp_ge (tgt := 53) hx hb dX0_part_22 (by decide) (fun _ => ?_) (fun hno => absurd (by rw [hk0_lp]; exact nI_le (Nat.le_refl _) (by omega)) hno)
      refine lv_lload hx hb dX0_part_53 (lv_at hl 3 rfl) ?_
      rw [hQ]
      exact W.lret (v := lN (sm f (xP k0 + fr) (k))) hx hb hr (fun t ht hW => ⟨congrArg (fun z => Outcome.returned (some (Value.long z))) (by rw [hk0_lp]), ht⟩) (fun q h => nomatch h) dX0_part_55
    | succ nn ih_lp =>
      intro k ls hk_lp  hl
      have hk1_lp : k < cn := by omega
      refine lv_iload hx hb dX0_part_19 (lv_at hl 4 rfl) ?_
      refine lv_iload_n hx hb dX0_part_21 rfl (lv_at hl 1 rfl) ?_
      refine lv_icmp_ge (tgt := 53) hx hb dX0_part_22 (by decide) (fun hno => absurd hno (nI_ge (a := k) (b := cn) hk1_lp (by omega))) (fun _ => ?_)
      refine lv_lload hx hb dX0_part_25 (lv_at hl 3 rfl) ?_
      refine lv_aload_n hx hb dX0_part_27 rfl (lv_at hl 0 rfl) ?_
      refine va_get (D := D) (ci := 0) (v := .ref (a 2)) (fs := [.ref (a 2)]) (C := RX0) (T := TX0) (N := 1) hx hb htb inX0 hown hK hP 1 rfl rfl 0 (by decide) (htb _ kF_X0_9) (fun _ h9 => h9) rfl dX0_part_28 ?_
      refine lv_iload hx hb dX0_part_31 (lv_at hl 2 rfl) ?_
      refine lv_iload hx hb dX0_part_33 (lv_at hl 4 rfl) ?_
      refine lv_iadd hx hb dX0_part_35 ?_
      refine zb_ti (nI_add (xP k0 + fr) (k)) ?_
      refine va_iald (i := nI ((xP k0 + fr) + (k))) hx hb hK hP 2 0 rfl rfl (vp_in_nI (by omega) (by decide)) dX0_part_36 ?_
      refine zb_ti (y := f ((xP k0 + fr) + (k))) (by rw [nI_clamp (by omega)]) ?_
      refine lv_i2l hx hb dX0_part_37 rfl ?_
      refine lv_bipush (v := 8) hx hb dX0_part_38 (by decide) ?_
      refine lv_iload hx hb dX0_part_40 (lv_at hl 4 rfl) ?_
      refine lv_imul hx hb dX0_part_42 ?_
      refine zb_ti (pk_mul 8 (k)) ?_
      refine lv_lshl hx hb dX0_part_43 rfl ?_
      refine lv_lor hx hb dX0_part_44 ?_
      refine zb_tl (y := lN (sm f (xP k0 + fr) (k + 1))) (sm_or hB (by omega)) ?_
      refine lv_lstore hx hb dX0_part_45 hl (by decide) rfl (fun ls hl => ?_)
      have hl : lv_has ls 8 [(5, .long (lN (sm f (xP k0 + fr) (k + 1)))), (0, .ref (a 1)), (3, .int (nI cn)), (4, .int (nI (xP k0 + fr))), (7, .int (nI (k)))] := hl
      refine lv_iinc (k := 4) (v := nI ((k) + 1)) hx hb dX0_part_47 hl rfl (nI_1 (k)) (by decide) rfl (fun ls hl => ?_)
      have hl : lv_has ls 8 [(7, .int (nI ((k) + 1))), (5, .long (lN (sm f (xP k0 + fr) (k + 1)))), (0, .ref (a 1)), (3, .int (nI cn)), (4, .int (nI (xP k0 + fr)))] := hl
      refine lv_goto (tgt := 19) hx hb dX0_part_50 (by decide) ?_
      exact ih_lp (k + 1) ls (by omega) (lv_sub hl [2, 3, 4, 1, 0] rfl)
  exact lp (cn - 0) (0) ls (by omega) (lv_sub hl [3, 6, 2, 1, 0] rfl)
set_option maxHeartbeats 4000000 in
set_option maxRecDepth 100000 in
theorem c_put (l : Launch) (D : va_G) (a : Nat → Nat) (cA : ClassId) (N : Int32) (f : Nat → Int32) (ob : OB) (tr : TR) (nd : ND) (sz : Nat) (k0 x : Nat) (hk0 : k0 < 22) (hz8 : xZ k0 ≤ 8) (hx64 : x < 2 ^ 64) : Met l yX0_put (wX0_put :: wb) ({ frames := 0, cells := 0, slots := 0, locals := 0 } : Room) (va_Pc [.ref (a 1), .int (nI k0), .long (lN x)] (zPre D [(cA, .int)] (cw a cA N f ob tr nd) sz)) (zb_Vv D vwCl (cw a cA N (pF f (xP k0) (xZ k0) x 0) ob tr nd) (va_A (cw a cA N f ob tr nd) sz)) 0 0 (va_A (cw a cA N f ob tr nd) sz) := by
  refine Met.ofW (cc := cX0_put) (maxL := 7) (ret := none) (by decide) rfl ?_
  intro p ev s m args below meth c s₁ B hml hv
  obtain ⟨rfl, hsz, hP, hK, hD0, hSt, hnw⟩ := hv
  have hx := B.exec
  have hb := B.bytes
  have hr := B.returns
  have hts := atoms_spec (ws := wX0_put :: wb) B.pre
  have htb : ∀ w ∈ wb, w.before ([.ref (a 1), .int (nI k0), .long (lN x)]).toArray s = true := fun w h => hts w (List.mem_cons_of_mem _ h)
  have hown : s.vm.findClass RX0 = some m.cls := findClass_of_methodNamed B.named
  have hlocks := B.notSynchronized
  subst hsz
  have hD := hD0.self (sz := s.heap.size)
  clear hD0
  generalize hAe : va_A (cw a cA N f ob tr nd) s.heap.size = A at hD hSt ⊢
  have hA : ∀ q : Nat, s.heap.size ≤ q → A q := fun q h => by rw [← hAe]; exact Or.inr h
  have hS : va_S A s.heap s.heap [] := va_S.rf
  obtain ⟨⟨tt, ff, hZT, hTT, hZF, hTF⟩, hXS⟩ := id hSt
  have hl := lv_entry ([.ref (a 1), .int (nI k0), .long (lN x)]) (n := 7) (Nat.le_of_ble_eq_true rfl)
  rw [lg_entry_eq]
  generalize (lg_sl ([.ref (a 1), .int (nI k0), .long (lN x)]) ++ List.replicate (7 - (lg_sl ([.ref (a 1), .int (nI k0), .long (lN x)])).length) Slot.unset).toArray = ls at hl ⊢
  have hl : lv_has ls 7 [(0, .ref (a 1)), (1, .int (nI k0)), (2, .long (lN x))] := hl
  refine zb_abs (fun Q hQ => ?_)
  have hft := x_fit k0 hk0
  refine va_gets hx hb hZT hS hown (htb _ kF_X0_25) (fun _ h9 => h9) dX0_put_0 ?_
  refine lv_iload_n hx hb dX0_put_3 rfl (lv_at hl 1 rfl) ?_
  refine lv_iconst (v := 5) hx hb dX0_put_4 (by decide) ?_
  refine lv_imul hx hb dX0_put_5 ?_
  refine zb_ti (pk_mul k0 5) ?_
  refine lv_iconst (v := 4) hx hb dX0_put_6 (by decide) ?_
  refine lv_iadd hx hb dX0_put_7 ?_
  refine zb_ti (nI_add (k0 * 5) 4) ?_
  refine va_ti hx hb hTT hS (i := nI ((k0 * 5) + 4)) (vp_in_nI (by omega) (by decide)) (v := .int (tT ((k0 * 5) + 4))) (by rw [nI_clamp (by omega)]) dX0_put_8 ?_
  refine zb_ti (tT_P hk0) ?_
  refine lv_istore hx hb dX0_put_9 hl (by decide) rfl (fun ls hl => ?_)
  have hl : lv_has ls 7 [(4, .int (nI (xP k0))), (0, .ref (a 1)), (1, .int (nI k0)), (2, .long (lN x))] := hl
  refine va_gets hx hb hZT hS hown (htb _ kF_X0_25) (fun _ h9 => h9) dX0_put_11 ?_
  refine lv_iload_n hx hb dX0_put_14 rfl (lv_at hl 2 rfl) ?_
  refine lv_iconst (v := 5) hx hb dX0_put_15 (by decide) ?_
  refine lv_imul hx hb dX0_put_16 ?_
  refine zb_ti (pk_mul k0 5) ?_
  refine lv_iconst (v := 2) hx hb dX0_put_17 (by decide) ?_
  refine lv_iadd hx hb dX0_put_18 ?_
  refine zb_ti (nI_add (k0 * 5) 2) ?_
  refine va_ti hx hb hTT hS (i := nI ((k0 * 5) + 2)) (vp_in_nI (by omega) (by decide)) (v := .int (tT ((k0 * 5) + 2))) (by rw [nI_clamp (by omega)]) dX0_put_19 ?_
  refine zb_ti (tT_Z hk0) ?_
  refine lv_istore hx hb dX0_put_20 hl (by decide) rfl (fun ls hl => ?_)
  have hl : lv_has ls 7 [(5, .int (nI (xZ k0))), (4, .int (nI (xP k0))), (0, .ref (a 1)), (1, .int (nI k0)), (2, .long (lN x))] := hl
  refine lv_iconst (v := 0) hx hb dX0_put_22 (by decide) ?_
  refine lv_istore hx hb dX0_put_23 hl (by decide) rfl (fun ls hl => ?_)
  have hl : lv_has ls 7 [(6, .int 0), (5, .int (nI (xZ k0))), (4, .int (nI (xP k0))), (0, .ref (a 1)), (1, .int (nI k0)), (2, .long (lN x))] := hl
  rw [← pF_0 f (xP k0) x 0] at hP hD
  have lp : ∀ (nn k : Nat) (ls : Array Slot) (H : Heap) (locs : List Loc), va_P D vwCl (cw a cA N (pF f (xP k0) (k) x 0) ob tr nd) H → va_D A (cw a cA N (pF f (xP k0) (k) x 0) ob tr nd) → va_S A s.heap H locs → k + nn = xZ k0 → lv_has ls 7 [(0, .ref (a 1)), (2, .long (lN x)), (4, .int (nI (xP k0))), (5, .int (nI (xZ k0))), (6, .int (nI (k)))] → W p l ev ({ frames := 0, cells := 0, slots := 0, locals := 0 } : Room) s m ([.ref (a 1), .int (nI k0), .long (lN x)]).toArray below meth c H locs 0 0 Q (F0 m 25 ls []) := by
    intro nn
    induction nn with
    | zero =>
      intro k ls H locs hP hD hS hk_lp  hl
      have hk0_lp : k = xZ k0 := by omega
      refine lv_iload hx hb dX0_put_25 (lv_at hl 4 rfl) ?_
      refine lv_iload hx hb dX0_put_27 (lv_at hl 3 rfl) ?_
      refine lv_icmp_ge (tgt := 60) hx hb dX0_put_29 (by decide) (fun _ => ?_) (fun hno => absurd (by rw [hk0_lp]; exact nI_le (Nat.le_refl _) (by omega)) hno)
      rw [hQ]
      have hw9 : (cw a cA N (pF f (xP k0) (k) x 0) ob tr nd) = (cw a cA N (pF f (xP k0) (xZ k0) x 0) ob tr nd) := by rw [hk0_lp]
      exact W.vret hx hb hr (fun t ht hW => ⟨rfl, by rw [ht, ← hw9]; exact hP, by rw [← hw9]; exact hD, hS.F ht⟩) hS.2.2 dX0_put_60
    | succ nn ih_lp =>
      intro k ls H locs hP hD hS hk_lp  hl
      have hk1_lp : k < xZ k0 := by omega
      refine lv_iload hx hb dX0_put_25 (lv_at hl 4 rfl) ?_
      refine lv_iload hx hb dX0_put_27 (lv_at hl 3 rfl) ?_
      refine lv_icmp_ge (tgt := 60) hx hb dX0_put_29 (by decide) (fun hno => absurd hno (nI_ge (a := k) (b := xZ k0) hk1_lp (by omega))) (fun _ => ?_)
      refine lv_aload_n hx hb dX0_put_32 rfl (lv_at hl 0 rfl) ?_
      refine va_get (D := D) (ci := 0) (v := .ref (a 2)) (fs := [.ref (a 2)]) (C := RX0) (T := TX0) (N := 1) hx hb htb inX0 hown hK hP 1 rfl rfl 0 (by decide) (htb _ kF_X0_9) (fun _ h9 => h9) rfl dX0_put_33 ?_
      refine lv_iload hx hb dX0_put_36 (lv_at hl 2 rfl) ?_
      refine lv_iload hx hb dX0_put_38 (lv_at hl 4 rfl) ?_
      refine lv_iadd hx hb dX0_put_40 ?_
      refine zb_ti (nI_add (xP k0) (k)) ?_
      refine lv_lload_n hx hb dX0_put_41 rfl (lv_at hl 1 rfl) ?_
      refine lv_bipush (v := 8) hx hb dX0_put_42 (by decide) ?_
      refine lv_iload hx hb dX0_put_44 (lv_at hl 4 rfl) ?_
      refine lv_imul hx hb dX0_put_46 ?_
      refine zb_ti (pk_mul 8 (k)) ?_
      refine lv_lushr hx hb dX0_put_47 rfl ?_
      refine lv_l2i hx hb dX0_put_48 rfl ?_
      refine lv_sipush (v := 255) hx hb dX0_put_49 (by decide) ?_
      refine lv_iand hx hb dX0_put_52 ?_
      refine zb_ti (y := nI (bN x (0 + k))) (by rw [Nat.zero_add]; exact put_b hx64 (by omega)) ?_
      refine va_iast (i := nI ((xP k0) + (k))) (x := nI (bN x (0 + k))) hx hb hK hP hD hS 2 0 rfl rfl (vp_in_nI (by omega) (by decide)) dX0_put_53 (fun H locs hP hD hS => ?_)
      rw [nI_clamp (by omega)] at hP hD
      have hP : va_P D vwCl (cw a cA N (upd (pF f (xP k0) (k) x 0) ((xP k0) + (k)) (nI (bN x (0 + k)))) ob tr nd) H := hP
      have hD : va_D A (cw a cA N (upd (pF f (xP k0) (k) x 0) ((xP k0) + (k)) (nI (bN x (0 + k)))) ob tr nd) := hD
      rw [pF_up] at hP hD
      have hP : va_P D vwCl (cw a cA N (pF f (xP k0) (k + 1) x 0) ob tr nd) H := hP
      have hD : va_D A (cw a cA N (pF f (xP k0) (k + 1) x 0) ob tr nd) := hD
      refine lv_iinc (k := 4) (v := nI ((k) + 1)) hx hb dX0_put_54 hl rfl (nI_1 (k)) (by decide) rfl (fun ls hl => ?_)
      have hl : lv_has ls 7 [(6, .int (nI ((k) + 1))), (0, .ref (a 1)), (2, .long (lN x)), (4, .int (nI (xP k0))), (5, .int (nI (xZ k0)))] := hl
      refine lv_goto (tgt := 25) hx hb dX0_put_57 (by decide) ?_
      exact ih_lp (k + 1) ls _ _ hP hD hS (by omega) (lv_sub hl [1, 2, 3, 4, 0] rfl)
  exact lp (xZ k0 - 0) (0) ls _ _ hP hD hS (by omega) (lv_sub hl [3, 5, 2, 1, 0] rfl)
set_option maxHeartbeats 4000000 in
set_option maxRecDepth 100000 in
theorem c_fill (l : Launch) (D : va_G) (a : Nat → Nat) (cA : ClassId) (N : Int32) (f : Nat → Int32) (ob : OB) (tr : TR) (nd : ND) (sz : Nat) (k0 : Nat) (hk0 : k0 < 22) : Met l yX0_fill (wX0_fill :: wb) ({ frames := 1, cells := 0, slots := 0, locals := 60 } : Room) (va_Pc [.ref (a 1), .int (nI k0), .ref (a 8)] (zPre D [(cA, .int)] (cw a cA N f ob tr nd) sz)) (zb_Vv D vwCl (cw a cA N (va_cpy tr.1 f 0 (xP k0) (xZ k0)) ob tr nd) (va_A (cw a cA N f ob tr nd) sz)) 0 0 (va_A (cw a cA N f ob tr nd) sz) := by
  refine Met.ofW (cc := cX0_fill) (maxL := 3) (ret := none) (by decide) rfl ?_
  intro p ev s m args below meth c s₁ B hml hv
  obtain ⟨rfl, hsz, hP, hK, hD0, hSt, hnw⟩ := hv
  have hx := B.exec
  have hb := B.bytes
  have hr := B.returns
  have hts := atoms_spec (ws := wX0_fill :: wb) B.pre
  have htb : ∀ w ∈ wb, w.before ([.ref (a 1), .int (nI k0), .ref (a 8)]).toArray s = true := fun w h => hts w (List.mem_cons_of_mem _ h)
  have hown : s.vm.findClass RX0 = some m.cls := findClass_of_methodNamed B.named
  have hlocks := B.notSynchronized
  subst hsz
  have hD := hD0.self (sz := s.heap.size)
  clear hD0
  generalize hAe : va_A (cw a cA N f ob tr nd) s.heap.size = A at hD hSt ⊢
  have hA : ∀ q : Nat, s.heap.size ≤ q → A q := fun q h => by rw [← hAe]; exact Or.inr h
  have hS : va_S A s.heap s.heap [] := va_S.rf
  obtain ⟨⟨tt, ff, hZT, hTT, hZF, hTF⟩, hXS⟩ := id hSt
  have hl := lv_entry ([.ref (a 1), .int (nI k0), .ref (a 8)]) (n := 3) (Nat.le_of_ble_eq_true rfl)
  rw [lg_entry_eq]
  generalize (lg_sl ([.ref (a 1), .int (nI k0), .ref (a 8)]) ++ List.replicate (3 - (lg_sl ([.ref (a 1), .int (nI k0), .ref (a 8)])).length) Slot.unset).toArray = ls at hl ⊢
  have hl : lv_has ls 3 [(0, .ref (a 1)), (1, .int (nI k0)), (2, .ref (a 8))] := hl
  refine zb_abs (fun Q hQ => ?_)
  have hft := x_fit k0 hk0
  refine lv_aload_n hx hb dX0_fill_0 rfl (lv_at hl 2 rfl) ?_
  refine lv_iconst (v := 0) hx hb dX0_fill_1 (by decide) ?_
  refine lv_aload_n hx hb dX0_fill_2 rfl (lv_at hl 0 rfl) ?_
  refine va_get (D := D) (ci := 0) (v := .ref (a 2)) (fs := [.ref (a 2)]) (C := RX0) (T := TX0) (N := 1) hx hb htb inX0 hown hK hP 1 rfl rfl 0 (by decide) (htb _ kF_X0_9) (fun _ h9 => h9) rfl dX0_fill_3 ?_
  refine va_gets hx hb hZT hS hown (htb _ kF_X0_25) (fun _ h9 => h9) dX0_fill_6 ?_
  refine lv_iload_n hx hb dX0_fill_9 rfl (lv_at hl 1 rfl) ?_
  refine lv_iconst (v := 5) hx hb dX0_fill_10 (by decide) ?_
  refine lv_imul hx hb dX0_fill_11 ?_
  refine zb_ti (pk_mul k0 5) ?_
  refine lv_iconst (v := 4) hx hb dX0_fill_12 (by decide) ?_
  refine lv_iadd hx hb dX0_fill_13 ?_
  refine zb_ti (nI_add (k0 * 5) 4) ?_
  refine va_ti hx hb hTT hS (i := nI ((k0 * 5) + 4)) (vp_in_nI (by omega) (by decide)) (v := .int (tT ((k0 * 5) + 4))) (by rw [nI_clamp (by omega)]) dX0_fill_14 ?_
  refine zb_ti (tT_P hk0) ?_
  refine lv_iload_n hx hb dX0_fill_15 rfl (lv_at hl 1 rfl) ?_
  refine zb_ci (va_runS (As := [.int (nI k0)]) (rest := [.int (nI (xP k0)), .ref (a 2), .int 0, .ref (a 8)]) ⟨hx, hb, hml, hown, htb⟩ (c_sizeOf l D a cA N f ob tr nd k0 hk0) (va_cwS 1 htb (wb_S kM_X0_29 kZ_X0_sizeOf kN_X0 kD_X0_sizeOf) rfl rfl rfl (by decide +kernel) ⟨Nat.le_of_ble_eq_true rfl, Nat.le_of_ble_eq_true rfl⟩) (zp_S hP hK hSt hS hnw) rfl rfl hl.1 rfl (lv_room (Nat.le_of_ble_eq_true rfl)) dX0_fill_16 ⟨Nat.le_of_ble_eq_true rfl, Nat.le_of_ble_eq_true rfl⟩) ?_
  refine va_copyi (sp := 0) (dp := nI (xP k0)) (n := nI (xZ k0)) hx hb (by rw [hml]; exact hl.1.symm) hown (htb _ kM_X0_19) (htb _ kV_acopy) (htb _ kZ_acopy) (htb _ kN_System) hK hP hD hS 8 2 0 0 rfl rfl rfl rfl rfl (by decide) (nI_pos (by omega)) (nI_pos (by omega)) (by rw [sb_cl0, nI_clamp (by omega)]; omega) (by rw [nI_clamp (by omega), nI_clamp (by omega)]; omega) (fun _ _ => rfl) (Nat.le_of_ble_eq_true rfl) (Nat.le_of_ble_eq_true rfl) dX0_fill_19 (fun H locs hP hD hS => ?_)
  rw [sb_cl0, nI_clamp (by omega), nI_clamp (by omega)] at hP hD
  have hP : va_P D vwCl (cw a cA N (va_cpy tr.1 f 0 (xP k0) (xZ k0)) ob tr nd) H := hP
  have hD : va_D A (cw a cA N (va_cpy tr.1 f 0 (xP k0) (xZ k0)) ob tr nd) := hD
  rw [hQ]
  have hw9 : (cw a cA N (va_cpy tr.1 f 0 (xP k0) (xZ k0)) ob tr nd) = (cw a cA N (va_cpy tr.1 f 0 (xP k0) (xZ k0)) ob tr nd) := rfl
  exact W.vret hx hb hr (fun t ht hW => ⟨rfl, by rw [ht, ← hw9]; exact hP, by rw [← hw9]; exact hD, hS.F ht⟩) hS.2.2 dX0_fill_22
set_option maxHeartbeats 4000000 in
set_option maxRecDepth 100000 in
theorem c_resetAll (l : Launch) (D : va_G) (a : Nat → Nat) (cA : ClassId) (N : Int32) (f : Nat → Int32) (ob : OB) (tr : TR) (nd : ND) (sz : Nat)   : Met l yX0_resetAll (wX0_resetAll :: wb) ({ frames := 1, cells := 0, slots := 0, locals := 60 } : Room) (va_Pc [.ref (a 1)] (zPre D [(cA, .int)] (cw a cA N f ob tr nd) sz)) (zb_Vv D vwCl (cw a cA N (va_cpy tF f 0 0 95) ob tr nd) (va_A (cw a cA N f ob tr nd) sz)) 0 0 (va_A (cw a cA N f ob tr nd) sz) := by
  refine Met.ofW (cc := cX0_resetAll) (maxL := 1) (ret := none) (by decide) rfl ?_
  intro p ev s m args below meth c s₁ B hml hv
  obtain ⟨rfl, hsz, hP, hK, hD0, hSt, hnw⟩ := hv
  have hx := B.exec
  have hb := B.bytes
  have hr := B.returns
  have hts := atoms_spec (ws := wX0_resetAll :: wb) B.pre
  have htb : ∀ w ∈ wb, w.before ([.ref (a 1)]).toArray s = true := fun w h => hts w (List.mem_cons_of_mem _ h)
  have hown : s.vm.findClass RX0 = some m.cls := findClass_of_methodNamed B.named
  have hlocks := B.notSynchronized
  subst hsz
  have hD := hD0.self (sz := s.heap.size)
  clear hD0
  generalize hAe : va_A (cw a cA N f ob tr nd) s.heap.size = A at hD hSt ⊢
  have hA : ∀ q : Nat, s.heap.size ≤ q → A q := fun q h => by rw [← hAe]; exact Or.inr h
  have hS : va_S A s.heap s.heap [] := va_S.rf
  obtain ⟨⟨tt, ff, hZT, hTT, hZF, hTF⟩, hXS⟩ := id hSt
  have hl := lv_entry ([.ref (a 1)]) (n := 1) (Nat.le_of_ble_eq_true rfl)
  rw [lg_entry_eq]
  generalize (lg_sl ([.ref (a 1)]) ++ List.replicate (1 - (lg_sl ([.ref (a 1)])).length) Slot.unset).toArray = ls at hl ⊢
  have hl : lv_has ls 1 [(0, .ref (a 1))] := hl
  refine zb_abs (fun Q hQ => ?_)
  refine va_gets hx hb hZF hS hown (htb _ kF_X0_16) (fun _ h9 => h9) dX0_resetAll_0 ?_
  refine lv_iconst (v := 0) hx hb dX0_resetAll_3 (by decide) ?_
  refine lv_aload_n hx hb dX0_resetAll_4 rfl (lv_at hl 0 rfl) ?_
  refine va_get (D := D) (ci := 0) (v := .ref (a 2)) (fs := [.ref (a 2)]) (C := RX0) (T := TX0) (N := 1) hx hb htb inX0 hown hK hP 1 rfl rfl 0 (by decide) (htb _ kF_X0_9) (fun _ h9 => h9) rfl dX0_resetAll_5 ?_
  refine lv_iconst (v := 0) hx hb dX0_resetAll_8 (by decide) ?_
  refine lv_bipush (v := 95) hx hb dX0_resetAll_9 (by decide) ?_
  refine zb_copyT (k := 95) hx hb (by rw [hml]; exact hl.1.symm) hown (htb _ kM_X0_19) (htb _ kV_acopy) (htb _ kZ_acopy) (htb _ kN_System) hK hP hD hS hTF 2 0 rfl rfl (by decide) (by decide) (by decide) (Nat.le_of_ble_eq_true rfl) (Nat.le_of_ble_eq_true rfl) dX0_resetAll_11 (fun H locs hP hD hS => ?_)
  have hP : va_P D vwCl (cw a cA N (va_cpy tF f 0 0 95) ob tr nd) H := hP
  have hD : va_D A (cw a cA N (va_cpy tF f 0 0 95) ob tr nd) := hD
  rw [hQ]
  have hw9 : (cw a cA N (va_cpy tF f 0 0 95) ob tr nd) = (cw a cA N (va_cpy tF f 0 0 95) ob tr nd) := rfl
  exact W.vret hx hb hr (fun t ht hW => ⟨rfl, by rw [ht, ← hw9]; exact hP, by rw [← hw9]; exact hD, hS.F ht⟩) hS.2.2 dX0_resetAll_14
set_option maxHeartbeats 4000000 in
set_option maxRecDepth 100000 in
theorem c_resetOwn (l : Launch) (D : va_G) (a : Nat → Nat) (cA : ClassId) (N : Int32) (f : Nat → Int32) (ob : OB) (tr : TR) (nd : ND) (sz : Nat)   : Met l yX0_resetOwn (wX0_resetOwn :: wb) ({ frames := 1, cells := 0, slots := 0, locals := 60 } : Room) (va_Pc [.ref (a 1)] (zPre D [(cA, .int)] (cw a cA N f ob tr nd) sz)) (zb_Vv D vwCl (cw a cA N (va_cpy tF f 0 0 42) ob tr nd) (va_A (cw a cA N f ob tr nd) sz)) 0 0 (va_A (cw a cA N f ob tr nd) sz) := by
  refine Met.ofW (cc := cX0_resetOwn) (maxL := 1) (ret := none) (by decide) rfl ?_
  intro p ev s m args below meth c s₁ B hml hv
  obtain ⟨rfl, hsz, hP, hK, hD0, hSt, hnw⟩ := hv
  have hx := B.exec
  have hb := B.bytes
  have hr := B.returns
  have hts := atoms_spec (ws := wX0_resetOwn :: wb) B.pre
  have htb : ∀ w ∈ wb, w.before ([.ref (a 1)]).toArray s = true := fun w h => hts w (List.mem_cons_of_mem _ h)
  have hown : s.vm.findClass RX0 = some m.cls := findClass_of_methodNamed B.named
  have hlocks := B.notSynchronized
  subst hsz
  have hD := hD0.self (sz := s.heap.size)
  clear hD0
  generalize hAe : va_A (cw a cA N f ob tr nd) s.heap.size = A at hD hSt ⊢
  have hA : ∀ q : Nat, s.heap.size ≤ q → A q := fun q h => by rw [← hAe]; exact Or.inr h
  have hS : va_S A s.heap s.heap [] := va_S.rf
  obtain ⟨⟨tt, ff, hZT, hTT, hZF, hTF⟩, hXS⟩ := id hSt
  have hl := lv_entry ([.ref (a 1)]) (n := 1) (Nat.le_of_ble_eq_true rfl)
  rw [lg_entry_eq]
  generalize (lg_sl ([.ref (a 1)]) ++ List.replicate (1 - (lg_sl ([.ref (a 1)])).length) Slot.unset).toArray = ls at hl ⊢
  have hl : lv_has ls 1 [(0, .ref (a 1))] := hl
  refine zb_abs (fun Q hQ => ?_)
  refine va_gets hx hb hZF hS hown (htb _ kF_X0_16) (fun _ h9 => h9) dX0_resetOwn_0 ?_
  refine lv_iconst (v := 0) hx hb dX0_resetOwn_3 (by decide) ?_
  refine lv_aload_n hx hb dX0_resetOwn_4 rfl (lv_at hl 0 rfl) ?_
  refine va_get (D := D) (ci := 0) (v := .ref (a 2)) (fs := [.ref (a 2)]) (C := RX0) (T := TX0) (N := 1) hx hb htb inX0 hown hK hP 1 rfl rfl 0 (by decide) (htb _ kF_X0_9) (fun _ h9 => h9) rfl dX0_resetOwn_5 ?_
  refine lv_iconst (v := 0) hx hb dX0_resetOwn_8 (by decide) ?_
  refine lv_bipush (v := 42) hx hb dX0_resetOwn_9 (by decide) ?_
  refine zb_copyT (k := 42) hx hb (by rw [hml]; exact hl.1.symm) hown (htb _ kM_X0_19) (htb _ kV_acopy) (htb _ kZ_acopy) (htb _ kN_System) hK hP hD hS hTF 2 0 rfl rfl (by decide) (by decide) (by decide) (Nat.le_of_ble_eq_true rfl) (Nat.le_of_ble_eq_true rfl) dX0_resetOwn_11 (fun H locs hP hD hS => ?_)
  have hP : va_P D vwCl (cw a cA N (va_cpy tF f 0 0 42) ob tr nd) H := hP
  have hD : va_D A (cw a cA N (va_cpy tF f 0 0 42) ob tr nd) := hD
  rw [hQ]
  have hw9 : (cw a cA N (va_cpy tF f 0 0 42) ob tr nd) = (cw a cA N (va_cpy tF f 0 0 42) ob tr nd) := rfl
  exact W.vret hx hb hr (fun t ht hW => ⟨rfl, by rw [ht, ← hw9]; exact hP, by rw [← hw9]; exact hD, hS.F ht⟩) hS.2.2 dX0_resetOwn_14
end
section
-- numbers of four bytes; what the maps' recursions give
theorem nI_or (a b : Nat) : nI a ||| nI b = nI (a ||| b) := by
  apply Int32.toBitVec_inj.1
  show BitVec.ofNat 32 a ||| BitVec.ofNat 32 b = BitVec.ofNat 32 (a ||| b)
  apply BitVec.eq_of_getLsbD_eq
  intro i hi
  simp [hi]
theorem nI_orS {k a b : Nat} (ha : a < 2 ^ k) : nI a ||| nI (b * 2 ^ k) = nI (a + b * 2 ^ k) := by
  rw [nI_or]
  congr 1
  have h := Nat.shiftLeft_add_eq_or_of_lt ha b
  rw [Nat.shiftLeft_eq] at h
  rw [Nat.or_comm, ← h, Nat.add_comm]
theorem sh31 : ∀ k, k < 4 → ((nI (8 * k) &&& 31).toBitVec.smod 32).toNat = 8 * k := by decide +kernel
theorem sm_orI {f : Nat → Int32} (h : isB f) {s k : Nat} (hk : k < 4) : nI (sm f s k) ||| f (s + k) <<< (nI (8 * k) &&& 31) = nI (sm f s (k + 1)) := by
  obtain ⟨h1, h2⟩ := bv_of h (s + k)
  have h3 := sm_lt h s k
  have h4 : bv f (s + k) * 2 ^ (8 * k) < 2 ^ 32 := by
    have h5 : 2 ^ (8 * k) ≤ 2 ^ 24 := Nat.pow_le_pow_right (by decide) (by omega)
    have h6 : bv f (s + k) * 2 ^ (8 * k) ≤ 255 * 2 ^ 24 := Nat.mul_le_mul (by omega) h5
    omega
  rw [h2, pk_shlN _ (8 * k) (sh31 k hk) h4, nI_orS h3]
  rfl
theorem ni_m1 {e : Nat} (h : e < 22) : ¬ nI e = (-1) := (by decide +kernel : ∀ e, e < 22 → ¬ nI e = (-1)) e h
theorem isB_pF {f : Nat → Int32} (h : isB f) (s n x k : Nat) : isB (pF f s n x k) := by
  intro j
  unfold pF
  split
  · exact ⟨_, Nat.mod_lt _ (by decide), rfl⟩
  · exact h j
theorem bN_sh (x p i : Nat) : bN (x / 2 ^ (8 * p)) i = bN x (p + i) := by
  unfold bN
  rw [Nat.div_div_eq_div_mul, ← Nat.pow_add, show 8 * p + 8 * i = 8 * (p + i) by omega]
theorem pF_sh (f : Nat → Int32) (s n x p : Nat) : pF f s n (x / 2 ^ (8 * p)) 0 = pF f s n x p := by
  funext j
  unfold pF
  rw [bN_sh, Nat.zero_add]
theorem mE_lt {f : Nat → Int32} {m r k e : Nat} (h : mE f m r k = some e) : e < 22 := (mp_lt h).1
theorem xz8 : ∀ e, e < 22 → xR e &&& 4 = 4 → xZ e ≤ 8 := by decide
theorem and4 : ∀ x, x < 8 → ∀ r, r < 8 → x &&& r = r → r &&& 4 = 4 → x &&& 4 = 4 := by decide
theorem mE_z {f : Nat → Int32} {m r k e : Nat} (hr : r < 8) (hr4 : r &&& 4 = 4) (h : mE f m r k = some e) : xZ e ≤ 8 := by
  obtain ⟨h1, -, h3⟩ := mp_lt h
  exact xz8 e h1 (and4 _ (x_fit e h1).2.2.2.2.2 r hr h3 hr4)
theorem mL_u (f : Nat → Int32) (m r n : Nat) : mL f m r (n + 1) = (mE f m r (n + 1)).elim (mL f m r n) (fun e => mL f m r n + xZ e) := rfl
theorem mC_u (f : Nat → Int32) (m r n : Nat) : mC f m r (n + 1) = (mE f m r (n + 1)).elim (mC f m r n) (fun e => mC f m r n + sm f (xP e) (xZ e) * 2 ^ (8 * mL f m r n)) := rfl
theorem mL_s {f : Nat → Int32} {m r n e : Nat} (h : mE f m r (n + 1) = some e) : mL f m r (n + 1) = mL f m r n + xZ e := by rw [mL_u, h]; rfl
theorem mL_n {f : Nat → Int32} {m r n : Nat} (h : mE f m r (n + 1) = none) : mL f m r (n + 1) = mL f m r n := by rw [mL_u, h]; rfl
theorem mC_s {f : Nat → Int32} {m r n e : Nat} (h : mE f m r (n + 1) = some e) : mC f m r (n + 1) = mC f m r n + sm f (xP e) (xZ e) * 2 ^ (8 * mL f m r n) := by rw [mC_u, h]; rfl
theorem mC_n {f : Nat → Int32} {m r n : Nat} (h : mE f m r (n + 1) = none) : mC f m r (n + 1) = mC f m r n := by rw [mC_u, h]; rfl
theorem mL_mono (f : Nat → Int32) (m r : Nat) {i j : Nat} (h : i ≤ j) : mL f m r i ≤ mL f m r j := by
  induction j with
  | zero => rw [show i = 0 by omega]; exact Nat.le_refl _
  | succ j ih =>
    rcases Nat.lt_or_ge j i with h1 | h1
    · rw [show i = j + 1 by omega]; exact Nat.le_refl _
    · refine Nat.le_trans (ih h1) ?_
      cases h2 : mE f m r (j + 1) with
      | none => rw [mL_n h2]; exact Nat.le_refl _
      | some e => rw [mL_s h2]; exact Nat.le_add_right _ _
theorem mC_lt {f : Nat → Int32} (hB : isB f) (m r n : Nat) : mC f m r n < 2 ^ (8 * mL f m r n) := by
  induction n with
  | zero => simp [mC, mL]
  | succ n ih =>
    cases h : mE f m r (n + 1) with
    | none => rw [mC_n h, mL_n h]; exact ih
    | some e =>
      rw [mC_s h, mL_s h]
      have h1 := sm_lt hB (xP e) (xZ e)
      have h2 : 2 ^ (8 * (mL f m r n + xZ e)) = 2 ^ (8 * xZ e) * 2 ^ (8 * mL f m r n) := by rw [← Nat.pow_add]; congr 1; omega
      have h3 : (sm f (xP e) (xZ e) + 1) * 2 ^ (8 * mL f m r n) ≤ 2 ^ (8 * xZ e) * 2 ^ (8 * mL f m r n) := Nat.mul_le_mul_right _ h1
      rw [h2]
      rw [Nat.add_mul, Nat.one_mul] at h3
      omega
theorem mC_or {f : Nat → Int32} (hB : isB f) {m r n e : Nat} (h : mE f m r (n + 1) = some e) (h8 : mL f m r (n + 1) ≤ 8) (h1 : 1 ≤ xZ e) :
    lN (mC f m r n) ||| lN (sm f (xP e) (xZ e)) <<< ((nI (8 * mL f m r n)).toInt64 &&& 63) = lN (mC f m r (n + 1)) := by
  have h2 := mC_lt hB m r n
  have h3 := mC_lt hB m r (n + 1)
  have h5 : 2 ^ (8 * mL f m r (n + 1)) ≤ 2 ^ 64 := Nat.pow_le_pow_right (by decide) (by omega)
  rw [mL_s h] at h8
  rw [wb_shl _ (by omega), g_or' rfl h2 (by rw [← mC_s h]; omega), mC_s h]
def mOk (f : Nat → Int32) (m r : Nat) : Nat → Bool
  | 0 => true
  | n + 1 => mOk f m r n && (mE f m r (n + 1)).isSome
theorem mOk_u (f : Nat → Int32) (m r n : Nat) : mOk f m r (n + 1) = (mOk f m r n && (mE f m r (n + 1)).isSome) := rfl
theorem mOk_mono {f : Nat → Int32} {m r i j : Nat} (h : i ≤ j) (hj : mOk f m r j = true) : mOk f m r i = true := by
  induction j with
  | zero => rw [show i = 0 by omega]; rfl
  | succ j ih =>
    rcases Nat.lt_or_ge j i with h1 | h1
    · rw [show i = j + 1 by omega]; exact hj
    · rw [mOk_u, Bool.and_eq_true] at hj
      exact ih h1 hj.1
theorem mOk_s {f : Nat → Int32} {m r n e : Nat} (h0 : mOk f m r n = true) (h : mE f m r (n + 1) = some e) : mOk f m r (n + 1) = true := by rw [mOk_u, h0, h]; rfl
theorem mOk_n {f : Nat → Int32} {m r n j : Nat} (h : mE f m r (n + 1) = none) (hj : n + 1 ≤ j) : mOk f m r j = false := by
  cases h9 : mOk f m r j with
  | false => rfl
  | true =>
    have h8 := mOk_mono hj h9
    rw [mOk_u, h] at h8
    simp at h8
theorem mOk_at {f : Nat → Int32} {m r n k : Nat} (h : mOk f m r n = true) (hk : k + 1 ≤ n) : ∃ e, mE f m r (k + 1) = some e := by
  have := mOk_mono hk h
  rw [mOk_u, Bool.and_eq_true] at this
  exact Option.isSome_iff_exists.mp this.2
/-- what storing a count answers; what storing a name answers -/
def cF (f : Nat → Int32) (m r v : Nat) : Nat := if 4 < v then 101253168 else if mOk f m r v = true then (if 8 < mL f m r v then 100925506 else 0) else 100925505
def nF (cn r : Nat) (nm : Int32) : Nat := if cn = 0 then (if nm = 0 then 0 else if mp nm r = none then 100925505 else 0) else 100728832
-- writing through a map
theorem mW_u (m r x n : Nat) (f : Nat → Int32) : mW m r x f (n + 1) = (mE (mW m r x f n).1 m r (n + 1)).elim (mW m r x f n) (fun e => (pF (mW m r x f n).1 (xP e) (xZ e) x (mW m r x f n).2, (mW m r x f n).2 + xZ e)) := rfl
theorem mW_s {m r x n e : Nat} {f : Nat → Int32} (h : mE (mW m r x f n).1 m r (n + 1) = some e) : mW m r x f (n + 1) = (pF (mW m r x f n).1 (xP e) (xZ e) x (mW m r x f n).2, (mW m r x f n).2 + xZ e) := by rw [mW_u, h]; rfl
theorem mW_n {m r x n : Nat} {f : Nat → Int32} (h : mE (mW m r x f n).1 m r (n + 1) = none) : mW m r x f (n + 1) = mW m r x f n := by rw [mW_u, h]; rfl
theorem mW_B {f : Nat → Int32} (hB : isB f) (m r x n : Nat) : isB (mW m r x f n).1 := by
  induction n with
  | zero => exact hB
  | succ n ih =>
    cases h : mE (mW m r x f n).1 m r (n + 1) with
    | none => rw [mW_n h]; exact ih
    | some e => rw [mW_s h]; exact isB_pF ih _ _ _ _
theorem mW_mono (m r x : Nat) (f : Nat → Int32) {i j : Nat} (h : i ≤ j) : (mW m r x f i).2 ≤ (mW m r x f j).2 := by
  induction j with
  | zero => rw [show i = 0 by omega]; exact Nat.le_refl _
  | succ j ih =>
    rcases Nat.lt_or_ge j i with h1 | h1
    · rw [show i = j + 1 by omega]; exact Nat.le_refl _
    · refine Nat.le_trans (ih h1) ?_
      cases h2 : mE (mW m r x f j).1 m r (j + 1) with
      | none => rw [mW_n h2]; exact Nat.le_refl _
      | some e => rw [mW_s h2]; exact Nat.le_add_right _ _
-- the outbox takes a frame; the transfer's steps
def ob_send (o : OB) (id ln : Int32) (x : Nat) : OB := if o.2.1 < 32 then (upd (upd (upd (upd o.1 (o.2.1.toNatClampNeg * 4) id) (o.2.1.toNatClampNeg * 4 + 1) ln) (o.2.1.toNatClampNeg * 4 + 2) (nI x)) (o.2.1.toNatClampNeg * 4 + 3) (nI (x / 4294967296)), o.2.1 + 1, o.2.2 + 1) else (o.1, o.2.1, o.2.2 + 1)
def tr_end (t : TR) : TR := (t.1, 0, t.2.2.1, t.2.2.2.1, 0, t.2.2.2.2.2)
def tr_begin (t : TR) (e ad wr : Int32) : TR := (t.1, 1, wr, e, ad, 0, 0, 0)
def tr_next (t : TR) : TR := (t.1, t.2.1, t.2.2.1, t.2.2.2.1, t.2.2.2.2.1, t.2.2.2.2.2.1, 16 - t.2.2.2.2.2.2.1, 0)
def tr_add (t : TR) (d n x : Nat) : TR := (pF t.1 d n x 0, t.2.1, t.2.2.1, t.2.2.2.1, t.2.2.2.2.1, nI (d + n), t.2.2.2.2.2.2.1, t.2.2.2.2.2.2.2)
theorem hi32 {x : Nat} (hx : x < 2 ^ 64) : ((lN x).toUInt64 >>> ((32 : Int32).toInt64.toUInt64 &&& Int64.toUInt64 63)).toInt64.toInt32 = nI (x / 4294967296) := by
  rw [show ((32 : Int32)) = nI 32 from rfl, wb_shr hx (by decide), lN_i]
end
section
set_option maxHeartbeats 4000000 in
set_option maxRecDepth 100000 in
theorem c_send (l : Launch) (D : va_G) (a : Nat → Nat) (cA : ClassId) (N : Int32) (f : Nat → Int32) (ob : OB) (tr : TR) (nd : ND) (sz : Nat) (kp : Nat) (fid ln : Int32) (x : Nat) (hkp : ob.2.1 = nI kp) (hkp32 : kp ≤ 32) (hx64 : x < 2 ^ 64) : Met l yX2_send (wX2_send :: wb) ({ frames := 0, cells := 0, slots := 0, locals := 0 } : Room) (va_Pc [.ref (a 5), .int fid, .int ln, .long (lN x)] (zPre D [(cA, .int)] (cw a cA N f ob tr nd) sz)) (zb_Vv D vwCl (cw a cA N f (ob_send ob fid ln x) tr nd) (va_A (cw a cA N f ob tr nd) sz)) 0 0 (va_A (cw a cA N f ob tr nd) sz) := by
  refine Met.ofW (cc := cX2_send) (maxL := 6) (ret := none) (by decide) rfl ?_
  intro p ev s m args below meth c s₁ B hml hv
  obtain ⟨rfl, hsz, hP, hK, hD0, hSt, hnw⟩ := hv
  have hx := B.exec
  have hb := B.bytes
  have hr := B.returns
  have hts := atoms_spec (ws := wX2_send :: wb) B.pre
  have htb : ∀ w ∈ wb, w.before ([.ref (a 5), .int fid, .int ln, .long (lN x)]).toArray s = true := fun w h => hts w (List.mem_cons_of_mem _ h)
  have hown : s.vm.findClass RX2 = some m.cls := findClass_of_methodNamed B.named
  have hlocks := B.notSynchronized
  subst hsz
  have hD := hD0.self (sz := s.heap.size)
  clear hD0
  generalize hAe : va_A (cw a cA N f ob tr nd) s.heap.size = A at hD hSt ⊢
  have hA : ∀ q : Nat, s.heap.size ≤ q → A q := fun q h => by rw [← hAe]; exact Or.inr h
  have hS : va_S A s.heap s.heap [] := va_S.rf
  obtain ⟨⟨tt, ff, hZT, hTT, hZF, hTF⟩, hXS⟩ := id hSt
  have hl := lv_entry ([.ref (a 5), .int fid, .int ln, .long (lN x)]) (n := 6) (Nat.le_of_ble_eq_true rfl)
  rw [lg_entry_eq]
  generalize (lg_sl ([.ref (a 5), .int fid, .int ln, .long (lN x)]) ++ List.replicate (6 - (lg_sl ([.ref (a 5), .int fid, .int ln, .long (lN x)])).length) Slot.unset).toArray = ls at hl ⊢
  have hl : lv_has ls 6 [(0, .ref (a 5)), (1, .int fid), (2, .int ln), (3, .long (lN x))] := hl
  refine zb_abs (fun Q hQ => ?_)
  obtain ⟨g0, kp0, se0⟩ := ob
  obtain rfl : kp0 = nI kp := hkp
  refine lv_aload_n hx hb dX2_send_0 rfl (lv_at hl 0 rfl) ?_
  refine lv_dup hx hb dX2_send_1 rfl ?_
  refine va_get (D := D) (ci := 2) (v := .int se0) (fs := [.ref (a 6), .int (nI kp), .int se0]) (C := RX2) (T := TX2) (N := 3) hx hb htb inX2 hown hK hP 5 rfl rfl 2 (by decide) (htb _ kF_X2_13) (fun _ h9 => h9) rfl dX2_send_2 ?_
  refine lv_iconst (v := 1) hx hb dX2_send_5 (by decide) ?_
  refine lv_iadd hx hb dX2_send_6 ?_
  refine va_put (D := D) (ci := 2) (v := .int (se0 + 1)) (fs := [.ref (a 6), .int (nI kp), .int se0]) (ty := .int) (C := RX2) (T := TX2) (N := 3) hx hb htb inX2 tyX2 tyX2_ok nmX2 hown hK hP hD hS 5 rfl rfl 2 (by decide) (htb _ kF_X2_13) (fun _ h9 => h9) rfl (by decide +kernel) rfl rfl (Nat.le_of_ble_eq_true rfl) dX2_send_7 (fun H locs hP hD hS => ?_)
  have hP : va_P D vwCl (cw a cA N f (g0, nI kp, se0 + 1) tr nd) H := hP
  have hD : va_D A (cw a cA N f (g0, nI kp, se0 + 1) tr nd) := hD
  refine lv_aload_n hx hb dX2_send_10 rfl (lv_at hl 0 rfl) ?_
  refine va_get (D := D) (ci := 2) (v := .int (nI kp)) (fs := [.ref (a 6), .int (nI kp), .int (se0 + 1)]) (C := RX2) (T := TX2) (N := 3) hx hb htb inX2 hown hK hP 5 rfl rfl 1 (by decide) (htb _ kF_X2_17) (fun _ h9 => h9) rfl dX2_send_11 ?_
  refine lv_bipush (v := 32) hx hb dX2_send_14 (by decide) ?_
  refine lv_icmp_lt (tgt := 20) hx hb dX2_send_16 (by decide) (fun hc1 => ?_) (fun hc1 => ?_)
  · have hkp2 : kp < 32 := (nI_ltI (by omega) (by decide)).mp hc1
    refine lv_aload_n hx hb dX2_send_20 rfl (lv_at hl 0 rfl) ?_
    refine va_get (D := D) (ci := 2) (v := .int (nI kp)) (fs := [.ref (a 6), .int (nI kp), .int (se0 + 1)]) (C := RX2) (T := TX2) (N := 3) hx hb htb inX2 hown hK hP 5 rfl rfl 1 (by decide) (htb _ kF_X2_17) (fun _ h9 => h9) rfl dX2_send_21 ?_
    refine lv_iconst (v := 4) hx hb dX2_send_24 (by decide) ?_
    refine lv_imul hx hb dX2_send_25 ?_
    refine zb_ti (pk_mul kp 4) ?_
    refine lv_istore hx hb dX2_send_26 hl (by decide) rfl (fun ls hl => ?_)
    have hl : lv_has ls 6 [(5, .int (nI (kp * 4))), (0, .ref (a 5)), (1, .int fid), (2, .int ln), (3, .long (lN x))] := hl
    refine lv_aload_n hx hb dX2_send_28 rfl (lv_at hl 1 rfl) ?_
    refine va_get (D := D) (ci := 2) (v := .ref (a 6)) (fs := [.ref (a 6), .int (nI kp), .int (se0 + 1)]) (C := RX2) (T := TX2) (N := 3) hx hb htb inX2 hown hK hP 5 rfl rfl 0 (by decide) (htb _ kF_X2_9) (fun _ h9 => h9) rfl dX2_send_29 ?_
    refine lv_iload hx hb dX2_send_32 (lv_at hl 0 rfl) ?_
    refine lv_iload_n hx hb dX2_send_34 rfl (lv_at hl 2 rfl) ?_
    refine va_iast (i := nI (kp * 4)) (x := fid) hx hb hK hP hD hS 6 0 rfl rfl (vp_in_nI (by omega) (by decide)) dX2_send_35 (fun H locs hP hD hS => ?_)
    rw [nI_clamp (by omega)] at hP hD
    have hP : va_P D vwCl (cw a cA N f (upd g0 (kp * 4) fid, nI kp, se0 + 1) tr nd) H := hP
    have hD : va_D A (cw a cA N f (upd g0 (kp * 4) fid, nI kp, se0 + 1) tr nd) := hD
    refine lv_aload_n hx hb dX2_send_36 rfl (lv_at hl 1 rfl) ?_
    refine va_get (D := D) (ci := 2) (v := .ref (a 6)) (fs := [.ref (a 6), .int (nI kp), .int (se0 + 1)]) (C := RX2) (T := TX2) (N := 3) hx hb htb inX2 hown hK hP 5 rfl rfl 0 (by decide) (htb _ kF_X2_9) (fun _ h9 => h9) rfl dX2_send_37 ?_
    refine lv_iload hx hb dX2_send_40 (lv_at hl 0 rfl) ?_
    refine lv_iconst (v := 1) hx hb dX2_send_42 (by decide) ?_
    refine lv_iadd hx hb dX2_send_43 ?_
    refine zb_ti (nI_add (kp * 4) 1) ?_
    refine lv_iload_n hx hb dX2_send_44 rfl (lv_at hl 3 rfl) ?_
    refine va_iast (i := nI ((kp * 4) + 1)) (x := ln) hx hb hK hP hD hS 6 0 rfl rfl (vp_in_nI (by omega) (by decide)) dX2_send_45 (fun H locs hP hD hS => ?_)
    rw [nI_clamp (by omega)] at hP hD
    have hP : va_P D vwCl (cw a cA N f (upd (upd g0 (kp * 4) fid) ((kp * 4) + 1) ln, nI kp, se0 + 1) tr nd) H := hP
    have hD : va_D A (cw a cA N f (upd (upd g0 (kp * 4) fid) ((kp * 4) + 1) ln, nI kp, se0 + 1) tr nd) := hD
    refine lv_aload_n hx hb dX2_send_46 rfl (lv_at hl 1 rfl) ?_
    refine va_get (D := D) (ci := 2) (v := .ref (a 6)) (fs := [.ref (a 6), .int (nI kp), .int (se0 + 1)]) (C := RX2) (T := TX2) (N := 3) hx hb htb inX2 hown hK hP 5 rfl rfl 0 (by decide) (htb _ kF_X2_9) (fun _ h9 => h9) rfl dX2_send_47 ?_
    refine lv_iload hx hb dX2_send_50 (lv_at hl 0 rfl) ?_
    refine lv_iconst (v := 2) hx hb dX2_send_52 (by decide) ?_
    refine lv_iadd hx hb dX2_send_53 ?_
    refine zb_ti (nI_add (kp * 4) 2) ?_
    refine lv_lload_n hx hb dX2_send_54 rfl (lv_at hl 4 rfl) ?_
    refine lv_l2i hx hb dX2_send_55 rfl ?_
    refine zb_ti (y := nI x) (lN_i x) ?_
    refine va_iast (i := nI ((kp * 4) + 2)) (x := nI x) hx hb hK hP hD hS 6 0 rfl rfl (vp_in_nI (by omega) (by decide)) dX2_send_56 (fun H locs hP hD hS => ?_)
    rw [nI_clamp (by omega)] at hP hD
    have hP : va_P D vwCl (cw a cA N f (upd (upd (upd g0 (kp * 4) fid) ((kp * 4) + 1) ln) ((kp * 4) + 2) (nI x), nI kp, se0 + 1) tr nd) H := hP
    have hD : va_D A (cw a cA N f (upd (upd (upd g0 (kp * 4) fid) ((kp * 4) + 1) ln) ((kp * 4) + 2) (nI x), nI kp, se0 + 1) tr nd) := hD
    refine lv_aload_n hx hb dX2_send_57 rfl (lv_at hl 1 rfl) ?_
    refine va_get (D := D) (ci := 2) (v := .ref (a 6)) (fs := [.ref (a 6), .int (nI kp), .int (se0 + 1)]) (C := RX2) (T := TX2) (N := 3) hx hb htb inX2 hown hK hP 5 rfl rfl 0 (by decide) (htb _ kF_X2_9) (fun _ h9 => h9) rfl dX2_send_58 ?_
    refine lv_iload hx hb dX2_send_61 (lv_at hl 0 rfl) ?_
    refine lv_iconst (v := 3) hx hb dX2_send_63 (by decide) ?_
    refine lv_iadd hx hb dX2_send_64 ?_
    refine zb_ti (nI_add (kp * 4) 3) ?_
    refine lv_lload_n hx hb dX2_send_65 rfl (lv_at hl 4 rfl) ?_
    refine lv_bipush (v := 32) hx hb dX2_send_66 (by decide) ?_
    refine lv_lushr hx hb dX2_send_68 rfl ?_
    refine lv_l2i hx hb dX2_send_69 rfl ?_
    refine zb_ti (y := nI (x / 4294967296)) (hi32 hx64) ?_
    refine va_iast (i := nI ((kp * 4) + 3)) (x := nI (x / 4294967296)) hx hb hK hP hD hS 6 0 rfl rfl (vp_in_nI (by omega) (by decide)) dX2_send_70 (fun H locs hP hD hS => ?_)
    rw [nI_clamp (by omega)] at hP hD
    have hP : va_P D vwCl (cw a cA N f (upd (upd (upd (upd g0 (kp * 4) fid) ((kp * 4) + 1) ln) ((kp * 4) + 2) (nI x)) ((kp * 4) + 3) (nI (x / 4294967296)), nI kp, se0 + 1) tr nd) H := hP
    have hD : va_D A (cw a cA N f (upd (upd (upd (upd g0 (kp * 4) fid) ((kp * 4) + 1) ln) ((kp * 4) + 2) (nI x)) ((kp * 4) + 3) (nI (x / 4294967296)), nI kp, se0 + 1) tr nd) := hD
    refine lv_aload_n hx hb dX2_send_71 rfl (lv_at hl 1 rfl) ?_
    refine lv_dup hx hb dX2_send_72 rfl ?_
    refine va_get (D := D) (ci := 2) (v := .int (nI kp)) (fs := [.ref (a 6), .int (nI kp), .int (se0 + 1)]) (C := RX2) (T := TX2) (N := 3) hx hb htb inX2 hown hK hP 5 rfl rfl 1 (by decide) (htb _ kF_X2_17) (fun _ h9 => h9) rfl dX2_send_73 ?_
    refine lv_iconst (v := 1) hx hb dX2_send_76 (by decide) ?_
    refine lv_iadd hx hb dX2_send_77 ?_
    refine zb_ti (nI_add kp 1) ?_
    refine va_put (D := D) (ci := 2) (v := .int (nI (kp + 1))) (fs := [.ref (a 6), .int (nI kp), .int (se0 + 1)]) (ty := .int) (C := RX2) (T := TX2) (N := 3) hx hb htb inX2 tyX2 tyX2_ok nmX2 hown hK hP hD hS 5 rfl rfl 1 (by decide) (htb _ kF_X2_17) (fun _ h9 => h9) rfl (by decide +kernel) rfl rfl (Nat.le_of_ble_eq_true rfl) dX2_send_78 (fun H locs hP hD hS => ?_)
    have hP : va_P D vwCl (cw a cA N f (upd (upd (upd (upd g0 (kp * 4) fid) ((kp * 4) + 1) ln) ((kp * 4) + 2) (nI x)) ((kp * 4) + 3) (nI (x / 4294967296)), nI (kp + 1), se0 + 1) tr nd) H := hP
    have hD : va_D A (cw a cA N f (upd (upd (upd (upd g0 (kp * 4) fid) ((kp * 4) + 1) ln) ((kp * 4) + 2) (nI x)) ((kp * 4) + 3) (nI (x / 4294967296)), nI (kp + 1), se0 + 1) tr nd) := hD
    rw [hQ]
    have hw9 : (cw a cA N f (upd (upd (upd (upd g0 (kp * 4) fid) ((kp * 4) + 1) ln) ((kp * 4) + 2) (nI x)) ((kp * 4) + 3) (nI (x / 4294967296)), nI (kp + 1), se0 + 1) tr nd) = (cw a cA N f (ob_send (g0, nI kp, se0) fid ln x) tr nd) := by simp only [ob_send, if_pos hc1, nI_clamp (show kp < 2 ^ 31 by omega), nI_1]
    exact W.vret hx hb hr (fun t ht hW => ⟨rfl, by rw [ht, ← hw9]; exact hP, by rw [← hw9]; exact hD, hS.F ht⟩) hS.2.2 dX2_send_81
  rw [hQ]
  have hw9 : (cw a cA N f (g0, nI kp, se0 + 1) tr nd) = (cw a cA N f (ob_send (g0, nI kp, se0) fid ln x) tr nd) := by simp only [ob_send, if_neg hc1]
  exact W.vret hx hb hr (fun t ht hW => ⟨rfl, by rw [ht, ← hw9]; exact hP, by rw [← hw9]; exact hD, hS.F ht⟩) hS.2.2 dX2_send_19
set_option maxHeartbeats 4000000 in
set_option maxRecDepth 100000 in
theorem c_opart (l : Launch) (D : va_G) (a : Nat → Nat) (cA : ClassId) (N : Int32) (f : Nat → Int32) (ob : OB) (tr : TR) (nd : ND) (k i : Nat) (hk : k < 32) (hi4 : i < 4) : Met l yX2_part (wX2_part :: wb) ({ frames := 0, cells := 0, slots := 0, locals := 0 } : Room) (va_Pc [.ref (a 5), .int (nI k), .int (nI i)] (zPu D [(cA, .int)] (cw a cA N f ob tr nd))) (zb_I (ob.1 (k * 4 + i))) 0 0 (fun _ => False) := by
  refine Met.ofW (cc := cX2_part) (maxL := 3) (ret := (some .int)) (by decide) rfl ?_
  intro p ev s m args below meth c s₁ B hml hv
  obtain ⟨rfl, hP, hK, hSt, hnw⟩ := hv
  have hx := B.exec
  have hb := B.bytes
  have hr := B.returns
  have hts := atoms_spec (ws := wX2_part :: wb) B.pre
  have htb : ∀ w ∈ wb, w.before ([.ref (a 5), .int (nI k), .int (nI i)]).toArray s = true := fun w h => hts w (List.mem_cons_of_mem _ h)
  have hown : s.vm.findClass RX2 = some m.cls := findClass_of_methodNamed B.named
  have hlocks := B.notSynchronized
  have hS : va_S (fun _ => False) s.heap s.heap [] := va_S.rf
  obtain ⟨⟨tt, ff, hZT, hTT, hZF, hTF⟩, hXS⟩ := id hSt
  have hl := lv_entry ([.ref (a 5), .int (nI k), .int (nI i)]) (n := 3) (Nat.le_of_ble_eq_true rfl)
  rw [lg_entry_eq]
  generalize (lg_sl ([.ref (a 5), .int (nI k), .int (nI i)]) ++ List.replicate (3 - (lg_sl ([.ref (a 5), .int (nI k), .int (nI i)])).length) Slot.unset).toArray = ls at hl ⊢
  have hl : lv_has ls 3 [(0, .ref (a 5)), (1, .int (nI k)), (2, .int (nI i))] := hl
  refine zb_abs (fun Q hQ => ?_)
  refine lv_aload_n hx hb dX2_part_0 rfl (lv_at hl 0 rfl) ?_
  refine va_get (D := D) (ci := 2) (v := .ref (a 6)) (fs := [.ref (a 6), .int ob.2.1, .int ob.2.2]) (C := RX2) (T := TX2) (N := 3) hx hb htb inX2 hown hK hP 5 rfl rfl 0 (by decide) (htb _ kF_X2_9) (fun _ h9 => h9) rfl dX2_part_1 ?_
  refine lv_iload_n hx hb dX2_part_4 rfl (lv_at hl 1 rfl) ?_
  refine lv_iconst (v := 4) hx hb dX2_part_5 (by decide) ?_
  refine lv_imul hx hb dX2_part_6 ?_
  refine zb_ti (pk_mul k 4) ?_
  refine lv_iload_n hx hb dX2_part_7 rfl (lv_at hl 2 rfl) ?_
  refine lv_iadd hx hb dX2_part_8 ?_
  refine zb_ti (nI_add (k * 4) i) ?_
  refine va_iald (i := nI ((k * 4) + i)) hx hb hK hP 6 0 rfl rfl (vp_in_nI (by omega) (by decide)) dX2_part_9 ?_
  refine zb_ti (y := ob.1 ((k * 4) + i)) (by rw [nI_clamp (by omega)]) ?_
  rw [hQ]
  exact W.iret (v := ob.1 ((k * 4) + i)) hx hb hr (fun t ht hW => ⟨congrArg (fun z => Outcome.returned (some (Value.int z))) (rfl), ht⟩) (fun q h => nomatch h) dX2_part_10
set_option maxHeartbeats 4000000 in
set_option maxRecDepth 100000 in
theorem c_trEnd (l : Launch) (D : va_G) (a : Nat → Nat) (cA : ClassId) (N : Int32) (f : Nat → Int32) (ob : OB) (tr : TR) (nd : ND) (sz : Nat)   : Met l yX3_end (wX3_end :: wb) ({ frames := 0, cells := 0, slots := 0, locals := 0 } : Room) (va_Pc [.ref (a 7)] (zPre D [(cA, .int)] (cw a cA N f ob tr nd) sz)) (zb_Vv D vwCl (cw a cA N f ob (tr_end tr) nd) (va_A (cw a cA N f ob tr nd) sz)) 0 0 (va_A (cw a cA N f ob tr nd) sz) := by
  refine Met.ofW (cc := cX3_end) (maxL := 1) (ret := none) (by decide) rfl ?_
  intro p ev s m args below meth c s₁ B hml hv
  obtain ⟨rfl, hsz, hP, hK, hD0, hSt, hnw⟩ := hv
  have hx := B.exec
  have hb := B.bytes
  have hr := B.returns
  have hts := atoms_spec (ws := wX3_end :: wb) B.pre
  have htb : ∀ w ∈ wb, w.before ([.ref (a 7)]).toArray s = true := fun w h => hts w (List.mem_cons_of_mem _ h)
  have hown : s.vm.findClass RX3 = some m.cls := findClass_of_methodNamed B.named
  have hlocks := B.notSynchronized
  subst hsz
  have hD := hD0.self (sz := s.heap.size)
  clear hD0
  generalize hAe : va_A (cw a cA N f ob tr nd) s.heap.size = A at hD hSt ⊢
  have hA : ∀ q : Nat, s.heap.size ≤ q → A q := fun q h => by rw [← hAe]; exact Or.inr h
  have hS : va_S A s.heap s.heap [] := va_S.rf
  obtain ⟨⟨tt, ff, hZT, hTT, hZF, hTF⟩, hXS⟩ := id hSt
  have hl := lv_entry ([.ref (a 7)]) (n := 1) (Nat.le_of_ble_eq_true rfl)
  rw [lg_entry_eq]
  generalize (lg_sl ([.ref (a 7)]) ++ List.replicate (1 - (lg_sl ([.ref (a 7)])).length) Slot.unset).toArray = ls at hl ⊢
  have hl : lv_has ls 1 [(0, .ref (a 7))] := hl
  refine zb_abs (fun Q hQ => ?_)
  refine lv_aload_n hx hb dX3_end_0 rfl (lv_at hl 0 rfl) ?_
  refine lv_iconst (v := 0) hx hb dX3_end_1 (by decide) ?_
  refine va_put (D := D) (ci := 3) (v := .int 0) (fs := [.ref (a 8), .int tr.2.1, .int tr.2.2.1, .int tr.2.2.2.1, .int tr.2.2.2.2.1, .int tr.2.2.2.2.2.1, .int tr.2.2.2.2.2.2.1, .int tr.2.2.2.2.2.2.2]) (ty := .boolean) (C := RX3) (T := TX3) (N := 8) hx hb htb inX3 tyX3 tyX3_ok nmX3 hown hK hP hD hS 7 rfl rfl 1 (by decide) (htb _ kF_X3_28) (fun _ h9 => h9) rfl (by decide +kernel) rfl rfl (Nat.le_of_ble_eq_true rfl) dX3_end_2 (fun H locs hP hD hS => ?_)
  have hP : va_P D vwCl (cw a cA N f ob (tr.1, 0, tr.2.2.1, tr.2.2.2.1, tr.2.2.2.2.1, tr.2.2.2.2.2.1, tr.2.2.2.2.2.2.1, tr.2.2.2.2.2.2.2) nd) H := hP
  have hD : va_D A (cw a cA N f ob (tr.1, 0, tr.2.2.1, tr.2.2.2.1, tr.2.2.2.2.1, tr.2.2.2.2.2.1, tr.2.2.2.2.2.2.1, tr.2.2.2.2.2.2.2) nd) := hD
  refine lv_aload_n hx hb dX3_end_5 rfl (lv_at hl 0 rfl) ?_
  refine lv_iconst (v := 0) hx hb dX3_end_6 (by decide) ?_
  refine va_put (D := D) (ci := 3) (v := .int 0) (fs := [.ref (a 8), .int 0, .int tr.2.2.1, .int tr.2.2.2.1, .int tr.2.2.2.2.1, .int tr.2.2.2.2.2.1, .int tr.2.2.2.2.2.2.1, .int tr.2.2.2.2.2.2.2]) (ty := .int) (C := RX3) (T := TX3) (N := 8) hx hb htb inX3 tyX3 tyX3_ok nmX3 hown hK hP hD hS 7 rfl rfl 4 (by decide) (htb _ kF_X3_21) (fun _ h9 => h9) rfl (by decide +kernel) rfl rfl (Nat.le_of_ble_eq_true rfl) dX3_end_7 (fun H locs hP hD hS => ?_)
  have hP : va_P D vwCl (cw a cA N f ob (tr.1, 0, tr.2.2.1, tr.2.2.2.1, 0, tr.2.2.2.2.2.1, tr.2.2.2.2.2.2.1, tr.2.2.2.2.2.2.2) nd) H := hP
  have hD : va_D A (cw a cA N f ob (tr.1, 0, tr.2.2.1, tr.2.2.2.1, 0, tr.2.2.2.2.2.1, tr.2.2.2.2.2.2.1, tr.2.2.2.2.2.2.2) nd) := hD
  rw [hQ]
  have hw9 : (cw a cA N f ob (tr.1, 0, tr.2.2.1, tr.2.2.2.1, 0, tr.2.2.2.2.2.1, tr.2.2.2.2.2.2.1, tr.2.2.2.2.2.2.2) nd) = (cw a cA N f ob (tr_end tr) nd) := rfl
  exact W.vret hx hb hr (fun t ht hW => ⟨rfl, by rw [ht, ← hw9]; exact hP, by rw [← hw9]; exact hD, hS.F ht⟩) hS.2.2 dX3_end_10
set_option maxHeartbeats 4000000 in
set_option maxRecDepth 100000 in
theorem c_trNext (l : Launch) (D : va_G) (a : Nat → Nat) (cA : ClassId) (N : Int32) (f : Nat → Int32) (ob : OB) (tr : TR) (nd : ND) (sz : Nat)   : Met l yX3_awaitNext (wX3_awaitNext :: wb) ({ frames := 0, cells := 0, slots := 0, locals := 0 } : Room) (va_Pc [.ref (a 7)] (zPre D [(cA, .int)] (cw a cA N f ob tr nd) sz)) (zb_Vv D vwCl (cw a cA N f ob (tr_next tr) nd) (va_A (cw a cA N f ob tr nd) sz)) 0 0 (va_A (cw a cA N f ob tr nd) sz) := by
  refine Met.ofW (cc := cX3_awaitNext) (maxL := 1) (ret := none) (by decide) rfl ?_
  intro p ev s m args below meth c s₁ B hml hv
  obtain ⟨rfl, hsz, hP, hK, hD0, hSt, hnw⟩ := hv
  have hx := B.exec
  have hb := B.bytes
  have hr := B.returns
  have hts := atoms_spec (ws := wX3_awaitNext :: wb) B.pre
  have htb : ∀ w ∈ wb, w.before ([.ref (a 7)]).toArray s = true := fun w h => hts w (List.mem_cons_of_mem _ h)
  have hown : s.vm.findClass RX3 = some m.cls := findClass_of_methodNamed B.named
  have hlocks := B.notSynchronized
  subst hsz
  have hD := hD0.self (sz := s.heap.size)
  clear hD0
  generalize hAe : va_A (cw a cA N f ob tr nd) s.heap.size = A at hD hSt ⊢
  have hA : ∀ q : Nat, s.heap.size ≤ q → A q := fun q h => by rw [← hAe]; exact Or.inr h
  have hS : va_S A s.heap s.heap [] := va_S.rf
  obtain ⟨⟨tt, ff, hZT, hTT, hZF, hTF⟩, hXS⟩ := id hSt
  have hl := lv_entry ([.ref (a 7)]) (n := 1) (Nat.le_of_ble_eq_true rfl)
  rw [lg_entry_eq]
  generalize (lg_sl ([.ref (a 7)]) ++ List.replicate (1 - (lg_sl ([.ref (a 7)])).length) Slot.unset).toArray = ls at hl ⊢
  have hl : lv_has ls 1 [(0, .ref (a 7))] := hl
  refine zb_abs (fun Q hQ => ?_)
  refine lv_aload_n hx hb dX3_awaitNext_0 rfl (lv_at hl 0 rfl) ?_
  refine lv_bipush (v := 16) hx hb dX3_awaitNext_1 (by decide) ?_
  refine lv_aload_n hx hb dX3_awaitNext_3 rfl (lv_at hl 0 rfl) ?_
  refine va_get (D := D) (ci := 3) (v := .int tr.2.2.2.2.2.2.1) (fs := [.ref (a 8), .int tr.2.1, .int tr.2.2.1, .int tr.2.2.2.1, .int tr.2.2.2.2.1, .int tr.2.2.2.2.2.1, .int tr.2.2.2.2.2.2.1, .int tr.2.2.2.2.2.2.2]) (C := RX3) (T := TX3) (N := 8) hx hb htb inX3 hown hK hP 7 rfl rfl 6 (by decide) (htb _ kF_X3_34) (fun _ h9 => h9) rfl dX3_awaitNext_4 ?_
  refine lv_isub hx hb dX3_awaitNext_7 ?_
  refine va_put (D := D) (ci := 3) (v := .int (16 - tr.2.2.2.2.2.2.1)) (fs := [.ref (a 8), .int tr.2.1, .int tr.2.2.1, .int tr.2.2.2.1, .int tr.2.2.2.2.1, .int tr.2.2.2.2.2.1, .int tr.2.2.2.2.2.2.1, .int tr.2.2.2.2.2.2.2]) (ty := .int) (C := RX3) (T := TX3) (N := 8) hx hb htb inX3 tyX3 tyX3_ok nmX3 hown hK hP hD hS 7 rfl rfl 6 (by decide) (htb _ kF_X3_34) (fun _ h9 => h9) rfl (by decide +kernel) rfl rfl (Nat.le_of_ble_eq_true rfl) dX3_awaitNext_8 (fun H locs hP hD hS => ?_)
  have hP : va_P D vwCl (cw a cA N f ob (tr.1, tr.2.1, tr.2.2.1, tr.2.2.2.1, tr.2.2.2.2.1, tr.2.2.2.2.2.1, 16 - tr.2.2.2.2.2.2.1, tr.2.2.2.2.2.2.2) nd) H := hP
  have hD : va_D A (cw a cA N f ob (tr.1, tr.2.1, tr.2.2.1, tr.2.2.2.1, tr.2.2.2.2.1, tr.2.2.2.2.2.1, 16 - tr.2.2.2.2.2.2.1, tr.2.2.2.2.2.2.2) nd) := hD
  refine lv_aload_n hx hb dX3_awaitNext_11 rfl (lv_at hl 0 rfl) ?_
  refine lv_iconst (v := 0) hx hb dX3_awaitNext_12 (by decide) ?_
  refine va_put (D := D) (ci := 3) (v := .int 0) (fs := [.ref (a 8), .int tr.2.1, .int tr.2.2.1, .int tr.2.2.2.1, .int tr.2.2.2.2.1, .int tr.2.2.2.2.2.1, .int (16 - tr.2.2.2.2.2.2.1), .int tr.2.2.2.2.2.2.2]) (ty := .int) (C := RX3) (T := TX3) (N := 8) hx hb htb inX3 tyX3 tyX3_ok nmX3 hown hK hP hD hS 7 rfl rfl 7 (by decide) (htb _ kF_X3_37) (fun _ h9 => h9) rfl (by decide +kernel) rfl rfl (Nat.le_of_ble_eq_true rfl) dX3_awaitNext_13 (fun H locs hP hD hS => ?_)
  have hP : va_P D vwCl (cw a cA N f ob (tr.1, tr.2.1, tr.2.2.1, tr.2.2.2.1, tr.2.2.2.2.1, tr.2.2.2.2.2.1, 16 - tr.2.2.2.2.2.2.1, 0) nd) H := hP
  have hD : va_D A (cw a cA N f ob (tr.1, tr.2.1, tr.2.2.1, tr.2.2.2.1, tr.2.2.2.2.1, tr.2.2.2.2.2.1, 16 - tr.2.2.2.2.2.2.1, 0) nd) := hD
  rw [hQ]
  have hw9 : (cw a cA N f ob (tr.1, tr.2.1, tr.2.2.1, tr.2.2.2.1, tr.2.2.2.2.1, tr.2.2.2.2.2.1, 16 - tr.2.2.2.2.2.2.1, 0) nd) = (cw a cA N f ob (tr_next tr) nd) := rfl
  exact W.vret hx hb hr (fun t ht hW => ⟨rfl, by rw [ht, ← hw9]; exact hP, by rw [← hw9]; exact hD, hS.F ht⟩) hS.2.2 dX3_awaitNext_16
set_option maxHeartbeats 4000000 in
set_option maxRecDepth 100000 in
theorem c_trBegin (l : Launch) (D : va_G) (a : Nat → Nat) (cA : ClassId) (N : Int32) (f : Nat → Int32) (ob : OB) (tr : TR) (nd : ND) (sz : Nat) (en ad wr : Int32) (hwr : wr = 0 ∨ wr = 1) : Met l yX3_begin (wX3_begin :: wb) ({ frames := 0, cells := 0, slots := 0, locals := 0 } : Room) (va_Pc [.ref (a 7), .int en, .int ad, .int wr] (zPre D [(cA, .int)] (cw a cA N f ob tr nd) sz)) (zb_Vv D vwCl (cw a cA N f ob (tr_begin tr en ad wr) nd) (va_A (cw a cA N f ob tr nd) sz)) 0 0 (va_A (cw a cA N f ob tr nd) sz) := by
  refine Met.ofW (cc := cX3_begin) (maxL := 4) (ret := none) (by decide) rfl ?_
  intro p ev s m args below meth c s₁ B hml hv
  obtain ⟨rfl, hsz, hP, hK, hD0, hSt, hnw⟩ := hv
  have hx := B.exec
  have hb := B.bytes
  have hr := B.returns
  have hts := atoms_spec (ws := wX3_begin :: wb) B.pre
  have htb : ∀ w ∈ wb, w.before ([.ref (a 7), .int en, .int ad, .int wr]).toArray s = true := fun w h => hts w (List.mem_cons_of_mem _ h)
  have hown : s.vm.findClass RX3 = some m.cls := findClass_of_methodNamed B.named
  have hlocks := B.notSynchronized
  subst hsz
  have hD := hD0.self (sz := s.heap.size)
  clear hD0
  generalize hAe : va_A (cw a cA N f ob tr nd) s.heap.size = A at hD hSt ⊢
  have hA : ∀ q : Nat, s.heap.size ≤ q → A q := fun q h => by rw [← hAe]; exact Or.inr h
  have hS : va_S A s.heap s.heap [] := va_S.rf
  obtain ⟨⟨tt, ff, hZT, hTT, hZF, hTF⟩, hXS⟩ := id hSt
  have hl := lv_entry ([.ref (a 7), .int en, .int ad, .int wr]) (n := 4) (Nat.le_of_ble_eq_true rfl)
  rw [lg_entry_eq]
  generalize (lg_sl ([.ref (a 7), .int en, .int ad, .int wr]) ++ List.replicate (4 - (lg_sl ([.ref (a 7), .int en, .int ad, .int wr])).length) Slot.unset).toArray = ls at hl ⊢
  have hl : lv_has ls 4 [(0, .ref (a 7)), (1, .int en), (2, .int ad), (3, .int wr)] := hl
  refine zb_abs (fun Q hQ => ?_)
  refine lv_aload_n hx hb dX3_begin_0 rfl (lv_at hl 0 rfl) ?_
  refine lv_iload_n hx hb dX3_begin_1 rfl (lv_at hl 1 rfl) ?_
  refine va_put (D := D) (ci := 3) (v := .int en) (fs := [.ref (a 8), .int tr.2.1, .int tr.2.2.1, .int tr.2.2.2.1, .int tr.2.2.2.2.1, .int tr.2.2.2.2.2.1, .int tr.2.2.2.2.2.2.1, .int tr.2.2.2.2.2.2.2]) (ty := .int) (C := RX3) (T := TX3) (N := 8) hx hb htb inX3 tyX3 tyX3_ok nmX3 hown hK hP hD hS 7 rfl rfl 3 (by decide) (htb _ kF_X3_17) (fun _ h9 => h9) rfl (by decide +kernel) rfl rfl (Nat.le_of_ble_eq_true rfl) dX3_begin_2 (fun H locs hP hD hS => ?_)
  have hP : va_P D vwCl (cw a cA N f ob (tr.1, tr.2.1, tr.2.2.1, en, tr.2.2.2.2.1, tr.2.2.2.2.2.1, tr.2.2.2.2.2.2.1, tr.2.2.2.2.2.2.2) nd) H := hP
  have hD : va_D A (cw a cA N f ob (tr.1, tr.2.1, tr.2.2.1, en, tr.2.2.2.2.1, tr.2.2.2.2.2.1, tr.2.2.2.2.2.2.1, tr.2.2.2.2.2.2.2) nd) := hD
  refine lv_aload_n hx hb dX3_begin_5 rfl (lv_at hl 0 rfl) ?_
  refine lv_iload_n hx hb dX3_begin_6 rfl (lv_at hl 2 rfl) ?_
  refine va_put (D := D) (ci := 3) (v := .int ad) (fs := [.ref (a 8), .int tr.2.1, .int tr.2.2.1, .int en, .int tr.2.2.2.2.1, .int tr.2.2.2.2.2.1, .int tr.2.2.2.2.2.2.1, .int tr.2.2.2.2.2.2.2]) (ty := .int) (C := RX3) (T := TX3) (N := 8) hx hb htb inX3 tyX3 tyX3_ok nmX3 hown hK hP hD hS 7 rfl rfl 4 (by decide) (htb _ kF_X3_21) (fun _ h9 => h9) rfl (by decide +kernel) rfl rfl (Nat.le_of_ble_eq_true rfl) dX3_begin_7 (fun H locs hP hD hS => ?_)
  have hP : va_P D vwCl (cw a cA N f ob (tr.1, tr.2.1, tr.2.2.1, en, ad, tr.2.2.2.2.2.1, tr.2.2.2.2.2.2.1, tr.2.2.2.2.2.2.2) nd) H := hP
  have hD : va_D A (cw a cA N f ob (tr.1, tr.2.1, tr.2.2.1, en, ad, tr.2.2.2.2.2.1, tr.2.2.2.2.2.2.1, tr.2.2.2.2.2.2.2) nd) := hD
  refine lv_aload_n hx hb dX3_begin_10 rfl (lv_at hl 0 rfl) ?_
  refine lv_iload_n hx hb dX3_begin_11 rfl (lv_at hl 3 rfl) ?_
  refine va_put (D := D) (ci := 3) (v := .int wr) (fs := [.ref (a 8), .int tr.2.1, .int tr.2.2.1, .int en, .int ad, .int tr.2.2.2.2.2.1, .int tr.2.2.2.2.2.2.1, .int tr.2.2.2.2.2.2.2]) (ty := .boolean) (C := RX3) (T := TX3) (N := 8) hx hb htb inX3 tyX3 tyX3_ok nmX3 hown hK hP hD hS 7 rfl rfl 2 (by decide) (htb _ kF_X3_24) (fun _ h9 => h9) rfl (by decide +kernel) (by rcases hwr with rfl | rfl <;> rfl) (by rcases hwr with rfl | rfl <;> rfl) (Nat.le_of_ble_eq_true rfl) dX3_begin_12 (fun H locs hP hD hS => ?_)
  have hP : va_P D vwCl (cw a cA N f ob (tr.1, tr.2.1, wr, en, ad, tr.2.2.2.2.2.1, tr.2.2.2.2.2.2.1, tr.2.2.2.2.2.2.2) nd) H := hP
  have hD : va_D A (cw a cA N f ob (tr.1, tr.2.1, wr, en, ad, tr.2.2.2.2.2.1, tr.2.2.2.2.2.2.1, tr.2.2.2.2.2.2.2) nd) := hD
  refine lv_aload_n hx hb dX3_begin_15 rfl (lv_at hl 0 rfl) ?_
  refine lv_iconst (v := 1) hx hb dX3_begin_16 (by decide) ?_
  refine va_put (D := D) (ci := 3) (v := .int 1) (fs := [.ref (a 8), .int tr.2.1, .int wr, .int en, .int ad, .int tr.2.2.2.2.2.1, .int tr.2.2.2.2.2.2.1, .int tr.2.2.2.2.2.2.2]) (ty := .boolean) (C := RX3) (T := TX3) (N := 8) hx hb htb inX3 tyX3 tyX3_ok nmX3 hown hK hP hD hS 7 rfl rfl 1 (by decide) (htb _ kF_X3_28) (fun _ h9 => h9) rfl (by decide +kernel) rfl rfl (Nat.le_of_ble_eq_true rfl) dX3_begin_17 (fun H locs hP hD hS => ?_)
  have hP : va_P D vwCl (cw a cA N f ob (tr.1, 1, wr, en, ad, tr.2.2.2.2.2.1, tr.2.2.2.2.2.2.1, tr.2.2.2.2.2.2.2) nd) H := hP
  have hD : va_D A (cw a cA N f ob (tr.1, 1, wr, en, ad, tr.2.2.2.2.2.1, tr.2.2.2.2.2.2.1, tr.2.2.2.2.2.2.2) nd) := hD
  refine lv_aload_n hx hb dX3_begin_20 rfl (lv_at hl 0 rfl) ?_
  refine lv_iconst (v := 0) hx hb dX3_begin_21 (by decide) ?_
  refine va_put (D := D) (ci := 3) (v := .int 0) (fs := [.ref (a 8), .int 1, .int wr, .int en, .int ad, .int tr.2.2.2.2.2.1, .int tr.2.2.2.2.2.2.1, .int tr.2.2.2.2.2.2.2]) (ty := .int) (C := RX3) (T := TX3) (N := 8) hx hb htb inX3 tyX3 tyX3_ok nmX3 hown hK hP hD hS 7 rfl rfl 5 (by decide) (htb _ kF_X3_31) (fun _ h9 => h9) rfl (by decide +kernel) rfl rfl (Nat.le_of_ble_eq_true rfl) dX3_begin_22 (fun H locs hP hD hS => ?_)
  have hP : va_P D vwCl (cw a cA N f ob (tr.1, 1, wr, en, ad, 0, tr.2.2.2.2.2.2.1, tr.2.2.2.2.2.2.2) nd) H := hP
  have hD : va_D A (cw a cA N f ob (tr.1, 1, wr, en, ad, 0, tr.2.2.2.2.2.2.1, tr.2.2.2.2.2.2.2) nd) := hD
  refine lv_aload_n hx hb dX3_begin_25 rfl (lv_at hl 0 rfl) ?_
  refine lv_iconst (v := 0) hx hb dX3_begin_26 (by decide) ?_
  refine va_put (D := D) (ci := 3) (v := .int 0) (fs := [.ref (a 8), .int 1, .int wr, .int en, .int ad, .int 0, .int tr.2.2.2.2.2.2.1, .int tr.2.2.2.2.2.2.2]) (ty := .int) (C := RX3) (T := TX3) (N := 8) hx hb htb inX3 tyX3 tyX3_ok nmX3 hown hK hP hD hS 7 rfl rfl 6 (by decide) (htb _ kF_X3_34) (fun _ h9 => h9) rfl (by decide +kernel) rfl rfl (Nat.le_of_ble_eq_true rfl) dX3_begin_27 (fun H locs hP hD hS => ?_)
  have hP : va_P D vwCl (cw a cA N f ob (tr.1, 1, wr, en, ad, 0, 0, tr.2.2.2.2.2.2.2) nd) H := hP
  have hD : va_D A (cw a cA N f ob (tr.1, 1, wr, en, ad, 0, 0, tr.2.2.2.2.2.2.2) nd) := hD
  refine lv_aload_n hx hb dX3_begin_30 rfl (lv_at hl 0 rfl) ?_
  refine lv_iconst (v := 0) hx hb dX3_begin_31 (by decide) ?_
  refine va_put (D := D) (ci := 3) (v := .int 0) (fs := [.ref (a 8), .int 1, .int wr, .int en, .int ad, .int 0, .int 0, .int tr.2.2.2.2.2.2.2]) (ty := .int) (C := RX3) (T := TX3) (N := 8) hx hb htb inX3 tyX3 tyX3_ok nmX3 hown hK hP hD hS 7 rfl rfl 7 (by decide) (htb _ kF_X3_37) (fun _ h9 => h9) rfl (by decide +kernel) rfl rfl (Nat.le_of_ble_eq_true rfl) dX3_begin_32 (fun H locs hP hD hS => ?_)
  have hP : va_P D vwCl (cw a cA N f ob (tr.1, 1, wr, en, ad, 0, 0, 0) nd) H := hP
  have hD : va_D A (cw a cA N f ob (tr.1, 1, wr, en, ad, 0, 0, 0) nd) := hD
  rw [hQ]
  have hw9 : (cw a cA N f ob (tr.1, 1, wr, en, ad, 0, 0, 0) nd) = (cw a cA N f ob (tr_begin tr en ad wr) nd) := rfl
  exact W.vret hx hb hr (fun t ht hW => ⟨rfl, by rw [ht, ← hw9]; exact hP, by rw [← hw9]; exact hD, hS.F ht⟩) hS.2.2 dX3_begin_35
set_option maxHeartbeats 4000000 in
set_option maxRecDepth 100000 in
theorem c_left (l : Launch) (D : va_G) (a : Nat → Nat) (cA : ClassId) (N : Int32) (f : Nat → Int32) (ob : OB) (tr : TR) (nd : ND) (e0 d0 : Nat) (he0 : e0 < 22) (hen : tr.2.2.2.1 = nI e0) (hdn : tr.2.2.2.2.2.1 = nI d0) (hd0 : d0 ≤ xZ e0) : Met l yX3_left (wX3_left :: wb) ({ frames := 1, cells := 0, slots := 0, locals := 20 } : Room) (va_Pc [.ref (a 7)] (zPu D [(cA, .int)] (cw a cA N f ob tr nd))) (zb_I (nI (xZ e0 - d0))) 0 0 (fun _ => False) := by
  refine Met.ofW (cc := cX3_left) (maxL := 1) (ret := (some .int)) (by decide) rfl ?_
  intro p ev s m args below meth c s₁ B hml hv
  obtain ⟨rfl, hP, hK, hSt, hnw⟩ := hv
  have hx := B.exec
  have hb := B.bytes
  have hr := B.returns
  have hts := atoms_spec (ws := wX3_left :: wb) B.pre
  have htb : ∀ w ∈ wb, w.before ([.ref (a 7)]).toArray s = true := fun w h => hts w (List.mem_cons_of_mem _ h)
  have hown : s.vm.findClass RX3 = some m.cls := findClass_of_methodNamed B.named
  have hlocks := B.notSynchronized
  have hS : va_S (fun _ => False) s.heap s.heap [] := va_S.rf
  obtain ⟨⟨tt, ff, hZT, hTT, hZF, hTF⟩, hXS⟩ := id hSt
  have hl := lv_entry ([.ref (a 7)]) (n := 1) (Nat.le_of_ble_eq_true rfl)
  rw [lg_entry_eq]
  generalize (lg_sl ([.ref (a 7)]) ++ List.replicate (1 - (lg_sl ([.ref (a 7)])).length) Slot.unset).toArray = ls at hl ⊢
  have hl : lv_has ls 1 [(0, .ref (a 7))] := hl
  refine zb_abs (fun Q hQ => ?_)
  obtain ⟨h0, go0, wr0, en0, ad0, dn0, tu0, ti0⟩ := tr
  obtain rfl : en0 = nI e0 := hen
  obtain rfl : dn0 = nI d0 := hdn
  have hft := x_fit e0 he0
  refine lv_aload_n hx hb dX3_left_0 rfl (lv_at hl 0 rfl) ?_
  refine va_get (D := D) (ci := 3) (v := .int (nI e0)) (fs := [.ref (a 8), .int go0, .int wr0, .int (nI e0), .int ad0, .int (nI d0), .int tu0, .int ti0]) (C := RX3) (T := TX3) (N := 8) hx hb htb inX3 hown hK hP 7 rfl rfl 3 (by decide) (htb _ kF_X3_17) (fun _ h9 => h9) rfl dX3_left_1 ?_
  refine zb_ci (va_runS (As := [.int (nI e0)]) (rest := []) ⟨hx, hb, hml, hown, htb⟩ (c_sizeOf l D a cA N f ob (h0, go0, wr0, nI e0, ad0, nI d0, tu0, ti0) nd e0 he0) (va_cwS 1 htb (wb_S kM_X3_40 kZ_X0_sizeOf kN_X0 kD_X0_sizeOf) rfl rfl rfl (by decide +kernel) ⟨Nat.le_of_ble_eq_true rfl, Nat.le_of_ble_eq_true rfl⟩) (zp_S hP hK hSt hS hnw) rfl rfl hl.1 rfl (lv_room (Nat.le_of_ble_eq_true rfl)) dX3_left_4 ⟨Nat.le_of_ble_eq_true rfl, Nat.le_of_ble_eq_true rfl⟩) ?_
  refine lv_aload_n hx hb dX3_left_7 rfl (lv_at hl 0 rfl) ?_
  refine va_get (D := D) (ci := 3) (v := .int (nI d0)) (fs := [.ref (a 8), .int go0, .int wr0, .int (nI e0), .int ad0, .int (nI d0), .int tu0, .int ti0]) (C := RX3) (T := TX3) (N := 8) hx hb htb inX3 hown hK hP 7 rfl rfl 5 (by decide) (htb _ kF_X3_31) (fun _ h9 => h9) rfl dX3_left_8 ?_
  refine lv_isub hx hb dX3_left_11 ?_
  rw [hQ]
  exact W.iret (v := (nI (xZ e0)) - (nI d0)) hx hb hr (fun t ht hW => ⟨congrArg (fun z => Outcome.returned (some (Value.int z))) (pk_sub hd0), ht⟩) (fun q h => nomatch h) dX3_left_12
set_option maxHeartbeats 4000000 in
set_option maxRecDepth 100000 in
theorem c_add (l : Launch) (D : va_G) (a : Nat → Nat) (cA : ClassId) (N : Int32) (f : Nat → Int32) (ob : OB) (tr : TR) (nd : ND) (sz : Nat) (e0 d0 n x : Nat) (he0 : e0 < 22) (hen : tr.2.2.2.1 = nI e0) (hdn : tr.2.2.2.2.2.1 = nI d0) (hd0 : d0 ≤ xZ e0) (hle : n ≤ xZ e0 - d0) (hn8 : n ≤ 8) (hx64 : x < 2 ^ 64) : Met l yX3_add (wX3_add :: wb) ({ frames := 2, cells := 0, slots := 0, locals := 40 } : Room) (va_Pc [.ref (a 7), .long (lN x), .int (nI n)] (zPre D [(cA, .int)] (cw a cA N f ob tr nd) sz)) (zb_Vi 1 D vwCl (cw a cA N f ob (tr_add tr d0 n x) nd) (va_A (cw a cA N f ob tr nd) sz)) 0 0 (va_A (cw a cA N f ob tr nd) sz) := by
  refine Met.ofW (cc := cX3_add) (maxL := 5) (ret := (some .boolean)) (by decide) rfl ?_
  intro p ev s m args below meth c s₁ B hml hv
  obtain ⟨rfl, hsz, hP, hK, hD0, hSt, hnw⟩ := hv
  have hx := B.exec
  have hb := B.bytes
  have hr := B.returns
  have hts := atoms_spec (ws := wX3_add :: wb) B.pre
  have htb : ∀ w ∈ wb, w.before ([.ref (a 7), .long (lN x), .int (nI n)]).toArray s = true := fun w h => hts w (List.mem_cons_of_mem _ h)
  have hown : s.vm.findClass RX3 = some m.cls := findClass_of_methodNamed B.named
  have hlocks := B.notSynchronized
  subst hsz
  have hD := hD0.self (sz := s.heap.size)
  clear hD0
  generalize hAe : va_A (cw a cA N f ob tr nd) s.heap.size = A at hD hSt ⊢
  have hA : ∀ q : Nat, s.heap.size ≤ q → A q := fun q h => by rw [← hAe]; exact Or.inr h
  have hS : va_S A s.heap s.heap [] := va_S.rf
  obtain ⟨⟨tt, ff, hZT, hTT, hZF, hTF⟩, hXS⟩ := id hSt
  have hl := lv_entry ([.ref (a 7), .long (lN x), .int (nI n)]) (n := 5) (Nat.le_of_ble_eq_true rfl)
  rw [lg_entry_eq]
  generalize (lg_sl ([.ref (a 7), .long (lN x), .int (nI n)]) ++ List.replicate (5 - (lg_sl ([.ref (a 7), .long (lN x), .int (nI n)])).length) Slot.unset).toArray = ls at hl ⊢
  have hl : lv_has ls 5 [(0, .ref (a 7)), (1, .long (lN x)), (3, .int (nI n))] := hl
  refine zb_abs (fun Q hQ => ?_)
  obtain ⟨h0, go0, wr0, en0, ad0, dn0, tu0, ti0⟩ := tr
  obtain rfl : en0 = nI e0 := hen
  obtain rfl : dn0 = nI d0 := hdn
  have hft := x_fit e0 he0
  refine lv_iload_n hx hb dX3_add_0 rfl (lv_at hl 2 rfl) ?_
  refine lv_aload_n hx hb dX3_add_1 rfl (lv_at hl 0 rfl) ?_
  refine zb_ci (va_runV (As := []) (rest := [.int (nI n)]) ⟨hx, hb, hml, hown, htb⟩ (c_left l D a cA N f ob (h0, go0, wr0, nI e0, ad0, nI d0, tu0, ti0) nd e0 d0 he0 rfl rfl hd0) (cwV 0 htb (wb_V kM_X3_44 kI_X3_left kS_X3_left kN_X3 kD_X3_left) rfl rfl rfl (by decide +kernel) ⟨Nat.le_of_ble_eq_true rfl, Nat.le_of_ble_eq_true rfl⟩) (zp_V 7 rfl rfl hP hK hSt hS hnw) rfl rfl hl.1 rfl (lv_room (Nat.le_of_ble_eq_true rfl)) dX3_add_2 ⟨Nat.le_of_ble_eq_true rfl, Nat.le_of_ble_eq_true rfl⟩) ?_
  refine lv_icmp_le (tgt := 10) hx hb dX3_add_5 (by decide) (fun _ => ?_) (fun hno => absurd (nI_le hle (by omega)) hno)
  refine lv_iconst (v := 0) hx hb dX3_add_10 (by decide) ?_
  refine lv_istore hx hb dX3_add_11 hl (by decide) rfl (fun ls hl => ?_)
  have hl : lv_has ls 5 [(4, .int 0), (0, .ref (a 7)), (1, .long (lN x)), (3, .int (nI n))] := hl
  have hP : va_P D vwCl (cw a cA N f ob (pF h0 d0 0 x 0, go0, wr0, nI e0, ad0, nI d0, tu0, ti0) nd) s.heap := by rw [pF_0]; exact hP
  have hD : va_D A (cw a cA N f ob (pF h0 d0 0 x 0, go0, wr0, nI e0, ad0, nI d0, tu0, ti0) nd) := by rw [pF_0]; exact hD
  have lp : ∀ (nn k : Nat) (ls : Array Slot) (H : Heap) (locs : List Loc), va_P D vwCl (cw a cA N f ob ((pF h0 d0 (k) x 0), go0, wr0, nI e0, ad0, nI d0, tu0, ti0) nd) H → va_D A (cw a cA N f ob ((pF h0 d0 (k) x 0), go0, wr0, nI e0, ad0, nI d0, tu0, ti0) nd) → va_S A s.heap H locs → k + nn = n → lv_has ls 5 [(0, .ref (a 7)), (1, .long (lN x)), (3, .int (nI n)), (4, .int (nI (k)))] → W p l ev ({ frames := 2, cells := 0, slots := 0, locals := 40 } : Room) s m ([.ref (a 7), .long (lN x), .int (nI n)]).toArray below meth c H locs 0 0 Q (F0 m 13 ls []) := by
    intro nn
    induction nn with
    | zero =>
      intro k ls H locs hP hD hS hk_lp  hl
      have hk0_lp : k = n := by omega
      refine lv_iload hx hb dX3_add_13 (lv_at hl 3 rfl) ?_
      refine lv_iload_n hx hb dX3_add_15 rfl (lv_at hl 2 rfl) ?_
      refine lv_icmp_ge (tgt := 49) hx hb dX3_add_16 (by decide) (fun _ => ?_) (fun hno => absurd (by rw [hk0_lp]; exact nI_le (Nat.le_refl _) (by omega)) hno)
      refine lv_aload_n hx hb dX3_add_49 rfl (lv_at hl 0 rfl) ?_
      refine lv_dup hx hb dX3_add_50 rfl ?_
      refine va_get (D := D) (ci := 3) (v := .int (nI d0)) (fs := [.ref (a 8), .int go0, .int wr0, .int (nI e0), .int ad0, .int (nI d0), .int tu0, .int ti0]) (C := RX3) (T := TX3) (N := 8) hx hb htb inX3 hown hK hP 7 rfl rfl 5 (by decide) (htb _ kF_X3_31) (fun _ h9 => h9) rfl dX3_add_51 ?_
      refine lv_iload_n hx hb dX3_add_54 rfl (lv_at hl 2 rfl) ?_
      refine lv_iadd hx hb dX3_add_55 ?_
      refine zb_ti (nI_add d0 n) ?_
      refine va_put (D := D) (ci := 3) (v := .int (nI (d0 + n))) (fs := [.ref (a 8), .int go0, .int wr0, .int (nI e0), .int ad0, .int (nI d0), .int tu0, .int ti0]) (ty := .int) (C := RX3) (T := TX3) (N := 8) hx hb htb inX3 tyX3 tyX3_ok nmX3 hown hK hP hD hS 7 rfl rfl 5 (by decide) (htb _ kF_X3_31) (fun _ h9 => h9) rfl (by decide +kernel) rfl rfl (Nat.le_of_ble_eq_true rfl) dX3_add_56 (fun H locs hP hD hS => ?_)
      have hP : va_P D vwCl (cw a cA N f ob ((pF h0 d0 (k) x 0), go0, wr0, nI e0, ad0, nI (d0 + n), tu0, ti0) nd) H := hP
      have hD : va_D A (cw a cA N f ob ((pF h0 d0 (k) x 0), go0, wr0, nI e0, ad0, nI (d0 + n), tu0, ti0) nd) := hD
      refine lv_iconst (v := 1) hx hb dX3_add_59 (by decide) ?_
      rw [hQ]
      have hw9 : (cw a cA N f ob ((pF h0 d0 (k) x 0), go0, wr0, nI e0, ad0, nI (d0 + n), tu0, ti0) nd) = (cw a cA N f ob (tr_add (h0, go0, wr0, nI e0, ad0, nI d0, tu0, ti0) d0 n x) nd) := by rw [hk0_lp]; rfl
      exact W.zret (v := 1) hx hb hr (rfl) (fun t ht hW => ⟨congrArg (fun z => Outcome.returned (some (Value.int z))) (rfl), by rw [ht, ← hw9]; exact hP, by rw [← hw9]; exact hD, hS.F ht⟩) hS.2.2 dX3_add_60
    | succ nn ih_lp =>
      intro k ls H locs hP hD hS hk_lp  hl
      have hk1_lp : k < n := by omega
      refine lv_iload hx hb dX3_add_13 (lv_at hl 3 rfl) ?_
      refine lv_iload_n hx hb dX3_add_15 rfl (lv_at hl 2 rfl) ?_
      refine lv_icmp_ge (tgt := 49) hx hb dX3_add_16 (by decide) (fun hno => absurd hno (nI_ge (a := k) (b := n) hk1_lp (by omega))) (fun _ => ?_)
      refine lv_aload_n hx hb dX3_add_19 rfl (lv_at hl 0 rfl) ?_
      refine va_get (D := D) (ci := 3) (v := .ref (a 8)) (fs := [.ref (a 8), .int go0, .int wr0, .int (nI e0), .int ad0, .int (nI d0), .int tu0, .int ti0]) (C := RX3) (T := TX3) (N := 8) hx hb htb inX3 hown hK hP 7 rfl rfl 0 (by decide) (htb _ kF_X3_11) (fun _ h9 => h9) rfl dX3_add_20 ?_
      refine lv_aload_n hx hb dX3_add_23 rfl (lv_at hl 0 rfl) ?_
      refine va_get (D := D) (ci := 3) (v := .int (nI d0)) (fs := [.ref (a 8), .int go0, .int wr0, .int (nI e0), .int ad0, .int (nI d0), .int tu0, .int ti0]) (C := RX3) (T := TX3) (N := 8) hx hb htb inX3 hown hK hP 7 rfl rfl 5 (by decide) (htb _ kF_X3_31) (fun _ h9 => h9) rfl dX3_add_24 ?_
      refine lv_iload hx hb dX3_add_27 (lv_at hl 3 rfl) ?_
      refine lv_iadd hx hb dX3_add_29 ?_
      refine zb_ti (nI_add d0 (k)) ?_
      refine lv_lload_n hx hb dX3_add_30 rfl (lv_at hl 1 rfl) ?_
      refine lv_bipush (v := 8) hx hb dX3_add_31 (by decide) ?_
      refine lv_iload hx hb dX3_add_33 (lv_at hl 3 rfl) ?_
      refine lv_imul hx hb dX3_add_35 ?_
      refine zb_ti (pk_mul 8 (k)) ?_
      refine lv_lushr hx hb dX3_add_36 rfl ?_
      refine lv_l2i hx hb dX3_add_37 rfl ?_
      refine lv_sipush (v := 255) hx hb dX3_add_38 (by decide) ?_
      refine lv_iand hx hb dX3_add_41 ?_
      refine zb_ti (y := nI (bN x (0 + k))) (by rw [Nat.zero_add]; exact put_b hx64 (by omega)) ?_
      refine va_iast (i := nI (d0 + (k))) (x := nI (bN x (0 + k))) hx hb hK hP hD hS 8 0 rfl rfl (vp_in_nI (by omega) (by decide)) dX3_add_42 (fun H locs hP hD hS => ?_)
      rw [nI_clamp (by omega)] at hP hD
      have hP : va_P D vwCl (cw a cA N f ob (upd (pF h0 d0 (k) x 0) (d0 + (k)) (nI (bN x (0 + k))), go0, wr0, nI e0, ad0, nI d0, tu0, ti0) nd) H := hP
      have hD : va_D A (cw a cA N f ob (upd (pF h0 d0 (k) x 0) (d0 + (k)) (nI (bN x (0 + k))), go0, wr0, nI e0, ad0, nI d0, tu0, ti0) nd) := hD
      rw [pF_up] at hP hD
      have hP : va_P D vwCl (cw a cA N f ob ((pF h0 d0 (k + 1) x 0), go0, wr0, nI e0, ad0, nI d0, tu0, ti0) nd) H := hP
      have hD : va_D A (cw a cA N f ob ((pF h0 d0 (k + 1) x 0), go0, wr0, nI e0, ad0, nI d0, tu0, ti0) nd) := hD
      refine lv_iinc (k := 3) (v := nI ((k) + 1)) hx hb dX3_add_43 hl rfl (nI_1 (k)) (by decide) rfl (fun ls hl => ?_)
      have hl : lv_has ls 5 [(4, .int (nI ((k) + 1))), (0, .ref (a 7)), (1, .long (lN x)), (3, .int (nI n))] := hl
      refine lv_goto (tgt := 13) hx hb dX3_add_46 (by decide) ?_
      exact ih_lp (k + 1) ls _ _ hP hD hS (by omega) (lv_sub hl [1, 2, 3, 0] rfl)
  exact lp (n - 0) (0) ls _ _ hP hD hS (by omega) (lv_sub hl [1, 2, 3, 0] rfl)
set_option maxHeartbeats 4000000 in
set_option maxRecDepth 100000 in
theorem c_addNo (l : Launch) (D : va_G) (a : Nat → Nat) (cA : ClassId) (N : Int32) (f : Nat → Int32) (ob : OB) (tr : TR) (nd : ND) (e0 d0 n : Nat) (x : Int64) (he0 : e0 < 22) (hen : tr.2.2.2.1 = nI e0) (hdn : tr.2.2.2.2.2.1 = nI d0) (hd0 : d0 ≤ xZ e0) (hgt : xZ e0 - d0 < n) (hn8 : n ≤ 8) : Met l yX3_add (wX3_add :: wb) ({ frames := 2, cells := 0, slots := 0, locals := 40 } : Room) (va_Pc [.ref (a 7), .long x, .int (nI n)] (zPu D [(cA, .int)] (cw a cA N f ob tr nd))) (zb_I 0) 0 0 (fun _ => False) := by
  refine Met.ofW (cc := cX3_add) (maxL := 5) (ret := (some .boolean)) (by decide) rfl ?_
  intro p ev s m args below meth c s₁ B hml hv
  obtain ⟨rfl, hP, hK, hSt, hnw⟩ := hv
  have hx := B.exec
  have hb := B.bytes
  have hr := B.returns
  have hts := atoms_spec (ws := wX3_add :: wb) B.pre
  have htb : ∀ w ∈ wb, w.before ([.ref (a 7), .long x, .int (nI n)]).toArray s = true := fun w h => hts w (List.mem_cons_of_mem _ h)
  have hown : s.vm.findClass RX3 = some m.cls := findClass_of_methodNamed B.named
  have hlocks := B.notSynchronized
  have hS : va_S (fun _ => False) s.heap s.heap [] := va_S.rf
  obtain ⟨⟨tt, ff, hZT, hTT, hZF, hTF⟩, hXS⟩ := id hSt
  have hl := lv_entry ([.ref (a 7), .long x, .int (nI n)]) (n := 5) (Nat.le_of_ble_eq_true rfl)
  rw [lg_entry_eq]
  generalize (lg_sl ([.ref (a 7), .long x, .int (nI n)]) ++ List.replicate (5 - (lg_sl ([.ref (a 7), .long x, .int (nI n)])).length) Slot.unset).toArray = ls at hl ⊢
  have hl : lv_has ls 5 [(0, .ref (a 7)), (1, .long x), (3, .int (nI n))] := hl
  refine zb_abs (fun Q hQ => ?_)
  obtain ⟨h0, go0, wr0, en0, ad0, dn0, tu0, ti0⟩ := tr
  obtain rfl : en0 = nI e0 := hen
  obtain rfl : dn0 = nI d0 := hdn
  have hft := x_fit e0 he0
  refine lv_iload_n hx hb dX3_add_0 rfl (lv_at hl 2 rfl) ?_
  refine lv_aload_n hx hb dX3_add_1 rfl (lv_at hl 0 rfl) ?_
  refine zb_ci (va_runV (As := []) (rest := [.int (nI n)]) ⟨hx, hb, hml, hown, htb⟩ (c_left l D a cA N f ob (h0, go0, wr0, nI e0, ad0, nI d0, tu0, ti0) nd e0 d0 he0 rfl rfl hd0) (cwV 0 htb (wb_V kM_X3_44 kI_X3_left kS_X3_left kN_X3 kD_X3_left) rfl rfl rfl (by decide +kernel) ⟨Nat.le_of_ble_eq_true rfl, Nat.le_of_ble_eq_true rfl⟩) (zp_V 7 rfl rfl hP hK hSt hS hnw) rfl rfl hl.1 rfl (lv_room (Nat.le_of_ble_eq_true rfl)) dX3_add_2 ⟨Nat.le_of_ble_eq_true rfl, Nat.le_of_ble_eq_true rfl⟩) ?_
  refine lv_icmp_le (tgt := 10) hx hb dX3_add_5 (by decide) (fun hno => absurd hno (nI_ge hgt (by omega))) (fun _ => ?_)
  refine lv_iconst (v := 0) hx hb dX3_add_8 (by decide) ?_
  rw [hQ]
  exact W.zret (v := 0) hx hb hr rfl (fun t ht hW => ⟨congrArg (fun z => Outcome.returned (some (Value.int z))) (rfl), ht⟩) (fun q h => nomatch h) dX3_add_9
set_option maxHeartbeats 4000000 in
set_option maxRecDepth 100000 in
theorem c_number (l : Launch) (D : va_G) (a : Nat → Nat) (cA : ClassId) (N : Int32) (f : Nat → Int32) (ob : OB) (tr : TR) (nd : ND) (e0 d0 : Nat) (he0 : e0 < 22) (hen : tr.2.2.2.1 = nI e0) (hdn : tr.2.2.2.2.2.1 = nI d0) (hd0 : d0 ≤ xZ e0) (hB : isB tr.1) : Met l yX3_number (wX3_number :: wb) ({ frames := 0, cells := 0, slots := 0, locals := 0 } : Room) (va_Pc [.ref (a 7)] (zPu D [(cA, .int)] (cw a cA N f ob tr nd))) (zb_I (nI (sm tr.1 0 (min d0 4)))) 0 0 (fun _ => False) := by
  refine Met.ofW (cc := cX3_number) (maxL := 3) (ret := (some .int)) (by decide) rfl ?_
  intro p ev s m args below meth c s₁ B hml hv
  obtain ⟨rfl, hP, hK, hSt, hnw⟩ := hv
  have hx := B.exec
  have hb := B.bytes
  have hr := B.returns
  have hts := atoms_spec (ws := wX3_number :: wb) B.pre
  have htb : ∀ w ∈ wb, w.before ([.ref (a 7)]).toArray s = true := fun w h => hts w (List.mem_cons_of_mem _ h)
  have hown : s.vm.findClass RX3 = some m.cls := findClass_of_methodNamed B.named
  have hlocks := B.notSynchronized
  have hS : va_S (fun _ => False) s.heap s.heap [] := va_S.rf
  obtain ⟨⟨tt, ff, hZT, hTT, hZF, hTF⟩, hXS⟩ := id hSt
  have hl := lv_entry ([.ref (a 7)]) (n := 3) (Nat.le_of_ble_eq_true rfl)
  rw [lg_entry_eq]
  generalize (lg_sl ([.ref (a 7)]) ++ List.replicate (3 - (lg_sl ([.ref (a 7)])).length) Slot.unset).toArray = ls at hl ⊢
  have hl : lv_has ls 3 [(0, .ref (a 7))] := hl
  refine zb_abs (fun Q hQ => ?_)
  obtain ⟨h0, go0, wr0, en0, ad0, dn0, tu0, ti0⟩ := tr
  obtain rfl : en0 = nI e0 := hen
  obtain rfl : dn0 = nI d0 := hdn
  have hft := x_fit e0 he0
  refine lv_iconst (v := 0) hx hb dX3_number_0 (by decide) ?_
  refine lv_istore_n hx hb dX3_number_1 rfl hl (by decide) rfl (fun ls hl => ?_)
  have hl : lv_has ls 3 [(1, .int 0), (0, .ref (a 7))] := hl
  refine lv_iconst (v := 0) hx hb dX3_number_2 (by decide) ?_
  refine lv_istore_n hx hb dX3_number_3 rfl hl (by decide) rfl (fun ls hl => ?_)
  have hl : lv_has ls 3 [(2, .int 0), (1, .int 0), (0, .ref (a 7))] := hl
  have lp : ∀ (nn k : Nat) (ls : Array Slot), k + nn = min d0 4 → lv_has ls 3 [(0, .ref (a 7)), (1, .int (nI (sm h0 0 (k)))), (2, .int (nI (k)))] → W p l ev ({ frames := 0, cells := 0, slots := 0, locals := 0 } : Room) s m ([.ref (a 7)]).toArray below meth c s.heap [] 0 0 Q (F0 m 4 ls []) := by
    intro nn
    induction nn with
    | zero =>
      intro k ls hk_lp  hl
      have hk0_lp : k = min d0 4 := by omega
      refine lv_iload_n hx hb dX3_number_4 rfl (lv_at hl 2 rfl) ?_
      refine lv_aload_n hx hb dX3_number_5 rfl (lv_at hl 0 rfl) ?_
      refine va_get (D := D) (ci := 3) (v := .int (nI d0)) (fs := [.ref (a 8), .int go0, .int wr0, .int (nI e0), .int ad0, .int (nI d0), .int tu0, .int ti0]) (C := RX3) (T := TX3) (N := 8) hx hb htb inX3 hown hK hP 7 rfl rfl 5 (by decide) (htb _ kF_X3_31) (fun _ h9 => h9) rfl dX3_number_6 ?_
      refine lv_icmp_ge (tgt := 37) hx hb dX3_number_9 (by decide) (fun hc1 => ?_) (fun hc1 => ?_)
      · refine lv_iload_n hx hb dX3_number_37 rfl (lv_at hl 1 rfl) ?_
        rw [hQ]
        exact W.iret (v := nI (sm h0 0 (k))) hx hb hr (fun t ht hW => ⟨congrArg (fun z => Outcome.returned (some (Value.int z))) (by rw [hk0_lp]), ht⟩) (fun q h => nomatch h) dX3_number_38
      refine lv_iload_n hx hb dX3_number_12 rfl (lv_at hl 2 rfl) ?_
      refine lv_iconst (v := 4) hx hb dX3_number_13 (by decide) ?_
      refine lv_icmp_ge (tgt := 37) hx hb dX3_number_14 (by decide) (fun _ => ?_) (fun hno => absurd (by have h9 : ¬ d0 ≤ k := fun h => hc1 (nI_le h (by omega)); rw [show k = 4 by omega]; decide) hno)
      refine lv_iload_n hx hb dX3_number_37 rfl (lv_at hl 1 rfl) ?_
      rw [hQ]
      exact W.iret (v := nI (sm h0 0 (k))) hx hb hr (fun t ht hW => ⟨congrArg (fun z => Outcome.returned (some (Value.int z))) (by rw [hk0_lp]), ht⟩) (fun q h => nomatch h) dX3_number_38
    | succ nn ih_lp =>
      intro k ls hk_lp  hl
      have hk1_lp : k < min d0 4 := by omega
      refine lv_iload_n hx hb dX3_number_4 rfl (lv_at hl 2 rfl) ?_
      refine lv_aload_n hx hb dX3_number_5 rfl (lv_at hl 0 rfl) ?_
      refine va_get (D := D) (ci := 3) (v := .int (nI d0)) (fs := [.ref (a 8), .int go0, .int wr0, .int (nI e0), .int ad0, .int (nI d0), .int tu0, .int ti0]) (C := RX3) (T := TX3) (N := 8) hx hb htb inX3 hown hK hP 7 rfl rfl 5 (by decide) (htb _ kF_X3_31) (fun _ h9 => h9) rfl dX3_number_6 ?_
      refine lv_icmp_ge (tgt := 37) hx hb dX3_number_9 (by decide) (fun hno => absurd hno (nI_ge (a := k) (b := d0) (by omega) (by omega))) (fun _ => ?_)
      refine lv_iload_n hx hb dX3_number_12 rfl (lv_at hl 2 rfl) ?_
      refine lv_iconst (v := 4) hx hb dX3_number_13 (by decide) ?_
      refine lv_icmp_ge (tgt := 37) hx hb dX3_number_14 (by decide) (fun hno => absurd hno (nI_ge (a := k) (b := 4) (by omega) (by decide))) (fun _ => ?_)
      refine lv_iload_n hx hb dX3_number_17 rfl (lv_at hl 1 rfl) ?_
      refine lv_aload_n hx hb dX3_number_18 rfl (lv_at hl 0 rfl) ?_
      refine va_get (D := D) (ci := 3) (v := .ref (a 8)) (fs := [.ref (a 8), .int go0, .int wr0, .int (nI e0), .int ad0, .int (nI d0), .int tu0, .int ti0]) (C := RX3) (T := TX3) (N := 8) hx hb htb inX3 hown hK hP 7 rfl rfl 0 (by decide) (htb _ kF_X3_11) (fun _ h9 => h9) rfl dX3_number_19 ?_
      refine lv_iload_n hx hb dX3_number_22 rfl (lv_at hl 2 rfl) ?_
      refine va_iald (i := nI (k)) hx hb hK hP 8 0 rfl rfl (vp_in_nI (by omega) (by decide)) dX3_number_23 ?_
      refine zb_ti (y := h0 (k)) (by rw [nI_clamp (by omega)]) ?_
      refine lv_bipush (v := 8) hx hb dX3_number_24 (by decide) ?_
      refine lv_iload_n hx hb dX3_number_26 rfl (lv_at hl 2 rfl) ?_
      refine lv_imul hx hb dX3_number_27 ?_
      refine zb_ti (pk_mul 8 (k)) ?_
      refine lv_ishl hx hb dX3_number_28 ?_
      refine lv_ior hx hb dX3_number_29 ?_
      refine zb_ti (y := nI (sm h0 0 (k + 1))) (by have := sm_orI (s := 0) hB (show k < 4 by omega); rw [Nat.zero_add] at this; exact this) ?_
      refine lv_istore_n hx hb dX3_number_30 rfl hl (by decide) rfl (fun ls hl => ?_)
      have hl : lv_has ls 3 [(1, .int (nI (sm h0 0 (k + 1)))), (0, .ref (a 7)), (2, .int (nI (k)))] := hl
      refine lv_iinc (k := 2) (v := nI ((k) + 1)) hx hb dX3_number_31 hl rfl (nI_1 (k)) (by decide) rfl (fun ls hl => ?_)
      have hl : lv_has ls 3 [(2, .int (nI ((k) + 1))), (1, .int (nI (sm h0 0 (k + 1)))), (0, .ref (a 7))] := hl
      refine lv_goto (tgt := 4) hx hb dX3_number_34 (by decide) ?_
      exact ih_lp (k + 1) ls (by omega) (lv_sub hl [2, 1, 0] rfl)
  exact lp (min d0 4 - 0) (0) ls (by omega) (lv_sub hl [2, 1, 0] rfl)
end
section
theorem mL_31 (f : Nat → Int32) (m r n : Nat) (h : n ≤ 4) : mL f m r n < 2 ^ 31 := by
  have key : ∀ n, mL f m r n ≤ 20 * n := by
    intro n
    induction n with
    | zero => exact Nat.le_refl _
    | succ n ih =>
      cases h2 : mE f m r (n + 1) with
      | none => rw [mL_n h2]; omega
      | some e => rw [mL_s h2]; have := x_fit e (mE_lt h2); omega
  have := key n
  omega
set_option maxHeartbeats 4000000 in
set_option maxRecDepth 100000 in
theorem c_ownsT (l : Launch) (D : va_G) (a : Nat → Nat) (cA : ClassId) (N : Int32) (f : Nat → Int32) (ob : OB) (tr : TR) (nd : ND) (e : Nat) (he : e < 22) : Met l yX1_owns (wX1_owns :: wb) ({ frames := 0, cells := 0, slots := 0, locals := 0 } : Room) (va_Pc [.ref (a 3), .int (nI e)] (zPu D [(cA, .int)] (cw a cA N f ob tr nd))) (zb_I (if nI e < 3 then 0 else if 7 < nI e then 0 else 1)) 0 0 (fun _ => False) := by
  refine Met.ofW (cc := cX1_owns) (maxL := 2) (ret := (some .boolean)) (by decide) rfl ?_
  intro p ev s m args below meth c s₁ B hml hv
  obtain ⟨rfl, hP, hK, hSt, hnw⟩ := hv
  have hx := B.exec
  have hb := B.bytes
  have hr := B.returns
  have hts := atoms_spec (ws := wX1_owns :: wb) B.pre
  have htb : ∀ w ∈ wb, w.before ([.ref (a 3), .int (nI e)]).toArray s = true := fun w h => hts w (List.mem_cons_of_mem _ h)
  have hown : s.vm.findClass RX1 = some m.cls := findClass_of_methodNamed B.named
  have hlocks := B.notSynchronized
  have hS : va_S (fun _ => False) s.heap s.heap [] := va_S.rf
  obtain ⟨⟨tt, ff, hZT, hTT, hZF, hTF⟩, hXS⟩ := id hSt
  have hl := lv_entry ([.ref (a 3), .int (nI e)]) (n := 2) (Nat.le_of_ble_eq_true rfl)
  rw [lg_entry_eq]
  generalize (lg_sl ([.ref (a 3), .int (nI e)]) ++ List.replicate (2 - (lg_sl ([.ref (a 3), .int (nI e)])).length) Slot.unset).toArray = ls at hl ⊢
  have hl : lv_has ls 2 [(0, .ref (a 3)), (1, .int (nI e))] := hl
  refine zb_abs (fun Q hQ => ?_)
  refine lv_iload_n hx hb dX1_owns_0 rfl (lv_at hl 1 rfl) ?_
  refine lv_aload_n hx hb dX1_owns_1 rfl (lv_at hl 0 rfl) ?_
  refine va_get (D := D) (ci := 1) (v := .int 3) (fs := [.ref (a 1), .int 3, .int 6]) (C := RX1) (T := TX1) (N := 3) hx hb htb inX1 hown hK hP 3 rfl rfl 1 (by decide) (htb _ kF_X1_15) (fun _ h9 => h9) rfl dX1_owns_2 ?_
  refine lv_icmp_lt (tgt := 22) hx hb dX1_owns_5 (by decide) (fun hc1 => ?_) (fun hc1 => ?_)
  · refine lv_iconst (v := 0) hx hb dX1_owns_22 (by decide) ?_
    rw [hQ]
    exact W.zret (v := 0) hx hb hr rfl (fun t ht hW => ⟨congrArg (fun z => Outcome.returned (some (Value.int z))) (by simp only [if_pos hc1]), ht⟩) (fun q h => nomatch h) dX1_owns_23
  refine lv_iload_n hx hb dX1_owns_8 rfl (lv_at hl 1 rfl) ?_
  refine lv_aload_n hx hb dX1_owns_9 rfl (lv_at hl 0 rfl) ?_
  refine va_get (D := D) (ci := 1) (v := .int 3) (fs := [.ref (a 1), .int 3, .int 6]) (C := RX1) (T := TX1) (N := 3) hx hb htb inX1 hown hK hP 3 rfl rfl 1 (by decide) (htb _ kF_X1_15) (fun _ h9 => h9) rfl dX1_owns_10 ?_
  refine lv_iconst (v := 4) hx hb dX1_owns_13 (by decide) ?_
  refine lv_iadd hx hb dX1_owns_14 ?_
  refine zb_ti (y := 7) (rfl) ?_
  refine lv_icmp_gt (tgt := 22) hx hb dX1_owns_15 (by decide) (fun hc2 => ?_) (fun hc2 => ?_)
  · refine lv_iconst (v := 0) hx hb dX1_owns_22 (by decide) ?_
    rw [hQ]
    exact W.zret (v := 0) hx hb hr rfl (fun t ht hW => ⟨congrArg (fun z => Outcome.returned (some (Value.int z))) (by simp only [if_neg hc1, if_pos hc2]), ht⟩) (fun q h => nomatch h) dX1_owns_23
  refine lv_iconst (v := 1) hx hb dX1_owns_18 (by decide) ?_
  refine lv_goto (tgt := 23) hx hb dX1_owns_19 (by decide) ?_
  rw [hQ]
  exact W.zret (v := 1) hx hb hr rfl (fun t ht hW => ⟨congrArg (fun z => Outcome.returned (some (Value.int z))) (by simp only [if_neg hc1, if_neg hc2]), ht⟩) (fun q h => nomatch h) dX1_owns_23
set_option maxHeartbeats 4000000 in
set_option maxRecDepth 100000 in
theorem c_isCountT (l : Launch) (D : va_G) (a : Nat → Nat) (cA : ClassId) (N : Int32) (f : Nat → Int32) (ob : OB) (tr : TR) (nd : ND) (e : Nat) (he : e < 22) : Met l yX1_isCount (wX1_isCount :: wb) ({ frames := 0, cells := 0, slots := 0, locals := 0 } : Room) (va_Pc [.ref (a 3), .int (nI e)] (zPu D [(cA, .int)] (cw a cA N f ob tr nd))) (zb_I (if nI e = 3 then 1 else 0)) 0 0 (fun _ => False) := by
  refine Met.ofW (cc := cX1_isCount) (maxL := 2) (ret := (some .boolean)) (by decide) rfl ?_
  intro p ev s m args below meth c s₁ B hml hv
  obtain ⟨rfl, hP, hK, hSt, hnw⟩ := hv
  have hx := B.exec
  have hb := B.bytes
  have hr := B.returns
  have hts := atoms_spec (ws := wX1_isCount :: wb) B.pre
  have htb : ∀ w ∈ wb, w.before ([.ref (a 3), .int (nI e)]).toArray s = true := fun w h => hts w (List.mem_cons_of_mem _ h)
  have hown : s.vm.findClass RX1 = some m.cls := findClass_of_methodNamed B.named
  have hlocks := B.notSynchronized
  have hS : va_S (fun _ => False) s.heap s.heap [] := va_S.rf
  obtain ⟨⟨tt, ff, hZT, hTT, hZF, hTF⟩, hXS⟩ := id hSt
  have hl := lv_entry ([.ref (a 3), .int (nI e)]) (n := 2) (Nat.le_of_ble_eq_true rfl)
  rw [lg_entry_eq]
  generalize (lg_sl ([.ref (a 3), .int (nI e)]) ++ List.replicate (2 - (lg_sl ([.ref (a 3), .int (nI e)])).length) Slot.unset).toArray = ls at hl ⊢
  have hl : lv_has ls 2 [(0, .ref (a 3)), (1, .int (nI e))] := hl
  refine zb_abs (fun Q hQ => ?_)
  refine lv_iload_n hx hb dX1_isCount_0 rfl (lv_at hl 1 rfl) ?_
  refine lv_aload_n hx hb dX1_isCount_1 rfl (lv_at hl 0 rfl) ?_
  refine va_get (D := D) (ci := 1) (v := .int 3) (fs := [.ref (a 1), .int 3, .int 6]) (C := RX1) (T := TX1) (N := 3) hx hb htb inX1 hown hK hP 3 rfl rfl 1 (by decide) (htb _ kF_X1_15) (fun _ h9 => h9) rfl dX1_isCount_2 ?_
  refine lv_icmp_ne (tgt := 12) hx hb dX1_isCount_5 (by decide) (fun hc1 => ?_) (fun hc1 => ?_)
  · refine lv_iconst (v := 0) hx hb dX1_isCount_12 (by decide) ?_
    rw [hQ]
    exact W.zret (v := 0) hx hb hr rfl (fun t ht hW => ⟨congrArg (fun z => Outcome.returned (some (Value.int z))) (by simp only [if_neg hc1]), ht⟩) (fun q h => nomatch h) dX1_isCount_13
  refine lv_iconst (v := 1) hx hb dX1_isCount_8 (by decide) ?_
  refine lv_goto (tgt := 13) hx hb dX1_isCount_9 (by decide) ?_
  rw [hQ]
  exact W.zret (v := 1) hx hb hr rfl (fun t ht hW => ⟨congrArg (fun z => Outcome.returned (some (Value.int z))) (by simp only [if_pos hc1]), ht⟩) (fun q h => nomatch h) dX1_isCount_13
set_option maxHeartbeats 4000000 in
set_option maxRecDepth 100000 in
theorem c_countT (l : Launch) (D : va_G) (a : Nat → Nat) (cA : ClassId) (N : Int32) (f : Nat → Int32) (ob : OB) (tr : TR) (nd : ND) (cn : Nat) (hcn : f (xP 3) = nI cn) (hcn4 : cn ≤ 4) : Met l yX1_count (wX1_count :: wb) ({ frames := 1, cells := 0, slots := 0, locals := 22 } : Room) (va_Pc [.ref (a 3)] (zPu D [(cA, .int)] (cw a cA N f ob tr nd))) (zb_I (nI cn)) 0 0 (fun _ => False) := by
  refine Met.ofW (cc := cX1_count) (maxL := 1) (ret := (some .int)) (by decide) rfl ?_
  intro p ev s m args below meth c s₁ B hml hv
  obtain ⟨rfl, hP, hK, hSt, hnw⟩ := hv
  have hx := B.exec
  have hb := B.bytes
  have hr := B.returns
  have hts := atoms_spec (ws := wX1_count :: wb) B.pre
  have htb : ∀ w ∈ wb, w.before ([.ref (a 3)]).toArray s = true := fun w h => hts w (List.mem_cons_of_mem _ h)
  have hown : s.vm.findClass RX1 = some m.cls := findClass_of_methodNamed B.named
  have hlocks := B.notSynchronized
  have hS : va_S (fun _ => False) s.heap s.heap [] := va_S.rf
  obtain ⟨⟨tt, ff, hZT, hTT, hZF, hTF⟩, hXS⟩ := id hSt
  have hl := lv_entry ([.ref (a 3)]) (n := 1) (Nat.le_of_ble_eq_true rfl)
  rw [lg_entry_eq]
  generalize (lg_sl ([.ref (a 3)]) ++ List.replicate (1 - (lg_sl ([.ref (a 3)])).length) Slot.unset).toArray = ls at hl ⊢
  have hl : lv_has ls 1 [(0, .ref (a 3))] := hl
  refine zb_abs (fun Q hQ => ?_)
  refine lv_iconst (v := 4) hx hb dX1_count_0 (by decide) ?_
  refine lv_aload_n hx hb dX1_count_1 rfl (lv_at hl 0 rfl) ?_
  refine va_get (D := D) (ci := 1) (v := .ref (a 1)) (fs := [.ref (a 1), .int 3, .int 6]) (C := RX1) (T := TX1) (N := 3) hx hb htb inX1 hown hK hP 3 rfl rfl 0 (by decide) (htb _ kF_X1_9) (fun _ h9 => h9) rfl dX1_count_2 ?_
  refine lv_aload_n hx hb dX1_count_5 rfl (lv_at hl 0 rfl) ?_
  refine va_get (D := D) (ci := 1) (v := .int 3) (fs := [.ref (a 1), .int 3, .int 6]) (C := RX1) (T := TX1) (N := 3) hx hb htb inX1 hown hK hP 3 rfl rfl 1 (by decide) (htb _ kF_X1_15) (fun _ h9 => h9) rfl dX1_count_6 ?_
  refine lv_iconst (v := 0) hx hb dX1_count_9 (by decide) ?_
  refine zb_ci (va_runV (As := [.int 3, .int 0]) (rest := [.int 4]) ⟨hx, hb, hml, hown, htb⟩ (c_byteAt l D a cA N f ob tr nd 3 0 (by decide) (by decide)) (cwV 2 htb (wb_V kM_X1_24 kI_X0_byteAt kS_X0_byteAt kN_X0 kD_X0_byteAt) rfl rfl rfl (by decide +kernel) ⟨Nat.le_of_ble_eq_true rfl, Nat.le_of_ble_eq_true rfl⟩) (zp_V 1 rfl rfl hP hK hSt hS hnw) rfl rfl hl.1 rfl (lv_room (Nat.le_of_ble_eq_true rfl)) dX1_count_10 ⟨Nat.le_of_ble_eq_true rfl, Nat.le_of_ble_eq_true rfl⟩) ?_
  refine zb_ti (y := nI cn) (by rw [Nat.add_zero]; exact hcn) ?_
  refine va_mmin hx hb (by rw [hml]; exact hl.1.symm) hown (htb _ kM_X1_28) (htb _ kZ_min) (htb _ kN_Math) (htb _ kD_min) (Nat.le_of_ble_eq_true rfl) (Nat.le_of_ble_eq_true rfl) (Nat.le_of_ble_eq_true rfl) (Nat.le_of_ble_eq_true rfl) dX1_count_13 ?_
  refine zb_ti (y := nI cn) (by show (if nI cn < nI 4 then nI cn else nI 4) = nI cn; rcases Nat.lt_or_ge cn 4 with h9 | h9; exact if_pos (nI_lt h9 (by decide)); rw [if_neg (nI_nlt h9 (by omega))]; rw [show cn = 4 by omega]) ?_
  rw [hQ]
  exact W.iret (v := nI cn) hx hb hr (fun t ht hW => ⟨congrArg (fun z => Outcome.returned (some (Value.int z))) (rfl), ht⟩) (fun q h => nomatch h) dX1_count_16
set_option maxHeartbeats 4000000 in
set_option maxRecDepth 100000 in
theorem c_targetT (l : Launch) (D : va_G) (a : Nat → Nat) (cA : ClassId) (N : Int32) (f : Nat → Int32) (ob : OB) (tr : TR) (nd : ND) (k : Nat) (hB : isB f) (hk1 : 1 ≤ k) (hk4 : k ≤ 4) : Met l yX1_target (wX1_target :: wb) ({ frames := 1, cells := 0, slots := 0, locals := 27 } : Room) (va_Pc [.ref (a 3), .int (nI k)] (zPu D [(cA, .int)] (cw a cA N f ob tr nd))) (zb_I (oI (mE f 3 6 k))) 0 0 (fun _ => False) := by
  refine Met.ofW (cc := cX1_target) (maxL := 2) (ret := (some .int)) (by decide) rfl ?_
  intro p ev s m args below meth c s₁ B hml hv
  obtain ⟨rfl, hP, hK, hSt, hnw⟩ := hv
  have hx := B.exec
  have hb := B.bytes
  have hr := B.returns
  have hts := atoms_spec (ws := wX1_target :: wb) B.pre
  have htb : ∀ w ∈ wb, w.before ([.ref (a 3), .int (nI k)]).toArray s = true := fun w h => hts w (List.mem_cons_of_mem _ h)
  have hown : s.vm.findClass RX1 = some m.cls := findClass_of_methodNamed B.named
  have hlocks := B.notSynchronized
  have hS : va_S (fun _ => False) s.heap s.heap [] := va_S.rf
  obtain ⟨⟨tt, ff, hZT, hTT, hZF, hTF⟩, hXS⟩ := id hSt
  have hl := lv_entry ([.ref (a 3), .int (nI k)]) (n := 2) (Nat.le_of_ble_eq_true rfl)
  rw [lg_entry_eq]
  generalize (lg_sl ([.ref (a 3), .int (nI k)]) ++ List.replicate (2 - (lg_sl ([.ref (a 3), .int (nI k)])).length) Slot.unset).toArray = ls at hl ⊢
  have hl : lv_has ls 2 [(0, .ref (a 3)), (1, .int (nI k))] := hl
  refine zb_abs (fun Q hQ => ?_)
  have hz4 := (by decide : ∀ k, k < 5 → 1 ≤ k → xZ (3 + k) = 4 ∧ 3 + k < 22) k (by omega) hk1
  refine lv_aload_n hx hb dX1_target_0 rfl (lv_at hl 0 rfl) ?_
  refine va_get (D := D) (ci := 1) (v := .ref (a 1)) (fs := [.ref (a 1), .int 3, .int 6]) (C := RX1) (T := TX1) (N := 3) hx hb htb inX1 hown hK hP 3 rfl rfl 0 (by decide) (htb _ kF_X1_9) (fun _ h9 => h9) rfl dX1_target_1 ?_
  refine lv_aload_n hx hb dX1_target_4 rfl (lv_at hl 0 rfl) ?_
  refine va_get (D := D) (ci := 1) (v := .ref (a 1)) (fs := [.ref (a 1), .int 3, .int 6]) (C := RX1) (T := TX1) (N := 3) hx hb htb inX1 hown hK hP 3 rfl rfl 0 (by decide) (htb _ kF_X1_9) (fun _ h9 => h9) rfl dX1_target_5 ?_
  refine lv_aload_n hx hb dX1_target_8 rfl (lv_at hl 0 rfl) ?_
  refine va_get (D := D) (ci := 1) (v := .int 3) (fs := [.ref (a 1), .int 3, .int 6]) (C := RX1) (T := TX1) (N := 3) hx hb htb inX1 hown hK hP 3 rfl rfl 1 (by decide) (htb _ kF_X1_15) (fun _ h9 => h9) rfl dX1_target_9 ?_
  refine lv_iload_n hx hb dX1_target_12 rfl (lv_at hl 1 rfl) ?_
  refine lv_iadd hx hb dX1_target_13 ?_
  refine zb_ti (nI_add 3 k) ?_
  refine lv_iconst (v := 0) hx hb dX1_target_14 (by decide) ?_
  refine lv_iconst (v := 4) hx hb dX1_target_15 (by decide) ?_
  refine zb_cl (va_runV (As := [.int (nI (3 + k)), .int 0, .int 4]) (rest := [.ref (a 1)]) ⟨hx, hb, hml, hown, htb⟩ (c_part l D a cA N f ob tr nd (3 + k) 0 4 hB hz4.2 (by rw [hz4.1]; decide) (by decide)) (cwV 3 htb (wb_V kM_X1_33 kI_X0_part kS_X0_part kN_X0 kD_X0_part) rfl rfl rfl (by decide +kernel) ⟨Nat.le_of_ble_eq_true rfl, Nat.le_of_ble_eq_true rfl⟩) (zp_V 1 rfl rfl hP hK hSt hS hnw) rfl rfl hl.1 rfl (lv_room (Nat.le_of_ble_eq_true rfl)) dX1_target_16 ⟨Nat.le_of_ble_eq_true rfl, Nat.le_of_ble_eq_true rfl⟩) ?_
  refine lv_l2i hx hb dX1_target_19 rfl ?_
  refine zb_ti (y := nI (sm f (xP (3 + k)) 4)) (by rw [Nat.add_zero]; exact lN_i _) ?_
  refine lv_aload_n hx hb dX1_target_20 rfl (lv_at hl 0 rfl) ?_
  refine va_get (D := D) (ci := 1) (v := .int 6) (fs := [.ref (a 1), .int 3, .int 6]) (C := RX1) (T := TX1) (N := 3) hx hb htb inX1 hown hK hP 3 rfl rfl 2 (by decide) (htb _ kF_X1_21) (fun _ h9 => h9) rfl dX1_target_21 ?_
  refine zb_ci (va_runV (As := [.int (nI (sm f (xP (3 + k)) 4)), .int 6]) (rest := []) ⟨hx, hb, hml, hown, htb⟩ (c_named l D a cA N f ob tr nd (nI (sm f (xP (3 + k)) 4)) 6 (by decide)) (cwV 2 htb (wb_V kM_X1_37 kI_X0_named kS_X0_named kN_X0 kD_X0_named) rfl rfl rfl (by decide +kernel) ⟨Nat.le_of_ble_eq_true rfl, Nat.le_of_ble_eq_true rfl⟩) (zp_V 1 rfl rfl hP hK hSt hS hnw) rfl rfl hl.1 rfl (lv_room (Nat.le_of_ble_eq_true rfl)) dX1_target_24 ⟨Nat.le_of_ble_eq_true rfl, Nat.le_of_ble_eq_true rfl⟩) ?_
  rw [hQ]
  exact W.iret (v := oI (mp (nI (sm f (xP (3 + k)) 4)) 6)) hx hb hr (fun t ht hW => ⟨congrArg (fun z => Outcome.returned (some (Value.int z))) (rfl), ht⟩) (fun q h => nomatch h) dX1_target_27
set_option maxHeartbeats 4000000 in
set_option maxRecDepth 100000 in
theorem c_lengthT (l : Launch) (D : va_G) (a : Nat → Nat) (cA : ClassId) (N : Int32) (f : Nat → Int32) (ob : OB) (tr : TR) (nd : ND) (cn : Nat) (hcn : f (xP 3) = nI cn) (hcn4 : cn ≤ 4) (hB : isB f) : Met l yX1_contentLength (wX1_contentLength :: wb) ({ frames := 2, cells := 0, slots := 0, locals := 48 } : Room) (va_Pc [.ref (a 3)] (zPu D [(cA, .int)] (cw a cA N f ob tr nd))) (zb_I (nI (mL f 3 6 cn))) 0 0 (fun _ => False) := by
  refine Met.ofW (cc := cX1_contentLength) (maxL := 5) (ret := (some .int)) (by decide) rfl ?_
  intro p ev s m args below meth c s₁ B hml hv
  obtain ⟨rfl, hP, hK, hSt, hnw⟩ := hv
  have hx := B.exec
  have hb := B.bytes
  have hr := B.returns
  have hts := atoms_spec (ws := wX1_contentLength :: wb) B.pre
  have htb : ∀ w ∈ wb, w.before ([.ref (a 3)]).toArray s = true := fun w h => hts w (List.mem_cons_of_mem _ h)
  have hown : s.vm.findClass RX1 = some m.cls := findClass_of_methodNamed B.named
  have hlocks := B.notSynchronized
  have hS : va_S (fun _ => False) s.heap s.heap [] := va_S.rf
  obtain ⟨⟨tt, ff, hZT, hTT, hZF, hTF⟩, hXS⟩ := id hSt
  have hl := lv_entry ([.ref (a 3)]) (n := 5) (Nat.le_of_ble_eq_true rfl)
  rw [lg_entry_eq]
  generalize (lg_sl ([.ref (a 3)]) ++ List.replicate (5 - (lg_sl ([.ref (a 3)])).length) Slot.unset).toArray = ls at hl ⊢
  have hl : lv_has ls 5 [(0, .ref (a 3))] := hl
  refine zb_abs (fun Q hQ => ?_)
  refine lv_aload_n hx hb dX1_contentLength_0 rfl (lv_at hl 0 rfl) ?_
  refine zb_ci (va_runV (As := []) (rest := []) ⟨hx, hb, hml, hown, htb⟩ (c_countT l D a cA N f ob tr nd cn hcn hcn4) (cwV 0 htb (wb_V kM_X1_50 kI_X1_count kS_X1_count kN_X1 kD_X1_count) rfl rfl rfl (by decide +kernel) ⟨Nat.le_of_ble_eq_true rfl, Nat.le_of_ble_eq_true rfl⟩) (zp_V 3 rfl rfl hP hK hSt hS hnw) rfl rfl hl.1 rfl (lv_room (Nat.le_of_ble_eq_true rfl)) dX1_contentLength_1 ⟨Nat.le_of_ble_eq_true rfl, Nat.le_of_ble_eq_true rfl⟩) ?_
  refine lv_istore_n hx hb dX1_contentLength_4 rfl hl (by decide) rfl (fun ls hl => ?_)
  have hl : lv_has ls 5 [(1, .int (nI cn)), (0, .ref (a 3))] := hl
  refine lv_iconst (v := 0) hx hb dX1_contentLength_5 (by decide) ?_
  refine lv_istore_n hx hb dX1_contentLength_6 rfl hl (by decide) rfl (fun ls hl => ?_)
  have hl : lv_has ls 5 [(2, .int 0), (1, .int (nI cn)), (0, .ref (a 3))] := hl
  refine lv_iconst (v := 1) hx hb dX1_contentLength_7 (by decide) ?_
  refine lv_istore_n hx hb dX1_contentLength_8 rfl hl (by decide) rfl (fun ls hl => ?_)
  have hl : lv_has ls 5 [(3, .int 1), (2, .int 0), (1, .int (nI cn)), (0, .ref (a 3))] := hl
  have lp : ∀ (nn k : Nat) (ls : Array Slot), k + nn = cn → lv_has ls 5 [(0, .ref (a 3)), (1, .int (nI cn)), (2, .int (nI (mL f 3 6 (k)))), (3, .int (nI (k + 1)))] → W p l ev ({ frames := 2, cells := 0, slots := 0, locals := 48 } : Room) s m ([.ref (a 3)]).toArray below meth c s.heap [] 0 0 Q (F0 m 9 ls []) := by
    intro nn
    induction nn with
    | zero =>
      intro k ls hk_lp  hl
      have hk0_lp : k = cn := by omega
      refine lv_iload_n hx hb dX1_contentLength_9 rfl (lv_at hl 3 rfl) ?_
      refine lv_iload_n hx hb dX1_contentLength_10 rfl (lv_at hl 1 rfl) ?_
      refine lv_icmp_gt (tgt := 41) hx hb dX1_contentLength_11 (by decide) (fun _ => ?_) (fun hno => absurd (by rw [hk0_lp]; exact nI_lt (Nat.lt_succ_self _) (by omega)) hno)
      refine lv_iload_n hx hb dX1_contentLength_41 rfl (lv_at hl 2 rfl) ?_
      rw [hQ]
      exact W.iret (v := nI (mL f 3 6 (k))) hx hb hr (fun t ht hW => ⟨congrArg (fun z => Outcome.returned (some (Value.int z))) (by rw [hk0_lp]), ht⟩) (fun q h => nomatch h) dX1_contentLength_42
    | succ nn ih_lp =>
      intro k ls hk_lp  hl
      have hk1_lp : k < cn := by omega
      refine lv_iload_n hx hb dX1_contentLength_9 rfl (lv_at hl 3 rfl) ?_
      refine lv_iload_n hx hb dX1_contentLength_10 rfl (lv_at hl 1 rfl) ?_
      refine lv_icmp_gt (tgt := 41) hx hb dX1_contentLength_11 (by decide) (fun hno => absurd hno (nI_nlt hk1_lp (by omega))) (fun _ => ?_)
      refine lv_aload_n hx hb dX1_contentLength_14 rfl (lv_at hl 0 rfl) ?_
      refine lv_iload_n hx hb dX1_contentLength_15 rfl (lv_at hl 3 rfl) ?_
      refine zb_ci (va_runV (As := [.int (nI (k + 1))]) (rest := []) ⟨hx, hb, hml, hown, htb⟩ (c_targetT l D a cA N f ob tr nd (k + 1) hB (by omega) (by omega)) (cwV 1 htb (wb_V kM_X1_41 kI_X1_target kS_X1_target kN_X1 kD_X1_target) rfl rfl rfl (by decide +kernel) ⟨Nat.le_of_ble_eq_true rfl, Nat.le_of_ble_eq_true rfl⟩) (zp_V 3 rfl rfl hP hK hSt hS hnw) rfl rfl hl.1 rfl (lv_room (Nat.le_of_ble_eq_true rfl)) dX1_contentLength_16 ⟨Nat.le_of_ble_eq_true rfl, Nat.le_of_ble_eq_true rfl⟩) ?_
      cases hme : mE f 3 6 (k + 1) with
      | none =>
        refine zb_ti (y := (-1)) (rfl) ?_
        refine lv_istore hx hb dX1_contentLength_19 hl (by decide) rfl (fun ls hl => ?_)
        have hl : lv_has ls 5 [(4, .int (-1)), (0, .ref (a 3)), (1, .int (nI cn)), (2, .int (nI (mL f 3 6 (k)))), (3, .int (nI (k + 1)))] := hl
        refine lv_iload hx hb dX1_contentLength_21 (lv_at hl 0 rfl) ?_
        refine lv_iconst (v := (-1)) hx hb dX1_contentLength_23 (by decide) ?_
        refine lv_icmp_eq (tgt := 35) hx hb dX1_contentLength_24 (by decide) (fun _ => ?_) (fun hno => absurd (by decide) hno)
        have e1 : nI (mL f 3 6 (k)) = nI (mL f 3 6 (k + 1)) := by rw [mL_n hme]
        rw [e1] at hl
        have hl : lv_has ls 5 [(4, .int (-1)), (0, .ref (a 3)), (1, .int (nI cn)), (2, .int (nI (mL f 3 6 (k + 1)))), (3, .int (nI (k + 1)))] := hl
        refine lv_iinc (k := 4) (v := nI ((k + 1) + 1)) hx hb dX1_contentLength_35 hl rfl (nI_1 (k + 1)) (by decide) rfl (fun ls hl => ?_)
        have hl : lv_has ls 5 [(3, .int (nI ((k + 1) + 1))), (4, .int (-1)), (0, .ref (a 3)), (1, .int (nI cn)), (2, .int (nI (mL f 3 6 (k + 1))))] := hl
        refine lv_goto (tgt := 9) hx hb dX1_contentLength_38 (by decide) ?_
        exact ih_lp (k + 1) ls (by omega) (lv_sub hl [2, 3, 4, 0] rfl)
      | some e9 =>
        refine zb_ti (y := nI e9) (rfl) ?_
        have h22_e9 : e9 < 22 := mE_lt hme
        refine lv_istore hx hb dX1_contentLength_19 hl (by decide) rfl (fun ls hl => ?_)
        have hl : lv_has ls 5 [(4, .int (nI e9)), (0, .ref (a 3)), (1, .int (nI cn)), (2, .int (nI (mL f 3 6 (k)))), (3, .int (nI (k + 1)))] := hl
        refine lv_iload hx hb dX1_contentLength_21 (lv_at hl 0 rfl) ?_
        refine lv_iconst (v := (-1)) hx hb dX1_contentLength_23 (by decide) ?_
        refine lv_icmp_eq (tgt := 35) hx hb dX1_contentLength_24 (by decide) (fun hno => absurd hno (ni_m1 h22_e9)) (fun _ => ?_)
        refine lv_iload_n hx hb dX1_contentLength_27 rfl (lv_at hl 3 rfl) ?_
        refine lv_iload hx hb dX1_contentLength_28 (lv_at hl 0 rfl) ?_
        refine zb_ci (va_runS (As := [.int (nI e9)]) (rest := [.int (nI (mL f 3 6 (k)))]) ⟨hx, hb, hml, hown, htb⟩ (c_sizeOf l D a cA N f ob tr nd e9 h22_e9) (va_cwS 1 htb (wb_S kM_X1_46 kZ_X0_sizeOf kN_X0 kD_X0_sizeOf) rfl rfl rfl (by decide +kernel) ⟨Nat.le_of_ble_eq_true rfl, Nat.le_of_ble_eq_true rfl⟩) (zp_S hP hK hSt hS hnw) rfl rfl hl.1 rfl (lv_room (Nat.le_of_ble_eq_true rfl)) dX1_contentLength_30 ⟨Nat.le_of_ble_eq_true rfl, Nat.le_of_ble_eq_true rfl⟩) ?_
        refine lv_iadd hx hb dX1_contentLength_33 ?_
        refine zb_ti (nI_add (mL f 3 6 (k)) (xZ e9)) ?_
        refine zb_ti (y := nI (mL f 3 6 (k + 1))) (by rw [mL_s hme]) ?_
        refine lv_istore_n hx hb dX1_contentLength_34 rfl hl (by decide) rfl (fun ls hl => ?_)
        have hl : lv_has ls 5 [(2, .int (nI (mL f 3 6 (k + 1)))), (4, .int (nI e9)), (0, .ref (a 3)), (1, .int (nI cn)), (3, .int (nI (k + 1)))] := hl
        refine lv_iinc (k := 4) (v := nI ((k + 1) + 1)) hx hb dX1_contentLength_35 hl rfl (nI_1 (k + 1)) (by decide) rfl (fun ls hl => ?_)
        have hl : lv_has ls 5 [(3, .int (nI ((k + 1) + 1))), (2, .int (nI (mL f 3 6 (k + 1)))), (4, .int (nI e9)), (0, .ref (a 3)), (1, .int (nI cn))] := hl
        refine lv_goto (tgt := 9) hx hb dX1_contentLength_38 (by decide) ?_
        exact ih_lp (k + 1) ls (by omega) (lv_sub hl [3, 4, 1, 0] rfl)
  exact lp (cn - 0) (0) ls (by omega) (lv_sub hl [3, 2, 1, 0] rfl)
set_option maxHeartbeats 4000000 in
set_option maxRecDepth 100000 in
theorem c_contentT (l : Launch) (D : va_G) (a : Nat → Nat) (cA : ClassId) (N : Int32) (f : Nat → Int32) (ob : OB) (tr : TR) (nd : ND) (cn : Nat) (hcn : f (xP 3) = nI cn) (hcn4 : cn ≤ 4) (hB : isB f) (h8 : mL f 3 6 cn ≤ 8) : Met l yX1_content (wX1_content :: wb) ({ frames := 2, cells := 0, slots := 0, locals := 48 } : Room) (va_Pc [.ref (a 3)] (zPu D [(cA, .int)] (cw a cA N f ob tr nd))) (zb_L (lN (mC f 3 6 cn))) 0 0 (fun _ => False) := by
  refine Met.ofW (cc := cX1_content) (maxL := 8) (ret := (some .long)) (by decide) rfl ?_
  intro p ev s m args below meth c s₁ B hml hv
  obtain ⟨rfl, hP, hK, hSt, hnw⟩ := hv
  have hx := B.exec
  have hb := B.bytes
  have hr := B.returns
  have hts := atoms_spec (ws := wX1_content :: wb) B.pre
  have htb : ∀ w ∈ wb, w.before ([.ref (a 3)]).toArray s = true := fun w h => hts w (List.mem_cons_of_mem _ h)
  have hown : s.vm.findClass RX1 = some m.cls := findClass_of_methodNamed B.named
  have hlocks := B.notSynchronized
  have hS : va_S (fun _ => False) s.heap s.heap [] := va_S.rf
  obtain ⟨⟨tt, ff, hZT, hTT, hZF, hTF⟩, hXS⟩ := id hSt
  have hl := lv_entry ([.ref (a 3)]) (n := 8) (Nat.le_of_ble_eq_true rfl)
  rw [lg_entry_eq]
  generalize (lg_sl ([.ref (a 3)]) ++ List.replicate (8 - (lg_sl ([.ref (a 3)])).length) Slot.unset).toArray = ls at hl ⊢
  have hl : lv_has ls 8 [(0, .ref (a 3))] := hl
  refine zb_abs (fun Q hQ => ?_)
  refine lv_aload_n hx hb dX1_content_0 rfl (lv_at hl 0 rfl) ?_
  refine zb_ci (va_runV (As := []) (rest := []) ⟨hx, hb, hml, hown, htb⟩ (c_countT l D a cA N f ob tr nd cn hcn hcn4) (cwV 0 htb (wb_V kM_X1_50 kI_X1_count kS_X1_count kN_X1 kD_X1_count) rfl rfl rfl (by decide +kernel) ⟨Nat.le_of_ble_eq_true rfl, Nat.le_of_ble_eq_true rfl⟩) (zp_V 3 rfl rfl hP hK hSt hS hnw) rfl rfl hl.1 rfl (lv_room (Nat.le_of_ble_eq_true rfl)) dX1_content_1 ⟨Nat.le_of_ble_eq_true rfl, Nat.le_of_ble_eq_true rfl⟩) ?_
  refine lv_istore_n hx hb dX1_content_4 rfl hl (by decide) rfl (fun ls hl => ?_)
  have hl : lv_has ls 8 [(1, .int (nI cn)), (0, .ref (a 3))] := hl
  refine lv_lconst (v := 0) hx hb dX1_content_5 (by decide) ?_
  refine lv_lstore_n hx hb dX1_content_6 rfl hl (by decide) rfl (fun ls hl => ?_)
  have hl : lv_has ls 8 [(2, .long 0), (1, .int (nI cn)), (0, .ref (a 3))] := hl
  refine lv_iconst (v := 0) hx hb dX1_content_7 (by decide) ?_
  refine lv_istore hx hb dX1_content_8 hl (by decide) rfl (fun ls hl => ?_)
  have hl : lv_has ls 8 [(4, .int 0), (2, .long 0), (1, .int (nI cn)), (0, .ref (a 3))] := hl
  refine lv_iconst (v := 1) hx hb dX1_content_10 (by decide) ?_
  refine lv_istore hx hb dX1_content_11 hl (by decide) rfl (fun ls hl => ?_)
  have hl : lv_has ls 8 [(5, .int 1), (4, .int 0), (2, .long 0), (1, .int (nI cn)), (0, .ref (a 3))] := hl
  have lp : ∀ (nn k : Nat) (ls : Array Slot), k + nn = cn → lv_has ls 8 [(0, .ref (a 3)), (1, .int (nI cn)), (2, .long (lN (mC f 3 6 (k)))), (4, .int (nI (mL f 3 6 (k)))), (5, .int (nI (k + 1)))] → W p l ev ({ frames := 2, cells := 0, slots := 0, locals := 48 } : Room) s m ([.ref (a 3)]).toArray below meth c s.heap [] 0 0 Q (F0 m 13 ls []) := by
    intro nn
    induction nn with
    | zero =>
      intro k ls hk_lp  hl
      have hk0_lp : k = cn := by omega
      refine lv_iload hx hb dX1_content_13 (lv_at hl 4 rfl) ?_
      refine lv_iload_n hx hb dX1_content_15 rfl (lv_at hl 1 rfl) ?_
      refine lv_icmp_gt (tgt := 74) hx hb dX1_content_16 (by decide) (fun _ => ?_) (fun hno => absurd (by rw [hk0_lp]; exact nI_lt (Nat.lt_succ_self _) (by omega)) hno)
      refine lv_lload_n hx hb dX1_content_74 rfl (lv_at hl 2 rfl) ?_
      rw [hQ]
      exact W.lret (v := lN (mC f 3 6 (k))) hx hb hr (fun t ht hW => ⟨congrArg (fun z => Outcome.returned (some (Value.long z))) (by rw [hk0_lp]), ht⟩) (fun q h => nomatch h) dX1_content_75
    | succ nn ih_lp =>
      intro k ls hk_lp  hl
      have hk1_lp : k < cn := by omega
      refine lv_iload hx hb dX1_content_13 (lv_at hl 4 rfl) ?_
      refine lv_iload_n hx hb dX1_content_15 rfl (lv_at hl 1 rfl) ?_
      refine lv_icmp_gt (tgt := 74) hx hb dX1_content_16 (by decide) (fun hno => absurd hno (nI_nlt hk1_lp (by omega))) (fun _ => ?_)
      refine lv_aload_n hx hb dX1_content_19 rfl (lv_at hl 0 rfl) ?_
      refine lv_iload hx hb dX1_content_20 (lv_at hl 4 rfl) ?_
      refine zb_ci (va_runV (As := [.int (nI (k + 1))]) (rest := []) ⟨hx, hb, hml, hown, htb⟩ (c_targetT l D a cA N f ob tr nd (k + 1) hB (by omega) (by omega)) (cwV 1 htb (wb_V kM_X1_41 kI_X1_target kS_X1_target kN_X1 kD_X1_target) rfl rfl rfl (by decide +kernel) ⟨Nat.le_of_ble_eq_true rfl, Nat.le_of_ble_eq_true rfl⟩) (zp_V 3 rfl rfl hP hK hSt hS hnw) rfl rfl hl.1 rfl (lv_room (Nat.le_of_ble_eq_true rfl)) dX1_content_22 ⟨Nat.le_of_ble_eq_true rfl, Nat.le_of_ble_eq_true rfl⟩) ?_
      cases hme : mE f 3 6 (k + 1) with
      | none =>
        refine zb_ti (y := (-1)) (rfl) ?_
        refine lv_istore hx hb dX1_content_25 hl (by decide) rfl (fun ls hl => ?_)
        have hl : lv_has ls 8 [(6, .int (-1)), (0, .ref (a 3)), (1, .int (nI cn)), (2, .long (lN (mC f 3 6 (k)))), (4, .int (nI (mL f 3 6 (k)))), (5, .int (nI (k + 1)))] := hl
        refine lv_iload hx hb dX1_content_27 (lv_at hl 0 rfl) ?_
        refine lv_iconst (v := (-1)) hx hb dX1_content_29 (by decide) ?_
        refine lv_icmp_eq (tgt := 68) hx hb dX1_content_30 (by decide) (fun _ => ?_) (fun hno => absurd (by decide) hno)
        have e1 : lN (mC f 3 6 (k)) = lN (mC f 3 6 (k + 1)) := by rw [mC_n hme]
        rw [e1] at hl
        have hl : lv_has ls 8 [(6, .int (-1)), (0, .ref (a 3)), (1, .int (nI cn)), (2, .long (lN (mC f 3 6 (k + 1)))), (4, .int (nI (mL f 3 6 (k)))), (5, .int (nI (k + 1)))] := hl
        have e2 : nI (mL f 3 6 (k)) = nI (mL f 3 6 (k + 1)) := by rw [mL_n hme]
        rw [e2] at hl
        have hl : lv_has ls 8 [(6, .int (-1)), (0, .ref (a 3)), (1, .int (nI cn)), (2, .long (lN (mC f 3 6 (k + 1)))), (4, .int (nI (mL f 3 6 (k + 1)))), (5, .int (nI (k + 1)))] := hl
        refine lv_iinc (k := 5) (v := nI ((k + 1) + 1)) hx hb dX1_content_68 hl rfl (nI_1 (k + 1)) (by decide) rfl (fun ls hl => ?_)
        have hl : lv_has ls 8 [(5, .int (nI ((k + 1) + 1))), (6, .int (-1)), (0, .ref (a 3)), (1, .int (nI cn)), (2, .long (lN (mC f 3 6 (k + 1)))), (4, .int (nI (mL f 3 6 (k + 1))))] := hl
        refine lv_goto (tgt := 13) hx hb dX1_content_71 (by decide) ?_
        exact ih_lp (k + 1) ls (by omega) (lv_sub hl [2, 3, 4, 5, 0] rfl)
      | some e9 =>
        refine zb_ti (y := nI e9) (rfl) ?_
        have h22_e9 : e9 < 22 := mE_lt hme
        refine lv_istore hx hb dX1_content_25 hl (by decide) rfl (fun ls hl => ?_)
        have hl : lv_has ls 8 [(6, .int (nI e9)), (0, .ref (a 3)), (1, .int (nI cn)), (2, .long (lN (mC f 3 6 (k)))), (4, .int (nI (mL f 3 6 (k)))), (5, .int (nI (k + 1)))] := hl
        refine lv_iload hx hb dX1_content_27 (lv_at hl 0 rfl) ?_
        refine lv_iconst (v := (-1)) hx hb dX1_content_29 (by decide) ?_
        refine lv_icmp_eq (tgt := 68) hx hb dX1_content_30 (by decide) (fun hno => absurd hno (ni_m1 h22_e9)) (fun _ => ?_)
        have hft9 := x_fit e9 h22_e9
        have hm9 := mL_mono f 3 6 (show k + 1 ≤ cn by omega)
        have hs9 := mL_s hme
        refine lv_iload hx hb dX1_content_33 (lv_at hl 0 rfl) ?_
        refine zb_ci (va_runS (As := [.int (nI e9)]) (rest := []) ⟨hx, hb, hml, hown, htb⟩ (c_sizeOf l D a cA N f ob tr nd e9 h22_e9) (va_cwS 1 htb (wb_S kM_X1_46 kZ_X0_sizeOf kN_X0 kD_X0_sizeOf) rfl rfl rfl (by decide +kernel) ⟨Nat.le_of_ble_eq_true rfl, Nat.le_of_ble_eq_true rfl⟩) (zp_S hP hK hSt hS hnw) rfl rfl hl.1 rfl (lv_room (Nat.le_of_ble_eq_true rfl)) dX1_content_35 ⟨Nat.le_of_ble_eq_true rfl, Nat.le_of_ble_eq_true rfl⟩) ?_
        refine lv_istore hx hb dX1_content_38 hl (by decide) rfl (fun ls hl => ?_)
        have hl : lv_has ls 8 [(7, .int (nI (xZ e9))), (6, .int (nI e9)), (0, .ref (a 3)), (1, .int (nI cn)), (2, .long (lN (mC f 3 6 (k)))), (4, .int (nI (mL f 3 6 (k)))), (5, .int (nI (k + 1)))] := hl
        refine lv_lload_n hx hb dX1_content_40 rfl (lv_at hl 4 rfl) ?_
        refine lv_aload_n hx hb dX1_content_41 rfl (lv_at hl 2 rfl) ?_
        refine va_get (D := D) (ci := 1) (v := .ref (a 1)) (fs := [.ref (a 1), .int 3, .int 6]) (C := RX1) (T := TX1) (N := 3) hx hb htb inX1 hown hK hP 3 rfl rfl 0 (by decide) (htb _ kF_X1_9) (fun _ h9 => h9) rfl dX1_content_42 ?_
        refine lv_iload hx hb dX1_content_45 (lv_at hl 1 rfl) ?_
        refine lv_iconst (v := 0) hx hb dX1_content_47 (by decide) ?_
        refine lv_iload hx hb dX1_content_48 (lv_at hl 0 rfl) ?_
        refine zb_cl (va_runV (As := [.int (nI e9), .int 0, .int (nI (xZ e9))]) (rest := [.long (lN (mC f 3 6 (k)))]) ⟨hx, hb, hml, hown, htb⟩ (c_part l D a cA N f ob tr nd e9 0 (xZ e9) hB h22_e9 (by omega) (mE_z (by decide) (by decide) hme)) (cwV 3 htb (wb_V kM_X1_33 kI_X0_part kS_X0_part kN_X0 kD_X0_part) rfl rfl rfl (by decide +kernel) ⟨Nat.le_of_ble_eq_true rfl, Nat.le_of_ble_eq_true rfl⟩) (zp_V 1 rfl rfl hP hK hSt hS hnw) rfl rfl hl.1 rfl (lv_room (Nat.le_of_ble_eq_true rfl)) dX1_content_50 ⟨Nat.le_of_ble_eq_true rfl, Nat.le_of_ble_eq_true rfl⟩) ?_
        refine zb_tl (y := lN (sm f (xP e9) (xZ e9))) (by rw [Nat.add_zero]) ?_
        refine lv_bipush (v := 8) hx hb dX1_content_53 (by decide) ?_
        refine lv_iload hx hb dX1_content_55 (lv_at hl 5 rfl) ?_
        refine lv_imul hx hb dX1_content_57 ?_
        refine zb_ti (pk_mul 8 (mL f 3 6 (k))) ?_
        refine lv_lshl hx hb dX1_content_58 rfl ?_
        refine lv_lor hx hb dX1_content_59 ?_
        refine zb_tl (y := lN (mC f 3 6 (k + 1))) (mC_or hB hme (by omega) (by omega)) ?_
        refine lv_lstore_n hx hb dX1_content_60 rfl hl (by decide) rfl (fun ls hl => ?_)
        have hl : lv_has ls 8 [(2, .long (lN (mC f 3 6 (k + 1)))), (7, .int (nI (xZ e9))), (6, .int (nI e9)), (0, .ref (a 3)), (1, .int (nI cn)), (4, .int (nI (mL f 3 6 (k)))), (5, .int (nI (k + 1)))] := hl
        refine lv_iload hx hb dX1_content_61 (lv_at hl 5 rfl) ?_
        refine lv_iload hx hb dX1_content_63 (lv_at hl 1 rfl) ?_
        refine lv_iadd hx hb dX1_content_65 ?_
        refine zb_ti (nI_add (mL f 3 6 (k)) (xZ e9)) ?_
        refine zb_ti (y := nI (mL f 3 6 (k + 1))) (by rw [hs9]) ?_
        refine lv_istore hx hb dX1_content_66 hl (by decide) rfl (fun ls hl => ?_)
        have hl : lv_has ls 8 [(4, .int (nI (mL f 3 6 (k + 1)))), (2, .long (lN (mC f 3 6 (k + 1)))), (7, .int (nI (xZ e9))), (6, .int (nI e9)), (0, .ref (a 3)), (1, .int (nI cn)), (5, .int (nI (k + 1)))] := hl
        refine lv_iinc (k := 6) (v := nI ((k + 1) + 1)) hx hb dX1_content_68 hl rfl (nI_1 (k + 1)) (by decide) rfl (fun ls hl => ?_)
        have hl : lv_has ls 8 [(5, .int (nI ((k + 1) + 1))), (4, .int (nI (mL f 3 6 (k + 1)))), (2, .long (lN (mC f 3 6 (k + 1)))), (7, .int (nI (xZ e9))), (6, .int (nI e9)), (0, .ref (a 3)), (1, .int (nI cn))] := hl
        refine lv_goto (tgt := 13) hx hb dX1_content_71 (by decide) ?_
        exact ih_lp (k + 1) ls (by omega) (lv_sub hl [5, 6, 2, 1, 0] rfl)
  exact lp (cn - 0) (0) ls (by omega) (lv_sub hl [4, 3, 2, 1, 0] rfl)
set_option maxHeartbeats 4000000 in
set_option maxRecDepth 100000 in
theorem c_countFaultT (l : Launch) (D : va_G) (a : Nat → Nat) (cA : ClassId) (N : Int32) (f : Nat → Int32) (ob : OB) (tr : TR) (nd : ND) (v : Nat) (hv31 : v < 256) (hB : isB f) : Met l yX1_countFault (wX1_countFault :: wb) ({ frames := 2, cells := 0, slots := 0, locals := 48 } : Room) (va_Pc [.ref (a 3), .int (nI v)] (zPu D [(cA, .int)] (cw a cA N f ob tr nd))) (zb_I (nI (cF f 3 6 v))) 0 0 (fun _ => False) := by
  refine Met.ofW (cc := cX1_countFault) (maxL := 5) (ret := (some .int)) (by decide) rfl ?_
  intro p ev s m args below meth c s₁ B hml hv
  obtain ⟨rfl, hP, hK, hSt, hnw⟩ := hv
  have hx := B.exec
  have hb := B.bytes
  have hr := B.returns
  have hts := atoms_spec (ws := wX1_countFault :: wb) B.pre
  have htb : ∀ w ∈ wb, w.before ([.ref (a 3), .int (nI v)]).toArray s = true := fun w h => hts w (List.mem_cons_of_mem _ h)
  have hown : s.vm.findClass RX1 = some m.cls := findClass_of_methodNamed B.named
  have hlocks := B.notSynchronized
  have hS : va_S (fun _ => False) s.heap s.heap [] := va_S.rf
  obtain ⟨⟨tt, ff, hZT, hTT, hZF, hTF⟩, hXS⟩ := id hSt
  have hl := lv_entry ([.ref (a 3), .int (nI v)]) (n := 5) (Nat.le_of_ble_eq_true rfl)
  rw [lg_entry_eq]
  generalize (lg_sl ([.ref (a 3), .int (nI v)]) ++ List.replicate (5 - (lg_sl ([.ref (a 3), .int (nI v)])).length) Slot.unset).toArray = ls at hl ⊢
  have hl : lv_has ls 5 [(0, .ref (a 3)), (1, .int (nI v))] := hl
  refine zb_abs (fun Q hQ => ?_)
  refine lv_iload_n hx hb dX1_countFault_0 rfl (lv_at hl 1 rfl) ?_
  refine lv_iconst (v := 4) hx hb dX1_countFault_1 (by decide) ?_
  refine lv_icmp_le (tgt := 8) hx hb dX1_countFault_2 (by decide) (fun hc1 => ?_) (fun hc1 => ?_)
  · have hv4 : v ≤ 4 := (nI_leI (by omega) (by decide)).mp hc1
    refine lv_iconst (v := 0) hx hb dX1_countFault_8 (by decide) ?_
    refine lv_istore_n hx hb dX1_countFault_9 rfl hl (by decide) rfl (fun ls hl => ?_)
    have hl : lv_has ls 5 [(2, .int 0), (0, .ref (a 3)), (1, .int (nI v))] := hl
    refine lv_iconst (v := 1) hx hb dX1_countFault_10 (by decide) ?_
    refine lv_istore_n hx hb dX1_countFault_11 rfl hl (by decide) rfl (fun ls hl => ?_)
    have hl : lv_has ls 5 [(3, .int 1), (2, .int 0), (0, .ref (a 3)), (1, .int (nI v))] := hl
    have lp : ∀ (nn k : Nat) (ls : Array Slot), k + nn = v → (mOk f 3 6 k = true) → lv_has ls 5 [(0, .ref (a 3)), (1, .int (nI v)), (2, .int (nI (mL f 3 6 (k)))), (3, .int (nI (k + 1)))] → W p l ev ({ frames := 2, cells := 0, slots := 0, locals := 48 } : Room) s m ([.ref (a 3), .int (nI v)]).toArray below meth c s.heap [] 0 0 Q (F0 m 12 ls []) := by
      intro nn
      induction nn with
      | zero =>
        intro k ls hk_lp hok hl
        have hk0_lp : k = v := by omega
        refine lv_iload_n hx hb dX1_countFault_12 rfl (lv_at hl 3 rfl) ?_
        refine lv_iload_n hx hb dX1_countFault_13 rfl (lv_at hl 1 rfl) ?_
        refine lv_icmp_gt (tgt := 47) hx hb dX1_countFault_14 (by decide) (fun _ => ?_) (fun hno => absurd (by rw [hk0_lp]; exact nI_lt (Nat.lt_succ_self _) (by omega)) hno)
        have hm31 : mL f 3 6 k < 2 ^ 31 := mL_31 f 3 6 k (by omega)
        refine lv_iload_n hx hb dX1_countFault_47 rfl (lv_at hl 2 rfl) ?_
        refine lv_bipush (v := 8) hx hb dX1_countFault_48 (by decide) ?_
        refine lv_icmp_le (tgt := 58) hx hb dX1_countFault_50 (by decide) (fun hc2 => ?_) (fun hc2 => ?_)
        · refine lv_iconst (v := 0) hx hb dX1_countFault_58 (by decide) ?_
          rw [hQ]
          exact W.iret (v := 0) hx hb hr (fun t ht hW => ⟨congrArg (fun z => Outcome.returned (some (Value.int z))) (by unfold cF; rw [if_neg (show ¬ 4 < v by omega), if_pos (by rw [← hk0_lp]; exact hok), if_neg (by rw [← hk0_lp]; have h9 : mL f 3 6 k ≤ 8 := (nI_leI (b := 8) (by omega) (by decide)).mp hc2; omega)]; rfl), ht⟩) (fun q h => nomatch h) dX1_countFault_59
        refine lv_ldc (v := 100925506) hx hb hown (htb _ kK_X1_49) dX1_countFault_53 ?_
        refine lv_goto (tgt := 59) hx hb dX1_countFault_55 (by decide) ?_
        rw [hQ]
        exact W.iret (v := 100925506) hx hb hr (fun t ht hW => ⟨congrArg (fun z => Outcome.returned (some (Value.int z))) (by unfold cF; rw [if_neg (show ¬ 4 < v by omega), if_pos (by rw [← hk0_lp]; exact hok), if_pos (by rw [← hk0_lp]; have h9 : ¬ mL f 3 6 k ≤ 8 := fun h => hc2 (nI_le h (by decide)); omega)]; rfl), ht⟩) (fun q h => nomatch h) dX1_countFault_59
      | succ nn ih_lp =>
        intro k ls hk_lp hok hl
        have hk1_lp : k < v := by omega
        refine lv_iload_n hx hb dX1_countFault_12 rfl (lv_at hl 3 rfl) ?_
        refine lv_iload_n hx hb dX1_countFault_13 rfl (lv_at hl 1 rfl) ?_
        refine lv_icmp_gt (tgt := 47) hx hb dX1_countFault_14 (by decide) (fun hno => absurd hno (nI_nlt hk1_lp (by omega))) (fun _ => ?_)
        refine lv_aload_n hx hb dX1_countFault_17 rfl (lv_at hl 0 rfl) ?_
        refine lv_iload_n hx hb dX1_countFault_18 rfl (lv_at hl 3 rfl) ?_
        refine zb_ci (va_runV (As := [.int (nI (k + 1))]) (rest := []) ⟨hx, hb, hml, hown, htb⟩ (c_targetT l D a cA N f ob tr nd (k + 1) hB (by omega) (by omega)) (cwV 1 htb (wb_V kM_X1_41 kI_X1_target kS_X1_target kN_X1 kD_X1_target) rfl rfl rfl (by decide +kernel) ⟨Nat.le_of_ble_eq_true rfl, Nat.le_of_ble_eq_true rfl⟩) (zp_V 3 rfl rfl hP hK hSt hS hnw) rfl rfl hl.1 rfl (lv_room (Nat.le_of_ble_eq_true rfl)) dX1_countFault_19 ⟨Nat.le_of_ble_eq_true rfl, Nat.le_of_ble_eq_true rfl⟩) ?_
        cases hme : mE f 3 6 (k + 1) with
        | none =>
          refine zb_ti (y := (-1)) (rfl) ?_
          refine lv_istore hx hb dX1_countFault_22 hl (by decide) rfl (fun ls hl => ?_)
          have hl : lv_has ls 5 [(4, .int (-1)), (0, .ref (a 3)), (1, .int (nI v)), (2, .int (nI (mL f 3 6 (k)))), (3, .int (nI (k + 1)))] := hl
          refine lv_iload hx hb dX1_countFault_24 (lv_at hl 0 rfl) ?_
          refine lv_iconst (v := (-1)) hx hb dX1_countFault_26 (by decide) ?_
          refine lv_icmp_ne (tgt := 33) hx hb dX1_countFault_27 (by decide) (fun hno => absurd (by decide) hno) (fun _ => ?_)
          refine lv_ldc (v := 100925505) hx hb hown (htb _ kK_X1_45) dX1_countFault_30 ?_
          rw [hQ]
          exact W.iret (v := 100925505) hx hb hr (fun t ht hW => ⟨congrArg (fun z => Outcome.returned (some (Value.int z))) (by unfold cF; rw [if_neg (show ¬ 4 < v by omega), if_neg (by rw [mOk_n hme hk1_lp]; decide)]; rfl), ht⟩) (fun q h => nomatch h) dX1_countFault_32
        | some e9 =>
          refine zb_ti (y := nI e9) (rfl) ?_
          have h22_e9 : e9 < 22 := mE_lt hme
          refine lv_istore hx hb dX1_countFault_22 hl (by decide) rfl (fun ls hl => ?_)
          have hl : lv_has ls 5 [(4, .int (nI e9)), (0, .ref (a 3)), (1, .int (nI v)), (2, .int (nI (mL f 3 6 (k)))), (3, .int (nI (k + 1)))] := hl
          refine lv_iload hx hb dX1_countFault_24 (lv_at hl 0 rfl) ?_
          refine lv_iconst (v := (-1)) hx hb dX1_countFault_26 (by decide) ?_
          refine lv_icmp_ne (tgt := 33) hx hb dX1_countFault_27 (by decide) (fun _ => ?_) (fun hno => absurd hno (ni_m1 h22_e9))
          refine lv_iload_n hx hb dX1_countFault_33 rfl (lv_at hl 3 rfl) ?_
          refine lv_iload hx hb dX1_countFault_34 (lv_at hl 0 rfl) ?_
          refine zb_ci (va_runS (As := [.int (nI e9)]) (rest := [.int (nI (mL f 3 6 (k)))]) ⟨hx, hb, hml, hown, htb⟩ (c_sizeOf l D a cA N f ob tr nd e9 h22_e9) (va_cwS 1 htb (wb_S kM_X1_46 kZ_X0_sizeOf kN_X0 kD_X0_sizeOf) rfl rfl rfl (by decide +kernel) ⟨Nat.le_of_ble_eq_true rfl, Nat.le_of_ble_eq_true rfl⟩) (zp_S hP hK hSt hS hnw) rfl rfl hl.1 rfl (lv_room (Nat.le_of_ble_eq_true rfl)) dX1_countFault_36 ⟨Nat.le_of_ble_eq_true rfl, Nat.le_of_ble_eq_true rfl⟩) ?_
          refine lv_iadd hx hb dX1_countFault_39 ?_
          refine zb_ti (nI_add (mL f 3 6 (k)) (xZ e9)) ?_
          refine zb_ti (y := nI (mL f 3 6 (k + 1))) (by rw [mL_s hme]) ?_
          refine lv_istore_n hx hb dX1_countFault_40 rfl hl (by decide) rfl (fun ls hl => ?_)
          have hl : lv_has ls 5 [(2, .int (nI (mL f 3 6 (k + 1)))), (4, .int (nI e9)), (0, .ref (a 3)), (1, .int (nI v)), (3, .int (nI (k + 1)))] := hl
          refine lv_iinc (k := 4) (v := nI ((k + 1) + 1)) hx hb dX1_countFault_41 hl rfl (nI_1 (k + 1)) (by decide) rfl (fun ls hl => ?_)
          have hl : lv_has ls 5 [(3, .int (nI ((k + 1) + 1))), (2, .int (nI (mL f 3 6 (k + 1)))), (4, .int (nI e9)), (0, .ref (a 3)), (1, .int (nI v))] := hl
          refine lv_goto (tgt := 12) hx hb dX1_countFault_44 (by decide) ?_
          exact ih_lp (k + 1) ls (by omega) (mOk_s hok hme) (lv_sub hl [3, 4, 1, 0] rfl)
    exact lp (v - 0) (0) ls (by omega) (rfl) (lv_sub hl [2, 3, 1, 0] rfl)
  refine lv_ldc (v := 101253168) hx hb hown (htb _ kK_X1_40) dX1_countFault_5 ?_
  rw [hQ]
  exact W.iret (v := 101253168) hx hb hr (fun t ht hW => ⟨congrArg (fun z => Outcome.returned (some (Value.int z))) (by unfold cF; rw [if_pos (show 4 < v by have h9 : ¬ v ≤ 4 := fun h => hc1 (nI_le h (by decide)); omega)]; rfl), ht⟩) (fun q h => nomatch h) dX1_countFault_7
set_option maxHeartbeats 4000000 in
set_option maxRecDepth 100000 in
theorem c_nameFaultT (l : Launch) (D : va_G) (a : Nat → Nat) (cA : ClassId) (N : Int32) (f : Nat → Int32) (ob : OB) (tr : TR) (nd : ND) (cn : Nat) (nm : Int32) (hcn : f (xP 3) = nI cn) (hcn4 : cn ≤ 4) : Met l yX1_nameFault (wX1_nameFault :: wb) ({ frames := 2, cells := 0, slots := 0, locals := 42 } : Room) (va_Pc [.ref (a 3), .int nm] (zPu D [(cA, .int)] (cw a cA N f ob tr nd))) (zb_I (nI (nF cn 6 nm))) 0 0 (fun _ => False) := by
  refine Met.ofW (cc := cX1_nameFault) (maxL := 3) (ret := (some .int)) (by decide) rfl ?_
  intro p ev s m args below meth c s₁ B hml hv
  obtain ⟨rfl, hP, hK, hSt, hnw⟩ := hv
  have hx := B.exec
  have hb := B.bytes
  have hr := B.returns
  have hts := atoms_spec (ws := wX1_nameFault :: wb) B.pre
  have htb : ∀ w ∈ wb, w.before ([.ref (a 3), .int nm]).toArray s = true := fun w h => hts w (List.mem_cons_of_mem _ h)
  have hown : s.vm.findClass RX1 = some m.cls := findClass_of_methodNamed B.named
  have hlocks := B.notSynchronized
  have hS : va_S (fun _ => False) s.heap s.heap [] := va_S.rf
  obtain ⟨⟨tt, ff, hZT, hTT, hZF, hTF⟩, hXS⟩ := id hSt
  have hl := lv_entry ([.ref (a 3), .int nm]) (n := 3) (Nat.le_of_ble_eq_true rfl)
  rw [lg_entry_eq]
  generalize (lg_sl ([.ref (a 3), .int nm]) ++ List.replicate (3 - (lg_sl ([.ref (a 3), .int nm])).length) Slot.unset).toArray = ls at hl ⊢
  have hl : lv_has ls 3 [(0, .ref (a 3)), (1, .int nm)] := hl
  refine zb_abs (fun Q hQ => ?_)
  refine lv_aload_n hx hb dX1_nameFault_0 rfl (lv_at hl 0 rfl) ?_
  refine zb_ci (va_runV (As := []) (rest := []) ⟨hx, hb, hml, hown, htb⟩ (c_countT l D a cA N f ob tr nd cn hcn hcn4) (cwV 0 htb (wb_V kM_X1_50 kI_X1_count kS_X1_count kN_X1 kD_X1_count) rfl rfl rfl (by decide +kernel) ⟨Nat.le_of_ble_eq_true rfl, Nat.le_of_ble_eq_true rfl⟩) (zp_V 3 rfl rfl hP hK hSt hS hnw) rfl rfl hl.1 rfl (lv_room (Nat.le_of_ble_eq_true rfl)) dX1_nameFault_1 ⟨Nat.le_of_ble_eq_true rfl, Nat.le_of_ble_eq_true rfl⟩) ?_
  refine lv_if_eq (tgt := 10) hx hb dX1_nameFault_4 (by decide) (fun hc1 => ?_) (fun hc1 => ?_)
  · refine lv_iload_n hx hb dX1_nameFault_10 rfl (lv_at hl 1 rfl) ?_
    refine lv_if_eq (tgt := 30) hx hb dX1_nameFault_11 (by decide) (fun hc2 => ?_) (fun hc2 => ?_)
    · refine lv_iconst (v := 1) hx hb dX1_nameFault_30 (by decide) ?_
      refine lv_goto (tgt := 35) hx hb dX1_nameFault_31 (by decide) ?_
      refine lv_istore_n hx hb dX1_nameFault_35 rfl hl (by decide) rfl (fun ls hl => ?_)
      have hl : lv_has ls 3 [(2, .int 1), (0, .ref (a 3)), (1, .int nm)] := hl
      refine lv_iload_n hx hb dX1_nameFault_36 rfl (lv_at hl 0 rfl) ?_
      refine lv_if_eq (tgt := 44) hx hb dX1_nameFault_37 (by decide) (fun hno => absurd hno (by decide)) (fun _ => ?_)
      refine lv_iconst (v := 0) hx hb dX1_nameFault_40 (by decide) ?_
      refine lv_goto (tgt := 46) hx hb dX1_nameFault_41 (by decide) ?_
      rw [hQ]
      exact W.iret (v := 0) hx hb hr (fun t ht hW => ⟨congrArg (fun z => Outcome.returned (some (Value.int z))) (by unfold nF; rw [if_pos (show cn = 0 from (nI_eq (by omega) (by decide)).mp hc1), if_pos hc2]; rfl), ht⟩) (fun q h => nomatch h) dX1_nameFault_46
    refine lv_aload_n hx hb dX1_nameFault_14 rfl (lv_at hl 0 rfl) ?_
    refine va_get (D := D) (ci := 1) (v := .ref (a 1)) (fs := [.ref (a 1), .int 3, .int 6]) (C := RX1) (T := TX1) (N := 3) hx hb htb inX1 hown hK hP 3 rfl rfl 0 (by decide) (htb _ kF_X1_9) (fun _ h9 => h9) rfl dX1_nameFault_15 ?_
    refine lv_iload_n hx hb dX1_nameFault_18 rfl (lv_at hl 1 rfl) ?_
    refine lv_aload_n hx hb dX1_nameFault_19 rfl (lv_at hl 0 rfl) ?_
    refine va_get (D := D) (ci := 1) (v := .int 6) (fs := [.ref (a 1), .int 3, .int 6]) (C := RX1) (T := TX1) (N := 3) hx hb htb inX1 hown hK hP 3 rfl rfl 2 (by decide) (htb _ kF_X1_21) (fun _ h9 => h9) rfl dX1_nameFault_20 ?_
    refine zb_ci (va_runV (As := [.int nm, .int 6]) (rest := []) ⟨hx, hb, hml, hown, htb⟩ (c_named l D a cA N f ob tr nd nm 6 (by decide)) (cwV 2 htb (wb_V kM_X1_37 kI_X0_named kS_X0_named kN_X0 kD_X0_named) rfl rfl rfl (by decide +kernel) ⟨Nat.le_of_ble_eq_true rfl, Nat.le_of_ble_eq_true rfl⟩) (zp_V 1 rfl rfl hP hK hSt hS hnw) rfl rfl hl.1 rfl (lv_room (Nat.le_of_ble_eq_true rfl)) dX1_nameFault_23 ⟨Nat.le_of_ble_eq_true rfl, Nat.le_of_ble_eq_true rfl⟩) ?_
    cases hme : mp nm 6 with
    | none =>
      refine zb_ti (y := (-1)) (rfl) ?_
      refine lv_iconst (v := (-1)) hx hb dX1_nameFault_26 (by decide) ?_
      refine lv_icmp_eq (tgt := 34) hx hb dX1_nameFault_27 (by decide) (fun _ => ?_) (fun hno => absurd (by decide) hno)
      refine lv_iconst (v := 0) hx hb dX1_nameFault_34 (by decide) ?_
      refine lv_istore_n hx hb dX1_nameFault_35 rfl hl (by decide) rfl (fun ls hl => ?_)
      have hl : lv_has ls 3 [(2, .int 0), (0, .ref (a 3)), (1, .int nm)] := hl
      refine lv_iload_n hx hb dX1_nameFault_36 rfl (lv_at hl 0 rfl) ?_
      refine lv_if_eq (tgt := 44) hx hb dX1_nameFault_37 (by decide) (fun _ => ?_) (fun hno => absurd (by decide) hno)
      refine lv_ldc (v := 100925505) hx hb hown (htb _ kK_X1_45) dX1_nameFault_44 ?_
      rw [hQ]
      exact W.iret (v := 100925505) hx hb hr (fun t ht hW => ⟨congrArg (fun z => Outcome.returned (some (Value.int z))) (by unfold nF; rw [if_pos (show cn = 0 from (nI_eq (by omega) (by decide)).mp hc1), if_neg hc2, if_pos hme]; rfl), ht⟩) (fun q h => nomatch h) dX1_nameFault_46
    | some e9 =>
      refine zb_ti (y := nI e9) (rfl) ?_
      have h22_e9 : e9 < 22 := (fun h => (mp_lt h).1) hme
      refine lv_iconst (v := (-1)) hx hb dX1_nameFault_26 (by decide) ?_
      refine lv_icmp_eq (tgt := 34) hx hb dX1_nameFault_27 (by decide) (fun hno => absurd hno (ni_m1 h22_e9)) (fun _ => ?_)
      refine lv_iconst (v := 1) hx hb dX1_nameFault_30 (by decide) ?_
      refine lv_goto (tgt := 35) hx hb dX1_nameFault_31 (by decide) ?_
      refine lv_istore_n hx hb dX1_nameFault_35 rfl hl (by decide) rfl (fun ls hl => ?_)
      have hl : lv_has ls 3 [(2, .int 1), (0, .ref (a 3)), (1, .int nm)] := hl
      refine lv_iload_n hx hb dX1_nameFault_36 rfl (lv_at hl 0 rfl) ?_
      refine lv_if_eq (tgt := 44) hx hb dX1_nameFault_37 (by decide) (fun hno => absurd hno (by decide)) (fun _ => ?_)
      refine lv_iconst (v := 0) hx hb dX1_nameFault_40 (by decide) ?_
      refine lv_goto (tgt := 46) hx hb dX1_nameFault_41 (by decide) ?_
      rw [hQ]
      exact W.iret (v := 0) hx hb hr (fun t ht hW => ⟨congrArg (fun z => Outcome.returned (some (Value.int z))) (by unfold nF; rw [if_pos (show cn = 0 from (nI_eq (by omega) (by decide)).mp hc1), if_neg hc2, if_neg (by rw [hme]; exact fun h => nomatch h)]; rfl), ht⟩) (fun q h => nomatch h) dX1_nameFault_46
  refine lv_ldc (v := 100728832) hx hb hown (htb _ kK_X1_54) dX1_nameFault_7 ?_
  rw [hQ]
  exact W.iret (v := 100728832) hx hb hr (fun t ht hW => ⟨congrArg (fun z => Outcome.returned (some (Value.int z))) (by unfold nF; rw [if_neg (fun h : cn = 0 => hc1 (by rw [h]; rfl))]; rfl), ht⟩) (fun q h => nomatch h) dX1_nameFault_9
set_option maxHeartbeats 4000000 in
set_option maxRecDepth 100000 in
theorem c_ownsG (l : Launch) (D : va_G) (a : Nat → Nat) (cA : ClassId) (N : Int32) (f : Nat → Int32) (ob : OB) (tr : TR) (nd : ND) (e : Nat) (he : e < 22) : Met l yX1_owns (wX1_owns :: wb) ({ frames := 0, cells := 0, slots := 0, locals := 0 } : Room) (va_Pc [.ref (a 4), .int (nI e)] (zPu D [(cA, .int)] (cw a cA N f ob tr nd))) (zb_I (if nI e < 9 then 0 else if 13 < nI e then 0 else 1)) 0 0 (fun _ => False) := by
  refine Met.ofW (cc := cX1_owns) (maxL := 2) (ret := (some .boolean)) (by decide) rfl ?_
  intro p ev s m args below meth c s₁ B hml hv
  obtain ⟨rfl, hP, hK, hSt, hnw⟩ := hv
  have hx := B.exec
  have hb := B.bytes
  have hr := B.returns
  have hts := atoms_spec (ws := wX1_owns :: wb) B.pre
  have htb : ∀ w ∈ wb, w.before ([.ref (a 4), .int (nI e)]).toArray s = true := fun w h => hts w (List.mem_cons_of_mem _ h)
  have hown : s.vm.findClass RX1 = some m.cls := findClass_of_methodNamed B.named
  have hlocks := B.notSynchronized
  have hS : va_S (fun _ => False) s.heap s.heap [] := va_S.rf
  obtain ⟨⟨tt, ff, hZT, hTT, hZF, hTF⟩, hXS⟩ := id hSt
  have hl := lv_entry ([.ref (a 4), .int (nI e)]) (n := 2) (Nat.le_of_ble_eq_true rfl)
  rw [lg_entry_eq]
  generalize (lg_sl ([.ref (a 4), .int (nI e)]) ++ List.replicate (2 - (lg_sl ([.ref (a 4), .int (nI e)])).length) Slot.unset).toArray = ls at hl ⊢
  have hl : lv_has ls 2 [(0, .ref (a 4)), (1, .int (nI e))] := hl
  refine zb_abs (fun Q hQ => ?_)
  refine lv_iload_n hx hb dX1_owns_0 rfl (lv_at hl 1 rfl) ?_
  refine lv_aload_n hx hb dX1_owns_1 rfl (lv_at hl 0 rfl) ?_
  refine va_get (D := D) (ci := 1) (v := .int 9) (fs := [.ref (a 1), .int 9, .int 5]) (C := RX1) (T := TX1) (N := 3) hx hb htb inX1 hown hK hP 4 rfl rfl 1 (by decide) (htb _ kF_X1_15) (fun _ h9 => h9) rfl dX1_owns_2 ?_
  refine lv_icmp_lt (tgt := 22) hx hb dX1_owns_5 (by decide) (fun hc1 => ?_) (fun hc1 => ?_)
  · refine lv_iconst (v := 0) hx hb dX1_owns_22 (by decide) ?_
    rw [hQ]
    exact W.zret (v := 0) hx hb hr rfl (fun t ht hW => ⟨congrArg (fun z => Outcome.returned (some (Value.int z))) (by simp only [if_pos hc1]), ht⟩) (fun q h => nomatch h) dX1_owns_23
  refine lv_iload_n hx hb dX1_owns_8 rfl (lv_at hl 1 rfl) ?_
  refine lv_aload_n hx hb dX1_owns_9 rfl (lv_at hl 0 rfl) ?_
  refine va_get (D := D) (ci := 1) (v := .int 9) (fs := [.ref (a 1), .int 9, .int 5]) (C := RX1) (T := TX1) (N := 3) hx hb htb inX1 hown hK hP 4 rfl rfl 1 (by decide) (htb _ kF_X1_15) (fun _ h9 => h9) rfl dX1_owns_10 ?_
  refine lv_iconst (v := 4) hx hb dX1_owns_13 (by decide) ?_
  refine lv_iadd hx hb dX1_owns_14 ?_
  refine zb_ti (y := 13) (rfl) ?_
  refine lv_icmp_gt (tgt := 22) hx hb dX1_owns_15 (by decide) (fun hc2 => ?_) (fun hc2 => ?_)
  · refine lv_iconst (v := 0) hx hb dX1_owns_22 (by decide) ?_
    rw [hQ]
    exact W.zret (v := 0) hx hb hr rfl (fun t ht hW => ⟨congrArg (fun z => Outcome.returned (some (Value.int z))) (by simp only [if_neg hc1, if_pos hc2]), ht⟩) (fun q h => nomatch h) dX1_owns_23
  refine lv_iconst (v := 1) hx hb dX1_owns_18 (by decide) ?_
  refine lv_goto (tgt := 23) hx hb dX1_owns_19 (by decide) ?_
  rw [hQ]
  exact W.zret (v := 1) hx hb hr rfl (fun t ht hW => ⟨congrArg (fun z => Outcome.returned (some (Value.int z))) (by simp only [if_neg hc1, if_neg hc2]), ht⟩) (fun q h => nomatch h) dX1_owns_23
set_option maxHeartbeats 4000000 in
set_option maxRecDepth 100000 in
theorem c_isCountG (l : Launch) (D : va_G) (a : Nat → Nat) (cA : ClassId) (N : Int32) (f : Nat → Int32) (ob : OB) (tr : TR) (nd : ND) (e : Nat) (he : e < 22) : Met l yX1_isCount (wX1_isCount :: wb) ({ frames := 0, cells := 0, slots := 0, locals := 0 } : Room) (va_Pc [.ref (a 4), .int (nI e)] (zPu D [(cA, .int)] (cw a cA N f ob tr nd))) (zb_I (if nI e = 9 then 1 else 0)) 0 0 (fun _ => False) := by
  refine Met.ofW (cc := cX1_isCount) (maxL := 2) (ret := (some .boolean)) (by decide) rfl ?_
  intro p ev s m args below meth c s₁ B hml hv
  obtain ⟨rfl, hP, hK, hSt, hnw⟩ := hv
  have hx := B.exec
  have hb := B.bytes
  have hr := B.returns
  have hts := atoms_spec (ws := wX1_isCount :: wb) B.pre
  have htb : ∀ w ∈ wb, w.before ([.ref (a 4), .int (nI e)]).toArray s = true := fun w h => hts w (List.mem_cons_of_mem _ h)
  have hown : s.vm.findClass RX1 = some m.cls := findClass_of_methodNamed B.named
  have hlocks := B.notSynchronized
  have hS : va_S (fun _ => False) s.heap s.heap [] := va_S.rf
  obtain ⟨⟨tt, ff, hZT, hTT, hZF, hTF⟩, hXS⟩ := id hSt
  have hl := lv_entry ([.ref (a 4), .int (nI e)]) (n := 2) (Nat.le_of_ble_eq_true rfl)
  rw [lg_entry_eq]
  generalize (lg_sl ([.ref (a 4), .int (nI e)]) ++ List.replicate (2 - (lg_sl ([.ref (a 4), .int (nI e)])).length) Slot.unset).toArray = ls at hl ⊢
  have hl : lv_has ls 2 [(0, .ref (a 4)), (1, .int (nI e))] := hl
  refine zb_abs (fun Q hQ => ?_)
  refine lv_iload_n hx hb dX1_isCount_0 rfl (lv_at hl 1 rfl) ?_
  refine lv_aload_n hx hb dX1_isCount_1 rfl (lv_at hl 0 rfl) ?_
  refine va_get (D := D) (ci := 1) (v := .int 9) (fs := [.ref (a 1), .int 9, .int 5]) (C := RX1) (T := TX1) (N := 3) hx hb htb inX1 hown hK hP 4 rfl rfl 1 (by decide) (htb _ kF_X1_15) (fun _ h9 => h9) rfl dX1_isCount_2 ?_
  refine lv_icmp_ne (tgt := 12) hx hb dX1_isCount_5 (by decide) (fun hc1 => ?_) (fun hc1 => ?_)
  · refine lv_iconst (v := 0) hx hb dX1_isCount_12 (by decide) ?_
    rw [hQ]
    exact W.zret (v := 0) hx hb hr rfl (fun t ht hW => ⟨congrArg (fun z => Outcome.returned (some (Value.int z))) (by simp only [if_neg hc1]), ht⟩) (fun q h => nomatch h) dX1_isCount_13
  refine lv_iconst (v := 1) hx hb dX1_isCount_8 (by decide) ?_
  refine lv_goto (tgt := 13) hx hb dX1_isCount_9 (by decide) ?_
  rw [hQ]
  exact W.zret (v := 1) hx hb hr rfl (fun t ht hW => ⟨congrArg (fun z => Outcome.returned (some (Value.int z))) (by simp only [if_pos hc1]), ht⟩) (fun q h => nomatch h) dX1_isCount_13
set_option maxHeartbeats 4000000 in
set_option maxRecDepth 100000 in
theorem c_countG (l : Launch) (D : va_G) (a : Nat → Nat) (cA : ClassId) (N : Int32) (f : Nat → Int32) (ob : OB) (tr : TR) (nd : ND) (cn : Nat) (hcn : f (xP 9) = nI cn) (hcn4 : cn ≤ 4) : Met l yX1_count (wX1_count :: wb) ({ frames := 1, cells := 0, slots := 0, locals := 22 } : Room) (va_Pc [.ref (a 4)] (zPu D [(cA, .int)] (cw a cA N f ob tr nd))) (zb_I (nI cn)) 0 0 (fun _ => False) := by
  refine Met.ofW (cc := cX1_count) (maxL := 1) (ret := (some .int)) (by decide) rfl ?_
  intro p ev s m args below meth c s₁ B hml hv
  obtain ⟨rfl, hP, hK, hSt, hnw⟩ := hv
  have hx := B.exec
  have hb := B.bytes
  have hr := B.returns
  have hts := atoms_spec (ws := wX1_count :: wb) B.pre
  have htb : ∀ w ∈ wb, w.before ([.ref (a 4)]).toArray s = true := fun w h => hts w (List.mem_cons_of_mem _ h)
  have hown : s.vm.findClass RX1 = some m.cls := findClass_of_methodNamed B.named
  have hlocks := B.notSynchronized
  have hS : va_S (fun _ => False) s.heap s.heap [] := va_S.rf
  obtain ⟨⟨tt, ff, hZT, hTT, hZF, hTF⟩, hXS⟩ := id hSt
  have hl := lv_entry ([.ref (a 4)]) (n := 1) (Nat.le_of_ble_eq_true rfl)
  rw [lg_entry_eq]
  generalize (lg_sl ([.ref (a 4)]) ++ List.replicate (1 - (lg_sl ([.ref (a 4)])).length) Slot.unset).toArray = ls at hl ⊢
  have hl : lv_has ls 1 [(0, .ref (a 4))] := hl
  refine zb_abs (fun Q hQ => ?_)
  refine lv_iconst (v := 4) hx hb dX1_count_0 (by decide) ?_
  refine lv_aload_n hx hb dX1_count_1 rfl (lv_at hl 0 rfl) ?_
  refine va_get (D := D) (ci := 1) (v := .ref (a 1)) (fs := [.ref (a 1), .int 9, .int 5]) (C := RX1) (T := TX1) (N := 3) hx hb htb inX1 hown hK hP 4 rfl rfl 0 (by decide) (htb _ kF_X1_9) (fun _ h9 => h9) rfl dX1_count_2 ?_
  refine lv_aload_n hx hb dX1_count_5 rfl (lv_at hl 0 rfl) ?_
  refine va_get (D := D) (ci := 1) (v := .int 9) (fs := [.ref (a 1), .int 9, .int 5]) (C := RX1) (T := TX1) (N := 3) hx hb htb inX1 hown hK hP 4 rfl rfl 1 (by decide) (htb _ kF_X1_15) (fun _ h9 => h9) rfl dX1_count_6 ?_
  refine lv_iconst (v := 0) hx hb dX1_count_9 (by decide) ?_
  refine zb_ci (va_runV (As := [.int 9, .int 0]) (rest := [.int 4]) ⟨hx, hb, hml, hown, htb⟩ (c_byteAt l D a cA N f ob tr nd 9 0 (by decide) (by decide)) (cwV 2 htb (wb_V kM_X1_24 kI_X0_byteAt kS_X0_byteAt kN_X0 kD_X0_byteAt) rfl rfl rfl (by decide +kernel) ⟨Nat.le_of_ble_eq_true rfl, Nat.le_of_ble_eq_true rfl⟩) (zp_V 1 rfl rfl hP hK hSt hS hnw) rfl rfl hl.1 rfl (lv_room (Nat.le_of_ble_eq_true rfl)) dX1_count_10 ⟨Nat.le_of_ble_eq_true rfl, Nat.le_of_ble_eq_true rfl⟩) ?_
  refine zb_ti (y := nI cn) (by rw [Nat.add_zero]; exact hcn) ?_
  refine va_mmin hx hb (by rw [hml]; exact hl.1.symm) hown (htb _ kM_X1_28) (htb _ kZ_min) (htb _ kN_Math) (htb _ kD_min) (Nat.le_of_ble_eq_true rfl) (Nat.le_of_ble_eq_true rfl) (Nat.le_of_ble_eq_true rfl) (Nat.le_of_ble_eq_true rfl) dX1_count_13 ?_
  refine zb_ti (y := nI cn) (by show (if nI cn < nI 4 then nI cn else nI 4) = nI cn; rcases Nat.lt_or_ge cn 4 with h9 | h9; exact if_pos (nI_lt h9 (by decide)); rw [if_neg (nI_nlt h9 (by omega))]; rw [show cn = 4 by omega]) ?_
  rw [hQ]
  exact W.iret (v := nI cn) hx hb hr (fun t ht hW => ⟨congrArg (fun z => Outcome.returned (some (Value.int z))) (rfl), ht⟩) (fun q h => nomatch h) dX1_count_16
set_option maxHeartbeats 4000000 in
set_option maxRecDepth 100000 in
theorem c_targetG (l : Launch) (D : va_G) (a : Nat → Nat) (cA : ClassId) (N : Int32) (f : Nat → Int32) (ob : OB) (tr : TR) (nd : ND) (k : Nat) (hB : isB f) (hk1 : 1 ≤ k) (hk4 : k ≤ 4) : Met l yX1_target (wX1_target :: wb) ({ frames := 1, cells := 0, slots := 0, locals := 27 } : Room) (va_Pc [.ref (a 4), .int (nI k)] (zPu D [(cA, .int)] (cw a cA N f ob tr nd))) (zb_I (oI (mE f 9 5 k))) 0 0 (fun _ => False) := by
  refine Met.ofW (cc := cX1_target) (maxL := 2) (ret := (some .int)) (by decide) rfl ?_
  intro p ev s m args below meth c s₁ B hml hv
  obtain ⟨rfl, hP, hK, hSt, hnw⟩ := hv
  have hx := B.exec
  have hb := B.bytes
  have hr := B.returns
  have hts := atoms_spec (ws := wX1_target :: wb) B.pre
  have htb : ∀ w ∈ wb, w.before ([.ref (a 4), .int (nI k)]).toArray s = true := fun w h => hts w (List.mem_cons_of_mem _ h)
  have hown : s.vm.findClass RX1 = some m.cls := findClass_of_methodNamed B.named
  have hlocks := B.notSynchronized
  have hS : va_S (fun _ => False) s.heap s.heap [] := va_S.rf
  obtain ⟨⟨tt, ff, hZT, hTT, hZF, hTF⟩, hXS⟩ := id hSt
  have hl := lv_entry ([.ref (a 4), .int (nI k)]) (n := 2) (Nat.le_of_ble_eq_true rfl)
  rw [lg_entry_eq]
  generalize (lg_sl ([.ref (a 4), .int (nI k)]) ++ List.replicate (2 - (lg_sl ([.ref (a 4), .int (nI k)])).length) Slot.unset).toArray = ls at hl ⊢
  have hl : lv_has ls 2 [(0, .ref (a 4)), (1, .int (nI k))] := hl
  refine zb_abs (fun Q hQ => ?_)
  have hz4 := (by decide : ∀ k, k < 5 → 1 ≤ k → xZ (9 + k) = 4 ∧ 9 + k < 22) k (by omega) hk1
  refine lv_aload_n hx hb dX1_target_0 rfl (lv_at hl 0 rfl) ?_
  refine va_get (D := D) (ci := 1) (v := .ref (a 1)) (fs := [.ref (a 1), .int 9, .int 5]) (C := RX1) (T := TX1) (N := 3) hx hb htb inX1 hown hK hP 4 rfl rfl 0 (by decide) (htb _ kF_X1_9) (fun _ h9 => h9) rfl dX1_target_1 ?_
  refine lv_aload_n hx hb dX1_target_4 rfl (lv_at hl 0 rfl) ?_
  refine va_get (D := D) (ci := 1) (v := .ref (a 1)) (fs := [.ref (a 1), .int 9, .int 5]) (C := RX1) (T := TX1) (N := 3) hx hb htb inX1 hown hK hP 4 rfl rfl 0 (by decide) (htb _ kF_X1_9) (fun _ h9 => h9) rfl dX1_target_5 ?_
  refine lv_aload_n hx hb dX1_target_8 rfl (lv_at hl 0 rfl) ?_
  refine va_get (D := D) (ci := 1) (v := .int 9) (fs := [.ref (a 1), .int 9, .int 5]) (C := RX1) (T := TX1) (N := 3) hx hb htb inX1 hown hK hP 4 rfl rfl 1 (by decide) (htb _ kF_X1_15) (fun _ h9 => h9) rfl dX1_target_9 ?_
  refine lv_iload_n hx hb dX1_target_12 rfl (lv_at hl 1 rfl) ?_
  refine lv_iadd hx hb dX1_target_13 ?_
  refine zb_ti (nI_add 9 k) ?_
  refine lv_iconst (v := 0) hx hb dX1_target_14 (by decide) ?_
  refine lv_iconst (v := 4) hx hb dX1_target_15 (by decide) ?_
  refine zb_cl (va_runV (As := [.int (nI (9 + k)), .int 0, .int 4]) (rest := [.ref (a 1)]) ⟨hx, hb, hml, hown, htb⟩ (c_part l D a cA N f ob tr nd (9 + k) 0 4 hB hz4.2 (by rw [hz4.1]; decide) (by decide)) (cwV 3 htb (wb_V kM_X1_33 kI_X0_part kS_X0_part kN_X0 kD_X0_part) rfl rfl rfl (by decide +kernel) ⟨Nat.le_of_ble_eq_true rfl, Nat.le_of_ble_eq_true rfl⟩) (zp_V 1 rfl rfl hP hK hSt hS hnw) rfl rfl hl.1 rfl (lv_room (Nat.le_of_ble_eq_true rfl)) dX1_target_16 ⟨Nat.le_of_ble_eq_true rfl, Nat.le_of_ble_eq_true rfl⟩) ?_
  refine lv_l2i hx hb dX1_target_19 rfl ?_
  refine zb_ti (y := nI (sm f (xP (9 + k)) 4)) (by rw [Nat.add_zero]; exact lN_i _) ?_
  refine lv_aload_n hx hb dX1_target_20 rfl (lv_at hl 0 rfl) ?_
  refine va_get (D := D) (ci := 1) (v := .int 5) (fs := [.ref (a 1), .int 9, .int 5]) (C := RX1) (T := TX1) (N := 3) hx hb htb inX1 hown hK hP 4 rfl rfl 2 (by decide) (htb _ kF_X1_21) (fun _ h9 => h9) rfl dX1_target_21 ?_
  refine zb_ci (va_runV (As := [.int (nI (sm f (xP (9 + k)) 4)), .int 5]) (rest := []) ⟨hx, hb, hml, hown, htb⟩ (c_named l D a cA N f ob tr nd (nI (sm f (xP (9 + k)) 4)) 5 (by decide)) (cwV 2 htb (wb_V kM_X1_37 kI_X0_named kS_X0_named kN_X0 kD_X0_named) rfl rfl rfl (by decide +kernel) ⟨Nat.le_of_ble_eq_true rfl, Nat.le_of_ble_eq_true rfl⟩) (zp_V 1 rfl rfl hP hK hSt hS hnw) rfl rfl hl.1 rfl (lv_room (Nat.le_of_ble_eq_true rfl)) dX1_target_24 ⟨Nat.le_of_ble_eq_true rfl, Nat.le_of_ble_eq_true rfl⟩) ?_
  rw [hQ]
  exact W.iret (v := oI (mp (nI (sm f (xP (9 + k)) 4)) 5)) hx hb hr (fun t ht hW => ⟨congrArg (fun z => Outcome.returned (some (Value.int z))) (rfl), ht⟩) (fun q h => nomatch h) dX1_target_27
set_option maxHeartbeats 4000000 in
set_option maxRecDepth 100000 in
theorem c_lengthG (l : Launch) (D : va_G) (a : Nat → Nat) (cA : ClassId) (N : Int32) (f : Nat → Int32) (ob : OB) (tr : TR) (nd : ND) (cn : Nat) (hcn : f (xP 9) = nI cn) (hcn4 : cn ≤ 4) (hB : isB f) : Met l yX1_contentLength (wX1_contentLength :: wb) ({ frames := 2, cells := 0, slots := 0, locals := 48 } : Room) (va_Pc [.ref (a 4)] (zPu D [(cA, .int)] (cw a cA N f ob tr nd))) (zb_I (nI (mL f 9 5 cn))) 0 0 (fun _ => False) := by
  refine Met.ofW (cc := cX1_contentLength) (maxL := 5) (ret := (some .int)) (by decide) rfl ?_
  intro p ev s m args below meth c s₁ B hml hv
  obtain ⟨rfl, hP, hK, hSt, hnw⟩ := hv
  have hx := B.exec
  have hb := B.bytes
  have hr := B.returns
  have hts := atoms_spec (ws := wX1_contentLength :: wb) B.pre
  have htb : ∀ w ∈ wb, w.before ([.ref (a 4)]).toArray s = true := fun w h => hts w (List.mem_cons_of_mem _ h)
  have hown : s.vm.findClass RX1 = some m.cls := findClass_of_methodNamed B.named
  have hlocks := B.notSynchronized
  have hS : va_S (fun _ => False) s.heap s.heap [] := va_S.rf
  obtain ⟨⟨tt, ff, hZT, hTT, hZF, hTF⟩, hXS⟩ := id hSt
  have hl := lv_entry ([.ref (a 4)]) (n := 5) (Nat.le_of_ble_eq_true rfl)
  rw [lg_entry_eq]
  generalize (lg_sl ([.ref (a 4)]) ++ List.replicate (5 - (lg_sl ([.ref (a 4)])).length) Slot.unset).toArray = ls at hl ⊢
  have hl : lv_has ls 5 [(0, .ref (a 4))] := hl
  refine zb_abs (fun Q hQ => ?_)
  refine lv_aload_n hx hb dX1_contentLength_0 rfl (lv_at hl 0 rfl) ?_
  refine zb_ci (va_runV (As := []) (rest := []) ⟨hx, hb, hml, hown, htb⟩ (c_countG l D a cA N f ob tr nd cn hcn hcn4) (cwV 0 htb (wb_V kM_X1_50 kI_X1_count kS_X1_count kN_X1 kD_X1_count) rfl rfl rfl (by decide +kernel) ⟨Nat.le_of_ble_eq_true rfl, Nat.le_of_ble_eq_true rfl⟩) (zp_V 4 rfl rfl hP hK hSt hS hnw) rfl rfl hl.1 rfl (lv_room (Nat.le_of_ble_eq_true rfl)) dX1_contentLength_1 ⟨Nat.le_of_ble_eq_true rfl, Nat.le_of_ble_eq_true rfl⟩) ?_
  refine lv_istore_n hx hb dX1_contentLength_4 rfl hl (by decide) rfl (fun ls hl => ?_)
  have hl : lv_has ls 5 [(1, .int (nI cn)), (0, .ref (a 4))] := hl
  refine lv_iconst (v := 0) hx hb dX1_contentLength_5 (by decide) ?_
  refine lv_istore_n hx hb dX1_contentLength_6 rfl hl (by decide) rfl (fun ls hl => ?_)
  have hl : lv_has ls 5 [(2, .int 0), (1, .int (nI cn)), (0, .ref (a 4))] := hl
  refine lv_iconst (v := 1) hx hb dX1_contentLength_7 (by decide) ?_
  refine lv_istore_n hx hb dX1_contentLength_8 rfl hl (by decide) rfl (fun ls hl => ?_)
  have hl : lv_has ls 5 [(3, .int 1), (2, .int 0), (1, .int (nI cn)), (0, .ref (a 4))] := hl
  have lp : ∀ (nn k : Nat) (ls : Array Slot), k + nn = cn → lv_has ls 5 [(0, .ref (a 4)), (1, .int (nI cn)), (2, .int (nI (mL f 9 5 (k)))), (3, .int (nI (k + 1)))] → W p l ev ({ frames := 2, cells := 0, slots := 0, locals := 48 } : Room) s m ([.ref (a 4)]).toArray below meth c s.heap [] 0 0 Q (F0 m 9 ls []) := by
    intro nn
    induction nn with
    | zero =>
      intro k ls hk_lp  hl
      have hk0_lp : k = cn := by omega
      refine lv_iload_n hx hb dX1_contentLength_9 rfl (lv_at hl 3 rfl) ?_
      refine lv_iload_n hx hb dX1_contentLength_10 rfl (lv_at hl 1 rfl) ?_
      refine lv_icmp_gt (tgt := 41) hx hb dX1_contentLength_11 (by decide) (fun _ => ?_) (fun hno => absurd (by rw [hk0_lp]; exact nI_lt (Nat.lt_succ_self _) (by omega)) hno)
      refine lv_iload_n hx hb dX1_contentLength_41 rfl (lv_at hl 2 rfl) ?_
      rw [hQ]
      exact W.iret (v := nI (mL f 9 5 (k))) hx hb hr (fun t ht hW => ⟨congrArg (fun z => Outcome.returned (some (Value.int z))) (by rw [hk0_lp]), ht⟩) (fun q h => nomatch h) dX1_contentLength_42
    | succ nn ih_lp =>
      intro k ls hk_lp  hl
      have hk1_lp : k < cn := by omega
      refine lv_iload_n hx hb dX1_contentLength_9 rfl (lv_at hl 3 rfl) ?_
      refine lv_iload_n hx hb dX1_contentLength_10 rfl (lv_at hl 1 rfl) ?_
      refine lv_icmp_gt (tgt := 41) hx hb dX1_contentLength_11 (by decide) (fun hno => absurd hno (nI_nlt hk1_lp (by omega))) (fun _ => ?_)
      refine lv_aload_n hx hb dX1_contentLength_14 rfl (lv_at hl 0 rfl) ?_
      refine lv_iload_n hx hb dX1_contentLength_15 rfl (lv_at hl 3 rfl) ?_
      refine zb_ci (va_runV (As := [.int (nI (k + 1))]) (rest := []) ⟨hx, hb, hml, hown, htb⟩ (c_targetG l D a cA N f ob tr nd (k + 1) hB (by omega) (by omega)) (cwV 1 htb (wb_V kM_X1_41 kI_X1_target kS_X1_target kN_X1 kD_X1_target) rfl rfl rfl (by decide +kernel) ⟨Nat.le_of_ble_eq_true rfl, Nat.le_of_ble_eq_true rfl⟩) (zp_V 4 rfl rfl hP hK hSt hS hnw) rfl rfl hl.1 rfl (lv_room (Nat.le_of_ble_eq_true rfl)) dX1_contentLength_16 ⟨Nat.le_of_ble_eq_true rfl, Nat.le_of_ble_eq_true rfl⟩) ?_
      cases hme : mE f 9 5 (k + 1) with
      | none =>
        refine zb_ti (y := (-1)) (rfl) ?_
        refine lv_istore hx hb dX1_contentLength_19 hl (by decide) rfl (fun ls hl => ?_)
        have hl : lv_has ls 5 [(4, .int (-1)), (0, .ref (a 4)), (1, .int (nI cn)), (2, .int (nI (mL f 9 5 (k)))), (3, .int (nI (k + 1)))] := hl
        refine lv_iload hx hb dX1_contentLength_21 (lv_at hl 0 rfl) ?_
        refine lv_iconst (v := (-1)) hx hb dX1_contentLength_23 (by decide) ?_
        refine lv_icmp_eq (tgt := 35) hx hb dX1_contentLength_24 (by decide) (fun _ => ?_) (fun hno => absurd (by decide) hno)
        have e1 : nI (mL f 9 5 (k)) = nI (mL f 9 5 (k + 1)) := by rw [mL_n hme]
        rw [e1] at hl
        have hl : lv_has ls 5 [(4, .int (-1)), (0, .ref (a 4)), (1, .int (nI cn)), (2, .int (nI (mL f 9 5 (k + 1)))), (3, .int (nI (k + 1)))] := hl
        refine lv_iinc (k := 4) (v := nI ((k + 1) + 1)) hx hb dX1_contentLength_35 hl rfl (nI_1 (k + 1)) (by decide) rfl (fun ls hl => ?_)
        have hl : lv_has ls 5 [(3, .int (nI ((k + 1) + 1))), (4, .int (-1)), (0, .ref (a 4)), (1, .int (nI cn)), (2, .int (nI (mL f 9 5 (k + 1))))] := hl
        refine lv_goto (tgt := 9) hx hb dX1_contentLength_38 (by decide) ?_
        exact ih_lp (k + 1) ls (by omega) (lv_sub hl [2, 3, 4, 0] rfl)
      | some e9 =>
        refine zb_ti (y := nI e9) (rfl) ?_
        have h22_e9 : e9 < 22 := mE_lt hme
        refine lv_istore hx hb dX1_contentLength_19 hl (by decide) rfl (fun ls hl => ?_)
        have hl : lv_has ls 5 [(4, .int (nI e9)), (0, .ref (a 4)), (1, .int (nI cn)), (2, .int (nI (mL f 9 5 (k)))), (3, .int (nI (k + 1)))] := hl
        refine lv_iload hx hb dX1_contentLength_21 (lv_at hl 0 rfl) ?_
        refine lv_iconst (v := (-1)) hx hb dX1_contentLength_23 (by decide) ?_
        refine lv_icmp_eq (tgt := 35) hx hb dX1_contentLength_24 (by decide) (fun hno => absurd hno (ni_m1 h22_e9)) (fun _ => ?_)
        refine lv_iload_n hx hb dX1_contentLength_27 rfl (lv_at hl 3 rfl) ?_
        refine lv_iload hx hb dX1_contentLength_28 (lv_at hl 0 rfl) ?_
        refine zb_ci (va_runS (As := [.int (nI e9)]) (rest := [.int (nI (mL f 9 5 (k)))]) ⟨hx, hb, hml, hown, htb⟩ (c_sizeOf l D a cA N f ob tr nd e9 h22_e9) (va_cwS 1 htb (wb_S kM_X1_46 kZ_X0_sizeOf kN_X0 kD_X0_sizeOf) rfl rfl rfl (by decide +kernel) ⟨Nat.le_of_ble_eq_true rfl, Nat.le_of_ble_eq_true rfl⟩) (zp_S hP hK hSt hS hnw) rfl rfl hl.1 rfl (lv_room (Nat.le_of_ble_eq_true rfl)) dX1_contentLength_30 ⟨Nat.le_of_ble_eq_true rfl, Nat.le_of_ble_eq_true rfl⟩) ?_
        refine lv_iadd hx hb dX1_contentLength_33 ?_
        refine zb_ti (nI_add (mL f 9 5 (k)) (xZ e9)) ?_
        refine zb_ti (y := nI (mL f 9 5 (k + 1))) (by rw [mL_s hme]) ?_
        refine lv_istore_n hx hb dX1_contentLength_34 rfl hl (by decide) rfl (fun ls hl => ?_)
        have hl : lv_has ls 5 [(2, .int (nI (mL f 9 5 (k + 1)))), (4, .int (nI e9)), (0, .ref (a 4)), (1, .int (nI cn)), (3, .int (nI (k + 1)))] := hl
        refine lv_iinc (k := 4) (v := nI ((k + 1) + 1)) hx hb dX1_contentLength_35 hl rfl (nI_1 (k + 1)) (by decide) rfl (fun ls hl => ?_)
        have hl : lv_has ls 5 [(3, .int (nI ((k + 1) + 1))), (2, .int (nI (mL f 9 5 (k + 1)))), (4, .int (nI e9)), (0, .ref (a 4)), (1, .int (nI cn))] := hl
        refine lv_goto (tgt := 9) hx hb dX1_contentLength_38 (by decide) ?_
        exact ih_lp (k + 1) ls (by omega) (lv_sub hl [3, 4, 1, 0] rfl)
  exact lp (cn - 0) (0) ls (by omega) (lv_sub hl [3, 2, 1, 0] rfl)
set_option maxHeartbeats 4000000 in
set_option maxRecDepth 100000 in
theorem c_contentG (l : Launch) (D : va_G) (a : Nat → Nat) (cA : ClassId) (N : Int32) (f : Nat → Int32) (ob : OB) (tr : TR) (nd : ND) (cn : Nat) (hcn : f (xP 9) = nI cn) (hcn4 : cn ≤ 4) (hB : isB f) (h8 : mL f 9 5 cn ≤ 8) : Met l yX1_content (wX1_content :: wb) ({ frames := 2, cells := 0, slots := 0, locals := 48 } : Room) (va_Pc [.ref (a 4)] (zPu D [(cA, .int)] (cw a cA N f ob tr nd))) (zb_L (lN (mC f 9 5 cn))) 0 0 (fun _ => False) := by
  refine Met.ofW (cc := cX1_content) (maxL := 8) (ret := (some .long)) (by decide) rfl ?_
  intro p ev s m args below meth c s₁ B hml hv
  obtain ⟨rfl, hP, hK, hSt, hnw⟩ := hv
  have hx := B.exec
  have hb := B.bytes
  have hr := B.returns
  have hts := atoms_spec (ws := wX1_content :: wb) B.pre
  have htb : ∀ w ∈ wb, w.before ([.ref (a 4)]).toArray s = true := fun w h => hts w (List.mem_cons_of_mem _ h)
  have hown : s.vm.findClass RX1 = some m.cls := findClass_of_methodNamed B.named
  have hlocks := B.notSynchronized
  have hS : va_S (fun _ => False) s.heap s.heap [] := va_S.rf
  obtain ⟨⟨tt, ff, hZT, hTT, hZF, hTF⟩, hXS⟩ := id hSt
  have hl := lv_entry ([.ref (a 4)]) (n := 8) (Nat.le_of_ble_eq_true rfl)
  rw [lg_entry_eq]
  generalize (lg_sl ([.ref (a 4)]) ++ List.replicate (8 - (lg_sl ([.ref (a 4)])).length) Slot.unset).toArray = ls at hl ⊢
  have hl : lv_has ls 8 [(0, .ref (a 4))] := hl
  refine zb_abs (fun Q hQ => ?_)
  refine lv_aload_n hx hb dX1_content_0 rfl (lv_at hl 0 rfl) ?_
  refine zb_ci (va_runV (As := []) (rest := []) ⟨hx, hb, hml, hown, htb⟩ (c_countG l D a cA N f ob tr nd cn hcn hcn4) (cwV 0 htb (wb_V kM_X1_50 kI_X1_count kS_X1_count kN_X1 kD_X1_count) rfl rfl rfl (by decide +kernel) ⟨Nat.le_of_ble_eq_true rfl, Nat.le_of_ble_eq_true rfl⟩) (zp_V 4 rfl rfl hP hK hSt hS hnw) rfl rfl hl.1 rfl (lv_room (Nat.le_of_ble_eq_true rfl)) dX1_content_1 ⟨Nat.le_of_ble_eq_true rfl, Nat.le_of_ble_eq_true rfl⟩) ?_
  refine lv_istore_n hx hb dX1_content_4 rfl hl (by decide) rfl (fun ls hl => ?_)
  have hl : lv_has ls 8 [(1, .int (nI cn)), (0, .ref (a 4))] := hl
  refine lv_lconst (v := 0) hx hb dX1_content_5 (by decide) ?_
  refine lv_lstore_n hx hb dX1_content_6 rfl hl (by decide) rfl (fun ls hl => ?_)
  have hl : lv_has ls 8 [(2, .long 0), (1, .int (nI cn)), (0, .ref (a 4))] := hl
  refine lv_iconst (v := 0) hx hb dX1_content_7 (by decide) ?_
  refine lv_istore hx hb dX1_content_8 hl (by decide) rfl (fun ls hl => ?_)
  have hl : lv_has ls 8 [(4, .int 0), (2, .long 0), (1, .int (nI cn)), (0, .ref (a 4))] := hl
  refine lv_iconst (v := 1) hx hb dX1_content_10 (by decide) ?_
  refine lv_istore hx hb dX1_content_11 hl (by decide) rfl (fun ls hl => ?_)
  have hl : lv_has ls 8 [(5, .int 1), (4, .int 0), (2, .long 0), (1, .int (nI cn)), (0, .ref (a 4))] := hl
  have lp : ∀ (nn k : Nat) (ls : Array Slot), k + nn = cn → lv_has ls 8 [(0, .ref (a 4)), (1, .int (nI cn)), (2, .long (lN (mC f 9 5 (k)))), (4, .int (nI (mL f 9 5 (k)))), (5, .int (nI (k + 1)))] → W p l ev ({ frames := 2, cells := 0, slots := 0, locals := 48 } : Room) s m ([.ref (a 4)]).toArray below meth c s.heap [] 0 0 Q (F0 m 13 ls []) := by
    intro nn
    induction nn with
    | zero =>
      intro k ls hk_lp  hl
      have hk0_lp : k = cn := by omega
      refine lv_iload hx hb dX1_content_13 (lv_at hl 4 rfl) ?_
      refine lv_iload_n hx hb dX1_content_15 rfl (lv_at hl 1 rfl) ?_
      refine lv_icmp_gt (tgt := 74) hx hb dX1_content_16 (by decide) (fun _ => ?_) (fun hno => absurd (by rw [hk0_lp]; exact nI_lt (Nat.lt_succ_self _) (by omega)) hno)
      refine lv_lload_n hx hb dX1_content_74 rfl (lv_at hl 2 rfl) ?_
      rw [hQ]
      exact W.lret (v := lN (mC f 9 5 (k))) hx hb hr (fun t ht hW => ⟨congrArg (fun z => Outcome.returned (some (Value.long z))) (by rw [hk0_lp]), ht⟩) (fun q h => nomatch h) dX1_content_75
    | succ nn ih_lp =>
      intro k ls hk_lp  hl
      have hk1_lp : k < cn := by omega
      refine lv_iload hx hb dX1_content_13 (lv_at hl 4 rfl) ?_
      refine lv_iload_n hx hb dX1_content_15 rfl (lv_at hl 1 rfl) ?_
      refine lv_icmp_gt (tgt := 74) hx hb dX1_content_16 (by decide) (fun hno => absurd hno (nI_nlt hk1_lp (by omega))) (fun _ => ?_)
      refine lv_aload_n hx hb dX1_content_19 rfl (lv_at hl 0 rfl) ?_
      refine lv_iload hx hb dX1_content_20 (lv_at hl 4 rfl) ?_
      refine zb_ci (va_runV (As := [.int (nI (k + 1))]) (rest := []) ⟨hx, hb, hml, hown, htb⟩ (c_targetG l D a cA N f ob tr nd (k + 1) hB (by omega) (by omega)) (cwV 1 htb (wb_V kM_X1_41 kI_X1_target kS_X1_target kN_X1 kD_X1_target) rfl rfl rfl (by decide +kernel) ⟨Nat.le_of_ble_eq_true rfl, Nat.le_of_ble_eq_true rfl⟩) (zp_V 4 rfl rfl hP hK hSt hS hnw) rfl rfl hl.1 rfl (lv_room (Nat.le_of_ble_eq_true rfl)) dX1_content_22 ⟨Nat.le_of_ble_eq_true rfl, Nat.le_of_ble_eq_true rfl⟩) ?_
      cases hme : mE f 9 5 (k + 1) with
      | none =>
        refine zb_ti (y := (-1)) (rfl) ?_
        refine lv_istore hx hb dX1_content_25 hl (by decide) rfl (fun ls hl => ?_)
        have hl : lv_has ls 8 [(6, .int (-1)), (0, .ref (a 4)), (1, .int (nI cn)), (2, .long (lN (mC f 9 5 (k)))), (4, .int (nI (mL f 9 5 (k)))), (5, .int (nI (k + 1)))] := hl
        refine lv_iload hx hb dX1_content_27 (lv_at hl 0 rfl) ?_
        refine lv_iconst (v := (-1)) hx hb dX1_content_29 (by decide) ?_
        refine lv_icmp_eq (tgt := 68) hx hb dX1_content_30 (by decide) (fun _ => ?_) (fun hno => absurd (by decide) hno)
        have e1 : lN (mC f 9 5 (k)) = lN (mC f 9 5 (k + 1)) := by rw [mC_n hme]
        rw [e1] at hl
        have hl : lv_has ls 8 [(6, .int (-1)), (0, .ref (a 4)), (1, .int (nI cn)), (2, .long (lN (mC f 9 5 (k + 1)))), (4, .int (nI (mL f 9 5 (k)))), (5, .int (nI (k + 1)))] := hl
        have e2 : nI (mL f 9 5 (k)) = nI (mL f 9 5 (k + 1)) := by rw [mL_n hme]
        rw [e2] at hl
        have hl : lv_has ls 8 [(6, .int (-1)), (0, .ref (a 4)), (1, .int (nI cn)), (2, .long (lN (mC f 9 5 (k + 1)))), (4, .int (nI (mL f 9 5 (k + 1)))), (5, .int (nI (k + 1)))] := hl
        refine lv_iinc (k := 5) (v := nI ((k + 1) + 1)) hx hb dX1_content_68 hl rfl (nI_1 (k + 1)) (by decide) rfl (fun ls hl => ?_)
        have hl : lv_has ls 8 [(5, .int (nI ((k + 1) + 1))), (6, .int (-1)), (0, .ref (a 4)), (1, .int (nI cn)), (2, .long (lN (mC f 9 5 (k + 1)))), (4, .int (nI (mL f 9 5 (k + 1))))] := hl
        refine lv_goto (tgt := 13) hx hb dX1_content_71 (by decide) ?_
        exact ih_lp (k + 1) ls (by omega) (lv_sub hl [2, 3, 4, 5, 0] rfl)
      | some e9 =>
        refine zb_ti (y := nI e9) (rfl) ?_
        have h22_e9 : e9 < 22 := mE_lt hme
        refine lv_istore hx hb dX1_content_25 hl (by decide) rfl (fun ls hl => ?_)
        have hl : lv_has ls 8 [(6, .int (nI e9)), (0, .ref (a 4)), (1, .int (nI cn)), (2, .long (lN (mC f 9 5 (k)))), (4, .int (nI (mL f 9 5 (k)))), (5, .int (nI (k + 1)))] := hl
        refine lv_iload hx hb dX1_content_27 (lv_at hl 0 rfl) ?_
        refine lv_iconst (v := (-1)) hx hb dX1_content_29 (by decide) ?_
        refine lv_icmp_eq (tgt := 68) hx hb dX1_content_30 (by decide) (fun hno => absurd hno (ni_m1 h22_e9)) (fun _ => ?_)
        have hft9 := x_fit e9 h22_e9
        have hm9 := mL_mono f 9 5 (show k + 1 ≤ cn by omega)
        have hs9 := mL_s hme
        refine lv_iload hx hb dX1_content_33 (lv_at hl 0 rfl) ?_
        refine zb_ci (va_runS (As := [.int (nI e9)]) (rest := []) ⟨hx, hb, hml, hown, htb⟩ (c_sizeOf l D a cA N f ob tr nd e9 h22_e9) (va_cwS 1 htb (wb_S kM_X1_46 kZ_X0_sizeOf kN_X0 kD_X0_sizeOf) rfl rfl rfl (by decide +kernel) ⟨Nat.le_of_ble_eq_true rfl, Nat.le_of_ble_eq_true rfl⟩) (zp_S hP hK hSt hS hnw) rfl rfl hl.1 rfl (lv_room (Nat.le_of_ble_eq_true rfl)) dX1_content_35 ⟨Nat.le_of_ble_eq_true rfl, Nat.le_of_ble_eq_true rfl⟩) ?_
        refine lv_istore hx hb dX1_content_38 hl (by decide) rfl (fun ls hl => ?_)
        have hl : lv_has ls 8 [(7, .int (nI (xZ e9))), (6, .int (nI e9)), (0, .ref (a 4)), (1, .int (nI cn)), (2, .long (lN (mC f 9 5 (k)))), (4, .int (nI (mL f 9 5 (k)))), (5, .int (nI (k + 1)))] := hl
        refine lv_lload_n hx hb dX1_content_40 rfl (lv_at hl 4 rfl) ?_
        refine lv_aload_n hx hb dX1_content_41 rfl (lv_at hl 2 rfl) ?_
        refine va_get (D := D) (ci := 1) (v := .ref (a 1)) (fs := [.ref (a 1), .int 9, .int 5]) (C := RX1) (T := TX1) (N := 3) hx hb htb inX1 hown hK hP 4 rfl rfl 0 (by decide) (htb _ kF_X1_9) (fun _ h9 => h9) rfl dX1_content_42 ?_
        refine lv_iload hx hb dX1_content_45 (lv_at hl 1 rfl) ?_
        refine lv_iconst (v := 0) hx hb dX1_content_47 (by decide) ?_
        refine lv_iload hx hb dX1_content_48 (lv_at hl 0 rfl) ?_
        refine zb_cl (va_runV (As := [.int (nI e9), .int 0, .int (nI (xZ e9))]) (rest := [.long (lN (mC f 9 5 (k)))]) ⟨hx, hb, hml, hown, htb⟩ (c_part l D a cA N f ob tr nd e9 0 (xZ e9) hB h22_e9 (by omega) (mE_z (by decide) (by decide) hme)) (cwV 3 htb (wb_V kM_X1_33 kI_X0_part kS_X0_part kN_X0 kD_X0_part) rfl rfl rfl (by decide +kernel) ⟨Nat.le_of_ble_eq_true rfl, Nat.le_of_ble_eq_true rfl⟩) (zp_V 1 rfl rfl hP hK hSt hS hnw) rfl rfl hl.1 rfl (lv_room (Nat.le_of_ble_eq_true rfl)) dX1_content_50 ⟨Nat.le_of_ble_eq_true rfl, Nat.le_of_ble_eq_true rfl⟩) ?_
        refine zb_tl (y := lN (sm f (xP e9) (xZ e9))) (by rw [Nat.add_zero]) ?_
        refine lv_bipush (v := 8) hx hb dX1_content_53 (by decide) ?_
        refine lv_iload hx hb dX1_content_55 (lv_at hl 5 rfl) ?_
        refine lv_imul hx hb dX1_content_57 ?_
        refine zb_ti (pk_mul 8 (mL f 9 5 (k))) ?_
        refine lv_lshl hx hb dX1_content_58 rfl ?_
        refine lv_lor hx hb dX1_content_59 ?_
        refine zb_tl (y := lN (mC f 9 5 (k + 1))) (mC_or hB hme (by omega) (by omega)) ?_
        refine lv_lstore_n hx hb dX1_content_60 rfl hl (by decide) rfl (fun ls hl => ?_)
        have hl : lv_has ls 8 [(2, .long (lN (mC f 9 5 (k + 1)))), (7, .int (nI (xZ e9))), (6, .int (nI e9)), (0, .ref (a 4)), (1, .int (nI cn)), (4, .int (nI (mL f 9 5 (k)))), (5, .int (nI (k + 1)))] := hl
        refine lv_iload hx hb dX1_content_61 (lv_at hl 5 rfl) ?_
        refine lv_iload hx hb dX1_content_63 (lv_at hl 1 rfl) ?_
        refine lv_iadd hx hb dX1_content_65 ?_
        refine zb_ti (nI_add (mL f 9 5 (k)) (xZ e9)) ?_
        refine zb_ti (y := nI (mL f 9 5 (k + 1))) (by rw [hs9]) ?_
        refine lv_istore hx hb dX1_content_66 hl (by decide) rfl (fun ls hl => ?_)
        have hl : lv_has ls 8 [(4, .int (nI (mL f 9 5 (k + 1)))), (2, .long (lN (mC f 9 5 (k + 1)))), (7, .int (nI (xZ e9))), (6, .int (nI e9)), (0, .ref (a 4)), (1, .int (nI cn)), (5, .int (nI (k + 1)))] := hl
        refine lv_iinc (k := 6) (v := nI ((k + 1) + 1)) hx hb dX1_content_68 hl rfl (nI_1 (k + 1)) (by decide) rfl (fun ls hl => ?_)
        have hl : lv_has ls 8 [(5, .int (nI ((k + 1) + 1))), (4, .int (nI (mL f 9 5 (k + 1)))), (2, .long (lN (mC f 9 5 (k + 1)))), (7, .int (nI (xZ e9))), (6, .int (nI e9)), (0, .ref (a 4)), (1, .int (nI cn))] := hl
        refine lv_goto (tgt := 13) hx hb dX1_content_71 (by decide) ?_
        exact ih_lp (k + 1) ls (by omega) (lv_sub hl [5, 6, 2, 1, 0] rfl)
  exact lp (cn - 0) (0) ls (by omega) (lv_sub hl [4, 3, 2, 1, 0] rfl)
set_option maxHeartbeats 4000000 in
set_option maxRecDepth 100000 in
theorem c_countFaultG (l : Launch) (D : va_G) (a : Nat → Nat) (cA : ClassId) (N : Int32) (f : Nat → Int32) (ob : OB) (tr : TR) (nd : ND) (v : Nat) (hv31 : v < 256) (hB : isB f) : Met l yX1_countFault (wX1_countFault :: wb) ({ frames := 2, cells := 0, slots := 0, locals := 48 } : Room) (va_Pc [.ref (a 4), .int (nI v)] (zPu D [(cA, .int)] (cw a cA N f ob tr nd))) (zb_I (nI (cF f 9 5 v))) 0 0 (fun _ => False) := by
  refine Met.ofW (cc := cX1_countFault) (maxL := 5) (ret := (some .int)) (by decide) rfl ?_
  intro p ev s m args below meth c s₁ B hml hv
  obtain ⟨rfl, hP, hK, hSt, hnw⟩ := hv
  have hx := B.exec
  have hb := B.bytes
  have hr := B.returns
  have hts := atoms_spec (ws := wX1_countFault :: wb) B.pre
  have htb : ∀ w ∈ wb, w.before ([.ref (a 4), .int (nI v)]).toArray s = true := fun w h => hts w (List.mem_cons_of_mem _ h)
  have hown : s.vm.findClass RX1 = some m.cls := findClass_of_methodNamed B.named
  have hlocks := B.notSynchronized
  have hS : va_S (fun _ => False) s.heap s.heap [] := va_S.rf
  obtain ⟨⟨tt, ff, hZT, hTT, hZF, hTF⟩, hXS⟩ := id hSt
  have hl := lv_entry ([.ref (a 4), .int (nI v)]) (n := 5) (Nat.le_of_ble_eq_true rfl)
  rw [lg_entry_eq]
  generalize (lg_sl ([.ref (a 4), .int (nI v)]) ++ List.replicate (5 - (lg_sl ([.ref (a 4), .int (nI v)])).length) Slot.unset).toArray = ls at hl ⊢
  have hl : lv_has ls 5 [(0, .ref (a 4)), (1, .int (nI v))] := hl
  refine zb_abs (fun Q hQ => ?_)
  refine lv_iload_n hx hb dX1_countFault_0 rfl (lv_at hl 1 rfl) ?_
  refine lv_iconst (v := 4) hx hb dX1_countFault_1 (by decide) ?_
  refine lv_icmp_le (tgt := 8) hx hb dX1_countFault_2 (by decide) (fun hc1 => ?_) (fun hc1 => ?_)
  · have hv4 : v ≤ 4 := (nI_leI (by omega) (by decide)).mp hc1
    refine lv_iconst (v := 0) hx hb dX1_countFault_8 (by decide) ?_
    refine lv_istore_n hx hb dX1_countFault_9 rfl hl (by decide) rfl (fun ls hl => ?_)
    have hl : lv_has ls 5 [(2, .int 0), (0, .ref (a 4)), (1, .int (nI v))] := hl
    refine lv_iconst (v := 1) hx hb dX1_countFault_10 (by decide) ?_
    refine lv_istore_n hx hb dX1_countFault_11 rfl hl (by decide) rfl (fun ls hl => ?_)
    have hl : lv_has ls 5 [(3, .int 1), (2, .int 0), (0, .ref (a 4)), (1, .int (nI v))] := hl
    have lp : ∀ (nn k : Nat) (ls : Array Slot), k + nn = v → (mOk f 9 5 k = true) → lv_has ls 5 [(0, .ref (a 4)), (1, .int (nI v)), (2, .int (nI (mL f 9 5 (k)))), (3, .int (nI (k + 1)))] → W p l ev ({ frames := 2, cells := 0, slots := 0, locals := 48 } : Room) s m ([.ref (a 4), .int (nI v)]).toArray below meth c s.heap [] 0 0 Q (F0 m 12 ls []) := by
      intro nn
      induction nn with
      | zero =>
        intro k ls hk_lp hok hl
        have hk0_lp : k = v := by omega
        refine lv_iload_n hx hb dX1_countFault_12 rfl (lv_at hl 3 rfl) ?_
        refine lv_iload_n hx hb dX1_countFault_13 rfl (lv_at hl 1 rfl) ?_
        refine lv_icmp_gt (tgt := 47) hx hb dX1_countFault_14 (by decide) (fun _ => ?_) (fun hno => absurd (by rw [hk0_lp]; exact nI_lt (Nat.lt_succ_self _) (by omega)) hno)
        have hm31 : mL f 9 5 k < 2 ^ 31 := mL_31 f 9 5 k (by omega)
        refine lv_iload_n hx hb dX1_countFault_47 rfl (lv_at hl 2 rfl) ?_
        refine lv_bipush (v := 8) hx hb dX1_countFault_48 (by decide) ?_
        refine lv_icmp_le (tgt := 58) hx hb dX1_countFault_50 (by decide) (fun hc2 => ?_) (fun hc2 => ?_)
        · refine lv_iconst (v := 0) hx hb dX1_countFault_58 (by decide) ?_
          rw [hQ]
          exact W.iret (v := 0) hx hb hr (fun t ht hW => ⟨congrArg (fun z => Outcome.returned (some (Value.int z))) (by unfold cF; rw [if_neg (show ¬ 4 < v by omega), if_pos (by rw [← hk0_lp]; exact hok), if_neg (by rw [← hk0_lp]; have h9 : mL f 9 5 k ≤ 8 := (nI_leI (b := 8) (by omega) (by decide)).mp hc2; omega)]; rfl), ht⟩) (fun q h => nomatch h) dX1_countFault_59
        refine lv_ldc (v := 100925506) hx hb hown (htb _ kK_X1_49) dX1_countFault_53 ?_
        refine lv_goto (tgt := 59) hx hb dX1_countFault_55 (by decide) ?_
        rw [hQ]
        exact W.iret (v := 100925506) hx hb hr (fun t ht hW => ⟨congrArg (fun z => Outcome.returned (some (Value.int z))) (by unfold cF; rw [if_neg (show ¬ 4 < v by omega), if_pos (by rw [← hk0_lp]; exact hok), if_pos (by rw [← hk0_lp]; have h9 : ¬ mL f 9 5 k ≤ 8 := fun h => hc2 (nI_le h (by decide)); omega)]; rfl), ht⟩) (fun q h => nomatch h) dX1_countFault_59
      | succ nn ih_lp =>
        intro k ls hk_lp hok hl
        have hk1_lp : k < v := by omega
        refine lv_iload_n hx hb dX1_countFault_12 rfl (lv_at hl 3 rfl) ?_
        refine lv_iload_n hx hb dX1_countFault_13 rfl (lv_at hl 1 rfl) ?_
        refine lv_icmp_gt (tgt := 47) hx hb dX1_countFault_14 (by decide) (fun hno => absurd hno (nI_nlt hk1_lp (by omega))) (fun _ => ?_)
        refine lv_aload_n hx hb dX1_countFault_17 rfl (lv_at hl 0 rfl) ?_
        refine lv_iload_n hx hb dX1_countFault_18 rfl (lv_at hl 3 rfl) ?_
        refine zb_ci (va_runV (As := [.int (nI (k + 1))]) (rest := []) ⟨hx, hb, hml, hown, htb⟩ (c_targetG l D a cA N f ob tr nd (k + 1) hB (by omega) (by omega)) (cwV 1 htb (wb_V kM_X1_41 kI_X1_target kS_X1_target kN_X1 kD_X1_target) rfl rfl rfl (by decide +kernel) ⟨Nat.le_of_ble_eq_true rfl, Nat.le_of_ble_eq_true rfl⟩) (zp_V 4 rfl rfl hP hK hSt hS hnw) rfl rfl hl.1 rfl (lv_room (Nat.le_of_ble_eq_true rfl)) dX1_countFault_19 ⟨Nat.le_of_ble_eq_true rfl, Nat.le_of_ble_eq_true rfl⟩) ?_
        cases hme : mE f 9 5 (k + 1) with
        | none =>
          refine zb_ti (y := (-1)) (rfl) ?_
          refine lv_istore hx hb dX1_countFault_22 hl (by decide) rfl (fun ls hl => ?_)
          have hl : lv_has ls 5 [(4, .int (-1)), (0, .ref (a 4)), (1, .int (nI v)), (2, .int (nI (mL f 9 5 (k)))), (3, .int (nI (k + 1)))] := hl
          refine lv_iload hx hb dX1_countFault_24 (lv_at hl 0 rfl) ?_
          refine lv_iconst (v := (-1)) hx hb dX1_countFault_26 (by decide) ?_
          refine lv_icmp_ne (tgt := 33) hx hb dX1_countFault_27 (by decide) (fun hno => absurd (by decide) hno) (fun _ => ?_)
          refine lv_ldc (v := 100925505) hx hb hown (htb _ kK_X1_45) dX1_countFault_30 ?_
          rw [hQ]
          exact W.iret (v := 100925505) hx hb hr (fun t ht hW => ⟨congrArg (fun z => Outcome.returned (some (Value.int z))) (by unfold cF; rw [if_neg (show ¬ 4 < v by omega), if_neg (by rw [mOk_n hme hk1_lp]; decide)]; rfl), ht⟩) (fun q h => nomatch h) dX1_countFault_32
        | some e9 =>
          refine zb_ti (y := nI e9) (rfl) ?_
          have h22_e9 : e9 < 22 := mE_lt hme
          refine lv_istore hx hb dX1_countFault_22 hl (by decide) rfl (fun ls hl => ?_)
          have hl : lv_has ls 5 [(4, .int (nI e9)), (0, .ref (a 4)), (1, .int (nI v)), (2, .int (nI (mL f 9 5 (k)))), (3, .int (nI (k + 1)))] := hl
          refine lv_iload hx hb dX1_countFault_24 (lv_at hl 0 rfl) ?_
          refine lv_iconst (v := (-1)) hx hb dX1_countFault_26 (by decide) ?_
          refine lv_icmp_ne (tgt := 33) hx hb dX1_countFault_27 (by decide) (fun _ => ?_) (fun hno => absurd hno (ni_m1 h22_e9))
          refine lv_iload_n hx hb dX1_countFault_33 rfl (lv_at hl 3 rfl) ?_
          refine lv_iload hx hb dX1_countFault_34 (lv_at hl 0 rfl) ?_
          refine zb_ci (va_runS (As := [.int (nI e9)]) (rest := [.int (nI (mL f 9 5 (k)))]) ⟨hx, hb, hml, hown, htb⟩ (c_sizeOf l D a cA N f ob tr nd e9 h22_e9) (va_cwS 1 htb (wb_S kM_X1_46 kZ_X0_sizeOf kN_X0 kD_X0_sizeOf) rfl rfl rfl (by decide +kernel) ⟨Nat.le_of_ble_eq_true rfl, Nat.le_of_ble_eq_true rfl⟩) (zp_S hP hK hSt hS hnw) rfl rfl hl.1 rfl (lv_room (Nat.le_of_ble_eq_true rfl)) dX1_countFault_36 ⟨Nat.le_of_ble_eq_true rfl, Nat.le_of_ble_eq_true rfl⟩) ?_
          refine lv_iadd hx hb dX1_countFault_39 ?_
          refine zb_ti (nI_add (mL f 9 5 (k)) (xZ e9)) ?_
          refine zb_ti (y := nI (mL f 9 5 (k + 1))) (by rw [mL_s hme]) ?_
          refine lv_istore_n hx hb dX1_countFault_40 rfl hl (by decide) rfl (fun ls hl => ?_)
          have hl : lv_has ls 5 [(2, .int (nI (mL f 9 5 (k + 1)))), (4, .int (nI e9)), (0, .ref (a 4)), (1, .int (nI v)), (3, .int (nI (k + 1)))] := hl
          refine lv_iinc (k := 4) (v := nI ((k + 1) + 1)) hx hb dX1_countFault_41 hl rfl (nI_1 (k + 1)) (by decide) rfl (fun ls hl => ?_)
          have hl : lv_has ls 5 [(3, .int (nI ((k + 1) + 1))), (2, .int (nI (mL f 9 5 (k + 1)))), (4, .int (nI e9)), (0, .ref (a 4)), (1, .int (nI v))] := hl
          refine lv_goto (tgt := 12) hx hb dX1_countFault_44 (by decide) ?_
          exact ih_lp (k + 1) ls (by omega) (mOk_s hok hme) (lv_sub hl [3, 4, 1, 0] rfl)
    exact lp (v - 0) (0) ls (by omega) (rfl) (lv_sub hl [2, 3, 1, 0] rfl)
  refine lv_ldc (v := 101253168) hx hb hown (htb _ kK_X1_40) dX1_countFault_5 ?_
  rw [hQ]
  exact W.iret (v := 101253168) hx hb hr (fun t ht hW => ⟨congrArg (fun z => Outcome.returned (some (Value.int z))) (by unfold cF; rw [if_pos (show 4 < v by have h9 : ¬ v ≤ 4 := fun h => hc1 (nI_le h (by decide)); omega)]; rfl), ht⟩) (fun q h => nomatch h) dX1_countFault_7
set_option maxHeartbeats 4000000 in
set_option maxRecDepth 100000 in
theorem c_nameFaultG (l : Launch) (D : va_G) (a : Nat → Nat) (cA : ClassId) (N : Int32) (f : Nat → Int32) (ob : OB) (tr : TR) (nd : ND) (cn : Nat) (nm : Int32) (hcn : f (xP 9) = nI cn) (hcn4 : cn ≤ 4) : Met l yX1_nameFault (wX1_nameFault :: wb) ({ frames := 2, cells := 0, slots := 0, locals := 42 } : Room) (va_Pc [.ref (a 4), .int nm] (zPu D [(cA, .int)] (cw a cA N f ob tr nd))) (zb_I (nI (nF cn 5 nm))) 0 0 (fun _ => False) := by
  refine Met.ofW (cc := cX1_nameFault) (maxL := 3) (ret := (some .int)) (by decide) rfl ?_
  intro p ev s m args below meth c s₁ B hml hv
  obtain ⟨rfl, hP, hK, hSt, hnw⟩ := hv
  have hx := B.exec
  have hb := B.bytes
  have hr := B.returns
  have hts := atoms_spec (ws := wX1_nameFault :: wb) B.pre
  have htb : ∀ w ∈ wb, w.before ([.ref (a 4), .int nm]).toArray s = true := fun w h => hts w (List.mem_cons_of_mem _ h)
  have hown : s.vm.findClass RX1 = some m.cls := findClass_of_methodNamed B.named
  have hlocks := B.notSynchronized
  have hS : va_S (fun _ => False) s.heap s.heap [] := va_S.rf
  obtain ⟨⟨tt, ff, hZT, hTT, hZF, hTF⟩, hXS⟩ := id hSt
  have hl := lv_entry ([.ref (a 4), .int nm]) (n := 3) (Nat.le_of_ble_eq_true rfl)
  rw [lg_entry_eq]
  generalize (lg_sl ([.ref (a 4), .int nm]) ++ List.replicate (3 - (lg_sl ([.ref (a 4), .int nm])).length) Slot.unset).toArray = ls at hl ⊢
  have hl : lv_has ls 3 [(0, .ref (a 4)), (1, .int nm)] := hl
  refine zb_abs (fun Q hQ => ?_)
  refine lv_aload_n hx hb dX1_nameFault_0 rfl (lv_at hl 0 rfl) ?_
  refine zb_ci (va_runV (As := []) (rest := []) ⟨hx, hb, hml, hown, htb⟩ (c_countG l D a cA N f ob tr nd cn hcn hcn4) (cwV 0 htb (wb_V kM_X1_50 kI_X1_count kS_X1_count kN_X1 kD_X1_count) rfl rfl rfl (by decide +kernel) ⟨Nat.le_of_ble_eq_true rfl, Nat.le_of_ble_eq_true rfl⟩) (zp_V 4 rfl rfl hP hK hSt hS hnw) rfl rfl hl.1 rfl (lv_room (Nat.le_of_ble_eq_true rfl)) dX1_nameFault_1 ⟨Nat.le_of_ble_eq_true rfl, Nat.le_of_ble_eq_true rfl⟩) ?_
  refine lv_if_eq (tgt := 10) hx hb dX1_nameFault_4 (by decide) (fun hc1 => ?_) (fun hc1 => ?_)
  · refine lv_iload_n hx hb dX1_nameFault_10 rfl (lv_at hl 1 rfl) ?_
    refine lv_if_eq (tgt := 30) hx hb dX1_nameFault_11 (by decide) (fun hc2 => ?_) (fun hc2 => ?_)
    · refine lv_iconst (v := 1) hx hb dX1_nameFault_30 (by decide) ?_
      refine lv_goto (tgt := 35) hx hb dX1_nameFault_31 (by decide) ?_
      refine lv_istore_n hx hb dX1_nameFault_35 rfl hl (by decide) rfl (fun ls hl => ?_)
      have hl : lv_has ls 3 [(2, .int 1), (0, .ref (a 4)), (1, .int nm)] := hl
      refine lv_iload_n hx hb dX1_nameFault_36 rfl (lv_at hl 0 rfl) ?_
      refine lv_if_eq (tgt := 44) hx hb dX1_nameFault_37 (by decide) (fun hno => absurd hno (by decide)) (fun _ => ?_)
      refine lv_iconst (v := 0) hx hb dX1_nameFault_40 (by decide) ?_
      refine lv_goto (tgt := 46) hx hb dX1_nameFault_41 (by decide) ?_
      rw [hQ]
      exact W.iret (v := 0) hx hb hr (fun t ht hW => ⟨congrArg (fun z => Outcome.returned (some (Value.int z))) (by unfold nF; rw [if_pos (show cn = 0 from (nI_eq (by omega) (by decide)).mp hc1), if_pos hc2]; rfl), ht⟩) (fun q h => nomatch h) dX1_nameFault_46
    refine lv_aload_n hx hb dX1_nameFault_14 rfl (lv_at hl 0 rfl) ?_
    refine va_get (D := D) (ci := 1) (v := .ref (a 1)) (fs := [.ref (a 1), .int 9, .int 5]) (C := RX1) (T := TX1) (N := 3) hx hb htb inX1 hown hK hP 4 rfl rfl 0 (by decide) (htb _ kF_X1_9) (fun _ h9 => h9) rfl dX1_nameFault_15 ?_
    refine lv_iload_n hx hb dX1_nameFault_18 rfl (lv_at hl 1 rfl) ?_
    refine lv_aload_n hx hb dX1_nameFault_19 rfl (lv_at hl 0 rfl) ?_
    refine va_get (D := D) (ci := 1) (v := .int 5) (fs := [.ref (a 1), .int 9, .int 5]) (C := RX1) (T := TX1) (N := 3) hx hb htb inX1 hown hK hP 4 rfl rfl 2 (by decide) (htb _ kF_X1_21) (fun _ h9 => h9) rfl dX1_nameFault_20 ?_
    refine zb_ci (va_runV (As := [.int nm, .int 5]) (rest := []) ⟨hx, hb, hml, hown, htb⟩ (c_named l D a cA N f ob tr nd nm 5 (by decide)) (cwV 2 htb (wb_V kM_X1_37 kI_X0_named kS_X0_named kN_X0 kD_X0_named) rfl rfl rfl (by decide +kernel) ⟨Nat.le_of_ble_eq_true rfl, Nat.le_of_ble_eq_true rfl⟩) (zp_V 1 rfl rfl hP hK hSt hS hnw) rfl rfl hl.1 rfl (lv_room (Nat.le_of_ble_eq_true rfl)) dX1_nameFault_23 ⟨Nat.le_of_ble_eq_true rfl, Nat.le_of_ble_eq_true rfl⟩) ?_
    cases hme : mp nm 5 with
    | none =>
      refine zb_ti (y := (-1)) (rfl) ?_
      refine lv_iconst (v := (-1)) hx hb dX1_nameFault_26 (by decide) ?_
      refine lv_icmp_eq (tgt := 34) hx hb dX1_nameFault_27 (by decide) (fun _ => ?_) (fun hno => absurd (by decide) hno)
      refine lv_iconst (v := 0) hx hb dX1_nameFault_34 (by decide) ?_
      refine lv_istore_n hx hb dX1_nameFault_35 rfl hl (by decide) rfl (fun ls hl => ?_)
      have hl : lv_has ls 3 [(2, .int 0), (0, .ref (a 4)), (1, .int nm)] := hl
      refine lv_iload_n hx hb dX1_nameFault_36 rfl (lv_at hl 0 rfl) ?_
      refine lv_if_eq (tgt := 44) hx hb dX1_nameFault_37 (by decide) (fun _ => ?_) (fun hno => absurd (by decide) hno)
      refine lv_ldc (v := 100925505) hx hb hown (htb _ kK_X1_45) dX1_nameFault_44 ?_
      rw [hQ]
      exact W.iret (v := 100925505) hx hb hr (fun t ht hW => ⟨congrArg (fun z => Outcome.returned (some (Value.int z))) (by unfold nF; rw [if_pos (show cn = 0 from (nI_eq (by omega) (by decide)).mp hc1), if_neg hc2, if_pos hme]; rfl), ht⟩) (fun q h => nomatch h) dX1_nameFault_46
    | some e9 =>
      refine zb_ti (y := nI e9) (rfl) ?_
      have h22_e9 : e9 < 22 := (fun h => (mp_lt h).1) hme
      refine lv_iconst (v := (-1)) hx hb dX1_nameFault_26 (by decide) ?_
      refine lv_icmp_eq (tgt := 34) hx hb dX1_nameFault_27 (by decide) (fun hno => absurd hno (ni_m1 h22_e9)) (fun _ => ?_)
      refine lv_iconst (v := 1) hx hb dX1_nameFault_30 (by decide) ?_
      refine lv_goto (tgt := 35) hx hb dX1_nameFault_31 (by decide) ?_
      refine lv_istore_n hx hb dX1_nameFault_35 rfl hl (by decide) rfl (fun ls hl => ?_)
      have hl : lv_has ls 3 [(2, .int 1), (0, .ref (a 4)), (1, .int nm)] := hl
      refine lv_iload_n hx hb dX1_nameFault_36 rfl (lv_at hl 0 rfl) ?_
      refine lv_if_eq (tgt := 44) hx hb dX1_nameFault_37 (by decide) (fun hno => absurd hno (by decide)) (fun _ => ?_)
      refine lv_iconst (v := 0) hx hb dX1_nameFault_40 (by decide) ?_
      refine lv_goto (tgt := 46) hx hb dX1_nameFault_41 (by decide) ?_
      rw [hQ]
      exact W.iret (v := 0) hx hb hr (fun t ht hW => ⟨congrArg (fun z => Outcome.returned (some (Value.int z))) (by unfold nF; rw [if_pos (show cn = 0 from (nI_eq (by omega) (by decide)).mp hc1), if_neg hc2, if_neg (by rw [hme]; exact fun h => nomatch h)]; rfl), ht⟩) (fun q h => nomatch h) dX1_nameFault_46
  refine lv_ldc (v := 100728832) hx hb hown (htb _ kK_X1_54) dX1_nameFault_7 ?_
  rw [hQ]
  exact W.iret (v := 100728832) hx hb hr (fun t ht hW => ⟨congrArg (fun z => Outcome.returned (some (Value.int z))) (by unfold nF; rw [if_neg (fun h : cn = 0 => hc1 (by rw [h]; rfl))]; rfl), ht⟩) (fun q h => nomatch h) dX1_nameFault_9
set_option maxHeartbeats 4000000 in
set_option maxRecDepth 100000 in
theorem c_spread (l : Launch) (D : va_G) (a : Nat → Nat) (cA : ClassId) (N : Int32) (f : Nat → Int32) (ob : OB) (tr : TR) (nd : ND) (sz : Nat) (cn x : Nat) (hcn : f (xP 3) = nI cn) (hcn4 : cn ≤ 4) (hB : isB f) (h8 : (mW 3 6 x f cn).2 ≤ 8) (hx64 : x < 2 ^ 64) : Met l yX1_spread (wX1_spread :: wb) ({ frames := 2, cells := 0, slots := 0, locals := 48 } : Room) (va_Pc [.ref (a 3), .long (lN x)] (zPre D [(cA, .int)] (cw a cA N f ob tr nd) sz)) (zb_Vv D vwCl (cw a cA N (mW 3 6 x f cn).1 ob tr nd) (va_A (cw a cA N f ob tr nd) sz)) 0 0 (va_A (cw a cA N f ob tr nd) sz) := by
  refine Met.ofW (cc := cX1_spread) (maxL := 7) (ret := none) (by decide) rfl ?_
  intro p ev s m args below meth c s₁ B hml hv
  obtain ⟨rfl, hsz, hP, hK, hD0, hSt, hnw⟩ := hv
  have hx := B.exec
  have hb := B.bytes
  have hr := B.returns
  have hts := atoms_spec (ws := wX1_spread :: wb) B.pre
  have htb : ∀ w ∈ wb, w.before ([.ref (a 3), .long (lN x)]).toArray s = true := fun w h => hts w (List.mem_cons_of_mem _ h)
  have hown : s.vm.findClass RX1 = some m.cls := findClass_of_methodNamed B.named
  have hlocks := B.notSynchronized
  subst hsz
  have hD := hD0.self (sz := s.heap.size)
  clear hD0
  generalize hAe : va_A (cw a cA N f ob tr nd) s.heap.size = A at hD hSt ⊢
  have hA : ∀ q : Nat, s.heap.size ≤ q → A q := fun q h => by rw [← hAe]; exact Or.inr h
  have hS : va_S A s.heap s.heap [] := va_S.rf
  obtain ⟨⟨tt, ff, hZT, hTT, hZF, hTF⟩, hXS⟩ := id hSt
  have hl := lv_entry ([.ref (a 3), .long (lN x)]) (n := 7) (Nat.le_of_ble_eq_true rfl)
  rw [lg_entry_eq]
  generalize (lg_sl ([.ref (a 3), .long (lN x)]) ++ List.replicate (7 - (lg_sl ([.ref (a 3), .long (lN x)])).length) Slot.unset).toArray = ls at hl ⊢
  have hl : lv_has ls 7 [(0, .ref (a 3)), (1, .long (lN x))] := hl
  refine zb_abs (fun Q hQ => ?_)
  refine lv_aload_n hx hb dX1_spread_0 rfl (lv_at hl 0 rfl) ?_
  refine zb_ci (va_runV (As := []) (rest := []) ⟨hx, hb, hml, hown, htb⟩ (c_countT l D a cA N f ob tr nd cn hcn hcn4) (cwV 0 htb (wb_V kM_X1_50 kI_X1_count kS_X1_count kN_X1 kD_X1_count) rfl rfl rfl (by decide +kernel) ⟨Nat.le_of_ble_eq_true rfl, Nat.le_of_ble_eq_true rfl⟩) (zp_V 3 rfl rfl hP hK hSt hS hnw) rfl rfl hl.1 rfl (lv_room (Nat.le_of_ble_eq_true rfl)) dX1_spread_1 ⟨Nat.le_of_ble_eq_true rfl, Nat.le_of_ble_eq_true rfl⟩) ?_
  refine lv_istore_n hx hb dX1_spread_4 rfl hl (by decide) rfl (fun ls hl => ?_)
  have hl : lv_has ls 7 [(3, .int (nI cn)), (0, .ref (a 3)), (1, .long (lN x))] := hl
  refine lv_iconst (v := 0) hx hb dX1_spread_5 (by decide) ?_
  refine lv_istore hx hb dX1_spread_6 hl (by decide) rfl (fun ls hl => ?_)
  have hl : lv_has ls 7 [(4, .int 0), (3, .int (nI cn)), (0, .ref (a 3)), (1, .long (lN x))] := hl
  refine lv_iconst (v := 1) hx hb dX1_spread_8 (by decide) ?_
  refine lv_istore hx hb dX1_spread_9 hl (by decide) rfl (fun ls hl => ?_)
  have hl : lv_has ls 7 [(5, .int 1), (4, .int 0), (3, .int (nI cn)), (0, .ref (a 3)), (1, .long (lN x))] := hl
  have lp : ∀ (nn k : Nat) (ls : Array Slot) (H : Heap) (locs : List Loc), va_P D vwCl (cw a cA N ((mW 3 6 x f (k)).1) ob tr nd) H → va_D A (cw a cA N ((mW 3 6 x f (k)).1) ob tr nd) → va_S A s.heap H locs → k + nn = cn → lv_has ls 7 [(0, .ref (a 3)), (1, .long (lN x)), (3, .int (nI cn)), (4, .int (nI (mW 3 6 x f (k)).2)), (5, .int (nI (k + 1)))] → W p l ev ({ frames := 2, cells := 0, slots := 0, locals := 48 } : Room) s m ([.ref (a 3), .long (lN x)]).toArray below meth c H locs 0 0 Q (F0 m 11 ls []) := by
    intro nn
    induction nn with
    | zero =>
      intro k ls H locs hP hD hS hk_lp  hl
      have hk0_lp : k = cn := by omega
      refine lv_iload hx hb dX1_spread_11 (lv_at hl 4 rfl) ?_
      refine lv_iload_n hx hb dX1_spread_13 rfl (lv_at hl 2 rfl) ?_
      refine lv_icmp_gt (tgt := 63) hx hb dX1_spread_14 (by decide) (fun _ => ?_) (fun hno => absurd (by rw [hk0_lp]; exact nI_lt (Nat.lt_succ_self _) (by omega)) hno)
      rw [hQ]
      have hw9 : (cw a cA N ((mW 3 6 x f (k)).1) ob tr nd) = (cw a cA N (mW 3 6 x f cn).1 ob tr nd) := by rw [hk0_lp]
      exact W.vret hx hb hr (fun t ht hW => ⟨rfl, by rw [ht, ← hw9]; exact hP, by rw [← hw9]; exact hD, hS.F ht⟩) hS.2.2 dX1_spread_63
    | succ nn ih_lp =>
      intro k ls H locs hP hD hS hk_lp  hl
      have hk1_lp : k < cn := by omega
      refine lv_iload hx hb dX1_spread_11 (lv_at hl 4 rfl) ?_
      refine lv_iload_n hx hb dX1_spread_13 rfl (lv_at hl 2 rfl) ?_
      refine lv_icmp_gt (tgt := 63) hx hb dX1_spread_14 (by decide) (fun hno => absurd hno (nI_nlt hk1_lp (by omega))) (fun _ => ?_)
      refine lv_aload_n hx hb dX1_spread_17 rfl (lv_at hl 0 rfl) ?_
      refine lv_iload hx hb dX1_spread_18 (lv_at hl 4 rfl) ?_
      refine zb_ci (va_runV (As := [.int (nI (k + 1))]) (rest := []) ⟨hx, hb, hml, hown, htb⟩ (c_targetT l D a cA N ((mW 3 6 x f (k)).1) ob tr nd (k + 1) (mW_B hB 3 6 x k) (by omega) (by omega)) (cwV 1 htb (wb_V kM_X1_41 kI_X1_target kS_X1_target kN_X1 kD_X1_target) rfl rfl rfl (by decide +kernel) ⟨Nat.le_of_ble_eq_true rfl, Nat.le_of_ble_eq_true rfl⟩) (zp_V 3 rfl rfl hP hK hSt hS hnw) rfl rfl hl.1 rfl (lv_room (Nat.le_of_ble_eq_true rfl)) dX1_spread_20 ⟨Nat.le_of_ble_eq_true rfl, Nat.le_of_ble_eq_true rfl⟩) ?_
      cases hme : mE (mW 3 6 x f k).1 3 6 (k + 1) with
      | none =>
        refine zb_ti (y := (-1)) (rfl) ?_
        refine lv_istore hx hb dX1_spread_23 hl (by decide) rfl (fun ls hl => ?_)
        have hl : lv_has ls 7 [(6, .int (-1)), (0, .ref (a 3)), (1, .long (lN x)), (3, .int (nI cn)), (4, .int (nI (mW 3 6 x f (k)).2)), (5, .int (nI (k + 1)))] := hl
        refine lv_iload hx hb dX1_spread_25 (lv_at hl 0 rfl) ?_
        refine lv_iconst (v := (-1)) hx hb dX1_spread_27 (by decide) ?_
        refine lv_icmp_eq (tgt := 57) hx hb dX1_spread_28 (by decide) (fun _ => ?_) (fun hno => absurd (by decide) hno)
        have e1 : nI (mW 3 6 x f (k)).2 = nI (mW 3 6 x f (k + 1)).2 := by rw [mW_n hme]
        rw [e1] at hl
        have hl : lv_has ls 7 [(6, .int (-1)), (0, .ref (a 3)), (1, .long (lN x)), (3, .int (nI cn)), (4, .int (nI (mW 3 6 x f (k + 1)).2)), (5, .int (nI (k + 1)))] := hl
        have hP : va_P D vwCl (cw a cA N (mW 3 6 x f (k + 1)).1 ob tr nd) H := by rw [mW_n hme]; exact hP
        have hD : va_D A (cw a cA N (mW 3 6 x f (k + 1)).1 ob tr nd) := by rw [mW_n hme]; exact hD
        refine lv_iinc (k := 5) (v := nI ((k + 1) + 1)) hx hb dX1_spread_57 hl rfl (nI_1 (k + 1)) (by decide) rfl (fun ls hl => ?_)
        have hl : lv_has ls 7 [(5, .int (nI ((k + 1) + 1))), (6, .int (-1)), (0, .ref (a 3)), (1, .long (lN x)), (3, .int (nI cn)), (4, .int (nI (mW 3 6 x f (k + 1)).2))] := hl
        refine lv_goto (tgt := 11) hx hb dX1_spread_60 (by decide) ?_
        exact ih_lp (k + 1) ls _ _ hP hD hS (by omega) (lv_sub hl [2, 3, 4, 5, 0] rfl)
      | some e9 =>
        refine zb_ti (y := nI e9) (rfl) ?_
        have h22_e9 : e9 < 22 := mE_lt hme
        refine lv_istore hx hb dX1_spread_23 hl (by decide) rfl (fun ls hl => ?_)
        have hl : lv_has ls 7 [(6, .int (nI e9)), (0, .ref (a 3)), (1, .long (lN x)), (3, .int (nI cn)), (4, .int (nI (mW 3 6 x f (k)).2)), (5, .int (nI (k + 1)))] := hl
        refine lv_iload hx hb dX1_spread_25 (lv_at hl 0 rfl) ?_
        refine lv_iconst (v := (-1)) hx hb dX1_spread_27 (by decide) ?_
        refine lv_icmp_eq (tgt := 57) hx hb dX1_spread_28 (by decide) (fun hno => absurd hno (ni_m1 h22_e9)) (fun _ => ?_)
        have hft9 := x_fit e9 h22_e9
        have hm9 := mW_mono 3 6 x f (show k + 1 ≤ cn by omega)
        have hs9 := mW_s hme
        rw [hs9] at hm9
        have hm9 : (mW 3 6 x f k).2 + xZ e9 ≤ (mW 3 6 x f cn).2 := hm9
        refine lv_aload_n hx hb dX1_spread_31 rfl (lv_at hl 1 rfl) ?_
        refine va_get (D := D) (ci := 1) (v := .ref (a 1)) (fs := [.ref (a 1), .int 3, .int 6]) (C := RX1) (T := TX1) (N := 3) hx hb htb inX1 hown hK hP 3 rfl rfl 0 (by decide) (htb _ kF_X1_9) (fun _ h9 => h9) rfl dX1_spread_32 ?_
        refine lv_iload hx hb dX1_spread_35 (lv_at hl 0 rfl) ?_
        refine lv_lload_n hx hb dX1_spread_37 rfl (lv_at hl 2 rfl) ?_
        refine lv_bipush (v := 8) hx hb dX1_spread_38 (by decide) ?_
        refine lv_iload hx hb dX1_spread_40 (lv_at hl 4 rfl) ?_
        refine lv_imul hx hb dX1_spread_42 ?_
        refine zb_ti (pk_mul 8 ((mW 3 6 x f (k)).2)) ?_
        refine lv_lushr hx hb dX1_spread_43 rfl ?_
        refine zb_tl (y := lN (x / 2 ^ (8 * (mW 3 6 x f k).2))) (wb_shr hx64 (by omega)) ?_
        refine zb_cv (va_runV (As := [.int (nI e9), .long (lN (x / 2 ^ (8 * (mW 3 6 x f k).2)))]) (rest := []) ⟨hx, hb, hml, hown, htb⟩ (c_put l D a cA N ((mW 3 6 x f (k)).1) ob tr nd _ e9 (x / 2 ^ (8 * (mW 3 6 x f k).2)) h22_e9 (mE_z (by decide) (by decide) hme) (Nat.lt_of_le_of_lt (Nat.div_le_self _ _) hx64)) (cwV 2 htb (wb_V kM_X1_55 kI_X0_put kS_X0_put kN_X0 kD_X0_put) rfl rfl rfl (by decide +kernel) ⟨Nat.le_of_ble_eq_true rfl, Nat.le_of_ble_eq_true rfl⟩) (zp_VW 1 rfl rfl hP hD hK hSt hS hA hnw) rfl rfl hl.1 rfl (lv_room (Nat.le_of_ble_eq_true rfl)) dX1_spread_44 ⟨Nat.le_of_ble_eq_true rfl, Nat.le_of_ble_eq_true rfl⟩) hD hS hA (fun H locs hP hD hS => ?_)
        have hP : va_P D vwCl (cw a cA N (pF ((mW 3 6 x f (k)).1) (xP e9) (xZ e9) (x / 2 ^ (8 * (mW 3 6 x f k).2)) 0) ob tr nd) H := hP
        have hD : va_D A (cw a cA N (pF ((mW 3 6 x f (k)).1) (xP e9) (xZ e9) (x / 2 ^ (8 * (mW 3 6 x f k).2)) 0) ob tr nd) := hD
        rw [pF_sh, show pF (mW 3 6 x f k).1 (xP e9) (xZ e9) x (mW 3 6 x f k).2 = (mW 3 6 x f (k + 1)).1 by rw [hs9]] at hP hD
        have hP : va_P D vwCl (cw a cA N ((mW 3 6 x f (k + 1)).1) ob tr nd) H := hP
        have hD : va_D A (cw a cA N ((mW 3 6 x f (k + 1)).1) ob tr nd) := hD
        refine lv_iload hx hb dX1_spread_47 (lv_at hl 4 rfl) ?_
        refine lv_iload hx hb dX1_spread_49 (lv_at hl 0 rfl) ?_
        refine zb_ci (va_runS (As := [.int (nI e9)]) (rest := [.int (nI (mW 3 6 x f (k)).2)]) ⟨hx, hb, hml, hown, htb⟩ (c_sizeOf l D a cA N ((mW 3 6 x f (k + 1)).1) ob tr nd e9 h22_e9) (va_cwS 1 htb (wb_S kM_X1_46 kZ_X0_sizeOf kN_X0 kD_X0_sizeOf) rfl rfl rfl (by decide +kernel) ⟨Nat.le_of_ble_eq_true rfl, Nat.le_of_ble_eq_true rfl⟩) (zp_S hP hK hSt hS hnw) rfl rfl hl.1 rfl (lv_room (Nat.le_of_ble_eq_true rfl)) dX1_spread_51 ⟨Nat.le_of_ble_eq_true rfl, Nat.le_of_ble_eq_true rfl⟩) ?_
        refine lv_iadd hx hb dX1_spread_54 ?_
        refine zb_ti (nI_add ((mW 3 6 x f (k)).2) (xZ e9)) ?_
        refine zb_ti (y := nI (mW 3 6 x f (k + 1)).2) (by rw [hs9]) ?_
        refine lv_istore hx hb dX1_spread_55 hl (by decide) rfl (fun ls hl => ?_)
        have hl : lv_has ls 7 [(4, .int (nI (mW 3 6 x f (k + 1)).2)), (6, .int (nI e9)), (0, .ref (a 3)), (1, .long (lN x)), (3, .int (nI cn)), (5, .int (nI (k + 1)))] := hl
        refine lv_iinc (k := 5) (v := nI ((k + 1) + 1)) hx hb dX1_spread_57 hl rfl (nI_1 (k + 1)) (by decide) rfl (fun ls hl => ?_)
        have hl : lv_has ls 7 [(5, .int (nI ((k + 1) + 1))), (4, .int (nI (mW 3 6 x f (k + 1)).2)), (6, .int (nI e9)), (0, .ref (a 3)), (1, .long (lN x)), (3, .int (nI cn))] := hl
        refine lv_goto (tgt := 11) hx hb dX1_spread_60 (by decide) ?_
        exact ih_lp (k + 1) ls _ _ hP hD hS (by omega) (lv_sub hl [3, 4, 5, 1, 0] rfl)
  exact lp (cn - 0) (0) ls _ _ hP hD hS (by omega) (lv_sub hl [3, 4, 2, 1, 0] rfl)
end
section
-- the node's own steps, as functions of its state
def obK (ob : OB) : Prop := ∃ kp, kp ≤ 32 ∧ ob.2.1 = nI kp
def trK (tr : TR) : Prop := ∃ e0 d0, e0 < 22 ∧ d0 ≤ xZ e0 ∧ tr.2.2.2.1 = nI e0 ∧ tr.2.2.2.2.2.1 = nI d0
def mapK (f : Nat → Int32) (m r : Nat) : Prop := bv f (xP m) ≤ 4 ∧ mOk f m r (bv f (xP m)) = true ∧ mL f m r (bv f (xP m)) ≤ 8
theorem obK_send {ob : OB} (h : obK ob) (i ln : Int32) (x : Nat) : obK (ob_send ob i ln x) := by
  obtain ⟨kp, h1, h2⟩ := h
  unfold ob_send
  split
  · rename_i h3
    refine ⟨kp + 1, ?_, ?_⟩
    · rw [h2] at h3
      have := (nI_ltI (a := kp) (b := 32) (by omega) (by decide)).mp h3
      omega
    · show ob.2.1 + 1 = _
      rw [h2, nI_1]
  · exact ⟨kp, h1, h2⟩
abbrev cG (f : Nat → Int32) : Nat := bv f (xP 9)
abbrev cT (f : Nat → Int32) : Nat := bv f (xP 3)
def gC (f : Nat → Int32) : Nat := mC f 9 5 (cG f)
def gL (f : Nat → Int32) : Nat := mL f 9 5 (cG f)
theorem gC_lt {f : Nat → Int32} (hB : isB f) (h : mapK f 9 5) : gC f < 2 ^ 64 := by
  have h1 := mC_lt hB 9 5 (cG f)
  have h2 : 2 ^ (8 * mL f 9 5 (cG f)) ≤ 2 ^ 64 := Nat.pow_le_pow_right (by decide) (by have h3 : mL f 9 5 (cG f) ≤ 8 := h.2.2; omega)
  exact Nat.lt_of_lt_of_le h1 h2
def kGive (N : Int32) (f : Nat → Int32) (ob : OB) : OB := ob_send ob (384 + N) (nI (gL f)) (gC f)
def nGive (f : Nat → Int32) (nd : ND) : ND := (nd.1, nd.2.1, nd.2.2.1, lN (gC f))
noncomputable def kNew (N : Int32) (f : Nat → Int32) (ob : OB) (nd : ND) : OB := if lN (gC f) = nd.2.2.2 then ob else kGive N f ob
noncomputable def nNew (f : Nat → Int32) (nd : ND) : ND := if lN (gC f) = nd.2.2.2 then nd else nGive f nd
def evT (f : Nat → Int32) (nd : ND) : Prop := nd.1 = 5 ∧ ¬ nI (cG f) = 0 ∧ ¬ nI (bv f (xP 8)) < 254
noncomputable def kEv (N : Int32) (f : Nat → Int32) (ob : OB) (nd : ND) : OB := if nd.1 = 5 then (if nI (cG f) = 0 then ob else if nI (bv f (xP 8)) < 254 then ob else kNew N f ob nd) else ob
noncomputable def nEv (f : Nat → Int32) (nd : ND) : ND := if nd.1 = 5 then (if nI (cG f) = 0 then nd else if nI (bv f (xP 8)) < 254 then nd else nNew f nd) else nd
def nRun (f : Nat → Int32) (nd : ND) : ND := if nd.1 = 5 then nd else (5, 0, nd.2.2.1, lN (gC f))
noncomputable def kSync (N : Int32) (f : Nat → Int32) (ob : OB) (nd : ND) : OB :=
  if nd.1 = 5 then (if nI (cG f) = 0 then ob else if nI (bv f (xP 8)) = 0 then kNew N f ob nd else if 240 < nI (bv f (xP 8)) then ob else if nd.2.1 + 1 < nI (bv f (xP 8)) then ob else kGive N f ob) else ob
noncomputable def nSync (f : Nat → Int32) (nd : ND) : ND :=
  if nd.1 = 5 then (if nI (cG f) = 0 then nd else if nI (bv f (xP 8)) = 0 then nNew f nd else if 240 < nI (bv f (xP 8)) then nd else if nd.2.1 + 1 < nI (bv f (xP 8)) then (nd.1, nd.2.1 + 1, nd.2.2.1, nd.2.2.2) else (nd.1, 0, nd.2.2.1, lN (gC f))) else nd
def fTake (f : Nat → Int32) (nd : ND) (len : Int32) (x : Nat) : Nat → Int32 :=
  if nd.1 = 5 then (if nI (cT f) = 0 then f else if len < nI (mL f 3 6 (cT f)) then pF f (xP 1) (xZ 1) (bv f 4 ||| 16) 0 else (mW 3 6 x f (cT f)).1) else f
def kBoot (N : Int32) (ob : OB) : OB := ob_send ob (1792 + N) 1 0
def nBoot (nd : ND) : ND := (127, 0, 0, nd.2.2.2)
def kLife (f : Nat → Int32) : Nat := sm f (xP 2) 2
def kBeat (N : Int32) (f : Nat → Int32) (ob : OB) (nd : ND) (sv : Nat) : OB := if nI (kLife f) = 0 then ob else if nd.2.2.1 + 1 < nI (kLife f) then ob else ob_send ob (1792 + N) 1 sv
def nBeat (f : Nat → Int32) (nd : ND) : ND := if nI (kLife f) = 0 then nd else if nd.2.2.1 + 1 < nI (kLife f) then (nd.1, nd.2.1, nd.2.2.1 + 1, nd.2.2.2) else (nd.1, nd.2.1, 0, nd.2.2.2)
-- requests
def anX (fi ad hg : Nat) : Nat := ad * 256 + fi + 4294967296 * hg
def kAns (N : Int32) (ob : OB) (fi ad hg : Nat) : OB := ob_send ob (1408 + N) 8 (anX fi ad hg)
def lenOf (fi : Nat) (hg : Int32) (z : Nat) : Int32 := if nI fi &&& 2 = 0 then (if nI fi &&& 1 = 0 then nI z else hg) else (if nI fi &&& 1 = 0 then (if 4 < nI z then 4 else nI z) else (4 : Int32) - ((nI fi >>> ((2 : Int32) &&& 31)) &&& 3))
def lF (fi : Nat) (hg : Int32) (z : Nat) : Nat := if lenOf fi hg z ≤ nI z then (if nI z ≤ lenOf fi hg z then 0 else 101122067) else 101122066
def sF (tr : TR) (fi : Nat) (wr : Int32) : Nat := if tr.2.1 = 0 then 84148225 else if tr.2.2.1 = wr then (if nI fi &&& 16 = tr.2.2.2.2.2.2.1 then 0 else 84082688) else 84148225
def stF (st : Int32) (f : Nat → Int32) (e v : Nat) : Nat :=
  if e = 3 then (if st = 127 then cF f 3 6 v else 134217762) else if 4 ≤ e ∧ e ≤ 7 then (if st = 127 then nF (cT f) 6 (nI v) else 134217762)
  else if e = 9 then (if st = 127 then cF f 9 5 v else 134217762) else if 10 ≤ e ∧ e ≤ 13 then (if st = 127 then nF (cG f) 5 (nI v) else 134217762)
  else if e = 8 then (if 240 < v ∧ v < 254 then 101253168 else 0) else 0
def aN (ix : Int32) : Nat := if hi ix = true then 101253137 else 100794368
def aS (e : Nat) (r : Int32) : Nat := if nI (xR e) &&& r = 0 then (if r = 2 then 100728834 else 100728833) else 0
theorem aN_ne (ix : Int32) : ¬ nI (aN ix) = 0 := by
  unfold aN
  split <;> decide
theorem aN_lt (ix : Int32) : aN ix < 2 ^ 32 := by
  unfold aN
  split <;> decide
theorem aS_lt (e : Nat) (r : Int32) : aS e r < 2 ^ 32 := by
  unfold aS
  split
  · split <;> decide
  · decide
theorem lF_lt (fi : Nat) (hg : Int32) (z : Nat) : lF fi hg z < 2 ^ 32 := by
  unfold lF
  split
  · split <;> decide
  · decide
theorem sF_lt (tr : TR) (fi : Nat) (wr : Int32) : sF tr fi wr < 2 ^ 32 := by
  unfold sF
  split
  · decide
  · split
    · split <;> decide
    · decide
theorem cF_lt (f : Nat → Int32) (m r v : Nat) : cF f m r v < 2 ^ 32 := by
  unfold cF
  split
  · decide
  · split
    · split <;> decide
    · decide
theorem nF_lt (cn r : Nat) (nm : Int32) : nF cn r nm < 2 ^ 32 := by
  unfold nF
  split
  · split
    · decide
    · split <;> decide
  · decide
theorem stF_lt (st : Int32) (f : Nat → Int32) (e v : Nat) : stF st f e v < 2 ^ 32 := by
  unfold stF
  have h1 := cF_lt f 3 6 v
  have h2 := cF_lt f 9 5 v
  have h3 := nF_lt (cT f) 6 (nI v)
  have h4 := nF_lt (cG f) 5 (nI v)
  repeat' split
  all_goals first | assumption | decide
def nSto (e : Nat) (nd : ND) : ND := if nI e = 8 then (nd.1, 0, nd.2.2.1, nd.2.2.2) else if nI e = 2 then (nd.1, nd.2.1, 0, nd.2.2.2) else nd
def fSto (f h : Nat → Int32) (e : Nat) : Nat → Int32 := va_cpy h f 0 (xP e) (xZ e)
theorem jn_eq {lo hg : Nat} (hl : lo < 2 ^ 32) (hh : hg < 2 ^ 32) : (nI hg).toInt64 <<< ((32 : Int32).toInt64 &&& 63) ||| ((nI lo).toInt64 &&& 4294967295) = lN (lo + 4294967296 * hg) := by
  have h1 : (nI lo).toInt64 &&& 4294967295 = lN lo := by
    apply wb_inj
    rw [Int64.toBitVec_and, Int32.toBitVec_toInt64]
    apply BitVec.eq_of_getLsbD_eq
    intro i hi
    rw [BitVec.getLsbD_and, BitVec.getLsbD_signExtend]
    have e1 : (nI lo).toBitVec = BitVec.ofNat 32 lo := rfl
    have e2 : (4294967295 : Int64).toBitVec = BitVec.ofNat 64 (2 ^ 32 - 1) := rfl
    have e3 : (lN lo).toBitVec = BitVec.ofNat 64 lo := rfl
    rw [e1, e2, e3]
    simp only [BitVec.getLsbD_ofNat, Nat.testBit_two_pow_sub_one]
    by_cases h : i < 32
    · simp only [hi, h, decide_true, Bool.true_and, Bool.and_true, if_true]
    · have h2 : lo.testBit i = false := Nat.testBit_lt_two_pow (Nat.lt_of_lt_of_le hl (Nat.pow_le_pow_right (by decide) (by omega)))
      simp only [h, h2, decide_false, Bool.and_false]
  have h2 : (nI hg).toInt64 <<< ((32 : Int32).toInt64 &&& 63) = lN (hg * 2 ^ 32) := by
    apply wb_inj
    rw [show (32 : Int32) = nI 32 from rfl, wb_c 32 (by decide), Int64.toBitVec_shiftLeft, Int32.toBitVec_toInt64, wb_tb, wb_tb, wb_sm 32 (by decide)]
    apply BitVec.eq_of_getLsbD_eq
    intro i hi
    have e1 : (nI hg).toBitVec = BitVec.ofNat 32 hg := rfl
    rw [e1, BitVec.shiftLeft_eq', BitVec.getLsbD_shiftLeft, BitVec.getLsbD_signExtend, BitVec.getLsbD_ofNat, show (BitVec.ofNat 64 32).toNat = 32 from rfl, ← Nat.shiftLeft_eq, BitVec.getLsbD_ofNat, Nat.testBit_shiftLeft]
    by_cases h : i < 32
    · have h9 : ¬ 32 ≤ i := by omega
      simp [h, h9]
    · have h9 : 32 ≤ i := by omega
      have h10 : i - 32 < 32 := by omega
      have h11 : i - 32 < 64 := by omega
      simp [hi, h, h9, h10, h11, BitVec.getLsbD_ofNat]
  rw [h1, h2, g_or rfl hl (by omega)]
  congr 1
  omega
theorem lo8 {ad fi : Nat} (h1 : ad < 2 ^ 24) (h2 : fi < 256) : nI ad <<< ((8 : Int32) &&& 31) ||| nI fi = nI (ad * 256 + fi) := by
  rw [pk_shlN _ 8 (by decide) (by omega), Int32.or_comm, nI_orS (k := 8) (by omega)]
  congr 1
  omega
def sx (hg : Nat) : Nat := if hg < 2147483648 then hg else hg + 18446744069414584320
theorem sx_eq {hg : Nat} (h : hg < 2 ^ 32) : (nI hg).toInt64 = lN (sx hg) := by
  apply Int64.toInt_inj.mp
  rw [Int32.toInt_toInt64]
  unfold sx
  split
  · rename_i h1
    rw [nI_toInt (by omega), pk_lT (by omega)]
  · rename_i h1
    have e1 : (nI hg).toInt = (hg : Int) - 4294967296 := by
      show (BitVec.ofNat 32 hg).toInt = _
      rw [BitVec.toInt_eq_toNat_cond, BitVec.toNat_ofNat, Nat.mod_eq_of_lt h]
      rw [if_neg (by omega)]
      rfl
    have e2 : (lN (hg + 18446744069414584320)).toInt = ((hg + 18446744069414584320 : Nat) : Int) - 18446744073709551616 := by
      show (BitVec.ofNat 64 (hg + 18446744069414584320)).toInt = _
      rw [BitVec.toInt_eq_toNat_cond, BitVec.toNat_ofNat, Nat.mod_eq_of_lt (by omega)]
      rw [if_neg (by omega)]
      rfl
    rw [e1, e2]
    omega
theorem sx_lt {hg : Nat} (h : hg < 2 ^ 32) : sx hg < 2 ^ 64 := by unfold sx; split <;> omega
theorem lo255 (lo : Nat) : nI lo &&& 255 = nI (lo % 256) := and255 lo
theorem lo24 {lo : Nat} (h : lo < 2 ^ 32) : ((nI lo).toUInt32 >>> ((8 : Int32).toUInt32 &&& Int32.toUInt32 31)).toInt32 = nI (lo / 256) := pk_ushrN h 8 8 (by decide)
theorem sh5 {fi : Nat} (h : fi < 256) : nI fi >>> ((5 : Int32) &&& 31) = nI (fi / 32) := pk_shrN (by omega) _ 5 (by decide)
theorem ix16 {ad : Nat} (h : ad < 2 ^ 24) : nI ad &&& 65535 = nI (ad % 65536) := pk_andN (by omega) 16 (by decide)
theorem sb16 {ad : Nat} (h : ad < 2 ^ 24) : nI ad >>> ((16 : Int32) &&& 31) = nI (ad / 65536) := pk_shrN (by omega) _ 16 (by decide)
theorem seg7 : ∀ fi, fi < 256 → (7 : Int32) - ((nI fi >>> ((1 : Int32) &&& 31)) &&& 7) = nI (7 - fi / 2 % 8) := by decide +kernel
theorem a32 : ∀ fi, fi < 256 → (32 : Int32) + (nI fi &&& 16) = nI (32 + fi / 16 % 2 * 16) := by decide +kernel
theorem a16 : ∀ fi, fi < 256 → nI fi &&& 16 = nI (fi / 16 % 2 * 16) := by decide +kernel
end
section
theorem or16 {b : Nat} (h : b < 256) : b ||| 16 < 256 := Nat.or_lt_two_pow (n := 8) h (by decide)
set_option maxHeartbeats 4000000 in
set_option maxRecDepth 100000 in
theorem c_joined (l : Launch) (D : va_G) (a : Nat → Nat) (cA : ClassId) (N : Int32) (f : Nat → Int32) (ob : OB) (tr : TR) (nd : ND) (lo hg : Nat) (hlo : lo < 2 ^ 32) (hhg : hg < 2 ^ 32) : Met l yX4_joined (wX4_joined :: wb) ({ frames := 0, cells := 0, slots := 0, locals := 0 } : Room) (va_Pc [.int (nI lo), .int (nI hg)] (zPu D [(cA, .int)] (cw a cA N f ob tr nd))) (zb_L (lN (lo + 4294967296 * hg))) 0 0 (fun _ => False) := by
  refine Met.ofW (cc := cX4_joined) (maxL := 2) (ret := (some .long)) (by decide) rfl ?_
  intro p ev s m args below meth c s₁ B hml hv
  obtain ⟨rfl, hP, hK, hSt, hnw⟩ := hv
  have hx := B.exec
  have hb := B.bytes
  have hr := B.returns
  have hts := atoms_spec (ws := wX4_joined :: wb) B.pre
  have htb : ∀ w ∈ wb, w.before ([.int (nI lo), .int (nI hg)]).toArray s = true := fun w h => hts w (List.mem_cons_of_mem _ h)
  have hown : s.vm.findClass RX4 = some m.cls := findClass_of_methodNamed B.named
  have hlocks := B.notSynchronized
  have hS : va_S (fun _ => False) s.heap s.heap [] := va_S.rf
  obtain ⟨⟨tt, ff, hZT, hTT, hZF, hTF⟩, hXS⟩ := id hSt
  have hl := lv_entry ([.int (nI lo), .int (nI hg)]) (n := 2) (Nat.le_of_ble_eq_true rfl)
  rw [lg_entry_eq]
  generalize (lg_sl ([.int (nI lo), .int (nI hg)]) ++ List.replicate (2 - (lg_sl ([.int (nI lo), .int (nI hg)])).length) Slot.unset).toArray = ls at hl ⊢
  have hl : lv_has ls 2 [(0, .int (nI lo)), (1, .int (nI hg))] := hl
  refine zb_abs (fun Q hQ => ?_)
  refine lv_iload_n hx hb dX4_joined_0 rfl (lv_at hl 1 rfl) ?_
  refine lv_i2l hx hb dX4_joined_1 rfl ?_
  refine lv_bipush (v := 32) hx hb dX4_joined_2 (by decide) ?_
  refine lv_lshl hx hb dX4_joined_4 rfl ?_
  refine lv_iload_n hx hb dX4_joined_5 rfl (lv_at hl 0 rfl) ?_
  refine lv_i2l hx hb dX4_joined_6 rfl ?_
  refine lv_ldc2 (v := 4294967295) hx hb hown (htb _ kQ_X4_130) dX4_joined_7 ?_
  refine lv_land hx hb dX4_joined_10 ?_
  refine lv_lor hx hb dX4_joined_11 ?_
  rw [hQ]
  exact W.lret (v := (((nI hg).toInt64) <<< ((32 : Int32).toInt64 &&& 63)) ||| (((nI lo).toInt64) &&& 4294967295)) hx hb hr (fun t ht hW => ⟨congrArg (fun z => Outcome.returned (some (Value.long z))) (jn_eq hlo hhg), ht⟩) (fun q h => nomatch h) dX4_joined_12
set_option maxHeartbeats 4000000 in
set_option maxRecDepth 100000 in
theorem c_boot (l : Launch) (D : va_G) (a : Nat → Nat) (cA : ClassId) (N : Int32) (f : Nat → Int32) (ob : OB) (tr : TR) (nd : ND) (sz : Nat)  (ho : obK ob) : Met l yX4_boot (wX4_boot :: wb) ({ frames := 1, cells := 0, slots := 0, locals := 25 } : Room) (va_Pc [.ref (a 0)] (zPre D [(cA, .int)] (cw a cA N f ob tr nd) sz)) (zb_Vv D vwCl (cw a cA N f (kBoot N ob) (tr_end tr) (nBoot nd)) (va_A (cw a cA N f ob tr nd) sz)) 0 0 (va_A (cw a cA N f ob tr nd) sz) := by
  refine Met.ofW (cc := cX4_boot) (maxL := 1) (ret := none) (by decide) rfl ?_
  intro p ev s m args below meth c s₁ B hml hv
  obtain ⟨rfl, hsz, hP, hK, hD0, hSt, hnw⟩ := hv
  have hx := B.exec
  have hb := B.bytes
  have hr := B.returns
  have hts := atoms_spec (ws := wX4_boot :: wb) B.pre
  have htb : ∀ w ∈ wb, w.before ([.ref (a 0)]).toArray s = true := fun w h => hts w (List.mem_cons_of_mem _ h)
  have hown : s.vm.findClass RX4 = some m.cls := findClass_of_methodNamed B.named
  have hlocks := B.notSynchronized
  subst hsz
  have hD := hD0.self (sz := s.heap.size)
  clear hD0
  generalize hAe : va_A (cw a cA N f ob tr nd) s.heap.size = A at hD hSt ⊢
  have hA : ∀ q : Nat, s.heap.size ≤ q → A q := fun q h => by rw [← hAe]; exact Or.inr h
  have hS : va_S A s.heap s.heap [] := va_S.rf
  obtain ⟨⟨tt, ff, hZT, hTT, hZF, hTF⟩, hXS⟩ := id hSt
  have hl := lv_entry ([.ref (a 0)]) (n := 1) (Nat.le_of_ble_eq_true rfl)
  rw [lg_entry_eq]
  generalize (lg_sl ([.ref (a 0)]) ++ List.replicate (1 - (lg_sl ([.ref (a 0)])).length) Slot.unset).toArray = ls at hl ⊢
  have hl : lv_has ls 1 [(0, .ref (a 0))] := hl
  refine zb_abs (fun Q hQ => ?_)
  obtain ⟨kp, hkp32, hkp⟩ := ho
  refine lv_aload_n hx hb dX4_boot_0 rfl (lv_at hl 0 rfl) ?_
  refine lv_bipush (v := 127) hx hb dX4_boot_1 (by decide) ?_
  refine va_put (D := D) (ci := 4) (v := .int 127) (fs := [.int N, .ref (a 1), .ref (a 3), .ref (a 4), .ref (a 5), .ref (a 7), .int nd.1, .int nd.2.1, .int nd.2.2.1, .long nd.2.2.2]) (ty := .int) (C := RX4) (T := TX4) (N := 10) hx hb htb inX4 tyX4 tyX4_ok nmX4 hown hK hP hD hS 0 rfl rfl 6 (by decide) (htb _ kF_X4_79) (fun _ h9 => h9) rfl (by decide +kernel) rfl rfl (Nat.le_of_ble_eq_true rfl) dX4_boot_3 (fun H locs hP hD hS => ?_)
  have hP : va_P D vwCl (cw a cA N f ob tr (127, nd.2.1, nd.2.2.1, nd.2.2.2)) H := hP
  have hD : va_D A (cw a cA N f ob tr (127, nd.2.1, nd.2.2.1, nd.2.2.2)) := hD
  refine lv_aload_n hx hb dX4_boot_6 rfl (lv_at hl 0 rfl) ?_
  refine va_get (D := D) (ci := 4) (v := .ref (a 7)) (fs := [.int N, .ref (a 1), .ref (a 3), .ref (a 4), .ref (a 5), .ref (a 7), .int 127, .int nd.2.1, .int nd.2.2.1, .long nd.2.2.2]) (C := RX4) (T := TX4) (N := 10) hx hb htb inX4 hown hK hP 0 rfl rfl 5 (by decide) (htb _ kF_X4_51) (fun _ h9 => h9) rfl dX4_boot_7 ?_
  refine zb_cv (va_runV (As := []) (rest := []) ⟨hx, hb, hml, hown, htb⟩ (c_trEnd l D a cA N f ob tr (127, nd.2.1, nd.2.2.1, nd.2.2.2) _ ) (cwV 0 htb (wb_V kM_X4_132 kI_X3_end kS_X3_end kN_X3 kD_X3_end) rfl rfl rfl (by decide +kernel) ⟨Nat.le_of_ble_eq_true rfl, Nat.le_of_ble_eq_true rfl⟩) (zp_VW 7 rfl rfl hP hD hK hSt hS hA hnw) rfl rfl hl.1 rfl (lv_room (Nat.le_of_ble_eq_true rfl)) dX4_boot_10 ⟨Nat.le_of_ble_eq_true rfl, Nat.le_of_ble_eq_true rfl⟩) hD hS hA (fun H locs hP hD hS => ?_)
  have hP : va_P D vwCl (cw a cA N f ob (tr_end tr) (127, nd.2.1, nd.2.2.1, nd.2.2.2)) H := hP
  have hD : va_D A (cw a cA N f ob (tr_end tr) (127, nd.2.1, nd.2.2.1, nd.2.2.2)) := hD
  refine lv_aload_n hx hb dX4_boot_13 rfl (lv_at hl 0 rfl) ?_
  refine lv_iconst (v := 0) hx hb dX4_boot_14 (by decide) ?_
  refine va_put (D := D) (ci := 4) (v := .int 0) (fs := [.int N, .ref (a 1), .ref (a 3), .ref (a 4), .ref (a 5), .ref (a 7), .int 127, .int nd.2.1, .int nd.2.2.1, .long nd.2.2.2]) (ty := .int) (C := RX4) (T := TX4) (N := 10) hx hb htb inX4 tyX4 tyX4_ok nmX4 hown hK hP hD hS 0 rfl rfl 7 (by decide) (htb _ kF_X4_135) (fun _ h9 => h9) rfl (by decide +kernel) rfl rfl (Nat.le_of_ble_eq_true rfl) dX4_boot_15 (fun H locs hP hD hS => ?_)
  have hP : va_P D vwCl (cw a cA N f ob (tr_end tr) (127, 0, nd.2.2.1, nd.2.2.2)) H := hP
  have hD : va_D A (cw a cA N f ob (tr_end tr) (127, 0, nd.2.2.1, nd.2.2.2)) := hD
  refine lv_aload_n hx hb dX4_boot_18 rfl (lv_at hl 0 rfl) ?_
  refine lv_iconst (v := 0) hx hb dX4_boot_19 (by decide) ?_
  refine va_put (D := D) (ci := 4) (v := .int 0) (fs := [.int N, .ref (a 1), .ref (a 3), .ref (a 4), .ref (a 5), .ref (a 7), .int 127, .int 0, .int nd.2.2.1, .long nd.2.2.2]) (ty := .int) (C := RX4) (T := TX4) (N := 10) hx hb htb inX4 tyX4 tyX4_ok nmX4 hown hK hP hD hS 0 rfl rfl 8 (by decide) (htb _ kF_X4_138) (fun _ h9 => h9) rfl (by decide +kernel) rfl rfl (Nat.le_of_ble_eq_true rfl) dX4_boot_20 (fun H locs hP hD hS => ?_)
  have hP : va_P D vwCl (cw a cA N f ob (tr_end tr) (127, 0, 0, nd.2.2.2)) H := hP
  have hD : va_D A (cw a cA N f ob (tr_end tr) (127, 0, 0, nd.2.2.2)) := hD
  refine lv_aload_n hx hb dX4_boot_23 rfl (lv_at hl 0 rfl) ?_
  refine va_get (D := D) (ci := 4) (v := .ref (a 5)) (fs := [.int N, .ref (a 1), .ref (a 3), .ref (a 4), .ref (a 5), .ref (a 7), .int 127, .int 0, .int 0, .long nd.2.2.2]) (C := RX4) (T := TX4) (N := 10) hx hb htb inX4 hown hK hP 0 rfl rfl 4 (by decide) (htb _ kF_X4_44) (fun _ h9 => h9) rfl dX4_boot_24 ?_
  refine lv_sipush (v := 1792) hx hb dX4_boot_27 (by decide) ?_
  refine lv_aload_n hx hb dX4_boot_30 rfl (lv_at hl 0 rfl) ?_
  refine va_get (D := D) (ci := 4) (v := .int N) (fs := [.int N, .ref (a 1), .ref (a 3), .ref (a 4), .ref (a 5), .ref (a 7), .int 127, .int 0, .int 0, .long nd.2.2.2]) (C := RX4) (T := TX4) (N := 10) hx hb htb inX4 hown hK hP 0 rfl rfl 0 (by decide) (htb _ kF_X4_16) (fun _ h9 => h9) rfl dX4_boot_31 ?_
  refine lv_iadd hx hb dX4_boot_34 ?_
  refine lv_iconst (v := 1) hx hb dX4_boot_35 (by decide) ?_
  refine lv_lconst (v := 0) hx hb dX4_boot_36 (by decide) ?_
  refine zb_cv (va_runV (As := [.int (1792 + N), .int 1, .long 0]) (rest := []) ⟨hx, hb, hml, hown, htb⟩ (c_send l D a cA N f ob (tr_end tr) (127, 0, 0, nd.2.2.2) _ kp (1792 + N) 1 0 hkp hkp32 (by decide)) (cwV 3 htb (wb_V kM_X4_141 kI_X2_send kS_X2_send kN_X2 kD_X2_send) rfl rfl rfl (by decide +kernel) ⟨Nat.le_of_ble_eq_true rfl, Nat.le_of_ble_eq_true rfl⟩) (zp_VW 5 rfl rfl hP hD hK hSt hS hA hnw) rfl rfl hl.1 rfl (lv_room (Nat.le_of_ble_eq_true rfl)) dX4_boot_37 ⟨Nat.le_of_ble_eq_true rfl, Nat.le_of_ble_eq_true rfl⟩) hD hS hA (fun H locs hP hD hS => ?_)
  have hP : va_P D vwCl (cw a cA N f (ob_send ob (1792 + N) 1 0) (tr_end tr) (127, 0, 0, nd.2.2.2)) H := hP
  have hD : va_D A (cw a cA N f (ob_send ob (1792 + N) 1 0) (tr_end tr) (127, 0, 0, nd.2.2.2)) := hD
  rw [hQ]
  have hw9 : (cw a cA N f (ob_send ob (1792 + N) 1 0) (tr_end tr) (127, 0, 0, nd.2.2.2)) = (cw a cA N f (kBoot N ob) (tr_end tr) (nBoot nd)) := rfl
  exact W.vret hx hb hr (fun t ht hW => ⟨rfl, by rw [ht, ← hw9]; exact hP, by rw [← hw9]; exact hD, hS.F ht⟩) hS.2.2 dX4_boot_40
set_option maxHeartbeats 4000000 in
set_option maxRecDepth 100000 in
theorem c_beat (l : Launch) (D : va_G) (a : Nat → Nat) (cA : ClassId) (N : Int32) (f : Nat → Int32) (ob : OB) (tr : TR) (nd : ND) (sz : Nat) (sv : Nat) (hB : isB f) (ho : obK ob) (hst : nd.1 = nI sv) (hsv : sv < 128) : Met l yX4_beat (wX4_beat :: wb) ({ frames := 1, cells := 0, slots := 0, locals := 27 } : Room) (va_Pc [.ref (a 0)] (zPre D [(cA, .int)] (cw a cA N f ob tr nd) sz)) (zb_Vv D vwCl (cw a cA N f (kBeat N f ob nd sv) tr (nBeat f nd)) (va_A (cw a cA N f ob tr nd) sz)) 0 0 (va_A (cw a cA N f ob tr nd) sz) := by
  refine Met.ofW (cc := cX4_beat) (maxL := 2) (ret := none) (by decide) rfl ?_
  intro p ev s m args below meth c s₁ B hml hv
  obtain ⟨rfl, hsz, hP, hK, hD0, hSt, hnw⟩ := hv
  have hx := B.exec
  have hb := B.bytes
  have hr := B.returns
  have hts := atoms_spec (ws := wX4_beat :: wb) B.pre
  have htb : ∀ w ∈ wb, w.before ([.ref (a 0)]).toArray s = true := fun w h => hts w (List.mem_cons_of_mem _ h)
  have hown : s.vm.findClass RX4 = some m.cls := findClass_of_methodNamed B.named
  have hlocks := B.notSynchronized
  subst hsz
  have hD := hD0.self (sz := s.heap.size)
  clear hD0
  generalize hAe : va_A (cw a cA N f ob tr nd) s.heap.size = A at hD hSt ⊢
  have hA : ∀ q : Nat, s.heap.size ≤ q → A q := fun q h => by rw [← hAe]; exact Or.inr h
  have hS : va_S A s.heap s.heap [] := va_S.rf
  obtain ⟨⟨tt, ff, hZT, hTT, hZF, hTF⟩, hXS⟩ := id hSt
  have hl := lv_entry ([.ref (a 0)]) (n := 2) (Nat.le_of_ble_eq_true rfl)
  rw [lg_entry_eq]
  generalize (lg_sl ([.ref (a 0)]) ++ List.replicate (2 - (lg_sl ([.ref (a 0)])).length) Slot.unset).toArray = ls at hl ⊢
  have hl : lv_has ls 2 [(0, .ref (a 0))] := hl
  refine zb_abs (fun Q hQ => ?_)
  obtain ⟨kp, hkp32, hkp⟩ := ho
  obtain ⟨st0, sy0, li0, gi0⟩ := nd
  obtain rfl : st0 = nI sv := hst
  refine lv_aload_n hx hb dX4_beat_0 rfl (lv_at hl 0 rfl) ?_
  refine va_get (D := D) (ci := 4) (v := .ref (a 1)) (fs := [.int N, .ref (a 1), .ref (a 3), .ref (a 4), .ref (a 5), .ref (a 7), .int (nI sv), .int sy0, .int li0, .long gi0]) (C := RX4) (T := TX4) (N := 10) hx hb htb inX4 hown hK hP 0 rfl rfl 1 (by decide) (htb _ kF_X4_25) (fun _ h9 => h9) rfl dX4_beat_1 ?_
  refine lv_iconst (v := 2) hx hb dX4_beat_4 (by decide) ?_
  refine lv_iconst (v := 0) hx hb dX4_beat_5 (by decide) ?_
  refine lv_iconst (v := 2) hx hb dX4_beat_6 (by decide) ?_
  refine zb_cl (va_runV (As := [.int 2, .int 0, .int 2]) (rest := []) ⟨hx, hb, hml, hown, htb⟩ (c_part l D a cA N f ob tr (nI sv, sy0, li0, gi0) 2 0 2 hB (by decide) (by decide) (by decide)) (cwV 3 htb (wb_V kM_X4_145 kI_X0_part kS_X0_part kN_X0 kD_X0_part) rfl rfl rfl (by decide +kernel) ⟨Nat.le_of_ble_eq_true rfl, Nat.le_of_ble_eq_true rfl⟩) (zp_V 1 rfl rfl hP hK hSt hS hnw) rfl rfl hl.1 rfl (lv_room (Nat.le_of_ble_eq_true rfl)) dX4_beat_7 ⟨Nat.le_of_ble_eq_true rfl, Nat.le_of_ble_eq_true rfl⟩) ?_
  refine lv_l2i hx hb dX4_beat_10 rfl ?_
  refine zb_ti (y := nI (kLife f)) (lN_i _) ?_
  refine lv_istore_n hx hb dX4_beat_11 rfl hl (by decide) rfl (fun ls hl => ?_)
  have hl : lv_has ls 2 [(1, .int (nI (kLife f))), (0, .ref (a 0))] := hl
  refine lv_iload_n hx hb dX4_beat_12 rfl (lv_at hl 0 rfl) ?_
  refine lv_if_ne (tgt := 17) hx hb dX4_beat_13 (by decide) (fun hc1 => ?_) (fun hc1 => ?_)
  · refine lv_aload_n hx hb dX4_beat_17 rfl (lv_at hl 1 rfl) ?_
    refine lv_dup hx hb dX4_beat_18 rfl ?_
    refine va_get (D := D) (ci := 4) (v := .int li0) (fs := [.int N, .ref (a 1), .ref (a 3), .ref (a 4), .ref (a 5), .ref (a 7), .int (nI sv), .int sy0, .int li0, .long gi0]) (C := RX4) (T := TX4) (N := 10) hx hb htb inX4 hown hK hP 0 rfl rfl 8 (by decide) (htb _ kF_X4_138) (fun _ h9 => h9) rfl dX4_beat_19 ?_
    refine lv_iconst (v := 1) hx hb dX4_beat_22 (by decide) ?_
    refine lv_iadd hx hb dX4_beat_23 ?_
    refine va_put (D := D) (ci := 4) (v := .int (li0 + 1)) (fs := [.int N, .ref (a 1), .ref (a 3), .ref (a 4), .ref (a 5), .ref (a 7), .int (nI sv), .int sy0, .int li0, .long gi0]) (ty := .int) (C := RX4) (T := TX4) (N := 10) hx hb htb inX4 tyX4 tyX4_ok nmX4 hown hK hP hD hS 0 rfl rfl 8 (by decide) (htb _ kF_X4_138) (fun _ h9 => h9) rfl (by decide +kernel) rfl rfl (Nat.le_of_ble_eq_true rfl) dX4_beat_24 (fun H locs hP hD hS => ?_)
    have hP : va_P D vwCl (cw a cA N f ob tr (nI sv, sy0, li0 + 1, gi0)) H := hP
    have hD : va_D A (cw a cA N f ob tr (nI sv, sy0, li0 + 1, gi0)) := hD
    refine lv_aload_n hx hb dX4_beat_27 rfl (lv_at hl 1 rfl) ?_
    refine va_get (D := D) (ci := 4) (v := .int (li0 + 1)) (fs := [.int N, .ref (a 1), .ref (a 3), .ref (a 4), .ref (a 5), .ref (a 7), .int (nI sv), .int sy0, .int (li0 + 1), .long gi0]) (C := RX4) (T := TX4) (N := 10) hx hb htb inX4 hown hK hP 0 rfl rfl 8 (by decide) (htb _ kF_X4_138) (fun _ h9 => h9) rfl dX4_beat_28 ?_
    refine lv_iload_n hx hb dX4_beat_31 rfl (lv_at hl 0 rfl) ?_
    refine lv_icmp_lt (tgt := 61) hx hb dX4_beat_32 (by decide) (fun hc2 => ?_) (fun hc2 => ?_)
    · rw [hQ]
      have hw9 : (cw a cA N f ob tr (nI sv, sy0, li0 + 1, gi0)) = (cw a cA N f (kBeat N f ob (nI sv, sy0, li0, gi0) sv) tr (nBeat f (nI sv, sy0, li0, gi0))) := by simp only [kBeat, nBeat, if_neg hc1, if_pos hc2]
      exact W.vret hx hb hr (fun t ht hW => ⟨rfl, by rw [ht, ← hw9]; exact hP, by rw [← hw9]; exact hD, hS.F ht⟩) hS.2.2 dX4_beat_61
    refine lv_aload_n hx hb dX4_beat_35 rfl (lv_at hl 1 rfl) ?_
    refine lv_iconst (v := 0) hx hb dX4_beat_36 (by decide) ?_
    refine va_put (D := D) (ci := 4) (v := .int 0) (fs := [.int N, .ref (a 1), .ref (a 3), .ref (a 4), .ref (a 5), .ref (a 7), .int (nI sv), .int sy0, .int (li0 + 1), .long gi0]) (ty := .int) (C := RX4) (T := TX4) (N := 10) hx hb htb inX4 tyX4 tyX4_ok nmX4 hown hK hP hD hS 0 rfl rfl 8 (by decide) (htb _ kF_X4_138) (fun _ h9 => h9) rfl (by decide +kernel) rfl rfl (Nat.le_of_ble_eq_true rfl) dX4_beat_37 (fun H locs hP hD hS => ?_)
    have hP : va_P D vwCl (cw a cA N f ob tr (nI sv, sy0, 0, gi0)) H := hP
    have hD : va_D A (cw a cA N f ob tr (nI sv, sy0, 0, gi0)) := hD
    refine lv_aload_n hx hb dX4_beat_40 rfl (lv_at hl 1 rfl) ?_
    refine va_get (D := D) (ci := 4) (v := .ref (a 5)) (fs := [.int N, .ref (a 1), .ref (a 3), .ref (a 4), .ref (a 5), .ref (a 7), .int (nI sv), .int sy0, .int 0, .long gi0]) (C := RX4) (T := TX4) (N := 10) hx hb htb inX4 hown hK hP 0 rfl rfl 4 (by decide) (htb _ kF_X4_44) (fun _ h9 => h9) rfl dX4_beat_41 ?_
    refine lv_sipush (v := 1792) hx hb dX4_beat_44 (by decide) ?_
    refine lv_aload_n hx hb dX4_beat_47 rfl (lv_at hl 1 rfl) ?_
    refine va_get (D := D) (ci := 4) (v := .int N) (fs := [.int N, .ref (a 1), .ref (a 3), .ref (a 4), .ref (a 5), .ref (a 7), .int (nI sv), .int sy0, .int 0, .long gi0]) (C := RX4) (T := TX4) (N := 10) hx hb htb inX4 hown hK hP 0 rfl rfl 0 (by decide) (htb _ kF_X4_16) (fun _ h9 => h9) rfl dX4_beat_48 ?_
    refine lv_iadd hx hb dX4_beat_51 ?_
    refine lv_iconst (v := 1) hx hb dX4_beat_52 (by decide) ?_
    refine lv_aload_n hx hb dX4_beat_53 rfl (lv_at hl 1 rfl) ?_
    refine va_get (D := D) (ci := 4) (v := .int (nI sv)) (fs := [.int N, .ref (a 1), .ref (a 3), .ref (a 4), .ref (a 5), .ref (a 7), .int (nI sv), .int sy0, .int 0, .long gi0]) (C := RX4) (T := TX4) (N := 10) hx hb htb inX4 hown hK hP 0 rfl rfl 6 (by decide) (htb _ kF_X4_79) (fun _ h9 => h9) rfl dX4_beat_54 ?_
    refine lv_i2l hx hb dX4_beat_57 rfl ?_
    refine zb_tl (y := lN sv) (nI_l (by omega)) ?_
    refine zb_cv (va_runV (As := [.int (1792 + N), .int 1, .long (lN sv)]) (rest := []) ⟨hx, hb, hml, hown, htb⟩ (c_send l D a cA N f ob tr (nI sv, sy0, 0, gi0) _ kp (1792 + N) 1 sv hkp hkp32 (by omega)) (cwV 3 htb (wb_V kM_X4_141 kI_X2_send kS_X2_send kN_X2 kD_X2_send) rfl rfl rfl (by decide +kernel) ⟨Nat.le_of_ble_eq_true rfl, Nat.le_of_ble_eq_true rfl⟩) (zp_VW 5 rfl rfl hP hD hK hSt hS hA hnw) rfl rfl hl.1 rfl (lv_room (Nat.le_of_ble_eq_true rfl)) dX4_beat_58 ⟨Nat.le_of_ble_eq_true rfl, Nat.le_of_ble_eq_true rfl⟩) hD hS hA (fun H locs hP hD hS => ?_)
    have hP : va_P D vwCl (cw a cA N f (ob_send ob (1792 + N) 1 sv) tr (nI sv, sy0, 0, gi0)) H := hP
    have hD : va_D A (cw a cA N f (ob_send ob (1792 + N) 1 sv) tr (nI sv, sy0, 0, gi0)) := hD
    rw [hQ]
    have hw9 : (cw a cA N f (ob_send ob (1792 + N) 1 sv) tr (nI sv, sy0, 0, gi0)) = (cw a cA N f (kBeat N f ob (nI sv, sy0, li0, gi0) sv) tr (nBeat f (nI sv, sy0, li0, gi0))) := by simp only [kBeat, nBeat, if_neg hc1, if_neg hc2]
    exact W.vret hx hb hr (fun t ht hW => ⟨rfl, by rw [ht, ← hw9]; exact hP, by rw [← hw9]; exact hD, hS.F ht⟩) hS.2.2 dX4_beat_61
  rw [hQ]
  have hw9 : (cw a cA N f ob tr (nI sv, sy0, li0, gi0)) = (cw a cA N f (kBeat N f ob (nI sv, sy0, li0, gi0) sv) tr (nBeat f (nI sv, sy0, li0, gi0))) := by simp only [kBeat, nBeat, if_pos hc1]
  exact W.vret hx hb hr (fun t ht hW => ⟨rfl, by rw [ht, ← hw9]; exact hP, by rw [← hw9]; exact hD, hS.F ht⟩) hS.2.2 dX4_beat_16
set_option maxHeartbeats 4000000 in
set_option maxRecDepth 100000 in
theorem c_run (l : Launch) (D : va_G) (a : Nat → Nat) (cA : ClassId) (N : Int32) (f : Nat → Int32) (ob : OB) (tr : TR) (nd : ND) (sz : Nat)  (hB : isB f) (hG : mapK f 9 5) : Met l yX4_run (wX4_run :: wb) ({ frames := 3, cells := 0, slots := 0, locals := 75 } : Room) (va_Pc [.ref (a 0)] (zPre D [(cA, .int)] (cw a cA N f ob tr nd) sz)) (zb_Vv D vwCl (cw a cA N f ob tr (nRun f nd)) (va_A (cw a cA N f ob tr nd) sz)) 0 0 (va_A (cw a cA N f ob tr nd) sz) := by
  refine Met.ofW (cc := cX4_run) (maxL := 1) (ret := none) (by decide) rfl ?_
  intro p ev s m args below meth c s₁ B hml hv
  obtain ⟨rfl, hsz, hP, hK, hD0, hSt, hnw⟩ := hv
  have hx := B.exec
  have hb := B.bytes
  have hr := B.returns
  have hts := atoms_spec (ws := wX4_run :: wb) B.pre
  have htb : ∀ w ∈ wb, w.before ([.ref (a 0)]).toArray s = true := fun w h => hts w (List.mem_cons_of_mem _ h)
  have hown : s.vm.findClass RX4 = some m.cls := findClass_of_methodNamed B.named
  have hlocks := B.notSynchronized
  subst hsz
  have hD := hD0.self (sz := s.heap.size)
  clear hD0
  generalize hAe : va_A (cw a cA N f ob tr nd) s.heap.size = A at hD hSt ⊢
  have hA : ∀ q : Nat, s.heap.size ≤ q → A q := fun q h => by rw [← hAe]; exact Or.inr h
  have hS : va_S A s.heap s.heap [] := va_S.rf
  obtain ⟨⟨tt, ff, hZT, hTT, hZF, hTF⟩, hXS⟩ := id hSt
  have hl := lv_entry ([.ref (a 0)]) (n := 1) (Nat.le_of_ble_eq_true rfl)
  rw [lg_entry_eq]
  generalize (lg_sl ([.ref (a 0)]) ++ List.replicate (1 - (lg_sl ([.ref (a 0)])).length) Slot.unset).toArray = ls at hl ⊢
  have hl : lv_has ls 1 [(0, .ref (a 0))] := hl
  refine zb_abs (fun Q hQ => ?_)
  refine lv_aload_n hx hb dX4_run_0 rfl (lv_at hl 0 rfl) ?_
  refine va_get (D := D) (ci := 4) (v := .int nd.1) (fs := [.int N, .ref (a 1), .ref (a 3), .ref (a 4), .ref (a 5), .ref (a 7), .int nd.1, .int nd.2.1, .int nd.2.2.1, .long nd.2.2.2]) (C := RX4) (T := TX4) (N := 10) hx hb htb inX4 hown hK hP 0 rfl rfl 6 (by decide) (htb _ kF_X4_79) (fun _ h9 => h9) rfl dX4_run_1 ?_
  refine lv_iconst (v := 5) hx hb dX4_run_4 (by decide) ?_
  refine lv_icmp_ne (tgt := 9) hx hb dX4_run_5 (by decide) (fun hc1 => ?_) (fun hc1 => ?_)
  · refine lv_aload_n hx hb dX4_run_9 rfl (lv_at hl 0 rfl) ?_
    refine lv_iconst (v := 5) hx hb dX4_run_10 (by decide) ?_
    refine va_put (D := D) (ci := 4) (v := .int 5) (fs := [.int N, .ref (a 1), .ref (a 3), .ref (a 4), .ref (a 5), .ref (a 7), .int nd.1, .int nd.2.1, .int nd.2.2.1, .long nd.2.2.2]) (ty := .int) (C := RX4) (T := TX4) (N := 10) hx hb htb inX4 tyX4 tyX4_ok nmX4 hown hK hP hD hS 0 rfl rfl 6 (by decide) (htb _ kF_X4_79) (fun _ h9 => h9) rfl (by decide +kernel) rfl rfl (Nat.le_of_ble_eq_true rfl) dX4_run_11 (fun H locs hP hD hS => ?_)
    have hP : va_P D vwCl (cw a cA N f ob tr (5, nd.2.1, nd.2.2.1, nd.2.2.2)) H := hP
    have hD : va_D A (cw a cA N f ob tr (5, nd.2.1, nd.2.2.1, nd.2.2.2)) := hD
    refine lv_aload_n hx hb dX4_run_14 rfl (lv_at hl 0 rfl) ?_
    refine lv_iconst (v := 0) hx hb dX4_run_15 (by decide) ?_
    refine va_put (D := D) (ci := 4) (v := .int 0) (fs := [.int N, .ref (a 1), .ref (a 3), .ref (a 4), .ref (a 5), .ref (a 7), .int 5, .int nd.2.1, .int nd.2.2.1, .long nd.2.2.2]) (ty := .int) (C := RX4) (T := TX4) (N := 10) hx hb htb inX4 tyX4 tyX4_ok nmX4 hown hK hP hD hS 0 rfl rfl 7 (by decide) (htb _ kF_X4_135) (fun _ h9 => h9) rfl (by decide +kernel) rfl rfl (Nat.le_of_ble_eq_true rfl) dX4_run_16 (fun H locs hP hD hS => ?_)
    have hP : va_P D vwCl (cw a cA N f ob tr (5, 0, nd.2.2.1, nd.2.2.2)) H := hP
    have hD : va_D A (cw a cA N f ob tr (5, 0, nd.2.2.1, nd.2.2.2)) := hD
    refine lv_aload_n hx hb dX4_run_19 rfl (lv_at hl 0 rfl) ?_
    refine lv_aload_n hx hb dX4_run_20 rfl (lv_at hl 0 rfl) ?_
    refine va_get (D := D) (ci := 4) (v := .ref (a 4)) (fs := [.int N, .ref (a 1), .ref (a 3), .ref (a 4), .ref (a 5), .ref (a 7), .int 5, .int 0, .int nd.2.2.1, .long nd.2.2.2]) (C := RX4) (T := TX4) (N := 10) hx hb htb inX4 hown hK hP 0 rfl rfl 3 (by decide) (htb _ kF_X4_38) (fun _ h9 => h9) rfl dX4_run_21 ?_
    refine zb_cl (va_runV (As := []) (rest := [.ref (a 0)]) ⟨hx, hb, hml, hown, htb⟩ (c_contentG l D a cA N f ob tr (5, 0, nd.2.2.1, nd.2.2.2) (cG f) (bv_of hB _).2 hG.1 hB hG.2.2) (cwV 0 htb (wb_V kM_X4_157 kI_X1_content kS_X1_content kN_X1 kD_X1_content) rfl rfl rfl (by decide +kernel) ⟨Nat.le_of_ble_eq_true rfl, Nat.le_of_ble_eq_true rfl⟩) (zp_V 4 rfl rfl hP hK hSt hS hnw) rfl rfl hl.1 rfl (lv_room (Nat.le_of_ble_eq_true rfl)) dX4_run_24 ⟨Nat.le_of_ble_eq_true rfl, Nat.le_of_ble_eq_true rfl⟩) ?_
    refine zb_tl (y := lN (gC f)) (rfl) ?_
    refine va_put (D := D) (ci := 4) (v := .long (lN (gC f))) (fs := [.int N, .ref (a 1), .ref (a 3), .ref (a 4), .ref (a 5), .ref (a 7), .int 5, .int 0, .int nd.2.2.1, .long nd.2.2.2]) (ty := .long) (C := RX4) (T := TX4) (N := 10) hx hb htb inX4 tyX4 tyX4_ok nmX4 hown hK hP hD hS 0 rfl rfl 9 (by decide) (htb _ kF_X4_161) (fun _ h9 => h9) rfl (by decide +kernel) rfl rfl (Nat.le_of_ble_eq_true rfl) dX4_run_27 (fun H locs hP hD hS => ?_)
    have hP : va_P D vwCl (cw a cA N f ob tr (5, 0, nd.2.2.1, lN (gC f))) H := hP
    have hD : va_D A (cw a cA N f ob tr (5, 0, nd.2.2.1, lN (gC f))) := hD
    rw [hQ]
    have hw9 : (cw a cA N f ob tr (5, 0, nd.2.2.1, lN (gC f))) = (cw a cA N f ob tr (nRun f nd)) := by simp only [nRun, if_neg hc1]
    exact W.vret hx hb hr (fun t ht hW => ⟨rfl, by rw [ht, ← hw9]; exact hP, by rw [← hw9]; exact hD, hS.F ht⟩) hS.2.2 dX4_run_30
  rw [hQ]
  have hw9 : (cw a cA N f ob tr nd) = (cw a cA N f ob tr (nRun f nd)) := by simp only [nRun, if_pos hc1]
  exact W.vret hx hb hr (fun t ht hW => ⟨rfl, by rw [ht, ← hw9]; exact hP, by rw [← hw9]; exact hD, hS.F ht⟩) hS.2.2 dX4_run_8
set_option maxHeartbeats 4000000 in
set_option maxRecDepth 100000 in
theorem c_give (l : Launch) (D : va_G) (a : Nat → Nat) (cA : ClassId) (N : Int32) (f : Nat → Int32) (ob : OB) (tr : TR) (nd : ND) (sz : Nat)  (hB : isB f) (hG : mapK f 9 5) (ho : obK ob) : Met l yX4_give (wX4_give :: wb) ({ frames := 3, cells := 0, slots := 0, locals := 75 } : Room) (va_Pc [.ref (a 0)] (zPre D [(cA, .int)] (cw a cA N f ob tr nd) sz)) (zb_Vv D vwCl (cw a cA N f (kGive N f ob) tr (nGive f nd)) (va_A (cw a cA N f ob tr nd) sz)) 0 0 (va_A (cw a cA N f ob tr nd) sz) := by
  refine Met.ofW (cc := cX4_give) (maxL := 1) (ret := none) (by decide) rfl ?_
  intro p ev s m args below meth c s₁ B hml hv
  obtain ⟨rfl, hsz, hP, hK, hD0, hSt, hnw⟩ := hv
  have hx := B.exec
  have hb := B.bytes
  have hr := B.returns
  have hts := atoms_spec (ws := wX4_give :: wb) B.pre
  have htb : ∀ w ∈ wb, w.before ([.ref (a 0)]).toArray s = true := fun w h => hts w (List.mem_cons_of_mem _ h)
  have hown : s.vm.findClass RX4 = some m.cls := findClass_of_methodNamed B.named
  have hlocks := B.notSynchronized
  subst hsz
  have hD := hD0.self (sz := s.heap.size)
  clear hD0
  generalize hAe : va_A (cw a cA N f ob tr nd) s.heap.size = A at hD hSt ⊢
  have hA : ∀ q : Nat, s.heap.size ≤ q → A q := fun q h => by rw [← hAe]; exact Or.inr h
  have hS : va_S A s.heap s.heap [] := va_S.rf
  obtain ⟨⟨tt, ff, hZT, hTT, hZF, hTF⟩, hXS⟩ := id hSt
  have hl := lv_entry ([.ref (a 0)]) (n := 1) (Nat.le_of_ble_eq_true rfl)
  rw [lg_entry_eq]
  generalize (lg_sl ([.ref (a 0)]) ++ List.replicate (1 - (lg_sl ([.ref (a 0)])).length) Slot.unset).toArray = ls at hl ⊢
  have hl : lv_has ls 1 [(0, .ref (a 0))] := hl
  refine zb_abs (fun Q hQ => ?_)
  obtain ⟨kp, hkp32, hkp⟩ := ho
  refine lv_aload_n hx hb dX4_give_0 rfl (lv_at hl 0 rfl) ?_
  refine lv_aload_n hx hb dX4_give_1 rfl (lv_at hl 0 rfl) ?_
  refine va_get (D := D) (ci := 4) (v := .ref (a 4)) (fs := [.int N, .ref (a 1), .ref (a 3), .ref (a 4), .ref (a 5), .ref (a 7), .int nd.1, .int nd.2.1, .int nd.2.2.1, .long nd.2.2.2]) (C := RX4) (T := TX4) (N := 10) hx hb htb inX4 hown hK hP 0 rfl rfl 3 (by decide) (htb _ kF_X4_38) (fun _ h9 => h9) rfl dX4_give_2 ?_
  refine zb_cl (va_runV (As := []) (rest := [.ref (a 0)]) ⟨hx, hb, hml, hown, htb⟩ (c_contentG l D a cA N f ob tr nd (cG f) (bv_of hB _).2 hG.1 hB hG.2.2) (cwV 0 htb (wb_V kM_X4_157 kI_X1_content kS_X1_content kN_X1 kD_X1_content) rfl rfl rfl (by decide +kernel) ⟨Nat.le_of_ble_eq_true rfl, Nat.le_of_ble_eq_true rfl⟩) (zp_V 4 rfl rfl hP hK hSt hS hnw) rfl rfl hl.1 rfl (lv_room (Nat.le_of_ble_eq_true rfl)) dX4_give_5 ⟨Nat.le_of_ble_eq_true rfl, Nat.le_of_ble_eq_true rfl⟩) ?_
  refine zb_tl (y := lN (gC f)) (rfl) ?_
  refine va_put (D := D) (ci := 4) (v := .long (lN (gC f))) (fs := [.int N, .ref (a 1), .ref (a 3), .ref (a 4), .ref (a 5), .ref (a 7), .int nd.1, .int nd.2.1, .int nd.2.2.1, .long nd.2.2.2]) (ty := .long) (C := RX4) (T := TX4) (N := 10) hx hb htb inX4 tyX4 tyX4_ok nmX4 hown hK hP hD hS 0 rfl rfl 9 (by decide) (htb _ kF_X4_161) (fun _ h9 => h9) rfl (by decide +kernel) rfl rfl (Nat.le_of_ble_eq_true rfl) dX4_give_8 (fun H locs hP hD hS => ?_)
  have hP : va_P D vwCl (cw a cA N f ob tr (nd.1, nd.2.1, nd.2.2.1, lN (gC f))) H := hP
  have hD : va_D A (cw a cA N f ob tr (nd.1, nd.2.1, nd.2.2.1, lN (gC f))) := hD
  refine lv_aload_n hx hb dX4_give_11 rfl (lv_at hl 0 rfl) ?_
  refine va_get (D := D) (ci := 4) (v := .ref (a 5)) (fs := [.int N, .ref (a 1), .ref (a 3), .ref (a 4), .ref (a 5), .ref (a 7), .int nd.1, .int nd.2.1, .int nd.2.2.1, .long (lN (gC f))]) (C := RX4) (T := TX4) (N := 10) hx hb htb inX4 hown hK hP 0 rfl rfl 4 (by decide) (htb _ kF_X4_44) (fun _ h9 => h9) rfl dX4_give_12 ?_
  refine lv_sipush (v := 384) hx hb dX4_give_15 (by decide) ?_
  refine lv_aload_n hx hb dX4_give_18 rfl (lv_at hl 0 rfl) ?_
  refine va_get (D := D) (ci := 4) (v := .int N) (fs := [.int N, .ref (a 1), .ref (a 3), .ref (a 4), .ref (a 5), .ref (a 7), .int nd.1, .int nd.2.1, .int nd.2.2.1, .long (lN (gC f))]) (C := RX4) (T := TX4) (N := 10) hx hb htb inX4 hown hK hP 0 rfl rfl 0 (by decide) (htb _ kF_X4_16) (fun _ h9 => h9) rfl dX4_give_19 ?_
  refine lv_iadd hx hb dX4_give_22 ?_
  refine lv_aload_n hx hb dX4_give_23 rfl (lv_at hl 0 rfl) ?_
  refine va_get (D := D) (ci := 4) (v := .ref (a 4)) (fs := [.int N, .ref (a 1), .ref (a 3), .ref (a 4), .ref (a 5), .ref (a 7), .int nd.1, .int nd.2.1, .int nd.2.2.1, .long (lN (gC f))]) (C := RX4) (T := TX4) (N := 10) hx hb htb inX4 hown hK hP 0 rfl rfl 3 (by decide) (htb _ kF_X4_38) (fun _ h9 => h9) rfl dX4_give_24 ?_
  refine zb_ci (va_runV (As := []) (rest := [.int (384 + N), .ref (a 5)]) ⟨hx, hb, hml, hown, htb⟩ (c_lengthG l D a cA N f ob tr (nd.1, nd.2.1, nd.2.2.1, lN (gC f)) (cG f) (bv_of hB _).2 hG.1 hB) (cwV 0 htb (wb_V kM_X4_175 kI_X1_contentLength kS_X1_contentLength kN_X1 kD_X1_contentLength) rfl rfl rfl (by decide +kernel) ⟨Nat.le_of_ble_eq_true rfl, Nat.le_of_ble_eq_true rfl⟩) (zp_V 4 rfl rfl hP hK hSt hS hnw) rfl rfl hl.1 rfl (lv_room (Nat.le_of_ble_eq_true rfl)) dX4_give_27 ⟨Nat.le_of_ble_eq_true rfl, Nat.le_of_ble_eq_true rfl⟩) ?_
  refine zb_ti (y := nI (gL f)) (rfl) ?_
  refine lv_aload_n hx hb dX4_give_30 rfl (lv_at hl 0 rfl) ?_
  refine va_get (D := D) (ci := 4) (v := .long (lN (gC f))) (fs := [.int N, .ref (a 1), .ref (a 3), .ref (a 4), .ref (a 5), .ref (a 7), .int nd.1, .int nd.2.1, .int nd.2.2.1, .long (lN (gC f))]) (C := RX4) (T := TX4) (N := 10) hx hb htb inX4 hown hK hP 0 rfl rfl 9 (by decide) (htb _ kF_X4_161) (fun _ h9 => h9) rfl dX4_give_31 ?_
  refine zb_cv (va_runV (As := [.int (384 + N), .int (nI (gL f)), .long (lN (gC f))]) (rest := []) ⟨hx, hb, hml, hown, htb⟩ (c_send l D a cA N f ob tr (nd.1, nd.2.1, nd.2.2.1, lN (gC f)) _ kp (384 + N) (nI (gL f)) (gC f) hkp hkp32 (gC_lt hB hG)) (cwV 3 htb (wb_V kM_X4_141 kI_X2_send kS_X2_send kN_X2 kD_X2_send) rfl rfl rfl (by decide +kernel) ⟨Nat.le_of_ble_eq_true rfl, Nat.le_of_ble_eq_true rfl⟩) (zp_VW 5 rfl rfl hP hD hK hSt hS hA hnw) rfl rfl hl.1 rfl (lv_room (Nat.le_of_ble_eq_true rfl)) dX4_give_34 ⟨Nat.le_of_ble_eq_true rfl, Nat.le_of_ble_eq_true rfl⟩) hD hS hA (fun H locs hP hD hS => ?_)
  have hP : va_P D vwCl (cw a cA N f (ob_send ob (384 + N) (nI (gL f)) (gC f)) tr (nd.1, nd.2.1, nd.2.2.1, lN (gC f))) H := hP
  have hD : va_D A (cw a cA N f (ob_send ob (384 + N) (nI (gL f)) (gC f)) tr (nd.1, nd.2.1, nd.2.2.1, lN (gC f))) := hD
  rw [hQ]
  have hw9 : (cw a cA N f (ob_send ob (384 + N) (nI (gL f)) (gC f)) tr (nd.1, nd.2.1, nd.2.2.1, lN (gC f))) = (cw a cA N f (kGive N f ob) tr (nGive f nd)) := rfl
  exact W.vret hx hb hr (fun t ht hW => ⟨rfl, by rw [ht, ← hw9]; exact hP, by rw [← hw9]; exact hD, hS.F ht⟩) hS.2.2 dX4_give_37
set_option maxHeartbeats 4000000 in
set_option maxRecDepth 100000 in
theorem c_giveIfNew (l : Launch) (D : va_G) (a : Nat → Nat) (cA : ClassId) (N : Int32) (f : Nat → Int32) (ob : OB) (tr : TR) (nd : ND) (sz : Nat)  (hB : isB f) (hG : mapK f 9 5) (ho : obK ob) : Met l yX4_giveIfNew (wX4_giveIfNew :: wb) ({ frames := 4, cells := 0, slots := 0, locals := 95 } : Room) (va_Pc [.ref (a 0)] (zPre D [(cA, .int)] (cw a cA N f ob tr nd) sz)) (zb_Vv D vwCl (cw a cA N f (kNew N f ob nd) tr (nNew f nd)) (va_A (cw a cA N f ob tr nd) sz)) 0 0 (va_A (cw a cA N f ob tr nd) sz) := by
  refine Met.ofW (cc := cX4_giveIfNew) (maxL := 1) (ret := none) (by decide) rfl ?_
  intro p ev s m args below meth c s₁ B hml hv
  obtain ⟨rfl, hsz, hP, hK, hD0, hSt, hnw⟩ := hv
  have hx := B.exec
  have hb := B.bytes
  have hr := B.returns
  have hts := atoms_spec (ws := wX4_giveIfNew :: wb) B.pre
  have htb : ∀ w ∈ wb, w.before ([.ref (a 0)]).toArray s = true := fun w h => hts w (List.mem_cons_of_mem _ h)
  have hown : s.vm.findClass RX4 = some m.cls := findClass_of_methodNamed B.named
  have hlocks := B.notSynchronized
  subst hsz
  have hD := hD0.self (sz := s.heap.size)
  clear hD0
  generalize hAe : va_A (cw a cA N f ob tr nd) s.heap.size = A at hD hSt ⊢
  have hA : ∀ q : Nat, s.heap.size ≤ q → A q := fun q h => by rw [← hAe]; exact Or.inr h
  have hS : va_S A s.heap s.heap [] := va_S.rf
  obtain ⟨⟨tt, ff, hZT, hTT, hZF, hTF⟩, hXS⟩ := id hSt
  have hl := lv_entry ([.ref (a 0)]) (n := 1) (Nat.le_of_ble_eq_true rfl)
  rw [lg_entry_eq]
  generalize (lg_sl ([.ref (a 0)]) ++ List.replicate (1 - (lg_sl ([.ref (a 0)])).length) Slot.unset).toArray = ls at hl ⊢
  have hl : lv_has ls 1 [(0, .ref (a 0))] := hl
  refine zb_abs (fun Q hQ => ?_)
  refine lv_aload_n hx hb dX4_giveIfNew_0 rfl (lv_at hl 0 rfl) ?_
  refine va_get (D := D) (ci := 4) (v := .ref (a 4)) (fs := [.int N, .ref (a 1), .ref (a 3), .ref (a 4), .ref (a 5), .ref (a 7), .int nd.1, .int nd.2.1, .int nd.2.2.1, .long nd.2.2.2]) (C := RX4) (T := TX4) (N := 10) hx hb htb inX4 hown hK hP 0 rfl rfl 3 (by decide) (htb _ kF_X4_38) (fun _ h9 => h9) rfl dX4_giveIfNew_1 ?_
  refine zb_cl (va_runV (As := []) (rest := []) ⟨hx, hb, hml, hown, htb⟩ (c_contentG l D a cA N f ob tr nd (cG f) (bv_of hB _).2 hG.1 hB hG.2.2) (cwV 0 htb (wb_V kM_X4_157 kI_X1_content kS_X1_content kN_X1 kD_X1_content) rfl rfl rfl (by decide +kernel) ⟨Nat.le_of_ble_eq_true rfl, Nat.le_of_ble_eq_true rfl⟩) (zp_V 4 rfl rfl hP hK hSt hS hnw) rfl rfl hl.1 rfl (lv_room (Nat.le_of_ble_eq_true rfl)) dX4_giveIfNew_4 ⟨Nat.le_of_ble_eq_true rfl, Nat.le_of_ble_eq_true rfl⟩) ?_
  refine zb_tl (y := lN (gC f)) (rfl) ?_
  refine lv_aload_n hx hb dX4_giveIfNew_7 rfl (lv_at hl 0 rfl) ?_
  refine va_get (D := D) (ci := 4) (v := .long nd.2.2.2) (fs := [.int N, .ref (a 1), .ref (a 3), .ref (a 4), .ref (a 5), .ref (a 7), .int nd.1, .int nd.2.1, .int nd.2.2.1, .long nd.2.2.2]) (C := RX4) (T := TX4) (N := 10) hx hb htb inX4 hown hK hP 0 rfl rfl 9 (by decide) (htb _ kF_X4_161) (fun _ h9 => h9) rfl dX4_giveIfNew_8 ?_
  refine W.lcmp hx hb dX4_giveIfNew_11 ?_
  refine lv_if_eq (tgt := 19) hx hb dX4_giveIfNew_12 (by decide) (fun hc1 => ?_) (fun hc1 => ?_)
  · rw [hQ]
    have hw9 : (cw a cA N f ob tr nd) = (cw a cA N f (kNew N f ob nd) tr (nNew f nd)) := by simp only [kNew, nNew, if_pos ((lg_cmp_eq _ _).mp hc1)]
    exact W.vret hx hb hr (fun t ht hW => ⟨rfl, by rw [ht, ← hw9]; exact hP, by rw [← hw9]; exact hD, hS.F ht⟩) hS.2.2 dX4_giveIfNew_19
  refine lv_aload_n hx hb dX4_giveIfNew_15 rfl (lv_at hl 0 rfl) ?_
  refine zb_cv (va_runV (As := []) (rest := []) ⟨hx, hb, hml, hown, htb⟩ (c_give l D a cA N f ob tr nd _ hB hG ho) (cwV 0 htb (wb_V kM_X4_172 kI_X4_give kS_X4_give kN_X4 kD_X4_give) rfl rfl rfl (by decide +kernel) ⟨Nat.le_of_ble_eq_true rfl, Nat.le_of_ble_eq_true rfl⟩) (zp_VW 0 rfl rfl hP hD hK hSt hS hA hnw) rfl rfl hl.1 rfl (lv_room (Nat.le_of_ble_eq_true rfl)) dX4_giveIfNew_16 ⟨Nat.le_of_ble_eq_true rfl, Nat.le_of_ble_eq_true rfl⟩) hD hS hA (fun H locs hP hD hS => ?_)
  have hP : va_P D vwCl (cw a cA N f (kGive N f ob) tr (nGive f nd)) H := hP
  have hD : va_D A (cw a cA N f (kGive N f ob) tr (nGive f nd)) := hD
  rw [hQ]
  have hw9 : (cw a cA N f (kGive N f ob) tr (nGive f nd)) = (cw a cA N f (kNew N f ob nd) tr (nNew f nd)) := by simp only [kNew, nNew, if_neg (fun h => hc1 ((lg_cmp_eq _ _).mpr h))]
  exact W.vret hx hb hr (fun t ht hW => ⟨rfl, by rw [ht, ← hw9]; exact hP, by rw [← hw9]; exact hD, hS.F ht⟩) hS.2.2 dX4_giveIfNew_19
set_option maxHeartbeats 4000000 in
set_option maxRecDepth 100000 in
theorem c_ev (l : Launch) (D : va_G) (a : Nat → Nat) (cA : ClassId) (N : Int32) (f : Nat → Int32) (ob : OB) (tr : TR) (nd : ND) (sz : Nat)  (hB : isB f) (hG : mapK f 9 5) (ho : obK ob) : Met l yX4_giveWhenChanged (wX4_giveWhenChanged :: wb) ({ frames := 5, cells := 0, slots := 0, locals := 115 } : Room) (va_Pc [.ref (a 0)] (zPre D [(cA, .int)] (cw a cA N f ob tr nd) sz)) (zb_Vv D vwCl (cw a cA N f (kEv N f ob nd) tr (nEv f nd)) (va_A (cw a cA N f ob tr nd) sz)) 0 0 (va_A (cw a cA N f ob tr nd) sz) := by
  refine Met.ofW (cc := cX4_giveWhenChanged) (maxL := 1) (ret := none) (by decide) rfl ?_
  intro p ev s m args below meth c s₁ B hml hv
  obtain ⟨rfl, hsz, hP, hK, hD0, hSt, hnw⟩ := hv
  have hx := B.exec
  have hb := B.bytes
  have hr := B.returns
  have hts := atoms_spec (ws := wX4_giveWhenChanged :: wb) B.pre
  have htb : ∀ w ∈ wb, w.before ([.ref (a 0)]).toArray s = true := fun w h => hts w (List.mem_cons_of_mem _ h)
  have hown : s.vm.findClass RX4 = some m.cls := findClass_of_methodNamed B.named
  have hlocks := B.notSynchronized
  subst hsz
  have hD := hD0.self (sz := s.heap.size)
  clear hD0
  generalize hAe : va_A (cw a cA N f ob tr nd) s.heap.size = A at hD hSt ⊢
  have hA : ∀ q : Nat, s.heap.size ≤ q → A q := fun q h => by rw [← hAe]; exact Or.inr h
  have hS : va_S A s.heap s.heap [] := va_S.rf
  obtain ⟨⟨tt, ff, hZT, hTT, hZF, hTF⟩, hXS⟩ := id hSt
  have hl := lv_entry ([.ref (a 0)]) (n := 1) (Nat.le_of_ble_eq_true rfl)
  rw [lg_entry_eq]
  generalize (lg_sl ([.ref (a 0)]) ++ List.replicate (1 - (lg_sl ([.ref (a 0)])).length) Slot.unset).toArray = ls at hl ⊢
  have hl : lv_has ls 1 [(0, .ref (a 0))] := hl
  refine zb_abs (fun Q hQ => ?_)
  refine lv_aload_n hx hb dX4_giveWhenChanged_0 rfl (lv_at hl 0 rfl) ?_
  refine va_get (D := D) (ci := 4) (v := .int nd.1) (fs := [.int N, .ref (a 1), .ref (a 3), .ref (a 4), .ref (a 5), .ref (a 7), .int nd.1, .int nd.2.1, .int nd.2.2.1, .long nd.2.2.2]) (C := RX4) (T := TX4) (N := 10) hx hb htb inX4 hown hK hP 0 rfl rfl 6 (by decide) (htb _ kF_X4_79) (fun _ h9 => h9) rfl dX4_giveWhenChanged_1 ?_
  refine lv_iconst (v := 5) hx hb dX4_giveWhenChanged_4 (by decide) ?_
  refine lv_icmp_ne (tgt := 38) hx hb dX4_giveWhenChanged_5 (by decide) (fun hc1 => ?_) (fun hc1 => ?_)
  · rw [hQ]
    have hw9 : (cw a cA N f ob tr nd) = (cw a cA N f (kEv N f ob nd) tr (nEv f nd)) := by simp only [kEv, nEv, if_neg hc1]
    exact W.vret hx hb hr (fun t ht hW => ⟨rfl, by rw [ht, ← hw9]; exact hP, by rw [← hw9]; exact hD, hS.F ht⟩) hS.2.2 dX4_giveWhenChanged_38
  refine lv_aload_n hx hb dX4_giveWhenChanged_8 rfl (lv_at hl 0 rfl) ?_
  refine va_get (D := D) (ci := 4) (v := .ref (a 4)) (fs := [.int N, .ref (a 1), .ref (a 3), .ref (a 4), .ref (a 5), .ref (a 7), .int nd.1, .int nd.2.1, .int nd.2.2.1, .long nd.2.2.2]) (C := RX4) (T := TX4) (N := 10) hx hb htb inX4 hown hK hP 0 rfl rfl 3 (by decide) (htb _ kF_X4_38) (fun _ h9 => h9) rfl dX4_giveWhenChanged_9 ?_
  refine zb_ci (va_runV (As := []) (rest := []) ⟨hx, hb, hml, hown, htb⟩ (c_countG l D a cA N f ob tr nd (cG f) (bv_of hB _).2 hG.1) (cwV 0 htb (wb_V kM_X4_165 kI_X1_count kS_X1_count kN_X1 kD_X1_count) rfl rfl rfl (by decide +kernel) ⟨Nat.le_of_ble_eq_true rfl, Nat.le_of_ble_eq_true rfl⟩) (zp_V 4 rfl rfl hP hK hSt hS hnw) rfl rfl hl.1 rfl (lv_room (Nat.le_of_ble_eq_true rfl)) dX4_giveWhenChanged_12 ⟨Nat.le_of_ble_eq_true rfl, Nat.le_of_ble_eq_true rfl⟩) ?_
  refine lv_if_eq (tgt := 38) hx hb dX4_giveWhenChanged_15 (by decide) (fun hc2 => ?_) (fun hc2 => ?_)
  · rw [hQ]
    have hw9 : (cw a cA N f ob tr nd) = (cw a cA N f (kEv N f ob nd) tr (nEv f nd)) := by simp only [kEv, nEv, if_pos hc1, if_pos hc2]
    exact W.vret hx hb hr (fun t ht hW => ⟨rfl, by rw [ht, ← hw9]; exact hP, by rw [← hw9]; exact hD, hS.F ht⟩) hS.2.2 dX4_giveWhenChanged_38
  refine lv_aload_n hx hb dX4_giveWhenChanged_18 rfl (lv_at hl 0 rfl) ?_
  refine va_get (D := D) (ci := 4) (v := .ref (a 1)) (fs := [.int N, .ref (a 1), .ref (a 3), .ref (a 4), .ref (a 5), .ref (a 7), .int nd.1, .int nd.2.1, .int nd.2.2.1, .long nd.2.2.2]) (C := RX4) (T := TX4) (N := 10) hx hb htb inX4 hown hK hP 0 rfl rfl 1 (by decide) (htb _ kF_X4_25) (fun _ h9 => h9) rfl dX4_giveWhenChanged_19 ?_
  refine lv_bipush (v := 8) hx hb dX4_giveWhenChanged_22 (by decide) ?_
  refine lv_iconst (v := 0) hx hb dX4_giveWhenChanged_24 (by decide) ?_
  refine zb_ci (va_runV (As := [.int 8, .int 0]) (rest := []) ⟨hx, hb, hml, hown, htb⟩ (c_byteAt l D a cA N f ob tr nd 8 0 (by decide) (by decide)) (cwV 2 htb (wb_V kM_X4_118 kI_X0_byteAt kS_X0_byteAt kN_X0 kD_X0_byteAt) rfl rfl rfl (by decide +kernel) ⟨Nat.le_of_ble_eq_true rfl, Nat.le_of_ble_eq_true rfl⟩) (zp_V 1 rfl rfl hP hK hSt hS hnw) rfl rfl hl.1 rfl (lv_room (Nat.le_of_ble_eq_true rfl)) dX4_giveWhenChanged_25 ⟨Nat.le_of_ble_eq_true rfl, Nat.le_of_ble_eq_true rfl⟩) ?_
  refine zb_ti (y := nI (bv f (xP 8))) ((bv_of hB _).2) ?_
  refine lv_sipush (v := 254) hx hb dX4_giveWhenChanged_28 (by decide) ?_
  refine lv_icmp_lt (tgt := 38) hx hb dX4_giveWhenChanged_31 (by decide) (fun hc3 => ?_) (fun hc3 => ?_)
  · rw [hQ]
    have hw9 : (cw a cA N f ob tr nd) = (cw a cA N f (kEv N f ob nd) tr (nEv f nd)) := by simp only [kEv, nEv, if_pos hc1, if_neg hc2, if_pos hc3]
    exact W.vret hx hb hr (fun t ht hW => ⟨rfl, by rw [ht, ← hw9]; exact hP, by rw [← hw9]; exact hD, hS.F ht⟩) hS.2.2 dX4_giveWhenChanged_38
  refine lv_aload_n hx hb dX4_giveWhenChanged_34 rfl (lv_at hl 0 rfl) ?_
  refine zb_cv (va_runV (As := []) (rest := []) ⟨hx, hb, hml, hown, htb⟩ (c_giveIfNew l D a cA N f ob tr nd _ hB hG ho) (cwV 0 htb (wb_V kM_X4_169 kI_X4_giveIfNew kS_X4_giveIfNew kN_X4 kD_X4_giveIfNew) rfl rfl rfl (by decide +kernel) ⟨Nat.le_of_ble_eq_true rfl, Nat.le_of_ble_eq_true rfl⟩) (zp_VW 0 rfl rfl hP hD hK hSt hS hA hnw) rfl rfl hl.1 rfl (lv_room (Nat.le_of_ble_eq_true rfl)) dX4_giveWhenChanged_35 ⟨Nat.le_of_ble_eq_true rfl, Nat.le_of_ble_eq_true rfl⟩) hD hS hA (fun H locs hP hD hS => ?_)
  have hP : va_P D vwCl (cw a cA N f (kNew N f ob nd) tr (nNew f nd)) H := hP
  have hD : va_D A (cw a cA N f (kNew N f ob nd) tr (nNew f nd)) := hD
  rw [hQ]
  have hw9 : (cw a cA N f (kNew N f ob nd) tr (nNew f nd)) = (cw a cA N f (kEv N f ob nd) tr (nEv f nd)) := by simp only [kEv, nEv, if_pos hc1, if_neg hc2, if_neg hc3]
  exact W.vret hx hb hr (fun t ht hW => ⟨rfl, by rw [ht, ← hw9]; exact hP, by rw [← hw9]; exact hD, hS.F ht⟩) hS.2.2 dX4_giveWhenChanged_38
set_option maxHeartbeats 4000000 in
set_option maxRecDepth 100000 in
theorem c_sync (l : Launch) (D : va_G) (a : Nat → Nat) (cA : ClassId) (N : Int32) (f : Nat → Int32) (ob : OB) (tr : TR) (nd : ND) (sz : Nat)  (hB : isB f) (hG : mapK f 9 5) (ho : obK ob) : Met l yX4_sync (wX4_sync :: wb) ({ frames := 5, cells := 0, slots := 0, locals := 115 } : Room) (va_Pc [.ref (a 0)] (zPre D [(cA, .int)] (cw a cA N f ob tr nd) sz)) (zb_Vv D vwCl (cw a cA N f (kSync N f ob nd) tr (nSync f nd)) (va_A (cw a cA N f ob tr nd) sz)) 0 0 (va_A (cw a cA N f ob tr nd) sz) := by
  refine Met.ofW (cc := cX4_sync) (maxL := 2) (ret := none) (by decide) rfl ?_
  intro p ev s m args below meth c s₁ B hml hv
  obtain ⟨rfl, hsz, hP, hK, hD0, hSt, hnw⟩ := hv
  have hx := B.exec
  have hb := B.bytes
  have hr := B.returns
  have hts := atoms_spec (ws := wX4_sync :: wb) B.pre
  have htb : ∀ w ∈ wb, w.before ([.ref (a 0)]).toArray s = true := fun w h => hts w (List.mem_cons_of_mem _ h)
  have hown : s.vm.findClass RX4 = some m.cls := findClass_of_methodNamed B.named
  have hlocks := B.notSynchronized
  subst hsz
  have hD := hD0.self (sz := s.heap.size)
  clear hD0
  generalize hAe : va_A (cw a cA N f ob tr nd) s.heap.size = A at hD hSt ⊢
  have hA : ∀ q : Nat, s.heap.size ≤ q → A q := fun q h => by rw [← hAe]; exact Or.inr h
  have hS : va_S A s.heap s.heap [] := va_S.rf
  obtain ⟨⟨tt, ff, hZT, hTT, hZF, hTF⟩, hXS⟩ := id hSt
  have hl := lv_entry ([.ref (a 0)]) (n := 2) (Nat.le_of_ble_eq_true rfl)
  rw [lg_entry_eq]
  generalize (lg_sl ([.ref (a 0)]) ++ List.replicate (2 - (lg_sl ([.ref (a 0)])).length) Slot.unset).toArray = ls at hl ⊢
  have hl : lv_has ls 2 [(0, .ref (a 0))] := hl
  refine zb_abs (fun Q hQ => ?_)
  refine lv_aload_n hx hb dX4_sync_0 rfl (lv_at hl 0 rfl) ?_
  refine va_get (D := D) (ci := 4) (v := .int nd.1) (fs := [.int N, .ref (a 1), .ref (a 3), .ref (a 4), .ref (a 5), .ref (a 7), .int nd.1, .int nd.2.1, .int nd.2.2.1, .long nd.2.2.2]) (C := RX4) (T := TX4) (N := 10) hx hb htb inX4 hown hK hP 0 rfl rfl 6 (by decide) (htb _ kF_X4_79) (fun _ h9 => h9) rfl dX4_sync_1 ?_
  refine lv_iconst (v := 5) hx hb dX4_sync_4 (by decide) ?_
  refine lv_icmp_ne (tgt := 18) hx hb dX4_sync_5 (by decide) (fun hc1 => ?_) (fun hc1 => ?_)
  · rw [hQ]
    have hw9 : (cw a cA N f ob tr nd) = (cw a cA N f (kSync N f ob nd) tr (nSync f nd)) := by first | (simp only [kSync, nSync, if_neg hc1]; done) | (simp only [kSync, nSync, if_neg hc1]; rfl)
    exact W.vret hx hb hr (fun t ht hW => ⟨rfl, by rw [ht, ← hw9]; exact hP, by rw [← hw9]; exact hD, hS.F ht⟩) hS.2.2 dX4_sync_18
  refine lv_aload_n hx hb dX4_sync_8 rfl (lv_at hl 0 rfl) ?_
  refine va_get (D := D) (ci := 4) (v := .ref (a 4)) (fs := [.int N, .ref (a 1), .ref (a 3), .ref (a 4), .ref (a 5), .ref (a 7), .int nd.1, .int nd.2.1, .int nd.2.2.1, .long nd.2.2.2]) (C := RX4) (T := TX4) (N := 10) hx hb htb inX4 hown hK hP 0 rfl rfl 3 (by decide) (htb _ kF_X4_38) (fun _ h9 => h9) rfl dX4_sync_9 ?_
  refine zb_ci (va_runV (As := []) (rest := []) ⟨hx, hb, hml, hown, htb⟩ (c_countG l D a cA N f ob tr nd (cG f) (bv_of hB _).2 hG.1) (cwV 0 htb (wb_V kM_X4_165 kI_X1_count kS_X1_count kN_X1 kD_X1_count) rfl rfl rfl (by decide +kernel) ⟨Nat.le_of_ble_eq_true rfl, Nat.le_of_ble_eq_true rfl⟩) (zp_V 4 rfl rfl hP hK hSt hS hnw) rfl rfl hl.1 rfl (lv_room (Nat.le_of_ble_eq_true rfl)) dX4_sync_12 ⟨Nat.le_of_ble_eq_true rfl, Nat.le_of_ble_eq_true rfl⟩) ?_
  refine lv_if_ne (tgt := 19) hx hb dX4_sync_15 (by decide) (fun hc2 => ?_) (fun hc2 => ?_)
  · refine lv_aload_n hx hb dX4_sync_19 rfl (lv_at hl 0 rfl) ?_
    refine va_get (D := D) (ci := 4) (v := .ref (a 1)) (fs := [.int N, .ref (a 1), .ref (a 3), .ref (a 4), .ref (a 5), .ref (a 7), .int nd.1, .int nd.2.1, .int nd.2.2.1, .long nd.2.2.2]) (C := RX4) (T := TX4) (N := 10) hx hb htb inX4 hown hK hP 0 rfl rfl 1 (by decide) (htb _ kF_X4_25) (fun _ h9 => h9) rfl dX4_sync_20 ?_
    refine lv_bipush (v := 8) hx hb dX4_sync_23 (by decide) ?_
    refine lv_iconst (v := 0) hx hb dX4_sync_25 (by decide) ?_
    refine zb_ci (va_runV (As := [.int 8, .int 0]) (rest := []) ⟨hx, hb, hml, hown, htb⟩ (c_byteAt l D a cA N f ob tr nd 8 0 (by decide) (by decide)) (cwV 2 htb (wb_V kM_X4_118 kI_X0_byteAt kS_X0_byteAt kN_X0 kD_X0_byteAt) rfl rfl rfl (by decide +kernel) ⟨Nat.le_of_ble_eq_true rfl, Nat.le_of_ble_eq_true rfl⟩) (zp_V 1 rfl rfl hP hK hSt hS hnw) rfl rfl hl.1 rfl (lv_room (Nat.le_of_ble_eq_true rfl)) dX4_sync_26 ⟨Nat.le_of_ble_eq_true rfl, Nat.le_of_ble_eq_true rfl⟩) ?_
    refine zb_ti (y := nI (bv f (xP 8))) ((bv_of hB _).2) ?_
    refine lv_istore_n hx hb dX4_sync_29 rfl hl (by decide) rfl (fun ls hl => ?_)
    have hl : lv_has ls 2 [(1, .int (nI (bv f (xP 8)))), (0, .ref (a 0))] := hl
    refine lv_iload_n hx hb dX4_sync_30 rfl (lv_at hl 0 rfl) ?_
    refine lv_if_ne (tgt := 41) hx hb dX4_sync_31 (by decide) (fun hc3 => ?_) (fun hc3 => ?_)
    · refine lv_iload_n hx hb dX4_sync_41 rfl (lv_at hl 0 rfl) ?_
      refine lv_sipush (v := 240) hx hb dX4_sync_42 (by decide) ?_
      refine lv_icmp_gt (tgt := 75) hx hb dX4_sync_45 (by decide) (fun hc4 => ?_) (fun hc4 => ?_)
      · rw [hQ]
        have hw9 : (cw a cA N f ob tr nd) = (cw a cA N f (kSync N f ob nd) tr (nSync f nd)) := by first | (simp only [kSync, nSync, if_pos hc1, if_neg hc2, if_neg hc3, if_pos hc4]; done) | (simp only [kSync, nSync, if_pos hc1, if_neg hc2, if_neg hc3, if_pos hc4]; rfl)
        exact W.vret hx hb hr (fun t ht hW => ⟨rfl, by rw [ht, ← hw9]; exact hP, by rw [← hw9]; exact hD, hS.F ht⟩) hS.2.2 dX4_sync_75
      refine lv_aload_n hx hb dX4_sync_48 rfl (lv_at hl 1 rfl) ?_
      refine lv_dup hx hb dX4_sync_49 rfl ?_
      refine va_get (D := D) (ci := 4) (v := .int nd.2.1) (fs := [.int N, .ref (a 1), .ref (a 3), .ref (a 4), .ref (a 5), .ref (a 7), .int nd.1, .int nd.2.1, .int nd.2.2.1, .long nd.2.2.2]) (C := RX4) (T := TX4) (N := 10) hx hb htb inX4 hown hK hP 0 rfl rfl 7 (by decide) (htb _ kF_X4_135) (fun _ h9 => h9) rfl dX4_sync_50 ?_
      refine lv_iconst (v := 1) hx hb dX4_sync_53 (by decide) ?_
      refine lv_iadd hx hb dX4_sync_54 ?_
      refine va_put (D := D) (ci := 4) (v := .int (nd.2.1 + 1)) (fs := [.int N, .ref (a 1), .ref (a 3), .ref (a 4), .ref (a 5), .ref (a 7), .int nd.1, .int nd.2.1, .int nd.2.2.1, .long nd.2.2.2]) (ty := .int) (C := RX4) (T := TX4) (N := 10) hx hb htb inX4 tyX4 tyX4_ok nmX4 hown hK hP hD hS 0 rfl rfl 7 (by decide) (htb _ kF_X4_135) (fun _ h9 => h9) rfl (by decide +kernel) rfl rfl (Nat.le_of_ble_eq_true rfl) dX4_sync_55 (fun H locs hP hD hS => ?_)
      have hP : va_P D vwCl (cw a cA N f ob tr (nd.1, nd.2.1 + 1, nd.2.2.1, nd.2.2.2)) H := hP
      have hD : va_D A (cw a cA N f ob tr (nd.1, nd.2.1 + 1, nd.2.2.1, nd.2.2.2)) := hD
      refine lv_aload_n hx hb dX4_sync_58 rfl (lv_at hl 1 rfl) ?_
      refine va_get (D := D) (ci := 4) (v := .int (nd.2.1 + 1)) (fs := [.int N, .ref (a 1), .ref (a 3), .ref (a 4), .ref (a 5), .ref (a 7), .int nd.1, .int (nd.2.1 + 1), .int nd.2.2.1, .long nd.2.2.2]) (C := RX4) (T := TX4) (N := 10) hx hb htb inX4 hown hK hP 0 rfl rfl 7 (by decide) (htb _ kF_X4_135) (fun _ h9 => h9) rfl dX4_sync_59 ?_
      refine lv_iload_n hx hb dX4_sync_62 rfl (lv_at hl 0 rfl) ?_
      refine lv_icmp_lt (tgt := 75) hx hb dX4_sync_63 (by decide) (fun hc5 => ?_) (fun hc5 => ?_)
      · rw [hQ]
        have hw9 : (cw a cA N f ob tr (nd.1, nd.2.1 + 1, nd.2.2.1, nd.2.2.2)) = (cw a cA N f (kSync N f ob nd) tr (nSync f nd)) := by first | (simp only [kSync, nSync, if_pos hc1, if_neg hc2, if_neg hc3, if_neg hc4, if_pos hc5]; done) | (simp only [kSync, nSync, if_pos hc1, if_neg hc2, if_neg hc3, if_neg hc4, if_pos hc5]; rfl)
        exact W.vret hx hb hr (fun t ht hW => ⟨rfl, by rw [ht, ← hw9]; exact hP, by rw [← hw9]; exact hD, hS.F ht⟩) hS.2.2 dX4_sync_75
      refine lv_aload_n hx hb dX4_sync_66 rfl (lv_at hl 1 rfl) ?_
      refine lv_iconst (v := 0) hx hb dX4_sync_67 (by decide) ?_
      refine va_put (D := D) (ci := 4) (v := .int 0) (fs := [.int N, .ref (a 1), .ref (a 3), .ref (a 4), .ref (a 5), .ref (a 7), .int nd.1, .int (nd.2.1 + 1), .int nd.2.2.1, .long nd.2.2.2]) (ty := .int) (C := RX4) (T := TX4) (N := 10) hx hb htb inX4 tyX4 tyX4_ok nmX4 hown hK hP hD hS 0 rfl rfl 7 (by decide) (htb _ kF_X4_135) (fun _ h9 => h9) rfl (by decide +kernel) rfl rfl (Nat.le_of_ble_eq_true rfl) dX4_sync_68 (fun H locs hP hD hS => ?_)
      have hP : va_P D vwCl (cw a cA N f ob tr (nd.1, 0, nd.2.2.1, nd.2.2.2)) H := hP
      have hD : va_D A (cw a cA N f ob tr (nd.1, 0, nd.2.2.1, nd.2.2.2)) := hD
      refine lv_aload_n hx hb dX4_sync_71 rfl (lv_at hl 1 rfl) ?_
      refine zb_cv (va_runV (As := []) (rest := []) ⟨hx, hb, hml, hown, htb⟩ (c_give l D a cA N f ob tr (nd.1, 0, nd.2.2.1, nd.2.2.2) _ hB hG ho) (cwV 0 htb (wb_V kM_X4_172 kI_X4_give kS_X4_give kN_X4 kD_X4_give) rfl rfl rfl (by decide +kernel) ⟨Nat.le_of_ble_eq_true rfl, Nat.le_of_ble_eq_true rfl⟩) (zp_VW 0 rfl rfl hP hD hK hSt hS hA hnw) rfl rfl hl.1 rfl (lv_room (Nat.le_of_ble_eq_true rfl)) dX4_sync_72 ⟨Nat.le_of_ble_eq_true rfl, Nat.le_of_ble_eq_true rfl⟩) hD hS hA (fun H locs hP hD hS => ?_)
      have hP : va_P D vwCl (cw a cA N f (kGive N f ob) tr (nGive f (nd.1, 0, nd.2.2.1, nd.2.2.2))) H := hP
      have hD : va_D A (cw a cA N f (kGive N f ob) tr (nGive f (nd.1, 0, nd.2.2.1, nd.2.2.2))) := hD
      rw [hQ]
      have hw9 : (cw a cA N f (kGive N f ob) tr (nGive f (nd.1, 0, nd.2.2.1, nd.2.2.2))) = (cw a cA N f (kSync N f ob nd) tr (nSync f nd)) := by first | (simp only [kSync, nSync, if_pos hc1, if_neg hc2, if_neg hc3, if_neg hc4, if_neg hc5]; done) | (simp only [kSync, nSync, if_pos hc1, if_neg hc2, if_neg hc3, if_neg hc4, if_neg hc5]; rfl)
      exact W.vret hx hb hr (fun t ht hW => ⟨rfl, by rw [ht, ← hw9]; exact hP, by rw [← hw9]; exact hD, hS.F ht⟩) hS.2.2 dX4_sync_75
    refine lv_aload_n hx hb dX4_sync_34 rfl (lv_at hl 1 rfl) ?_
    refine zb_cv (va_runV (As := []) (rest := []) ⟨hx, hb, hml, hown, htb⟩ (c_giveIfNew l D a cA N f ob tr nd _ hB hG ho) (cwV 0 htb (wb_V kM_X4_169 kI_X4_giveIfNew kS_X4_giveIfNew kN_X4 kD_X4_giveIfNew) rfl rfl rfl (by decide +kernel) ⟨Nat.le_of_ble_eq_true rfl, Nat.le_of_ble_eq_true rfl⟩) (zp_VW 0 rfl rfl hP hD hK hSt hS hA hnw) rfl rfl hl.1 rfl (lv_room (Nat.le_of_ble_eq_true rfl)) dX4_sync_35 ⟨Nat.le_of_ble_eq_true rfl, Nat.le_of_ble_eq_true rfl⟩) hD hS hA (fun H locs hP hD hS => ?_)
    have hP : va_P D vwCl (cw a cA N f (kNew N f ob nd) tr (nNew f nd)) H := hP
    have hD : va_D A (cw a cA N f (kNew N f ob nd) tr (nNew f nd)) := hD
    refine lv_goto (tgt := 75) hx hb dX4_sync_38 (by decide) ?_
    rw [hQ]
    have hw9 : (cw a cA N f (kNew N f ob nd) tr (nNew f nd)) = (cw a cA N f (kSync N f ob nd) tr (nSync f nd)) := by first | (simp only [kSync, nSync, if_pos hc1, if_neg hc2, if_pos hc3]; done) | (simp only [kSync, nSync, if_pos hc1, if_neg hc2, if_pos hc3]; rfl)
    exact W.vret hx hb hr (fun t ht hW => ⟨rfl, by rw [ht, ← hw9]; exact hP, by rw [← hw9]; exact hD, hS.F ht⟩) hS.2.2 dX4_sync_75
  rw [hQ]
  have hw9 : (cw a cA N f ob tr nd) = (cw a cA N f (kSync N f ob nd) tr (nSync f nd)) := by first | (simp only [kSync, nSync, if_pos hc1, if_pos hc2]; done) | (simp only [kSync, nSync, if_pos hc1, if_pos hc2]; rfl)
  exact W.vret hx hb hr (fun t ht hW => ⟨rfl, by rw [ht, ← hw9]; exact hP, by rw [← hw9]; exact hD, hS.F ht⟩) hS.2.2 dX4_sync_18
set_option maxHeartbeats 4000000 in
set_option maxRecDepth 100000 in
theorem c_take (l : Launch) (D : va_G) (a : Nat → Nat) (cA : ClassId) (N : Int32) (f : Nat → Int32) (ob : OB) (tr : TR) (nd : ND) (sz : Nat) (ln : Int32) (x : Nat) (hB : isB f) (hT : mapK f 3 6) (h8 : (mW 3 6 x f (cT f)).2 ≤ 8) (hx64 : x < 2 ^ 64) : Met l yX4_take (wX4_take :: wb) ({ frames := 3, cells := 0, slots := 0, locals := 74 } : Room) (va_Pc [.ref (a 0), .int ln, .long (lN x)] (zPre D [(cA, .int)] (cw a cA N f ob tr nd) sz)) (zb_Vv D vwCl (cw a cA N (fTake f nd ln x) ob tr nd) (va_A (cw a cA N f ob tr nd) sz)) 0 0 (va_A (cw a cA N f ob tr nd) sz) := by
  refine Met.ofW (cc := cX4_take) (maxL := 5) (ret := none) (by decide) rfl ?_
  intro p ev s m args below meth c s₁ B hml hv
  obtain ⟨rfl, hsz, hP, hK, hD0, hSt, hnw⟩ := hv
  have hx := B.exec
  have hb := B.bytes
  have hr := B.returns
  have hts := atoms_spec (ws := wX4_take :: wb) B.pre
  have htb : ∀ w ∈ wb, w.before ([.ref (a 0), .int ln, .long (lN x)]).toArray s = true := fun w h => hts w (List.mem_cons_of_mem _ h)
  have hown : s.vm.findClass RX4 = some m.cls := findClass_of_methodNamed B.named
  have hlocks := B.notSynchronized
  subst hsz
  have hD := hD0.self (sz := s.heap.size)
  clear hD0
  generalize hAe : va_A (cw a cA N f ob tr nd) s.heap.size = A at hD hSt ⊢
  have hA : ∀ q : Nat, s.heap.size ≤ q → A q := fun q h => by rw [← hAe]; exact Or.inr h
  have hS : va_S A s.heap s.heap [] := va_S.rf
  obtain ⟨⟨tt, ff, hZT, hTT, hZF, hTF⟩, hXS⟩ := id hSt
  have hl := lv_entry ([.ref (a 0), .int ln, .long (lN x)]) (n := 5) (Nat.le_of_ble_eq_true rfl)
  rw [lg_entry_eq]
  generalize (lg_sl ([.ref (a 0), .int ln, .long (lN x)]) ++ List.replicate (5 - (lg_sl ([.ref (a 0), .int ln, .long (lN x)])).length) Slot.unset).toArray = ls at hl ⊢
  have hl : lv_has ls 5 [(0, .ref (a 0)), (1, .int ln), (2, .long (lN x))] := hl
  refine zb_abs (fun Q hQ => ?_)
  refine lv_aload_n hx hb dX4_take_0 rfl (lv_at hl 0 rfl) ?_
  refine va_get (D := D) (ci := 4) (v := .int nd.1) (fs := [.int N, .ref (a 1), .ref (a 3), .ref (a 4), .ref (a 5), .ref (a 7), .int nd.1, .int nd.2.1, .int nd.2.2.1, .long nd.2.2.2]) (C := RX4) (T := TX4) (N := 10) hx hb htb inX4 hown hK hP 0 rfl rfl 6 (by decide) (htb _ kF_X4_79) (fun _ h9 => h9) rfl dX4_take_1 ?_
  refine lv_iconst (v := 5) hx hb dX4_take_4 (by decide) ?_
  refine lv_icmp_ne (tgt := 18) hx hb dX4_take_5 (by decide) (fun hc1 => ?_) (fun hc1 => ?_)
  · rw [hQ]
    have hw9 : (cw a cA N f ob tr nd) = (cw a cA N (fTake f nd ln x) ob tr nd) := by first | (simp only [fTake, if_neg hc1]; done) | (simp only [fTake, if_neg hc1]; rfl)
    exact W.vret hx hb hr (fun t ht hW => ⟨rfl, by rw [ht, ← hw9]; exact hP, by rw [← hw9]; exact hD, hS.F ht⟩) hS.2.2 dX4_take_18
  refine lv_aload_n hx hb dX4_take_8 rfl (lv_at hl 0 rfl) ?_
  refine va_get (D := D) (ci := 4) (v := .ref (a 3)) (fs := [.int N, .ref (a 1), .ref (a 3), .ref (a 4), .ref (a 5), .ref (a 7), .int nd.1, .int nd.2.1, .int nd.2.2.1, .long nd.2.2.2]) (C := RX4) (T := TX4) (N := 10) hx hb htb inX4 hown hK hP 0 rfl rfl 2 (by decide) (htb _ kF_X4_34) (fun _ h9 => h9) rfl dX4_take_9 ?_
  refine zb_ci (va_runV (As := []) (rest := []) ⟨hx, hb, hml, hown, htb⟩ (c_countT l D a cA N f ob tr nd (cT f) (bv_of hB _).2 hT.1) (cwV 0 htb (wb_V kM_X4_165 kI_X1_count kS_X1_count kN_X1 kD_X1_count) rfl rfl rfl (by decide +kernel) ⟨Nat.le_of_ble_eq_true rfl, Nat.le_of_ble_eq_true rfl⟩) (zp_V 3 rfl rfl hP hK hSt hS hnw) rfl rfl hl.1 rfl (lv_room (Nat.le_of_ble_eq_true rfl)) dX4_take_12 ⟨Nat.le_of_ble_eq_true rfl, Nat.le_of_ble_eq_true rfl⟩) ?_
  refine lv_if_ne (tgt := 19) hx hb dX4_take_15 (by decide) (fun hc2 => ?_) (fun hc2 => ?_)
  · refine lv_iload_n hx hb dX4_take_19 rfl (lv_at hl 1 rfl) ?_
    refine lv_aload_n hx hb dX4_take_20 rfl (lv_at hl 0 rfl) ?_
    refine va_get (D := D) (ci := 4) (v := .ref (a 3)) (fs := [.int N, .ref (a 1), .ref (a 3), .ref (a 4), .ref (a 5), .ref (a 7), .int nd.1, .int nd.2.1, .int nd.2.2.1, .long nd.2.2.2]) (C := RX4) (T := TX4) (N := 10) hx hb htb inX4 hown hK hP 0 rfl rfl 2 (by decide) (htb _ kF_X4_34) (fun _ h9 => h9) rfl dX4_take_21 ?_
    refine zb_ci (va_runV (As := []) (rest := [.int ln]) ⟨hx, hb, hml, hown, htb⟩ (c_lengthT l D a cA N f ob tr nd (cT f) (bv_of hB _).2 hT.1 hB) (cwV 0 htb (wb_V kM_X4_175 kI_X1_contentLength kS_X1_contentLength kN_X1 kD_X1_contentLength) rfl rfl rfl (by decide +kernel) ⟨Nat.le_of_ble_eq_true rfl, Nat.le_of_ble_eq_true rfl⟩) (zp_V 3 rfl rfl hP hK hSt hS hnw) rfl rfl hl.1 rfl (lv_room (Nat.le_of_ble_eq_true rfl)) dX4_take_24 ⟨Nat.le_of_ble_eq_true rfl, Nat.le_of_ble_eq_true rfl⟩) ?_
    refine lv_icmp_lt (tgt := 41) hx hb dX4_take_27 (by decide) (fun hc3 => ?_) (fun hc3 => ?_)
    · refine lv_aload_n hx hb dX4_take_41 rfl (lv_at hl 0 rfl) ?_
      refine va_get (D := D) (ci := 4) (v := .ref (a 1)) (fs := [.int N, .ref (a 1), .ref (a 3), .ref (a 4), .ref (a 5), .ref (a 7), .int nd.1, .int nd.2.1, .int nd.2.2.1, .long nd.2.2.2]) (C := RX4) (T := TX4) (N := 10) hx hb htb inX4 hown hK hP 0 rfl rfl 1 (by decide) (htb _ kF_X4_25) (fun _ h9 => h9) rfl dX4_take_42 ?_
      refine lv_iconst (v := 1) hx hb dX4_take_45 (by decide) ?_
      refine lv_iconst (v := 0) hx hb dX4_take_46 (by decide) ?_
      refine zb_ci (va_runV (As := [.int 1, .int 0]) (rest := []) ⟨hx, hb, hml, hown, htb⟩ (c_byteAt l D a cA N f ob tr nd 1 0 (by decide) (by decide)) (cwV 2 htb (wb_V kM_X4_118 kI_X0_byteAt kS_X0_byteAt kN_X0 kD_X0_byteAt) rfl rfl rfl (by decide +kernel) ⟨Nat.le_of_ble_eq_true rfl, Nat.le_of_ble_eq_true rfl⟩) (zp_V 1 rfl rfl hP hK hSt hS hnw) rfl rfl hl.1 rfl (lv_room (Nat.le_of_ble_eq_true rfl)) dX4_take_47 ⟨Nat.le_of_ble_eq_true rfl, Nat.le_of_ble_eq_true rfl⟩) ?_
      refine zb_ti (y := nI (bv f 4)) ((bv_of hB _).2) ?_
      refine lv_istore hx hb dX4_take_50 hl (by decide) rfl (fun ls hl => ?_)
      have hl : lv_has ls 5 [(4, .int (nI (bv f 4))), (0, .ref (a 0)), (1, .int ln), (2, .long (lN x))] := hl
      refine lv_aload_n hx hb dX4_take_52 rfl (lv_at hl 1 rfl) ?_
      refine va_get (D := D) (ci := 4) (v := .ref (a 1)) (fs := [.int N, .ref (a 1), .ref (a 3), .ref (a 4), .ref (a 5), .ref (a 7), .int nd.1, .int nd.2.1, .int nd.2.2.1, .long nd.2.2.2]) (C := RX4) (T := TX4) (N := 10) hx hb htb inX4 hown hK hP 0 rfl rfl 1 (by decide) (htb _ kF_X4_25) (fun _ h9 => h9) rfl dX4_take_53 ?_
      refine lv_iconst (v := 1) hx hb dX4_take_56 (by decide) ?_
      refine lv_iload hx hb dX4_take_57 (lv_at hl 0 rfl) ?_
      refine lv_bipush (v := 16) hx hb dX4_take_59 (by decide) ?_
      refine lv_ior hx hb dX4_take_61 ?_
      refine zb_ti (y := nI (bv f 4 ||| 16)) (nI_or _ _) ?_
      refine lv_i2l hx hb dX4_take_62 rfl ?_
      refine zb_tl (y := lN (bv f 4 ||| 16)) (nI_l (by have := or16 (bv_of hB 4).1; omega)) ?_
      refine zb_cv (va_runV (As := [.int 1, .long (lN (bv f 4 ||| 16))]) (rest := []) ⟨hx, hb, hml, hown, htb⟩ (c_put l D a cA N f ob tr nd _ 1 (bv f 4 ||| 16) (by decide) (by decide) (by have := or16 (bv_of hB 4).1; omega)) (cwV 2 htb (wb_V kM_X4_115 kI_X0_put kS_X0_put kN_X0 kD_X0_put) rfl rfl rfl (by decide +kernel) ⟨Nat.le_of_ble_eq_true rfl, Nat.le_of_ble_eq_true rfl⟩) (zp_VW 1 rfl rfl hP hD hK hSt hS hA hnw) rfl rfl hl.1 rfl (lv_room (Nat.le_of_ble_eq_true rfl)) dX4_take_63 ⟨Nat.le_of_ble_eq_true rfl, Nat.le_of_ble_eq_true rfl⟩) hD hS hA (fun H locs hP hD hS => ?_)
      have hP : va_P D vwCl (cw a cA N (pF f (xP 1) (xZ 1) (bv f 4 ||| 16) 0) ob tr nd) H := hP
      have hD : va_D A (cw a cA N (pF f (xP 1) (xZ 1) (bv f 4 ||| 16) 0) ob tr nd) := hD
      rw [hQ]
      have hw9 : (cw a cA N (pF f (xP 1) (xZ 1) (bv f 4 ||| 16) 0) ob tr nd) = (cw a cA N (fTake f nd ln x) ob tr nd) := by first | (simp only [fTake, if_pos hc1, if_neg hc2, if_pos hc3]; done) | (simp only [fTake, if_pos hc1, if_neg hc2, if_pos hc3]; rfl)
      exact W.vret hx hb hr (fun t ht hW => ⟨rfl, by rw [ht, ← hw9]; exact hP, by rw [← hw9]; exact hD, hS.F ht⟩) hS.2.2 dX4_take_66
    refine lv_aload_n hx hb dX4_take_30 rfl (lv_at hl 0 rfl) ?_
    refine va_get (D := D) (ci := 4) (v := .ref (a 3)) (fs := [.int N, .ref (a 1), .ref (a 3), .ref (a 4), .ref (a 5), .ref (a 7), .int nd.1, .int nd.2.1, .int nd.2.2.1, .long nd.2.2.2]) (C := RX4) (T := TX4) (N := 10) hx hb htb inX4 hown hK hP 0 rfl rfl 2 (by decide) (htb _ kF_X4_34) (fun _ h9 => h9) rfl dX4_take_31 ?_
    refine lv_lload_n hx hb dX4_take_34 rfl (lv_at hl 2 rfl) ?_
    refine zb_cv (va_runV (As := [.long (lN x)]) (rest := []) ⟨hx, hb, hml, hown, htb⟩ (c_spread l D a cA N f ob tr nd _ (cT f) x (bv_of hB _).2 hT.1 hB h8 hx64) (cwV 1 htb (wb_V kM_X4_178 kI_X1_spread kS_X1_spread kN_X1 kD_X1_spread) rfl rfl rfl (by decide +kernel) ⟨Nat.le_of_ble_eq_true rfl, Nat.le_of_ble_eq_true rfl⟩) (zp_VW 3 rfl rfl hP hD hK hSt hS hA hnw) rfl rfl hl.1 rfl (lv_room (Nat.le_of_ble_eq_true rfl)) dX4_take_35 ⟨Nat.le_of_ble_eq_true rfl, Nat.le_of_ble_eq_true rfl⟩) hD hS hA (fun H locs hP hD hS => ?_)
    have hP : va_P D vwCl (cw a cA N ((mW 3 6 x f (cT f)).1) ob tr nd) H := hP
    have hD : va_D A (cw a cA N ((mW 3 6 x f (cT f)).1) ob tr nd) := hD
    refine lv_goto (tgt := 66) hx hb dX4_take_38 (by decide) ?_
    rw [hQ]
    have hw9 : (cw a cA N ((mW 3 6 x f (cT f)).1) ob tr nd) = (cw a cA N (fTake f nd ln x) ob tr nd) := by first | (simp only [fTake, if_pos hc1, if_neg hc2, if_neg hc3]; done) | (simp only [fTake, if_pos hc1, if_neg hc2, if_neg hc3]; rfl)
    exact W.vret hx hb hr (fun t ht hW => ⟨rfl, by rw [ht, ← hw9]; exact hP, by rw [← hw9]; exact hD, hS.F ht⟩) hS.2.2 dX4_take_66
  rw [hQ]
  have hw9 : (cw a cA N f ob tr nd) = (cw a cA N (fTake f nd ln x) ob tr nd) := by first | (simp only [fTake, if_pos hc1, if_pos hc2]; done) | (simp only [fTake, if_pos hc1, if_pos hc2]; rfl)
  exact W.vret hx hb hr (fun t ht hW => ⟨rfl, by rw [ht, ← hw9]; exact hP, by rw [← hw9]; exact hD, hS.F ht⟩) hS.2.2 dX4_take_18
end
section
-- requests, as functions of the node's state
abbrev ST4 : Type := (Nat → Int32) × OB × TR × ND
def eAt (ad : Nat) : Option Nat := fd (nI (ad % 65536)) (nI (ad / 65536))
def aX (ad : Nat) : Nat := aN (nI (ad % 65536))
def kCmd (N : Int32) (f : Nat → Int32) (ob : OB) (tr : TR) (nd : ND) (wh : Nat) : ST4 :=
  if wh = 1 then (f, ob, tr, nRun f nd) else if wh = 2 then (f, ob, tr_end tr, (4, nd.2)) else if wh = 128 then (f, ob, tr, (127, nd.2))
  else if wh = 129 then (va_cpy tF f 0 0 95, kBoot N ob, tr_end tr, nBoot nd) else if wh = 130 then (va_cpy tF f 0 0 42, kBoot N ob, tr_end tr, nBoot nd) else (f, ob, tr, nd)
def kAbort (N : Int32) (f : Nat → Int32) (ob : OB) (tr : TR) (nd : ND) (ad cd : Nat) : ST4 := (f, kAns N ob 128 ad cd, tr_end tr, nd)
def trW (tr : TR) (e ad hg : Nat) : TR := tr_add (tr_begin (tr_end tr) (nI e) (nI ad) 1) 0 (xZ e) (sx hg)
def vW (tr : TR) (e ad hg : Nat) : Nat := sm (trW tr e ad hg).1 0 (min (0 + xZ e) 4)
def kWrite (N : Int32) (f : Nat → Int32) (ob : OB) (tr : TR) (nd : ND) (fi ad hg : Nat) : ST4 :=
  (eAt ad).elim (kAbort N f ob (tr_end tr) nd ad (aX ad)) (fun e =>
    if nI (aS e 2) = 0 then
      (if nI (lF fi (nI hg) (xZ e)) = 0 then
        (if nI fi &&& 2 = 0 then (f, kAns N ob 96 ad 0, tr_begin (tr_end tr) (nI e) (nI ad) 1, nd)
         else if nI (stF nd.1 f e (vW tr e ad hg)) = 0 then (fSto f (trW tr e ad hg).1 e, kAns N ob 96 ad 0, tr_end (trW tr e ad hg), nSto e nd)
         else kAbort N f ob (trW tr e ad hg) nd ad (stF nd.1 f e (vW tr e ad hg)))
       else kAbort N f ob (tr_end tr) nd ad (lF fi (nI hg) (xZ e)))
    else kAbort N f ob (tr_end tr) nd ad (aS e 2))
def kRead (N : Int32) (f : Nat → Int32) (ob : OB) (tr : TR) (nd : ND) (ad : Nat) : ST4 :=
  (eAt ad).elim (kAbort N f ob (tr_end tr) nd ad (aX ad)) (fun e =>
    if nI (aS e 1) = 0 then
      (if 4 < nI (xZ e) then (f, kAns N ob 65 ad (xZ e), tr_begin (tr_end tr) (nI e) (nI ad) 0, nd)
       else (f, kAns N ob (67 + 4 * (4 - xZ e)) ad (sm f (xP e) (xZ e)), tr_end tr, nd))
    else kAbort N f ob (tr_end tr) nd ad (aS e 1))
def sn (fi : Nat) : Nat := 7 - fi / 2 % 8
def kWSeg (N : Int32) (f : Nat → Int32) (ob : OB) (tr : TR) (nd : ND) (fi x e d ad : Nat) : ST4 :=
  if nI (sF tr fi 1) = 0 then
    (if sn fi ≤ xZ e - d then
      (if nI fi &&& 1 = 0 then (f, kAns N ob (32 + fi / 16 % 2 * 16) 0 0, tr_next (tr_add tr d (sn fi) x), nd)
       else if nI (xZ e - (d + sn fi)) ≤ 0 then
        (if nI (stF nd.1 f e (sm (tr_add tr d (sn fi) x).1 0 (min (d + sn fi) 4))) = 0 then (fSto f (tr_add tr d (sn fi) x).1 e, kAns N ob (32 + fi / 16 % 2 * 16) 0 0, tr_end (tr_add tr d (sn fi) x), nSto e nd)
         else kAbort N f ob (tr_add tr d (sn fi) x) nd ad (stF nd.1 f e (sm (tr_add tr d (sn fi) x).1 0 (min (d + sn fi) 4))))
       else kAbort N f ob (tr_add tr d (sn fi) x) nd ad 101122067)
    else kAbort N f ob tr nd ad 101122066)
  else kAbort N f ob tr nd ad (sF tr fi 1)
def rc (e d : Nat) : Nat := min 7 (xZ e - d)
def rx (f : Nat → Int32) (fi e d : Nat) (b : Nat) : Nat := sm f (xP e + d) (rc e d) * 256 + (fi / 16 % 2 * 16 + 2 * (7 - rc e d) + b)
def trR (tr : TR) (e d : Nat) : TR := (tr.1, tr.2.1, tr.2.2.1, tr.2.2.2.1, tr.2.2.2.2.1, nI (d + rc e d), tr.2.2.2.2.2.2.1, tr.2.2.2.2.2.2.2)
def kRSeg (N : Int32) (f : Nat → Int32) (ob : OB) (tr : TR) (nd : ND) (fi e d ad : Nat) : ST4 :=
  if nI (sF tr fi 0) = 0 then
    (if nI (xZ e - (d + rc e d)) = 0 then (f, ob_send ob (1408 + N) 8 (rx f fi e d 1), tr_end (trR tr e d), nd)
     else (f, ob_send ob (1408 + N) 8 (rx f fi e d 0), tr_next (trR tr e d), nd))
  else kAbort N f ob tr nd ad (sF tr fi 0)
def kReq (N : Int32) (f : Nat → Int32) (ob : OB) (tr : TR) (nd : ND) (lo hg e d ad : Nat) : ST4 :=
  if lo % 256 / 32 = 0 then kWSeg N f ob tr nd (lo % 256) ((lo + 4294967296 * hg) / 256) e d ad
  else if lo % 256 / 32 = 1 then kWrite N f ob tr nd (lo % 256) (lo / 256) hg
  else if lo % 256 / 32 = 2 then kRead N f ob tr nd (lo / 256)
  else if lo % 256 / 32 = 3 then kRSeg N f ob tr nd (lo % 256) e d ad
  else if lo % 256 / 32 = 4 then (f, ob, tr_end tr, nd)
  else kAbort N f ob tr nd (lo / 256) 84148225
def c4 (a : Nat → Nat) (cA : ClassId) (N : Int32) (u : ST4) : va_W := cw a cA N u.1 u.2.1 u.2.2.1 u.2.2.2
theorem lF_at {fi z : Nat} {hg : Int32} (hz : z ≤ 20) (h : nI (lF fi hg z) = 0) (h2 : ¬ nI fi &&& 2 = 0) : z ≤ 4 := by
  unfold lF at h
  split at h
  · rename_i h3
    split at h
    · rename_i h4
      unfold lenOf at h4
      rw [if_neg h2] at h4
      split at h4
      · split at h4
        · exact (nI_leI (a := z) (b := 4) (by omega) (by decide)).mp h4
        · rename_i h5
          have h6 : ¬ 4 < z := fun q => h5 (nI_lt (a := 4) q (by omega))
          omega
      · refine (by decide +kernel : ∀ z, z ≤ 20 → ∀ q, q < 4 → nI z ≤ (4 : Int32) - nI q → z ≤ 4) z hz ((nI fi >>> ((2 : Int32) &&& 31)).toBitVec.toNat % 4) (Nat.mod_lt _ (by decide)) ?_
        rw [pk_and _ (m := 3) 2 (by decide)] at h4
        exact h4
    · exact absurd h (by decide)
  · exact absurd h (by decide)
theorem rx_or {s b : Nat} (hs : s < 2 ^ 56) (hb : b < 256) : lN s <<< ((8 : Int32).toInt64 &&& 63) ||| (nI b).toInt64 = lN (s * 256 + b) := by
  rw [show (8 : Int32) = nI 8 from rfl, wb_shl s (by decide), nI_l (by omega), g_or (k := 8) rfl (by omega) (by omega)]
theorem hd16 {fi c : Nat} (hf : fi < 256) (hc : c ≤ 7) : (nI fi &&& 16) + 2 * (7 - nI c) = nI (fi / 16 % 2 * 16 + 2 * (7 - c)) := by
  rw [a16 fi hf, show (7 : Int32) - nI c = nI (7 - c) from pk_sub (a := 7) hc, show (2 : Int32) * nI (7 - c) = nI (2 * (7 - c)) from pk_mul 2 _, nI_add]
end
section
theorem owT1 : ∀ e, e < 22 → 3 ≤ e → e ≤ 7 → (if nI e < 3 then (0 : Int32) else if 7 < nI e then 0 else 1) = 1 := by decide +kernel
theorem owT0 : ∀ e, e < 22 → (e < 3 ∨ 7 < e) → (if nI e < 3 then (0 : Int32) else if 7 < nI e then 0 else 1) = 0 := by decide +kernel
theorem owG1 : ∀ e, e < 22 → 9 ≤ e → e ≤ 13 → (if nI e < 9 then (0 : Int32) else if 13 < nI e then 0 else 1) = 1 := by decide +kernel
theorem owG0 : ∀ e, e < 22 → (e < 9 ∨ 13 < e) → (if nI e < 9 then (0 : Int32) else if 13 < nI e then 0 else 1) = 0 := by decide +kernel
set_option maxHeartbeats 4000000 in
set_option maxRecDepth 100000 in
theorem c_cmdOn (l : Launch) (D : va_G) (a : Nat → Nat) (cA : ClassId) (N : Int32) (f : Nat → Int32) (ob : OB) (tr : TR) (nd : ND) (sz : Nat) (wh wo : Nat) (hB : isB f) (hG : mapK f 9 5) (ho : obK ob) (hwh : wh < 256) (hon : nI wo = 0 ∨ nI wo = N) : Met l yX4_command (wX4_command :: wb) ({ frames := 4, cells := 0, slots := 0, locals := 95 } : Room) (va_Pc [.ref (a 0), .int (nI wh), .int (nI wo)] (zPre D [(cA, .int)] (cw a cA N f ob tr nd) sz)) (zb_Vv D vwCl (c4 a cA N (kCmd N f ob tr nd wh)) (va_A (cw a cA N f ob tr nd) sz)) 0 0 (va_A (cw a cA N f ob tr nd) sz) := by
  refine Met.ofW (cc := cX4_command) (maxL := 3) (ret := none) (by decide) rfl ?_
  intro p ev s m args below meth c s₁ B hml hv
  obtain ⟨rfl, hsz, hP, hK, hD0, hSt, hnw⟩ := hv
  have hx := B.exec
  have hb := B.bytes
  have hr := B.returns
  have hts := atoms_spec (ws := wX4_command :: wb) B.pre
  have htb : ∀ w ∈ wb, w.before ([.ref (a 0), .int (nI wh), .int (nI wo)]).toArray s = true := fun w h => hts w (List.mem_cons_of_mem _ h)
  have hown : s.vm.findClass RX4 = some m.cls := findClass_of_methodNamed B.named
  have hlocks := B.notSynchronized
  subst hsz
  have hD := hD0.self (sz := s.heap.size)
  clear hD0
  generalize hAe : va_A (cw a cA N f ob tr nd) s.heap.size = A at hD hSt ⊢
  have hA : ∀ q : Nat, s.heap.size ≤ q → A q := fun q h => by rw [← hAe]; exact Or.inr h
  have hS : va_S A s.heap s.heap [] := va_S.rf
  obtain ⟨⟨tt, ff, hZT, hTT, hZF, hTF⟩, hXS⟩ := id hSt
  have hl := lv_entry ([.ref (a 0), .int (nI wh), .int (nI wo)]) (n := 3) (Nat.le_of_ble_eq_true rfl)
  rw [lg_entry_eq]
  generalize (lg_sl ([.ref (a 0), .int (nI wh), .int (nI wo)]) ++ List.replicate (3 - (lg_sl ([.ref (a 0), .int (nI wh), .int (nI wo)])).length) Slot.unset).toArray = ls at hl ⊢
  have hl : lv_has ls 3 [(0, .ref (a 0)), (1, .int (nI wh)), (2, .int (nI wo))] := hl
  refine zb_abs (fun Q hQ => ?_)
  refine lv_iload_n hx hb dX4_command_0 rfl (lv_at hl 2 rfl) ?_
  refine lv_if_eq (tgt := 13) hx hb dX4_command_1 (by decide) (fun hc1 => ?_) (fun hc1 => ?_)
  · refine lv_iload_n hx hb dX4_command_13 rfl (lv_at hl 1 rfl) ?_
    by_cases hc2 : wh = 1
    · refine lv_lookup (off := 50) (tgt := 64) hx hb dX4_command_14 (by decide) (by rw [hc2]; decide) (by decide) ?_
      refine lv_aload_n hx hb dX4_command_64 rfl (lv_at hl 0 rfl) ?_
      refine zb_cv (va_runV (As := []) (rest := []) ⟨hx, hb, hml, hown, htb⟩ (c_run l D a cA N f ob tr nd _ hB hG) (cwV 0 htb (wb_V kM_X4_148 kI_X4_run kS_X4_run kN_X4 kD_X4_run) rfl rfl rfl (by decide +kernel) ⟨Nat.le_of_ble_eq_true rfl, Nat.le_of_ble_eq_true rfl⟩) (zp_VW 0 rfl rfl hP hD hK hSt hS hA hnw) rfl rfl hl.1 rfl (lv_room (Nat.le_of_ble_eq_true rfl)) dX4_command_65 ⟨Nat.le_of_ble_eq_true rfl, Nat.le_of_ble_eq_true rfl⟩) hD hS hA (fun H locs hP hD hS => ?_)
      have hP : va_P D vwCl (cw a cA N f ob tr (nRun f nd)) H := hP
      have hD : va_D A (cw a cA N f ob tr (nRun f nd)) := hD
      refine lv_goto (tgt := 123) hx hb dX4_command_68 (by decide) ?_
      rw [hQ]
      have hw9 : (cw a cA N f ob tr (nRun f nd)) = (c4 a cA N (kCmd N f ob tr nd wh)) := by rw [hc2]; rfl
      exact W.vret hx hb hr (fun t ht hW => ⟨rfl, by rw [ht, ← hw9]; exact hP, by rw [← hw9]; exact hD, hS.F ht⟩) hS.2.2 dX4_command_123
    by_cases hc3 : wh = 2
    · refine lv_lookup (off := 57) (tgt := 71) hx hb dX4_command_14 (by decide) (by rw [hc3]; decide) (by decide) ?_
      refine lv_aload_n hx hb dX4_command_71 rfl (lv_at hl 0 rfl) ?_
      refine lv_iconst (v := 4) hx hb dX4_command_72 (by decide) ?_
      refine va_put (D := D) (ci := 4) (v := .int 4) (fs := [.int N, .ref (a 1), .ref (a 3), .ref (a 4), .ref (a 5), .ref (a 7), .int nd.1, .int nd.2.1, .int nd.2.2.1, .long nd.2.2.2]) (ty := .int) (C := RX4) (T := TX4) (N := 10) hx hb htb inX4 tyX4 tyX4_ok nmX4 hown hK hP hD hS 0 rfl rfl 6 (by decide) (htb _ kF_X4_79) (fun _ h9 => h9) rfl (by decide +kernel) rfl rfl (Nat.le_of_ble_eq_true rfl) dX4_command_73 (fun H locs hP hD hS => ?_)
      have hP : va_P D vwCl (cw a cA N f ob tr (4, nd.2.1, nd.2.2.1, nd.2.2.2)) H := hP
      have hD : va_D A (cw a cA N f ob tr (4, nd.2.1, nd.2.2.1, nd.2.2.2)) := hD
      refine lv_aload_n hx hb dX4_command_76 rfl (lv_at hl 0 rfl) ?_
      refine va_get (D := D) (ci := 4) (v := .ref (a 7)) (fs := [.int N, .ref (a 1), .ref (a 3), .ref (a 4), .ref (a 5), .ref (a 7), .int 4, .int nd.2.1, .int nd.2.2.1, .long nd.2.2.2]) (C := RX4) (T := TX4) (N := 10) hx hb htb inX4 hown hK hP 0 rfl rfl 5 (by decide) (htb _ kF_X4_51) (fun _ h9 => h9) rfl dX4_command_77 ?_
      refine zb_cv (va_runV (As := []) (rest := []) ⟨hx, hb, hml, hown, htb⟩ (c_trEnd l D a cA N f ob tr (4, nd.2.1, nd.2.2.1, nd.2.2.2) _ ) (cwV 0 htb (wb_V kM_X4_132 kI_X3_end kS_X3_end kN_X3 kD_X3_end) rfl rfl rfl (by decide +kernel) ⟨Nat.le_of_ble_eq_true rfl, Nat.le_of_ble_eq_true rfl⟩) (zp_VW 7 rfl rfl hP hD hK hSt hS hA hnw) rfl rfl hl.1 rfl (lv_room (Nat.le_of_ble_eq_true rfl)) dX4_command_80 ⟨Nat.le_of_ble_eq_true rfl, Nat.le_of_ble_eq_true rfl⟩) hD hS hA (fun H locs hP hD hS => ?_)
      have hP : va_P D vwCl (cw a cA N f ob (tr_end tr) (4, nd.2.1, nd.2.2.1, nd.2.2.2)) H := hP
      have hD : va_D A (cw a cA N f ob (tr_end tr) (4, nd.2.1, nd.2.2.1, nd.2.2.2)) := hD
      refine lv_goto (tgt := 123) hx hb dX4_command_83 (by decide) ?_
      rw [hQ]
      have hw9 : (cw a cA N f ob (tr_end tr) (4, nd.2.1, nd.2.2.1, nd.2.2.2)) = (c4 a cA N (kCmd N f ob tr nd wh)) := by rw [hc3]; rfl
      exact W.vret hx hb hr (fun t ht hW => ⟨rfl, by rw [ht, ← hw9]; exact hP, by rw [← hw9]; exact hD, hS.F ht⟩) hS.2.2 dX4_command_123
    by_cases hc4 : wh = 128
    · refine lv_lookup (off := 72) (tgt := 86) hx hb dX4_command_14 (by decide) (by rw [hc4]; decide) (by decide) ?_
      refine lv_aload_n hx hb dX4_command_86 rfl (lv_at hl 0 rfl) ?_
      refine lv_bipush (v := 127) hx hb dX4_command_87 (by decide) ?_
      refine va_put (D := D) (ci := 4) (v := .int 127) (fs := [.int N, .ref (a 1), .ref (a 3), .ref (a 4), .ref (a 5), .ref (a 7), .int nd.1, .int nd.2.1, .int nd.2.2.1, .long nd.2.2.2]) (ty := .int) (C := RX4) (T := TX4) (N := 10) hx hb htb inX4 tyX4 tyX4_ok nmX4 hown hK hP hD hS 0 rfl rfl 6 (by decide) (htb _ kF_X4_79) (fun _ h9 => h9) rfl (by decide +kernel) rfl rfl (Nat.le_of_ble_eq_true rfl) dX4_command_89 (fun H locs hP hD hS => ?_)
      have hP : va_P D vwCl (cw a cA N f ob tr (127, nd.2.1, nd.2.2.1, nd.2.2.2)) H := hP
      have hD : va_D A (cw a cA N f ob tr (127, nd.2.1, nd.2.2.1, nd.2.2.2)) := hD
      refine lv_goto (tgt := 123) hx hb dX4_command_92 (by decide) ?_
      rw [hQ]
      have hw9 : (cw a cA N f ob tr (127, nd.2.1, nd.2.2.1, nd.2.2.2)) = (c4 a cA N (kCmd N f ob tr nd wh)) := by rw [hc4]; rfl
      exact W.vret hx hb hr (fun t ht hW => ⟨rfl, by rw [ht, ← hw9]; exact hP, by rw [← hw9]; exact hD, hS.F ht⟩) hS.2.2 dX4_command_123
    by_cases hc5 : wh = 129
    · refine lv_lookup (off := 81) (tgt := 95) hx hb dX4_command_14 (by decide) (by rw [hc5]; decide) (by decide) ?_
      refine lv_aload_n hx hb dX4_command_95 rfl (lv_at hl 0 rfl) ?_
      refine va_get (D := D) (ci := 4) (v := .ref (a 1)) (fs := [.int N, .ref (a 1), .ref (a 3), .ref (a 4), .ref (a 5), .ref (a 7), .int nd.1, .int nd.2.1, .int nd.2.2.1, .long nd.2.2.2]) (C := RX4) (T := TX4) (N := 10) hx hb htb inX4 hown hK hP 0 rfl rfl 1 (by decide) (htb _ kF_X4_25) (fun _ h9 => h9) rfl dX4_command_96 ?_
      refine zb_cv (va_runV (As := []) (rest := []) ⟨hx, hb, hml, hown, htb⟩ (c_resetAll l D a cA N f ob tr nd _) (cwV 0 htb (wb_V kM_X4_151 kI_X0_resetAll kS_X0_resetAll kN_X0 kD_X0_resetAll) rfl rfl rfl (by decide +kernel) ⟨Nat.le_of_ble_eq_true rfl, Nat.le_of_ble_eq_true rfl⟩) (zp_VW 1 rfl rfl hP hD hK hSt hS hA hnw) rfl rfl hl.1 rfl (lv_room (Nat.le_of_ble_eq_true rfl)) dX4_command_99 ⟨Nat.le_of_ble_eq_true rfl, Nat.le_of_ble_eq_true rfl⟩) hD hS hA (fun H locs hP hD hS => ?_)
      have hP : va_P D vwCl (cw a cA N (va_cpy tF f 0 0 95) ob tr nd) H := hP
      have hD : va_D A (cw a cA N (va_cpy tF f 0 0 95) ob tr nd) := hD
      refine lv_aload_n hx hb dX4_command_102 rfl (lv_at hl 0 rfl) ?_
      refine zb_cv (va_runV (As := []) (rest := []) ⟨hx, hb, hml, hown, htb⟩ (c_boot l D a cA N (va_cpy tF f 0 0 95) ob tr nd _ ho) (cwV 0 htb (wb_V kM_X4_55 kI_X4_boot kS_X4_boot kN_X4 kD_X4_boot) rfl rfl rfl (by decide +kernel) ⟨Nat.le_of_ble_eq_true rfl, Nat.le_of_ble_eq_true rfl⟩) (zp_VW 0 rfl rfl hP hD hK hSt hS hA hnw) rfl rfl hl.1 rfl (lv_room (Nat.le_of_ble_eq_true rfl)) dX4_command_103 ⟨Nat.le_of_ble_eq_true rfl, Nat.le_of_ble_eq_true rfl⟩) hD hS hA (fun H locs hP hD hS => ?_)
      have hP : va_P D vwCl (cw a cA N (va_cpy tF f 0 0 95) (kBoot N ob) (tr_end tr) (nBoot nd)) H := hP
      have hD : va_D A (cw a cA N (va_cpy tF f 0 0 95) (kBoot N ob) (tr_end tr) (nBoot nd)) := hD
      refine lv_goto (tgt := 123) hx hb dX4_command_106 (by decide) ?_
      rw [hQ]
      have hw9 : (cw a cA N (va_cpy tF f 0 0 95) (kBoot N ob) (tr_end tr) (nBoot nd)) = (c4 a cA N (kCmd N f ob tr nd wh)) := by rw [hc5]; rfl
      exact W.vret hx hb hr (fun t ht hW => ⟨rfl, by rw [ht, ← hw9]; exact hP, by rw [← hw9]; exact hD, hS.F ht⟩) hS.2.2 dX4_command_123
    by_cases hc6 : wh = 130
    · refine lv_lookup (off := 95) (tgt := 109) hx hb dX4_command_14 (by decide) (by rw [hc6]; decide) (by decide) ?_
      refine lv_aload_n hx hb dX4_command_109 rfl (lv_at hl 0 rfl) ?_
      refine va_get (D := D) (ci := 4) (v := .ref (a 1)) (fs := [.int N, .ref (a 1), .ref (a 3), .ref (a 4), .ref (a 5), .ref (a 7), .int nd.1, .int nd.2.1, .int nd.2.2.1, .long nd.2.2.2]) (C := RX4) (T := TX4) (N := 10) hx hb htb inX4 hown hK hP 0 rfl rfl 1 (by decide) (htb _ kF_X4_25) (fun _ h9 => h9) rfl dX4_command_110 ?_
      refine zb_cv (va_runV (As := []) (rest := []) ⟨hx, hb, hml, hown, htb⟩ (c_resetOwn l D a cA N f ob tr nd _) (cwV 0 htb (wb_V kM_X4_154 kI_X0_resetOwn kS_X0_resetOwn kN_X0 kD_X0_resetOwn) rfl rfl rfl (by decide +kernel) ⟨Nat.le_of_ble_eq_true rfl, Nat.le_of_ble_eq_true rfl⟩) (zp_VW 1 rfl rfl hP hD hK hSt hS hA hnw) rfl rfl hl.1 rfl (lv_room (Nat.le_of_ble_eq_true rfl)) dX4_command_113 ⟨Nat.le_of_ble_eq_true rfl, Nat.le_of_ble_eq_true rfl⟩) hD hS hA (fun H locs hP hD hS => ?_)
      have hP : va_P D vwCl (cw a cA N (va_cpy tF f 0 0 42) ob tr nd) H := hP
      have hD : va_D A (cw a cA N (va_cpy tF f 0 0 42) ob tr nd) := hD
      refine lv_aload_n hx hb dX4_command_116 rfl (lv_at hl 0 rfl) ?_
      refine zb_cv (va_runV (As := []) (rest := []) ⟨hx, hb, hml, hown, htb⟩ (c_boot l D a cA N (va_cpy tF f 0 0 42) ob tr nd _ ho) (cwV 0 htb (wb_V kM_X4_55 kI_X4_boot kS_X4_boot kN_X4 kD_X4_boot) rfl rfl rfl (by decide +kernel) ⟨Nat.le_of_ble_eq_true rfl, Nat.le_of_ble_eq_true rfl⟩) (zp_VW 0 rfl rfl hP hD hK hSt hS hA hnw) rfl rfl hl.1 rfl (lv_room (Nat.le_of_ble_eq_true rfl)) dX4_command_117 ⟨Nat.le_of_ble_eq_true rfl, Nat.le_of_ble_eq_true rfl⟩) hD hS hA (fun H locs hP hD hS => ?_)
      have hP : va_P D vwCl (cw a cA N (va_cpy tF f 0 0 42) (kBoot N ob) (tr_end tr) (nBoot nd)) H := hP
      have hD : va_D A (cw a cA N (va_cpy tF f 0 0 42) (kBoot N ob) (tr_end tr) (nBoot nd)) := hD
      refine lv_goto (tgt := 123) hx hb dX4_command_120 (by decide) ?_
      rw [hQ]
      have hw9 : (cw a cA N (va_cpy tF f 0 0 42) (kBoot N ob) (tr_end tr) (nBoot nd)) = (c4 a cA N (kCmd N f ob tr nd wh)) := by rw [hc6]; rfl
      exact W.vret hx hb hr (fun t ht hW => ⟨rfl, by rw [ht, ← hw9]; exact hP, by rw [← hw9]; exact hD, hS.F ht⟩) hS.2.2 dX4_command_123
    refine lv_lookup (off := 109) (tgt := 123) hx hb dX4_command_14 (by decide) (by show Op.lookupswitch.offset [(1, 50), (2, 57), (128, 72), (129, 81), (130, 95)] 109 _ = _; rw [lv_osw (a := 1) (k := 1) (fun h => hc2 ((nI_eq (b := 1) (by omega) (by decide)).mp h)) rfl, lv_osw (a := 2) (k := 2) (fun h => hc3 ((nI_eq (b := 2) (by omega) (by decide)).mp h)) rfl, lv_osw (a := 128) (k := 128) (fun h => hc4 ((nI_eq (b := 128) (by omega) (by decide)).mp h)) rfl, lv_osw (a := 129) (k := 129) (fun h => hc5 ((nI_eq (b := 129) (by omega) (by decide)).mp h)) rfl, lv_osw (a := 130) (k := 130) (fun h => hc6 ((nI_eq (b := 130) (by omega) (by decide)).mp h)) rfl]; rfl) (by decide) ?_
    rw [hQ]
    have hw9 : (cw a cA N f ob tr nd) = (c4 a cA N (kCmd N f ob tr nd wh)) := by simp only [kCmd, if_neg hc2, if_neg hc3, if_neg hc4, if_neg hc5, if_neg hc6]; rfl
    exact W.vret hx hb hr (fun t ht hW => ⟨rfl, by rw [ht, ← hw9]; exact hP, by rw [← hw9]; exact hD, hS.F ht⟩) hS.2.2 dX4_command_123
  refine lv_iload_n hx hb dX4_command_4 rfl (lv_at hl 2 rfl) ?_
  refine lv_aload_n hx hb dX4_command_5 rfl (lv_at hl 0 rfl) ?_
  refine va_get (D := D) (ci := 4) (v := .int N) (fs := [.int N, .ref (a 1), .ref (a 3), .ref (a 4), .ref (a 5), .ref (a 7), .int nd.1, .int nd.2.1, .int nd.2.2.1, .long nd.2.2.2]) (C := RX4) (T := TX4) (N := 10) hx hb htb inX4 hown hK hP 0 rfl rfl 0 (by decide) (htb _ kF_X4_16) (fun _ h9 => h9) rfl dX4_command_6 ?_
  refine lv_icmp_eq (tgt := 13) hx hb dX4_command_9 (by decide) (fun _ => ?_) (fun hno => absurd (hon.resolve_left hc1) hno)
  refine lv_iload_n hx hb dX4_command_13 rfl (lv_at hl 1 rfl) ?_
  by_cases hc7 : wh = 1
  · refine lv_lookup (off := 50) (tgt := 64) hx hb dX4_command_14 (by decide) (by rw [hc7]; decide) (by decide) ?_
    refine lv_aload_n hx hb dX4_command_64 rfl (lv_at hl 0 rfl) ?_
    refine zb_cv (va_runV (As := []) (rest := []) ⟨hx, hb, hml, hown, htb⟩ (c_run l D a cA N f ob tr nd _ hB hG) (cwV 0 htb (wb_V kM_X4_148 kI_X4_run kS_X4_run kN_X4 kD_X4_run) rfl rfl rfl (by decide +kernel) ⟨Nat.le_of_ble_eq_true rfl, Nat.le_of_ble_eq_true rfl⟩) (zp_VW 0 rfl rfl hP hD hK hSt hS hA hnw) rfl rfl hl.1 rfl (lv_room (Nat.le_of_ble_eq_true rfl)) dX4_command_65 ⟨Nat.le_of_ble_eq_true rfl, Nat.le_of_ble_eq_true rfl⟩) hD hS hA (fun H locs hP hD hS => ?_)
    have hP : va_P D vwCl (cw a cA N f ob tr (nRun f nd)) H := hP
    have hD : va_D A (cw a cA N f ob tr (nRun f nd)) := hD
    refine lv_goto (tgt := 123) hx hb dX4_command_68 (by decide) ?_
    rw [hQ]
    have hw9 : (cw a cA N f ob tr (nRun f nd)) = (c4 a cA N (kCmd N f ob tr nd wh)) := by rw [hc7]; rfl
    exact W.vret hx hb hr (fun t ht hW => ⟨rfl, by rw [ht, ← hw9]; exact hP, by rw [← hw9]; exact hD, hS.F ht⟩) hS.2.2 dX4_command_123
  by_cases hc8 : wh = 2
  · refine lv_lookup (off := 57) (tgt := 71) hx hb dX4_command_14 (by decide) (by rw [hc8]; decide) (by decide) ?_
    refine lv_aload_n hx hb dX4_command_71 rfl (lv_at hl 0 rfl) ?_
    refine lv_iconst (v := 4) hx hb dX4_command_72 (by decide) ?_
    refine va_put (D := D) (ci := 4) (v := .int 4) (fs := [.int N, .ref (a 1), .ref (a 3), .ref (a 4), .ref (a 5), .ref (a 7), .int nd.1, .int nd.2.1, .int nd.2.2.1, .long nd.2.2.2]) (ty := .int) (C := RX4) (T := TX4) (N := 10) hx hb htb inX4 tyX4 tyX4_ok nmX4 hown hK hP hD hS 0 rfl rfl 6 (by decide) (htb _ kF_X4_79) (fun _ h9 => h9) rfl (by decide +kernel) rfl rfl (Nat.le_of_ble_eq_true rfl) dX4_command_73 (fun H locs hP hD hS => ?_)
    have hP : va_P D vwCl (cw a cA N f ob tr (4, nd.2.1, nd.2.2.1, nd.2.2.2)) H := hP
    have hD : va_D A (cw a cA N f ob tr (4, nd.2.1, nd.2.2.1, nd.2.2.2)) := hD
    refine lv_aload_n hx hb dX4_command_76 rfl (lv_at hl 0 rfl) ?_
    refine va_get (D := D) (ci := 4) (v := .ref (a 7)) (fs := [.int N, .ref (a 1), .ref (a 3), .ref (a 4), .ref (a 5), .ref (a 7), .int 4, .int nd.2.1, .int nd.2.2.1, .long nd.2.2.2]) (C := RX4) (T := TX4) (N := 10) hx hb htb inX4 hown hK hP 0 rfl rfl 5 (by decide) (htb _ kF_X4_51) (fun _ h9 => h9) rfl dX4_command_77 ?_
    refine zb_cv (va_runV (As := []) (rest := []) ⟨hx, hb, hml, hown, htb⟩ (c_trEnd l D a cA N f ob tr (4, nd.2.1, nd.2.2.1, nd.2.2.2) _ ) (cwV 0 htb (wb_V kM_X4_132 kI_X3_end kS_X3_end kN_X3 kD_X3_end) rfl rfl rfl (by decide +kernel) ⟨Nat.le_of_ble_eq_true rfl, Nat.le_of_ble_eq_true rfl⟩) (zp_VW 7 rfl rfl hP hD hK hSt hS hA hnw) rfl rfl hl.1 rfl (lv_room (Nat.le_of_ble_eq_true rfl)) dX4_command_80 ⟨Nat.le_of_ble_eq_true rfl, Nat.le_of_ble_eq_true rfl⟩) hD hS hA (fun H locs hP hD hS => ?_)
    have hP : va_P D vwCl (cw a cA N f ob (tr_end tr) (4, nd.2.1, nd.2.2.1, nd.2.2.2)) H := hP
    have hD : va_D A (cw a cA N f ob (tr_end tr) (4, nd.2.1, nd.2.2.1, nd.2.2.2)) := hD
    refine lv_goto (tgt := 123) hx hb dX4_command_83 (by decide) ?_
    rw [hQ]
    have hw9 : (cw a cA N f ob (tr_end tr) (4, nd.2.1, nd.2.2.1, nd.2.2.2)) = (c4 a cA N (kCmd N f ob tr nd wh)) := by rw [hc8]; rfl
    exact W.vret hx hb hr (fun t ht hW => ⟨rfl, by rw [ht, ← hw9]; exact hP, by rw [← hw9]; exact hD, hS.F ht⟩) hS.2.2 dX4_command_123
  by_cases hc9 : wh = 128
  · refine lv_lookup (off := 72) (tgt := 86) hx hb dX4_command_14 (by decide) (by rw [hc9]; decide) (by decide) ?_
    refine lv_aload_n hx hb dX4_command_86 rfl (lv_at hl 0 rfl) ?_
    refine lv_bipush (v := 127) hx hb dX4_command_87 (by decide) ?_
    refine va_put (D := D) (ci := 4) (v := .int 127) (fs := [.int N, .ref (a 1), .ref (a 3), .ref (a 4), .ref (a 5), .ref (a 7), .int nd.1, .int nd.2.1, .int nd.2.2.1, .long nd.2.2.2]) (ty := .int) (C := RX4) (T := TX4) (N := 10) hx hb htb inX4 tyX4 tyX4_ok nmX4 hown hK hP hD hS 0 rfl rfl 6 (by decide) (htb _ kF_X4_79) (fun _ h9 => h9) rfl (by decide +kernel) rfl rfl (Nat.le_of_ble_eq_true rfl) dX4_command_89 (fun H locs hP hD hS => ?_)
    have hP : va_P D vwCl (cw a cA N f ob tr (127, nd.2.1, nd.2.2.1, nd.2.2.2)) H := hP
    have hD : va_D A (cw a cA N f ob tr (127, nd.2.1, nd.2.2.1, nd.2.2.2)) := hD
    refine lv_goto (tgt := 123) hx hb dX4_command_92 (by decide) ?_
    rw [hQ]
    have hw9 : (cw a cA N f ob tr (127, nd.2.1, nd.2.2.1, nd.2.2.2)) = (c4 a cA N (kCmd N f ob tr nd wh)) := by rw [hc9]; rfl
    exact W.vret hx hb hr (fun t ht hW => ⟨rfl, by rw [ht, ← hw9]; exact hP, by rw [← hw9]; exact hD, hS.F ht⟩) hS.2.2 dX4_command_123
  by_cases hc10 : wh = 129
  · refine lv_lookup (off := 81) (tgt := 95) hx hb dX4_command_14 (by decide) (by rw [hc10]; decide) (by decide) ?_
    refine lv_aload_n hx hb dX4_command_95 rfl (lv_at hl 0 rfl) ?_
    refine va_get (D := D) (ci := 4) (v := .ref (a 1)) (fs := [.int N, .ref (a 1), .ref (a 3), .ref (a 4), .ref (a 5), .ref (a 7), .int nd.1, .int nd.2.1, .int nd.2.2.1, .long nd.2.2.2]) (C := RX4) (T := TX4) (N := 10) hx hb htb inX4 hown hK hP 0 rfl rfl 1 (by decide) (htb _ kF_X4_25) (fun _ h9 => h9) rfl dX4_command_96 ?_
    refine zb_cv (va_runV (As := []) (rest := []) ⟨hx, hb, hml, hown, htb⟩ (c_resetAll l D a cA N f ob tr nd _) (cwV 0 htb (wb_V kM_X4_151 kI_X0_resetAll kS_X0_resetAll kN_X0 kD_X0_resetAll) rfl rfl rfl (by decide +kernel) ⟨Nat.le_of_ble_eq_true rfl, Nat.le_of_ble_eq_true rfl⟩) (zp_VW 1 rfl rfl hP hD hK hSt hS hA hnw) rfl rfl hl.1 rfl (lv_room (Nat.le_of_ble_eq_true rfl)) dX4_command_99 ⟨Nat.le_of_ble_eq_true rfl, Nat.le_of_ble_eq_true rfl⟩) hD hS hA (fun H locs hP hD hS => ?_)
    have hP : va_P D vwCl (cw a cA N (va_cpy tF f 0 0 95) ob tr nd) H := hP
    have hD : va_D A (cw a cA N (va_cpy tF f 0 0 95) ob tr nd) := hD
    refine lv_aload_n hx hb dX4_command_102 rfl (lv_at hl 0 rfl) ?_
    refine zb_cv (va_runV (As := []) (rest := []) ⟨hx, hb, hml, hown, htb⟩ (c_boot l D a cA N (va_cpy tF f 0 0 95) ob tr nd _ ho) (cwV 0 htb (wb_V kM_X4_55 kI_X4_boot kS_X4_boot kN_X4 kD_X4_boot) rfl rfl rfl (by decide +kernel) ⟨Nat.le_of_ble_eq_true rfl, Nat.le_of_ble_eq_true rfl⟩) (zp_VW 0 rfl rfl hP hD hK hSt hS hA hnw) rfl rfl hl.1 rfl (lv_room (Nat.le_of_ble_eq_true rfl)) dX4_command_103 ⟨Nat.le_of_ble_eq_true rfl, Nat.le_of_ble_eq_true rfl⟩) hD hS hA (fun H locs hP hD hS => ?_)
    have hP : va_P D vwCl (cw a cA N (va_cpy tF f 0 0 95) (kBoot N ob) (tr_end tr) (nBoot nd)) H := hP
    have hD : va_D A (cw a cA N (va_cpy tF f 0 0 95) (kBoot N ob) (tr_end tr) (nBoot nd)) := hD
    refine lv_goto (tgt := 123) hx hb dX4_command_106 (by decide) ?_
    rw [hQ]
    have hw9 : (cw a cA N (va_cpy tF f 0 0 95) (kBoot N ob) (tr_end tr) (nBoot nd)) = (c4 a cA N (kCmd N f ob tr nd wh)) := by rw [hc10]; rfl
    exact W.vret hx hb hr (fun t ht hW => ⟨rfl, by rw [ht, ← hw9]; exact hP, by rw [← hw9]; exact hD, hS.F ht⟩) hS.2.2 dX4_command_123
  by_cases hc11 : wh = 130
  · refine lv_lookup (off := 95) (tgt := 109) hx hb dX4_command_14 (by decide) (by rw [hc11]; decide) (by decide) ?_
    refine lv_aload_n hx hb dX4_command_109 rfl (lv_at hl 0 rfl) ?_
    refine va_get (D := D) (ci := 4) (v := .ref (a 1)) (fs := [.int N, .ref (a 1), .ref (a 3), .ref (a 4), .ref (a 5), .ref (a 7), .int nd.1, .int nd.2.1, .int nd.2.2.1, .long nd.2.2.2]) (C := RX4) (T := TX4) (N := 10) hx hb htb inX4 hown hK hP 0 rfl rfl 1 (by decide) (htb _ kF_X4_25) (fun _ h9 => h9) rfl dX4_command_110 ?_
    refine zb_cv (va_runV (As := []) (rest := []) ⟨hx, hb, hml, hown, htb⟩ (c_resetOwn l D a cA N f ob tr nd _) (cwV 0 htb (wb_V kM_X4_154 kI_X0_resetOwn kS_X0_resetOwn kN_X0 kD_X0_resetOwn) rfl rfl rfl (by decide +kernel) ⟨Nat.le_of_ble_eq_true rfl, Nat.le_of_ble_eq_true rfl⟩) (zp_VW 1 rfl rfl hP hD hK hSt hS hA hnw) rfl rfl hl.1 rfl (lv_room (Nat.le_of_ble_eq_true rfl)) dX4_command_113 ⟨Nat.le_of_ble_eq_true rfl, Nat.le_of_ble_eq_true rfl⟩) hD hS hA (fun H locs hP hD hS => ?_)
    have hP : va_P D vwCl (cw a cA N (va_cpy tF f 0 0 42) ob tr nd) H := hP
    have hD : va_D A (cw a cA N (va_cpy tF f 0 0 42) ob tr nd) := hD
    refine lv_aload_n hx hb dX4_command_116 rfl (lv_at hl 0 rfl) ?_
    refine zb_cv (va_runV (As := []) (rest := []) ⟨hx, hb, hml, hown, htb⟩ (c_boot l D a cA N (va_cpy tF f 0 0 42) ob tr nd _ ho) (cwV 0 htb (wb_V kM_X4_55 kI_X4_boot kS_X4_boot kN_X4 kD_X4_boot) rfl rfl rfl (by decide +kernel) ⟨Nat.le_of_ble_eq_true rfl, Nat.le_of_ble_eq_true rfl⟩) (zp_VW 0 rfl rfl hP hD hK hSt hS hA hnw) rfl rfl hl.1 rfl (lv_room (Nat.le_of_ble_eq_true rfl)) dX4_command_117 ⟨Nat.le_of_ble_eq_true rfl, Nat.le_of_ble_eq_true rfl⟩) hD hS hA (fun H locs hP hD hS => ?_)
    have hP : va_P D vwCl (cw a cA N (va_cpy tF f 0 0 42) (kBoot N ob) (tr_end tr) (nBoot nd)) H := hP
    have hD : va_D A (cw a cA N (va_cpy tF f 0 0 42) (kBoot N ob) (tr_end tr) (nBoot nd)) := hD
    refine lv_goto (tgt := 123) hx hb dX4_command_120 (by decide) ?_
    rw [hQ]
    have hw9 : (cw a cA N (va_cpy tF f 0 0 42) (kBoot N ob) (tr_end tr) (nBoot nd)) = (c4 a cA N (kCmd N f ob tr nd wh)) := by rw [hc11]; rfl
    exact W.vret hx hb hr (fun t ht hW => ⟨rfl, by rw [ht, ← hw9]; exact hP, by rw [← hw9]; exact hD, hS.F ht⟩) hS.2.2 dX4_command_123
  refine lv_lookup (off := 109) (tgt := 123) hx hb dX4_command_14 (by decide) (by show Op.lookupswitch.offset [(1, 50), (2, 57), (128, 72), (129, 81), (130, 95)] 109 _ = _; rw [lv_osw (a := 1) (k := 1) (fun h => hc7 ((nI_eq (b := 1) (by omega) (by decide)).mp h)) rfl, lv_osw (a := 2) (k := 2) (fun h => hc8 ((nI_eq (b := 2) (by omega) (by decide)).mp h)) rfl, lv_osw (a := 128) (k := 128) (fun h => hc9 ((nI_eq (b := 128) (by omega) (by decide)).mp h)) rfl, lv_osw (a := 129) (k := 129) (fun h => hc10 ((nI_eq (b := 129) (by omega) (by decide)).mp h)) rfl, lv_osw (a := 130) (k := 130) (fun h => hc11 ((nI_eq (b := 130) (by omega) (by decide)).mp h)) rfl]; rfl) (by decide) ?_
  rw [hQ]
  have hw9 : (cw a cA N f ob tr nd) = (c4 a cA N (kCmd N f ob tr nd wh)) := by simp only [kCmd, if_neg hc7, if_neg hc8, if_neg hc9, if_neg hc10, if_neg hc11]; rfl
  exact W.vret hx hb hr (fun t ht hW => ⟨rfl, by rw [ht, ← hw9]; exact hP, by rw [← hw9]; exact hD, hS.F ht⟩) hS.2.2 dX4_command_123
set_option maxHeartbeats 4000000 in
set_option maxRecDepth 100000 in
theorem c_cmdOff (l : Launch) (D : va_G) (a : Nat → Nat) (cA : ClassId) (N : Int32) (f : Nat → Int32) (ob : OB) (tr : TR) (nd : ND) (sz : Nat) (wh wo : Nat) (hof : ¬ (nI wo = 0 ∨ nI wo = N)) : Met l yX4_command (wX4_command :: wb) ({ frames := 4, cells := 0, slots := 0, locals := 95 } : Room) (va_Pc [.ref (a 0), .int (nI wh), .int (nI wo)] (zPre D [(cA, .int)] (cw a cA N f ob tr nd) sz)) (zb_Vv D vwCl (cw a cA N f ob tr nd) (va_A (cw a cA N f ob tr nd) sz)) 0 0 (va_A (cw a cA N f ob tr nd) sz) := by
  refine Met.ofW (cc := cX4_command) (maxL := 3) (ret := none) (by decide) rfl ?_
  intro p ev s m args below meth c s₁ B hml hv
  obtain ⟨rfl, hsz, hP, hK, hD0, hSt, hnw⟩ := hv
  have hx := B.exec
  have hb := B.bytes
  have hr := B.returns
  have hts := atoms_spec (ws := wX4_command :: wb) B.pre
  have htb : ∀ w ∈ wb, w.before ([.ref (a 0), .int (nI wh), .int (nI wo)]).toArray s = true := fun w h => hts w (List.mem_cons_of_mem _ h)
  have hown : s.vm.findClass RX4 = some m.cls := findClass_of_methodNamed B.named
  have hlocks := B.notSynchronized
  subst hsz
  have hD := hD0.self (sz := s.heap.size)
  clear hD0
  generalize hAe : va_A (cw a cA N f ob tr nd) s.heap.size = A at hD hSt ⊢
  have hA : ∀ q : Nat, s.heap.size ≤ q → A q := fun q h => by rw [← hAe]; exact Or.inr h
  have hS : va_S A s.heap s.heap [] := va_S.rf
  obtain ⟨⟨tt, ff, hZT, hTT, hZF, hTF⟩, hXS⟩ := id hSt
  have hl := lv_entry ([.ref (a 0), .int (nI wh), .int (nI wo)]) (n := 3) (Nat.le_of_ble_eq_true rfl)
  rw [lg_entry_eq]
  generalize (lg_sl ([.ref (a 0), .int (nI wh), .int (nI wo)]) ++ List.replicate (3 - (lg_sl ([.ref (a 0), .int (nI wh), .int (nI wo)])).length) Slot.unset).toArray = ls at hl ⊢
  have hl : lv_has ls 3 [(0, .ref (a 0)), (1, .int (nI wh)), (2, .int (nI wo))] := hl
  refine zb_abs (fun Q hQ => ?_)
  refine lv_iload_n hx hb dX4_command_0 rfl (lv_at hl 2 rfl) ?_
  refine lv_if_eq (tgt := 13) hx hb dX4_command_1 (by decide) (fun hno => absurd hno (fun h => hof (Or.inl h))) (fun _ => ?_)
  refine lv_iload_n hx hb dX4_command_4 rfl (lv_at hl 2 rfl) ?_
  refine lv_aload_n hx hb dX4_command_5 rfl (lv_at hl 0 rfl) ?_
  refine va_get (D := D) (ci := 4) (v := .int N) (fs := [.int N, .ref (a 1), .ref (a 3), .ref (a 4), .ref (a 5), .ref (a 7), .int nd.1, .int nd.2.1, .int nd.2.2.1, .long nd.2.2.2]) (C := RX4) (T := TX4) (N := 10) hx hb htb inX4 hown hK hP 0 rfl rfl 0 (by decide) (htb _ kF_X4_16) (fun _ h9 => h9) rfl dX4_command_6 ?_
  refine lv_icmp_eq (tgt := 13) hx hb dX4_command_9 (by decide) (fun hno => absurd hno (fun h => hof (Or.inr h))) (fun _ => ?_)
  rw [hQ]
  have hw9 : (cw a cA N f ob tr nd) = (cw a cA N f ob tr nd) := rfl
  exact W.vret hx hb hr (fun t ht hW => ⟨rfl, by rw [ht, ← hw9]; exact hP, by rw [← hw9]; exact hD, hS.F ht⟩) hS.2.2 dX4_command_12
set_option maxHeartbeats 4000000 in
set_option maxRecDepth 100000 in
theorem c_answer (l : Launch) (D : va_G) (a : Nat → Nat) (cA : ClassId) (N : Int32) (f : Nat → Int32) (ob : OB) (tr : TR) (nd : ND) (sz : Nat) (fi ad hg : Nat) (ho : obK ob) (hfi : fi < 256) (had : ad < 2 ^ 24) (hhg : hg < 2 ^ 32) : Met l yX4_answer (wX4_answer :: wb) ({ frames := 1, cells := 0, slots := 0, locals := 25 } : Room) (va_Pc [.ref (a 0), .int (nI fi), .int (nI ad), .int (nI hg)] (zPre D [(cA, .int)] (cw a cA N f ob tr nd) sz)) (zb_Vv D vwCl (cw a cA N f (kAns N ob fi ad hg) tr nd) (va_A (cw a cA N f ob tr nd) sz)) 0 0 (va_A (cw a cA N f ob tr nd) sz) := by
  refine Met.ofW (cc := cX4_answer) (maxL := 4) (ret := none) (by decide) rfl ?_
  intro p ev s m args below meth c s₁ B hml hv
  obtain ⟨rfl, hsz, hP, hK, hD0, hSt, hnw⟩ := hv
  have hx := B.exec
  have hb := B.bytes
  have hr := B.returns
  have hts := atoms_spec (ws := wX4_answer :: wb) B.pre
  have htb : ∀ w ∈ wb, w.before ([.ref (a 0), .int (nI fi), .int (nI ad), .int (nI hg)]).toArray s = true := fun w h => hts w (List.mem_cons_of_mem _ h)
  have hown : s.vm.findClass RX4 = some m.cls := findClass_of_methodNamed B.named
  have hlocks := B.notSynchronized
  subst hsz
  have hD := hD0.self (sz := s.heap.size)
  clear hD0
  generalize hAe : va_A (cw a cA N f ob tr nd) s.heap.size = A at hD hSt ⊢
  have hA : ∀ q : Nat, s.heap.size ≤ q → A q := fun q h => by rw [← hAe]; exact Or.inr h
  have hS : va_S A s.heap s.heap [] := va_S.rf
  obtain ⟨⟨tt, ff, hZT, hTT, hZF, hTF⟩, hXS⟩ := id hSt
  have hl := lv_entry ([.ref (a 0), .int (nI fi), .int (nI ad), .int (nI hg)]) (n := 4) (Nat.le_of_ble_eq_true rfl)
  rw [lg_entry_eq]
  generalize (lg_sl ([.ref (a 0), .int (nI fi), .int (nI ad), .int (nI hg)]) ++ List.replicate (4 - (lg_sl ([.ref (a 0), .int (nI fi), .int (nI ad), .int (nI hg)])).length) Slot.unset).toArray = ls at hl ⊢
  have hl : lv_has ls 4 [(0, .ref (a 0)), (1, .int (nI fi)), (2, .int (nI ad)), (3, .int (nI hg))] := hl
  refine zb_abs (fun Q hQ => ?_)
  obtain ⟨kp, hkp32, hkp⟩ := ho
  refine lv_aload_n hx hb dX4_answer_0 rfl (lv_at hl 0 rfl) ?_
  refine va_get (D := D) (ci := 4) (v := .ref (a 5)) (fs := [.int N, .ref (a 1), .ref (a 3), .ref (a 4), .ref (a 5), .ref (a 7), .int nd.1, .int nd.2.1, .int nd.2.2.1, .long nd.2.2.2]) (C := RX4) (T := TX4) (N := 10) hx hb htb inX4 hown hK hP 0 rfl rfl 4 (by decide) (htb _ kF_X4_44) (fun _ h9 => h9) rfl dX4_answer_1 ?_
  refine lv_sipush (v := 1408) hx hb dX4_answer_4 (by decide) ?_
  refine lv_aload_n hx hb dX4_answer_7 rfl (lv_at hl 0 rfl) ?_
  refine va_get (D := D) (ci := 4) (v := .int N) (fs := [.int N, .ref (a 1), .ref (a 3), .ref (a 4), .ref (a 5), .ref (a 7), .int nd.1, .int nd.2.1, .int nd.2.2.1, .long nd.2.2.2]) (C := RX4) (T := TX4) (N := 10) hx hb htb inX4 hown hK hP 0 rfl rfl 0 (by decide) (htb _ kF_X4_16) (fun _ h9 => h9) rfl dX4_answer_8 ?_
  refine lv_iadd hx hb dX4_answer_11 ?_
  refine lv_bipush (v := 8) hx hb dX4_answer_12 (by decide) ?_
  refine lv_iload_n hx hb dX4_answer_14 rfl (lv_at hl 2 rfl) ?_
  refine lv_bipush (v := 8) hx hb dX4_answer_15 (by decide) ?_
  refine lv_ishl hx hb dX4_answer_17 ?_
  refine lv_iload_n hx hb dX4_answer_18 rfl (lv_at hl 1 rfl) ?_
  refine lv_ior hx hb dX4_answer_19 ?_
  refine zb_ti (y := nI (ad * 256 + fi)) (lo8 had hfi) ?_
  refine lv_iload_n hx hb dX4_answer_20 rfl (lv_at hl 3 rfl) ?_
  refine zb_cl (va_runS (As := [.int (nI (ad * 256 + fi)), .int (nI hg)]) (rest := [.int 8, .int (1408 + N), .ref (a 5)]) ⟨hx, hb, hml, hown, htb⟩ (c_joined l D a cA N f ob tr nd (ad * 256 + fi) hg (by omega) hhg) (va_cwS 2 htb (wb_S kM_X4_71 kZ_X4_joined kN_X4 kD_X4_joined) rfl rfl rfl (by decide +kernel) ⟨Nat.le_of_ble_eq_true rfl, Nat.le_of_ble_eq_true rfl⟩) (zp_S hP hK hSt hS hnw) rfl rfl hl.1 rfl (lv_room (Nat.le_of_ble_eq_true rfl)) dX4_answer_21 ⟨Nat.le_of_ble_eq_true rfl, Nat.le_of_ble_eq_true rfl⟩) ?_
  refine zb_tl (y := lN (anX fi ad hg)) (rfl) ?_
  refine zb_cv (va_runV (As := [.int (1408 + N), .int 8, .long (lN (anX fi ad hg))]) (rest := []) ⟨hx, hb, hml, hown, htb⟩ (c_send l D a cA N f ob tr nd _ kp (1408 + N) 8 (anX fi ad hg) hkp hkp32 (by unfold anX; omega)) (cwV 3 htb (wb_V kM_X4_141 kI_X2_send kS_X2_send kN_X2 kD_X2_send) rfl rfl rfl (by decide +kernel) ⟨Nat.le_of_ble_eq_true rfl, Nat.le_of_ble_eq_true rfl⟩) (zp_VW 5 rfl rfl hP hD hK hSt hS hA hnw) rfl rfl hl.1 rfl (lv_room (Nat.le_of_ble_eq_true rfl)) dX4_answer_24 ⟨Nat.le_of_ble_eq_true rfl, Nat.le_of_ble_eq_true rfl⟩) hD hS hA (fun H locs hP hD hS => ?_)
  have hP : va_P D vwCl (cw a cA N f (ob_send ob (1408 + N) 8 (anX fi ad hg)) tr nd) H := hP
  have hD : va_D A (cw a cA N f (ob_send ob (1408 + N) 8 (anX fi ad hg)) tr nd) := hD
  rw [hQ]
  have hw9 : (cw a cA N f (ob_send ob (1408 + N) 8 (anX fi ad hg)) tr nd) = (cw a cA N f (kAns N ob fi ad hg) tr nd) := rfl
  exact W.vret hx hb hr (fun t ht hW => ⟨rfl, by rw [ht, ← hw9]; exact hP, by rw [← hw9]; exact hD, hS.F ht⟩) hS.2.2 dX4_answer_27
set_option maxHeartbeats 4000000 in
set_option maxRecDepth 100000 in
theorem c_abort (l : Launch) (D : va_G) (a : Nat → Nat) (cA : ClassId) (N : Int32) (f : Nat → Int32) (ob : OB) (tr : TR) (nd : ND) (sz : Nat) (ad cd : Nat) (ho : obK ob) (had : ad < 2 ^ 24) (hcd : cd < 2 ^ 32) : Met l yX4_abort (wX4_abort :: wb) ({ frames := 2, cells := 0, slots := 0, locals := 48 } : Room) (va_Pc [.ref (a 0), .int (nI ad), .int (nI cd)] (zPre D [(cA, .int)] (cw a cA N f ob tr nd) sz)) (zb_Vv D vwCl (cw a cA N f (kAns N ob 128 ad cd) (tr_end tr) nd) (va_A (cw a cA N f ob tr nd) sz)) 0 0 (va_A (cw a cA N f ob tr nd) sz) := by
  refine Met.ofW (cc := cX4_abort) (maxL := 3) (ret := none) (by decide) rfl ?_
  intro p ev s m args below meth c s₁ B hml hv
  obtain ⟨rfl, hsz, hP, hK, hD0, hSt, hnw⟩ := hv
  have hx := B.exec
  have hb := B.bytes
  have hr := B.returns
  have hts := atoms_spec (ws := wX4_abort :: wb) B.pre
  have htb : ∀ w ∈ wb, w.before ([.ref (a 0), .int (nI ad), .int (nI cd)]).toArray s = true := fun w h => hts w (List.mem_cons_of_mem _ h)
  have hown : s.vm.findClass RX4 = some m.cls := findClass_of_methodNamed B.named
  have hlocks := B.notSynchronized
  subst hsz
  have hD := hD0.self (sz := s.heap.size)
  clear hD0
  generalize hAe : va_A (cw a cA N f ob tr nd) s.heap.size = A at hD hSt ⊢
  have hA : ∀ q : Nat, s.heap.size ≤ q → A q := fun q h => by rw [← hAe]; exact Or.inr h
  have hS : va_S A s.heap s.heap [] := va_S.rf
  obtain ⟨⟨tt, ff, hZT, hTT, hZF, hTF⟩, hXS⟩ := id hSt
  have hl := lv_entry ([.ref (a 0), .int (nI ad), .int (nI cd)]) (n := 3) (Nat.le_of_ble_eq_true rfl)
  rw [lg_entry_eq]
  generalize (lg_sl ([.ref (a 0), .int (nI ad), .int (nI cd)]) ++ List.replicate (3 - (lg_sl ([.ref (a 0), .int (nI ad), .int (nI cd)])).length) Slot.unset).toArray = ls at hl ⊢
  have hl : lv_has ls 3 [(0, .ref (a 0)), (1, .int (nI ad)), (2, .int (nI cd))] := hl
  refine zb_abs (fun Q hQ => ?_)
  refine lv_aload_n hx hb dX4_abort_0 rfl (lv_at hl 0 rfl) ?_
  refine va_get (D := D) (ci := 4) (v := .ref (a 7)) (fs := [.int N, .ref (a 1), .ref (a 3), .ref (a 4), .ref (a 5), .ref (a 7), .int nd.1, .int nd.2.1, .int nd.2.2.1, .long nd.2.2.2]) (C := RX4) (T := TX4) (N := 10) hx hb htb inX4 hown hK hP 0 rfl rfl 5 (by decide) (htb _ kF_X4_51) (fun _ h9 => h9) rfl dX4_abort_1 ?_
  refine zb_cv (va_runV (As := []) (rest := []) ⟨hx, hb, hml, hown, htb⟩ (c_trEnd l D a cA N f ob tr nd _ ) (cwV 0 htb (wb_V kM_X4_132 kI_X3_end kS_X3_end kN_X3 kD_X3_end) rfl rfl rfl (by decide +kernel) ⟨Nat.le_of_ble_eq_true rfl, Nat.le_of_ble_eq_true rfl⟩) (zp_VW 7 rfl rfl hP hD hK hSt hS hA hnw) rfl rfl hl.1 rfl (lv_room (Nat.le_of_ble_eq_true rfl)) dX4_abort_4 ⟨Nat.le_of_ble_eq_true rfl, Nat.le_of_ble_eq_true rfl⟩) hD hS hA (fun H locs hP hD hS => ?_)
  have hP : va_P D vwCl (cw a cA N f ob (tr_end tr) nd) H := hP
  have hD : va_D A (cw a cA N f ob (tr_end tr) nd) := hD
  refine lv_aload_n hx hb dX4_abort_7 rfl (lv_at hl 0 rfl) ?_
  refine lv_sipush (v := 128) hx hb dX4_abort_8 (by decide) ?_
  refine lv_iload_n hx hb dX4_abort_11 rfl (lv_at hl 1 rfl) ?_
  refine lv_iload_n hx hb dX4_abort_12 rfl (lv_at hl 2 rfl) ?_
  refine zb_cv (va_runV (As := [.int 128, .int (nI ad), .int (nI cd)]) (rest := []) ⟨hx, hb, hml, hown, htb⟩ (c_answer l D a cA N f ob (tr_end tr) nd _ 128 ad cd ho (by decide) had hcd) (cwV 3 htb (wb_V kM_X4_223 kI_X4_answer kS_X4_answer kN_X4 kD_X4_answer) rfl rfl rfl (by decide +kernel) ⟨Nat.le_of_ble_eq_true rfl, Nat.le_of_ble_eq_true rfl⟩) (zp_VW 0 rfl rfl hP hD hK hSt hS hA hnw) rfl rfl hl.1 rfl (lv_room (Nat.le_of_ble_eq_true rfl)) dX4_abort_13 ⟨Nat.le_of_ble_eq_true rfl, Nat.le_of_ble_eq_true rfl⟩) hD hS hA (fun H locs hP hD hS => ?_)
  have hP : va_P D vwCl (cw a cA N f (kAns N ob 128 ad cd) (tr_end tr) nd) H := hP
  have hD : va_D A (cw a cA N f (kAns N ob 128 ad cd) (tr_end tr) nd) := hD
  rw [hQ]
  have hw9 : (cw a cA N f (kAns N ob 128 ad cd) (tr_end tr) nd) = (cw a cA N f (kAns N ob 128 ad cd) (tr_end tr) nd) := rfl
  exact W.vret hx hb hr (fun t ht hW => ⟨rfl, by rw [ht, ← hw9]; exact hP, by rw [← hw9]; exact hD, hS.F ht⟩) hS.2.2 dX4_abort_16
set_option maxHeartbeats 4000000 in
set_option maxRecDepth 100000 in
theorem c_entryAt (l : Launch) (D : va_G) (a : Nat → Nat) (cA : ClassId) (N : Int32) (f : Nat → Int32) (ob : OB) (tr : TR) (nd : ND) (ad : Nat) (had : ad < 2 ^ 24) : Met l yX4_entryAt (wX4_entryAt :: wb) ({ frames := 1, cells := 0, slots := 0, locals := 24 } : Room) (va_Pc [.ref (a 0), .int (nI ad)] (zPu D [(cA, .int)] (cw a cA N f ob tr nd))) (zb_I (oI (eAt ad))) 0 0 (fun _ => False) := by
  refine Met.ofW (cc := cX4_entryAt) (maxL := 2) (ret := (some .int)) (by decide) rfl ?_
  intro p ev s m args below meth c s₁ B hml hv
  obtain ⟨rfl, hP, hK, hSt, hnw⟩ := hv
  have hx := B.exec
  have hb := B.bytes
  have hr := B.returns
  have hts := atoms_spec (ws := wX4_entryAt :: wb) B.pre
  have htb : ∀ w ∈ wb, w.before ([.ref (a 0), .int (nI ad)]).toArray s = true := fun w h => hts w (List.mem_cons_of_mem _ h)
  have hown : s.vm.findClass RX4 = some m.cls := findClass_of_methodNamed B.named
  have hlocks := B.notSynchronized
  have hS : va_S (fun _ => False) s.heap s.heap [] := va_S.rf
  obtain ⟨⟨tt, ff, hZT, hTT, hZF, hTF⟩, hXS⟩ := id hSt
  have hl := lv_entry ([.ref (a 0), .int (nI ad)]) (n := 2) (Nat.le_of_ble_eq_true rfl)
  rw [lg_entry_eq]
  generalize (lg_sl ([.ref (a 0), .int (nI ad)]) ++ List.replicate (2 - (lg_sl ([.ref (a 0), .int (nI ad)])).length) Slot.unset).toArray = ls at hl ⊢
  have hl : lv_has ls 2 [(0, .ref (a 0)), (1, .int (nI ad))] := hl
  refine zb_abs (fun Q hQ => ?_)
  refine lv_aload_n hx hb dX4_entryAt_0 rfl (lv_at hl 0 rfl) ?_
  refine va_get (D := D) (ci := 4) (v := .ref (a 1)) (fs := [.int N, .ref (a 1), .ref (a 3), .ref (a 4), .ref (a 5), .ref (a 7), .int nd.1, .int nd.2.1, .int nd.2.2.1, .long nd.2.2.2]) (C := RX4) (T := TX4) (N := 10) hx hb htb inX4 hown hK hP 0 rfl rfl 1 (by decide) (htb _ kF_X4_25) (fun _ h9 => h9) rfl dX4_entryAt_1 ?_
  refine lv_iload_n hx hb dX4_entryAt_4 rfl (lv_at hl 1 rfl) ?_
  refine lv_ldc (v := 65535) hx hb hown (htb _ kK_X4_244) dX4_entryAt_5 ?_
  refine lv_iand hx hb dX4_entryAt_7 ?_
  refine zb_ti (y := nI (ad % 65536)) (ix16 had) ?_
  refine lv_iload_n hx hb dX4_entryAt_8 rfl (lv_at hl 1 rfl) ?_
  refine lv_bipush (v := 16) hx hb dX4_entryAt_9 (by decide) ?_
  refine lv_ishr hx hb dX4_entryAt_11 ?_
  refine zb_ti (y := nI (ad / 65536)) (sb16 had) ?_
  refine zb_ci (va_runV (As := [.int (nI (ad % 65536)), .int (nI (ad / 65536))]) (rest := []) ⟨hx, hb, hml, hown, htb⟩ (c_find l D a cA N f ob tr nd (nI (ad % 65536)) (nI (ad / 65536))) (cwV 2 htb (wb_V kM_X4_105 kI_X0_find kS_X0_find kN_X0 kD_X0_find) rfl rfl rfl (by decide +kernel) ⟨Nat.le_of_ble_eq_true rfl, Nat.le_of_ble_eq_true rfl⟩) (zp_V 1 rfl rfl hP hK hSt hS hnw) rfl rfl hl.1 rfl (lv_room (Nat.le_of_ble_eq_true rfl)) dX4_entryAt_12 ⟨Nat.le_of_ble_eq_true rfl, Nat.le_of_ble_eq_true rfl⟩) ?_
  rw [hQ]
  exact W.iret (v := oI (fd (nI (ad % 65536)) (nI (ad / 65536)))) hx hb hr (fun t ht hW => ⟨congrArg (fun z => Outcome.returned (some (Value.int z))) (rfl), ht⟩) (fun q h => nomatch h) dX4_entryAt_15
set_option maxHeartbeats 4000000 in
set_option maxRecDepth 100000 in
theorem c_accN (l : Launch) (D : va_G) (a : Nat → Nat) (cA : ClassId) (N : Int32) (f : Nat → Int32) (ob : OB) (tr : TR) (nd : ND) (ad : Nat) (r : Int32) (had : ad < 2 ^ 24) : Met l yX4_accessFault (wX4_accessFault :: wb) ({ frames := 1, cells := 0, slots := 0, locals := 22 } : Room) (va_Pc [.ref (a 0), .int (-1), .int (nI ad), .int r] (zPu D [(cA, .int)] (cw a cA N f ob tr nd))) (zb_I (nI (aX ad))) 0 0 (fun _ => False) := by
  refine Met.ofW (cc := cX4_accessFault) (maxL := 4) (ret := (some .int)) (by decide) rfl ?_
  intro p ev s m args below meth c s₁ B hml hv
  obtain ⟨rfl, hP, hK, hSt, hnw⟩ := hv
  have hx := B.exec
  have hb := B.bytes
  have hr := B.returns
  have hts := atoms_spec (ws := wX4_accessFault :: wb) B.pre
  have htb : ∀ w ∈ wb, w.before ([.ref (a 0), .int (-1), .int (nI ad), .int r]).toArray s = true := fun w h => hts w (List.mem_cons_of_mem _ h)
  have hown : s.vm.findClass RX4 = some m.cls := findClass_of_methodNamed B.named
  have hlocks := B.notSynchronized
  have hS : va_S (fun _ => False) s.heap s.heap [] := va_S.rf
  obtain ⟨⟨tt, ff, hZT, hTT, hZF, hTF⟩, hXS⟩ := id hSt
  have hl := lv_entry ([.ref (a 0), .int (-1), .int (nI ad), .int r]) (n := 4) (Nat.le_of_ble_eq_true rfl)
  rw [lg_entry_eq]
  generalize (lg_sl ([.ref (a 0), .int (-1), .int (nI ad), .int r]) ++ List.replicate (4 - (lg_sl ([.ref (a 0), .int (-1), .int (nI ad), .int r])).length) Slot.unset).toArray = ls at hl ⊢
  have hl : lv_has ls 4 [(0, .ref (a 0)), (1, .int (-1)), (2, .int (nI ad)), (3, .int r)] := hl
  refine zb_abs (fun Q hQ => ?_)
  refine lv_iload_n hx hb dX4_accessFault_0 rfl (lv_at hl 1 rfl) ?_
  refine lv_iconst (v := (-1)) hx hb dX4_accessFault_1 (by decide) ?_
  refine lv_icmp_ne (tgt := 27) hx hb dX4_accessFault_2 (by decide) (fun hno => absurd (by decide) hno) (fun _ => ?_)
  refine lv_aload_n hx hb dX4_accessFault_5 rfl (lv_at hl 0 rfl) ?_
  refine va_get (D := D) (ci := 4) (v := .ref (a 1)) (fs := [.int N, .ref (a 1), .ref (a 3), .ref (a 4), .ref (a 5), .ref (a 7), .int nd.1, .int nd.2.1, .int nd.2.2.1, .long nd.2.2.2]) (C := RX4) (T := TX4) (N := 10) hx hb htb inX4 hown hK hP 0 rfl rfl 1 (by decide) (htb _ kF_X4_25) (fun _ h9 => h9) rfl dX4_accessFault_6 ?_
  refine lv_iload_n hx hb dX4_accessFault_9 rfl (lv_at hl 2 rfl) ?_
  refine lv_ldc (v := 65535) hx hb hown (htb _ kK_X4_244) dX4_accessFault_10 ?_
  refine lv_iand hx hb dX4_accessFault_12 ?_
  refine zb_ti (y := nI (ad % 65536)) (ix16 had) ?_
  refine zb_ci (va_runV (As := [.int (nI (ad % 65536))]) (rest := []) ⟨hx, hb, hml, hown, htb⟩ (c_hasIndex l D a cA N f ob tr nd (nI (ad % 65536))) (cwV 1 htb (wb_V kM_X4_245 kI_X0_hasIndex kS_X0_hasIndex kN_X0 kD_X0_hasIndex) rfl rfl rfl (by decide +kernel) ⟨Nat.le_of_ble_eq_true rfl, Nat.le_of_ble_eq_true rfl⟩) (zp_V 1 rfl rfl hP hK hSt hS hnw) rfl rfl hl.1 rfl (lv_room (Nat.le_of_ble_eq_true rfl)) dX4_accessFault_13 ⟨Nat.le_of_ble_eq_true rfl, Nat.le_of_ble_eq_true rfl⟩) ?_
  by_cases hc1 : hi (nI (ad % 65536)) = true
  · refine zb_ti (y := 1) (if_pos hc1) ?_
    refine lv_if_eq (tgt := 24) hx hb dX4_accessFault_16 (by decide) (fun hno => absurd hno (by decide)) (fun _ => ?_)
    refine lv_ldc (v := 101253137) hx hb hown (htb _ kK_X4_249) dX4_accessFault_19 ?_
    refine lv_goto (tgt := 26) hx hb dX4_accessFault_21 (by decide) ?_
    rw [hQ]
    exact W.iret (v := 101253137) hx hb hr (fun t ht hW => ⟨congrArg (fun z => Outcome.returned (some (Value.int z))) (by unfold aX aN; rw [if_pos hc1]; rfl), ht⟩) (fun q h => nomatch h) dX4_accessFault_26
  · refine zb_ti (y := 0) (if_neg hc1) ?_
    refine lv_if_eq (tgt := 24) hx hb dX4_accessFault_16 (by decide) (fun _ => ?_) (fun hno => absurd (by decide) hno)
    refine lv_ldc (v := 100794368) hx hb hown (htb _ kK_X4_250) dX4_accessFault_24 ?_
    rw [hQ]
    exact W.iret (v := 100794368) hx hb hr (fun t ht hW => ⟨congrArg (fun z => Outcome.returned (some (Value.int z))) (by unfold aX aN; rw [if_neg hc1]; rfl), ht⟩) (fun q h => nomatch h) dX4_accessFault_26
set_option maxHeartbeats 4000000 in
set_option maxRecDepth 100000 in
theorem c_accS (l : Launch) (D : va_G) (a : Nat → Nat) (cA : ClassId) (N : Int32) (f : Nat → Int32) (ob : OB) (tr : TR) (nd : ND) (e ad : Nat) (r : Int32) (he : e < 22) : Met l yX4_accessFault (wX4_accessFault :: wb) ({ frames := 1, cells := 0, slots := 0, locals := 22 } : Room) (va_Pc [.ref (a 0), .int (nI e), .int (nI ad), .int r] (zPu D [(cA, .int)] (cw a cA N f ob tr nd))) (zb_I (nI (aS e r))) 0 0 (fun _ => False) := by
  refine Met.ofW (cc := cX4_accessFault) (maxL := 4) (ret := (some .int)) (by decide) rfl ?_
  intro p ev s m args below meth c s₁ B hml hv
  obtain ⟨rfl, hP, hK, hSt, hnw⟩ := hv
  have hx := B.exec
  have hb := B.bytes
  have hr := B.returns
  have hts := atoms_spec (ws := wX4_accessFault :: wb) B.pre
  have htb : ∀ w ∈ wb, w.before ([.ref (a 0), .int (nI e), .int (nI ad), .int r]).toArray s = true := fun w h => hts w (List.mem_cons_of_mem _ h)
  have hown : s.vm.findClass RX4 = some m.cls := findClass_of_methodNamed B.named
  have hlocks := B.notSynchronized
  have hS : va_S (fun _ => False) s.heap s.heap [] := va_S.rf
  obtain ⟨⟨tt, ff, hZT, hTT, hZF, hTF⟩, hXS⟩ := id hSt
  have hl := lv_entry ([.ref (a 0), .int (nI e), .int (nI ad), .int r]) (n := 4) (Nat.le_of_ble_eq_true rfl)
  rw [lg_entry_eq]
  generalize (lg_sl ([.ref (a 0), .int (nI e), .int (nI ad), .int r]) ++ List.replicate (4 - (lg_sl ([.ref (a 0), .int (nI e), .int (nI ad), .int r])).length) Slot.unset).toArray = ls at hl ⊢
  have hl : lv_has ls 4 [(0, .ref (a 0)), (1, .int (nI e)), (2, .int (nI ad)), (3, .int r)] := hl
  refine zb_abs (fun Q hQ => ?_)
  refine lv_iload_n hx hb dX4_accessFault_0 rfl (lv_at hl 1 rfl) ?_
  refine lv_iconst (v := (-1)) hx hb dX4_accessFault_1 (by decide) ?_
  refine lv_icmp_ne (tgt := 27) hx hb dX4_accessFault_2 (by decide) (fun _ => ?_) (fun hno => absurd hno (ni_m1 he))
  refine lv_iload_n hx hb dX4_accessFault_27 rfl (lv_at hl 1 rfl) ?_
  refine lv_iload_n hx hb dX4_accessFault_28 rfl (lv_at hl 3 rfl) ?_
  refine zb_ci (va_runS (As := [.int (nI e), .int r]) (rest := []) ⟨hx, hb, hml, hown, htb⟩ (c_allows l D a cA N f ob tr nd e r he) (va_cwS 2 htb (wb_S kM_X4_251 kZ_X0_allows kN_X0 kD_X0_allows) rfl rfl rfl (by decide +kernel) ⟨Nat.le_of_ble_eq_true rfl, Nat.le_of_ble_eq_true rfl⟩) (zp_S hP hK hSt hS hnw) rfl rfl hl.1 rfl (lv_room (Nat.le_of_ble_eq_true rfl)) dX4_accessFault_29 ⟨Nat.le_of_ble_eq_true rfl, Nat.le_of_ble_eq_true rfl⟩) ?_
  by_cases hc1 : nI (xR e) &&& r = 0
  · refine zb_ti (y := 0) (if_pos hc1) ?_
    refine lv_if_eq (tgt := 37) hx hb dX4_accessFault_32 (by decide) (fun _ => ?_) (fun hno => absurd (by decide) hno)
    refine lv_iload_n hx hb dX4_accessFault_37 rfl (lv_at hl 3 rfl) ?_
    refine lv_iconst (v := 2) hx hb dX4_accessFault_38 (by decide) ?_
    refine lv_icmp_ne (tgt := 47) hx hb dX4_accessFault_39 (by decide) (fun hc2 => ?_) (fun hc2 => ?_)
    · refine lv_ldcw (v := 100728833) hx hb hown (htb _ kK_X4_256) dX4_accessFault_47 ?_
      rw [hQ]
      exact W.iret (v := 100728833) hx hb hr (fun t ht hW => ⟨congrArg (fun z => Outcome.returned (some (Value.int z))) (by unfold aS; rw [if_pos hc1, if_neg hc2]; rfl), ht⟩) (fun q h => nomatch h) dX4_accessFault_50
    refine lv_ldc (v := 100728834) hx hb hown (htb _ kK_X4_255) dX4_accessFault_42 ?_
    refine lv_goto (tgt := 50) hx hb dX4_accessFault_44 (by decide) ?_
    rw [hQ]
    exact W.iret (v := 100728834) hx hb hr (fun t ht hW => ⟨congrArg (fun z => Outcome.returned (some (Value.int z))) (by unfold aS; rw [if_pos hc1, if_pos hc2]; rfl), ht⟩) (fun q h => nomatch h) dX4_accessFault_50
  · refine zb_ti (y := 1) (if_neg hc1) ?_
    refine lv_if_eq (tgt := 37) hx hb dX4_accessFault_32 (by decide) (fun hno => absurd hno (by decide)) (fun _ => ?_)
    refine lv_iconst (v := 0) hx hb dX4_accessFault_35 (by decide) ?_
    rw [hQ]
    exact W.iret (v := 0) hx hb hr (fun t ht hW => ⟨congrArg (fun z => Outcome.returned (some (Value.int z))) (by unfold aS; rw [if_neg hc1]; rfl), ht⟩) (fun q h => nomatch h) dX4_accessFault_36
set_option maxHeartbeats 4000000 in
set_option maxRecDepth 100000 in
theorem c_lenF (l : Launch) (D : va_G) (a : Nat → Nat) (cA : ClassId) (N : Int32) (f : Nat → Int32) (ob : OB) (tr : TR) (nd : ND) (fi : Nat) (hg : Int32) (z : Nat)  : Met l yX4_lengthFault (wX4_lengthFault :: wb) ({ frames := 1, cells := 0, slots := 0, locals := 21 } : Room) (va_Pc [.int (nI fi), .int hg, .int (nI z)] (zPu D [(cA, .int)] (cw a cA N f ob tr nd))) (zb_I (nI (lF fi hg z))) 0 0 (fun _ => False) := by
  refine Met.ofW (cc := cX4_lengthFault) (maxL := 5) (ret := (some .int)) (by decide) rfl ?_
  intro p ev s m args below meth c s₁ B hml hv
  obtain ⟨rfl, hP, hK, hSt, hnw⟩ := hv
  have hx := B.exec
  have hb := B.bytes
  have hr := B.returns
  have hts := atoms_spec (ws := wX4_lengthFault :: wb) B.pre
  have htb : ∀ w ∈ wb, w.before ([.int (nI fi), .int hg, .int (nI z)]).toArray s = true := fun w h => hts w (List.mem_cons_of_mem _ h)
  have hown : s.vm.findClass RX4 = some m.cls := findClass_of_methodNamed B.named
  have hlocks := B.notSynchronized
  have hS : va_S (fun _ => False) s.heap s.heap [] := va_S.rf
  obtain ⟨⟨tt, ff, hZT, hTT, hZF, hTF⟩, hXS⟩ := id hSt
  have hl := lv_entry ([.int (nI fi), .int hg, .int (nI z)]) (n := 5) (Nat.le_of_ble_eq_true rfl)
  rw [lg_entry_eq]
  generalize (lg_sl ([.int (nI fi), .int hg, .int (nI z)]) ++ List.replicate (5 - (lg_sl ([.int (nI fi), .int hg, .int (nI z)])).length) Slot.unset).toArray = ls at hl ⊢
  have hl : lv_has ls 5 [(0, .int (nI fi)), (1, .int hg), (2, .int (nI z))] := hl
  refine zb_abs (fun Q hQ => ?_)
  refine lv_iload_n hx hb dX4_lengthFault_0 rfl (lv_at hl 0 rfl) ?_
  refine lv_iconst (v := 1) hx hb dX4_lengthFault_1 (by decide) ?_
  refine lv_iand hx hb dX4_lengthFault_2 ?_
  refine lv_if_eq (tgt := 10) hx hb dX4_lengthFault_3 (by decide) (fun hc1 => ?_) (fun hc1 => ?_)
  · refine lv_iconst (v := 0) hx hb dX4_lengthFault_10 (by decide) ?_
    refine lv_istore_n hx hb dX4_lengthFault_11 rfl hl (by decide) rfl (fun ls hl => ?_)
    have hl : lv_has ls 5 [(3, .int 0), (0, .int (nI fi)), (1, .int hg), (2, .int (nI z))] := hl
    refine lv_iload_n hx hb dX4_lengthFault_12 rfl (lv_at hl 0 rfl) ?_
    refine lv_if_eq (tgt := 20) hx hb dX4_lengthFault_13 (by decide) (fun _ => ?_) (fun hno => absurd (by decide) hno)
    refine lv_iload_n hx hb dX4_lengthFault_20 rfl (lv_at hl 3 rfl) ?_
    refine lv_istore hx hb dX4_lengthFault_21 hl (by decide) rfl (fun ls hl => ?_)
    have hl : lv_has ls 5 [(4, .int (nI z)), (3, .int 0), (0, .int (nI fi)), (1, .int hg), (2, .int (nI z))] := hl
    refine lv_iload_n hx hb dX4_lengthFault_23 rfl (lv_at hl 2 rfl) ?_
    refine lv_iconst (v := 2) hx hb dX4_lengthFault_24 (by decide) ?_
    refine lv_iand hx hb dX4_lengthFault_25 ?_
    refine lv_if_eq (tgt := 50) hx hb dX4_lengthFault_26 (by decide) (fun hc2 => ?_) (fun hc2 => ?_)
    · refine lv_iload hx hb dX4_lengthFault_50 (lv_at hl 0 rfl) ?_
      refine lv_iload_n hx hb dX4_lengthFault_52 rfl (lv_at hl 4 rfl) ?_
      refine lv_icmp_le (tgt := 59) hx hb dX4_lengthFault_53 (by decide) (fun hc3 => ?_) (fun hc3 => ?_)
      · refine lv_iload hx hb dX4_lengthFault_59 (lv_at hl 0 rfl) ?_
        refine lv_iload_n hx hb dX4_lengthFault_61 rfl (lv_at hl 4 rfl) ?_
        refine lv_icmp_ge (tgt := 70) hx hb dX4_lengthFault_62 (by decide) (fun _ => ?_) (fun hno => absurd hc3 hno)
        refine lv_iconst (v := 0) hx hb dX4_lengthFault_70 (by decide) ?_
        rw [hQ]
        exact W.iret (v := 0) hx hb hr (fun t ht hW => ⟨congrArg (fun z => Outcome.returned (some (Value.int z))) (by simp only [lF, lenOf, if_pos hc1, if_pos hc2, if_pos hc3]; rfl), ht⟩) (fun q h => nomatch h) dX4_lengthFault_71
      refine lv_ldc (v := 101122066) hx hb hown (htb _ kK_X4_230) dX4_lengthFault_56 ?_
      rw [hQ]
      exact W.iret (v := 101122066) hx hb hr (fun t ht hW => ⟨congrArg (fun z => Outcome.returned (some (Value.int z))) (by simp only [lF, lenOf, if_pos hc1, if_pos hc2, if_neg hc3]; rfl), ht⟩) (fun q h => nomatch h) dX4_lengthFault_58
    refine lv_iload_n hx hb dX4_lengthFault_29 rfl (lv_at hl 1 rfl) ?_
    refine lv_if_eq (tgt := 43) hx hb dX4_lengthFault_30 (by decide) (fun _ => ?_) (fun hno => absurd (by decide) hno)
    refine lv_iload_n hx hb dX4_lengthFault_43 rfl (lv_at hl 4 rfl) ?_
    refine lv_iconst (v := 4) hx hb dX4_lengthFault_44 (by decide) ?_
    refine va_mmin hx hb (by rw [hml]; exact hl.1.symm) hown (htb _ kM_X4_7) (htb _ kZ_min) (htb _ kN_Math) (htb _ kD_min) (Nat.le_of_ble_eq_true rfl) (Nat.le_of_ble_eq_true rfl) (Nat.le_of_ble_eq_true rfl) (Nat.le_of_ble_eq_true rfl) dX4_lengthFault_45 ?_
    refine lv_istore hx hb dX4_lengthFault_48 hl (by decide) rfl (fun ls hl => ?_)
    have hl : lv_has ls 5 [(4, .int (if 4 < (nI z) then 4 else nI z)), (3, .int 0), (0, .int (nI fi)), (1, .int hg), (2, .int (nI z))] := hl
    refine lv_iload hx hb dX4_lengthFault_50 (lv_at hl 0 rfl) ?_
    refine lv_iload_n hx hb dX4_lengthFault_52 rfl (lv_at hl 4 rfl) ?_
    refine lv_icmp_le (tgt := 59) hx hb dX4_lengthFault_53 (by decide) (fun hc4 => ?_) (fun hc4 => ?_)
    · refine lv_iload hx hb dX4_lengthFault_59 (lv_at hl 0 rfl) ?_
      refine lv_iload_n hx hb dX4_lengthFault_61 rfl (lv_at hl 4 rfl) ?_
      refine lv_icmp_ge (tgt := 70) hx hb dX4_lengthFault_62 (by decide) (fun hc5 => ?_) (fun hc5 => ?_)
      · refine lv_iconst (v := 0) hx hb dX4_lengthFault_70 (by decide) ?_
        rw [hQ]
        exact W.iret (v := 0) hx hb hr (fun t ht hW => ⟨congrArg (fun z => Outcome.returned (some (Value.int z))) (by simp only [lF, lenOf, if_pos hc1, if_neg hc2, if_pos hc4, if_pos hc5]; rfl), ht⟩) (fun q h => nomatch h) dX4_lengthFault_71
      refine lv_ldc (v := 101122067) hx hb hown (htb _ kK_X4_234) dX4_lengthFault_65 ?_
      refine lv_goto (tgt := 71) hx hb dX4_lengthFault_67 (by decide) ?_
      rw [hQ]
      exact W.iret (v := 101122067) hx hb hr (fun t ht hW => ⟨congrArg (fun z => Outcome.returned (some (Value.int z))) (by simp only [lF, lenOf, if_pos hc1, if_neg hc2, if_pos hc4, if_neg hc5]; rfl), ht⟩) (fun q h => nomatch h) dX4_lengthFault_71
    refine lv_ldc (v := 101122066) hx hb hown (htb _ kK_X4_230) dX4_lengthFault_56 ?_
    rw [hQ]
    exact W.iret (v := 101122066) hx hb hr (fun t ht hW => ⟨congrArg (fun z => Outcome.returned (some (Value.int z))) (by simp only [lF, lenOf, if_pos hc1, if_neg hc2, if_neg hc4]; rfl), ht⟩) (fun q h => nomatch h) dX4_lengthFault_58
  refine lv_iconst (v := 1) hx hb dX4_lengthFault_6 (by decide) ?_
  refine lv_goto (tgt := 11) hx hb dX4_lengthFault_7 (by decide) ?_
  refine lv_istore_n hx hb dX4_lengthFault_11 rfl hl (by decide) rfl (fun ls hl => ?_)
  have hl : lv_has ls 5 [(3, .int 1), (0, .int (nI fi)), (1, .int hg), (2, .int (nI z))] := hl
  refine lv_iload_n hx hb dX4_lengthFault_12 rfl (lv_at hl 0 rfl) ?_
  refine lv_if_eq (tgt := 20) hx hb dX4_lengthFault_13 (by decide) (fun hno => absurd hno (by decide)) (fun _ => ?_)
  refine lv_iload_n hx hb dX4_lengthFault_16 rfl (lv_at hl 2 rfl) ?_
  refine lv_goto (tgt := 21) hx hb dX4_lengthFault_17 (by decide) ?_
  refine lv_istore hx hb dX4_lengthFault_21 hl (by decide) rfl (fun ls hl => ?_)
  have hl : lv_has ls 5 [(4, .int hg), (3, .int 1), (0, .int (nI fi)), (1, .int hg), (2, .int (nI z))] := hl
  refine lv_iload_n hx hb dX4_lengthFault_23 rfl (lv_at hl 2 rfl) ?_
  refine lv_iconst (v := 2) hx hb dX4_lengthFault_24 (by decide) ?_
  refine lv_iand hx hb dX4_lengthFault_25 ?_
  refine lv_if_eq (tgt := 50) hx hb dX4_lengthFault_26 (by decide) (fun hc6 => ?_) (fun hc6 => ?_)
  · refine lv_iload hx hb dX4_lengthFault_50 (lv_at hl 0 rfl) ?_
    refine lv_iload_n hx hb dX4_lengthFault_52 rfl (lv_at hl 4 rfl) ?_
    refine lv_icmp_le (tgt := 59) hx hb dX4_lengthFault_53 (by decide) (fun hc7 => ?_) (fun hc7 => ?_)
    · refine lv_iload hx hb dX4_lengthFault_59 (lv_at hl 0 rfl) ?_
      refine lv_iload_n hx hb dX4_lengthFault_61 rfl (lv_at hl 4 rfl) ?_
      refine lv_icmp_ge (tgt := 70) hx hb dX4_lengthFault_62 (by decide) (fun hc8 => ?_) (fun hc8 => ?_)
      · refine lv_iconst (v := 0) hx hb dX4_lengthFault_70 (by decide) ?_
        rw [hQ]
        exact W.iret (v := 0) hx hb hr (fun t ht hW => ⟨congrArg (fun z => Outcome.returned (some (Value.int z))) (by simp only [lF, lenOf, if_neg hc1, if_pos hc6, if_pos hc7, if_pos hc8]; rfl), ht⟩) (fun q h => nomatch h) dX4_lengthFault_71
      refine lv_ldc (v := 101122067) hx hb hown (htb _ kK_X4_234) dX4_lengthFault_65 ?_
      refine lv_goto (tgt := 71) hx hb dX4_lengthFault_67 (by decide) ?_
      rw [hQ]
      exact W.iret (v := 101122067) hx hb hr (fun t ht hW => ⟨congrArg (fun z => Outcome.returned (some (Value.int z))) (by simp only [lF, lenOf, if_neg hc1, if_pos hc6, if_pos hc7, if_neg hc8]; rfl), ht⟩) (fun q h => nomatch h) dX4_lengthFault_71
    refine lv_ldc (v := 101122066) hx hb hown (htb _ kK_X4_230) dX4_lengthFault_56 ?_
    rw [hQ]
    exact W.iret (v := 101122066) hx hb hr (fun t ht hW => ⟨congrArg (fun z => Outcome.returned (some (Value.int z))) (by simp only [lF, lenOf, if_neg hc1, if_pos hc6, if_neg hc7]; rfl), ht⟩) (fun q h => nomatch h) dX4_lengthFault_58
  refine lv_iload_n hx hb dX4_lengthFault_29 rfl (lv_at hl 1 rfl) ?_
  refine lv_if_eq (tgt := 43) hx hb dX4_lengthFault_30 (by decide) (fun hno => absurd hno (by decide)) (fun _ => ?_)
  refine lv_iconst (v := 4) hx hb dX4_lengthFault_33 (by decide) ?_
  refine lv_iload_n hx hb dX4_lengthFault_34 rfl (lv_at hl 2 rfl) ?_
  refine lv_iconst (v := 2) hx hb dX4_lengthFault_35 (by decide) ?_
  refine lv_ishr hx hb dX4_lengthFault_36 ?_
  refine lv_iconst (v := 3) hx hb dX4_lengthFault_37 (by decide) ?_
  refine lv_iand hx hb dX4_lengthFault_38 ?_
  refine lv_isub hx hb dX4_lengthFault_39 ?_
  refine lv_goto (tgt := 48) hx hb dX4_lengthFault_40 (by decide) ?_
  refine lv_istore hx hb dX4_lengthFault_48 hl (by decide) rfl (fun ls hl => ?_)
  have hl : lv_has ls 5 [(4, .int (4 - (((nI fi) >>> ((2 : Int32) &&& 31)) &&& 3))), (3, .int 1), (0, .int (nI fi)), (1, .int hg), (2, .int (nI z))] := hl
  refine lv_iload hx hb dX4_lengthFault_50 (lv_at hl 0 rfl) ?_
  refine lv_iload_n hx hb dX4_lengthFault_52 rfl (lv_at hl 4 rfl) ?_
  refine lv_icmp_le (tgt := 59) hx hb dX4_lengthFault_53 (by decide) (fun hc9 => ?_) (fun hc9 => ?_)
  · refine lv_iload hx hb dX4_lengthFault_59 (lv_at hl 0 rfl) ?_
    refine lv_iload_n hx hb dX4_lengthFault_61 rfl (lv_at hl 4 rfl) ?_
    refine lv_icmp_ge (tgt := 70) hx hb dX4_lengthFault_62 (by decide) (fun hc10 => ?_) (fun hc10 => ?_)
    · refine lv_iconst (v := 0) hx hb dX4_lengthFault_70 (by decide) ?_
      rw [hQ]
      exact W.iret (v := 0) hx hb hr (fun t ht hW => ⟨congrArg (fun z => Outcome.returned (some (Value.int z))) (by simp only [lF, lenOf, if_neg hc1, if_neg hc6, if_pos hc9, if_pos hc10]; rfl), ht⟩) (fun q h => nomatch h) dX4_lengthFault_71
    refine lv_ldc (v := 101122067) hx hb hown (htb _ kK_X4_234) dX4_lengthFault_65 ?_
    refine lv_goto (tgt := 71) hx hb dX4_lengthFault_67 (by decide) ?_
    rw [hQ]
    exact W.iret (v := 101122067) hx hb hr (fun t ht hW => ⟨congrArg (fun z => Outcome.returned (some (Value.int z))) (by simp only [lF, lenOf, if_neg hc1, if_neg hc6, if_pos hc9, if_neg hc10]; rfl), ht⟩) (fun q h => nomatch h) dX4_lengthFault_71
  refine lv_ldc (v := 101122066) hx hb hown (htb _ kK_X4_230) dX4_lengthFault_56 ?_
  rw [hQ]
  exact W.iret (v := 101122066) hx hb hr (fun t ht hW => ⟨congrArg (fun z => Outcome.returned (some (Value.int z))) (by simp only [lF, lenOf, if_neg hc1, if_neg hc6, if_neg hc9]; rfl), ht⟩) (fun q h => nomatch h) dX4_lengthFault_58
set_option maxHeartbeats 4000000 in
set_option maxRecDepth 100000 in
theorem c_segF (l : Launch) (D : va_G) (a : Nat → Nat) (cA : ClassId) (N : Int32) (f : Nat → Int32) (ob : OB) (tr : TR) (nd : ND) (fi : Nat) (wr : Int32)  : Met l yX4_segmentFault (wX4_segmentFault :: wb) ({ frames := 0, cells := 0, slots := 0, locals := 0 } : Room) (va_Pc [.ref (a 0), .int (nI fi), .int wr] (zPu D [(cA, .int)] (cw a cA N f ob tr nd))) (zb_I (nI (sF tr fi wr))) 0 0 (fun _ => False) := by
  refine Met.ofW (cc := cX4_segmentFault) (maxL := 3) (ret := (some .int)) (by decide) rfl ?_
  intro p ev s m args below meth c s₁ B hml hv
  obtain ⟨rfl, hP, hK, hSt, hnw⟩ := hv
  have hx := B.exec
  have hb := B.bytes
  have hr := B.returns
  have hts := atoms_spec (ws := wX4_segmentFault :: wb) B.pre
  have htb : ∀ w ∈ wb, w.before ([.ref (a 0), .int (nI fi), .int wr]).toArray s = true := fun w h => hts w (List.mem_cons_of_mem _ h)
  have hown : s.vm.findClass RX4 = some m.cls := findClass_of_methodNamed B.named
  have hlocks := B.notSynchronized
  have hS : va_S (fun _ => False) s.heap s.heap [] := va_S.rf
  obtain ⟨⟨tt, ff, hZT, hTT, hZF, hTF⟩, hXS⟩ := id hSt
  have hl := lv_entry ([.ref (a 0), .int (nI fi), .int wr]) (n := 3) (Nat.le_of_ble_eq_true rfl)
  rw [lg_entry_eq]
  generalize (lg_sl ([.ref (a 0), .int (nI fi), .int wr]) ++ List.replicate (3 - (lg_sl ([.ref (a 0), .int (nI fi), .int wr])).length) Slot.unset).toArray = ls at hl ⊢
  have hl : lv_has ls 3 [(0, .ref (a 0)), (1, .int (nI fi)), (2, .int wr)] := hl
  refine zb_abs (fun Q hQ => ?_)
  refine lv_aload_n hx hb dX4_segmentFault_0 rfl (lv_at hl 0 rfl) ?_
  refine va_get (D := D) (ci := 4) (v := .ref (a 7)) (fs := [.int N, .ref (a 1), .ref (a 3), .ref (a 4), .ref (a 5), .ref (a 7), .int nd.1, .int nd.2.1, .int nd.2.2.1, .long nd.2.2.2]) (C := RX4) (T := TX4) (N := 10) hx hb htb inX4 hown hK hP 0 rfl rfl 5 (by decide) (htb _ kF_X4_51) (fun _ h9 => h9) rfl dX4_segmentFault_1 ?_
  refine va_getN (D := D) (ci := 3) (v := .int tr.2.1) (fs := [.ref (a 8), .int tr.2.1, .int tr.2.2.1, .int tr.2.2.2.1, .int tr.2.2.2.2.1, .int tr.2.2.2.2.2.1, .int tr.2.2.2.2.2.2.1, .int tr.2.2.2.2.2.2.2]) (C := RX3) (T := TX3) (N := 8) hx hb htb inX3 hown hK hP 7 rfl rfl 1 (by decide) (va_Nw.use rfl (hnw _ kT_X4_91)) (fun _ h9 => h9) rfl dX4_segmentFault_4 ?_
  refine lv_if_eq (tgt := 21) hx hb dX4_segmentFault_7 (by decide) (fun hc1 => ?_) (fun hc1 => ?_)
  · refine lv_ldc (v := 84148225) hx hb hown (htb _ kK_X4_196) dX4_segmentFault_21 ?_
    rw [hQ]
    exact W.iret (v := 84148225) hx hb hr (fun t ht hW => ⟨congrArg (fun z => Outcome.returned (some (Value.int z))) (by simp only [sF, if_pos hc1]; rfl), ht⟩) (fun q h => nomatch h) dX4_segmentFault_23
  refine lv_aload_n hx hb dX4_segmentFault_10 rfl (lv_at hl 0 rfl) ?_
  refine va_get (D := D) (ci := 4) (v := .ref (a 7)) (fs := [.int N, .ref (a 1), .ref (a 3), .ref (a 4), .ref (a 5), .ref (a 7), .int nd.1, .int nd.2.1, .int nd.2.2.1, .long nd.2.2.2]) (C := RX4) (T := TX4) (N := 10) hx hb htb inX4 hown hK hP 0 rfl rfl 5 (by decide) (htb _ kF_X4_51) (fun _ h9 => h9) rfl dX4_segmentFault_11 ?_
  refine va_getN (D := D) (ci := 3) (v := .int tr.2.2.1) (fs := [.ref (a 8), .int tr.2.1, .int tr.2.2.1, .int tr.2.2.2.1, .int tr.2.2.2.2.1, .int tr.2.2.2.2.2.1, .int tr.2.2.2.2.2.2.1, .int tr.2.2.2.2.2.2.2]) (C := RX3) (T := TX3) (N := 8) hx hb htb inX3 hown hK hP 7 rfl rfl 2 (by decide) (va_Nw.use rfl (hnw _ kT_X4_257)) (fun _ h9 => h9) rfl dX4_segmentFault_14 ?_
  refine lv_iload_n hx hb dX4_segmentFault_17 rfl (lv_at hl 2 rfl) ?_
  refine lv_icmp_eq (tgt := 24) hx hb dX4_segmentFault_18 (by decide) (fun hc2 => ?_) (fun hc2 => ?_)
  · refine lv_iload_n hx hb dX4_segmentFault_24 rfl (lv_at hl 1 rfl) ?_
    refine lv_bipush (v := 16) hx hb dX4_segmentFault_25 (by decide) ?_
    refine lv_iand hx hb dX4_segmentFault_27 ?_
    refine lv_aload_n hx hb dX4_segmentFault_28 rfl (lv_at hl 0 rfl) ?_
    refine va_get (D := D) (ci := 4) (v := .ref (a 7)) (fs := [.int N, .ref (a 1), .ref (a 3), .ref (a 4), .ref (a 5), .ref (a 7), .int nd.1, .int nd.2.1, .int nd.2.2.1, .long nd.2.2.2]) (C := RX4) (T := TX4) (N := 10) hx hb htb inX4 hown hK hP 0 rfl rfl 5 (by decide) (htb _ kF_X4_51) (fun _ h9 => h9) rfl dX4_segmentFault_29 ?_
    refine va_getN (D := D) (ci := 3) (v := .int tr.2.2.2.2.2.2.1) (fs := [.ref (a 8), .int tr.2.1, .int tr.2.2.1, .int tr.2.2.2.1, .int tr.2.2.2.2.1, .int tr.2.2.2.2.2.1, .int tr.2.2.2.2.2.2.1, .int tr.2.2.2.2.2.2.2]) (C := RX3) (T := TX3) (N := 8) hx hb htb inX3 hown hK hP 7 rfl rfl 6 (by decide) (va_Nw.use rfl (hnw _ kT_X4_260)) (fun _ h9 => h9) rfl dX4_segmentFault_32 ?_
    refine lv_icmp_ne (tgt := 42) hx hb dX4_segmentFault_35 (by decide) (fun hc3 => ?_) (fun hc3 => ?_)
    · refine lv_ldcw (v := 84082688) hx hb hown (htb _ kK_X4_263) dX4_segmentFault_42 ?_
      rw [hQ]
      exact W.iret (v := 84082688) hx hb hr (fun t ht hW => ⟨congrArg (fun z => Outcome.returned (some (Value.int z))) (by simp only [sF, if_neg hc1, if_pos hc2, if_neg hc3]; rfl), ht⟩) (fun q h => nomatch h) dX4_segmentFault_45
    refine lv_iconst (v := 0) hx hb dX4_segmentFault_38 (by decide) ?_
    refine lv_goto (tgt := 45) hx hb dX4_segmentFault_39 (by decide) ?_
    rw [hQ]
    exact W.iret (v := 0) hx hb hr (fun t ht hW => ⟨congrArg (fun z => Outcome.returned (some (Value.int z))) (by simp only [sF, if_neg hc1, if_pos hc2, if_pos hc3]; rfl), ht⟩) (fun q h => nomatch h) dX4_segmentFault_45
  refine lv_ldc (v := 84148225) hx hb hown (htb _ kK_X4_196) dX4_segmentFault_21 ?_
  rw [hQ]
  exact W.iret (v := 84148225) hx hb hr (fun t ht hW => ⟨congrArg (fun z => Outcome.returned (some (Value.int z))) (by simp only [sF, if_neg hc1, if_neg hc2]; rfl), ht⟩) (fun q h => nomatch h) dX4_segmentFault_23
set_option maxHeartbeats 4000000 in
set_option maxRecDepth 100000 in
theorem c_stoT0 (l : Launch) (D : va_G) (a : Nat → Nat) (cA : ClassId) (N : Int32) (f : Nat → Int32) (ob : OB) (tr : TR) (nd : ND) (e v : Nat) (hB : isB f) (hT : mapK f 3 6) (hG : mapK f 9 5) (he : e < 22) (he3 : e = 3) (hv : v < 256) : Met l yX4_storeFault (wX4_storeFault :: wb) ({ frames := 3, cells := 0, slots := 0, locals := 72 } : Room) (va_Pc [.ref (a 0), .int (nI e), .int (nI v)] (zPu D [(cA, .int)] (cw a cA N f ob tr nd))) (zb_I (nI (if nd.1 = 127 then cF f 3 6 v else 134217762))) 0 0 (fun _ => False) := by
  refine Met.ofW (cc := cX4_storeFault) (maxL := 5) (ret := (some .int)) (by decide) rfl ?_
  intro p ev s m args below meth c s₁ B hml hv
  obtain ⟨rfl, hP, hK, hSt, hnw⟩ := hv
  have hx := B.exec
  have hb := B.bytes
  have hr := B.returns
  have hts := atoms_spec (ws := wX4_storeFault :: wb) B.pre
  have htb : ∀ w ∈ wb, w.before ([.ref (a 0), .int (nI e), .int (nI v)]).toArray s = true := fun w h => hts w (List.mem_cons_of_mem _ h)
  have hown : s.vm.findClass RX4 = some m.cls := findClass_of_methodNamed B.named
  have hlocks := B.notSynchronized
  have hS : va_S (fun _ => False) s.heap s.heap [] := va_S.rf
  obtain ⟨⟨tt, ff, hZT, hTT, hZF, hTF⟩, hXS⟩ := id hSt
  have hl := lv_entry ([.ref (a 0), .int (nI e), .int (nI v)]) (n := 5) (Nat.le_of_ble_eq_true rfl)
  rw [lg_entry_eq]
  generalize (lg_sl ([.ref (a 0), .int (nI e), .int (nI v)]) ++ List.replicate (5 - (lg_sl ([.ref (a 0), .int (nI e), .int (nI v)])).length) Slot.unset).toArray = ls at hl ⊢
  have hl : lv_has ls 5 [(0, .ref (a 0)), (1, .int (nI e)), (2, .int (nI v))] := hl
  refine zb_abs (fun Q hQ => ?_)
  refine lv_aload_n hx hb dX4_storeFault_0 rfl (lv_at hl 0 rfl) ?_
  refine va_get (D := D) (ci := 4) (v := .ref (a 3)) (fs := [.int N, .ref (a 1), .ref (a 3), .ref (a 4), .ref (a 5), .ref (a 7), .int nd.1, .int nd.2.1, .int nd.2.2.1, .long nd.2.2.2]) (C := RX4) (T := TX4) (N := 10) hx hb htb inX4 hown hK hP 0 rfl rfl 2 (by decide) (htb _ kF_X4_34) (fun _ h9 => h9) rfl dX4_storeFault_1 ?_
  refine lv_iload_n hx hb dX4_storeFault_4 rfl (lv_at hl 1 rfl) ?_
  refine zb_ci (va_runV (As := [.int (nI e)]) (rest := []) ⟨hx, hb, hml, hown, htb⟩ (c_ownsT l D a cA N f ob tr nd e he) (cwV 1 htb (wb_V kM_X4_264 kI_X1_owns kS_X1_owns kN_X1 kD_X1_owns) rfl rfl rfl (by decide +kernel) ⟨Nat.le_of_ble_eq_true rfl, Nat.le_of_ble_eq_true rfl⟩) (zp_V 3 rfl rfl hP hK hSt hS hnw) rfl rfl hl.1 rfl (lv_room (Nat.le_of_ble_eq_true rfl)) dX4_storeFault_5 ⟨Nat.le_of_ble_eq_true rfl, Nat.le_of_ble_eq_true rfl⟩) ?_
  refine zb_ti (y := 1) (owT1 e he (by omega) (by omega)) ?_
  refine lv_if_eq (tgt := 18) hx hb dX4_storeFault_8 (by decide) (fun hno => absurd hno (by decide)) (fun _ => ?_)
  refine lv_aload_n hx hb dX4_storeFault_11 rfl (lv_at hl 0 rfl) ?_
  refine va_get (D := D) (ci := 4) (v := .ref (a 3)) (fs := [.int N, .ref (a 1), .ref (a 3), .ref (a 4), .ref (a 5), .ref (a 7), .int nd.1, .int nd.2.1, .int nd.2.2.1, .long nd.2.2.2]) (C := RX4) (T := TX4) (N := 10) hx hb htb inX4 hown hK hP 0 rfl rfl 2 (by decide) (htb _ kF_X4_34) (fun _ h9 => h9) rfl dX4_storeFault_12 ?_
  refine lv_goto (tgt := 22) hx hb dX4_storeFault_15 (by decide) ?_
  refine lv_astore_n hx hb dX4_storeFault_22 rfl hl (by decide) rfl (fun ls hl => ?_)
  have hl : lv_has ls 5 [(3, .ref (a 3)), (0, .ref (a 0)), (1, .int (nI e)), (2, .int (nI v))] := hl
  refine lv_aload_n hx hb dX4_storeFault_23 rfl (lv_at hl 0 rfl) ?_
  refine lv_iload_n hx hb dX4_storeFault_24 rfl (lv_at hl 2 rfl) ?_
  refine zb_ci (va_runV (As := [.int (nI e)]) (rest := []) ⟨hx, hb, hml, hown, htb⟩ (c_ownsT l D a cA N f ob tr nd e he) (cwV 1 htb (wb_V kM_X4_264 kI_X1_owns kS_X1_owns kN_X1 kD_X1_owns) rfl rfl rfl (by decide +kernel) ⟨Nat.le_of_ble_eq_true rfl, Nat.le_of_ble_eq_true rfl⟩) (zp_V 3 rfl rfl hP hK hSt hS hnw) rfl rfl hl.1 rfl (lv_room (Nat.le_of_ble_eq_true rfl)) dX4_storeFault_25 ⟨Nat.le_of_ble_eq_true rfl, Nat.le_of_ble_eq_true rfl⟩) ?_
  refine zb_ti (y := 1) (owT1 e he (by omega) (by omega)) ?_
  refine lv_if_eq (tgt := 66) hx hb dX4_storeFault_28 (by decide) (fun hno => absurd hno (by decide)) (fun _ => ?_)
  refine lv_aload_n hx hb dX4_storeFault_31 rfl (lv_at hl 1 rfl) ?_
  refine va_get (D := D) (ci := 4) (v := .int nd.1) (fs := [.int N, .ref (a 1), .ref (a 3), .ref (a 4), .ref (a 5), .ref (a 7), .int nd.1, .int nd.2.1, .int nd.2.2.1, .long nd.2.2.2]) (C := RX4) (T := TX4) (N := 10) hx hb htb inX4 hown hK hP 0 rfl rfl 6 (by decide) (htb _ kF_X4_79) (fun _ h9 => h9) rfl dX4_storeFault_32 ?_
  refine lv_bipush (v := 127) hx hb dX4_storeFault_35 (by decide) ?_
  refine lv_icmp_eq (tgt := 44) hx hb dX4_storeFault_37 (by decide) (fun hc1 => ?_) (fun hc1 => ?_)
  · refine lv_aload_n hx hb dX4_storeFault_44 rfl (lv_at hl 0 rfl) ?_
    refine lv_iload_n hx hb dX4_storeFault_45 rfl (lv_at hl 2 rfl) ?_
    refine zb_ci (va_runV (As := [.int (nI e)]) (rest := []) ⟨hx, hb, hml, hown, htb⟩ (c_isCountT l D a cA N f ob tr nd e he) (cwV 1 htb (wb_V kM_X4_268 kI_X1_isCount kS_X1_isCount kN_X1 kD_X1_isCount) rfl rfl rfl (by decide +kernel) ⟨Nat.le_of_ble_eq_true rfl, Nat.le_of_ble_eq_true rfl⟩) (zp_V 3 rfl rfl hP hK hSt hS hnw) rfl rfl hl.1 rfl (lv_room (Nat.le_of_ble_eq_true rfl)) dX4_storeFault_46 ⟨Nat.le_of_ble_eq_true rfl, Nat.le_of_ble_eq_true rfl⟩) ?_
    refine zb_ti (y := 1) (if_pos (by rw [he3]; rfl)) ?_
    refine lv_if_eq (tgt := 60) hx hb dX4_storeFault_49 (by decide) (fun hno => absurd hno (by decide)) (fun _ => ?_)
    refine lv_aload_n hx hb dX4_storeFault_52 rfl (lv_at hl 0 rfl) ?_
    refine lv_iload_n hx hb dX4_storeFault_53 rfl (lv_at hl 3 rfl) ?_
    refine zb_ci (va_runV (As := [.int (nI v)]) (rest := []) ⟨hx, hb, hml, hown, htb⟩ (c_countFaultT l D a cA N f ob tr nd v hv hB) (cwV 1 htb (wb_V kM_X4_271 kI_X1_countFault kS_X1_countFault kN_X1 kD_X1_countFault) rfl rfl rfl (by decide +kernel) ⟨Nat.le_of_ble_eq_true rfl, Nat.le_of_ble_eq_true rfl⟩) (zp_V 3 rfl rfl hP hK hSt hS hnw) rfl rfl hl.1 rfl (lv_room (Nat.le_of_ble_eq_true rfl)) dX4_storeFault_54 ⟨Nat.le_of_ble_eq_true rfl, Nat.le_of_ble_eq_true rfl⟩) ?_
    refine lv_goto (tgt := 65) hx hb dX4_storeFault_57 (by decide) ?_
    rw [hQ]
    exact W.iret (v := nI (cF f 3 6 v)) hx hb hr (fun t ht hW => ⟨congrArg (fun z => Outcome.returned (some (Value.int z))) (by rw [if_pos hc1]), ht⟩) (fun q h => nomatch h) dX4_storeFault_65
  refine lv_ldcw (v := 134217762) hx hb hown (htb _ kK_X4_267) dX4_storeFault_40 ?_
  rw [hQ]
  exact W.iret (v := 134217762) hx hb hr (fun t ht hW => ⟨congrArg (fun z => Outcome.returned (some (Value.int z))) (by rw [if_neg hc1]; rfl), ht⟩) (fun q h => nomatch h) dX4_storeFault_43
set_option maxHeartbeats 4000000 in
set_option maxRecDepth 100000 in
theorem c_stoT1 (l : Launch) (D : va_G) (a : Nat → Nat) (cA : ClassId) (N : Int32) (f : Nat → Int32) (ob : OB) (tr : TR) (nd : ND) (e v : Nat) (hB : isB f) (hT : mapK f 3 6) (hG : mapK f 9 5) (he : e < 22) (he4 : 4 ≤ e) (he7 : e ≤ 7) : Met l yX4_storeFault (wX4_storeFault :: wb) ({ frames := 3, cells := 0, slots := 0, locals := 72 } : Room) (va_Pc [.ref (a 0), .int (nI e), .int (nI v)] (zPu D [(cA, .int)] (cw a cA N f ob tr nd))) (zb_I (nI (if nd.1 = 127 then nF (cT f) 6 (nI v) else 134217762))) 0 0 (fun _ => False) := by
  refine Met.ofW (cc := cX4_storeFault) (maxL := 5) (ret := (some .int)) (by decide) rfl ?_
  intro p ev s m args below meth c s₁ B hml hv
  obtain ⟨rfl, hP, hK, hSt, hnw⟩ := hv
  have hx := B.exec
  have hb := B.bytes
  have hr := B.returns
  have hts := atoms_spec (ws := wX4_storeFault :: wb) B.pre
  have htb : ∀ w ∈ wb, w.before ([.ref (a 0), .int (nI e), .int (nI v)]).toArray s = true := fun w h => hts w (List.mem_cons_of_mem _ h)
  have hown : s.vm.findClass RX4 = some m.cls := findClass_of_methodNamed B.named
  have hlocks := B.notSynchronized
  have hS : va_S (fun _ => False) s.heap s.heap [] := va_S.rf
  obtain ⟨⟨tt, ff, hZT, hTT, hZF, hTF⟩, hXS⟩ := id hSt
  have hl := lv_entry ([.ref (a 0), .int (nI e), .int (nI v)]) (n := 5) (Nat.le_of_ble_eq_true rfl)
  rw [lg_entry_eq]
  generalize (lg_sl ([.ref (a 0), .int (nI e), .int (nI v)]) ++ List.replicate (5 - (lg_sl ([.ref (a 0), .int (nI e), .int (nI v)])).length) Slot.unset).toArray = ls at hl ⊢
  have hl : lv_has ls 5 [(0, .ref (a 0)), (1, .int (nI e)), (2, .int (nI v))] := hl
  refine zb_abs (fun Q hQ => ?_)
  refine lv_aload_n hx hb dX4_storeFault_0 rfl (lv_at hl 0 rfl) ?_
  refine va_get (D := D) (ci := 4) (v := .ref (a 3)) (fs := [.int N, .ref (a 1), .ref (a 3), .ref (a 4), .ref (a 5), .ref (a 7), .int nd.1, .int nd.2.1, .int nd.2.2.1, .long nd.2.2.2]) (C := RX4) (T := TX4) (N := 10) hx hb htb inX4 hown hK hP 0 rfl rfl 2 (by decide) (htb _ kF_X4_34) (fun _ h9 => h9) rfl dX4_storeFault_1 ?_
  refine lv_iload_n hx hb dX4_storeFault_4 rfl (lv_at hl 1 rfl) ?_
  refine zb_ci (va_runV (As := [.int (nI e)]) (rest := []) ⟨hx, hb, hml, hown, htb⟩ (c_ownsT l D a cA N f ob tr nd e he) (cwV 1 htb (wb_V kM_X4_264 kI_X1_owns kS_X1_owns kN_X1 kD_X1_owns) rfl rfl rfl (by decide +kernel) ⟨Nat.le_of_ble_eq_true rfl, Nat.le_of_ble_eq_true rfl⟩) (zp_V 3 rfl rfl hP hK hSt hS hnw) rfl rfl hl.1 rfl (lv_room (Nat.le_of_ble_eq_true rfl)) dX4_storeFault_5 ⟨Nat.le_of_ble_eq_true rfl, Nat.le_of_ble_eq_true rfl⟩) ?_
  refine zb_ti (y := 1) (owT1 e he (by omega) (by omega)) ?_
  refine lv_if_eq (tgt := 18) hx hb dX4_storeFault_8 (by decide) (fun hno => absurd hno (by decide)) (fun _ => ?_)
  refine lv_aload_n hx hb dX4_storeFault_11 rfl (lv_at hl 0 rfl) ?_
  refine va_get (D := D) (ci := 4) (v := .ref (a 3)) (fs := [.int N, .ref (a 1), .ref (a 3), .ref (a 4), .ref (a 5), .ref (a 7), .int nd.1, .int nd.2.1, .int nd.2.2.1, .long nd.2.2.2]) (C := RX4) (T := TX4) (N := 10) hx hb htb inX4 hown hK hP 0 rfl rfl 2 (by decide) (htb _ kF_X4_34) (fun _ h9 => h9) rfl dX4_storeFault_12 ?_
  refine lv_goto (tgt := 22) hx hb dX4_storeFault_15 (by decide) ?_
  refine lv_astore_n hx hb dX4_storeFault_22 rfl hl (by decide) rfl (fun ls hl => ?_)
  have hl : lv_has ls 5 [(3, .ref (a 3)), (0, .ref (a 0)), (1, .int (nI e)), (2, .int (nI v))] := hl
  refine lv_aload_n hx hb dX4_storeFault_23 rfl (lv_at hl 0 rfl) ?_
  refine lv_iload_n hx hb dX4_storeFault_24 rfl (lv_at hl 2 rfl) ?_
  refine zb_ci (va_runV (As := [.int (nI e)]) (rest := []) ⟨hx, hb, hml, hown, htb⟩ (c_ownsT l D a cA N f ob tr nd e he) (cwV 1 htb (wb_V kM_X4_264 kI_X1_owns kS_X1_owns kN_X1 kD_X1_owns) rfl rfl rfl (by decide +kernel) ⟨Nat.le_of_ble_eq_true rfl, Nat.le_of_ble_eq_true rfl⟩) (zp_V 3 rfl rfl hP hK hSt hS hnw) rfl rfl hl.1 rfl (lv_room (Nat.le_of_ble_eq_true rfl)) dX4_storeFault_25 ⟨Nat.le_of_ble_eq_true rfl, Nat.le_of_ble_eq_true rfl⟩) ?_
  refine zb_ti (y := 1) (owT1 e he (by omega) (by omega)) ?_
  refine lv_if_eq (tgt := 66) hx hb dX4_storeFault_28 (by decide) (fun hno => absurd hno (by decide)) (fun _ => ?_)
  refine lv_aload_n hx hb dX4_storeFault_31 rfl (lv_at hl 1 rfl) ?_
  refine va_get (D := D) (ci := 4) (v := .int nd.1) (fs := [.int N, .ref (a 1), .ref (a 3), .ref (a 4), .ref (a 5), .ref (a 7), .int nd.1, .int nd.2.1, .int nd.2.2.1, .long nd.2.2.2]) (C := RX4) (T := TX4) (N := 10) hx hb htb inX4 hown hK hP 0 rfl rfl 6 (by decide) (htb _ kF_X4_79) (fun _ h9 => h9) rfl dX4_storeFault_32 ?_
  refine lv_bipush (v := 127) hx hb dX4_storeFault_35 (by decide) ?_
  refine lv_icmp_eq (tgt := 44) hx hb dX4_storeFault_37 (by decide) (fun hc1 => ?_) (fun hc1 => ?_)
  · refine lv_aload_n hx hb dX4_storeFault_44 rfl (lv_at hl 0 rfl) ?_
    refine lv_iload_n hx hb dX4_storeFault_45 rfl (lv_at hl 2 rfl) ?_
    refine zb_ci (va_runV (As := [.int (nI e)]) (rest := []) ⟨hx, hb, hml, hown, htb⟩ (c_isCountT l D a cA N f ob tr nd e he) (cwV 1 htb (wb_V kM_X4_268 kI_X1_isCount kS_X1_isCount kN_X1 kD_X1_isCount) rfl rfl rfl (by decide +kernel) ⟨Nat.le_of_ble_eq_true rfl, Nat.le_of_ble_eq_true rfl⟩) (zp_V 3 rfl rfl hP hK hSt hS hnw) rfl rfl hl.1 rfl (lv_room (Nat.le_of_ble_eq_true rfl)) dX4_storeFault_46 ⟨Nat.le_of_ble_eq_true rfl, Nat.le_of_ble_eq_true rfl⟩) ?_
    refine zb_ti (y := 0) (if_neg (fun h => absurd ((nI_eq (b := 3) (by omega) (by decide)).mp h) (by omega))) ?_
    refine lv_if_eq (tgt := 60) hx hb dX4_storeFault_49 (by decide) (fun _ => ?_) (fun hno => absurd (by decide) hno)
    refine lv_aload_n hx hb dX4_storeFault_60 rfl (lv_at hl 0 rfl) ?_
    refine lv_iload_n hx hb dX4_storeFault_61 rfl (lv_at hl 3 rfl) ?_
    refine zb_ci (va_runV (As := [.int (nI v)]) (rest := []) ⟨hx, hb, hml, hown, htb⟩ (c_nameFaultT l D a cA N f ob tr nd (cT f) (nI v) (bv_of hB _).2 hT.1) (cwV 1 htb (wb_V kM_X4_274 kI_X1_nameFault kS_X1_nameFault kN_X1 kD_X1_nameFault) rfl rfl rfl (by decide +kernel) ⟨Nat.le_of_ble_eq_true rfl, Nat.le_of_ble_eq_true rfl⟩) (zp_V 3 rfl rfl hP hK hSt hS hnw) rfl rfl hl.1 rfl (lv_room (Nat.le_of_ble_eq_true rfl)) dX4_storeFault_62 ⟨Nat.le_of_ble_eq_true rfl, Nat.le_of_ble_eq_true rfl⟩) ?_
    rw [hQ]
    exact W.iret (v := nI (nF (cT f) 6 (nI v))) hx hb hr (fun t ht hW => ⟨congrArg (fun z => Outcome.returned (some (Value.int z))) (by rw [if_pos hc1]), ht⟩) (fun q h => nomatch h) dX4_storeFault_65
  refine lv_ldcw (v := 134217762) hx hb hown (htb _ kK_X4_267) dX4_storeFault_40 ?_
  rw [hQ]
  exact W.iret (v := 134217762) hx hb hr (fun t ht hW => ⟨congrArg (fun z => Outcome.returned (some (Value.int z))) (by rw [if_neg hc1]; rfl), ht⟩) (fun q h => nomatch h) dX4_storeFault_43
set_option maxHeartbeats 4000000 in
set_option maxRecDepth 100000 in
theorem c_stoG0 (l : Launch) (D : va_G) (a : Nat → Nat) (cA : ClassId) (N : Int32) (f : Nat → Int32) (ob : OB) (tr : TR) (nd : ND) (e v : Nat) (hB : isB f) (hT : mapK f 3 6) (hG : mapK f 9 5) (he : e < 22) (he3 : e = 9) (hv : v < 256) : Met l yX4_storeFault (wX4_storeFault :: wb) ({ frames := 3, cells := 0, slots := 0, locals := 72 } : Room) (va_Pc [.ref (a 0), .int (nI e), .int (nI v)] (zPu D [(cA, .int)] (cw a cA N f ob tr nd))) (zb_I (nI (if nd.1 = 127 then cF f 9 5 v else 134217762))) 0 0 (fun _ => False) := by
  refine Met.ofW (cc := cX4_storeFault) (maxL := 5) (ret := (some .int)) (by decide) rfl ?_
  intro p ev s m args below meth c s₁ B hml hv
  obtain ⟨rfl, hP, hK, hSt, hnw⟩ := hv
  have hx := B.exec
  have hb := B.bytes
  have hr := B.returns
  have hts := atoms_spec (ws := wX4_storeFault :: wb) B.pre
  have htb : ∀ w ∈ wb, w.before ([.ref (a 0), .int (nI e), .int (nI v)]).toArray s = true := fun w h => hts w (List.mem_cons_of_mem _ h)
  have hown : s.vm.findClass RX4 = some m.cls := findClass_of_methodNamed B.named
  have hlocks := B.notSynchronized
  have hS : va_S (fun _ => False) s.heap s.heap [] := va_S.rf
  obtain ⟨⟨tt, ff, hZT, hTT, hZF, hTF⟩, hXS⟩ := id hSt
  have hl := lv_entry ([.ref (a 0), .int (nI e), .int (nI v)]) (n := 5) (Nat.le_of_ble_eq_true rfl)
  rw [lg_entry_eq]
  generalize (lg_sl ([.ref (a 0), .int (nI e), .int (nI v)]) ++ List.replicate (5 - (lg_sl ([.ref (a 0), .int (nI e), .int (nI v)])).length) Slot.unset).toArray = ls at hl ⊢
  have hl : lv_has ls 5 [(0, .ref (a 0)), (1, .int (nI e)), (2, .int (nI v))] := hl
  refine zb_abs (fun Q hQ => ?_)
  refine lv_aload_n hx hb dX4_storeFault_0 rfl (lv_at hl 0 rfl) ?_
  refine va_get (D := D) (ci := 4) (v := .ref (a 3)) (fs := [.int N, .ref (a 1), .ref (a 3), .ref (a 4), .ref (a 5), .ref (a 7), .int nd.1, .int nd.2.1, .int nd.2.2.1, .long nd.2.2.2]) (C := RX4) (T := TX4) (N := 10) hx hb htb inX4 hown hK hP 0 rfl rfl 2 (by decide) (htb _ kF_X4_34) (fun _ h9 => h9) rfl dX4_storeFault_1 ?_
  refine lv_iload_n hx hb dX4_storeFault_4 rfl (lv_at hl 1 rfl) ?_
  refine zb_ci (va_runV (As := [.int (nI e)]) (rest := []) ⟨hx, hb, hml, hown, htb⟩ (c_ownsT l D a cA N f ob tr nd e he) (cwV 1 htb (wb_V kM_X4_264 kI_X1_owns kS_X1_owns kN_X1 kD_X1_owns) rfl rfl rfl (by decide +kernel) ⟨Nat.le_of_ble_eq_true rfl, Nat.le_of_ble_eq_true rfl⟩) (zp_V 3 rfl rfl hP hK hSt hS hnw) rfl rfl hl.1 rfl (lv_room (Nat.le_of_ble_eq_true rfl)) dX4_storeFault_5 ⟨Nat.le_of_ble_eq_true rfl, Nat.le_of_ble_eq_true rfl⟩) ?_
  refine zb_ti (y := 0) (owT0 e he (by omega)) ?_
  refine lv_if_eq (tgt := 18) hx hb dX4_storeFault_8 (by decide) (fun _ => ?_) (fun hno => absurd (by decide) hno)
  refine lv_aload_n hx hb dX4_storeFault_18 rfl (lv_at hl 0 rfl) ?_
  refine va_get (D := D) (ci := 4) (v := .ref (a 4)) (fs := [.int N, .ref (a 1), .ref (a 3), .ref (a 4), .ref (a 5), .ref (a 7), .int nd.1, .int nd.2.1, .int nd.2.2.1, .long nd.2.2.2]) (C := RX4) (T := TX4) (N := 10) hx hb htb inX4 hown hK hP 0 rfl rfl 3 (by decide) (htb _ kF_X4_38) (fun _ h9 => h9) rfl dX4_storeFault_19 ?_
  refine lv_astore_n hx hb dX4_storeFault_22 rfl hl (by decide) rfl (fun ls hl => ?_)
  have hl : lv_has ls 5 [(3, .ref (a 4)), (0, .ref (a 0)), (1, .int (nI e)), (2, .int (nI v))] := hl
  refine lv_aload_n hx hb dX4_storeFault_23 rfl (lv_at hl 0 rfl) ?_
  refine lv_iload_n hx hb dX4_storeFault_24 rfl (lv_at hl 2 rfl) ?_
  refine zb_ci (va_runV (As := [.int (nI e)]) (rest := []) ⟨hx, hb, hml, hown, htb⟩ (c_ownsG l D a cA N f ob tr nd e he) (cwV 1 htb (wb_V kM_X4_264 kI_X1_owns kS_X1_owns kN_X1 kD_X1_owns) rfl rfl rfl (by decide +kernel) ⟨Nat.le_of_ble_eq_true rfl, Nat.le_of_ble_eq_true rfl⟩) (zp_V 4 rfl rfl hP hK hSt hS hnw) rfl rfl hl.1 rfl (lv_room (Nat.le_of_ble_eq_true rfl)) dX4_storeFault_25 ⟨Nat.le_of_ble_eq_true rfl, Nat.le_of_ble_eq_true rfl⟩) ?_
  refine zb_ti (y := 1) (owG1 e he (by omega) (by omega)) ?_
  refine lv_if_eq (tgt := 66) hx hb dX4_storeFault_28 (by decide) (fun hno => absurd hno (by decide)) (fun _ => ?_)
  refine lv_aload_n hx hb dX4_storeFault_31 rfl (lv_at hl 1 rfl) ?_
  refine va_get (D := D) (ci := 4) (v := .int nd.1) (fs := [.int N, .ref (a 1), .ref (a 3), .ref (a 4), .ref (a 5), .ref (a 7), .int nd.1, .int nd.2.1, .int nd.2.2.1, .long nd.2.2.2]) (C := RX4) (T := TX4) (N := 10) hx hb htb inX4 hown hK hP 0 rfl rfl 6 (by decide) (htb _ kF_X4_79) (fun _ h9 => h9) rfl dX4_storeFault_32 ?_
  refine lv_bipush (v := 127) hx hb dX4_storeFault_35 (by decide) ?_
  refine lv_icmp_eq (tgt := 44) hx hb dX4_storeFault_37 (by decide) (fun hc1 => ?_) (fun hc1 => ?_)
  · refine lv_aload_n hx hb dX4_storeFault_44 rfl (lv_at hl 0 rfl) ?_
    refine lv_iload_n hx hb dX4_storeFault_45 rfl (lv_at hl 2 rfl) ?_
    refine zb_ci (va_runV (As := [.int (nI e)]) (rest := []) ⟨hx, hb, hml, hown, htb⟩ (c_isCountG l D a cA N f ob tr nd e he) (cwV 1 htb (wb_V kM_X4_268 kI_X1_isCount kS_X1_isCount kN_X1 kD_X1_isCount) rfl rfl rfl (by decide +kernel) ⟨Nat.le_of_ble_eq_true rfl, Nat.le_of_ble_eq_true rfl⟩) (zp_V 4 rfl rfl hP hK hSt hS hnw) rfl rfl hl.1 rfl (lv_room (Nat.le_of_ble_eq_true rfl)) dX4_storeFault_46 ⟨Nat.le_of_ble_eq_true rfl, Nat.le_of_ble_eq_true rfl⟩) ?_
    refine zb_ti (y := 1) (if_pos (by rw [he3]; rfl)) ?_
    refine lv_if_eq (tgt := 60) hx hb dX4_storeFault_49 (by decide) (fun hno => absurd hno (by decide)) (fun _ => ?_)
    refine lv_aload_n hx hb dX4_storeFault_52 rfl (lv_at hl 0 rfl) ?_
    refine lv_iload_n hx hb dX4_storeFault_53 rfl (lv_at hl 3 rfl) ?_
    refine zb_ci (va_runV (As := [.int (nI v)]) (rest := []) ⟨hx, hb, hml, hown, htb⟩ (c_countFaultG l D a cA N f ob tr nd v hv hB) (cwV 1 htb (wb_V kM_X4_271 kI_X1_countFault kS_X1_countFault kN_X1 kD_X1_countFault) rfl rfl rfl (by decide +kernel) ⟨Nat.le_of_ble_eq_true rfl, Nat.le_of_ble_eq_true rfl⟩) (zp_V 4 rfl rfl hP hK hSt hS hnw) rfl rfl hl.1 rfl (lv_room (Nat.le_of_ble_eq_true rfl)) dX4_storeFault_54 ⟨Nat.le_of_ble_eq_true rfl, Nat.le_of_ble_eq_true rfl⟩) ?_
    refine lv_goto (tgt := 65) hx hb dX4_storeFault_57 (by decide) ?_
    rw [hQ]
    exact W.iret (v := nI (cF f 9 5 v)) hx hb hr (fun t ht hW => ⟨congrArg (fun z => Outcome.returned (some (Value.int z))) (by rw [if_pos hc1]), ht⟩) (fun q h => nomatch h) dX4_storeFault_65
  refine lv_ldcw (v := 134217762) hx hb hown (htb _ kK_X4_267) dX4_storeFault_40 ?_
  rw [hQ]
  exact W.iret (v := 134217762) hx hb hr (fun t ht hW => ⟨congrArg (fun z => Outcome.returned (some (Value.int z))) (by rw [if_neg hc1]; rfl), ht⟩) (fun q h => nomatch h) dX4_storeFault_43
set_option maxHeartbeats 4000000 in
set_option maxRecDepth 100000 in
theorem c_stoG1 (l : Launch) (D : va_G) (a : Nat → Nat) (cA : ClassId) (N : Int32) (f : Nat → Int32) (ob : OB) (tr : TR) (nd : ND) (e v : Nat) (hB : isB f) (hT : mapK f 3 6) (hG : mapK f 9 5) (he : e < 22) (he4 : 10 ≤ e) (he7 : e ≤ 13) : Met l yX4_storeFault (wX4_storeFault :: wb) ({ frames := 3, cells := 0, slots := 0, locals := 72 } : Room) (va_Pc [.ref (a 0), .int (nI e), .int (nI v)] (zPu D [(cA, .int)] (cw a cA N f ob tr nd))) (zb_I (nI (if nd.1 = 127 then nF (cG f) 5 (nI v) else 134217762))) 0 0 (fun _ => False) := by
  refine Met.ofW (cc := cX4_storeFault) (maxL := 5) (ret := (some .int)) (by decide) rfl ?_
  intro p ev s m args below meth c s₁ B hml hv
  obtain ⟨rfl, hP, hK, hSt, hnw⟩ := hv
  have hx := B.exec
  have hb := B.bytes
  have hr := B.returns
  have hts := atoms_spec (ws := wX4_storeFault :: wb) B.pre
  have htb : ∀ w ∈ wb, w.before ([.ref (a 0), .int (nI e), .int (nI v)]).toArray s = true := fun w h => hts w (List.mem_cons_of_mem _ h)
  have hown : s.vm.findClass RX4 = some m.cls := findClass_of_methodNamed B.named
  have hlocks := B.notSynchronized
  have hS : va_S (fun _ => False) s.heap s.heap [] := va_S.rf
  obtain ⟨⟨tt, ff, hZT, hTT, hZF, hTF⟩, hXS⟩ := id hSt
  have hl := lv_entry ([.ref (a 0), .int (nI e), .int (nI v)]) (n := 5) (Nat.le_of_ble_eq_true rfl)
  rw [lg_entry_eq]
  generalize (lg_sl ([.ref (a 0), .int (nI e), .int (nI v)]) ++ List.replicate (5 - (lg_sl ([.ref (a 0), .int (nI e), .int (nI v)])).length) Slot.unset).toArray = ls at hl ⊢
  have hl : lv_has ls 5 [(0, .ref (a 0)), (1, .int (nI e)), (2, .int (nI v))] := hl
  refine zb_abs (fun Q hQ => ?_)
  refine lv_aload_n hx hb dX4_storeFault_0 rfl (lv_at hl 0 rfl) ?_
  refine va_get (D := D) (ci := 4) (v := .ref (a 3)) (fs := [.int N, .ref (a 1), .ref (a 3), .ref (a 4), .ref (a 5), .ref (a 7), .int nd.1, .int nd.2.1, .int nd.2.2.1, .long nd.2.2.2]) (C := RX4) (T := TX4) (N := 10) hx hb htb inX4 hown hK hP 0 rfl rfl 2 (by decide) (htb _ kF_X4_34) (fun _ h9 => h9) rfl dX4_storeFault_1 ?_
  refine lv_iload_n hx hb dX4_storeFault_4 rfl (lv_at hl 1 rfl) ?_
  refine zb_ci (va_runV (As := [.int (nI e)]) (rest := []) ⟨hx, hb, hml, hown, htb⟩ (c_ownsT l D a cA N f ob tr nd e he) (cwV 1 htb (wb_V kM_X4_264 kI_X1_owns kS_X1_owns kN_X1 kD_X1_owns) rfl rfl rfl (by decide +kernel) ⟨Nat.le_of_ble_eq_true rfl, Nat.le_of_ble_eq_true rfl⟩) (zp_V 3 rfl rfl hP hK hSt hS hnw) rfl rfl hl.1 rfl (lv_room (Nat.le_of_ble_eq_true rfl)) dX4_storeFault_5 ⟨Nat.le_of_ble_eq_true rfl, Nat.le_of_ble_eq_true rfl⟩) ?_
  refine zb_ti (y := 0) (owT0 e he (by omega)) ?_
  refine lv_if_eq (tgt := 18) hx hb dX4_storeFault_8 (by decide) (fun _ => ?_) (fun hno => absurd (by decide) hno)
  refine lv_aload_n hx hb dX4_storeFault_18 rfl (lv_at hl 0 rfl) ?_
  refine va_get (D := D) (ci := 4) (v := .ref (a 4)) (fs := [.int N, .ref (a 1), .ref (a 3), .ref (a 4), .ref (a 5), .ref (a 7), .int nd.1, .int nd.2.1, .int nd.2.2.1, .long nd.2.2.2]) (C := RX4) (T := TX4) (N := 10) hx hb htb inX4 hown hK hP 0 rfl rfl 3 (by decide) (htb _ kF_X4_38) (fun _ h9 => h9) rfl dX4_storeFault_19 ?_
  refine lv_astore_n hx hb dX4_storeFault_22 rfl hl (by decide) rfl (fun ls hl => ?_)
  have hl : lv_has ls 5 [(3, .ref (a 4)), (0, .ref (a 0)), (1, .int (nI e)), (2, .int (nI v))] := hl
  refine lv_aload_n hx hb dX4_storeFault_23 rfl (lv_at hl 0 rfl) ?_
  refine lv_iload_n hx hb dX4_storeFault_24 rfl (lv_at hl 2 rfl) ?_
  refine zb_ci (va_runV (As := [.int (nI e)]) (rest := []) ⟨hx, hb, hml, hown, htb⟩ (c_ownsG l D a cA N f ob tr nd e he) (cwV 1 htb (wb_V kM_X4_264 kI_X1_owns kS_X1_owns kN_X1 kD_X1_owns) rfl rfl rfl (by decide +kernel) ⟨Nat.le_of_ble_eq_true rfl, Nat.le_of_ble_eq_true rfl⟩) (zp_V 4 rfl rfl hP hK hSt hS hnw) rfl rfl hl.1 rfl (lv_room (Nat.le_of_ble_eq_true rfl)) dX4_storeFault_25 ⟨Nat.le_of_ble_eq_true rfl, Nat.le_of_ble_eq_true rfl⟩) ?_
  refine zb_ti (y := 1) (owG1 e he (by omega) (by omega)) ?_
  refine lv_if_eq (tgt := 66) hx hb dX4_storeFault_28 (by decide) (fun hno => absurd hno (by decide)) (fun _ => ?_)
  refine lv_aload_n hx hb dX4_storeFault_31 rfl (lv_at hl 1 rfl) ?_
  refine va_get (D := D) (ci := 4) (v := .int nd.1) (fs := [.int N, .ref (a 1), .ref (a 3), .ref (a 4), .ref (a 5), .ref (a 7), .int nd.1, .int nd.2.1, .int nd.2.2.1, .long nd.2.2.2]) (C := RX4) (T := TX4) (N := 10) hx hb htb inX4 hown hK hP 0 rfl rfl 6 (by decide) (htb _ kF_X4_79) (fun _ h9 => h9) rfl dX4_storeFault_32 ?_
  refine lv_bipush (v := 127) hx hb dX4_storeFault_35 (by decide) ?_
  refine lv_icmp_eq (tgt := 44) hx hb dX4_storeFault_37 (by decide) (fun hc1 => ?_) (fun hc1 => ?_)
  · refine lv_aload_n hx hb dX4_storeFault_44 rfl (lv_at hl 0 rfl) ?_
    refine lv_iload_n hx hb dX4_storeFault_45 rfl (lv_at hl 2 rfl) ?_
    refine zb_ci (va_runV (As := [.int (nI e)]) (rest := []) ⟨hx, hb, hml, hown, htb⟩ (c_isCountG l D a cA N f ob tr nd e he) (cwV 1 htb (wb_V kM_X4_268 kI_X1_isCount kS_X1_isCount kN_X1 kD_X1_isCount) rfl rfl rfl (by decide +kernel) ⟨Nat.le_of_ble_eq_true rfl, Nat.le_of_ble_eq_true rfl⟩) (zp_V 4 rfl rfl hP hK hSt hS hnw) rfl rfl hl.1 rfl (lv_room (Nat.le_of_ble_eq_true rfl)) dX4_storeFault_46 ⟨Nat.le_of_ble_eq_true rfl, Nat.le_of_ble_eq_true rfl⟩) ?_
    refine zb_ti (y := 0) (if_neg (fun h => absurd ((nI_eq (b := 9) (by omega) (by decide)).mp h) (by omega))) ?_
    refine lv_if_eq (tgt := 60) hx hb dX4_storeFault_49 (by decide) (fun _ => ?_) (fun hno => absurd (by decide) hno)
    refine lv_aload_n hx hb dX4_storeFault_60 rfl (lv_at hl 0 rfl) ?_
    refine lv_iload_n hx hb dX4_storeFault_61 rfl (lv_at hl 3 rfl) ?_
    refine zb_ci (va_runV (As := [.int (nI v)]) (rest := []) ⟨hx, hb, hml, hown, htb⟩ (c_nameFaultG l D a cA N f ob tr nd (cG f) (nI v) (bv_of hB _).2 hG.1) (cwV 1 htb (wb_V kM_X4_274 kI_X1_nameFault kS_X1_nameFault kN_X1 kD_X1_nameFault) rfl rfl rfl (by decide +kernel) ⟨Nat.le_of_ble_eq_true rfl, Nat.le_of_ble_eq_true rfl⟩) (zp_V 4 rfl rfl hP hK hSt hS hnw) rfl rfl hl.1 rfl (lv_room (Nat.le_of_ble_eq_true rfl)) dX4_storeFault_62 ⟨Nat.le_of_ble_eq_true rfl, Nat.le_of_ble_eq_true rfl⟩) ?_
    rw [hQ]
    exact W.iret (v := nI (nF (cG f) 5 (nI v))) hx hb hr (fun t ht hW => ⟨congrArg (fun z => Outcome.returned (some (Value.int z))) (by rw [if_pos hc1]), ht⟩) (fun q h => nomatch h) dX4_storeFault_65
  refine lv_ldcw (v := 134217762) hx hb hown (htb _ kK_X4_267) dX4_storeFault_40 ?_
  rw [hQ]
  exact W.iret (v := 134217762) hx hb hr (fun t ht hW => ⟨congrArg (fun z => Outcome.returned (some (Value.int z))) (by rw [if_neg hc1]; rfl), ht⟩) (fun q h => nomatch h) dX4_storeFault_43
set_option maxHeartbeats 4000000 in
set_option maxRecDepth 100000 in
theorem c_sto8 (l : Launch) (D : va_G) (a : Nat → Nat) (cA : ClassId) (N : Int32) (f : Nat → Int32) (ob : OB) (tr : TR) (nd : ND) (e v : Nat) (hB : isB f) (hT : mapK f 3 6) (hG : mapK f 9 5) (he : e < 22) (he8 : e = 8) (hv : v < 256) : Met l yX4_storeFault (wX4_storeFault :: wb) ({ frames := 3, cells := 0, slots := 0, locals := 72 } : Room) (va_Pc [.ref (a 0), .int (nI e), .int (nI v)] (zPu D [(cA, .int)] (cw a cA N f ob tr nd))) (zb_I (nI (if 240 < v ∧ v < 254 then 101253168 else 0))) 0 0 (fun _ => False) := by
  refine Met.ofW (cc := cX4_storeFault) (maxL := 5) (ret := (some .int)) (by decide) rfl ?_
  intro p ev s m args below meth c s₁ B hml hv
  obtain ⟨rfl, hP, hK, hSt, hnw⟩ := hv
  have hx := B.exec
  have hb := B.bytes
  have hr := B.returns
  have hts := atoms_spec (ws := wX4_storeFault :: wb) B.pre
  have htb : ∀ w ∈ wb, w.before ([.ref (a 0), .int (nI e), .int (nI v)]).toArray s = true := fun w h => hts w (List.mem_cons_of_mem _ h)
  have hown : s.vm.findClass RX4 = some m.cls := findClass_of_methodNamed B.named
  have hlocks := B.notSynchronized
  have hS : va_S (fun _ => False) s.heap s.heap [] := va_S.rf
  obtain ⟨⟨tt, ff, hZT, hTT, hZF, hTF⟩, hXS⟩ := id hSt
  have hl := lv_entry ([.ref (a 0), .int (nI e), .int (nI v)]) (n := 5) (Nat.le_of_ble_eq_true rfl)
  rw [lg_entry_eq]
  generalize (lg_sl ([.ref (a 0), .int (nI e), .int (nI v)]) ++ List.replicate (5 - (lg_sl ([.ref (a 0), .int (nI e), .int (nI v)])).length) Slot.unset).toArray = ls at hl ⊢
  have hl : lv_has ls 5 [(0, .ref (a 0)), (1, .int (nI e)), (2, .int (nI v))] := hl
  refine zb_abs (fun Q hQ => ?_)
  refine lv_aload_n hx hb dX4_storeFault_0 rfl (lv_at hl 0 rfl) ?_
  refine va_get (D := D) (ci := 4) (v := .ref (a 3)) (fs := [.int N, .ref (a 1), .ref (a 3), .ref (a 4), .ref (a 5), .ref (a 7), .int nd.1, .int nd.2.1, .int nd.2.2.1, .long nd.2.2.2]) (C := RX4) (T := TX4) (N := 10) hx hb htb inX4 hown hK hP 0 rfl rfl 2 (by decide) (htb _ kF_X4_34) (fun _ h9 => h9) rfl dX4_storeFault_1 ?_
  refine lv_iload_n hx hb dX4_storeFault_4 rfl (lv_at hl 1 rfl) ?_
  refine zb_ci (va_runV (As := [.int (nI e)]) (rest := []) ⟨hx, hb, hml, hown, htb⟩ (c_ownsT l D a cA N f ob tr nd e he) (cwV 1 htb (wb_V kM_X4_264 kI_X1_owns kS_X1_owns kN_X1 kD_X1_owns) rfl rfl rfl (by decide +kernel) ⟨Nat.le_of_ble_eq_true rfl, Nat.le_of_ble_eq_true rfl⟩) (zp_V 3 rfl rfl hP hK hSt hS hnw) rfl rfl hl.1 rfl (lv_room (Nat.le_of_ble_eq_true rfl)) dX4_storeFault_5 ⟨Nat.le_of_ble_eq_true rfl, Nat.le_of_ble_eq_true rfl⟩) ?_
  refine zb_ti (y := 0) (owT0 e he (by omega)) ?_
  refine lv_if_eq (tgt := 18) hx hb dX4_storeFault_8 (by decide) (fun _ => ?_) (fun hno => absurd (by decide) hno)
  refine lv_aload_n hx hb dX4_storeFault_18 rfl (lv_at hl 0 rfl) ?_
  refine va_get (D := D) (ci := 4) (v := .ref (a 4)) (fs := [.int N, .ref (a 1), .ref (a 3), .ref (a 4), .ref (a 5), .ref (a 7), .int nd.1, .int nd.2.1, .int nd.2.2.1, .long nd.2.2.2]) (C := RX4) (T := TX4) (N := 10) hx hb htb inX4 hown hK hP 0 rfl rfl 3 (by decide) (htb _ kF_X4_38) (fun _ h9 => h9) rfl dX4_storeFault_19 ?_
  refine lv_astore_n hx hb dX4_storeFault_22 rfl hl (by decide) rfl (fun ls hl => ?_)
  have hl : lv_has ls 5 [(3, .ref (a 4)), (0, .ref (a 0)), (1, .int (nI e)), (2, .int (nI v))] := hl
  refine lv_aload_n hx hb dX4_storeFault_23 rfl (lv_at hl 0 rfl) ?_
  refine lv_iload_n hx hb dX4_storeFault_24 rfl (lv_at hl 2 rfl) ?_
  refine zb_ci (va_runV (As := [.int (nI e)]) (rest := []) ⟨hx, hb, hml, hown, htb⟩ (c_ownsG l D a cA N f ob tr nd e he) (cwV 1 htb (wb_V kM_X4_264 kI_X1_owns kS_X1_owns kN_X1 kD_X1_owns) rfl rfl rfl (by decide +kernel) ⟨Nat.le_of_ble_eq_true rfl, Nat.le_of_ble_eq_true rfl⟩) (zp_V 4 rfl rfl hP hK hSt hS hnw) rfl rfl hl.1 rfl (lv_room (Nat.le_of_ble_eq_true rfl)) dX4_storeFault_25 ⟨Nat.le_of_ble_eq_true rfl, Nat.le_of_ble_eq_true rfl⟩) ?_
  refine zb_ti (y := 0) (owG0 e he (by omega)) ?_
  refine lv_if_eq (tgt := 66) hx hb dX4_storeFault_28 (by decide) (fun _ => ?_) (fun hno => absurd (by decide) hno)
  refine lv_iload_n hx hb dX4_storeFault_66 rfl (lv_at hl 3 rfl) ?_
  refine lv_sipush (v := 240) hx hb dX4_storeFault_67 (by decide) ?_
  refine lv_icmp_le (tgt := 84) hx hb dX4_storeFault_70 (by decide) (fun hc1 => ?_) (fun hc1 => ?_)
  · refine lv_iconst (v := 0) hx hb dX4_storeFault_84 (by decide) ?_
    refine lv_istore hx hb dX4_storeFault_85 hl (by decide) rfl (fun ls hl => ?_)
    have hl : lv_has ls 5 [(4, .int 0), (3, .ref (a 4)), (0, .ref (a 0)), (1, .int (nI e)), (2, .int (nI v))] := hl
    refine lv_iload_n hx hb dX4_storeFault_87 rfl (lv_at hl 3 rfl) ?_
    refine lv_bipush (v := 8) hx hb dX4_storeFault_88 (by decide) ?_
    refine lv_icmp_ne (tgt := 104) hx hb dX4_storeFault_90 (by decide) (fun hno => absurd (by rw [he8]; rfl) hno) (fun _ => ?_)
    refine lv_iload hx hb dX4_storeFault_93 (lv_at hl 0 rfl) ?_
    refine lv_if_eq (tgt := 104) hx hb dX4_storeFault_95 (by decide) (fun _ => ?_) (fun hno => absurd (by decide) hno)
    refine lv_iconst (v := 0) hx hb dX4_storeFault_104 (by decide) ?_
    rw [hQ]
    exact W.iret (v := 0) hx hb hr (fun t ht hW => ⟨congrArg (fun z => Outcome.returned (some (Value.int z))) (by have h2 : v ≤ 240 := (nI_leI (b := 240) (by omega) (by decide)).mp hc1; rw [if_neg (by omega)]; rfl), ht⟩) (fun q h => nomatch h) dX4_storeFault_105
  refine lv_iload_n hx hb dX4_storeFault_73 rfl (lv_at hl 3 rfl) ?_
  refine lv_sipush (v := 254) hx hb dX4_storeFault_74 (by decide) ?_
  refine lv_icmp_ge (tgt := 84) hx hb dX4_storeFault_77 (by decide) (fun hc2 => ?_) (fun hc2 => ?_)
  · refine lv_iconst (v := 0) hx hb dX4_storeFault_84 (by decide) ?_
    refine lv_istore hx hb dX4_storeFault_85 hl (by decide) rfl (fun ls hl => ?_)
    have hl : lv_has ls 5 [(4, .int 0), (3, .ref (a 4)), (0, .ref (a 0)), (1, .int (nI e)), (2, .int (nI v))] := hl
    refine lv_iload_n hx hb dX4_storeFault_87 rfl (lv_at hl 3 rfl) ?_
    refine lv_bipush (v := 8) hx hb dX4_storeFault_88 (by decide) ?_
    refine lv_icmp_ne (tgt := 104) hx hb dX4_storeFault_90 (by decide) (fun hno => absurd (by rw [he8]; rfl) hno) (fun _ => ?_)
    refine lv_iload hx hb dX4_storeFault_93 (lv_at hl 0 rfl) ?_
    refine lv_if_eq (tgt := 104) hx hb dX4_storeFault_95 (by decide) (fun _ => ?_) (fun hno => absurd (by decide) hno)
    refine lv_iconst (v := 0) hx hb dX4_storeFault_104 (by decide) ?_
    rw [hQ]
    exact W.iret (v := 0) hx hb hr (fun t ht hW => ⟨congrArg (fun z => Outcome.returned (some (Value.int z))) (by have h2 : 254 ≤ v := (nI_leI (a := 254) (by decide) (by omega)).mp hc2; rw [if_neg (by omega)]; rfl), ht⟩) (fun q h => nomatch h) dX4_storeFault_105
  refine lv_iconst (v := 1) hx hb dX4_storeFault_80 (by decide) ?_
  refine lv_goto (tgt := 85) hx hb dX4_storeFault_81 (by decide) ?_
  refine lv_istore hx hb dX4_storeFault_85 hl (by decide) rfl (fun ls hl => ?_)
  have hl : lv_has ls 5 [(4, .int 1), (3, .ref (a 4)), (0, .ref (a 0)), (1, .int (nI e)), (2, .int (nI v))] := hl
  refine lv_iload_n hx hb dX4_storeFault_87 rfl (lv_at hl 3 rfl) ?_
  refine lv_bipush (v := 8) hx hb dX4_storeFault_88 (by decide) ?_
  refine lv_icmp_ne (tgt := 104) hx hb dX4_storeFault_90 (by decide) (fun hno => absurd (by rw [he8]; rfl) hno) (fun _ => ?_)
  refine lv_iload hx hb dX4_storeFault_93 (lv_at hl 0 rfl) ?_
  refine lv_if_eq (tgt := 104) hx hb dX4_storeFault_95 (by decide) (fun hno => absurd hno (by decide)) (fun _ => ?_)
  refine lv_ldcw (v := 101253168) hx hb hown (htb _ kK_X4_277) dX4_storeFault_98 ?_
  refine lv_goto (tgt := 105) hx hb dX4_storeFault_101 (by decide) ?_
  rw [hQ]
  exact W.iret (v := 101253168) hx hb hr (fun t ht hW => ⟨congrArg (fun z => Outcome.returned (some (Value.int z))) (by have h1 : 240 < v := (by have h9 : ¬ v ≤ 240 := fun h => hc1 (nI_le h (by decide)); omega); have h2 : v < 254 := (by have h9 : ¬ 254 ≤ v := fun h => hc2 (nI_le h (by omega)); omega); rw [if_pos ⟨h1, h2⟩]; rfl), ht⟩) (fun q h => nomatch h) dX4_storeFault_105
set_option maxHeartbeats 4000000 in
set_option maxRecDepth 100000 in
theorem c_stoN (l : Launch) (D : va_G) (a : Nat → Nat) (cA : ClassId) (N : Int32) (f : Nat → Int32) (ob : OB) (tr : TR) (nd : ND) (e v : Nat) (hB : isB f) (hT : mapK f 3 6) (hG : mapK f 9 5) (he : e < 22) (he8 : ¬ e = 8) (hno : e < 3 ∨ 13 < e) : Met l yX4_storeFault (wX4_storeFault :: wb) ({ frames := 3, cells := 0, slots := 0, locals := 72 } : Room) (va_Pc [.ref (a 0), .int (nI e), .int (nI v)] (zPu D [(cA, .int)] (cw a cA N f ob tr nd))) (zb_I (nI 0)) 0 0 (fun _ => False) := by
  refine Met.ofW (cc := cX4_storeFault) (maxL := 5) (ret := (some .int)) (by decide) rfl ?_
  intro p ev s m args below meth c s₁ B hml hv
  obtain ⟨rfl, hP, hK, hSt, hnw⟩ := hv
  have hx := B.exec
  have hb := B.bytes
  have hr := B.returns
  have hts := atoms_spec (ws := wX4_storeFault :: wb) B.pre
  have htb : ∀ w ∈ wb, w.before ([.ref (a 0), .int (nI e), .int (nI v)]).toArray s = true := fun w h => hts w (List.mem_cons_of_mem _ h)
  have hown : s.vm.findClass RX4 = some m.cls := findClass_of_methodNamed B.named
  have hlocks := B.notSynchronized
  have hS : va_S (fun _ => False) s.heap s.heap [] := va_S.rf
  obtain ⟨⟨tt, ff, hZT, hTT, hZF, hTF⟩, hXS⟩ := id hSt
  have hl := lv_entry ([.ref (a 0), .int (nI e), .int (nI v)]) (n := 5) (Nat.le_of_ble_eq_true rfl)
  rw [lg_entry_eq]
  generalize (lg_sl ([.ref (a 0), .int (nI e), .int (nI v)]) ++ List.replicate (5 - (lg_sl ([.ref (a 0), .int (nI e), .int (nI v)])).length) Slot.unset).toArray = ls at hl ⊢
  have hl : lv_has ls 5 [(0, .ref (a 0)), (1, .int (nI e)), (2, .int (nI v))] := hl
  refine zb_abs (fun Q hQ => ?_)
  refine lv_aload_n hx hb dX4_storeFault_0 rfl (lv_at hl 0 rfl) ?_
  refine va_get (D := D) (ci := 4) (v := .ref (a 3)) (fs := [.int N, .ref (a 1), .ref (a 3), .ref (a 4), .ref (a 5), .ref (a 7), .int nd.1, .int nd.2.1, .int nd.2.2.1, .long nd.2.2.2]) (C := RX4) (T := TX4) (N := 10) hx hb htb inX4 hown hK hP 0 rfl rfl 2 (by decide) (htb _ kF_X4_34) (fun _ h9 => h9) rfl dX4_storeFault_1 ?_
  refine lv_iload_n hx hb dX4_storeFault_4 rfl (lv_at hl 1 rfl) ?_
  refine zb_ci (va_runV (As := [.int (nI e)]) (rest := []) ⟨hx, hb, hml, hown, htb⟩ (c_ownsT l D a cA N f ob tr nd e he) (cwV 1 htb (wb_V kM_X4_264 kI_X1_owns kS_X1_owns kN_X1 kD_X1_owns) rfl rfl rfl (by decide +kernel) ⟨Nat.le_of_ble_eq_true rfl, Nat.le_of_ble_eq_true rfl⟩) (zp_V 3 rfl rfl hP hK hSt hS hnw) rfl rfl hl.1 rfl (lv_room (Nat.le_of_ble_eq_true rfl)) dX4_storeFault_5 ⟨Nat.le_of_ble_eq_true rfl, Nat.le_of_ble_eq_true rfl⟩) ?_
  refine zb_ti (y := 0) (owT0 e he (by omega)) ?_
  refine lv_if_eq (tgt := 18) hx hb dX4_storeFault_8 (by decide) (fun _ => ?_) (fun hno => absurd (by decide) hno)
  refine lv_aload_n hx hb dX4_storeFault_18 rfl (lv_at hl 0 rfl) ?_
  refine va_get (D := D) (ci := 4) (v := .ref (a 4)) (fs := [.int N, .ref (a 1), .ref (a 3), .ref (a 4), .ref (a 5), .ref (a 7), .int nd.1, .int nd.2.1, .int nd.2.2.1, .long nd.2.2.2]) (C := RX4) (T := TX4) (N := 10) hx hb htb inX4 hown hK hP 0 rfl rfl 3 (by decide) (htb _ kF_X4_38) (fun _ h9 => h9) rfl dX4_storeFault_19 ?_
  refine lv_astore_n hx hb dX4_storeFault_22 rfl hl (by decide) rfl (fun ls hl => ?_)
  have hl : lv_has ls 5 [(3, .ref (a 4)), (0, .ref (a 0)), (1, .int (nI e)), (2, .int (nI v))] := hl
  refine lv_aload_n hx hb dX4_storeFault_23 rfl (lv_at hl 0 rfl) ?_
  refine lv_iload_n hx hb dX4_storeFault_24 rfl (lv_at hl 2 rfl) ?_
  refine zb_ci (va_runV (As := [.int (nI e)]) (rest := []) ⟨hx, hb, hml, hown, htb⟩ (c_ownsG l D a cA N f ob tr nd e he) (cwV 1 htb (wb_V kM_X4_264 kI_X1_owns kS_X1_owns kN_X1 kD_X1_owns) rfl rfl rfl (by decide +kernel) ⟨Nat.le_of_ble_eq_true rfl, Nat.le_of_ble_eq_true rfl⟩) (zp_V 4 rfl rfl hP hK hSt hS hnw) rfl rfl hl.1 rfl (lv_room (Nat.le_of_ble_eq_true rfl)) dX4_storeFault_25 ⟨Nat.le_of_ble_eq_true rfl, Nat.le_of_ble_eq_true rfl⟩) ?_
  refine zb_ti (y := 0) (owG0 e he (by omega)) ?_
  refine lv_if_eq (tgt := 66) hx hb dX4_storeFault_28 (by decide) (fun _ => ?_) (fun hno => absurd (by decide) hno)
  refine lv_iload_n hx hb dX4_storeFault_66 rfl (lv_at hl 3 rfl) ?_
  refine lv_sipush (v := 240) hx hb dX4_storeFault_67 (by decide) ?_
  refine lv_icmp_le (tgt := 84) hx hb dX4_storeFault_70 (by decide) (fun hc1 => ?_) (fun hc1 => ?_)
  · refine lv_iconst (v := 0) hx hb dX4_storeFault_84 (by decide) ?_
    refine lv_istore hx hb dX4_storeFault_85 hl (by decide) rfl (fun ls hl => ?_)
    have hl : lv_has ls 5 [(4, .int 0), (3, .ref (a 4)), (0, .ref (a 0)), (1, .int (nI e)), (2, .int (nI v))] := hl
    refine lv_iload_n hx hb dX4_storeFault_87 rfl (lv_at hl 3 rfl) ?_
    refine lv_bipush (v := 8) hx hb dX4_storeFault_88 (by decide) ?_
    refine lv_icmp_ne (tgt := 104) hx hb dX4_storeFault_90 (by decide) (fun _ => ?_) (fun hno => absurd hno (fun h => absurd ((nI_eq (b := 8) (by omega) (by decide)).mp h) he8))
    refine lv_iconst (v := 0) hx hb dX4_storeFault_104 (by decide) ?_
    rw [hQ]
    exact W.iret (v := 0) hx hb hr (fun t ht hW => ⟨congrArg (fun z => Outcome.returned (some (Value.int z))) (rfl), ht⟩) (fun q h => nomatch h) dX4_storeFault_105
  refine lv_iload_n hx hb dX4_storeFault_73 rfl (lv_at hl 3 rfl) ?_
  refine lv_sipush (v := 254) hx hb dX4_storeFault_74 (by decide) ?_
  refine lv_icmp_ge (tgt := 84) hx hb dX4_storeFault_77 (by decide) (fun hc2 => ?_) (fun hc2 => ?_)
  · refine lv_iconst (v := 0) hx hb dX4_storeFault_84 (by decide) ?_
    refine lv_istore hx hb dX4_storeFault_85 hl (by decide) rfl (fun ls hl => ?_)
    have hl : lv_has ls 5 [(4, .int 0), (3, .ref (a 4)), (0, .ref (a 0)), (1, .int (nI e)), (2, .int (nI v))] := hl
    refine lv_iload_n hx hb dX4_storeFault_87 rfl (lv_at hl 3 rfl) ?_
    refine lv_bipush (v := 8) hx hb dX4_storeFault_88 (by decide) ?_
    refine lv_icmp_ne (tgt := 104) hx hb dX4_storeFault_90 (by decide) (fun _ => ?_) (fun hno => absurd hno (fun h => absurd ((nI_eq (b := 8) (by omega) (by decide)).mp h) he8))
    refine lv_iconst (v := 0) hx hb dX4_storeFault_104 (by decide) ?_
    rw [hQ]
    exact W.iret (v := 0) hx hb hr (fun t ht hW => ⟨congrArg (fun z => Outcome.returned (some (Value.int z))) (rfl), ht⟩) (fun q h => nomatch h) dX4_storeFault_105
  refine lv_iconst (v := 1) hx hb dX4_storeFault_80 (by decide) ?_
  refine lv_goto (tgt := 85) hx hb dX4_storeFault_81 (by decide) ?_
  refine lv_istore hx hb dX4_storeFault_85 hl (by decide) rfl (fun ls hl => ?_)
  have hl : lv_has ls 5 [(4, .int 1), (3, .ref (a 4)), (0, .ref (a 0)), (1, .int (nI e)), (2, .int (nI v))] := hl
  refine lv_iload_n hx hb dX4_storeFault_87 rfl (lv_at hl 3 rfl) ?_
  refine lv_bipush (v := 8) hx hb dX4_storeFault_88 (by decide) ?_
  refine lv_icmp_ne (tgt := 104) hx hb dX4_storeFault_90 (by decide) (fun _ => ?_) (fun hno => absurd hno (fun h => absurd ((nI_eq (b := 8) (by omega) (by decide)).mp h) he8))
  refine lv_iconst (v := 0) hx hb dX4_storeFault_104 (by decide) ?_
  rw [hQ]
  exact W.iret (v := 0) hx hb hr (fun t ht hW => ⟨congrArg (fun z => Outcome.returned (some (Value.int z))) (rfl), ht⟩) (fun q h => nomatch h) dX4_storeFault_105
set_option maxHeartbeats 4000000 in
set_option maxRecDepth 100000 in
theorem c_storeFault (l : Launch) (D : va_G) (a : Nat → Nat) (cA : ClassId) (N : Int32) (f : Nat → Int32) (ob : OB) (tr : TR) (nd : ND) (e v : Nat) (hB : isB f) (hT : mapK f 3 6) (hG : mapK f 9 5) (he : e < 22) (hv1 : xZ e = 1 → v < 256) : Met l yX4_storeFault (wX4_storeFault :: wb) ({ frames := 3, cells := 0, slots := 0, locals := 72 } : Room) (va_Pc [.ref (a 0), .int (nI e), .int (nI v)] (zPu D [(cA, .int)] (cw a cA N f ob tr nd))) (zb_I (nI (stF nd.1 f e v))) 0 0 (fun _ => False) := by
  by_cases h3 : e = 3
  · rw [show stF nd.1 f e v = (if nd.1 = 127 then cF f 3 6 v else 134217762) by unfold stF; rw [if_pos h3]]
    exact c_stoT0 l D a cA N f ob tr nd e v hB hT hG he h3 (hv1 (by rw [h3]; rfl))
  by_cases h4 : 4 ≤ e ∧ e ≤ 7
  · rw [show stF nd.1 f e v = (if nd.1 = 127 then nF (cT f) 6 (nI v) else 134217762) by unfold stF; rw [if_neg h3, if_pos h4]]
    exact c_stoT1 l D a cA N f ob tr nd e v hB hT hG he h4.1 h4.2
  by_cases h9 : e = 9
  · rw [show stF nd.1 f e v = (if nd.1 = 127 then cF f 9 5 v else 134217762) by unfold stF; rw [if_neg h3, if_neg h4, if_pos h9]]
    exact c_stoG0 l D a cA N f ob tr nd e v hB hT hG he h9 (hv1 (by rw [h9]; rfl))
  by_cases h10 : 10 ≤ e ∧ e ≤ 13
  · rw [show stF nd.1 f e v = (if nd.1 = 127 then nF (cG f) 5 (nI v) else 134217762) by unfold stF; rw [if_neg h3, if_neg h4, if_neg h9, if_pos h10]]
    exact c_stoG1 l D a cA N f ob tr nd e v hB hT hG he h10.1 h10.2
  by_cases h8 : e = 8
  · rw [show stF nd.1 f e v = (if 240 < v ∧ v < 254 then 101253168 else 0) by unfold stF; rw [if_neg h3, if_neg h4, if_neg h9, if_neg h10, if_pos h8]]
    exact c_sto8 l D a cA N f ob tr nd e v hB hT hG he h8 (hv1 (by rw [h8]; rfl))
  · rw [show stF nd.1 f e v = 0 by unfold stF; rw [if_neg h3, if_neg h4, if_neg h9, if_neg h10, if_neg h8]]
    exact c_stoN l D a cA N f ob tr nd e v hB hT hG he h8 (by omega)
set_option maxHeartbeats 4000000 in
set_option maxRecDepth 100000 in
theorem c_store (l : Launch) (D : va_G) (a : Nat → Nat) (cA : ClassId) (N : Int32) (f : Nat → Int32) (ob : OB) (tr : TR) (nd : ND) (sz : Nat) (e0 d0 : Nat) (he0 : e0 < 22) (hen : tr.2.2.2.1 = nI e0) (hdn : tr.2.2.2.2.2.1 = nI d0) (hd0 : d0 ≤ xZ e0) : Met l yX4_store (wX4_store :: wb) ({ frames := 2, cells := 0, slots := 0, locals := 82 } : Room) (va_Pc [.ref (a 0)] (zPre D [(cA, .int)] (cw a cA N f ob tr nd) sz)) (zb_Vv D vwCl (cw a cA N (fSto f tr.1 e0) ob (tr_end tr) (nSto e0 nd)) (va_A (cw a cA N f ob tr nd) sz)) 0 0 (va_A (cw a cA N f ob tr nd) sz) := by
  refine Met.ofW (cc := cX4_store) (maxL := 2) (ret := none) (by decide) rfl ?_
  intro p ev s m args below meth c s₁ B hml hv
  obtain ⟨rfl, hsz, hP, hK, hD0, hSt, hnw⟩ := hv
  have hx := B.exec
  have hb := B.bytes
  have hr := B.returns
  have hts := atoms_spec (ws := wX4_store :: wb) B.pre
  have htb : ∀ w ∈ wb, w.before ([.ref (a 0)]).toArray s = true := fun w h => hts w (List.mem_cons_of_mem _ h)
  have hown : s.vm.findClass RX4 = some m.cls := findClass_of_methodNamed B.named
  have hlocks := B.notSynchronized
  subst hsz
  have hD := hD0.self (sz := s.heap.size)
  clear hD0
  generalize hAe : va_A (cw a cA N f ob tr nd) s.heap.size = A at hD hSt ⊢
  have hA : ∀ q : Nat, s.heap.size ≤ q → A q := fun q h => by rw [← hAe]; exact Or.inr h
  have hS : va_S A s.heap s.heap [] := va_S.rf
  obtain ⟨⟨tt, ff, hZT, hTT, hZF, hTF⟩, hXS⟩ := id hSt
  have hl := lv_entry ([.ref (a 0)]) (n := 2) (Nat.le_of_ble_eq_true rfl)
  rw [lg_entry_eq]
  generalize (lg_sl ([.ref (a 0)]) ++ List.replicate (2 - (lg_sl ([.ref (a 0)])).length) Slot.unset).toArray = ls at hl ⊢
  have hl : lv_has ls 2 [(0, .ref (a 0))] := hl
  refine zb_abs (fun Q hQ => ?_)
  obtain ⟨h0, go0, wr0, en0, ad0, dn0, tu0, ti0⟩ := tr
  obtain rfl : en0 = nI e0 := hen
  obtain rfl : dn0 = nI d0 := hdn
  have hft := x_fit e0 he0
  refine lv_aload_n hx hb dX4_store_0 rfl (lv_at hl 0 rfl) ?_
  refine va_get (D := D) (ci := 4) (v := .ref (a 7)) (fs := [.int N, .ref (a 1), .ref (a 3), .ref (a 4), .ref (a 5), .ref (a 7), .int nd.1, .int nd.2.1, .int nd.2.2.1, .long nd.2.2.2]) (C := RX4) (T := TX4) (N := 10) hx hb htb inX4 hown hK hP 0 rfl rfl 5 (by decide) (htb _ kF_X4_51) (fun _ h9 => h9) rfl dX4_store_1 ?_
  refine va_getN (D := D) (ci := 3) (v := .int (nI e0)) (fs := [.ref (a 8), .int go0, .int wr0, .int (nI e0), .int ad0, .int (nI d0), .int tu0, .int ti0]) (C := RX3) (T := TX3) (N := 8) hx hb htb inX3 hown hK hP 7 rfl rfl 3 (by decide) (va_Nw.use rfl (hnw _ kT_X4_235)) (fun _ h9 => h9) rfl dX4_store_4 ?_
  refine lv_istore_n hx hb dX4_store_7 rfl hl (by decide) rfl (fun ls hl => ?_)
  have hl : lv_has ls 2 [(1, .int (nI e0)), (0, .ref (a 0))] := hl
  refine lv_aload_n hx hb dX4_store_8 rfl (lv_at hl 1 rfl) ?_
  refine va_get (D := D) (ci := 4) (v := .ref (a 1)) (fs := [.int N, .ref (a 1), .ref (a 3), .ref (a 4), .ref (a 5), .ref (a 7), .int nd.1, .int nd.2.1, .int nd.2.2.1, .long nd.2.2.2]) (C := RX4) (T := TX4) (N := 10) hx hb htb inX4 hown hK hP 0 rfl rfl 1 (by decide) (htb _ kF_X4_25) (fun _ h9 => h9) rfl dX4_store_9 ?_
  refine lv_iload_n hx hb dX4_store_12 rfl (lv_at hl 0 rfl) ?_
  refine lv_aload_n hx hb dX4_store_13 rfl (lv_at hl 1 rfl) ?_
  refine va_get (D := D) (ci := 4) (v := .ref (a 7)) (fs := [.int N, .ref (a 1), .ref (a 3), .ref (a 4), .ref (a 5), .ref (a 7), .int nd.1, .int nd.2.1, .int nd.2.2.1, .long nd.2.2.2]) (C := RX4) (T := TX4) (N := 10) hx hb htb inX4 hown hK hP 0 rfl rfl 5 (by decide) (htb _ kF_X4_51) (fun _ h9 => h9) rfl dX4_store_14 ?_
  refine va_getN (D := D) (ci := 3) (v := .ref (a 8)) (fs := [.ref (a 8), .int go0, .int wr0, .int (nI e0), .int ad0, .int (nI d0), .int tu0, .int ti0]) (C := RX3) (T := TX3) (N := 8) hx hb htb inX3 hown hK hP 7 rfl rfl 0 (by decide) (va_Nw.use rfl (hnw _ kT_X4_278)) (fun _ h9 => h9) rfl dX4_store_17 ?_
  refine zb_cv (va_runV (As := [.int (nI e0), .ref (a 8)]) (rest := []) ⟨hx, hb, hml, hown, htb⟩ (c_fill l D a cA N f ob (h0, go0, wr0, nI e0, ad0, nI d0, tu0, ti0) nd _ e0 he0) (cwV 2 htb (wb_V kM_X4_282 kI_X0_fill kS_X0_fill kN_X0 kD_X0_fill) rfl rfl rfl (by decide +kernel) ⟨Nat.le_of_ble_eq_true rfl, Nat.le_of_ble_eq_true rfl⟩) (zp_VW 1 rfl rfl hP hD hK hSt hS hA hnw) rfl rfl hl.1 rfl (lv_room (Nat.le_of_ble_eq_true rfl)) dX4_store_20 ⟨Nat.le_of_ble_eq_true rfl, Nat.le_of_ble_eq_true rfl⟩) hD hS hA (fun H locs hP hD hS => ?_)
  have hP : va_P D vwCl (cw a cA N (va_cpy h0 f 0 (xP e0) (xZ e0)) ob (h0, go0, wr0, nI e0, ad0, nI d0, tu0, ti0) nd) H := hP
  have hD : va_D A (cw a cA N (va_cpy h0 f 0 (xP e0) (xZ e0)) ob (h0, go0, wr0, nI e0, ad0, nI d0, tu0, ti0) nd) := hD
  refine lv_iload_n hx hb dX4_store_23 rfl (lv_at hl 0 rfl) ?_
  refine lv_bipush (v := 8) hx hb dX4_store_24 (by decide) ?_
  refine lv_icmp_ne (tgt := 37) hx hb dX4_store_26 (by decide) (fun hc1 => ?_) (fun hc1 => ?_)
  · refine lv_iload_n hx hb dX4_store_37 rfl (lv_at hl 0 rfl) ?_
    refine lv_iconst (v := 2) hx hb dX4_store_38 (by decide) ?_
    refine lv_icmp_ne (tgt := 47) hx hb dX4_store_39 (by decide) (fun hc2 => ?_) (fun hc2 => ?_)
    · refine lv_aload_n hx hb dX4_store_47 rfl (lv_at hl 1 rfl) ?_
      refine va_get (D := D) (ci := 4) (v := .ref (a 7)) (fs := [.int N, .ref (a 1), .ref (a 3), .ref (a 4), .ref (a 5), .ref (a 7), .int nd.1, .int nd.2.1, .int nd.2.2.1, .long nd.2.2.2]) (C := RX4) (T := TX4) (N := 10) hx hb htb inX4 hown hK hP 0 rfl rfl 5 (by decide) (htb _ kF_X4_51) (fun _ h9 => h9) rfl dX4_store_48 ?_
      refine zb_cv (va_runV (As := []) (rest := []) ⟨hx, hb, hml, hown, htb⟩ (c_trEnd l D a cA N (va_cpy h0 f 0 (xP e0) (xZ e0)) ob (h0, go0, wr0, nI e0, ad0, nI d0, tu0, ti0) nd _ ) (cwV 0 htb (wb_V kM_X4_132 kI_X3_end kS_X3_end kN_X3 kD_X3_end) rfl rfl rfl (by decide +kernel) ⟨Nat.le_of_ble_eq_true rfl, Nat.le_of_ble_eq_true rfl⟩) (zp_VW 7 rfl rfl hP hD hK hSt hS hA hnw) rfl rfl hl.1 rfl (lv_room (Nat.le_of_ble_eq_true rfl)) dX4_store_51 ⟨Nat.le_of_ble_eq_true rfl, Nat.le_of_ble_eq_true rfl⟩) hD hS hA (fun H locs hP hD hS => ?_)
      have hP : va_P D vwCl (cw a cA N (va_cpy h0 f 0 (xP e0) (xZ e0)) ob (tr_end (h0, go0, wr0, nI e0, ad0, nI d0, tu0, ti0)) nd) H := hP
      have hD : va_D A (cw a cA N (va_cpy h0 f 0 (xP e0) (xZ e0)) ob (tr_end (h0, go0, wr0, nI e0, ad0, nI d0, tu0, ti0)) nd) := hD
      rw [hQ]
      have hw9 : (cw a cA N (va_cpy h0 f 0 (xP e0) (xZ e0)) ob (tr_end (h0, go0, wr0, nI e0, ad0, nI d0, tu0, ti0)) nd) = (cw a cA N (fSto f (h0, go0, wr0, nI e0, ad0, nI d0, tu0, ti0).1 e0) ob (tr_end (h0, go0, wr0, nI e0, ad0, nI d0, tu0, ti0)) (nSto e0 nd)) := by first | (simp only [nSto, if_neg hc1, if_neg hc2]; done) | (simp only [nSto, if_neg hc1, if_neg hc2]; rfl)
      exact W.vret hx hb hr (fun t ht hW => ⟨rfl, by rw [ht, ← hw9]; exact hP, by rw [← hw9]; exact hD, hS.F ht⟩) hS.2.2 dX4_store_54
    refine lv_aload_n hx hb dX4_store_42 rfl (lv_at hl 1 rfl) ?_
    refine lv_iconst (v := 0) hx hb dX4_store_43 (by decide) ?_
    refine va_put (D := D) (ci := 4) (v := .int 0) (fs := [.int N, .ref (a 1), .ref (a 3), .ref (a 4), .ref (a 5), .ref (a 7), .int nd.1, .int nd.2.1, .int nd.2.2.1, .long nd.2.2.2]) (ty := .int) (C := RX4) (T := TX4) (N := 10) hx hb htb inX4 tyX4 tyX4_ok nmX4 hown hK hP hD hS 0 rfl rfl 8 (by decide) (htb _ kF_X4_138) (fun _ h9 => h9) rfl (by decide +kernel) rfl rfl (Nat.le_of_ble_eq_true rfl) dX4_store_44 (fun H locs hP hD hS => ?_)
    have hP : va_P D vwCl (cw a cA N (va_cpy h0 f 0 (xP e0) (xZ e0)) ob (h0, go0, wr0, nI e0, ad0, nI d0, tu0, ti0) (nd.1, nd.2.1, 0, nd.2.2.2)) H := hP
    have hD : va_D A (cw a cA N (va_cpy h0 f 0 (xP e0) (xZ e0)) ob (h0, go0, wr0, nI e0, ad0, nI d0, tu0, ti0) (nd.1, nd.2.1, 0, nd.2.2.2)) := hD
    refine lv_aload_n hx hb dX4_store_47 rfl (lv_at hl 1 rfl) ?_
    refine va_get (D := D) (ci := 4) (v := .ref (a 7)) (fs := [.int N, .ref (a 1), .ref (a 3), .ref (a 4), .ref (a 5), .ref (a 7), .int nd.1, .int nd.2.1, .int 0, .long nd.2.2.2]) (C := RX4) (T := TX4) (N := 10) hx hb htb inX4 hown hK hP 0 rfl rfl 5 (by decide) (htb _ kF_X4_51) (fun _ h9 => h9) rfl dX4_store_48 ?_
    refine zb_cv (va_runV (As := []) (rest := []) ⟨hx, hb, hml, hown, htb⟩ (c_trEnd l D a cA N (va_cpy h0 f 0 (xP e0) (xZ e0)) ob (h0, go0, wr0, nI e0, ad0, nI d0, tu0, ti0) (nd.1, nd.2.1, 0, nd.2.2.2) _ ) (cwV 0 htb (wb_V kM_X4_132 kI_X3_end kS_X3_end kN_X3 kD_X3_end) rfl rfl rfl (by decide +kernel) ⟨Nat.le_of_ble_eq_true rfl, Nat.le_of_ble_eq_true rfl⟩) (zp_VW 7 rfl rfl hP hD hK hSt hS hA hnw) rfl rfl hl.1 rfl (lv_room (Nat.le_of_ble_eq_true rfl)) dX4_store_51 ⟨Nat.le_of_ble_eq_true rfl, Nat.le_of_ble_eq_true rfl⟩) hD hS hA (fun H locs hP hD hS => ?_)
    have hP : va_P D vwCl (cw a cA N (va_cpy h0 f 0 (xP e0) (xZ e0)) ob (tr_end (h0, go0, wr0, nI e0, ad0, nI d0, tu0, ti0)) (nd.1, nd.2.1, 0, nd.2.2.2)) H := hP
    have hD : va_D A (cw a cA N (va_cpy h0 f 0 (xP e0) (xZ e0)) ob (tr_end (h0, go0, wr0, nI e0, ad0, nI d0, tu0, ti0)) (nd.1, nd.2.1, 0, nd.2.2.2)) := hD
    rw [hQ]
    have hw9 : (cw a cA N (va_cpy h0 f 0 (xP e0) (xZ e0)) ob (tr_end (h0, go0, wr0, nI e0, ad0, nI d0, tu0, ti0)) (nd.1, nd.2.1, 0, nd.2.2.2)) = (cw a cA N (fSto f (h0, go0, wr0, nI e0, ad0, nI d0, tu0, ti0).1 e0) ob (tr_end (h0, go0, wr0, nI e0, ad0, nI d0, tu0, ti0)) (nSto e0 nd)) := by first | (simp only [nSto, if_neg hc1, if_pos hc2]; done) | (simp only [nSto, if_neg hc1, if_pos hc2]; rfl)
    exact W.vret hx hb hr (fun t ht hW => ⟨rfl, by rw [ht, ← hw9]; exact hP, by rw [← hw9]; exact hD, hS.F ht⟩) hS.2.2 dX4_store_54
  refine lv_aload_n hx hb dX4_store_29 rfl (lv_at hl 1 rfl) ?_
  refine lv_iconst (v := 0) hx hb dX4_store_30 (by decide) ?_
  refine va_put (D := D) (ci := 4) (v := .int 0) (fs := [.int N, .ref (a 1), .ref (a 3), .ref (a 4), .ref (a 5), .ref (a 7), .int nd.1, .int nd.2.1, .int nd.2.2.1, .long nd.2.2.2]) (ty := .int) (C := RX4) (T := TX4) (N := 10) hx hb htb inX4 tyX4 tyX4_ok nmX4 hown hK hP hD hS 0 rfl rfl 7 (by decide) (htb _ kF_X4_135) (fun _ h9 => h9) rfl (by decide +kernel) rfl rfl (Nat.le_of_ble_eq_true rfl) dX4_store_31 (fun H locs hP hD hS => ?_)
  have hP : va_P D vwCl (cw a cA N (va_cpy h0 f 0 (xP e0) (xZ e0)) ob (h0, go0, wr0, nI e0, ad0, nI d0, tu0, ti0) (nd.1, 0, nd.2.2.1, nd.2.2.2)) H := hP
  have hD : va_D A (cw a cA N (va_cpy h0 f 0 (xP e0) (xZ e0)) ob (h0, go0, wr0, nI e0, ad0, nI d0, tu0, ti0) (nd.1, 0, nd.2.2.1, nd.2.2.2)) := hD
  refine lv_goto (tgt := 47) hx hb dX4_store_34 (by decide) ?_
  refine lv_aload_n hx hb dX4_store_47 rfl (lv_at hl 1 rfl) ?_
  refine va_get (D := D) (ci := 4) (v := .ref (a 7)) (fs := [.int N, .ref (a 1), .ref (a 3), .ref (a 4), .ref (a 5), .ref (a 7), .int nd.1, .int 0, .int nd.2.2.1, .long nd.2.2.2]) (C := RX4) (T := TX4) (N := 10) hx hb htb inX4 hown hK hP 0 rfl rfl 5 (by decide) (htb _ kF_X4_51) (fun _ h9 => h9) rfl dX4_store_48 ?_
  refine zb_cv (va_runV (As := []) (rest := []) ⟨hx, hb, hml, hown, htb⟩ (c_trEnd l D a cA N (va_cpy h0 f 0 (xP e0) (xZ e0)) ob (h0, go0, wr0, nI e0, ad0, nI d0, tu0, ti0) (nd.1, 0, nd.2.2.1, nd.2.2.2) _ ) (cwV 0 htb (wb_V kM_X4_132 kI_X3_end kS_X3_end kN_X3 kD_X3_end) rfl rfl rfl (by decide +kernel) ⟨Nat.le_of_ble_eq_true rfl, Nat.le_of_ble_eq_true rfl⟩) (zp_VW 7 rfl rfl hP hD hK hSt hS hA hnw) rfl rfl hl.1 rfl (lv_room (Nat.le_of_ble_eq_true rfl)) dX4_store_51 ⟨Nat.le_of_ble_eq_true rfl, Nat.le_of_ble_eq_true rfl⟩) hD hS hA (fun H locs hP hD hS => ?_)
  have hP : va_P D vwCl (cw a cA N (va_cpy h0 f 0 (xP e0) (xZ e0)) ob (tr_end (h0, go0, wr0, nI e0, ad0, nI d0, tu0, ti0)) (nd.1, 0, nd.2.2.1, nd.2.2.2)) H := hP
  have hD : va_D A (cw a cA N (va_cpy h0 f 0 (xP e0) (xZ e0)) ob (tr_end (h0, go0, wr0, nI e0, ad0, nI d0, tu0, ti0)) (nd.1, 0, nd.2.2.1, nd.2.2.2)) := hD
  rw [hQ]
  have hw9 : (cw a cA N (va_cpy h0 f 0 (xP e0) (xZ e0)) ob (tr_end (h0, go0, wr0, nI e0, ad0, nI d0, tu0, ti0)) (nd.1, 0, nd.2.2.1, nd.2.2.2)) = (cw a cA N (fSto f (h0, go0, wr0, nI e0, ad0, nI d0, tu0, ti0).1 e0) ob (tr_end (h0, go0, wr0, nI e0, ad0, nI d0, tu0, ti0)) (nSto e0 nd)) := by first | (simp only [nSto, if_pos hc1]; done) | (simp only [nSto, if_pos hc1]; rfl)
  exact W.vret hx hb hr (fun t ht hW => ⟨rfl, by rw [ht, ← hw9]; exact hP, by rw [← hw9]; exact hD, hS.F ht⟩) hS.2.2 dX4_store_54
end
