section
-- ===== PART A: goes FIRST, ahead of the names: the tables' words, and 'selects' of the private methods out of them =====
/-- a private method of a class that the tables say can be made, by its rows of tables_1 -/
def lw_okq (q : MethodName × Nat) : Prop := (q.1.cls ≠ "java/lang/invoke/MethodHandle" ∧ q.1.cls ≠ "java/lang/invoke/VarHandle") ∧ Cond.instantiable q.1.cls q.2 ∈ tables_1 ∧ Cond.privateMethod q.1 ∈ tables_1 ∧ Cond.instanceMethod q.1 ∈ tables_1
theorem lw_p0 : lw_okq (⟨"FreshAllotter$TextReader", "readGoods", "()Z"⟩, 5) := ⟨⟨by decide +kernel, by decide +kernel⟩, List.mem_of_getElem? (i := 143) (by decide +kernel), List.mem_of_getElem? (i := 289) (by decide +kernel), List.mem_of_getElem? (i := 290) (by decide +kernel)⟩
theorem lw_p1 : lw_okq (⟨"FreshAllotter$Tokens", "skipBlanks", "()V"⟩, 5) := ⟨⟨by decide +kernel, by decide +kernel⟩, List.mem_of_getElem? (i := 149) (by decide +kernel), List.mem_of_getElem? (i := 297) (by decide +kernel), List.mem_of_getElem? (i := 298) (by decide +kernel)⟩
theorem lw_p2 : lw_okq (⟨"FreshAllotter$Tokens", "readRun", "()V"⟩, 5) := ⟨⟨by decide +kernel, by decide +kernel⟩, List.mem_of_getElem? (i := 149) (by decide +kernel), List.mem_of_getElem? (i := 301) (by decide +kernel), List.mem_of_getElem? (i := 302) (by decide +kernel)⟩
theorem lw_p3 : lw_okq (⟨"FreshAllotter$Tokens", "wordKind", "()I"⟩, 5) := ⟨⟨by decide +kernel, by decide +kernel⟩, List.mem_of_getElem? (i := 149) (by decide +kernel), List.mem_of_getElem? (i := 311) (by decide +kernel), List.mem_of_getElem? (i := 312) (by decide +kernel)⟩
theorem lw_p4 : lw_okq (⟨"FreshAllotter$Tokens", "spells", "(Ljava/lang/String;)Z"⟩, 5) := ⟨⟨by decide +kernel, by decide +kernel⟩, List.mem_of_getElem? (i := 149) (by decide +kernel), List.mem_of_getElem? (i := 316) (by decide +kernel), List.mem_of_getElem? (i := 317) (by decide +kernel)⟩
theorem lw_p5 : lw_okq (⟨"FreshAllotter$TextReader", "refuse", "(I)Z"⟩, 5) := ⟨⟨by decide +kernel, by decide +kernel⟩, List.mem_of_getElem? (i := 143) (by decide +kernel), List.mem_of_getElem? (i := 371) (by decide +kernel), List.mem_of_getElem? (i := 372) (by decide +kernel)⟩
theorem lw_p6 : lw_okq (⟨"FreshAllotter$TextReader", "readNumber", "(II)I"⟩, 5) := ⟨⟨by decide +kernel, by decide +kernel⟩, List.mem_of_getElem? (i := 143) (by decide +kernel), List.mem_of_getElem? (i := 375) (by decide +kernel), List.mem_of_getElem? (i := 376) (by decide +kernel)⟩
theorem lw_p7 : lw_okq (⟨"FreshAllotter$TextReader", "readStop", "()Z"⟩, 5) := ⟨⟨by decide +kernel, by decide +kernel⟩, List.mem_of_getElem? (i := 143) (by decide +kernel), List.mem_of_getElem? (i := 379) (by decide +kernel), List.mem_of_getElem? (i := 380) (by decide +kernel)⟩
theorem lw_p8 : lw_okq (⟨"FreshAllotter$TextReader", "readFurtherLines", "()Z"⟩, 5) := ⟨⟨by decide +kernel, by decide +kernel⟩, List.mem_of_getElem? (i := 143) (by decide +kernel), List.mem_of_getElem? (i := 383) (by decide +kernel), List.mem_of_getElem? (i := 384) (by decide +kernel)⟩
theorem lw_p9 : lw_okq (⟨"FreshAllotter$TextReader", "readLine", "(I)Z"⟩, 5) := ⟨⟨by decide +kernel, by decide +kernel⟩, List.mem_of_getElem? (i := 143) (by decide +kernel), List.mem_of_getElem? (i := 387) (by decide +kernel), List.mem_of_getElem? (i := 388) (by decide +kernel)⟩
theorem lw_p10 : lw_okq (⟨"FreshAllotter$TextReader", "readCustomer", "()Z"⟩, 5) := ⟨⟨by decide +kernel, by decide +kernel⟩, List.mem_of_getElem? (i := 143) (by decide +kernel), List.mem_of_getElem? (i := 391) (by decide +kernel), List.mem_of_getElem? (i := 392) (by decide +kernel)⟩
theorem lw_p11 : lw_okq (⟨"FreshAllotter$TextReader", "readLot", "()Z"⟩, 5) := ⟨⟨by decide +kernel, by decide +kernel⟩, List.mem_of_getElem? (i := 143) (by decide +kernel), List.mem_of_getElem? (i := 399) (by decide +kernel), List.mem_of_getElem? (i := 400) (by decide +kernel)⟩
theorem lw_p12 : lw_okq (⟨"FreshAllotter$TextReader", "readOrder", "()Z"⟩, 5) := ⟨⟨by decide +kernel, by decide +kernel⟩, List.mem_of_getElem? (i := 143) (by decide +kernel), List.mem_of_getElem? (i := 407) (by decide +kernel), List.mem_of_getElem? (i := 408) (by decide +kernel)⟩
theorem lw_p13 : lw_okq (⟨"FreshAllotter$Stock", "cell", "(II)I"⟩, 20) := ⟨⟨by decide +kernel, by decide +kernel⟩, List.mem_of_getElem? (i := 45) (by decide +kernel), List.mem_of_getElem? (i := 476) (by decide +kernel), List.mem_of_getElem? (i := 477) (by decide +kernel)⟩
theorem lw_p14 : lw_okq (⟨"FreshAllotter$Planner", "gatherLots", "(I)V"⟩, 7) := ⟨⟨by decide +kernel, by decide +kernel⟩, List.mem_of_getElem? (i := 193) (by decide +kernel), List.mem_of_getElem? (i := 518) (by decide +kernel), List.mem_of_getElem? (i := 519) (by decide +kernel)⟩
theorem lw_p15 : lw_okq (⟨"FreshAllotter$Planner", "insertLot", "(I)V"⟩, 7) := ⟨⟨by decide +kernel, by decide +kernel⟩, List.mem_of_getElem? (i := 193) (by decide +kernel), List.mem_of_getElem? (i := 522) (by decide +kernel), List.mem_of_getElem? (i := 523) (by decide +kernel)⟩
def lw_privs_1 : List (MethodName × Nat) := [(⟨"FreshAllotter$TextReader", "readGoods", "()Z"⟩, 5), (⟨"FreshAllotter$Tokens", "skipBlanks", "()V"⟩, 5), (⟨"FreshAllotter$Tokens", "readRun", "()V"⟩, 5), (⟨"FreshAllotter$Tokens", "wordKind", "()I"⟩, 5), (⟨"FreshAllotter$Tokens", "spells", "(Ljava/lang/String;)Z"⟩, 5), (⟨"FreshAllotter$TextReader", "refuse", "(I)Z"⟩, 5), (⟨"FreshAllotter$TextReader", "readNumber", "(II)I"⟩, 5), (⟨"FreshAllotter$TextReader", "readStop", "()Z"⟩, 5), (⟨"FreshAllotter$TextReader", "readFurtherLines", "()Z"⟩, 5), (⟨"FreshAllotter$TextReader", "readLine", "(I)Z"⟩, 5), (⟨"FreshAllotter$TextReader", "readCustomer", "()Z"⟩, 5), (⟨"FreshAllotter$TextReader", "readLot", "()Z"⟩, 5), (⟨"FreshAllotter$TextReader", "readOrder", "()Z"⟩, 5), (⟨"FreshAllotter$Stock", "cell", "(II)I"⟩, 20), (⟨"FreshAllotter$Planner", "gatherLots", "(I)V"⟩, 7), (⟨"FreshAllotter$Planner", "insertLot", "(I)V"⟩, 7)]
theorem lw_r1 : ∀ q ∈ lw_privs_1, lw_okq q := List.forall_mem_cons.mpr ⟨lw_p0, List.forall_mem_cons.mpr ⟨lw_p1, List.forall_mem_cons.mpr ⟨lw_p2, List.forall_mem_cons.mpr ⟨lw_p3, List.forall_mem_cons.mpr ⟨lw_p4, List.forall_mem_cons.mpr ⟨lw_p5, List.forall_mem_cons.mpr ⟨lw_p6, List.forall_mem_cons.mpr ⟨lw_p7, List.forall_mem_cons.mpr ⟨lw_p8, List.forall_mem_cons.mpr ⟨lw_p9, List.forall_mem_cons.mpr ⟨lw_p10, List.forall_mem_cons.mpr ⟨lw_p11, List.forall_mem_cons.mpr ⟨lw_p12, List.forall_mem_cons.mpr ⟨lw_p13, List.forall_mem_cons.mpr ⟨lw_p14, List.forall_mem_cons.mpr ⟨lw_p15, fun _ h => absurd h List.not_mem_nil⟩⟩⟩⟩⟩⟩⟩⟩⟩⟩⟩⟩⟩⟩⟩⟩
theorem lw_p16 : lw_okq (⟨"FreshAllotter$Planner", "gatherOrders", "(I)V"⟩, 7) := ⟨⟨by decide +kernel, by decide +kernel⟩, List.mem_of_getElem? (i := 193) (by decide +kernel), List.mem_of_getElem? (i := 526) (by decide +kernel), List.mem_of_getElem? (i := 527) (by decide +kernel)⟩
theorem lw_p17 : lw_okq (⟨"FreshAllotter$Planner", "insertOrder", "(I)V"⟩, 7) := ⟨⟨by decide +kernel, by decide +kernel⟩, List.mem_of_getElem? (i := 193) (by decide +kernel), List.mem_of_getElem? (i := 531) (by decide +kernel), List.mem_of_getElem? (i := 532) (by decide +kernel)⟩
theorem lw_p18 : lw_okq (⟨"FreshAllotter$Planner", "serve", "(I)V"⟩, 7) := ⟨⟨by decide +kernel, by decide +kernel⟩, List.mem_of_getElem? (i := 193) (by decide +kernel), List.mem_of_getElem? (i := 535) (by decide +kernel), List.mem_of_getElem? (i := 536) (by decide +kernel)⟩
theorem lw_p19 : lw_okq (⟨"FreshAllotter$Planner", "turnOf", "(I)I"⟩, 7) := ⟨⟨by decide +kernel, by decide +kernel⟩, List.mem_of_getElem? (i := 193) (by decide +kernel), List.mem_of_getElem? (i := 548) (by decide +kernel), List.mem_of_getElem? (i := 549) (by decide +kernel)⟩
theorem lw_p20 : lw_okq (⟨"FreshAllotter", "isOrder", "(IIII)Z"⟩, 6) := ⟨⟨by decide +kernel, by decide +kernel⟩, List.mem_of_getElem? (i := 20) (by decide +kernel), List.mem_of_getElem? (i := 577) (by decide +kernel), List.mem_of_getElem? (i := 578) (by decide +kernel)⟩
theorem lw_p21 : lw_okq (⟨"FreshAllotter", "isFilledWith", "(II)Z"⟩, 6) := ⟨⟨by decide +kernel, by decide +kernel⟩, List.mem_of_getElem? (i := 20) (by decide +kernel), List.mem_of_getElem? (i := 590) (by decide +kernel), List.mem_of_getElem? (i := 591) (by decide +kernel)⟩
theorem lw_p22 : lw_okq (⟨"FreshAllotter$Stock", "release", "(II)I"⟩, 20) := ⟨⟨by decide +kernel, by decide +kernel⟩, List.mem_of_getElem? (i := 45) (by decide +kernel), List.mem_of_getElem? (i := 636) (by decide +kernel), List.mem_of_getElem? (i := 637) (by decide +kernel)⟩
theorem lw_p23 : lw_okq (⟨"FreshAllotter$Stock", "writeOff", "(I)V"⟩, 20) := ⟨⟨by decide +kernel, by decide +kernel⟩, List.mem_of_getElem? (i := 45) (by decide +kernel), List.mem_of_getElem? (i := 673) (by decide +kernel), List.mem_of_getElem? (i := 674) (by decide +kernel)⟩
theorem lw_p24 : lw_okq (⟨"java/lang/Throwable", "fillInStackTrace", "(I)Ljava/lang/Throwable;"⟩, 6) := ⟨⟨by decide +kernel, by decide +kernel⟩, List.mem_of_getElem? (i := 729) (by decide +kernel), List.mem_of_getElem? (i := 727) (by decide +kernel), List.mem_of_getElem? (i := 728) (by decide +kernel)⟩
theorem lw_p25 : lw_okq (⟨"FreshAllotterModel", "lays", "(I)V"⟩, 28) := ⟨⟨by decide +kernel, by decide +kernel⟩, List.mem_of_getElem? (i := 778) (by decide +kernel), List.mem_of_getElem? (i := 776) (by decide +kernel), List.mem_of_getElem? (i := 777) (by decide +kernel)⟩
theorem lw_p26 : lw_okq (⟨"FreshAllotterModel", "go", "()V"⟩, 28) := ⟨⟨by decide +kernel, by decide +kernel⟩, List.mem_of_getElem? (i := 778) (by decide +kernel), List.mem_of_getElem? (i := 880) (by decide +kernel), List.mem_of_getElem? (i := 881) (by decide +kernel)⟩
theorem lw_p27 : lw_okq (⟨"FreshAllotterModel", "tapeAt", "(I)I"⟩, 28) := ⟨⟨by decide +kernel, by decide +kernel⟩, List.mem_of_getElem? (i := 778) (by decide +kernel), List.mem_of_getElem? (i := 890) (by decide +kernel), List.mem_of_getElem? (i := 891) (by decide +kernel)⟩
theorem lw_p28 : lw_okq (⟨"FreshAllotterModel", "readWhole", "()Z"⟩, 28) := ⟨⟨by decide +kernel, by decide +kernel⟩, List.mem_of_getElem? (i := 778) (by decide +kernel), List.mem_of_getElem? (i := 896) (by decide +kernel), List.mem_of_getElem? (i := 897) (by decide +kernel)⟩
theorem lw_p29 : lw_okq (⟨"FreshAllotterModel", "readGoods", "()Z"⟩, 28) := ⟨⟨by decide +kernel, by decide +kernel⟩, List.mem_of_getElem? (i := 778) (by decide +kernel), List.mem_of_getElem? (i := 900) (by decide +kernel), List.mem_of_getElem? (i := 901) (by decide +kernel)⟩
theorem lw_p30 : lw_okq (⟨"FreshAllotterModel", "isWord", "(J)Z"⟩, 28) := ⟨⟨by decide +kernel, by decide +kernel⟩, List.mem_of_getElem? (i := 778) (by decide +kernel), List.mem_of_getElem? (i := 910) (by decide +kernel), List.mem_of_getElem? (i := 911) (by decide +kernel)⟩
theorem lw_p31 : lw_okq (⟨"FreshAllotterModel", "bad", "(I)Z"⟩, 28) := ⟨⟨by decide +kernel, by decide +kernel⟩, List.mem_of_getElem? (i := 778) (by decide +kernel), List.mem_of_getElem? (i := 914) (by decide +kernel), List.mem_of_getElem? (i := 915) (by decide +kernel)⟩
def lw_privs_2 : List (MethodName × Nat) := [(⟨"FreshAllotter$Planner", "gatherOrders", "(I)V"⟩, 7), (⟨"FreshAllotter$Planner", "insertOrder", "(I)V"⟩, 7), (⟨"FreshAllotter$Planner", "serve", "(I)V"⟩, 7), (⟨"FreshAllotter$Planner", "turnOf", "(I)I"⟩, 7), (⟨"FreshAllotter", "isOrder", "(IIII)Z"⟩, 6), (⟨"FreshAllotter", "isFilledWith", "(II)Z"⟩, 6), (⟨"FreshAllotter$Stock", "release", "(II)I"⟩, 20), (⟨"FreshAllotter$Stock", "writeOff", "(I)V"⟩, 20), (⟨"java/lang/Throwable", "fillInStackTrace", "(I)Ljava/lang/Throwable;"⟩, 6), (⟨"FreshAllotterModel", "lays", "(I)V"⟩, 28), (⟨"FreshAllotterModel", "go", "()V"⟩, 28), (⟨"FreshAllotterModel", "tapeAt", "(I)I"⟩, 28), (⟨"FreshAllotterModel", "readWhole", "()Z"⟩, 28), (⟨"FreshAllotterModel", "readGoods", "()Z"⟩, 28), (⟨"FreshAllotterModel", "isWord", "(J)Z"⟩, 28), (⟨"FreshAllotterModel", "bad", "(I)Z"⟩, 28)]
theorem lw_r2 : ∀ q ∈ lw_privs_2, lw_okq q := List.forall_mem_cons.mpr ⟨lw_p16, List.forall_mem_cons.mpr ⟨lw_p17, List.forall_mem_cons.mpr ⟨lw_p18, List.forall_mem_cons.mpr ⟨lw_p19, List.forall_mem_cons.mpr ⟨lw_p20, List.forall_mem_cons.mpr ⟨lw_p21, List.forall_mem_cons.mpr ⟨lw_p22, List.forall_mem_cons.mpr ⟨lw_p23, List.forall_mem_cons.mpr ⟨lw_p24, List.forall_mem_cons.mpr ⟨lw_p25, List.forall_mem_cons.mpr ⟨lw_p26, List.forall_mem_cons.mpr ⟨lw_p27, List.forall_mem_cons.mpr ⟨lw_p28, List.forall_mem_cons.mpr ⟨lw_p29, List.forall_mem_cons.mpr ⟨lw_p30, List.forall_mem_cons.mpr ⟨lw_p31, fun _ h => absurd h List.not_mem_nil⟩⟩⟩⟩⟩⟩⟩⟩⟩⟩⟩⟩⟩⟩⟩⟩
theorem lw_p32 : lw_okq (⟨"FreshAllotterModel", "told", "(III)Z"⟩, 28) := ⟨⟨by decide +kernel, by decide +kernel⟩, List.mem_of_getElem? (i := 778) (by decide +kernel), List.mem_of_getElem? (i := 918) (by decide +kernel), List.mem_of_getElem? (i := 919) (by decide +kernel)⟩
theorem lw_p33 : lw_okq (⟨"FreshAllotterModel", "readEnd", "()Z"⟩, 28) := ⟨⟨by decide +kernel, by decide +kernel⟩, List.mem_of_getElem? (i := 778) (by decide +kernel), List.mem_of_getElem? (i := 925) (by decide +kernel), List.mem_of_getElem? (i := 926) (by decide +kernel)⟩
theorem lw_p34 : lw_okq (⟨"FreshAllotterModel", "readAll", "(I)Z"⟩, 28) := ⟨⟨by decide +kernel, by decide +kernel⟩, List.mem_of_getElem? (i := 778) (by decide +kernel), List.mem_of_getElem? (i := 929) (by decide +kernel), List.mem_of_getElem? (i := 930) (by decide +kernel)⟩
theorem lw_p35 : lw_okq (⟨"FreshAllotterModel", "isSort", "(I)Z"⟩, 28) := ⟨⟨by decide +kernel, by decide +kernel⟩, List.mem_of_getElem? (i := 778) (by decide +kernel), List.mem_of_getElem? (i := 933) (by decide +kernel), List.mem_of_getElem? (i := 934) (by decide +kernel)⟩
theorem lw_p36 : lw_okq (⟨"FreshAllotterModel", "readCustomer", "()Z"⟩, 28) := ⟨⟨by decide +kernel, by decide +kernel⟩, List.mem_of_getElem? (i := 778) (by decide +kernel), List.mem_of_getElem? (i := 940) (by decide +kernel), List.mem_of_getElem? (i := 941) (by decide +kernel)⟩
theorem lw_p37 : lw_okq (⟨"FreshAllotterModel", "readLot", "()Z"⟩, 28) := ⟨⟨by decide +kernel, by decide +kernel⟩, List.mem_of_getElem? (i := 778) (by decide +kernel), List.mem_of_getElem? (i := 944) (by decide +kernel), List.mem_of_getElem? (i := 945) (by decide +kernel)⟩
theorem lw_p38 : lw_okq (⟨"FreshAllotterModel", "readOrder", "()Z"⟩, 28) := ⟨⟨by decide +kernel, by decide +kernel⟩, List.mem_of_getElem? (i := 778) (by decide +kernel), List.mem_of_getElem? (i := 948) (by decide +kernel), List.mem_of_getElem? (i := 949) (by decide +kernel)⟩
theorem lw_p39 : lw_okq (⟨"FreshAllotterModel", "isAskedFor", "([III)Z"⟩, 28) := ⟨⟨by decide +kernel, by decide +kernel⟩, List.mem_of_getElem? (i := 778) (by decide +kernel), List.mem_of_getElem? (i := 952) (by decide +kernel), List.mem_of_getElem? (i := 953) (by decide +kernel)⟩
theorem lw_p40 : lw_okq (⟨"FreshAllotterModel", "today", "()I"⟩, 28) := ⟨⟨by decide +kernel, by decide +kernel⟩, List.mem_of_getElem? (i := 778) (by decide +kernel), List.mem_of_getElem? (i := 964) (by decide +kernel), List.mem_of_getElem? (i := 965) (by decide +kernel)⟩
theorem lw_p41 : lw_okq (⟨"FreshAllotterModel", "openMany", "()I"⟩, 28) := ⟨⟨by decide +kernel, by decide +kernel⟩, List.mem_of_getElem? (i := 778) (by decide +kernel), List.mem_of_getElem? (i := 968) (by decide +kernel), List.mem_of_getElem? (i := 969) (by decide +kernel)⟩
theorem lw_p42 : lw_okq (⟨"FreshAllotterModel", "isOpen", "(I)Z"⟩, 28) := ⟨⟨by decide +kernel, by decide +kernel⟩, List.mem_of_getElem? (i := 778) (by decide +kernel), List.mem_of_getElem? (i := 972) (by decide +kernel), List.mem_of_getElem? (i := 973) (by decide +kernel)⟩
theorem lw_p43 : lw_okq (⟨"FreshAllotterModel", "isOrder", "(I)Z"⟩, 28) := ⟨⟨by decide +kernel, by decide +kernel⟩, List.mem_of_getElem? (i := 778) (by decide +kernel), List.mem_of_getElem? (i := 976) (by decide +kernel), List.mem_of_getElem? (i := 977) (by decide +kernel)⟩
theorem lw_p44 : lw_okq (⟨"FreshAllotterModel", "ordered", "(II)I"⟩, 28) := ⟨⟨by decide +kernel, by decide +kernel⟩, List.mem_of_getElem? (i := 778) (by decide +kernel), List.mem_of_getElem? (i := 980) (by decide +kernel), List.mem_of_getElem? (i := 981) (by decide +kernel)⟩
theorem lw_p45 : lw_okq (⟨"FreshAllotterModel", "sumOf", "(I)I"⟩, 28) := ⟨⟨by decide +kernel, by decide +kernel⟩, List.mem_of_getElem? (i := 778) (by decide +kernel), List.mem_of_getElem? (i := 984) (by decide +kernel), List.mem_of_getElem? (i := 985) (by decide +kernel)⟩
theorem lw_p46 : lw_okq (⟨"FreshAllotterModel", "lies", "(II)I"⟩, 28) := ⟨⟨by decide +kernel, by decide +kernel⟩, List.mem_of_getElem? (i := 778) (by decide +kernel), List.mem_of_getElem? (i := 988) (by decide +kernel), List.mem_of_getElem? (i := 989) (by decide +kernel)⟩
theorem lw_p47 : lw_okq (⟨"FreshAllotterModel", "ofLot", "(I)I"⟩, 28) := ⟨⟨by decide +kernel, by decide +kernel⟩, List.mem_of_getElem? (i := 778) (by decide +kernel), List.mem_of_getElem? (i := 992) (by decide +kernel), List.mem_of_getElem? (i := 993) (by decide +kernel)⟩
def lw_privs_3 : List (MethodName × Nat) := [(⟨"FreshAllotterModel", "told", "(III)Z"⟩, 28), (⟨"FreshAllotterModel", "readEnd", "()Z"⟩, 28), (⟨"FreshAllotterModel", "readAll", "(I)Z"⟩, 28), (⟨"FreshAllotterModel", "isSort", "(I)Z"⟩, 28), (⟨"FreshAllotterModel", "readCustomer", "()Z"⟩, 28), (⟨"FreshAllotterModel", "readLot", "()Z"⟩, 28), (⟨"FreshAllotterModel", "readOrder", "()Z"⟩, 28), (⟨"FreshAllotterModel", "isAskedFor", "([III)Z"⟩, 28), (⟨"FreshAllotterModel", "today", "()I"⟩, 28), (⟨"FreshAllotterModel", "openMany", "()I"⟩, 28), (⟨"FreshAllotterModel", "isOpen", "(I)Z"⟩, 28), (⟨"FreshAllotterModel", "isOrder", "(I)Z"⟩, 28), (⟨"FreshAllotterModel", "ordered", "(II)I"⟩, 28), (⟨"FreshAllotterModel", "sumOf", "(I)I"⟩, 28), (⟨"FreshAllotterModel", "lies", "(II)I"⟩, 28), (⟨"FreshAllotterModel", "ofLot", "(I)I"⟩, 28)]
theorem lw_r3 : ∀ q ∈ lw_privs_3, lw_okq q := List.forall_mem_cons.mpr ⟨lw_p32, List.forall_mem_cons.mpr ⟨lw_p33, List.forall_mem_cons.mpr ⟨lw_p34, List.forall_mem_cons.mpr ⟨lw_p35, List.forall_mem_cons.mpr ⟨lw_p36, List.forall_mem_cons.mpr ⟨lw_p37, List.forall_mem_cons.mpr ⟨lw_p38, List.forall_mem_cons.mpr ⟨lw_p39, List.forall_mem_cons.mpr ⟨lw_p40, List.forall_mem_cons.mpr ⟨lw_p41, List.forall_mem_cons.mpr ⟨lw_p42, List.forall_mem_cons.mpr ⟨lw_p43, List.forall_mem_cons.mpr ⟨lw_p44, List.forall_mem_cons.mpr ⟨lw_p45, List.forall_mem_cons.mpr ⟨lw_p46, List.forall_mem_cons.mpr ⟨lw_p47, fun _ h => absurd h List.not_mem_nil⟩⟩⟩⟩⟩⟩⟩⟩⟩⟩⟩⟩⟩⟩⟩⟩
theorem lw_p48 : lw_okq (⟨"FreshAllotterModel", "cell", "(II)I"⟩, 28) := ⟨⟨by decide +kernel, by decide +kernel⟩, List.mem_of_getElem? (i := 778) (by decide +kernel), List.mem_of_getElem? (i := 996) (by decide +kernel), List.mem_of_getElem? (i := 997) (by decide +kernel)⟩
theorem lw_p49 : lw_okq (⟨"FreshAllotterModel", "isLot", "(I)Z"⟩, 28) := ⟨⟨by decide +kernel, by decide +kernel⟩, List.mem_of_getElem? (i := 778) (by decide +kernel), List.mem_of_getElem? (i := 1004) (by decide +kernel), List.mem_of_getElem? (i := 1005) (by decide +kernel)⟩
theorem lw_p50 : lw_okq (⟨"FreshAllotterModel", "refuse", "()I"⟩, 28) := ⟨⟨by decide +kernel, by decide +kernel⟩, List.mem_of_getElem? (i := 778) (by decide +kernel), List.mem_of_getElem? (i := 1008) (by decide +kernel), List.mem_of_getElem? (i := 1009) (by decide +kernel)⟩
theorem lw_p51 : lw_okq (⟨"FreshAllotterModel", "forOrder", "(I)I"⟩, 28) := ⟨⟨by decide +kernel, by decide +kernel⟩, List.mem_of_getElem? (i := 778) (by decide +kernel), List.mem_of_getElem? (i := 1016) (by decide +kernel), List.mem_of_getElem? (i := 1017) (by decide +kernel)⟩
theorem lw_p52 : lw_okq (⟨"FreshAllotterModel", "isCustomerThere", "(I)Z"⟩, 28) := ⟨⟨by decide +kernel, by decide +kernel⟩, List.mem_of_getElem? (i := 778) (by decide +kernel), List.mem_of_getElem? (i := 1028) (by decide +kernel), List.mem_of_getElem? (i := 1029) (by decide +kernel)⟩
theorem lw_p53 : lw_okq (⟨"FreshAllotterModel", "lifeOf", "(I)I"⟩, 28) := ⟨⟨by decide +kernel, by decide +kernel⟩, List.mem_of_getElem? (i := 778) (by decide +kernel), List.mem_of_getElem? (i := 1032) (by decide +kernel), List.mem_of_getElem? (i := 1033) (by decide +kernel)⟩
theorem lw_p54 : lw_okq (⟨"FreshAllotterModel", "isGood", "(I)Z"⟩, 28) := ⟨⟨by decide +kernel, by decide +kernel⟩, List.mem_of_getElem? (i := 778) (by decide +kernel), List.mem_of_getElem? (i := 1036) (by decide +kernel), List.mem_of_getElem? (i := 1037) (by decide +kernel)⟩
theorem lw_p55 : lw_okq (⟨"FreshAllotterModel", "isFit", "(II)Z"⟩, 28) := ⟨⟨by decide +kernel, by decide +kernel⟩, List.mem_of_getElem? (i := 778) (by decide +kernel), List.mem_of_getElem? (i := 1044) (by decide +kernel), List.mem_of_getElem? (i := 1045) (by decide +kernel)⟩
theorem lw_p56 : lw_okq (⟨"FreshAllotterModel", "isFor", "(IIIII)Z"⟩, 28) := ⟨⟨by decide +kernel, by decide +kernel⟩, List.mem_of_getElem? (i := 778) (by decide +kernel), List.mem_of_getElem? (i := 1048) (by decide +kernel), List.mem_of_getElem? (i := 1049) (by decide +kernel)⟩
theorem lw_p57 : lw_okq (⟨"FreshAllotterModel", "plansNow", "(I)V"⟩, 28) := ⟨⟨by decide +kernel, by decide +kernel⟩, List.mem_of_getElem? (i := 778) (by decide +kernel), List.mem_of_getElem? (i := 1056) (by decide +kernel), List.mem_of_getElem? (i := 1057) (by decide +kernel)⟩
theorem lw_p58 : lw_okq (⟨"FreshAllotterModel", "laysGots", "(IIIZIII)V"⟩, 28) := ⟨⟨by decide +kernel, by decide +kernel⟩, List.mem_of_getElem? (i := 778) (by decide +kernel), List.mem_of_getElem? (i := 1060) (by decide +kernel), List.mem_of_getElem? (i := 1061) (by decide +kernel)⟩
theorem lw_p59 : lw_okq (⟨"FreshAllotterModel", "laysRows", "(IIIZIII)V"⟩, 28) := ⟨⟨by decide +kernel, by decide +kernel⟩, List.mem_of_getElem? (i := 778) (by decide +kernel), List.mem_of_getElem? (i := 1064) (by decide +kernel), List.mem_of_getElem? (i := 1065) (by decide +kernel)⟩
theorem lw_p60 : lw_okq (⟨"FreshAllotterModel", "puts", "(II)V"⟩, 28) := ⟨⟨by decide +kernel, by decide +kernel⟩, List.mem_of_getElem? (i := 778) (by decide +kernel), List.mem_of_getElem? (i := 1068) (by decide +kernel), List.mem_of_getElem? (i := 1069) (by decide +kernel)⟩
theorem lw_p61 : lw_okq (⟨"FreshAllotterModel", "dayOf", "(I)I"⟩, 28) := ⟨⟨by decide +kernel, by decide +kernel⟩, List.mem_of_getElem? (i := 778) (by decide +kernel), List.mem_of_getElem? (i := 1072) (by decide +kernel), List.mem_of_getElem? (i := 1073) (by decide +kernel)⟩
theorem lw_p62 : lw_okq (⟨"FreshAllotterModel", "putsLot", "(I)V"⟩, 28) := ⟨⟨by decide +kernel, by decide +kernel⟩, List.mem_of_getElem? (i := 778) (by decide +kernel), List.mem_of_getElem? (i := 1076) (by decide +kernel), List.mem_of_getElem? (i := 1077) (by decide +kernel)⟩
theorem lw_p63 : lw_okq (⟨"FreshAllotterModel", "hasGot", "(I)I"⟩, 28) := ⟨⟨by decide +kernel, by decide +kernel⟩, List.mem_of_getElem? (i := 778) (by decide +kernel), List.mem_of_getElem? (i := 1080) (by decide +kernel), List.mem_of_getElem? (i := 1081) (by decide +kernel)⟩
def lw_privs_4 : List (MethodName × Nat) := [(⟨"FreshAllotterModel", "cell", "(II)I"⟩, 28), (⟨"FreshAllotterModel", "isLot", "(I)Z"⟩, 28), (⟨"FreshAllotterModel", "refuse", "()I"⟩, 28), (⟨"FreshAllotterModel", "forOrder", "(I)I"⟩, 28), (⟨"FreshAllotterModel", "isCustomerThere", "(I)Z"⟩, 28), (⟨"FreshAllotterModel", "lifeOf", "(I)I"⟩, 28), (⟨"FreshAllotterModel", "isGood", "(I)Z"⟩, 28), (⟨"FreshAllotterModel", "isFit", "(II)Z"⟩, 28), (⟨"FreshAllotterModel", "isFor", "(IIIII)Z"⟩, 28), (⟨"FreshAllotterModel", "plansNow", "(I)V"⟩, 28), (⟨"FreshAllotterModel", "laysGots", "(IIIZIII)V"⟩, 28), (⟨"FreshAllotterModel", "laysRows", "(IIIZIII)V"⟩, 28), (⟨"FreshAllotterModel", "puts", "(II)V"⟩, 28), (⟨"FreshAllotterModel", "dayOf", "(I)I"⟩, 28), (⟨"FreshAllotterModel", "putsLot", "(I)V"⟩, 28), (⟨"FreshAllotterModel", "hasGot", "(I)I"⟩, 28)]
theorem lw_r4 : ∀ q ∈ lw_privs_4, lw_okq q := List.forall_mem_cons.mpr ⟨lw_p48, List.forall_mem_cons.mpr ⟨lw_p49, List.forall_mem_cons.mpr ⟨lw_p50, List.forall_mem_cons.mpr ⟨lw_p51, List.forall_mem_cons.mpr ⟨lw_p52, List.forall_mem_cons.mpr ⟨lw_p53, List.forall_mem_cons.mpr ⟨lw_p54, List.forall_mem_cons.mpr ⟨lw_p55, List.forall_mem_cons.mpr ⟨lw_p56, List.forall_mem_cons.mpr ⟨lw_p57, List.forall_mem_cons.mpr ⟨lw_p58, List.forall_mem_cons.mpr ⟨lw_p59, List.forall_mem_cons.mpr ⟨lw_p60, List.forall_mem_cons.mpr ⟨lw_p61, List.forall_mem_cons.mpr ⟨lw_p62, List.forall_mem_cons.mpr ⟨lw_p63, fun _ h => absurd h List.not_mem_nil⟩⟩⟩⟩⟩⟩⟩⟩⟩⟩⟩⟩⟩⟩⟩⟩
theorem lw_p64 : lw_okq (⟨"FreshAllotterModel", "getsOne", "(I)Z"⟩, 28) := ⟨⟨by decide +kernel, by decide +kernel⟩, List.mem_of_getElem? (i := 778) (by decide +kernel), List.mem_of_getElem? (i := 1084) (by decide +kernel), List.mem_of_getElem? (i := 1085) (by decide +kernel)⟩
theorem lw_p65 : lw_okq (⟨"FreshAllotterModel", "starts", "()V"⟩, 28) := ⟨⟨by decide +kernel, by decide +kernel⟩, List.mem_of_getElem? (i := 778) (by decide +kernel), List.mem_of_getElem? (i := 1088) (by decide +kernel), List.mem_of_getElem? (i := 1089) (by decide +kernel)⟩
theorem lw_p66 : lw_okq (⟨"FreshAllotterModel", "reachesLots", "(I)V"⟩, 28) := ⟨⟨by decide +kernel, by decide +kernel⟩, List.mem_of_getElem? (i := 778) (by decide +kernel), List.mem_of_getElem? (i := 1092) (by decide +kernel), List.mem_of_getElem? (i := 1093) (by decide +kernel)⟩
theorem lw_p67 : lw_okq (⟨"FreshAllotterModel", "spareOf", "(I)I"⟩, 28) := ⟨⟨by decide +kernel, by decide +kernel⟩, List.mem_of_getElem? (i := 778) (by decide +kernel), List.mem_of_getElem? (i := 1096) (by decide +kernel), List.mem_of_getElem? (i := 1097) (by decide +kernel)⟩
theorem lw_p68 : lw_okq (⟨"FreshAllotterModel", "usedOf", "(I)I"⟩, 28) := ⟨⟨by decide +kernel, by decide +kernel⟩, List.mem_of_getElem? (i := 778) (by decide +kernel), List.mem_of_getElem? (i := 1100) (by decide +kernel), List.mem_of_getElem? (i := 1101) (by decide +kernel)⟩
theorem lw_p69 : lw_okq (⟨"FreshAllotterModel", "passesOn", "(II)V"⟩, 28) := ⟨⟨by decide +kernel, by decide +kernel⟩, List.mem_of_getElem? (i := 778) (by decide +kernel), List.mem_of_getElem? (i := 1104) (by decide +kernel), List.mem_of_getElem? (i := 1105) (by decide +kernel)⟩
theorem lw_p70 : lw_okq (⟨"FreshAllotterModel", "usesOne", "(I)Z"⟩, 28) := ⟨⟨by decide +kernel, by decide +kernel⟩, List.mem_of_getElem? (i := 778) (by decide +kernel), List.mem_of_getElem? (i := 1108) (by decide +kernel), List.mem_of_getElem? (i := 1109) (by decide +kernel)⟩
theorem lw_p71 : lw_okq (⟨"FreshAllotterModel", "givesUp", "(II)V"⟩, 28) := ⟨⟨by decide +kernel, by decide +kernel⟩, List.mem_of_getElem? (i := 778) (by decide +kernel), List.mem_of_getElem? (i := 1112) (by decide +kernel), List.mem_of_getElem? (i := 1113) (by decide +kernel)⟩
theorem lw_p72 : lw_okq (⟨"FreshAllotterModel", "turnsOne", "(II)Z"⟩, 28) := ⟨⟨by decide +kernel, by decide +kernel⟩, List.mem_of_getElem? (i := 778) (by decide +kernel), List.mem_of_getElem? (i := 1116) (by decide +kernel), List.mem_of_getElem? (i := 1117) (by decide +kernel)⟩
theorem lw_p73 : lw_okq (⟨"FreshAllotterModel", "closes", "(II)V"⟩, 28) := ⟨⟨by decide +kernel, by decide +kernel⟩, List.mem_of_getElem? (i := 778) (by decide +kernel), List.mem_of_getElem? (i := 1120) (by decide +kernel), List.mem_of_getElem? (i := 1121) (by decide +kernel)⟩
theorem lw_p74 : lw_okq (⟨"FreshAllotterModel", "turnOf", "(I)I"⟩, 28) := ⟨⟨by decide +kernel, by decide +kernel⟩, List.mem_of_getElem? (i := 778) (by decide +kernel), List.mem_of_getElem? (i := 1124) (by decide +kernel), List.mem_of_getElem? (i := 1125) (by decide +kernel)⟩
theorem lw_p75 : lw_okq (⟨"FreshAllotterModel", "ageOf", "(I)I"⟩, 28) := ⟨⟨by decide +kernel, by decide +kernel⟩, List.mem_of_getElem? (i := 778) (by decide +kernel), List.mem_of_getElem? (i := 1128) (by decide +kernel), List.mem_of_getElem? (i := 1129) (by decide +kernel)⟩
theorem lw_p76 : lw_okq (⟨"FreshAllotterModel", "canWaste", "(II)Z"⟩, 28) := ⟨⟨by decide +kernel, by decide +kernel⟩, List.mem_of_getElem? (i := 778) (by decide +kernel), List.mem_of_getElem? (i := 1136) (by decide +kernel), List.mem_of_getElem? (i := 1137) (by decide +kernel)⟩
theorem lw_p77 : lw_okq (⟨"FreshAllotterModel", "canAsk", "(IIII)Z"⟩, 28) := ⟨⟨by decide +kernel, by decide +kernel⟩, List.mem_of_getElem? (i := 778) (by decide +kernel), List.mem_of_getElem? (i := 1148) (by decide +kernel), List.mem_of_getElem? (i := 1149) (by decide +kernel)⟩
theorem lw_p78 : lw_okq (⟨"FreshAllotterModel", "snap", "()V"⟩, 28) := ⟨⟨by decide +kernel, by decide +kernel⟩, List.mem_of_getElem? (i := 778) (by decide +kernel), List.mem_of_getElem? (i := 1160) (by decide +kernel), List.mem_of_getElem? (i := 1161) (by decide +kernel)⟩
theorem lw_p79 : lw_okq (⟨"FreshAllotterModel", "frees", "(I)I"⟩, 28) := ⟨⟨by decide +kernel, by decide +kernel⟩, List.mem_of_getElem? (i := 778) (by decide +kernel), List.mem_of_getElem? (i := 1176) (by decide +kernel), List.mem_of_getElem? (i := 1177) (by decide +kernel)⟩
def lw_privs_5 : List (MethodName × Nat) := [(⟨"FreshAllotterModel", "getsOne", "(I)Z"⟩, 28), (⟨"FreshAllotterModel", "starts", "()V"⟩, 28), (⟨"FreshAllotterModel", "reachesLots", "(I)V"⟩, 28), (⟨"FreshAllotterModel", "spareOf", "(I)I"⟩, 28), (⟨"FreshAllotterModel", "usedOf", "(I)I"⟩, 28), (⟨"FreshAllotterModel", "passesOn", "(II)V"⟩, 28), (⟨"FreshAllotterModel", "usesOne", "(I)Z"⟩, 28), (⟨"FreshAllotterModel", "givesUp", "(II)V"⟩, 28), (⟨"FreshAllotterModel", "turnsOne", "(II)Z"⟩, 28), (⟨"FreshAllotterModel", "closes", "(II)V"⟩, 28), (⟨"FreshAllotterModel", "turnOf", "(I)I"⟩, 28), (⟨"FreshAllotterModel", "ageOf", "(I)I"⟩, 28), (⟨"FreshAllotterModel", "canWaste", "(II)Z"⟩, 28), (⟨"FreshAllotterModel", "canAsk", "(IIII)Z"⟩, 28), (⟨"FreshAllotterModel", "snap", "()V"⟩, 28), (⟨"FreshAllotterModel", "frees", "(I)I"⟩, 28)]
theorem lw_r5 : ∀ q ∈ lw_privs_5, lw_okq q := List.forall_mem_cons.mpr ⟨lw_p64, List.forall_mem_cons.mpr ⟨lw_p65, List.forall_mem_cons.mpr ⟨lw_p66, List.forall_mem_cons.mpr ⟨lw_p67, List.forall_mem_cons.mpr ⟨lw_p68, List.forall_mem_cons.mpr ⟨lw_p69, List.forall_mem_cons.mpr ⟨lw_p70, List.forall_mem_cons.mpr ⟨lw_p71, List.forall_mem_cons.mpr ⟨lw_p72, List.forall_mem_cons.mpr ⟨lw_p73, List.forall_mem_cons.mpr ⟨lw_p74, List.forall_mem_cons.mpr ⟨lw_p75, List.forall_mem_cons.mpr ⟨lw_p76, List.forall_mem_cons.mpr ⟨lw_p77, List.forall_mem_cons.mpr ⟨lw_p78, List.forall_mem_cons.mpr ⟨lw_p79, fun _ h => absurd h List.not_mem_nil⟩⟩⟩⟩⟩⟩⟩⟩⟩⟩⟩⟩⟩⟩⟩⟩
theorem lw_p80 : lw_okq (⟨"FreshAllotterModel", "ends", "()V"⟩, 28) := ⟨⟨by decide +kernel, by decide +kernel⟩, List.mem_of_getElem? (i := 778) (by decide +kernel), List.mem_of_getElem? (i := 1192) (by decide +kernel), List.mem_of_getElem? (i := 1193) (by decide +kernel)⟩
def lw_privs_6 : List (MethodName × Nat) := [(⟨"FreshAllotterModel", "ends", "()V"⟩, 28)]
theorem lw_r6 : ∀ q ∈ lw_privs_6, lw_okq q := List.forall_mem_cons.mpr ⟨lw_p80, fun _ h => absurd h List.not_mem_nil⟩
def lw_privs : List (MethodName × Nat) := lw_privs_1 ++ (lw_privs_2 ++ (lw_privs_3 ++ (lw_privs_4 ++ (lw_privs_5 ++ (lw_privs_6)))))
def lw_tbl : List Cond := k2_sels lw_privs ++ tables_1
theorem lw_privs_ok : ∀ q ∈ lw_privs, lw_okq q := by
  show ∀ q ∈ lw_privs_1 ++ (lw_privs_2 ++ (lw_privs_3 ++ (lw_privs_4 ++ (lw_privs_5 ++ (lw_privs_6))))), lw_okq q
  exact List.forall_mem_append.mpr ⟨lw_r1, List.forall_mem_append.mpr ⟨lw_r2, List.forall_mem_append.mpr ⟨lw_r3, List.forall_mem_append.mpr ⟨lw_r4, List.forall_mem_append.mpr ⟨lw_r5, lw_r6⟩⟩⟩⟩⟩
end
section
/-! ===== BEGIN words of one list among another's, by their places ===== -/
theorem goodIn_r {big : List Cond} (ws : List Cond) (ps : List Nat) (hp : ws = ps.filterMap (fun i => big[i]?)) (h : ws.all goodWord = true) : GoodIn big ws := by
  intro w hw
  have h1 := List.all_eq_true.mp h w hw
  rw [hp] at hw
  obtain ⟨i, -, hi⟩ := List.mem_filterMap.mp hw
  have hm : w ∈ big := by first | exact List.mem_of_getElem? hi | exact List.getElem?_mem hi
  exact ⟨hm, good_of_word h1⟩
theorem goodIn_app {big a b : List Cond} (ha : GoodIn big a) (hb : GoodIn big b) : GoodIn big (a ++ b) := fun w h => (List.mem_append.mp h).elim (ha w) (hb w)
theorem goodIn_ca {big a b : List Cond} {c : Cond} (ha : GoodIn big (c :: a)) (hb : GoodIn big b) : GoodIn big (c :: (a ++ b)) := fun w h => (List.mem_cons.mp h).elim (fun e => ha w (List.mem_cons.mpr (Or.inl e))) (fun h => (List.mem_append.mp h).elim (fun h => ha w (List.mem_cons.mpr (Or.inr h))) (hb w))
theorem goodIn_sub {big ws : List Cond} (hm : ∀ w ∈ ws, w ∈ big) (h : ws.all goodWord = true) : GoodIn big ws := fun w hw => ⟨hm w hw, good_of_word (List.all_eq_true.mp h w hw)⟩
/-! ===== END ===== -/

/-! ===== BEGIN exceptions that leave a method, and their catching by the caller (launches without stack traces) ===== -/
section VXA
/-! The laws vx_back, vx_callV, vx_callS, vx_callSW, vx_throw0, vx_throwS follow proofs of the library, with one case more: JvmDerived/Free/Laws.lean (Back.of_free), Shelf42/LK1.lean (callV, callS), Shelf/KitTraced.lean (throwNew0V, throwNewS). -/
/-- where a method has thrown q: the class by its name, the cell, what was written, the world -/
def vx_T (XC : String → State → State → Prop) (st : State) (q : Addr) (t : State) (mc ms : Nat) (free : Addr → Prop) : Prop :=
  ∃ (E : String) (ce : Cell) (L : List Loc), XC E st t ∧ t.heap[q]? = some ce ∧ ce.vm = .none ∧ st.vm.findClass E = some ce.cls ∧ st.WarmedH t.vm ∧ st.sameButNew ({ t with vm := st.vm } : State) L mc ms ∧ ∀ z ∈ L, free z.base
def vx_Q (Qc : Array Value → State → Outcome → State → Prop) (XC : String → State → State → Prop) (mc ms : Nat) (free : Addr → Prop) : Array Value → State → Outcome → State → Prop := fun a st o t =>
  (Qc a st o t ∧ ∃ L, FrameEnd st o t L mc ms ∧ ∀ q ∈ L, free q.base) ∨ ∃ q, o = .threw q ∧ vx_T XC st q t mc ms free
/-- a callee that returns or throws -/
def vx_Met (l : Launch) (y : MethodName) (ws : List Cond) (rm : Room) (Pc : Array Value → State → Prop) (Qc : Array Value → State → Outcome → State → Prop) (XC : String → State → State → Prop) (mc ms : Nat) (free : Addr → Prop) : Prop :=
  MetFree l y (headSpec ws rm) Pc (fun _ _ _ _ _ => True) (vx_Q Qc XC mc ms free)
def vx_Post (XC : String → State → State → Prop) (mc ms : Nat) (free : Addr → Prop) : Pt → Array Value → Addr → Pt → Prop := fun A a q B =>
  ∃ (g : JFrame) (mk : MethodId) (t : State) (L : List Loc) (E : String) (ce : Cell), B.U.heap = t.heap ∧ B.U.vm = t.vm ∧ XC E (A.U.calling g mk a) t ∧ t.heap[q]? = some ce ∧ ce.vm = .none ∧ A.U.vm.findClass E = some ce.cls ∧ B.locs = A.locs ++ L ∧ (∀ z ∈ L, free z.base) ∧ B.cells = A.cells + mc ∧ B.slots = A.slots + ms
def vx_Back (l : Launch) (R : Room) (p : Program) (e : Env) (below : List Frame) (s : State) (sargs : Array Value) (y : MethodName) (len W9 : Nat)
    (Pre : Pt → Array Value → Prop) (Post : Pt → Array Value → Option Value → Pt → Prop) (PostX : Pt → Array Value → Addr → Pt → Prop) : Prop :=
  ∀ (m : MethodId) (meth : Method) (c : Code) (A : Pt) (g : JFrame) (ig : Instr) (mk : MethodId) (a : Array Value),
    Stand p l e R s m sargs below meth c A.U A.locs A.cells A.slots → g.method = m → g.locals.size = c.maxLocals → decode c.code g.pc = .ok (ig, len) →
    2 * g.monitorRoom + (g.stack.map fun v => v.category).sum ≤ W9 → A.U.methodNamed? y = some mk → Pre A a →
    (∃ (v : Option Value) (B : Pt), Stand p l e R s m sargs below meth c B.U B.locs B.cells B.slots ∧ Post A a v B ∧
      Steps p.tables e below (doInvoke e (A.U.setTop g) [] mk a).1 (B.U.setTop { g with pc := g.pc + len, stack := v.toList ++ g.stack })) ∨
    (∃ (q : Addr) (B : Pt), Stand p l e R s m sargs below meth c B.U B.locs B.cells B.slots ∧ PostX A a q B ∧
      Steps p.tables e below (doInvoke e (A.U.setTop g) [] mk a).1 ((B.U.setTop g).pushFrame (.throwing q)))
section Payer
variable {l : Launch} {R : Room} {p : Program} {e : Env} {below : List Frame} {s : State} {sargs : Array Value} {y : MethodName} {len W9 : Nat}
theorem vx_back {ws : List Cond} {rm : Room} {Pc : Array Value → State → Prop} {Qc : Array Value → State → Outcome → State → Prop} {XC : String → State → State → Prop} {mc ms : Nat} {free : Addr → Prop} {bytes : ByteArray} {maxL : Nat} {ret : Option FieldType}
    (hM : vx_Met l y ws rm Pc Qc XC mc ms free) (hblind : FrameBlind Pc) (hrc : rm.cells = mc) (hrs : rm.slots = ms)
    (hframes : rm.frames + 1 ≤ R.frames) (hlocals : W9 + (maxL + 11) + rm.locals ≤ R.locals)
    (hws : ∀ w ∈ ws, ∀ a' U, s.WarmedH U.vm → w.before a' U = true) (hcode : Cond.code y bytes maxL ret ∈ ws) (hinit : ∀ a' U, s.WarmedH U.vm → (Cond.initialized y.cls).before a' U = true) :
    vx_Back l R p e below s sargs y len W9 (PreOf R mc ms Pc) (PostOf Qc mc ms free) (vx_Post XC mc ms free) := by
  intro m meth c A g ig mk a X hg hsize hdg hW hn hp
  have h1 : (headSpec ws rm).pre.before a A.U = true := atoms_intro fun w hw => hws w hw _ _ X.warmed
  have h2 : (Cond.code y bytes maxL ret).before a A.U = true := hws _ hcode _ _ X.warmed
  have h3 : (Cond.initialized y.cls).before a A.U = true := hinit _ _ X.warmed
  have h4 : A.cells + (headSpec ws rm).room.cells ≤ R.cells := by rw [show (headSpec ws rm).room.cells = mc from hrc]; exact hp.1
  have h5 : A.slots + (headSpec ws rm).room.slots ≤ R.slots := by rw [show (headSpec ws rm).room.slots = ms from hrs]; exact hp.2.1
  have hPc : Pc a (A.U.calling g mk a) := hblind _ _ _ _ hp.2.2
  obtain ⟨U, Ls, c0, s0⟩ := A
  dsimp only [Pt.U, Pt.locs, Pt.cells, Pt.slots] at h1 h2 h3 h4 h5 X hn hPc ⊢
  obtain ⟨methY, cY, hmY, hcY, -, hlY, -, -, -, -⟩ := Cond.code_spec hn h2
  obtain ⟨kY, hkY, -⟩ := className_of_methodNamed hn
  have hinitY : kY.init = .initialized := Cond.initialized_spec (findClass_of_methodNamed hn) hkY h3
  have h : At U g.method c below := by rw [hg]; exact X.here
  have hlocals9 : W9 + (maxL + 11) + (headSpec ws rm).room.locals ≤ R.locals := hlocals
  have happ : (headSpec ws rm).appliesLoose y e.platform (U.calling g mk a) = true :=
    Spec.appliesLoose_calling (g := g) h hdg hn hkY hinitY
      (X.room_calling (g := g) (R' := (headSpec ws rm).room) hsize hmY hcY hframes (by rw [hlY]; omega) h4 h5) h1
  obtain ⟨mid, hmid⟩ := h.above
  have hfr : (U.setTop g).frames = (.java g :: mid) ++ below := by rw [State.frames_setTop' g h.top, hmid]; rfl
  obtain ⟨o, s₂, hsteps, -, hend, hq⟩ := Steps.callFree hM p X.admits X.cas X.clock (acts := []) hfr happ hPc trivial
  have hq' : vx_Q Qc XC mc ms free a (U.calling g mk a) o s₂ := hq
  rw [State.frames_setTop' g h.top] at hend
  obtain ⟨g₀, hg0⟩ := Option.isSome_iff_exists.mp h.top
  obtain ⟨r, hr⟩ := State.topJava?_eq_some.mp hg0
  have hr' : (({ U with heap := s₂.heap, slotsUsed := s₂.slotsUsed } : State).setVm s₂.vm).frames = .java g₀ :: r := hr
  rcases hq' with ⟨hqc, L, hfe, hL⟩ | ⟨q, rfl, E, ce, L, hx, hce, hcv, hcl, hW₂, hsm, hL⟩
  · obtain ⟨⟨v, rfl⟩, hW₂, e2, q2, q3, q4, q5, q6⟩ := id hfe
    have e3 : s₂ = ({ (U.calling g mk a).setFrames s₂.frames with heap := s₂.heap, slotsUsed := s₂.slotsUsed } : State).setVm s₂.vm := by
      have : s₂ = ({ s₂ with vm := (U.calling g mk a).vm } : State).setVm s₂.vm := rfl
      rw [e2] at this
      exact this
    obtain ⟨c₂, i₂, len₂, hc₂, hd₂, hf₂⟩ := hend
    have hW' : U.WarmedH s₂.vm := hW₂
    have hcc : c₂ = c := by
      have h1 : s₂.code? g.method = U.code? g.method := by
        rw [State.code?_eq, State.code?_eq, hW'.alike.method?]
      exact Option.some.inj (hc₂.symm.trans (h1.trans h.code))
    subst hcc
    have hlen : len₂ = len := by rw [hdg] at hd₂; cases hd₂; rfl
    subst hlen
    have hs₂ : s₂ = (({ U with heap := s₂.heap, slotsUsed := s₂.slotsUsed } : State).setVm s₂.vm).setTop { g with pc := g.pc + len₂, stack := v.toList ++ g.stack } := by
      refine e3.trans ?_
      rw [hf₂, State.calling_eq h.top, State.setFrames_setFrames, State.setTop_of_frames _ hr', hr]
      rfl
    have hsame : U.sameButNew ({ U with heap := s₂.heap, slotsUsed := s₂.slotsUsed } : State) L mc ms := by
      refine ⟨?_, q2, q3, q4, q5, q6⟩
      obtain ⟨t, ht, -⟩ := State.frames_cons hr
      show ({ U with heap := s₂.heap, slotsUsed := s₂.slotsUsed } : State) = { U.setFrames U.frames with heap := s₂.heap, slotsUsed := s₂.slotsUsed }
      rw [State.setFrames_self ht]
    subst hg
    refine Or.inl ⟨v, ⟨(({ U with heap := s₂.heap, slotsUsed := s₂.slotsUsed } : State).setVm s₂.vm), Ls ++ L, c0 + mc, s0 + ms⟩,
      ⟨X.admits, X.cas, X.clock, X.frames, X.room, X.hears, X.method, X.code, (X.here.setHeapUsed s₂.heap s₂.slotsUsed).setVm hW'.alike, X.tail, State.WarmedH.trans X.warmed hW', X.limits, X.bytes, X.same.trans (hsame.setVm s.vm)⟩,
      ⟨g, mk, s₂, L, rfl, rfl, hqc, rfl, hL, rfl, rfl⟩, ?_⟩
    show Steps p.tables e below _ ((({ U with heap := s₂.heap, slotsUsed := s₂.slotsUsed } : State).setVm s₂.vm).setTop { g with pc := g.pc + len₂, stack := v.toList ++ g.stack })
    rw [← hs₂]
    exact hsteps
  · obtain ⟨e2, q2, q3, q4, q5, q6⟩ := id hsm
    have e3 : s₂ = ({ (U.calling g mk a).setFrames s₂.frames with heap := s₂.heap, slotsUsed := s₂.slotsUsed } : State).setVm s₂.vm := by
      have : s₂ = ({ s₂ with vm := (U.calling g mk a).vm } : State).setVm s₂.vm := rfl
      rw [e2] at this
      exact this
    have hf₂ : s₂.frames = .throwing q :: .java g :: U.frames.tail := hend
    have hW' : U.WarmedH s₂.vm := hW₂
    have hs₂ : s₂ = ((({ U with heap := s₂.heap, slotsUsed := s₂.slotsUsed } : State).setVm s₂.vm).setTop g).pushFrame (.throwing q) := by
      refine e3.trans ?_
      rw [hf₂, State.calling_eq h.top, State.setFrames_setFrames, State.pushFrame, State.frames_setTop _ hr', State.setTop_of_frames _ hr', State.setFrames_setFrames, hr]
      rfl
    have hsame : U.sameButNew ({ U with heap := s₂.heap, slotsUsed := s₂.slotsUsed } : State) L mc ms := by
      refine ⟨?_, q2, q3, q4, q5, q6⟩
      obtain ⟨t, ht, -⟩ := State.frames_cons hr
      show ({ U with heap := s₂.heap, slotsUsed := s₂.slotsUsed } : State) = { U.setFrames U.frames with heap := s₂.heap, slotsUsed := s₂.slotsUsed }
      rw [State.setFrames_self ht]
    subst hg
    refine Or.inr ⟨q, ⟨(({ U with heap := s₂.heap, slotsUsed := s₂.slotsUsed } : State).setVm s₂.vm), Ls ++ L, c0 + mc, s0 + ms⟩,
      ⟨X.admits, X.cas, X.clock, X.frames, X.room, X.hears, X.method, X.code, (X.here.setHeapUsed s₂.heap s₂.slotsUsed).setVm hW'.alike, X.tail, State.WarmedH.trans X.warmed hW', X.limits, X.bytes, X.same.trans (hsame.setVm s.vm)⟩,
      ⟨g, mk, s₂, L, E, ce, rfl, rfl, hx, hce, hcv, hcl, rfl, hL, rfl, rfl⟩, ?_⟩
    show Steps p.tables e below _ (((({ U with heap := s₂.heap, slotsUsed := s₂.slotsUsed } : State).setVm s₂.vm).setTop g).pushFrame (.throwing q))
    rw [← hs₂]
    exact hsteps
end Payer
section Calls
variable {p : Program} {l : Launch} {e : Env} {R : Room} {s : State} {m : MethodId} {args : Array Value} {below : List Frame} {meth : Method} {c : Code} {T : State} {locs : List Loc} {cells slots : Nat}
theorem vx_callV (X : Stand p l e R s m args below meth c T locs cells slots) (hexec : p.tables.exec = Jvm.exec) {own C : String} {index : Nat} {y : MethodName} {bytes : ByteArray} {maxL : Nat} {ret : Option FieldType}
    (hown : s.vm.findClass own = some m.cls) (hlink : (Cond.methodLink own index y).before args s = true) (hinst : (Cond.instanceMethod y).before args s = true) (hsel : (Cond.selects C y y).before args s = true)
    (hcode : (Cond.code y bytes maxL ret).before args s = true) (hy : y.cls ≠ "java/lang/invoke/MethodHandle" ∧ y.cls ≠ "java/lang/invoke/VarHandle")
    {W9 : Nat} {Pre : Pt → Array Value → Prop} {Post : Pt → Array Value → Option Value → Pt → Prop} {PostX : Pt → Array Value → Addr → Pt → Prop} (hK : vx_Back l R p e below s args y 3 W9 Pre Post PostX)
    {b : Addr} {cellB : Cell} (hcell : T.heap[b]? = some cellB) (hobj : cellB.vm.isStatics = false) (hcls : s.vm.findClass C = some cellB.cls)
    {g : JFrame} (hg : g.method = m) (hsize : g.locals.size = c.maxLocals) {argsL rest : List Value} (hlen : ∀ sig, parseMethodDescriptor y.desc = some sig → argsL.length = sig.parameters.length)
    (hstack : g.stack = argsL.reverse ++ .ref b :: rest) (hW : 2 * g.monitorRoom + (rest.map fun v => v.category).sum ≤ W9) (hdg : decode c.code g.pc = .ok (.invokevirtual index, 3))
    (hpre : ∀ vm₁, s.WarmedH vm₁ → Pre ⟨T.setVm vm₁, locs, cells, slots⟩ (Value.ref b :: argsL).toArray) :
    (∃ (v : Option Value) (vm₁ : Vm) (B : Pt), s.WarmedH vm₁ ∧ Stand p l e R s m args below meth c B.U B.locs B.cells B.slots ∧ Post ⟨T.setVm vm₁, locs, cells, slots⟩ (Value.ref b :: argsL).toArray v B ∧
      ∀ target, Steps p.tables e below (B.U.setTop { g with pc := g.pc + 3, stack := v.toList ++ rest }) target → Steps p.tables e below (T.setTop g) target) ∨
    (∃ (q : Addr) (vm₁ : Vm) (B : Pt), s.WarmedH vm₁ ∧ Stand p l e R s m args below meth c B.U B.locs B.cells B.slots ∧ PostX ⟨T.setVm vm₁, locs, cells, slots⟩ (Value.ref b :: argsL).toArray q B ∧
      Steps p.tables e below (T.setTop g) ((B.U.setTop { g with stack := rest }).pushFrame (.throwing q))) := by
  obtain ⟨mk, methM, hnamed, hmethM, hstM, habM⟩ := Cond.instanceMethod_spec hinst
  obtain ⟨methM', cM, hmethM', -, -, -, -, -, -, hsigM⟩ := Cond.code_spec hnamed hcode
  cases hmethM.symm.trans hmethM'
  obtain ⟨c2, r2, m2, q1, q2, q3, q4, kP, hkP, hkPi⟩ := Cond.selects_spec hsel
  cases hcls.symm.trans q1
  cases (State.methodFound?_of_named hnamed hy).symm.trans q2
  cases hnamed.symm.trans q3
  have hselP : selectMethod e.platform s.vm cellB.cls mk = .method mk := by rw [Launch.admits_selectMethod X.admits]; exact q4
  obtain ⟨vm₁, X₁, hstep₁⟩ := X.invokevirtual hexec hown hlink hnamed hmethM hstM hkP hkPi hy (a := b) (cell := cellB) hcell
    (fun z h => by rw [h] at hobj; cases hobj) hselP hmethM habM hkP hkPi (g := g) hg (argsL := argsL) (rest := rest) (hlen _ hsigM) hstack hdg
  rcases hK m meth c ⟨T.setVm vm₁, locs, cells, slots⟩ { g with stack := rest } (.invokevirtual index) mk (Value.ref b :: argsL).toArray X₁ hg hsize hdg hW (X₁.named hnamed) (hpre vm₁ X₁.warmed) with ⟨v, B, X', hpost, hsteps⟩ | ⟨q, B, X', hpost, hsteps⟩
  · exact Or.inl ⟨v, vm₁, B, X₁.warmed, X', hpost, fun target h => hstep₁ _ fun acts => by rw [doInvoke_state]; exact hsteps.trans h⟩
  · exact Or.inr ⟨q, vm₁, B, X₁.warmed, X', hpost, hstep₁ _ fun acts => by rw [doInvoke_state]; exact hsteps⟩
theorem vx_callS (X : Stand p l e R s m args below meth c T locs cells slots) (hexec : p.tables.exec = Jvm.exec) {own : String} {index : Nat} {y : MethodName} {bytes : ByteArray} {maxL : Nat} {ret : Option FieldType}
    (hown : s.vm.findClass own = some m.cls) (hlink : (Cond.methodLink own index y).before args s = true) (hstat : (Cond.static y).before args s = true) (hinit : (Cond.initialized y.cls).before args s = true)
    (hcode : (Cond.code y bytes maxL ret).before args s = true) (hy : y.cls ≠ "java/lang/invoke/MethodHandle" ∧ y.cls ≠ "java/lang/invoke/VarHandle")
    {W9 : Nat} {Pre : Pt → Array Value → Prop} {Post : Pt → Array Value → Option Value → Pt → Prop} {PostX : Pt → Array Value → Addr → Pt → Prop} (hK : vx_Back l R p e below s args y 3 W9 Pre Post PostX)
    {g : JFrame} (hg : g.method = m) (hsize : g.locals.size = c.maxLocals) {argsL rest : List Value} (hlen : ∀ sig, parseMethodDescriptor y.desc = some sig → argsL.length = sig.parameters.length)
    (hstack : g.stack = argsL.reverse ++ rest) (hW : 2 * g.monitorRoom + (rest.map fun v => v.category).sum ≤ W9) (hdg : decode c.code g.pc = .ok (.invokestatic index, 3))
    (hpre : ∀ vm₁, s.WarmedH vm₁ → Pre ⟨T.setVm vm₁, locs, cells, slots⟩ argsL.toArray) :
    (∃ (v : Option Value) (vm₁ : Vm) (B : Pt), s.WarmedH vm₁ ∧ Stand p l e R s m args below meth c B.U B.locs B.cells B.slots ∧ Post ⟨T.setVm vm₁, locs, cells, slots⟩ argsL.toArray v B ∧
      ∀ target, Steps p.tables e below (B.U.setTop { g with pc := g.pc + 3, stack := v.toList ++ rest }) target → Steps p.tables e below (T.setTop g) target) ∨
    (∃ (q : Addr) (vm₁ : Vm) (B : Pt), s.WarmedH vm₁ ∧ Stand p l e R s m args below meth c B.U B.locs B.cells B.slots ∧ PostX ⟨T.setVm vm₁, locs, cells, slots⟩ argsL.toArray q B ∧
      Steps p.tables e below (T.setTop g) ((B.U.setTop { g with stack := rest }).pushFrame (.throwing q))) := by
  obtain ⟨mk, hnamed⟩ := Cond.code_named hcode
  obtain ⟨methM, cM, hmethM, -, -, -, -, -, -, hsigM⟩ := Cond.code_spec hnamed hcode
  have hstatic : methM.isStatic = true := Cond.static_spec hnamed hmethM hstat
  obtain ⟨kP, hkP, -⟩ := className_of_methodNamed hnamed
  have hinitP : kP.init = .initialized := Cond.initialized_spec (findClass_of_methodNamed hnamed) hkP hinit
  obtain ⟨vm₁, X₁, hstep₁⟩ := X.invokestatic hexec hown hlink hnamed hmethM hstatic hkP hinitP hy (g := g) hg (argsL := argsL) (rest := rest) (hlen _ hsigM) hstack hdg
  rcases hK m meth c ⟨T.setVm vm₁, locs, cells, slots⟩ { g with stack := rest } (.invokestatic index) mk argsL.toArray X₁ hg hsize hdg hW (X₁.named hnamed) (hpre vm₁ X₁.warmed) with ⟨v, B, X', hpost, hsteps⟩ | ⟨q, B, X', hpost, hsteps⟩
  · exact Or.inl ⟨v, vm₁, B, X₁.warmed, X', hpost, fun target h => hstep₁ _ fun acts => by rw [doInvoke_state]; exact hsteps.trans h⟩
  · exact Or.inr ⟨q, vm₁, B, X₁.warmed, X', hpost, hstep₁ _ fun acts => by rw [doInvoke_state]; exact hsteps⟩
end Calls
theorem vx_cls {s : State} {T : State} {vm₁ : Vm} {E : String} {k : ClassId} (hW : s.WarmedH vm₁) (h : (T.setVm vm₁).vm.findClass E = some k) : s.vm.findClass E = some k := by
  have h1 : vm₁.findClass E = some k := h
  rw [hW.alike.findClass] at h1
  exact h1
/-- the method's frame g, with q thrown over it -/
def vx_W (p : Program) (l : Launch) (e : Env) (R : Room) (s : State) (m : MethodId) (args : Array Value) (below : List Frame) (meth : Method) (c : Code) (H : Heap) (locs : List Loc) (cells slots : Nat) (Q : State → Prop) (g : JFrame) (q : Addr) : Prop :=
  ∀ T : State, T.heap = H → Stand p l e R s m args below meth c T locs cells slots → ∃ t, Steps p.tables e below ((T.setTop g).pushFrame (.throwing q)) t ∧ Q t
def vx_Run (p : Program) (l : Launch) (e : Env) (R : Room) (s : State) (m : MethodId) (args : Array Value) (below : List Frame) (meth : Method) (c : Code) (H : Heap) (locs : List Loc) (cells slots mc ms : Nat) (g : JFrame) (rest : List Value) (Qa : State → Outcome → State → Prop) (XC : String → State → State → Prop) (free : Addr → Prop) : Prop :=
  ∀ T : State, T.heap = H → Stand p l e R s m args below meth c T locs cells slots →
    (∃ (v : Option Value) (st₀ t T' : State) (L : List Loc), st₀.heap = H ∧ Stand p l e R s m args below meth c T' (locs ++ L) (cells + mc) (slots + ms) ∧ (∀ q ∈ L, free q.base) ∧ T'.heap = t.heap ∧ T'.vm = t.vm ∧ Qa st₀ (.returned v) t ∧
      Goes p e below T g T' { g with pc := g.pc + 3, stack := v.toList ++ rest }) ∨
    (∃ (q : Addr) (st₀ t T' : State) (L : List Loc) (E : String) (ce : Cell), st₀.heap = H ∧ Stand p l e R s m args below meth c T' (locs ++ L) (cells + mc) (slots + ms) ∧ (∀ z ∈ L, free z.base) ∧ T'.heap = t.heap ∧ T'.vm = t.vm ∧ XC E st₀ t ∧ t.heap[q]? = some ce ∧ ce.vm = .none ∧ s.vm.findClass E = some ce.cls ∧
      Steps p.tables e below (T.setTop g) ((T'.setTop { g with stack := rest }).pushFrame (.throwing q)))
def vx_X {S : Type} (px : S → Prop) (B : String → S → State → Prop) (A : Nat → Prop) : String → State → State → Prop := fun E st t => ∃ u : S, px u ∧ B E u t ∧ va_F A st t
section Runs
variable {p : Program} {l : Launch} {e : Env} {R : Room} {s : State} {m : MethodId} {args : Array Value} {below : List Frame} {meth : Method} {c : Code} {H : Heap} {locs : List Loc} {cells slots : Nat}
variable {y : MethodName} {bytes cc : ByteArray} {maxL nL mc ms n index : Nat} {ret : Option FieldType} {ws : List Cond} {rm : Room} {Pc : Array Value → State → Prop} {Qc : Array Value → State → Outcome → State → Prop} {XC : String → State → State → Prop} {free : Addr → Prop} {Ts : List Cond} {own C : String} {b : Addr} {As rest : List Value} {g : JFrame}
theorem vx_callBack (cb : CallB R s args own index y bytes maxL ret ws rm mc ms n) (hM : vx_Met l y ws rm Pc Qc XC mc ms free) (hbl : FrameBlind Pc) : vx_Back l R p e below s args y 3 8 (PreOf R mc ms Pc) (PostOf Qc mc ms free) (vx_Post XC mc ms free) := by
  obtain ⟨hrc, hrs, hfr, hlo, hws, hcw, -, hini, -⟩ := cb
  exact vx_back (bytes := bytes) (maxL := maxL) (ret := ret) hM hbl hrc hrs hfr hlo hws hcw (fun a' U hW => word_at hW (Or.inl (by first | rfl | simp [Cond.onTables, Cond.keeps, Cond.steady])) hini)
theorem vx_runV (S : CallFix p m c cc nL s args Ts own) (hM : vx_Met l y ws rm Pc Qc XC mc ms free) (cw : CallW R s args own C index y bytes maxL ret ws rm mc ms n) (hp : PreV s H C b Pc As)
    (hg : g.method = m) (hn : As.length = n) (hsize : g.locals.size = nL) (hstack : g.stack = As.reverse ++ .ref b :: rest) (hW : 2 * g.monitorRoom + (rest.map fun v => v.category).sum ≤ 8) (hdg : decode cc g.pc = .ok (.invokevirtual index, 3)) (hf : cells + mc ≤ R.cells ∧ slots + ms ≤ R.slots) :
    vx_Run p l e R s m args below meth c H locs cells slots mc ms g rest (Qc (Value.ref b :: As).toArray) XC free := by
  have hK : vx_Back l R p e below s args y 3 8 (PreOf R mc ms Pc) (PostOf Qc mc ms free) (vx_Post XC mc ms free) := vx_callBack cw.1 hM hp.1
  obtain ⟨⟨-, -, -, -, -, -, hcode, -, hy, hlen, hl⟩, hin, hse⟩ := cw
  obtain ⟨hx, hb, hml, ho, -⟩ := S
  obtain ⟨-, ⟨cellB, hcB, hoB, hclB⟩, hPc⟩ := hp
  intro T hT X
  rcases vx_callV X hx (C := C) (bytes := bytes) (maxL := maxL) (ret := ret) ho hl hin hse hcode hy hK (by rw [hT]; exact hcB) hoB hclB hg (hsize.trans hml.symm) (argsL := As) (rest := rest) (fun sig h => hn.trans (hlen sig h)) hstack hW (by rw [hb]; exact hdg)
    (fun vm₁ hW₁ => ⟨hf.1, hf.2, hPc (T.setVm vm₁) hT hW₁⟩) with ⟨v, vm₁, ⟨U', l2, c2, s2⟩, hW₁, X', ⟨g', mk, t, L, e1, e2, hq, h1, hL, h2, h3⟩, st⟩ | ⟨q, vm₁, ⟨U', l2, c2, s2⟩, hW₁, X', ⟨g', mk, t, L, E, ce, e1, e2, hq, hce, hcv, hcl, h1, hL, h2, h3⟩, st⟩
  · dsimp only [Pt.U, Pt.locs, Pt.cells, Pt.slots] at X' e1 e2 h1 h2 h3 st
    subst h1; subst h2; subst h3
    exact Or.inl ⟨v, (T.setVm vm₁).calling g' mk (Value.ref b :: As).toArray, t, U', L, hT, X', hL, e1, e2, hq, st⟩
  · dsimp only [Pt.U, Pt.locs, Pt.cells, Pt.slots] at X' e1 e2 h1 h2 h3 st hcl
    subst h1; subst h2; subst h3
    exact Or.inr ⟨q, (T.setVm vm₁).calling g' mk (Value.ref b :: As).toArray, t, U', L, E, ce, hT, X', hL, e1, e2, hq, hce, hcv, vx_cls hW₁ hcl, st⟩
theorem vx_runS (S : CallFix p m c cc nL s args Ts own) (hM : vx_Met l y ws rm Pc Qc XC mc ms free) (cw : CallB R s args own index y bytes maxL ret ws rm mc ms n ∧ (Cond.static y).before args s = true) (hp : PreS s H Pc As)
    (hg : g.method = m) (hn : As.length = n) (hsize : g.locals.size = nL) (hstack : g.stack = As.reverse ++ rest) (hW : 2 * g.monitorRoom + (rest.map fun v => v.category).sum ≤ 8) (hdg : decode cc g.pc = .ok (.invokestatic index, 3)) (hf : cells + mc ≤ R.cells ∧ slots + ms ≤ R.slots) :
    vx_Run p l e R s m args below meth c H locs cells slots mc ms g rest (Qc As.toArray) XC free := by
  have hK : vx_Back l R p e below s args y 3 8 (PreOf R mc ms Pc) (PostOf Qc mc ms free) (vx_Post XC mc ms free) := vx_callBack cw.1 hM hp.1
  obtain ⟨⟨-, -, -, -, -, -, hcode, hini, hy, hlen, hl⟩, hstt⟩ := cw
  obtain ⟨hx, hb, hml, ho, -⟩ := S
  intro T hT X
  rcases vx_callS X hx (bytes := bytes) (maxL := maxL) (ret := ret) ho hl hstt hini hcode hy hK hg (hsize.trans hml.symm) (argsL := As) (rest := rest) (fun sig h => hn.trans (hlen sig h)) hstack hW (by rw [hb]; exact hdg)
    (fun vm₁ hW₁ => ⟨hf.1, hf.2, hp.2 (T.setVm vm₁) hT hW₁⟩) with ⟨v, vm₁, ⟨U', l2, c2, s2⟩, hW₁, X', ⟨g', mk, t, L, e1, e2, hq, h1, hL, h2, h3⟩, st⟩ | ⟨q, vm₁, ⟨U', l2, c2, s2⟩, hW₁, X', ⟨g', mk, t, L, E, ce, e1, e2, hq, hce, hcv, hcl, h1, hL, h2, h3⟩, st⟩
  · dsimp only [Pt.U, Pt.locs, Pt.cells, Pt.slots] at X' e1 e2 h1 h2 h3 st
    subst h1; subst h2; subst h3
    exact Or.inl ⟨v, (T.setVm vm₁).calling g' mk As.toArray, t, U', L, hT, X', hL, e1, e2, hq, st⟩
  · dsimp only [Pt.U, Pt.locs, Pt.cells, Pt.slots] at X' e1 e2 h1 h2 h3 st hcl
    subst h1; subst h2; subst h3
    exact Or.inr ⟨q, (T.setVm vm₁).calling g' mk As.toArray, t, U', L, E, ce, hT, X', hL, e1, e2, hq, hce, hcv, vx_cls hW₁ hcl, st⟩
end Runs
section Rows
variable {p : Program} {l : Launch} {e : Env} {R : Room} {s : State} {m : MethodId} {args : Array Value} {below : List Frame} {meth : Method} {c : Code} {H : Heap} {locs : List Loc} {cells slots : Nat} {Q : State → Prop}
variable {mc ms : Nat} {free : Addr → Prop} {A0 A1 : Nat → Prop} {H0 : Heap} {a : Array Value} {pc : Nat} {ls : Array Slot} {st0 rest : List Value}
theorem vx_keep {st₀ t T' : State} {L : List Loc} (h0 : st₀.heap = H) (e1 : T'.heap = t.heap) (hS : va_S A0 H0 H locs) (hA : ∀ q, q < H.size → A1 q → A0 q) (hf : ∀ q, free q → A0 q) (hL : ∀ q ∈ L, free q.base) (hF : va_F A1 st₀ t) :
    H.size ≤ T'.heap.size ∧ (∀ q : Nat, q < H.size → ¬ A1 q → T'.heap[q]? = H[q]?) ∧ va_S A0 H0 T'.heap (locs ++ L) := by
  obtain ⟨hz, hk⟩ := hF
  rw [h0] at hz hk
  exact ⟨by rw [e1]; exact hz, fun q h1 h2 => by rw [e1]; exact hk q h1 h2,
    ⟨Nat.le_trans hS.1 (by rw [e1]; exact hz), fun q h1 h2 => by rw [e1, hk q (Nat.lt_of_lt_of_le h1 hS.1) (fun z => h2 (hA q (Nat.lt_of_lt_of_le h1 hS.1) z))]; exact hS.2.1 q h1 h2, fun q hq => by
      rcases List.mem_append.mp hq with h | h
      · exact hS.2.2 q h
      · exact hf _ (hL q h)⟩⟩
theorem vx_calli {S SX : Type} {post : Int32 → S → Prop} {px : SX → Prop} {B : S → State → Prop} {BX : String → SX → State → Prop} {AX : Nat → Prop} (hr : vx_Run p l e R s m args below meth c H locs cells slots mc ms (F0 m pc ls st0) rest (va_Qi post B A1 a) (vx_X px BX AX) free) (hS : va_S A0 H0 H locs) (hA : ∀ q, q < H.size → A1 q → A0 q) (hf : ∀ q, free q → A0 q) (hAX : ∀ q, q < H.size → AX q → A0 q)
    (kx : ∀ (E : String) (ce : Cell) (q9 : Addr) (u : SX) (t : State) (H1 : Heap) (locs1 : List Loc), t.heap = H1 → s.vm.Alike t.vm → px u → BX E u t → H.size ≤ H1.size → (∀ q : Nat, q < H.size → ¬ AX q → H1[q]? = H[q]?) → va_S A0 H0 H1 locs1 → H1[q9]? = some ce → ce.vm = .none → s.vm.findClass E = some ce.cls → vx_W p l e R s m args below meth c H1 locs1 (cells + mc) (slots + ms) Q (F0 m pc ls rest) q9)
    (kk : ∀ (r : Int32) (u : S) (t : State) (H1 : Heap) (locs1 : List Loc), t.heap = H1 → s.vm.Alike t.vm → post r u → B u t → H.size ≤ H1.size → (∀ q : Nat, q < H.size → ¬ A1 q → H1[q]? = H[q]?) → va_S A0 H0 H1 locs1 → W p l e R s m args below meth c H1 locs1 (cells + mc) (slots + ms) Q (F0 m (pc + 3) ls (.int r :: rest))) : W p l e R s m args below meth c H locs cells slots Q (F0 m pc ls st0) := by
  intro T hT X
  rcases hr T hT X with ⟨v, st₀, t, T', L, h0, X', hL, e1, e2, ⟨⟨r, u, hv, hp, hb⟩, hF⟩, st⟩ | ⟨q, st₀, t, T', L, E, ce, h0, X', hL, e1, e2, ⟨u, hp, hb, hF⟩, hce, hcv, hcl, st⟩
  · cases hv
    obtain ⟨k1, k2, k3⟩ := vx_keep h0 e1 hS hA hf hL hF
    obtain ⟨t2, a1, b1⟩ := kk r u t T'.heap (locs ++ L) e1.symm (by rw [← e2]; exact X'.warmed.alike) hp hb k1 k2 k3 T' rfl X'
    exact ⟨t2, st t2 a1, b1⟩
  · obtain ⟨k1, k2, k3⟩ := vx_keep h0 e1 hS hAX hf hL hF
    obtain ⟨t2, a1, b1⟩ := kx E ce q u t T'.heap (locs ++ L) e1.symm (by rw [← e2]; exact X'.warmed.alike) hp hb k1 k2 k3 (by rw [e1]; exact hce) hcv hcl T' rfl X'
    exact ⟨t2, st.trans a1, b1⟩
theorem vx_calll {S SX : Type} {post : Int64 → S → Prop} {px : SX → Prop} {B : S → State → Prop} {BX : String → SX → State → Prop} {AX : Nat → Prop} (hr : vx_Run p l e R s m args below meth c H locs cells slots mc ms (F0 m pc ls st0) rest (va_Ql post B A1 a) (vx_X px BX AX) free) (hS : va_S A0 H0 H locs) (hA : ∀ q, q < H.size → A1 q → A0 q) (hf : ∀ q, free q → A0 q) (hAX : ∀ q, q < H.size → AX q → A0 q)
    (kx : ∀ (E : String) (ce : Cell) (q9 : Addr) (u : SX) (t : State) (H1 : Heap) (locs1 : List Loc), t.heap = H1 → s.vm.Alike t.vm → px u → BX E u t → H.size ≤ H1.size → (∀ q : Nat, q < H.size → ¬ AX q → H1[q]? = H[q]?) → va_S A0 H0 H1 locs1 → H1[q9]? = some ce → ce.vm = .none → s.vm.findClass E = some ce.cls → vx_W p l e R s m args below meth c H1 locs1 (cells + mc) (slots + ms) Q (F0 m pc ls rest) q9)
    (kk : ∀ (r : Int64) (u : S) (t : State) (H1 : Heap) (locs1 : List Loc), t.heap = H1 → s.vm.Alike t.vm → post r u → B u t → H.size ≤ H1.size → (∀ q : Nat, q < H.size → ¬ A1 q → H1[q]? = H[q]?) → va_S A0 H0 H1 locs1 → W p l e R s m args below meth c H1 locs1 (cells + mc) (slots + ms) Q (F0 m (pc + 3) ls (.long r :: rest))) : W p l e R s m args below meth c H locs cells slots Q (F0 m pc ls st0) := by
  intro T hT X
  rcases hr T hT X with ⟨v, st₀, t, T', L, h0, X', hL, e1, e2, ⟨⟨r, u, hv, hp, hb⟩, hF⟩, st⟩ | ⟨q, st₀, t, T', L, E, ce, h0, X', hL, e1, e2, ⟨u, hp, hb, hF⟩, hce, hcv, hcl, st⟩
  · cases hv
    obtain ⟨k1, k2, k3⟩ := vx_keep h0 e1 hS hA hf hL hF
    obtain ⟨t2, a1, b1⟩ := kk r u t T'.heap (locs ++ L) e1.symm (by rw [← e2]; exact X'.warmed.alike) hp hb k1 k2 k3 T' rfl X'
    exact ⟨t2, st t2 a1, b1⟩
  · obtain ⟨k1, k2, k3⟩ := vx_keep h0 e1 hS hAX hf hL hF
    obtain ⟨t2, a1, b1⟩ := kx E ce q u t T'.heap (locs ++ L) e1.symm (by rw [← e2]; exact X'.warmed.alike) hp hb k1 k2 k3 (by rw [e1]; exact hce) hcv hcl T' rfl X'
    exact ⟨t2, st.trans a1, b1⟩
theorem vx_callf {S SX : Type} {post : UInt32 → S → Prop} {px : SX → Prop} {B : S → State → Prop} {BX : String → SX → State → Prop} {AX : Nat → Prop} (hr : vx_Run p l e R s m args below meth c H locs cells slots mc ms (F0 m pc ls st0) rest (va_Qf post B A1 a) (vx_X px BX AX) free) (hS : va_S A0 H0 H locs) (hA : ∀ q, q < H.size → A1 q → A0 q) (hf : ∀ q, free q → A0 q) (hAX : ∀ q, q < H.size → AX q → A0 q)
    (kx : ∀ (E : String) (ce : Cell) (q9 : Addr) (u : SX) (t : State) (H1 : Heap) (locs1 : List Loc), t.heap = H1 → s.vm.Alike t.vm → px u → BX E u t → H.size ≤ H1.size → (∀ q : Nat, q < H.size → ¬ AX q → H1[q]? = H[q]?) → va_S A0 H0 H1 locs1 → H1[q9]? = some ce → ce.vm = .none → s.vm.findClass E = some ce.cls → vx_W p l e R s m args below meth c H1 locs1 (cells + mc) (slots + ms) Q (F0 m pc ls rest) q9)
    (kk : ∀ (r : UInt32) (u : S) (t : State) (H1 : Heap) (locs1 : List Loc), t.heap = H1 → s.vm.Alike t.vm → post r u → B u t → H.size ≤ H1.size → (∀ q : Nat, q < H.size → ¬ A1 q → H1[q]? = H[q]?) → va_S A0 H0 H1 locs1 → W p l e R s m args below meth c H1 locs1 (cells + mc) (slots + ms) Q (F0 m (pc + 3) ls (.float r :: rest))) : W p l e R s m args below meth c H locs cells slots Q (F0 m pc ls st0) := by
  intro T hT X
  rcases hr T hT X with ⟨v, st₀, t, T', L, h0, X', hL, e1, e2, ⟨⟨r, u, hv, hp, hb⟩, hF⟩, st⟩ | ⟨q, st₀, t, T', L, E, ce, h0, X', hL, e1, e2, ⟨u, hp, hb, hF⟩, hce, hcv, hcl, st⟩
  · cases hv
    obtain ⟨k1, k2, k3⟩ := vx_keep h0 e1 hS hA hf hL hF
    obtain ⟨t2, a1, b1⟩ := kk r u t T'.heap (locs ++ L) e1.symm (by rw [← e2]; exact X'.warmed.alike) hp hb k1 k2 k3 T' rfl X'
    exact ⟨t2, st t2 a1, b1⟩
  · obtain ⟨k1, k2, k3⟩ := vx_keep h0 e1 hS hAX hf hL hF
    obtain ⟨t2, a1, b1⟩ := kx E ce q u t T'.heap (locs ++ L) e1.symm (by rw [← e2]; exact X'.warmed.alike) hp hb k1 k2 k3 (by rw [e1]; exact hce) hcv hcl T' rfl X'
    exact ⟨t2, st.trans a1, b1⟩
theorem vx_calld {S SX : Type} {post : UInt64 → S → Prop} {px : SX → Prop} {B : S → State → Prop} {BX : String → SX → State → Prop} {AX : Nat → Prop} (hr : vx_Run p l e R s m args below meth c H locs cells slots mc ms (F0 m pc ls st0) rest (va_Qd post B A1 a) (vx_X px BX AX) free) (hS : va_S A0 H0 H locs) (hA : ∀ q, q < H.size → A1 q → A0 q) (hf : ∀ q, free q → A0 q) (hAX : ∀ q, q < H.size → AX q → A0 q)
    (kx : ∀ (E : String) (ce : Cell) (q9 : Addr) (u : SX) (t : State) (H1 : Heap) (locs1 : List Loc), t.heap = H1 → s.vm.Alike t.vm → px u → BX E u t → H.size ≤ H1.size → (∀ q : Nat, q < H.size → ¬ AX q → H1[q]? = H[q]?) → va_S A0 H0 H1 locs1 → H1[q9]? = some ce → ce.vm = .none → s.vm.findClass E = some ce.cls → vx_W p l e R s m args below meth c H1 locs1 (cells + mc) (slots + ms) Q (F0 m pc ls rest) q9)
    (kk : ∀ (r : UInt64) (u : S) (t : State) (H1 : Heap) (locs1 : List Loc), t.heap = H1 → s.vm.Alike t.vm → post r u → B u t → H.size ≤ H1.size → (∀ q : Nat, q < H.size → ¬ A1 q → H1[q]? = H[q]?) → va_S A0 H0 H1 locs1 → W p l e R s m args below meth c H1 locs1 (cells + mc) (slots + ms) Q (F0 m (pc + 3) ls (.double r :: rest))) : W p l e R s m args below meth c H locs cells slots Q (F0 m pc ls st0) := by
  intro T hT X
  rcases hr T hT X with ⟨v, st₀, t, T', L, h0, X', hL, e1, e2, ⟨⟨r, u, hv, hp, hb⟩, hF⟩, st⟩ | ⟨q, st₀, t, T', L, E, ce, h0, X', hL, e1, e2, ⟨u, hp, hb, hF⟩, hce, hcv, hcl, st⟩
  · cases hv
    obtain ⟨k1, k2, k3⟩ := vx_keep h0 e1 hS hA hf hL hF
    obtain ⟨t2, a1, b1⟩ := kk r u t T'.heap (locs ++ L) e1.symm (by rw [← e2]; exact X'.warmed.alike) hp hb k1 k2 k3 T' rfl X'
    exact ⟨t2, st t2 a1, b1⟩
  · obtain ⟨k1, k2, k3⟩ := vx_keep h0 e1 hS hAX hf hL hF
    obtain ⟨t2, a1, b1⟩ := kx E ce q u t T'.heap (locs ++ L) e1.symm (by rw [← e2]; exact X'.warmed.alike) hp hb k1 k2 k3 (by rw [e1]; exact hce) hcv hcl T' rfl X'
    exact ⟨t2, st.trans a1, b1⟩
theorem vx_callv {S SX : Type} {post : S → Prop} {px : SX → Prop} {B : S → State → Prop} {BX : String → SX → State → Prop} {AX : Nat → Prop} (hr : vx_Run p l e R s m args below meth c H locs cells slots mc ms (F0 m pc ls st0) rest (va_Qv post B A1 a) (vx_X px BX AX) free) (hS : va_S A0 H0 H locs) (hA : ∀ q, q < H.size → A1 q → A0 q) (hf : ∀ q, free q → A0 q) (hAX : ∀ q, q < H.size → AX q → A0 q)
    (kx : ∀ (E : String) (ce : Cell) (q9 : Addr) (u : SX) (t : State) (H1 : Heap) (locs1 : List Loc), t.heap = H1 → s.vm.Alike t.vm → px u → BX E u t → H.size ≤ H1.size → (∀ q : Nat, q < H.size → ¬ AX q → H1[q]? = H[q]?) → va_S A0 H0 H1 locs1 → H1[q9]? = some ce → ce.vm = .none → s.vm.findClass E = some ce.cls → vx_W p l e R s m args below meth c H1 locs1 (cells + mc) (slots + ms) Q (F0 m pc ls rest) q9)
    (kk : ∀ (u : S) (t : State) (H1 : Heap) (locs1 : List Loc), t.heap = H1 → s.vm.Alike t.vm → post u → B u t → H.size ≤ H1.size → (∀ q : Nat, q < H.size → ¬ A1 q → H1[q]? = H[q]?) → va_S A0 H0 H1 locs1 → W p l e R s m args below meth c H1 locs1 (cells + mc) (slots + ms) Q (F0 m (pc + 3) ls (rest))) : W p l e R s m args below meth c H locs cells slots Q (F0 m pc ls st0) := by
  intro T hT X
  rcases hr T hT X with ⟨v, st₀, t, T', L, h0, X', hL, e1, e2, ⟨⟨u, hv, hp, hb⟩, hF⟩, st⟩ | ⟨q, st₀, t, T', L, E, ce, h0, X', hL, e1, e2, ⟨u, hp, hb, hF⟩, hce, hcv, hcl, st⟩
  · cases hv
    obtain ⟨k1, k2, k3⟩ := vx_keep h0 e1 hS hA hf hL hF
    obtain ⟨t2, a1, b1⟩ := kk u t T'.heap (locs ++ L) e1.symm (by rw [← e2]; exact X'.warmed.alike) hp hb k1 k2 k3 T' rfl X'
    exact ⟨t2, st t2 a1, b1⟩
  · obtain ⟨k1, k2, k3⟩ := vx_keep h0 e1 hS hAX hf hL hF
    obtain ⟨t2, a1, b1⟩ := kx E ce q u t T'.heap (locs ++ L) e1.symm (by rw [← e2]; exact X'.warmed.alike) hp hb k1 k2 k3 (by rw [e1]; exact hce) hcv hcl T' rfl X'
    exact ⟨t2, st.trans a1, b1⟩
/-- caught by the row x of this method's table; the rows ahead don't take it -/
theorem vx_catch {own name : String} {E : String} {ce : Cell} {q : Addr} (hown : s.vm.findClass own = some m.cls) (pre : List ExceptionTableEntry) (x : ExceptionTableEntry) (suf : List ExceptionTableEntry) (hsplit : c.exceptionTable.toList = pre ++ x :: suf)
    (hpass : ∀ z ∈ pre, covers z pc = false ∨ (z.catchType ≠ 0 ∧ ∃ nm : String, (Cond.classLink own z.catchType nm).before args s = true ∧ va_Nc E nm s)) (hx : covers x pc = true) (h0 : x.catchType ≠ 0)
    (hlink : (Cond.classLink own x.catchType name).before args s = true) (hcast : (Cond.castable E name).before args s = true) (hcell : H[q]? = some ce) (hv : ce.vm = .none) (hcl : s.vm.findClass E = some ce.cls)
    (kk : W p l e R s m args below meth c H locs cells slots Q (F0 m x.handlerPc ls [.ref q])) : vx_W p l e R s m args below meth c H locs cells slots Q (F0 m pc ls rest) q := by
  intro T hT X
  have hpl : e.platform.magicAccessors = ({} : Platform).magicAccessors := by rw [X.admits.platform]
  obtain ⟨c3, c4, hc3, hc4, hasg⟩ := Cond.castable_spec hcast
  cases Option.some.inj (hc3.symm.trans hcl)
  obtain ⟨c5, hc5, hcl5⟩ := Cond.classLink_spec hown hlink e.platform hpl
  cases Option.some.inj (hc4.symm.trans hc5)
  obtain ⟨vm', X', st⟩ := X.thenCaughtThrough q (g := F0 m pc ls rest) rfl (Steps.refl _) (by rw [hT]; exact hcell) (by rw [hv]; rfl) (by obtain ⟨k9, h9, -⟩ := Vm.findClass_spec hcl; exact ⟨k9, h9⟩) pre x suf hsplit
    (fun z hz => by
      rcases hpass z hz with h | ⟨hz0, nm, hl1, hn1⟩
      · exact Or.inl h
      · obtain ⟨c6, hc6, hcl6⟩ := Cond.classLink_spec hown hl1 e.platform hpl
        obtain ⟨a8, b8, h1, h2, h3⟩ := hn1
        cases Option.some.inj (h1.symm.trans hcl)
        cases Option.some.inj (h2.symm.trans hc6)
        exact Or.inr ⟨hz0, _, hcl6, h3⟩) hx (Or.inr ⟨h0, c4, hcl5, hasg⟩)
  obtain ⟨t, a1, b1⟩ := kk (T.setVm vm') hT X'
  exact ⟨t, st.trans a1, b1⟩
end Rows
section Ends
variable {p : Program} {l : Launch} {e : Env} {R : Room} {s : State} {m : MethodId} {args : Array Value} {below : List Frame} {meth : Method} {c : Code} {H : Heap} {locs : List Loc} {cells slots : Nat} {Q : State → Prop}
variable {mc ms : Nat} {free : Addr → Prop} {A0 A1 : Nat → Prop} {H0 : Heap} {a : Array Value} {ls : Array Slot} {st0 rest : List Value}
variable {Qc : Array Value → State → Outcome → State → Prop} {XC : String → State → State → Prop}
/-- what a body that may throw owes at its end -/
def vx_MQ (below : List Frame) (Qc : Array Value → State → Outcome → State → Prop) (XC : String → State → State → Prop) (a : Array Value) (s : State) (mc ms : Nat) (free : Addr → Prop) : State → Prop := fun t =>
  ∃ o, t.status = .running ∧ Ended t below o ∧ vx_Q Qc XC mc ms free a s o t
theorem vx_ret {g : JFrame} {mc ms : Nat} (k : W p l e R s m args below meth c H locs cells slots (MQ below Qc args s mc ms free) g) : W p l e R s m args below meth c H locs cells slots (vx_MQ below Qc XC args s mc ms free) g := by
  intro T hT X
  obtain ⟨t, a1, o, b1, b2, b3, b4⟩ := k T hT X
  exact ⟨t, a1, o, b1, b2, Or.inl ⟨b3, b4⟩⟩
/-- not caught here: it goes on to the caller -/
theorem vx_widen {g : JFrame} {q : Addr} {k n : Nat} (h1 : cells ≤ k) (h2 : slots ≤ n) (kk : vx_W p l e R s m args below meth c H locs k n Q g q) : vx_W p l e R s m args below meth c H locs cells slots Q g q := fun T hT X => kk T hT (stand_widen X h1 h2)
theorem vx_out {pc : Nat} {E : String} {ce : Cell} {q : Addr} {mc ms : Nat} (hout : ∀ x ∈ c.exceptionTable.toList, covers x pc = false) (hlocks : meth.locks = false) (hcell : H[q]? = some ce) (hv : ce.vm = .none) (hcl : s.vm.findClass E = some ce.cls)
    (hx : ∀ t : State, t.heap = H → s.vm.Alike t.vm → XC E s t) (hf : ∀ z ∈ locs, free z.base) (hc : cells ≤ mc) (hs : slots ≤ ms) :
    vx_W p l e R s m args below meth c H locs cells slots (vx_MQ below Qc XC args s mc ms free) (F0 m pc ls rest) q := by
  intro T hT X
  obtain ⟨st1, hrun, hend, hW, hsm⟩ := X.leaveThrown q (g := F0 m pc ls rest) rfl rfl rfl hout hlocks
  have hcell9 : (T.setFrames (.throwing q :: below)).heap[q]? = some ce := by
    show T.heap[q]? = some ce
    rw [hT]; exact hcell
  exact ⟨_, st1, .threw q, hrun, hend, Or.inr ⟨q, rfl, E, ce, locs, hx _ hT hW.alike, hcell9, hv, hcl, hW, hsm.mono hc hs, hf⟩⟩
theorem vx_frame {U : State} {k n : Nat} (h : s.sameButNew ({ U with vm := s.vm } : State) locs k n) : s.heap.size ≤ U.heap.size ∧ ∀ q : Nat, q < s.heap.size → (∀ z ∈ locs, z.base ≠ q) → U.heap[q]? = s.heap[q]? := by
  obtain ⟨-, h2, -, -, -, h6⟩ := h
  refine ⟨h2, fun q hq hz => ?_⟩
  obtain ⟨c9, e1, e2, e3, e4⟩ := h6 q _ (Array.getElem?_eq_getElem hq)
  have hs : c9.slots = (s.heap[q]).slots := Array.ext_getElem? fun i => e4 i fun hm => hz _ hm rfl
  have h9 : c9 = s.heap[q] := by
    rw [hs] at e2
    exact e2
  have e5 : U.heap[q]? = some c9 := e1
  rw [e5, h9, Array.getElem?_eq_getElem hq]
/-- the words of a throw but the four that speak of the heap -/
def vx_no (w : Cond) : Bool := decide (w ≠ .isRef (.static Bundle.tN "UNASSIGNED_STACK" Bundle.steD)) && decide (w ≠ .isRef (.static Bundle.tN "SUPPRESSED_SENTINEL" Bundle.listD)) && decide (w ≠ .laysStatic Bundle.tN "UNASSIGNED_STACK" Bundle.steD) && decide (w ≠ .laysStatic Bundle.tN "SUPPRESSED_SENTINEL" Bundle.listD)
def vx_at0 (own : String) (ic : Nat) (X : String) (names : List String) : List Cond := (Bundle.ownAtoms0 own ic X names).filter vx_no
def vx_atS (own : String) (ic : Nat) (X : String) (names : List String) : List Cond := (Bundle.ownAtoms own ic X names).filter vx_no
/-- a word that the tables alone decide, or a good one -/
def vx_ot (w : Cond) : Bool := w.onTables || goodWord w
theorem vx_ot_at {args a' : Array Value} {s U : State} {w : Cond} (hW : s.WarmedH U.vm) (hvm : s.vm = U.vm) (hg : vx_ot w = true) (h : w.before args s = true) : w.before a' U = true := by
  simp only [vx_ot, Bool.or_eq_true] at hg
  rcases hg with hg | hg
  · exact va_tabs hg hvm h
  · exact word_at hW (good_of_word hg) h
/-- a list's words: the good ones out of the method's own list, the others by premises of their own -/
theorem vx_hat {args : Array Value} {s : State} {L B : List Cond} (h1 : ∀ w ∈ L.filter goodWord, w.before args s = true) (h2 : ∀ w ∈ L.filter (fun w => !goodWord w), w ∈ B) (h3 : ∀ w ∈ B, w.before args s = true) : ∀ w ∈ L, w.before args s = true := by
  intro w hw
  by_cases g : goodWord w = true
  · exact h1 w (List.mem_filter.mpr ⟨hw, g⟩)
  · refine h3 w (h2 w (List.mem_filter.mpr ⟨hw, ?_⟩))
    show (!goodWord w) = true
    cases hgw : goodWord w
    · rfl
    · exact absurd hgw g
theorem vx_c {args : Array Value} {s : State} {w : Cond} {B : List Cond} (h : w.before args s = true) (t : ∀ w ∈ B, w.before args s = true) : ∀ w' ∈ w :: B, w'.before args s = true := fun w' h' => (List.mem_cons.mp h').elim (fun e => by rw [e]; exact h) (t w')
theorem vx_n {args : Array Value} {s : State} : ∀ w ∈ ([] : List Cond), w.before args s = true := fun _ h => nomatch h
theorem vx_own {args : Array Value} {s : State} {L : List Cond} (h1 : ∀ w ∈ L.filter vx_no, w.before args s = true)
    (hU : (Cond.isRef (.static Bundle.tN "UNASSIGNED_STACK" Bundle.steD)).before args s = true) (hN : (Cond.isRef (.static Bundle.tN "SUPPRESSED_SENTINEL" Bundle.listD)).before args s = true)
    (lU : (Cond.laysStatic Bundle.tN "UNASSIGNED_STACK" Bundle.steD).before args s = true) (lN : (Cond.laysStatic Bundle.tN "SUPPRESSED_SENTINEL" Bundle.listD).before args s = true) : ∀ w ∈ L, w.before args s = true := by
  intro w hw
  by_cases e1 : w = .isRef (.static Bundle.tN "UNASSIGNED_STACK" Bundle.steD)
  · rw [e1]; exact hU
  · by_cases e2 : w = .isRef (.static Bundle.tN "SUPPRESSED_SENTINEL" Bundle.listD)
    · rw [e2]; exact hN
    · by_cases e3 : w = .laysStatic Bundle.tN "UNASSIGNED_STACK" Bundle.steD
      · rw [e3]; exact lU
      · by_cases e4 : w = .laysStatic Bundle.tN "SUPPRESSED_SENTINEL" Bundle.listD
        · rw [e4]; exact lN
        · exact h1 w (List.mem_filter.mpr ⟨hw, by unfold vx_no; rw [decide_eq_true e1, decide_eq_true e2, decide_eq_true e3, decide_eq_true e4]; rfl⟩)
/-- where a static field lies, its class's statics cell in H -/
def vx_L (C n d : String) (A : Nat → Prop) (U : State) (H : Heap) : Prop := ∃ (c : ClassId) (k : Class) (i : Nat) (f : Field) (a : Nat) (cell : Cell), U.vm.findClass C = some c ∧ U.fieldFound? C n d = some (c, k, i, f) ∧ f.isStatic = true ∧ k.statics = some a ∧ H[a]? = some cell ∧ cell.vm.isStatics = true ∧ cell.cls = c ∧ f.slot < cell.slots.size ∧ k.staticTypes[f.slot]? = some f.type ∧ ¬ A a
theorem vx_L.moved {C n d : String} {A : Nat → Prop} {u U : State} {H : Heap} (hvm : u.vm.Alike U.vm) (h : vx_L C n d A u H) : vx_L C n d A U H := by
  obtain ⟨c, k, i, f, a, cell, h1, h2, h3, h4, h5, h6, h7, h8, h9, h10⟩ := h
  obtain ⟨k', hi', he⟩ := State.fieldFound?_setVm hvm h2
  exact ⟨c, k', i, f, a, cell, by rw [hvm.findClass]; exact h1, hi', h3, by rw [he]; exact h4, h5, h6, h7, h8, by rw [he]; exact h9, h10⟩
theorem vx_L.kept {C n d : String} {A : Nat → Prop} {U : State} {H H1 : Heap} (h : vx_L C n d A U H) (hq : ∀ a : Nat, a < H.size → ¬ A a → H1[a]? = H[a]?) : vx_L C n d A U H1 := by
  obtain ⟨c, k, i, f, a, cell, h1, h2, h3, h4, h5, h6, h7, h8, h9, h10⟩ := h
  exact ⟨c, k, i, f, a, cell, h1, h2, h3, h4, by rw [hq a (Array.getElem?_eq_some_iff.mp h5).1 h10]; exact h5, h6, h7, h8, h9, h10⟩
theorem vx_L.narrow {C n d : String} {A B : Nat → Prop} {U : State} {H : Heap} (h : vx_L C n d A U H) (hAB : ∀ q, B q → A q) : vx_L C n d B U H := by
  obtain ⟨c, k, i, f, a, cell, h1, h2, h3, h4, h5, h6, h7, h8, h9, h10⟩ := h
  exact ⟨c, k, i, f, a, cell, h1, h2, h3, h4, h5, h6, h7, h8, h9, fun z => h10 (hAB _ z)⟩
theorem vx_L.word {C n d : String} {A : Nat → Prop} {s : State} {args : Array Value} (h : vx_L C n d A s s.heap) : (Cond.laysStatic C n d).before args s = true := by
  obtain ⟨c, k, i, f, a, cell, h1, h2, h3, h4, h5, h6, h7, h8, h9, -⟩ := h
  show (Cond.laysStatic C n d).holds args s none s [] = true
  exact Cond.laysStatic_of h1 h2 h3 h4 h5 h6 h7 h8 h9
/-- .. and what it holds: null or some reference -/
def vx_Zq (C n d : String) (A : Nat → Prop) (U : State) (H : Heap) : Prop := va_Zq C n d A U H ∧ vx_L C n d A U H
theorem vx_Zq.moved {C n d : String} {A : Nat → Prop} {u U : State} {H : Heap} (hvm : u.vm.Alike U.vm) (h : vx_Zq C n d A u H) : vx_Zq C n d A U H := ⟨va_Zq.moved hvm h.1, vx_L.moved hvm h.2⟩
theorem vx_Zq.kept {C n d : String} {A : Nat → Prop} {U : State} {H H1 : Heap} (h : vx_Zq C n d A U H) (hq : ∀ a : Nat, a < H.size → ¬ A a → H1[a]? = H[a]?) : vx_Zq C n d A U H1 := ⟨va_Zq.kept h.1 hq, vx_L.kept h.2 hq⟩
theorem vx_Zq.narrow {C n d : String} {A B : Nat → Prop} {U : State} {H : Heap} (h : vx_Zq C n d A U H) (hAB : ∀ q, B q → A q) : vx_Zq C n d B U H := ⟨va_Zq.narrow h.1 hAB, vx_L.narrow h.2 hAB⟩
theorem vx_Zqof {args : Array Value} {s : State} {C n d : String} {A : Nat → Prop} (hl : (Cond.laysStatic C n d).before args s = true) (hini : (Cond.initialized C).before args s = true) (h : (Cond.isRef (.static C n d)).before args s = true) (hA : ∀ a : Nat, a < s.heap.size → ¬ A a) : vx_Zq C n d A s s.heap := by
  refine ⟨va_Zqof hl hini h hA, ?_⟩
  obtain ⟨c, k, i, f, a, cell, h1, h2, h3, h4, h5, h6, h7, h8, h9⟩ := Cond.laysStatic_spec hl
  exact ⟨c, k, i, f, a, cell, h1, h2, h3, h4, h5, h6, h7, h8, h9, hA a (Array.getElem?_eq_some_iff.mp h5).1⟩
theorem vx_isRef {C n d : String} {v : Value} {A : Nat → Prop} {s : State} {args : Array Value} (h : va_Z C n d v A s s.heap) (hv : v.isRef = true) : (Cond.isRef (.static C n d)).before args s = true := by
  obtain ⟨cf, kf, fi, f, a, cell, h1, h2, h3, h4, h5, h6, h7, -⟩ := h
  have he : (Term.static C n d).eval args s none [] s = some v := by
    simp [Term.eval, State.fieldNamed?, h1, h2, h4, h5, h6, h7]
  simp only [Cond.before, Cond.holds, Cond.value, he]
  cases v <;> simp_all [Value.isRef]
theorem vx_isRefq {C n d : String} {A : Nat → Prop} {s : State} {args : Array Value} (h : va_Zq C n d A s s.heap) : (Cond.isRef (.static C n d)).before args s = true := by
  rcases h with h | ⟨t, h⟩
  · exact vx_isRef h rfl
  · exact vx_isRef h rfl
/-- the same frame, seen from here: as if the method were called anew in this heap -/
theorem vx_rebase {T : State} (X : Stand p l e R s m args below meth c T locs cells slots) {R' : Room} (hf : R'.frames ≤ R.frames) (hl : R'.locals ≤ R.locals) (hc : cells + R'.cells ≤ R.cells) (hs : slots + R'.slots ≤ R.slots) :
    Stand p l e R' ((T.setVm s.vm).setFrames (.invoking m args :: below)) m args below meth c T [] 0 0 := by
  have htop : (T.setVm s.vm).topJava?.isSome := X.here.top
  have hF : ((T.setVm s.vm).setFrames (.invoking m args :: below)).frames = .invoking m args :: below := State.frames_setFrames _ (State.cur_lt_of_top htop)
  obtain ⟨g₀, hg0⟩ := Option.isSome_iff_exists.mp htop
  obtain ⟨r, hr⟩ := State.topJava?_eq_some.mp hg0
  have hl9 : e.platform.stackLimits (T.setVm s.vm).me = e.platform.stackLimits s.me := X.limits
  have hb9 : (T.setVm s.vm).me.stackBytes = s.me.stackBytes := X.bytes
  refine ⟨X.admits, X.cas, X.clock, hF, ?_, X.hears, X.method, X.code, X.here, X.tail, X.warmed, ?_, ?_, ?_⟩
  · have h := X.room
    have hU : ((T.setVm s.vm).setFrames (.invoking m args :: below)).localsInUse = s.localsInUse := by
      rw [State.localsInUse_invoking hF (meth := meth) (c := c) X.method X.code, State.localsInUse_invoking X.frames X.method X.code]
    simp only [State.hasRoom, Bool.and_eq_true, decide_eq_true_eq] at h ⊢
    obtain ⟨⟨⟨⟨h1, h2, h3, h4, h5, h6⟩, h7⟩, h8⟩, h9⟩ := h
    rw [X.frames, List.length_cons] at h2 h3
    have q1 := X.heapSize
    have q2 := X.used
    simp only [hF, hU, List.length_cons, State.stackLimits_setFrames, State.stackBytes_setFrames, hl9, hb9]
    refine ⟨⟨⟨⟨by omega, by omega, by omega, by omega, by omega, h6⟩, ?_⟩, ?_⟩, X.book⟩
    · show T.heap.size + R'.cells ≤ e.platform.maxCells
      omega
    · show T.slotsUsed + R'.slots ≤ e.platform.maxSlots
      omega
  · rw [State.stackLimits_setFrames]; rfl
  · rw [State.stackBytes_setFrames]; rfl
  · refine ⟨?_, Nat.le_refl _, Nat.le_refl _, ?_, ?_, fun a c9 h9 => ⟨c9, h9, rfl, rfl, fun _ _ => rfl⟩⟩
    · obtain ⟨t, ht, -⟩ := State.frames_cons hr
      show T.setVm s.vm = { ((T.setVm s.vm).setFrames (.invoking m args :: below)).setFrames (T.setVm s.vm).frames with heap := T.heap, slotsUsed := T.slotsUsed }
      rw [State.setFrames_setFrames, State.setFrames_self ht]
      rfl
    · show T.slotsUsed = T.slotsUsed + ((T.heap.toList.drop T.heap.size).map (·.slots.size)).sum
      rw [List.drop_eq_nil_of_le (Nat.le_of_eq Array.length_toList)]
      rfl
    · show ((T.heap.toList.drop T.heap.size).map (·.slots.size)).sum ≤ 0
      rw [List.drop_eq_nil_of_le (Nat.le_of_eq Array.length_toList)]
      exact Nat.le_refl _
/-- 'throw new E()': new; dup; invokespecial; athrow -/
theorem vx_throw0 {cc : ByteArray} {pc : Nat} (hexec : p.tables.exec = Jvm.exec) (hb : c.code = cc) (hl : l.stackTraces = false) {own cls : String} {names : List String} {ik ic mc ms : Nat} {A : Nat → Prop}
    (hown : s.vm.findClass own = some m.cls) (hcls : Bundle.fit cls = true) (hnames : ∀ n ∈ names, Bundle.fit n = true)
    (hk : (Cond.classLink own ik cls).before args s = true) (hini : (Cond.initialized cls).before args s = true) (hat : ∀ w ∈ vx_at0 own ic cls names, w.before args s = true)
    (hgood : ∀ w ∈ Cond.classLink own ik cls :: Cond.initialized cls :: vx_at0 own ic cls names, vx_ot w = true)
    (hU : vx_Zq Bundle.tN "UNASSIGNED_STACK" Bundle.steD A s s.heap) (hN : vx_Zq Bundle.tN "SUPPRESSED_SENTINEL" Bundle.listD A s s.heap) (hS : va_S A s.heap H locs) (hsize : ls.size = c.maxLocals)
    (d0 : decode cc pc = .ok (.new ik, 3)) (d3 : decode cc (pc + 3) = .ok (.dup, 1)) (d4 : decode cc (pc + 4) = .ok (.invokespecial ic, 3)) (d7 : decode cc (pc + 7) = .ok (.athrow, 1))
    (hout : ∀ x ∈ c.exceptionTable.toList, covers x (pc + 7) = false)
    (hRframes : names.length + 3 < R.frames) (hRlocals : (rest.map fun v => v.category).sum + (13 * (names.length + 1) + 42) ≤ R.locals) (hRcells : cells + 1 ≤ R.cells) (hRslots : slots + 6 ≤ R.slots) (hlocks : meth.locks = false)
    (hx : ∀ t : State, s.vm.Alike t.vm → H.size ≤ t.heap.size → (∀ q : Nat, q < H.size → t.heap[q]? = H[q]?) → XC cls s t)
    (hf : ∀ z ∈ locs, free z.base) (hc : cells + 1 ≤ mc) (hs : slots + 6 ≤ ms) :
    W p l e R s m args below meth c H locs cells slots (vx_MQ below Qc XC args s mc ms free) (F0 m pc ls rest) := by
  intro T hT X
  have htr : e.platform.stackTraces = false := (show e.platform.stackTraces = l.stackTraces by rw [X.admits.platform]).trans hl
  have Y := vx_rebase X (R' := { frames := R.frames, locals := R.locals, cells := 1, slots := 6 }) (Nat.le_refl _) (Nat.le_refl _) hRcells hRslots
  obtain ⟨s', hA⟩ : ∃ z, z = (T.setVm s.vm).setFrames (.invoking m args :: below) := ⟨_, rfl⟩
  rw [← hA] at Y
  have hvm : s'.vm = s.vm := by rw [hA]; rfl
  have hhp : s'.heap = H := by rw [hA]; exact hT
  have hW0 : s.WarmedH s'.vm := by rw [hvm]; exact State.WarmedH.refl s
  have hat' : ∀ w ∈ vx_at0 own ic cls names, w.before args s' = true := fun w hw => vx_ot_at hW0 hvm.symm (hgood w (List.mem_cons_of_mem _ (List.mem_cons_of_mem _ hw))) (hat w hw)
  have hk' : (Cond.classLink own ik cls).before args s' = true := vx_ot_at hW0 hvm.symm (hgood _ List.mem_cons_self) hk
  have hini' : (Cond.initialized cls).before args s' = true := vx_ot_at hW0 hvm.symm (hgood _ (List.mem_cons_of_mem _ List.mem_cons_self)) hini
  have hU' : vx_Zq Bundle.tN "UNASSIGNED_STACK" Bundle.steD A s' s'.heap := by rw [hhp]; exact vx_Zq.moved hW0.alike (hU.kept hS.2.1)
  have hN' : vx_Zq Bundle.tN "SUPPRESSED_SENTINEL" Bundle.listD A s' s'.heap := by rw [hhp]; exact vx_Zq.moved hW0.alike (hN.kept hS.2.1)
  have h : ∀ w ∈ Bundle.ownAtoms0 own ic cls names, w.before args s' = true := vx_own hat' (vx_isRefq hU'.1) (vx_isRefq hN'.1) hU'.2.word hN'.2.word
  have hown' : s'.vm.findClass own = some m.cls := by rw [hvm]; exact hown
  have hins : (Cond.instantiable cls 6).before args s' = true := h _ (by simp [Bundle.ownAtoms0])
  obtain ⟨vm₁, cX, kX, hfX, hkX, -, -, X₁, st1⟩ := Y.newCold hexec (own := own) (C := cls) (index := ik) (n := 6) hown' hk' hins hini'
    (g := F0 m pc ls rest) rfl (by rw [hb]; exact d0) (Nat.le_refl _) (Nat.le_refl _)
  generalize hT1 : (T.setVm vm₁).pushCell { cls := cX, slots := kX.instanceTypes.map defaultValue, vm := .none } = T1 at X₁ st1
  have hcat : (Value.ref T.heap.size).category = 1 := rfl
  have hcellA : T1.heap[T.heap.size]? = some (freshCell cX kX) := by rw [← hT1]; exact State.heap_pushCell_size _ _
  have d3' : decode c.code (pc + 3) = .ok (.dup, 1) := by rw [hb]; exact d3
  obtain ⟨U, hsteps, hrun, hend, hW, hsame, ce, hce, hO⟩ := X₁.ctorThrow0 hexec htr (own := own) (cls := cls) (names := names) (ic := ic) hown' hcls hnames h (fun x hx => nomatch hx) hfX hkX hcellA (by rw [hhp, hT]; exact Nat.le_refl _)
    (g := { method := m, pc := pc + 4, locals := ls, stack := .ref T.heap.size :: .ref T.heap.size :: rest, locked := none }) rfl hsize rfl rfl (rest := rest) rfl
    (by rw [hb]; exact d4) (by rw [hb]; exact d7) hout hRframes (by simp only [List.map_cons, List.sum_cons, hcat]; omega) hlocks
  obtain ⟨f1, f2⟩ := vx_frame hsame
  rw [hhp] at f1 f2
  have hWs : s.WarmedH U.vm := State.WarmedH.trans hW0 hW
  have hcl : s.vm.findClass cls = some ce.cls := by
    have h9 := hO.cls
    rw [hvm] at h9
    exact h9
  have hall : s.sameButNew ({ U with vm := s.vm } : State) locs mc ms := by
    subst hA
    obtain ⟨e1, e2⟩ := hsame
    rw [State.setFrames_setFrames] at e1
    have h2 : (T.setVm s.vm).sameButNew ({ U with vm := s.vm } : State) [] (0 + 1) (0 + 6) := ⟨e1, e2⟩
    have h3 := X.same.trans h2
    rw [List.append_nil] at h3
    exact h3.mono hc hs
  refine ⟨U, ?_, .threw T.heap.size, hrun, hend, Or.inr ⟨T.heap.size, rfl, cls, ce, locs, hx U hWs.alike f1 (fun q hq => f2 q hq (fun z hz => nomatch hz)), hce, hO.vm, hcl, hWs, hall, hf⟩⟩
  refine st1 _ ?_
  show Steps p.tables e below (T1.setTop { method := m, pc := pc + 3, locals := ls, stack := .ref T.heap.size :: rest, locked := none }) _
  jvm_step X₁.here [X₁.here.top, hexec, d3', Value.category]
  exact hsteps
/-- 'throw new E("text")': new; dup; ldc; invokespecial; athrow -/
theorem vx_throwS {cc : ByteArray} {pc : Nat} (hexec : p.tables.exec = Jvm.exec) (hb : c.code = cc) (hl : l.stackTraces = false) {own cls text : String} {names : List String} {ik is ic mc ms sa : Nat} {A : Nat → Prop}
    (hown : s.vm.findClass own = some m.cls) (hcls : Bundle.fit cls = true) (hnames : ∀ n ∈ names, Bundle.fit n = true)
    (hk : (Cond.classLink own ik cls).before args s = true) (hini : (Cond.initialized cls).before args s = true) (hstr : vk_R own is text sa s) (hat : ∀ w ∈ vx_atS own ic cls names, w.before args s = true)
    (hgood : ∀ w ∈ Cond.classLink own ik cls :: Cond.initialized cls :: vx_atS own ic cls names, vx_ot w = true)
    (hU : vx_Zq Bundle.tN "UNASSIGNED_STACK" Bundle.steD A s s.heap) (hN : vx_Zq Bundle.tN "SUPPRESSED_SENTINEL" Bundle.listD A s s.heap) (hS : va_S A s.heap H locs) (hsize : ls.size = c.maxLocals)
    (d0 : decode cc pc = .ok (.new ik, 3)) (d3 : decode cc (pc + 3) = .ok (.dup, 1)) (d4 : decode cc (pc + 4) = .ok (.ldc is, 2)) (d6 : decode cc (pc + 6) = .ok (.invokespecial ic, 3)) (d9 : decode cc (pc + 9) = .ok (.athrow, 1))
    (hout : ∀ x ∈ c.exceptionTable.toList, covers x (pc + 9) = false)
    (hRframes : names.length + 3 < R.frames) (hRlocals : (rest.map fun v => v.category).sum + (13 * (names.length + 1) + 43) ≤ R.locals) (hRcells : cells + 1 ≤ R.cells) (hRslots : slots + 6 ≤ R.slots) (hlocks : meth.locks = false)
    (hx : ∀ t : State, s.vm.Alike t.vm → H.size ≤ t.heap.size → (∀ q : Nat, q < H.size → t.heap[q]? = H[q]?) → XC cls s t)
    (hf : ∀ z ∈ locs, free z.base) (hc : cells + 1 ≤ mc) (hs : slots + 6 ≤ ms) :
    W p l e R s m args below meth c H locs cells slots (vx_MQ below Qc XC args s mc ms free) (F0 m pc ls rest) := by
  intro T hT X
  have htr : e.platform.stackTraces = false := (show e.platform.stackTraces = l.stackTraces by rw [X.admits.platform]).trans hl
  have Y := vx_rebase X (R' := { frames := R.frames, locals := R.locals, cells := 1, slots := 6 }) (Nat.le_refl _) (Nat.le_refl _) hRcells hRslots
  obtain ⟨s', hA⟩ : ∃ z, z = (T.setVm s.vm).setFrames (.invoking m args :: below) := ⟨_, rfl⟩
  rw [← hA] at Y
  have hvm : s'.vm = s.vm := by rw [hA]; rfl
  have hhp : s'.heap = H := by rw [hA]; exact hT
  have hW0 : s.WarmedH s'.vm := by rw [hvm]; exact State.WarmedH.refl s
  have hat' : ∀ w ∈ vx_atS own ic cls names, w.before args s' = true := fun w hw => vx_ot_at hW0 hvm.symm (hgood w (List.mem_cons_of_mem _ (List.mem_cons_of_mem _ hw))) (hat w hw)
  have hk' : (Cond.classLink own ik cls).before args s' = true := vx_ot_at hW0 hvm.symm (hgood _ List.mem_cons_self) hk
  have hini' : (Cond.initialized cls).before args s' = true := vx_ot_at hW0 hvm.symm (hgood _ (List.mem_cons_of_mem _ List.mem_cons_self)) hini
  have hU' : vx_Zq Bundle.tN "UNASSIGNED_STACK" Bundle.steD A s' s'.heap := by rw [hhp]; exact vx_Zq.moved hW0.alike (hU.kept hS.2.1)
  have hN' : vx_Zq Bundle.tN "SUPPRESSED_SENTINEL" Bundle.listD A s' s'.heap := by rw [hhp]; exact vx_Zq.moved hW0.alike (hN.kept hS.2.1)
  have h : ∀ w ∈ Bundle.ownAtoms own ic cls names, w.before args s' = true := vx_own hat' (vx_isRefq hU'.1) (vx_isRefq hN'.1) hU'.2.word hN'.2.word
  have hown' : s'.vm.findClass own = some m.cls := by rw [hvm]; exact hown
  have hins : (Cond.instantiable cls 6).before args s' = true := h _ (by simp [Bundle.ownAtoms])
  obtain ⟨vm₁, cX, kX, hfX, hkX, -, -, X₁, st1⟩ := Y.newCold hexec (own := own) (C := cls) (index := ik) (n := 6) hown' hk' hins hini'
    (g := F0 m pc ls rest) rfl (by rw [hb]; exact d0) (Nat.le_refl _) (Nat.le_refl _)
  generalize hT1 : (T.setVm vm₁).pushCell { cls := cX, slots := kX.instanceTypes.map defaultValue, vm := .none } = T1 at X₁ st1
  have hcat : (Value.ref T.heap.size).category = 1 := rfl
  have hcellA : T1.heap[T.heap.size]? = some (freshCell cX kX) := by rw [← hT1]; exact State.heap_pushCell_size _ _
  have d3' : decode c.code (pc + 3) = .ok (.dup, 1) := by rw [hb]; exact d3
  have d4' : decode c.code (pc + 4) = .ok (.ldc is, 2) := by rw [hb]; exact d4
  have hstr' : vk_R own is text sa s' := vk_R.warm hW0 hstr
  obtain ⟨U, hsteps, hrun, hend, hW, hsame, ce, hce, hO⟩ := X₁.ctorThrowS hexec htr (own := own) (cls := cls) (names := names) (ic := ic) hown' hcls hnames h (fun x hx => nomatch hx) hfX hkX hcellA (by rw [hhp, hT]; exact Nat.le_refl _) (msg := .ref sa) rfl
    (g := { method := m, pc := pc + 6, locals := ls, stack := .ref sa :: .ref T.heap.size :: .ref T.heap.size :: rest, locked := none }) rfl hsize rfl rfl (rest := rest) rfl
    (by rw [hb]; exact d6) (by rw [hb]; exact d9) hout hRframes (by simp only [List.map_cons, List.sum_cons, hcat]; omega) hlocks
  obtain ⟨f1, f2⟩ := vx_frame hsame
  rw [hhp] at f1 f2
  have hWs : s.WarmedH U.vm := State.WarmedH.trans hW0 hW
  have hcl : s.vm.findClass cls = some ce.cls := by
    have h9 := hO.cls
    rw [hvm] at h9
    exact h9
  have hall : s.sameButNew ({ U with vm := s.vm } : State) locs mc ms := by
    subst hA
    obtain ⟨e1, e2⟩ := hsame
    rw [State.setFrames_setFrames] at e1
    have h2 : (T.setVm s.vm).sameButNew ({ U with vm := s.vm } : State) [] (0 + 1) (0 + 6) := ⟨e1, e2⟩
    have h3 := X.same.trans h2
    rw [List.append_nil] at h3
    exact h3.mono hc hs
  refine ⟨U, ?_, .threw T.heap.size, hrun, hend, Or.inr ⟨T.heap.size, rfl, cls, ce, locs, hx U hWs.alike f1 (fun q hq => f2 q hq (fun z hz => nomatch hz)), hce, hO.vm, hcl, hWs, hall, hf⟩⟩
  refine st1 _ ?_
  show Steps p.tables e below (T1.setTop { method := m, pc := pc + 3, locals := ls, stack := .ref T.heap.size :: rest, locked := none }) _
  jvm_step X₁.here [X₁.here.top, hexec, d3', Value.category]
  exact X₁.ldcString hexec (own := own) (text := text) (index := is) (a := sa) hown' hstr'.1 hstr'.2
    (g := { method := m, pc := pc + 4, locals := ls, stack := .ref T.heap.size :: .ref T.heap.size :: rest, locked := none }) rfl d4' _ hsteps
/-- 'throw new E("text")', the text by a wide index -/
theorem vx_throwSW {cc : ByteArray} {pc : Nat} (hexec : p.tables.exec = Jvm.exec) (hb : c.code = cc) (hl : l.stackTraces = false) {own cls text : String} {names : List String} {ik is ic mc ms sa : Nat} {A : Nat → Prop}
    (hown : s.vm.findClass own = some m.cls) (hcls : Bundle.fit cls = true) (hnames : ∀ n ∈ names, Bundle.fit n = true)
    (hk : (Cond.classLink own ik cls).before args s = true) (hini : (Cond.initialized cls).before args s = true) (hstr : vk_R own is text sa s) (hat : ∀ w ∈ vx_atS own ic cls names, w.before args s = true)
    (hgood : ∀ w ∈ Cond.classLink own ik cls :: Cond.initialized cls :: vx_atS own ic cls names, vx_ot w = true)
    (hU : vx_Zq Bundle.tN "UNASSIGNED_STACK" Bundle.steD A s s.heap) (hN : vx_Zq Bundle.tN "SUPPRESSED_SENTINEL" Bundle.listD A s s.heap) (hS : va_S A s.heap H locs) (hsize : ls.size = c.maxLocals)
    (d0 : decode cc pc = .ok (.new ik, 3)) (d3 : decode cc (pc + 3) = .ok (.dup, 1)) (d4 : decode cc (pc + 4) = .ok (.ldc_w is, 3)) (d7 : decode cc (pc + 7) = .ok (.invokespecial ic, 3)) (d10 : decode cc (pc + 10) = .ok (.athrow, 1))
    (hout : ∀ x ∈ c.exceptionTable.toList, covers x (pc + 10) = false)
    (hRframes : names.length + 3 < R.frames) (hRlocals : (rest.map fun v => v.category).sum + (13 * (names.length + 1) + 43) ≤ R.locals) (hRcells : cells + 1 ≤ R.cells) (hRslots : slots + 6 ≤ R.slots) (hlocks : meth.locks = false)
    (hx : ∀ t : State, s.vm.Alike t.vm → H.size ≤ t.heap.size → (∀ q : Nat, q < H.size → t.heap[q]? = H[q]?) → XC cls s t)
    (hf : ∀ z ∈ locs, free z.base) (hc : cells + 1 ≤ mc) (hs : slots + 6 ≤ ms) :
    W p l e R s m args below meth c H locs cells slots (vx_MQ below Qc XC args s mc ms free) (F0 m pc ls rest) := by
  intro T hT X
  have htr : e.platform.stackTraces = false := (show e.platform.stackTraces = l.stackTraces by rw [X.admits.platform]).trans hl
  have Y := vx_rebase X (R' := { frames := R.frames, locals := R.locals, cells := 1, slots := 6 }) (Nat.le_refl _) (Nat.le_refl _) hRcells hRslots
  obtain ⟨s', hA⟩ : ∃ z, z = (T.setVm s.vm).setFrames (.invoking m args :: below) := ⟨_, rfl⟩
  rw [← hA] at Y
  have hvm : s'.vm = s.vm := by rw [hA]; rfl
  have hhp : s'.heap = H := by rw [hA]; exact hT
  have hW0 : s.WarmedH s'.vm := by rw [hvm]; exact State.WarmedH.refl s
  have hat' : ∀ w ∈ vx_atS own ic cls names, w.before args s' = true := fun w hw => vx_ot_at hW0 hvm.symm (hgood w (List.mem_cons_of_mem _ (List.mem_cons_of_mem _ hw))) (hat w hw)
  have hk' : (Cond.classLink own ik cls).before args s' = true := vx_ot_at hW0 hvm.symm (hgood _ List.mem_cons_self) hk
  have hini' : (Cond.initialized cls).before args s' = true := vx_ot_at hW0 hvm.symm (hgood _ (List.mem_cons_of_mem _ List.mem_cons_self)) hini
  have hU' : vx_Zq Bundle.tN "UNASSIGNED_STACK" Bundle.steD A s' s'.heap := by rw [hhp]; exact vx_Zq.moved hW0.alike (hU.kept hS.2.1)
  have hN' : vx_Zq Bundle.tN "SUPPRESSED_SENTINEL" Bundle.listD A s' s'.heap := by rw [hhp]; exact vx_Zq.moved hW0.alike (hN.kept hS.2.1)
  have h : ∀ w ∈ Bundle.ownAtoms own ic cls names, w.before args s' = true := vx_own hat' (vx_isRefq hU'.1) (vx_isRefq hN'.1) hU'.2.word hN'.2.word
  have hown' : s'.vm.findClass own = some m.cls := by rw [hvm]; exact hown
  have hins : (Cond.instantiable cls 6).before args s' = true := h _ (by simp [Bundle.ownAtoms])
  obtain ⟨vm₁, cX, kX, hfX, hkX, -, -, X₁, st1⟩ := Y.newCold hexec (own := own) (C := cls) (index := ik) (n := 6) hown' hk' hins hini'
    (g := F0 m pc ls rest) rfl (by rw [hb]; exact d0) (Nat.le_refl _) (Nat.le_refl _)
  generalize hT1 : (T.setVm vm₁).pushCell { cls := cX, slots := kX.instanceTypes.map defaultValue, vm := .none } = T1 at X₁ st1
  have hcat : (Value.ref T.heap.size).category = 1 := rfl
  have hcellA : T1.heap[T.heap.size]? = some (freshCell cX kX) := by rw [← hT1]; exact State.heap_pushCell_size _ _
  have d3' : decode c.code (pc + 3) = .ok (.dup, 1) := by rw [hb]; exact d3
  have d4' : decode c.code (pc + 4) = .ok (.ldc_w is, 3) := by rw [hb]; exact d4
  have hstr' : vk_R own is text sa s' := vk_R.warm hW0 hstr
  obtain ⟨U, hsteps, hrun, hend, hW, hsame, ce, hce, hO⟩ := X₁.ctorThrowS hexec htr (own := own) (cls := cls) (names := names) (ic := ic) hown' hcls hnames h (fun x hx => nomatch hx) hfX hkX hcellA (by rw [hhp, hT]; exact Nat.le_refl _) (msg := .ref sa) rfl
    (g := { method := m, pc := pc + 7, locals := ls, stack := .ref sa :: .ref T.heap.size :: .ref T.heap.size :: rest, locked := none }) rfl hsize rfl rfl (rest := rest) rfl
    (by rw [hb]; exact d7) (by rw [hb]; exact d10) hout hRframes (by simp only [List.map_cons, List.sum_cons, hcat]; omega) hlocks
  obtain ⟨f1, f2⟩ := vx_frame hsame
  rw [hhp] at f1 f2
  have hWs : s.WarmedH U.vm := State.WarmedH.trans hW0 hW
  have hcl : s.vm.findClass cls = some ce.cls := by
    have h9 := hO.cls
    rw [hvm] at h9
    exact h9
  have hall : s.sameButNew ({ U with vm := s.vm } : State) locs mc ms := by
    subst hA
    obtain ⟨e1, e2⟩ := hsame
    rw [State.setFrames_setFrames] at e1
    have h2 : (T.setVm s.vm).sameButNew ({ U with vm := s.vm } : State) [] (0 + 1) (0 + 6) := ⟨e1, e2⟩
    have h3 := X.same.trans h2
    rw [List.append_nil] at h3
    exact h3.mono hc hs
  refine ⟨U, ?_, .threw T.heap.size, hrun, hend, Or.inr ⟨T.heap.size, rfl, cls, ce, locs, hx U hWs.alike f1 (fun q hq => f2 q hq (fun z hz => nomatch hz)), hce, hO.vm, hcl, hWs, hall, hf⟩⟩
  refine st1 _ ?_
  show Steps p.tables e below (T1.setTop { method := m, pc := pc + 3, locals := ls, stack := .ref T.heap.size :: rest, locked := none }) _
  jvm_step X₁.here [X₁.here.top, hexec, d3', Value.category]
  exact X₁.ldcStringW hexec (own := own) (text := text) (index := is) (a := sa) hown' hstr'.1 hstr'.2
    (g := { method := m, pc := pc + 4, locals := ls, stack := .ref T.heap.size :: .ref T.heap.size :: rest, locked := none }) rfl d4' _ hsteps
end Ends
section Bodies
variable {l : Launch}
theorem vx_ofW {y : MethodName} {ws ws' : List Cond} {rm : Room} {Pc : Array Value → State → Prop} {Qc : Array Value → State → Outcome → State → Prop} {XC : String → State → State → Prop} {mc ms : Nat} {free : Addr → Prop} {cc : ByteArray} {maxL : Nat} {ret : Option FieldType}
    (hy : plainName y.cls = true) (hw : ws = Cond.code y cc maxL ret :: ws')
    (body : ∀ p e s m args below meth c s₁, BodyLoose p l y (headSpec ws rm) cc maxL ret e s m args below meth c s₁ → c.maxLocals = maxL → (∀ x ∈ c.exceptionTable.toList, False) → Pc args s →
      W p l e (headSpec ws rm).room s m args below meth c s.heap [] 0 0 (vx_MQ below Qc XC args s mc ms free) (entryFrame m args maxL)) : vx_Met l y ws rm Pc Qc XC mc ms free := by
  refine MetFree.of_bodyS (code := cc) (maxLocals := maxL) (ret := ret) hy ?_ ?_
  · intro args s m h hn
    obtain ⟨meth, c, h1, h2, h3, h4, h5, h6, -, -⟩ := Cond.code_spec hn (atoms_spec (ws := ws) h _ (by rw [hw]; exact List.mem_cons_self))
    exact ⟨meth, c, h1, h2, h3, h4, h5, h6⟩
  · intro p e s m args below meth c s₁ B hml hP _
    have hh0 : s₁.heap = s.heap := by rw [B.state]; rfl
    have ht : ∀ x ∈ c.exceptionTable.toList, False := by
      obtain ⟨meth9, c9, h1, h2, -, -, -, -, h7, -⟩ := Cond.code_spec B.named (atoms_spec (ws := ws) B.pre _ (by rw [hw]; exact List.mem_cons_self))
      cases Option.some.inj (h1.symm.trans B.method)
      cases Option.some.inj (h2.symm.trans (Stand.of_body B).code)
      intro x hx
      rw [Array.isEmpty_iff.mp h7] at hx
      cases hx
    obtain ⟨t, a1, o, b1, b2, b3⟩ := body p e s m args below meth c s₁ B hml ht hP s₁ hh0 (Stand.of_body B)
    exact ⟨t, o, a1, b1, b2, b3⟩
/-- the table of a body with handlers -/
theorem vx_table {p : Program} {x y : MethodName} {S : Spec} {cc bytes : ByteArray} {maxL maxL' : Nat} {ret ret' : Option FieldType} {e : Env} {s s₁ : State} {m : MethodId} {args : Array Value} {below : List Frame} {meth : Method} {c : Code} {hh : List (Nat × Nat × Nat × Nat)}
    (B : BodyLoose p l y S cc maxL ret e s m args below meth c s₁) (h : (Cond.codeWith y bytes maxL' ret' hh).before args s = true) : c.exceptionTable.toList = tableOf hh := by
  obtain ⟨m9, meth9, c9, hn9, h1, h2, -, -, h6, -⟩ := Cond.codeWith_spec h
  cases Option.some.inj (hn9.symm.trans B.named)
  cases Option.some.inj (h1.symm.trans B.method)
  cases Option.some.inj (h2.symm.trans (Stand.of_body B).code)
  rw [← h6, table_eq]
end Bodies
end VXA
/-! ===== END ===== -/
/-! ===== BEGIN a static call of a method with an exception table ===== -/
section VXS
variable {p : Program} {l : Launch} {e : Env} {R : Room} {s : State} {m : MethodId} {args : Array Value} {below : List Frame} {meth : Method} {c : Code} {T : State} {H : Heap} {locs : List Loc} {cells slots : Nat}
abbrev vx_CSW (R : Room) (s : State) (args : Array Value) (own : String) (index : Nat) (y : MethodName) (bytes : ByteArray) (maxL : Nat) (ret : Option FieldType) (hh : List (Nat × Nat × Nat × Nat)) (ws : List Cond) (rm : Room) (mc ms n : Nat) : Prop :=
  (rm.cells = mc ∧ rm.slots = ms ∧ rm.frames + 1 ≤ R.frames ∧ 8 + (maxL + 11) + rm.locals ≤ R.locals ∧ (∀ w ∈ ws, ∀ (a' : Array Value) (U : State), s.WarmedH U.vm → w.before a' U = true) ∧ Cond.codeWith y bytes maxL ret hh ∈ ws) ∧
  (Cond.codeWith y bytes maxL ret hh).before args s = true ∧ (Cond.initialized y.cls).before args s = true ∧ (y.cls ≠ "java/lang/invoke/MethodHandle" ∧ y.cls ≠ "java/lang/invoke/VarHandle") ∧
  (∀ sig, parseMethodDescriptor y.desc = some sig → n = sig.parameters.length) ∧ (Cond.methodLink own index y).before args s = true ∧ (Cond.static y).before args s = true
theorem vx_cwSW {own : String} {index maxL mc ms : Nat} {y : MethodName} {bytes : ByteArray} {ret : Option FieldType} {hh : List (Nat × Nat × Nat × Nat)} {Ts ws ws' : List Cond} {rm : Room} (n : Nat) (ht : ∀ w ∈ Ts, w.before args s = true) (hT : GoodIn Ts (va_wsS own index y ws)) (hw : ws = Cond.codeWith y bytes maxL ret hh :: ws') (hrc : rm.cells = mc) (hrs : rm.slots = ms)
    (hd : y.cls ≠ "java/lang/invoke/MethodHandle" ∧ y.cls ≠ "java/lang/invoke/VarHandle" ∧ (parseMethodDescriptor y.desc).map (fun d => d.parameters.length) = some n) (hR : rm.frames + 1 ≤ R.frames ∧ 8 + (maxL + 11) + rm.locals ≤ R.locals) :
    vx_CSW R s args own index y bytes maxL ret hh ws rm mc ms n := by
  have ok : ∀ w ∈ va_wsS own index y ws, w.before args s = true := fun w h => ht w (hT w h).1
  have hG : GoodIn Ts ws := fun w h => hT w (by unfold va_wsS; exact List.mem_append_right _ h)
  have hc : Cond.codeWith y bytes maxL ret hh ∈ ws := by rw [hw]; exact List.mem_cons_self
  refine ⟨⟨hrc, hrs, hR.1, hR.2, pay_in ht hG, hc⟩, ht _ (hG _ hc).1, ok _ (by simp [va_wsS]), ⟨hd.1, hd.2.1⟩, fun sig h => ?_, ok _ (by simp [va_wsS]), ok _ (by simp [va_wsS])⟩
  have h2 := hd.2.2
  rw [h] at h2
  exact (Option.some.inj h2).symm
theorem vx_callSW (X : Stand p l e R s m args below meth c T locs cells slots) (hexec : p.tables.exec = Jvm.exec) {own : String} {index : Nat} {y : MethodName} {bytes : ByteArray} {maxL : Nat} {ret : Option FieldType} {hh : List (Nat × Nat × Nat × Nat)}
    (hown : s.vm.findClass own = some m.cls) (hlink : (Cond.methodLink own index y).before args s = true) (hstat : (Cond.static y).before args s = true) (hinit : (Cond.initialized y.cls).before args s = true)
    (hcode : (Cond.codeWith y bytes maxL ret hh).before args s = true) (hy : y.cls ≠ "java/lang/invoke/MethodHandle" ∧ y.cls ≠ "java/lang/invoke/VarHandle")
    {W9 : Nat} {Pre : Pt → Array Value → Prop} {Post : Pt → Array Value → Option Value → Pt → Prop} (hK : Back l R p e below s args y 3 W9 Pre Post)
    {g : JFrame} (hg : g.method = m) (hsize : g.locals.size = c.maxLocals) {argsL rest : List Value} (hlen : ∀ sig, parseMethodDescriptor y.desc = some sig → argsL.length = sig.parameters.length)
    (hstack : g.stack = argsL.reverse ++ rest) (hW : 2 * g.monitorRoom + (rest.map fun v => v.category).sum ≤ W9) (hdg : decode c.code g.pc = .ok (.invokestatic index, 3))
    (hpre : ∀ vm₁, s.WarmedH vm₁ → Pre ⟨T.setVm vm₁, locs, cells, slots⟩ argsL.toArray) :
    ∃ (v : Option Value) (vm₁ : Vm) (B : Pt), s.WarmedH vm₁ ∧ Stand p l e R s m args below meth c B.U B.locs B.cells B.slots ∧ Post ⟨T.setVm vm₁, locs, cells, slots⟩ argsL.toArray v B ∧
      ∀ target, Steps p.tables e below (B.U.setTop { g with pc := g.pc + 3, stack := v.toList ++ rest }) target → Steps p.tables e below (T.setTop g) target := by
  obtain ⟨mk, methM, cM, hnamed, hmethM, -, -, -, -, -, -, hsigM⟩ := Cond.codeWith_spec hcode
  have hstatic : methM.isStatic = true := Cond.static_spec hnamed hmethM hstat
  obtain ⟨kP, hkP, -⟩ := className_of_methodNamed hnamed
  have hinitP : kP.init = .initialized := Cond.initialized_spec (findClass_of_methodNamed hnamed) hkP hinit
  obtain ⟨vm₁, X₁, hstep₁⟩ := X.invokestatic hexec hown hlink hnamed hmethM hstatic hkP hinitP hy (g := g) hg (argsL := argsL) (rest := rest) (hlen _ hsigM) hstack hdg
  obtain ⟨v, B, X', hpost, hsteps⟩ := hK m meth c ⟨T.setVm vm₁, locs, cells, slots⟩ { g with stack := rest } (.invokestatic index) mk argsL.toArray X₁ hg hsize hdg hW (X₁.named hnamed) (hpre vm₁ X₁.warmed)
  exact ⟨v, vm₁, B, X₁.warmed, X', hpost, fun target h => hstep₁ _ fun acts => by rw [doInvoke_state]; exact hsteps.trans h⟩
theorem vx_runSW {y : MethodName} {bytes cc : ByteArray} {maxL nL mc ms n index : Nat} {ret : Option FieldType} {hh : List (Nat × Nat × Nat × Nat)} {ws : List Cond} {rm : Room} {Pc : Array Value → State → Prop} {Qc : Array Value → State → Outcome → State → Prop} {free : Addr → Prop} {Ts : List Cond} {own : String} {As rest : List Value} {g : JFrame}
    (S : CallFix p m c cc nL s args Ts own) (hM : Met l y ws rm Pc Qc mc ms free) (cw : vx_CSW R s args own index y bytes maxL ret hh ws rm mc ms n) (hp : PreS s H Pc As)
    (hg : g.method = m) (hn : As.length = n) (hsize : g.locals.size = nL) (hstack : g.stack = As.reverse ++ rest) (hW : 2 * g.monitorRoom + (rest.map fun v => v.category).sum ≤ 8) (hdg : decode cc g.pc = .ok (.invokestatic index, 3)) (hf : cells + mc ≤ R.cells ∧ slots + ms ≤ R.slots) :
    va_Run p l e R s m args below meth c H locs cells slots mc ms g rest (Qc As.toArray) (free) := by
  obtain ⟨⟨hrc, hrs, hfr, hlo, hws, hcw⟩, hcode, hini, hy, hlen, hl, hstt⟩ := cw
  have hK : Back l R p e below s args y 3 8 (PreOf R mc ms Pc) (PostOf Qc mc ms free) := va_backW (hh := hh) (bytes := bytes) (maxL := maxL) (ret := ret) hM hp.1 hrc hrs hfr hlo hws hcw (fun a' U hW => word_at hW (Or.inl (by first | rfl | simp [Cond.onTables, Cond.keeps, Cond.steady])) hini)
  obtain ⟨hx, hb, hml, ho, -⟩ := S
  intro T hT X
  obtain ⟨v, vm₁, ⟨U', l2, c2, s2⟩, hW₁, X', ⟨g', mk, t, L, e1, e2, hq, h1, hL, h2, h3⟩, st⟩ := vx_callSW X hx (hh := hh) (bytes := bytes) (maxL := maxL) (ret := ret) ho hl hstt hini hcode hy hK hg (hsize.trans hml.symm) (argsL := As) (rest := rest) (fun sig h => hn.trans (hlen sig h)) hstack hW (by rw [hb]; exact hdg)
    (fun vm₁ hW₁ => ⟨hf.1, hf.2, hp.2 (T.setVm vm₁) hT hW₁⟩)
  dsimp only [Pt.U, Pt.locs, Pt.cells, Pt.slots] at X' e1 e2 h1 h2 h3 st
  subst h1; subst h2; subst h3
  exact ⟨v, (T.setVm vm₁).calling g' mk As.toArray, t, U', L, hT, X', hL, e1, e2, hq, st⟩
/-- not caught here, past rows that name other classes: it goes on to the caller -/
theorem vx_outP {p : Program} {l : Launch} {e : Env} {R : Room} {s : State} {m : MethodId} {args : Array Value} {below : List Frame} {meth : Method} {c : Code} {H : Heap} {locs : List Loc} {cells slots : Nat} {free : Addr → Prop} {ls : Array Slot} {rest : List Value} {Qc : Array Value → State → Outcome → State → Prop} {XC : String → State → State → Prop}
    {pc : Nat} {own E : String} {ce : Cell} {q : Addr} {mc ms : Nat} (hown : s.vm.findClass own = some m.cls) (hlocks : meth.locks = false)
    (hpass : ∀ z ∈ c.exceptionTable.toList, covers z pc = false ∨ (z.catchType ≠ 0 ∧ ∃ nm : String, (Cond.classLink own z.catchType nm).before args s = true ∧ va_Nc E nm s)) (hcell : H[q]? = some ce) (hv : ce.vm = .none) (hcl : s.vm.findClass E = some ce.cls)
    (hx : ∀ t : State, t.heap = H → s.vm.Alike t.vm → XC E s t) (hf : ∀ z ∈ locs, free z.base) (hc : cells ≤ mc) (hs : slots ≤ ms) :
    vx_W p l e R s m args below meth c H locs cells slots (vx_MQ below Qc XC args s mc ms free) (F0 m pc ls rest) q := by
  intro T hT X
  have hpl : e.platform.magicAccessors = ({} : Platform).magicAccessors := by rw [X.admits.platform]
  obtain ⟨vm', hW', X', st⟩ := X.outThrough hlocks q (g := F0 m pc ls rest) rfl rfl rfl (cell := ce) (by rw [hT]; exact hcell) (by rw [hv]; rfl)
    (by obtain ⟨k9, h9, -⟩ := Vm.findClass_spec hcl; exact ⟨k9, h9⟩) (fun z hz => by
      rcases hpass z hz with h | ⟨hz0, nm, hl1, hn1⟩
      · exact Or.inl h
      · obtain ⟨c6, hc6, hcl6⟩ := Cond.classLink_spec hown hl1 e.platform hpl
        obtain ⟨a8, b8, h1, h2, h3⟩ := hn1
        cases Option.some.inj (h1.symm.trans hcl)
        cases Option.some.inj (h2.symm.trans hc6)
        exact Or.inr ⟨hz0, _, hcl6, h3⟩)
  obtain ⟨g₀, hfr⟩ := X'.frames_eq
  have hcell9 : ((T.setVm vm').setFrames (.throwing q :: below)).heap[q]? = some ce := by
    show T.heap[q]? = some ce
    rw [hT]; exact hcell
  have hend : Ended ((T.setVm vm').setFrames (.throwing q :: below)) below (.threw q) := State.frames_setFrames _ (State.cur_lt_of_frames hfr)
  refine ⟨(T.setVm vm').setFrames (.throwing q :: below), ?_, .threw q, X'.here.running, hend, Or.inr ⟨q, rfl, E, ce, locs, hx _ hT (X'.ends _).1.alike, hcell9, hv, hcl, (X'.ends _).1, (X'.ends _).2.mono hc hs, hf⟩⟩
  rw [X.pushThrowing_eq]
  exact st
/-- a thing of a world lies in the heap -/
theorem vx_lt {D : va_G} {cl : List vw_C} {ws : va_W} {H1 : Heap} (h : va_P D cl ws H1) {k : Nat} {q : Nat × va_E} (hk : ws[k]? = some q) : q.1 < H1.size := (h k q hk).lt
end VXS
/-! ===== END ===== -/
/-! ===== BEGIN methods with a table of their own: called by a name, returning or throwing ===== -/
section VXH
/-! vx_backW, vx_callVX, vx_callSX, vx_callVW, vx_runVW, vx_runVX, vx_runSX, vx_ofWH follow the same proofs as their sisters above (Free/Laws.lean, Shelf42/LK1.lean); vx_outP calls Shelf42/NT130.lean (outThrough). -/
section
variable {l : Launch} {R : Room} {p : Program} {e : Env} {below : List Frame} {s : State} {sargs : Array Value} {y : MethodName} {len W9 : Nat}
theorem vx_backW {ws : List Cond} {rm : Room} {Pc : Array Value → State → Prop} {Qc : Array Value → State → Outcome → State → Prop} {XC : String → State → State → Prop} {mc ms : Nat} {free : Addr → Prop} {bytes : ByteArray} {maxL : Nat} {ret : Option FieldType} {hh : List (Nat × Nat × Nat × Nat)}
    (hM : vx_Met l y ws rm Pc Qc XC mc ms free) (hblind : FrameBlind Pc) (hrc : rm.cells = mc) (hrs : rm.slots = ms)
    (hframes : rm.frames + 1 ≤ R.frames) (hlocals : W9 + (maxL + 11) + rm.locals ≤ R.locals)
    (hws : ∀ w ∈ ws, ∀ a' U, s.WarmedH U.vm → w.before a' U = true) (hcode : Cond.codeWith y bytes maxL ret hh ∈ ws) (hinit : ∀ a' U, s.WarmedH U.vm → (Cond.initialized y.cls).before a' U = true) :
    vx_Back l R p e below s sargs y len W9 (PreOf R mc ms Pc) (PostOf Qc mc ms free) (vx_Post XC mc ms free) := by
  intro m meth c A g ig mk a X hg hsize hdg hW hn hp
  have h1 : (headSpec ws rm).pre.before a A.U = true := atoms_intro fun w hw => hws w hw _ _ X.warmed
  have h2 : (Cond.codeWith y bytes maxL ret hh).before a A.U = true := hws _ hcode _ _ X.warmed
  have h3 : (Cond.initialized y.cls).before a A.U = true := hinit _ _ X.warmed
  have h4 : A.cells + (headSpec ws rm).room.cells ≤ R.cells := by rw [show (headSpec ws rm).room.cells = mc from hrc]; exact hp.1
  have h5 : A.slots + (headSpec ws rm).room.slots ≤ R.slots := by rw [show (headSpec ws rm).room.slots = ms from hrs]; exact hp.2.1
  have hPc : Pc a (A.U.calling g mk a) := hblind _ _ _ _ hp.2.2
  obtain ⟨U, Ls, c0, s0⟩ := A
  dsimp only [Pt.U, Pt.locs, Pt.cells, Pt.slots] at h1 h2 h3 h4 h5 X hn hPc ⊢
  obtain ⟨m9, methY, cY, hn9, hmY, hcY, -, hlY, -⟩ := Cond.codeWith_spec h2
  cases Option.some.inj (hn9.symm.trans hn)
  obtain ⟨kY, hkY, -⟩ := className_of_methodNamed hn
  have hinitY : kY.init = .initialized := Cond.initialized_spec (findClass_of_methodNamed hn) hkY h3
  have h : At U g.method c below := by rw [hg]; exact X.here
  have hlocals9 : W9 + (maxL + 11) + (headSpec ws rm).room.locals ≤ R.locals := hlocals
  have happ : (headSpec ws rm).appliesLoose y e.platform (U.calling g mk a) = true :=
    Spec.appliesLoose_calling (g := g) h hdg hn hkY hinitY
      (X.room_calling (g := g) (R' := (headSpec ws rm).room) hsize hmY hcY hframes (by rw [hlY]; omega) h4 h5) h1
  obtain ⟨mid, hmid⟩ := h.above
  have hfr : (U.setTop g).frames = (.java g :: mid) ++ below := by rw [State.frames_setTop' g h.top, hmid]; rfl
  obtain ⟨o, s₂, hsteps, -, hend, hq⟩ := Steps.callFree hM p X.admits X.cas X.clock (acts := []) hfr happ hPc trivial
  have hq' : vx_Q Qc XC mc ms free a (U.calling g mk a) o s₂ := hq
  rw [State.frames_setTop' g h.top] at hend
  obtain ⟨g₀, hg0⟩ := Option.isSome_iff_exists.mp h.top
  obtain ⟨r, hr⟩ := State.topJava?_eq_some.mp hg0
  have hr' : (({ U with heap := s₂.heap, slotsUsed := s₂.slotsUsed } : State).setVm s₂.vm).frames = .java g₀ :: r := hr
  rcases hq' with ⟨hqc, L, hfe, hL⟩ | ⟨q, rfl, E, ce, L, hx, hce, hcv, hcl, hW₂, hsm, hL⟩
  · obtain ⟨⟨v, rfl⟩, hW₂, e2, q2, q3, q4, q5, q6⟩ := id hfe
    have e3 : s₂ = ({ (U.calling g mk a).setFrames s₂.frames with heap := s₂.heap, slotsUsed := s₂.slotsUsed } : State).setVm s₂.vm := by
      have : s₂ = ({ s₂ with vm := (U.calling g mk a).vm } : State).setVm s₂.vm := rfl
      rw [e2] at this
      exact this
    obtain ⟨c₂, i₂, len₂, hc₂, hd₂, hf₂⟩ := hend
    have hW' : U.WarmedH s₂.vm := hW₂
    have hcc : c₂ = c := by
      have h1 : s₂.code? g.method = U.code? g.method := by
        rw [State.code?_eq, State.code?_eq, hW'.alike.method?]
      exact Option.some.inj (hc₂.symm.trans (h1.trans h.code))
    subst hcc
    have hlen : len₂ = len := by rw [hdg] at hd₂; cases hd₂; rfl
    subst hlen
    have hs₂ : s₂ = (({ U with heap := s₂.heap, slotsUsed := s₂.slotsUsed } : State).setVm s₂.vm).setTop { g with pc := g.pc + len₂, stack := v.toList ++ g.stack } := by
      refine e3.trans ?_
      rw [hf₂, State.calling_eq h.top, State.setFrames_setFrames, State.setTop_of_frames _ hr', hr]
      rfl
    have hsame : U.sameButNew ({ U with heap := s₂.heap, slotsUsed := s₂.slotsUsed } : State) L mc ms := by
      refine ⟨?_, q2, q3, q4, q5, q6⟩
      obtain ⟨t, ht, -⟩ := State.frames_cons hr
      show ({ U with heap := s₂.heap, slotsUsed := s₂.slotsUsed } : State) = { U.setFrames U.frames with heap := s₂.heap, slotsUsed := s₂.slotsUsed }
      rw [State.setFrames_self ht]
    subst hg
    refine Or.inl ⟨v, ⟨(({ U with heap := s₂.heap, slotsUsed := s₂.slotsUsed } : State).setVm s₂.vm), Ls ++ L, c0 + mc, s0 + ms⟩,
      ⟨X.admits, X.cas, X.clock, X.frames, X.room, X.hears, X.method, X.code, (X.here.setHeapUsed s₂.heap s₂.slotsUsed).setVm hW'.alike, X.tail, State.WarmedH.trans X.warmed hW', X.limits, X.bytes, X.same.trans (hsame.setVm s.vm)⟩,
      ⟨g, mk, s₂, L, rfl, rfl, hqc, rfl, hL, rfl, rfl⟩, ?_⟩
    show Steps p.tables e below _ ((({ U with heap := s₂.heap, slotsUsed := s₂.slotsUsed } : State).setVm s₂.vm).setTop { g with pc := g.pc + len₂, stack := v.toList ++ g.stack })
    rw [← hs₂]
    exact hsteps
  · obtain ⟨e2, q2, q3, q4, q5, q6⟩ := id hsm
    have e3 : s₂ = ({ (U.calling g mk a).setFrames s₂.frames with heap := s₂.heap, slotsUsed := s₂.slotsUsed } : State).setVm s₂.vm := by
      have : s₂ = ({ s₂ with vm := (U.calling g mk a).vm } : State).setVm s₂.vm := rfl
      rw [e2] at this
      exact this
    have hf₂ : s₂.frames = .throwing q :: .java g :: U.frames.tail := hend
    have hW' : U.WarmedH s₂.vm := hW₂
    have hs₂ : s₂ = ((({ U with heap := s₂.heap, slotsUsed := s₂.slotsUsed } : State).setVm s₂.vm).setTop g).pushFrame (.throwing q) := by
      refine e3.trans ?_
      rw [hf₂, State.calling_eq h.top, State.setFrames_setFrames, State.pushFrame, State.frames_setTop _ hr', State.setTop_of_frames _ hr', State.setFrames_setFrames, hr]
      rfl
    have hsame : U.sameButNew ({ U with heap := s₂.heap, slotsUsed := s₂.slotsUsed } : State) L mc ms := by
      refine ⟨?_, q2, q3, q4, q5, q6⟩
      obtain ⟨t, ht, -⟩ := State.frames_cons hr
      show ({ U with heap := s₂.heap, slotsUsed := s₂.slotsUsed } : State) = { U.setFrames U.frames with heap := s₂.heap, slotsUsed := s₂.slotsUsed }
      rw [State.setFrames_self ht]
    subst hg
    refine Or.inr ⟨q, ⟨(({ U with heap := s₂.heap, slotsUsed := s₂.slotsUsed } : State).setVm s₂.vm), Ls ++ L, c0 + mc, s0 + ms⟩,
      ⟨X.admits, X.cas, X.clock, X.frames, X.room, X.hears, X.method, X.code, (X.here.setHeapUsed s₂.heap s₂.slotsUsed).setVm hW'.alike, X.tail, State.WarmedH.trans X.warmed hW', X.limits, X.bytes, X.same.trans (hsame.setVm s.vm)⟩,
      ⟨g, mk, s₂, L, E, ce, rfl, rfl, hx, hce, hcv, hcl, rfl, hL, rfl, rfl⟩, ?_⟩
    show Steps p.tables e below _ (((({ U with heap := s₂.heap, slotsUsed := s₂.slotsUsed } : State).setVm s₂.vm).setTop g).pushFrame (.throwing q))
    rw [← hs₂]
    exact hsteps
end
variable {p : Program} {l : Launch} {e : Env} {R : Room} {s : State} {m : MethodId} {args : Array Value} {below : List Frame} {meth : Method} {c : Code} {T : State} {H : Heap} {locs : List Loc} {cells slots : Nat}
theorem vx_callVX (X : Stand p l e R s m args below meth c T locs cells slots) (hexec : p.tables.exec = Jvm.exec) {own C : String} {index : Nat} {y : MethodName} {bytes : ByteArray} {maxL : Nat} {ret : Option FieldType} {hh : List (Nat × Nat × Nat × Nat)}
    (hown : s.vm.findClass own = some m.cls) (hlink : (Cond.methodLink own index y).before args s = true) (hinst : (Cond.instanceMethod y).before args s = true) (hsel : (Cond.selects C y y).before args s = true)
    (hcode : (Cond.codeWith y bytes maxL ret hh).before args s = true) (hy : y.cls ≠ "java/lang/invoke/MethodHandle" ∧ y.cls ≠ "java/lang/invoke/VarHandle")
    {W9 : Nat} {Pre : Pt → Array Value → Prop} {Post : Pt → Array Value → Option Value → Pt → Prop} {PostX : Pt → Array Value → Addr → Pt → Prop} (hK : vx_Back l R p e below s args y 3 W9 Pre Post PostX)
    {b : Addr} {cellB : Cell} (hcell : T.heap[b]? = some cellB) (hobj : cellB.vm.isStatics = false) (hcls : s.vm.findClass C = some cellB.cls)
    {g : JFrame} (hg : g.method = m) (hsize : g.locals.size = c.maxLocals) {argsL rest : List Value} (hlen : ∀ sig, parseMethodDescriptor y.desc = some sig → argsL.length = sig.parameters.length)
    (hstack : g.stack = argsL.reverse ++ .ref b :: rest) (hW : 2 * g.monitorRoom + (rest.map fun v => v.category).sum ≤ W9) (hdg : decode c.code g.pc = .ok (.invokevirtual index, 3))
    (hpre : ∀ vm₁, s.WarmedH vm₁ → Pre ⟨T.setVm vm₁, locs, cells, slots⟩ (Value.ref b :: argsL).toArray) :
    (∃ (v : Option Value) (vm₁ : Vm) (B : Pt), s.WarmedH vm₁ ∧ Stand p l e R s m args below meth c B.U B.locs B.cells B.slots ∧ Post ⟨T.setVm vm₁, locs, cells, slots⟩ (Value.ref b :: argsL).toArray v B ∧
      ∀ target, Steps p.tables e below (B.U.setTop { g with pc := g.pc + 3, stack := v.toList ++ rest }) target → Steps p.tables e below (T.setTop g) target) ∨
    (∃ (q : Addr) (vm₁ : Vm) (B : Pt), s.WarmedH vm₁ ∧ Stand p l e R s m args below meth c B.U B.locs B.cells B.slots ∧ PostX ⟨T.setVm vm₁, locs, cells, slots⟩ (Value.ref b :: argsL).toArray q B ∧
      Steps p.tables e below (T.setTop g) ((B.U.setTop { g with stack := rest }).pushFrame (.throwing q))) := by
  obtain ⟨mk, methM, hnamed, hmethM, hstM, habM⟩ := Cond.instanceMethod_spec hinst
  obtain ⟨m8, methM', cM, hn8, hmethM', -, -, -, -, -, -, hsigM⟩ := Cond.codeWith_spec hcode
  cases Option.some.inj (hn8.symm.trans hnamed)
  cases hmethM.symm.trans hmethM'
  obtain ⟨c2, r2, m2, q1, q2, q3, q4, kP, hkP, hkPi⟩ := Cond.selects_spec hsel
  cases hcls.symm.trans q1
  cases (State.methodFound?_of_named hnamed hy).symm.trans q2
  cases hnamed.symm.trans q3
  have hselP : selectMethod e.platform s.vm cellB.cls mk = .method mk := by rw [Launch.admits_selectMethod X.admits]; exact q4
  obtain ⟨vm₁, X₁, hstep₁⟩ := X.invokevirtual hexec hown hlink hnamed hmethM hstM hkP hkPi hy (a := b) (cell := cellB) hcell
    (fun z h => by rw [h] at hobj; cases hobj) hselP hmethM habM hkP hkPi (g := g) hg (argsL := argsL) (rest := rest) (hlen _ hsigM) hstack hdg
  rcases hK m meth c ⟨T.setVm vm₁, locs, cells, slots⟩ { g with stack := rest } (.invokevirtual index) mk (Value.ref b :: argsL).toArray X₁ hg hsize hdg hW (X₁.named hnamed) (hpre vm₁ X₁.warmed) with ⟨v, B, X', hpost, hsteps⟩ | ⟨q, B, X', hpost, hsteps⟩
  · exact Or.inl ⟨v, vm₁, B, X₁.warmed, X', hpost, fun target h => hstep₁ _ fun acts => by rw [doInvoke_state]; exact hsteps.trans h⟩
  · exact Or.inr ⟨q, vm₁, B, X₁.warmed, X', hpost, hstep₁ _ fun acts => by rw [doInvoke_state]; exact hsteps⟩
theorem vx_callSX (X : Stand p l e R s m args below meth c T locs cells slots) (hexec : p.tables.exec = Jvm.exec) {own : String} {index : Nat} {y : MethodName} {bytes : ByteArray} {maxL : Nat} {ret : Option FieldType} {hh : List (Nat × Nat × Nat × Nat)}
    (hown : s.vm.findClass own = some m.cls) (hlink : (Cond.methodLink own index y).before args s = true) (hstat : (Cond.static y).before args s = true) (hinit : (Cond.initialized y.cls).before args s = true)
    (hcode : (Cond.codeWith y bytes maxL ret hh).before args s = true) (hy : y.cls ≠ "java/lang/invoke/MethodHandle" ∧ y.cls ≠ "java/lang/invoke/VarHandle")
    {W9 : Nat} {Pre : Pt → Array Value → Prop} {Post : Pt → Array Value → Option Value → Pt → Prop} {PostX : Pt → Array Value → Addr → Pt → Prop} (hK : vx_Back l R p e below s args y 3 W9 Pre Post PostX)
    {g : JFrame} (hg : g.method = m) (hsize : g.locals.size = c.maxLocals) {argsL rest : List Value} (hlen : ∀ sig, parseMethodDescriptor y.desc = some sig → argsL.length = sig.parameters.length)
    (hstack : g.stack = argsL.reverse ++ rest) (hW : 2 * g.monitorRoom + (rest.map fun v => v.category).sum ≤ W9) (hdg : decode c.code g.pc = .ok (.invokestatic index, 3))
    (hpre : ∀ vm₁, s.WarmedH vm₁ → Pre ⟨T.setVm vm₁, locs, cells, slots⟩ argsL.toArray) :
    (∃ (v : Option Value) (vm₁ : Vm) (B : Pt), s.WarmedH vm₁ ∧ Stand p l e R s m args below meth c B.U B.locs B.cells B.slots ∧ Post ⟨T.setVm vm₁, locs, cells, slots⟩ argsL.toArray v B ∧
      ∀ target, Steps p.tables e below (B.U.setTop { g with pc := g.pc + 3, stack := v.toList ++ rest }) target → Steps p.tables e below (T.setTop g) target) ∨
    (∃ (q : Addr) (vm₁ : Vm) (B : Pt), s.WarmedH vm₁ ∧ Stand p l e R s m args below meth c B.U B.locs B.cells B.slots ∧ PostX ⟨T.setVm vm₁, locs, cells, slots⟩ argsL.toArray q B ∧
      Steps p.tables e below (T.setTop g) ((B.U.setTop { g with stack := rest }).pushFrame (.throwing q))) := by
  obtain ⟨mk, methM, cM, hnamed, hmethM, -, -, -, -, -, -, hsigM⟩ := Cond.codeWith_spec hcode
  have hstatic : methM.isStatic = true := Cond.static_spec hnamed hmethM hstat
  obtain ⟨kP, hkP, -⟩ := className_of_methodNamed hnamed
  have hinitP : kP.init = .initialized := Cond.initialized_spec (findClass_of_methodNamed hnamed) hkP hinit
  obtain ⟨vm₁, X₁, hstep₁⟩ := X.invokestatic hexec hown hlink hnamed hmethM hstatic hkP hinitP hy (g := g) hg (argsL := argsL) (rest := rest) (hlen _ hsigM) hstack hdg
  rcases hK m meth c ⟨T.setVm vm₁, locs, cells, slots⟩ { g with stack := rest } (.invokestatic index) mk argsL.toArray X₁ hg hsize hdg hW (X₁.named hnamed) (hpre vm₁ X₁.warmed) with ⟨v, B, X', hpost, hsteps⟩ | ⟨q, B, X', hpost, hsteps⟩
  · exact Or.inl ⟨v, vm₁, B, X₁.warmed, X', hpost, fun target h => hstep₁ _ fun acts => by rw [doInvoke_state]; exact hsteps.trans h⟩
  · exact Or.inr ⟨q, vm₁, B, X₁.warmed, X', hpost, hstep₁ _ fun acts => by rw [doInvoke_state]; exact hsteps⟩
theorem vx_callVW (X : Stand p l e R s m args below meth c T locs cells slots) (hexec : p.tables.exec = Jvm.exec) {own C : String} {index : Nat} {y : MethodName} {bytes : ByteArray} {maxL : Nat} {ret : Option FieldType} {hh : List (Nat × Nat × Nat × Nat)}
    (hown : s.vm.findClass own = some m.cls) (hlink : (Cond.methodLink own index y).before args s = true) (hinst : (Cond.instanceMethod y).before args s = true) (hsel : (Cond.selects C y y).before args s = true)
    (hcode : (Cond.codeWith y bytes maxL ret hh).before args s = true) (hy : y.cls ≠ "java/lang/invoke/MethodHandle" ∧ y.cls ≠ "java/lang/invoke/VarHandle")
    {W9 : Nat} {Pre : Pt → Array Value → Prop} {Post : Pt → Array Value → Option Value → Pt → Prop} (hK : Back l R p e below s args y 3 W9 Pre Post)
    {b : Addr} {cellB : Cell} (hcell : T.heap[b]? = some cellB) (hobj : cellB.vm.isStatics = false) (hcls : s.vm.findClass C = some cellB.cls)
    {g : JFrame} (hg : g.method = m) (hsize : g.locals.size = c.maxLocals) {argsL rest : List Value} (hlen : ∀ sig, parseMethodDescriptor y.desc = some sig → argsL.length = sig.parameters.length)
    (hstack : g.stack = argsL.reverse ++ .ref b :: rest) (hW : 2 * g.monitorRoom + (rest.map fun v => v.category).sum ≤ W9) (hdg : decode c.code g.pc = .ok (.invokevirtual index, 3))
    (hpre : ∀ vm₁, s.WarmedH vm₁ → Pre ⟨T.setVm vm₁, locs, cells, slots⟩ (Value.ref b :: argsL).toArray) :
    ∃ (v : Option Value) (vm₁ : Vm) (B : Pt), s.WarmedH vm₁ ∧ Stand p l e R s m args below meth c B.U B.locs B.cells B.slots ∧ Post ⟨T.setVm vm₁, locs, cells, slots⟩ (Value.ref b :: argsL).toArray v B ∧
      ∀ target, Steps p.tables e below (B.U.setTop { g with pc := g.pc + 3, stack := v.toList ++ rest }) target → Steps p.tables e below (T.setTop g) target := by
  obtain ⟨mk, methM, hnamed, hmethM, hstM, habM⟩ := Cond.instanceMethod_spec hinst
  obtain ⟨m8, methM', cM, hn8, hmethM', -, -, -, -, -, -, hsigM⟩ := Cond.codeWith_spec hcode
  cases Option.some.inj (hn8.symm.trans hnamed)
  cases hmethM.symm.trans hmethM'
  obtain ⟨c2, r2, m2, q1, q2, q3, q4, kP, hkP, hkPi⟩ := Cond.selects_spec hsel
  cases hcls.symm.trans q1
  cases (State.methodFound?_of_named hnamed hy).symm.trans q2
  cases hnamed.symm.trans q3
  have hselP : selectMethod e.platform s.vm cellB.cls mk = .method mk := by rw [Launch.admits_selectMethod X.admits]; exact q4
  obtain ⟨vm₁, X₁, hstep₁⟩ := X.invokevirtual hexec hown hlink hnamed hmethM hstM hkP hkPi hy (a := b) (cell := cellB) hcell
    (fun z h => by rw [h] at hobj; cases hobj) hselP hmethM habM hkP hkPi (g := g) hg (argsL := argsL) (rest := rest) (hlen _ hsigM) hstack hdg
  obtain ⟨v, B, X', hpost, hsteps⟩ := hK m meth c ⟨T.setVm vm₁, locs, cells, slots⟩ { g with stack := rest } (.invokevirtual index) mk (Value.ref b :: argsL).toArray X₁ hg hsize hdg hW (X₁.named hnamed) (hpre vm₁ X₁.warmed)
  exact ⟨v, vm₁, B, X₁.warmed, X', hpost, fun target h => hstep₁ _ fun acts => by rw [doInvoke_state]; exact hsteps.trans h⟩
abbrev vx_CVW (R : Room) (s : State) (args : Array Value) (own C : String) (index : Nat) (y : MethodName) (bytes : ByteArray) (maxL : Nat) (ret : Option FieldType) (hh : List (Nat × Nat × Nat × Nat)) (ws : List Cond) (rm : Room) (mc ms n : Nat) : Prop :=
  (rm.cells = mc ∧ rm.slots = ms ∧ rm.frames + 1 ≤ R.frames ∧ 8 + (maxL + 11) + rm.locals ≤ R.locals ∧ (∀ w ∈ ws, ∀ (a' : Array Value) (U : State), s.WarmedH U.vm → w.before a' U = true) ∧ Cond.codeWith y bytes maxL ret hh ∈ ws) ∧
  (Cond.codeWith y bytes maxL ret hh).before args s = true ∧ (Cond.initialized y.cls).before args s = true ∧ (y.cls ≠ "java/lang/invoke/MethodHandle" ∧ y.cls ≠ "java/lang/invoke/VarHandle") ∧
  (∀ sig, parseMethodDescriptor y.desc = some sig → n = sig.parameters.length) ∧ (Cond.methodLink own index y).before args s = true ∧ (Cond.instanceMethod y).before args s = true ∧ (Cond.selects C y y).before args s = true
theorem vx_cwVW {own C : String} {index maxL mc ms : Nat} {y : MethodName} {bytes : ByteArray} {ret : Option FieldType} {hh : List (Nat × Nat × Nat × Nat)} {Ts ws ws' : List Cond} {rm : Room} (n : Nat) (ht : ∀ w ∈ Ts, w.before args s = true) (hT : GoodIn Ts (wsV own index C y ws)) (hw : ws = Cond.codeWith y bytes maxL ret hh :: ws') (hrc : rm.cells = mc) (hrs : rm.slots = ms)
    (hd : y.cls = C ∧ y.cls ≠ "java/lang/invoke/MethodHandle" ∧ y.cls ≠ "java/lang/invoke/VarHandle" ∧ (parseMethodDescriptor y.desc).map (fun d => d.parameters.length) = some n) (hR : rm.frames + 1 ≤ R.frames ∧ 8 + (maxL + 11) + rm.locals ≤ R.locals) :
    vx_CVW R s args own C index y bytes maxL ret hh ws rm mc ms n := by
  obtain ⟨hC, hd⟩ := hd
  subst hC
  have ok : ∀ w ∈ wsV own index y.cls y ws, w.before args s = true := fun w h => ht w (hT w h).1
  have hG : GoodIn Ts ws := fun w h => hT w (by unfold wsV; exact List.mem_append_right _ h)
  have hc : Cond.codeWith y bytes maxL ret hh ∈ ws := by rw [hw]; exact List.mem_cons_self
  refine ⟨⟨hrc, hrs, hR.1, hR.2, pay_in ht hG, hc⟩, ht _ (hG _ hc).1, ok _ (by simp [wsV]), ⟨hd.1, hd.2.1⟩, fun sig h => ?_, ok _ (by simp [wsV]), ok _ (by simp [wsV]), ok _ (by simp [wsV])⟩
  have h2 := hd.2.2
  rw [h] at h2
  exact (Option.some.inj h2).symm
theorem vx_runVW {y : MethodName} {bytes cc : ByteArray} {maxL nL mc ms n index : Nat} {ret : Option FieldType} {hh : List (Nat × Nat × Nat × Nat)} {ws : List Cond} {rm : Room} {Pc : Array Value → State → Prop} {Qc : Array Value → State → Outcome → State → Prop} {free : Addr → Prop} {Ts : List Cond} {own C : String} {b : Addr} {As rest : List Value} {g : JFrame}
    (S : CallFix p m c cc nL s args Ts own) (hM : Met l y ws rm Pc Qc mc ms free) (cw : vx_CVW R s args own C index y bytes maxL ret hh ws rm mc ms n) (hp : PreV s H C b Pc As)
    (hg : g.method = m) (hn : As.length = n) (hsize : g.locals.size = nL) (hstack : g.stack = As.reverse ++ .ref b :: rest) (hW : 2 * g.monitorRoom + (rest.map fun v => v.category).sum ≤ 8) (hdg : decode cc g.pc = .ok (.invokevirtual index, 3)) (hf : cells + mc ≤ R.cells ∧ slots + ms ≤ R.slots) :
    va_Run p l e R s m args below meth c H locs cells slots mc ms g rest (Qc (Value.ref b :: As).toArray) free := by
  obtain ⟨⟨hrc, hrs, hfr, hlo, hws, hcw⟩, hcode, hini, hy, hlen, hl, hin, hse⟩ := cw
  have hK : Back l R p e below s args y 3 8 (PreOf R mc ms Pc) (PostOf Qc mc ms free) := va_backW (hh := hh) (bytes := bytes) (maxL := maxL) (ret := ret) hM hp.1 hrc hrs hfr hlo hws hcw (fun a' U hW => word_at hW (Or.inl (by first | rfl | simp [Cond.onTables, Cond.keeps, Cond.steady])) hini)
  obtain ⟨hx, hb, hml, ho, -⟩ := S
  obtain ⟨-, ⟨cellB, hcB, hoB, hclB⟩, hPc⟩ := hp
  intro T hT X
  obtain ⟨v, vm₁, ⟨U', l2, c2, s2⟩, hW₁, X', ⟨g', mk, t, L, e1, e2, hq, h1, hL, h2, h3⟩, st⟩ := vx_callVW X hx (C := C) (hh := hh) (bytes := bytes) (maxL := maxL) (ret := ret) ho hl hin hse hcode hy hK (by rw [hT]; exact hcB) hoB hclB hg (hsize.trans hml.symm) (argsL := As) (rest := rest) (fun sig h => hn.trans (hlen sig h)) hstack hW (by rw [hb]; exact hdg)
    (fun vm₁ hW₁ => ⟨hf.1, hf.2, hPc (T.setVm vm₁) hT hW₁⟩)
  dsimp only [Pt.U, Pt.locs, Pt.cells, Pt.slots] at X' e1 e2 h1 h2 h3 st
  subst h1; subst h2; subst h3
  exact ⟨v, (T.setVm vm₁).calling g' mk (Value.ref b :: As).toArray, t, U', L, hT, X', hL, e1, e2, hq, st⟩
section
variable {y : MethodName} {bytes cc : ByteArray} {maxL nL mc ms n index : Nat} {ret : Option FieldType} {ws : List Cond} {rm : Room} {Pc : Array Value → State → Prop} {Qc : Array Value → State → Outcome → State → Prop} {XC : String → State → State → Prop} {free : Addr → Prop} {Ts : List Cond} {own C : String} {b : Addr} {As rest : List Value} {g : JFrame}
theorem vx_runVX {hh : List (Nat × Nat × Nat × Nat)} (S : CallFix p m c cc nL s args Ts own) (hM : vx_Met l y ws rm Pc Qc XC mc ms free) (cw : vx_CVW R s args own C index y bytes maxL ret hh ws rm mc ms n) (hp : PreV s H C b Pc As)
    (hg : g.method = m) (hn : As.length = n) (hsize : g.locals.size = nL) (hstack : g.stack = As.reverse ++ .ref b :: rest) (hW : 2 * g.monitorRoom + (rest.map fun v => v.category).sum ≤ 8) (hdg : decode cc g.pc = .ok (.invokevirtual index, 3)) (hf : cells + mc ≤ R.cells ∧ slots + ms ≤ R.slots) :
    vx_Run p l e R s m args below meth c H locs cells slots mc ms g rest (Qc (Value.ref b :: As).toArray) XC free := by
  obtain ⟨⟨hrc, hrs, hfr, hlo, hws, hcw⟩, hcode, hini, hy, hlen, hl, hin, hse⟩ := cw
  have hK : vx_Back l R p e below s args y 3 8 (PreOf R mc ms Pc) (PostOf Qc mc ms free) (vx_Post XC mc ms free) := vx_backW (hh := hh) (bytes := bytes) (maxL := maxL) (ret := ret) hM hp.1 hrc hrs hfr hlo hws hcw (fun a' U hW => word_at hW (Or.inl (by first | rfl | simp [Cond.onTables, Cond.keeps, Cond.steady])) hini)
  obtain ⟨hx, hb, hml, ho, -⟩ := S
  obtain ⟨-, ⟨cellB, hcB, hoB, hclB⟩, hPc⟩ := hp
  intro T hT X
  rcases vx_callVX X hx (C := C) (hh := hh) (bytes := bytes) (maxL := maxL) (ret := ret) ho hl hin hse hcode hy hK (by rw [hT]; exact hcB) hoB hclB hg (hsize.trans hml.symm) (argsL := As) (rest := rest) (fun sig h => hn.trans (hlen sig h)) hstack hW (by rw [hb]; exact hdg)
    (fun vm₁ hW₁ => ⟨hf.1, hf.2, hPc (T.setVm vm₁) hT hW₁⟩) with ⟨v, vm₁, ⟨U', l2, c2, s2⟩, hW₁, X', ⟨g', mk, t, L, e1, e2, hq, h1, hL, h2, h3⟩, st⟩ | ⟨q, vm₁, ⟨U', l2, c2, s2⟩, hW₁, X', ⟨g', mk, t, L, E, ce, e1, e2, hq, hce, hcv, hcl, h1, hL, h2, h3⟩, st⟩
  · dsimp only [Pt.U, Pt.locs, Pt.cells, Pt.slots] at X' e1 e2 h1 h2 h3 st
    subst h1; subst h2; subst h3
    exact Or.inl ⟨v, (T.setVm vm₁).calling g' mk (Value.ref b :: As).toArray, t, U', L, hT, X', hL, e1, e2, hq, st⟩
  · dsimp only [Pt.U, Pt.locs, Pt.cells, Pt.slots] at X' e1 e2 h1 h2 h3 st hcl
    subst h1; subst h2; subst h3
    exact Or.inr ⟨q, (T.setVm vm₁).calling g' mk (Value.ref b :: As).toArray, t, U', L, E, ce, hT, X', hL, e1, e2, hq, hce, hcv, vx_cls hW₁ hcl, st⟩
theorem vx_runSX {hh : List (Nat × Nat × Nat × Nat)} (S : CallFix p m c cc nL s args Ts own) (hM : vx_Met l y ws rm Pc Qc XC mc ms free) (cw : vx_CSW R s args own index y bytes maxL ret hh ws rm mc ms n) (hp : PreS s H Pc As)
    (hg : g.method = m) (hn : As.length = n) (hsize : g.locals.size = nL) (hstack : g.stack = As.reverse ++ rest) (hW : 2 * g.monitorRoom + (rest.map fun v => v.category).sum ≤ 8) (hdg : decode cc g.pc = .ok (.invokestatic index, 3)) (hf : cells + mc ≤ R.cells ∧ slots + ms ≤ R.slots) :
    vx_Run p l e R s m args below meth c H locs cells slots mc ms g rest (Qc As.toArray) XC free := by
  obtain ⟨⟨hrc, hrs, hfr, hlo, hws, hcw⟩, hcode, hini, hy, hlen, hl, hstt⟩ := cw
  have hK : vx_Back l R p e below s args y 3 8 (PreOf R mc ms Pc) (PostOf Qc mc ms free) (vx_Post XC mc ms free) := vx_backW (hh := hh) (bytes := bytes) (maxL := maxL) (ret := ret) hM hp.1 hrc hrs hfr hlo hws hcw (fun a' U hW => word_at hW (Or.inl (by first | rfl | simp [Cond.onTables, Cond.keeps, Cond.steady])) hini)
  obtain ⟨hx, hb, hml, ho, -⟩ := S
  intro T hT X
  rcases vx_callSX X hx (hh := hh) (bytes := bytes) (maxL := maxL) (ret := ret) ho hl hstt hini hcode hy hK hg (hsize.trans hml.symm) (argsL := As) (rest := rest) (fun sig h => hn.trans (hlen sig h)) hstack hW (by rw [hb]; exact hdg)
    (fun vm₁ hW₁ => ⟨hf.1, hf.2, hp.2 (T.setVm vm₁) hT hW₁⟩) with ⟨v, vm₁, ⟨U', l2, c2, s2⟩, hW₁, X', ⟨g', mk, t, L, e1, e2, hq, h1, hL, h2, h3⟩, st⟩ | ⟨q, vm₁, ⟨U', l2, c2, s2⟩, hW₁, X', ⟨g', mk, t, L, E, ce, e1, e2, hq, hce, hcv, hcl, h1, hL, h2, h3⟩, st⟩
  · dsimp only [Pt.U, Pt.locs, Pt.cells, Pt.slots] at X' e1 e2 h1 h2 h3 st
    subst h1; subst h2; subst h3
    exact Or.inl ⟨v, (T.setVm vm₁).calling g' mk As.toArray, t, U', L, hT, X', hL, e1, e2, hq, st⟩
  · dsimp only [Pt.U, Pt.locs, Pt.cells, Pt.slots] at X' e1 e2 h1 h2 h3 st hcl
    subst h1; subst h2; subst h3
    exact Or.inr ⟨q, (T.setVm vm₁).calling g' mk As.toArray, t, U', L, E, ce, hT, X', hL, e1, e2, hq, hce, hcv, vx_cls hW₁ hcl, st⟩
end
end VXH
theorem vx_ofWH {l : Launch} {y : MethodName} {ws ws' : List Cond} {rm : Room} {Pc : Array Value → State → Prop} {Qc : Array Value → State → Outcome → State → Prop} {XC : String → State → State → Prop} {mc ms : Nat} {free : Addr → Prop} {cc : ByteArray} {maxL : Nat} {ret : Option FieldType} {hh : List (Nat × Nat × Nat × Nat)}
    (hy : plainName y.cls = true) (hw : ws = Cond.codeWith y cc maxL ret hh :: ws')
    (body : ∀ p e s m args below meth c s₁, BodyLoose p l y (headSpec ws rm) cc maxL ret e s m args below meth c s₁ → c.maxLocals = maxL → Pc args s →
      W p l e (headSpec ws rm).room s m args below meth c s.heap [] 0 0 (vx_MQ below Qc XC args s mc ms free) (entryFrame m args maxL)) : vx_Met l y ws rm Pc Qc XC mc ms free := by
  refine MetFree.of_bodyS (code := cc) (maxLocals := maxL) (ret := ret) hy ?_ ?_
  · intro args s m h hn
    obtain ⟨m9, meth, c, hn9, h1, h2, h3, h4, -, h5, h6, -⟩ := Cond.codeWith_spec (atoms_spec (ws := ws) h _ (by rw [hw]; exact List.mem_cons_self))
    cases hn.symm.trans hn9
    exact ⟨meth, c, h1, h2, h3, h4, h5, h6⟩
  · intro p e s m args below meth c s₁ B hml hP _
    have hh0 : s₁.heap = s.heap := by rw [B.state]; rfl
    obtain ⟨t, a1, o, b1, b2, b3⟩ := body p e s m args below meth c s₁ B hml hP s₁ hh0 (Stand.of_body B)
    exact ⟨t, o, a1, b1, b2, b3⟩
/-! ===== END ===== -/
end
section
/-! ===== BEGIN printed: names, fields, word lists, decode rows ===== -/
def RX0 : String := "FreshAllotter$Past"
def TX0 : u_T := fun k => match k with
  | 0 => ("FreshAllotter$Past", "stocks", "[LFreshAllotter$Stock;", true)
  | 1 => ("FreshAllotter$Past", "next", "I", false)
  | _ => ("FreshAllotter$Past", "count", "I", false)
def tyX0 : Nat → FieldType := fun k => match k with
  | 0 => .array (.object "FreshAllotter$Stock")
  | 1 => .int
  | _ => .int
abbrev wsX00 : List Cond := u_ws RX0 TX0 3
theorem nmX0 : ∀ a, a < 3 → ∀ b, b < 3 → a ≠ b → (TX0 a).2.1 ≠ (TX0 b).2.1 := by decide +kernel
theorem tyX0_ok : ∀ k, k < 3 → parseFieldDescriptor (TX0 k).2.2.1 = some (tyX0 k) := by decide +kernel
abbrev cX0_init : ByteArray := prog_2_method_1_code
def yX0_init : MethodName := ⟨RX0, "<init>", "()V"⟩
abbrev cX0_keep : ByteArray := prog_2_method_2_code
def yX0_keep : MethodName := ⟨RX0, "keep", "(LFreshAllotter$Stock;)V"⟩
abbrev cX0_bringBack : ByteArray := prog_2_method_3_code
def yX0_bringBack : MethodName := ⟨RX0, "bringBack", "(LFreshAllotter$Stock;)V"⟩
abbrev cX0_forget : ByteArray := prog_2_method_4_code
def yX0_forget : MethodName := ⟨RX0, "forget", "()V"⟩
def RX1 : String := "FreshAllotter$Planner"
def TX1 : u_T := fun k => match k with
  | 0 => ("FreshAllotter$Planner", "stock", "LFreshAllotter$Stock;", false)
  | 1 => ("FreshAllotter$Planner", "lots", "I", false)
  | 2 => ("FreshAllotter$Planner", "orders", "I", false)
  | 3 => ("FreshAllotter$Planner", "lotNumber", "[I", true)
  | 4 => ("FreshAllotter$Planner", "lotRest", "[I", true)
  | 5 => ("FreshAllotter$Planner", "orderNumber", "[I", true)
  | _ => ("FreshAllotter$Planner", "share", "[I", true)
def tyX1 : Nat → FieldType := fun k => match k with
  | 0 => .object "FreshAllotter$Stock"
  | 1 => .int
  | 2 => .int
  | 3 => .array .int
  | 4 => .array .int
  | 5 => .array .int
  | _ => .array .int
abbrev wsX10 : List Cond := u_ws RX1 TX1 7
theorem nmX1 : ∀ a, a < 7 → ∀ b, b < 7 → a ≠ b → (TX1 a).2.1 ≠ (TX1 b).2.1 := by decide +kernel
theorem tyX1_ok : ∀ k, k < 7 → parseFieldDescriptor (TX1 k).2.2.1 = some (tyX1 k) := by decide +kernel
abbrev cX1_init : ByteArray := prog_3_method_1_code
def yX1_init : MethodName := ⟨RX1, "<init>", "(LFreshAllotter$Stock;)V"⟩
abbrev cX1_make : ByteArray := prog_3_method_2_code
def yX1_make : MethodName := ⟨RX1, "make", "(LFreshAllotter$Stock;I)V"⟩
abbrev cX1_grantOf : ByteArray := prog_3_method_3_code
def yX1_grantOf : MethodName := ⟨RX1, "grantOf", "(I)I"⟩
abbrev cX1_shareOf : ByteArray := prog_3_method_4_code
def yX1_shareOf : MethodName := ⟨RX1, "shareOf", "(II)I"⟩
abbrev cX1_sumRestTo : ByteArray := prog_3_method_5_code
def yX1_sumRestTo : MethodName := ⟨RX1, "sumRestTo", "(I)I"⟩
abbrev cX1_reserveAll : ByteArray := prog_3_method_6_code
def yX1_reserveAll : MethodName := ⟨RX1, "reserveAll", "()I"⟩
abbrev cX1_cell : ByteArray := prog_3_method_7_code
def yX1_cell : MethodName := ⟨RX1, "cell", "(II)I"⟩
abbrev cX1_turnOf : ByteArray := prog_3_method_8_code
def yX1_turnOf : MethodName := ⟨RX1, "turnOf", "(I)I"⟩
abbrev cX1_gatherLots : ByteArray := prog_3_method_9_code
def yX1_gatherLots : MethodName := ⟨RX1, "gatherLots", "(I)V"⟩
abbrev cX1_insertLot : ByteArray := prog_3_method_10_code
def yX1_insertLot : MethodName := ⟨RX1, "insertLot", "(I)V"⟩
abbrev cX1_gatherOrders : ByteArray := prog_3_method_11_code
def yX1_gatherOrders : MethodName := ⟨RX1, "gatherOrders", "(I)V"⟩
abbrev cX1_insertOrder : ByteArray := prog_3_method_12_code
def yX1_insertOrder : MethodName := ⟨RX1, "insertOrder", "(I)V"⟩
abbrev cX1_serve : ByteArray := prog_3_method_13_code
def yX1_serve : MethodName := ⟨RX1, "serve", "(I)V"⟩
def RX2 : String := "FreshAllotter$Stock"
def TX2 : u_T := fun k => match k with
  | 0 => ("FreshAllotter$Stock", "today", "I", false)
  | 1 => ("FreshAllotter$Stock", "goods", "I", false)
  | 2 => ("FreshAllotter$Stock", "customers", "I", false)
  | 3 => ("FreshAllotter$Stock", "lots", "I", false)
  | 4 => ("FreshAllotter$Stock", "orders", "I", false)
  | 5 => ("FreshAllotter$Stock", "wasted", "I", false)
  | 6 => ("FreshAllotter$Stock", "handedOut", "I", false)
  | 7 => ("FreshAllotter$Stock", "life", "[I", true)
  | 8 => ("FreshAllotter$Stock", "latest", "[I", true)
  | 9 => ("FreshAllotter$Stock", "lotGood", "[I", true)
  | 10 => ("FreshAllotter$Stock", "lotExpiry", "[I", true)
  | 11 => ("FreshAllotter$Stock", "lotLeft", "[I", true)
  | 12 => ("FreshAllotter$Stock", "lotHold", "[I", true)
  | 13 => ("FreshAllotter$Stock", "orderCustomer", "[I", true)
  | 14 => ("FreshAllotter$Stock", "orderGood", "[I", true)
  | 15 => ("FreshAllotter$Stock", "orderSum", "[I", true)
  | 16 => ("FreshAllotter$Stock", "orderDay", "[I", true)
  | 17 => ("FreshAllotter$Stock", "orderState", "[I", true)
  | 18 => ("FreshAllotter$Stock", "orderGot", "[I", true)
  | _ => ("FreshAllotter$Stock", "reservedCells", "[I", true)
def tyX2 : Nat → FieldType := fun k => match k with
  | 0 => .int
  | 1 => .int
  | 2 => .int
  | 3 => .int
  | 4 => .int
  | 5 => .int
  | 6 => .int
  | 7 => .array .int
  | 8 => .array .int
  | 9 => .array .int
  | 10 => .array .int
  | 11 => .array .int
  | 12 => .array .int
  | 13 => .array .int
  | 14 => .array .int
  | 15 => .array .int
  | 16 => .array .int
  | 17 => .array .int
  | 18 => .array .int
  | _ => .array .int
abbrev wsX20 : List Cond := u_ws RX2 TX2 20
theorem nmX2 : ∀ a, a < 20 → ∀ b, b < 20 → a ≠ b → (TX2 a).2.1 ≠ (TX2 b).2.1 := by decide +kernel
theorem tyX2_ok : ∀ k, k < 20 → parseFieldDescriptor (TX2 k).2.2.1 = some (tyX2 k) := by decide +kernel
abbrev cX2_init : ByteArray := prog_4_method_1_code
def yX2_init : MethodName := ⟨RX2, "<init>", "()V"⟩
abbrev cX2_clear : ByteArray := prog_4_method_2_code
def yX2_clear : MethodName := ⟨RX2, "clear", "()V"⟩
abbrev cX2_copyFrom : ByteArray := prog_4_method_3_code
def yX2_copyFrom : MethodName := ⟨RX2, "copyFrom", "(LFreshAllotter$Stock;)V"⟩
abbrev cX2_copyRow : ByteArray := prog_4_method_4_code
def yX2_copyRow : MethodName := ⟨RX2, "copyRow", "([I[I)V"⟩
abbrev cX2_hasGood : ByteArray := prog_4_method_5_code
def yX2_hasGood : MethodName := ⟨RX2, "hasGood", "(I)Z"⟩
abbrev cX2_hasCustomer : ByteArray := prog_4_method_6_code
def yX2_hasCustomer : MethodName := ⟨RX2, "hasCustomer", "(I)Z"⟩
abbrev cX2_hasLot : ByteArray := prog_4_method_7_code
def yX2_hasLot : MethodName := ⟨RX2, "hasLot", "(I)Z"⟩
abbrev cX2_hasOrder : ByteArray := prog_4_method_8_code
def yX2_hasOrder : MethodName := ⟨RX2, "hasOrder", "(I)Z"⟩
abbrev cX2_isOpen : ByteArray := prog_4_method_9_code
def yX2_isOpen : MethodName := ⟨RX2, "isOpen", "(I)Z"⟩
abbrev cX2_isAhead : ByteArray := prog_4_method_10_code
def yX2_isAhead : MethodName := ⟨RX2, "isAhead", "(I)Z"⟩
abbrev cX2_addCustomer : ByteArray := prog_4_method_11_code
def yX2_addCustomer : MethodName := ⟨RX2, "addCustomer", "(I)V"⟩
abbrev cX2_addLot : ByteArray := prog_4_method_12_code
def yX2_addLot : MethodName := ⟨RX2, "addLot", "(IIII)I"⟩
abbrev cX2_addOrder : ByteArray := prog_4_method_13_code
def yX2_addOrder : MethodName := ⟨RX2, "addOrder", "(IIII)I"⟩
abbrev cX2_countOpen : ByteArray := prog_4_method_14_code
def yX2_countOpen : MethodName := ⟨RX2, "countOpen", "()I"⟩
abbrev cX2_sumLeft : ByteArray := prog_4_method_15_code
def yX2_sumLeft : MethodName := ⟨RX2, "sumLeft", "()I"⟩
abbrev cX2_sumReserved : ByteArray := prog_4_method_16_code
def yX2_sumReserved : MethodName := ⟨RX2, "sumReserved", "()I"⟩
abbrev cX2_openOrder : ByteArray := prog_4_method_17_code
def yX2_openOrder : MethodName := ⟨RX2, "openOrder", "(II)I"⟩
abbrev cX2_latestOf : ByteArray := prog_4_method_18_code
def yX2_latestOf : MethodName := ⟨RX2, "latestOf", "(II)I"⟩
abbrev cX2_fits : ByteArray := prog_4_method_19_code
def yX2_fits : MethodName := ⟨RX2, "fits", "(II)Z"⟩
abbrev cX2_reservedFor : ByteArray := prog_4_method_20_code
def yX2_reservedFor : MethodName := ⟨RX2, "reservedFor", "(II)I"⟩
abbrev cX2_setReserved : ByteArray := prog_4_method_21_code
def yX2_setReserved : MethodName := ⟨RX2, "setReserved", "(III)V"⟩
abbrev cX2_cell : ByteArray := prog_4_method_22_code
def yX2_cell : MethodName := ⟨RX2, "cell", "(II)I"⟩
abbrev cX2_reservedOfLot : ByteArray := prog_4_method_23_code
def yX2_reservedOfLot : MethodName := ⟨RX2, "reservedOfLot", "(I)I"⟩
abbrev cX2_reservedForOrder : ByteArray := prog_4_method_24_code
def yX2_reservedForOrder : MethodName := ⟨RX2, "reservedForOrder", "(I)I"⟩
abbrev cX2_close : ByteArray := prog_4_method_25_code
def yX2_close : MethodName := ⟨RX2, "close", "(II)I"⟩
abbrev cX2_release : ByteArray := prog_4_method_26_code
def yX2_release : MethodName := ⟨RX2, "release", "(II)I"⟩
abbrev cX2_releaseUnfit : ByteArray := prog_4_method_27_code
def yX2_releaseUnfit : MethodName := ⟨RX2, "releaseUnfit", "(I)I"⟩
abbrev cX2_handOut : ByteArray := prog_4_method_28_code
def yX2_handOut : MethodName := ⟨RX2, "handOut", "(I)I"⟩
abbrev cX2_endDay : ByteArray := prog_4_method_29_code
def yX2_endDay : MethodName := ⟨RX2, "endDay", "()V"⟩
abbrev cX2_writeOff : ByteArray := prog_4_method_30_code
def yX2_writeOff : MethodName := ⟨RX2, "writeOff", "(I)V"⟩
def RX3 : String := "FreshAllotter$Tape"
def TX3 : u_T := fun k => match k with
  | 0 => ("FreshAllotter$Tape", "bytes", "[B", true)
  | _ => ("FreshAllotter$Tape", "size", "I", false)
def tyX3 : Nat → FieldType := fun k => match k with
  | 0 => .array .byte
  | _ => .int
abbrev wsX30 : List Cond := u_ws RX3 TX3 2
theorem nmX3 : ∀ a, a < 2 → ∀ b, b < 2 → a ≠ b → (TX3 a).2.1 ≠ (TX3 b).2.1 := by decide +kernel
theorem tyX3_ok : ∀ k, k < 2 → parseFieldDescriptor (TX3 k).2.2.1 = some (tyX3 k) := by decide +kernel
abbrev cX3_init : ByteArray := prog_5_method_1_code
def yX3_init : MethodName := ⟨RX3, "<init>", "()V"⟩
abbrev cX3_put : ByteArray := prog_5_method_2_code
def yX3_put : MethodName := ⟨RX3, "put", "(I)V"⟩
def RX4 : String := "FreshAllotter$TextReader"
def TX4 : u_T := fun k => match k with
  | 0 => ("FreshAllotter$TextReader", "tokens", "LFreshAllotter$Tokens;", true)
  | 1 => ("FreshAllotter$TextReader", "target", "LFreshAllotter$Stock;", true)
  | 2 => ("FreshAllotter$TextReader", "lines", "I", false)
  | 3 => ("FreshAllotter$TextReader", "faultKind", "I", false)
  | _ => ("FreshAllotter$TextReader", "faultPlace", "I", false)
def tyX4 : Nat → FieldType := fun k => match k with
  | 0 => .object "FreshAllotter$Tokens"
  | 1 => .object "FreshAllotter$Stock"
  | 2 => .int
  | 3 => .int
  | _ => .int
abbrev wsX40 : List Cond := u_ws RX4 TX4 5
theorem nmX4 : ∀ a, a < 5 → ∀ b, b < 5 → a ≠ b → (TX4 a).2.1 ≠ (TX4 b).2.1 := by decide +kernel
theorem tyX4_ok : ∀ k, k < 5 → parseFieldDescriptor (TX4 k).2.2.1 = some (tyX4 k) := by decide +kernel
abbrev cX4_init : ByteArray := prog_6_method_1_code
def yX4_init : MethodName := ⟨RX4, "<init>", "(LFreshAllotter$Tape;LFreshAllotter$Stock;)V"⟩
abbrev cX4_readAll : ByteArray := prog_6_method_2_code
def yX4_readAll : MethodName := ⟨RX4, "readAll", "()Z"⟩
abbrev cX4_readGoods : ByteArray := prog_6_method_3_code
def yX4_readGoods : MethodName := ⟨RX4, "readGoods", "()Z"⟩
abbrev cX4_readFurtherLines : ByteArray := prog_6_method_4_code
def yX4_readFurtherLines : MethodName := ⟨RX4, "readFurtherLines", "()Z"⟩
abbrev cX4_readLine : ByteArray := prog_6_method_5_code
def yX4_readLine : MethodName := ⟨RX4, "readLine", "(I)Z"⟩
abbrev cX4_readCustomer : ByteArray := prog_6_method_6_code
def yX4_readCustomer : MethodName := ⟨RX4, "readCustomer", "()Z"⟩
abbrev cX4_readLot : ByteArray := prog_6_method_7_code
def yX4_readLot : MethodName := ⟨RX4, "readLot", "()Z"⟩
abbrev cX4_readOrder : ByteArray := prog_6_method_8_code
def yX4_readOrder : MethodName := ⟨RX4, "readOrder", "()Z"⟩
abbrev cX4_readNumber : ByteArray := prog_6_method_9_code
def yX4_readNumber : MethodName := ⟨RX4, "readNumber", "(II)I"⟩
abbrev cX4_readStop : ByteArray := prog_6_method_10_code
def yX4_readStop : MethodName := ⟨RX4, "readStop", "()Z"⟩
abbrev cX4_refuse : ByteArray := prog_6_method_11_code
def yX4_refuse : MethodName := ⟨RX4, "refuse", "(I)Z"⟩
def RX5 : String := "FreshAllotter$Tokens"
def TX5 : u_T := fun k => match k with
  | 0 => ("FreshAllotter$Tokens", "tape", "LFreshAllotter$Tape;", true)
  | 1 => ("FreshAllotter$Tokens", "at", "I", false)
  | 2 => ("FreshAllotter$Tokens", "kind", "I", false)
  | 3 => ("FreshAllotter$Tokens", "place", "I", false)
  | _ => ("FreshAllotter$Tokens", "value", "I", false)
def tyX5 : Nat → FieldType := fun k => match k with
  | 0 => .object "FreshAllotter$Tape"
  | 1 => .int
  | 2 => .int
  | 3 => .int
  | _ => .int
abbrev wsX50 : List Cond := u_ws RX5 TX5 5
theorem nmX5 : ∀ a, a < 5 → ∀ b, b < 5 → a ≠ b → (TX5 a).2.1 ≠ (TX5 b).2.1 := by decide +kernel
theorem tyX5_ok : ∀ k, k < 5 → parseFieldDescriptor (TX5 k).2.2.1 = some (tyX5 k) := by decide +kernel
abbrev cX5_init : ByteArray := prog_7_method_1_code
def yX5_init : MethodName := ⟨RX5, "<init>", "(LFreshAllotter$Tape;)V"⟩
abbrev cX5_start : ByteArray := prog_7_method_2_code
def yX5_start : MethodName := ⟨RX5, "start", "()V"⟩
abbrev cX5_advance : ByteArray := prog_7_method_3_code
def yX5_advance : MethodName := ⟨RX5, "advance", "()V"⟩
abbrev cX5_skipBlanks : ByteArray := prog_7_method_4_code
def yX5_skipBlanks : MethodName := ⟨RX5, "skipBlanks", "()V"⟩
abbrev cX5_readRun : ByteArray := prog_7_method_5_code
def yX5_readRun : MethodName := ⟨RX5, "readRun", "()V"⟩
abbrev cX5_wordKind : ByteArray := prog_7_method_6_code
def yX5_wordKind : MethodName := ⟨RX5, "wordKind", "()I"⟩
abbrev cX5_spells : ByteArray := prog_7_method_7_code
def yX5_spells : MethodName := ⟨RX5, "spells", "(Ljava/lang/String;)Z"⟩
abbrev cX5_isLetter : ByteArray := prog_7_method_8_code
def yX5_isLetter : MethodName := ⟨RX5, "isLetter", "(I)Z"⟩
abbrev cX5_isDigit : ByteArray := prog_7_method_9_code
def yX5_isDigit : MethodName := ⟨RX5, "isDigit", "(I)Z"⟩
def RX6 : String := "FreshAllotter"
def TX6 : u_T := fun k => match k with
  | 0 => ("FreshAllotter", "tape", "LFreshAllotter$Tape;", true)
  | 1 => ("FreshAllotter", "stock", "LFreshAllotter$Stock;", true)
  | 2 => ("FreshAllotter", "draft", "LFreshAllotter$Stock;", true)
  | 3 => ("FreshAllotter", "reader", "LFreshAllotter$TextReader;", true)
  | 4 => ("FreshAllotter", "planner", "LFreshAllotter$Planner;", true)
  | _ => ("FreshAllotter", "past", "LFreshAllotter$Past;", true)
def tyX6 : Nat → FieldType := fun k => match k with
  | 0 => .object "FreshAllotter$Tape"
  | 1 => .object "FreshAllotter$Stock"
  | 2 => .object "FreshAllotter$Stock"
  | 3 => .object "FreshAllotter$TextReader"
  | 4 => .object "FreshAllotter$Planner"
  | _ => .object "FreshAllotter$Past"
abbrev wsX60 : List Cond := u_ws RX6 TX6 6
theorem nmX6 : ∀ a, a < 6 → ∀ b, b < 6 → a ≠ b → (TX6 a).2.1 ≠ (TX6 b).2.1 := by decide +kernel
theorem tyX6_ok : ∀ k, k < 6 → parseFieldDescriptor (TX6 k).2.2.1 = some (tyX6 k) := by decide +kernel
abbrev cX6_init : ByteArray := prog_1_method_1_code
def yX6_init : MethodName := ⟨RX6, "<init>", "()V"⟩
abbrev cX6_feed : ByteArray := prog_1_method_2_code
def yX6_feed : MethodName := ⟨RX6, "feed", "(IIIII)I"⟩
abbrev cX6_end : ByteArray := prog_1_method_3_code
def yX6_end : MethodName := ⟨RX6, "end", "(I)Z"⟩
abbrev cX6_text : ByteArray := prog_1_method_4_code
def yX6_text : MethodName := ⟨RX6, "text", "()I"⟩
abbrev cX6_fault : ByteArray := prog_1_method_5_code
def yX6_fault : MethodName := ⟨RX6, "fault", "()I"⟩
abbrev cX6_now : ByteArray := prog_1_method_6_code
def yX6_now : MethodName := ⟨RX6, "now", "(I)I"⟩
abbrev cX6_lot : ByteArray := prog_1_method_7_code
def yX6_lot : MethodName := ⟨RX6, "lot", "(II)I"⟩
abbrev cX6_order : ByteArray := prog_1_method_8_code
def yX6_order : MethodName := ⟨RX6, "order", "(II)I"⟩
abbrev cX6_reserved : ByteArray := prog_1_method_9_code
def yX6_reserved : MethodName := ⟨RX6, "reserved", "(II)I"⟩
abbrev cX6_customer : ByteArray := prog_1_method_10_code
def yX6_customer : MethodName := ⟨RX6, "customer", "(II)I"⟩
abbrev cX6_suits : ByteArray := prog_1_method_11_code
def yX6_suits : MethodName := ⟨RX6, "suits", "(II)Z"⟩
abbrev cX6_plan : ByteArray := prog_1_method_12_code
def yX6_plan : MethodName := ⟨RX6, "plan", "(II)I"⟩
abbrev cX6_waste : ByteArray := prog_1_method_13_code
def yX6_waste : MethodName := ⟨RX6, "waste", "(II)I"⟩
abbrev cX6_least : ByteArray := prog_1_method_14_code
def yX6_least : MethodName := ⟨RX6, "least", "(II)I"⟩
abbrev cX6_would : ByteArray := prog_1_method_15_code
def yX6_would : MethodName := ⟨RX6, "would", "(IIII)I"⟩
abbrev cX6_slack : ByteArray := prog_1_method_16_code
def yX6_slack : MethodName := ⟨RX6, "slack", "(I)I"⟩
abbrev cX6_comes : ByteArray := prog_1_method_17_code
def yX6_comes : MethodName := ⟨RX6, "comes", "(IIII)I"⟩
abbrev cX6_asks : ByteArray := prog_1_method_18_code
def yX6_asks : MethodName := ⟨RX6, "asks", "(IIII)I"⟩
abbrev cX6_reserve : ByteArray := prog_1_method_19_code
def yX6_reserve : MethodName := ⟨RX6, "reserve", "(I)I"⟩
abbrev cX6_cancel : ByteArray := prog_1_method_20_code
def yX6_cancel : MethodName := ⟨RX6, "cancel", "(I)I"⟩
abbrev cX6_hold : ByteArray := prog_1_method_21_code
def yX6_hold : MethodName := ⟨RX6, "hold", "(II)I"⟩
abbrev cX6_deliver : ByteArray := prog_1_method_22_code
def yX6_deliver : MethodName := ⟨RX6, "deliver", "(I)I"⟩
abbrev cX6_pass : ByteArray := prog_1_method_23_code
def yX6_pass : MethodName := ⟨RX6, "pass", "(I)I"⟩
abbrev cX6_undo : ByteArray := prog_1_method_24_code
def yX6_undo : MethodName := ⟨RX6, "undo", "()I"⟩
abbrev cX6_isSum : ByteArray := prog_1_method_25_code
def yX6_isSum : MethodName := ⟨RX6, "isSum", "(I)Z"⟩
abbrev cX6_isHold : ByteArray := prog_1_method_26_code
def yX6_isHold : MethodName := ⟨RX6, "isHold", "(I)Z"⟩
abbrev cX6_isOrder : ByteArray := prog_1_method_27_code
def yX6_isOrder : MethodName := ⟨RX6, "isOrder", "(IIII)Z"⟩
abbrev cX6_isFilledWith : ByteArray := prog_1_method_28_code
def yX6_isFilledWith : MethodName := ⟨RX6, "isFilledWith", "(II)Z"⟩
def RX7 : String := "FreshAllotterModel"
def TX7 : u_T := fun k => match k with
  | 0 => ("FreshAllotterModel", "thrown", "I", false)
  | 1 => ("FreshAllotterModel", "tape", "[I", true)
  | 2 => ("FreshAllotterModel", "taped", "I", false)
  | 3 => ("FreshAllotterModel", "size", "I", false)
  | 4 => ("FreshAllotterModel", "to", "I", false)
  | 5 => ("FreshAllotterModel", "from", "I", false)
  | 6 => ("FreshAllotterModel", "sort", "I", false)
  | 7 => ("FreshAllotterModel", "number", "I", false)
  | 8 => ("FreshAllotterModel", "fault", "I", false)
  | 9 => ("FreshAllotterModel", "place", "I", false)
  | 10 => ("FreshAllotterModel", "word", "J", false)
  | 11 => ("FreshAllotterModel", "now", "[I", true)
  | 12 => ("FreshAllotterModel", "read", "[I", true)
  | 13 => ("FreshAllotterModel", "snaps", "[I", true)
  | 14 => ("FreshAllotterModel", "snapMany", "I", false)
  | 15 => ("FreshAllotterModel", "lines", "I", false)
  | 16 => ("FreshAllotterModel", "turn", "[I", true)
  | 17 => ("FreshAllotterModel", "age", "[I", true)
  | 18 => ("FreshAllotterModel", "want", "[I", true)
  | 19 => ("FreshAllotterModel", "much", "[I", true)
  | 20 => ("FreshAllotterModel", "lotFrom", "[I", true)
  | 21 => ("FreshAllotterModel", "orderFrom", "[I", true)
  | 22 => ("FreshAllotterModel", "queue", "[I", true)
  | 23 => ("FreshAllotterModel", "may", "[Z", true)
  | 24 => ("FreshAllotterModel", "turnMany", "I", false)
  | 25 => ("FreshAllotterModel", "ageMany", "I", false)
  | 26 => ("FreshAllotterModel", "addedDay", "I", false)
  | _ => ("FreshAllotterModel", "queued", "I", false)
def tyX7 : Nat → FieldType := fun k => match k with
  | 0 => .int
  | 1 => .array .int
  | 2 => .int
  | 3 => .int
  | 4 => .int
  | 5 => .int
  | 6 => .int
  | 7 => .int
  | 8 => .int
  | 9 => .int
  | 10 => .long
  | 11 => .array .int
  | 12 => .array .int
  | 13 => .array .int
  | 14 => .int
  | 15 => .int
  | 16 => .array .int
  | 17 => .array .int
  | 18 => .array .int
  | 19 => .array .int
  | 20 => .array .int
  | 21 => .array .int
  | 22 => .array .int
  | 23 => .array .boolean
  | 24 => .int
  | 25 => .int
  | 26 => .int
  | _ => .int
abbrev wsX70 : List Cond := u_ws RX7 TX7 28
theorem nmX7 : ∀ a, a < 28 → ∀ b, b < 28 → a ≠ b → (TX7 a).2.1 ≠ (TX7 b).2.1 := by decide +kernel
theorem tyX7_ok : ∀ k, k < 28 → parseFieldDescriptor (TX7 k).2.2.1 = some (tyX7 k) := by decide +kernel
abbrev cX7_thrown : ByteArray := prog_9_method_1_code
def yX7_thrown : MethodName := ⟨RX7, "thrown", "()I"⟩
abbrev cX7_refuse : ByteArray := prog_9_method_2_code
def yX7_refuse : MethodName := ⟨RX7, "refuse", "()I"⟩
abbrev cX7_isIn : ByteArray := prog_9_method_3_code
def yX7_isIn : MethodName := ⟨RX7, "isIn", "(III)Z"⟩
abbrev cX7_lays : ByteArray := prog_9_method_4_code
def yX7_lays : MethodName := ⟨RX7, "lays", "(I)V"⟩
abbrev cX7_feed : ByteArray := prog_9_method_5_code
def yX7_feed : MethodName := ⟨RX7, "feed", "(IIIII)I"⟩
abbrev cX7_end : ByteArray := prog_9_method_6_code
def yX7_end : MethodName := ⟨RX7, "end", "(I)Z"⟩
abbrev cX7_tapeAt : ByteArray := prog_9_method_7_code
def yX7_tapeAt : MethodName := ⟨RX7, "tapeAt", "(I)I"⟩
abbrev cX7_isDigit : ByteArray := prog_9_method_8_code
def yX7_isDigit : MethodName := ⟨RX7, "isDigit", "(I)Z"⟩
abbrev cX7_isLetter : ByteArray := prog_9_method_9_code
def yX7_isLetter : MethodName := ⟨RX7, "isLetter", "(I)Z"⟩
abbrev cX7_go : ByteArray := prog_9_method_10_code
def yX7_go : MethodName := ⟨RX7, "go", "()V"⟩
abbrev cX7_three : ByteArray := prog_9_method_11_code
def yX7_three : MethodName := ⟨RX7, "three", "(III)J"⟩
abbrev cX7_isWord : ByteArray := prog_9_method_12_code
def yX7_isWord : MethodName := ⟨RX7, "isWord", "(J)Z"⟩
abbrev cX7_bad : ByteArray := prog_9_method_13_code
def yX7_bad : MethodName := ⟨RX7, "bad", "(I)Z"⟩
abbrev cX7_init : ByteArray := prog_9_method_14_code
def yX7_init : MethodName := ⟨RX7, "<init>", "()V"⟩
abbrev cX7_told : ByteArray := prog_9_method_15_code
def yX7_told : MethodName := ⟨RX7, "told", "(III)Z"⟩
abbrev cX7_readEnd : ByteArray := prog_9_method_16_code
def yX7_readEnd : MethodName := ⟨RX7, "readEnd", "()Z"⟩
abbrev cX7_readGoods : ByteArray := prog_9_method_17_code
def yX7_readGoods : MethodName := ⟨RX7, "readGoods", "()Z"⟩
abbrev cX7_readCustomer : ByteArray := prog_9_method_18_code
def yX7_readCustomer : MethodName := ⟨RX7, "readCustomer", "()Z"⟩
abbrev cX7_readLot : ByteArray := prog_9_method_19_code
def yX7_readLot : MethodName := ⟨RX7, "readLot", "()Z"⟩
abbrev cX7_isAskedFor : ByteArray := prog_9_method_20_code
def yX7_isAskedFor : MethodName := ⟨RX7, "isAskedFor", "([III)Z"⟩
abbrev cX7_readOrder : ByteArray := prog_9_method_21_code
def yX7_readOrder : MethodName := ⟨RX7, "readOrder", "()Z"⟩
abbrev cX7_isSort : ByteArray := prog_9_method_22_code
def yX7_isSort : MethodName := ⟨RX7, "isSort", "(I)Z"⟩
abbrev cX7_readAll : ByteArray := prog_9_method_23_code
def yX7_readAll : MethodName := ⟨RX7, "readAll", "(I)Z"⟩
abbrev cX7_readWhole : ByteArray := prog_9_method_24_code
def yX7_readWhole : MethodName := ⟨RX7, "readWhole", "()Z"⟩
abbrev cX7_text : ByteArray := prog_9_method_25_code
def yX7_text : MethodName := ⟨RX7, "text", "()I"⟩
abbrev cX7_fault : ByteArray := prog_9_method_26_code
def yX7_fault : MethodName := ⟨RX7, "fault", "()I"⟩
abbrev cX7_today : ByteArray := prog_9_method_27_code
def yX7_today : MethodName := ⟨RX7, "today", "()I"⟩
abbrev cX7_isGood : ByteArray := prog_9_method_28_code
def yX7_isGood : MethodName := ⟨RX7, "isGood", "(I)Z"⟩
abbrev cX7_isLot : ByteArray := prog_9_method_29_code
def yX7_isLot : MethodName := ⟨RX7, "isLot", "(I)Z"⟩
abbrev cX7_isOrder : ByteArray := prog_9_method_30_code
def yX7_isOrder : MethodName := ⟨RX7, "isOrder", "(I)Z"⟩
abbrev cX7_isOpen : ByteArray := prog_9_method_31_code
def yX7_isOpen : MethodName := ⟨RX7, "isOpen", "(I)Z"⟩
abbrev cX7_isCustomerThere : ByteArray := prog_9_method_32_code
def yX7_isCustomerThere : MethodName := ⟨RX7, "isCustomerThere", "(I)Z"⟩
abbrev cX7_lies : ByteArray := prog_9_method_33_code
def yX7_lies : MethodName := ⟨RX7, "lies", "(II)I"⟩
abbrev cX7_ordered : ByteArray := prog_9_method_34_code
def yX7_ordered : MethodName := ⟨RX7, "ordered", "(II)I"⟩
abbrev cX7_cell : ByteArray := prog_9_method_35_code
def yX7_cell : MethodName := ⟨RX7, "cell", "(II)I"⟩
abbrev cX7_ofLot : ByteArray := prog_9_method_36_code
def yX7_ofLot : MethodName := ⟨RX7, "ofLot", "(I)I"⟩
abbrev cX7_forOrder : ByteArray := prog_9_method_37_code
def yX7_forOrder : MethodName := ⟨RX7, "forOrder", "(I)I"⟩
abbrev cX7_isFor : ByteArray := prog_9_method_38_code
def yX7_isFor : MethodName := ⟨RX7, "isFor", "(IIIII)Z"⟩
abbrev cX7_lifeOf : ByteArray := prog_9_method_39_code
def yX7_lifeOf : MethodName := ⟨RX7, "lifeOf", "(I)I"⟩
abbrev cX7_isFit : ByteArray := prog_9_method_40_code
def yX7_isFit : MethodName := ⟨RX7, "isFit", "(II)Z"⟩
abbrev cX7_sumOf : ByteArray := prog_9_method_41_code
def yX7_sumOf : MethodName := ⟨RX7, "sumOf", "(I)I"⟩
abbrev cX7_openMany : ByteArray := prog_9_method_42_code
def yX7_openMany : MethodName := ⟨RX7, "openMany", "()I"⟩
abbrev cX7_now : ByteArray := prog_9_method_43_code
def yX7_now : MethodName := ⟨RX7, "now", "(I)I"⟩
abbrev cX7_lot : ByteArray := prog_9_method_44_code
def yX7_lot : MethodName := ⟨RX7, "lot", "(II)I"⟩
abbrev cX7_order : ByteArray := prog_9_method_45_code
def yX7_order : MethodName := ⟨RX7, "order", "(II)I"⟩
abbrev cX7_reserved : ByteArray := prog_9_method_46_code
def yX7_reserved : MethodName := ⟨RX7, "reserved", "(II)I"⟩
abbrev cX7_customer : ByteArray := prog_9_method_47_code
def yX7_customer : MethodName := ⟨RX7, "customer", "(II)I"⟩
abbrev cX7_suits : ByteArray := prog_9_method_48_code
def yX7_suits : MethodName := ⟨RX7, "suits", "(II)Z"⟩
abbrev cX7_laysRows : ByteArray := prog_9_method_49_code
def yX7_laysRows : MethodName := ⟨RX7, "laysRows", "(IIIZIII)V"⟩
abbrev cX7_dayOf : ByteArray := prog_9_method_50_code
def yX7_dayOf : MethodName := ⟨RX7, "dayOf", "(I)I"⟩
abbrev cX7_puts : ByteArray := prog_9_method_51_code
def yX7_puts : MethodName := ⟨RX7, "puts", "(II)V"⟩
abbrev cX7_putsLot : ByteArray := prog_9_method_52_code
def yX7_putsLot : MethodName := ⟨RX7, "putsLot", "(I)V"⟩
abbrev cX7_usedOf : ByteArray := prog_9_method_53_code
def yX7_usedOf : MethodName := ⟨RX7, "usedOf", "(I)I"⟩
abbrev cX7_hasGot : ByteArray := prog_9_method_54_code
def yX7_hasGot : MethodName := ⟨RX7, "hasGot", "(I)I"⟩
abbrev cX7_spareOf : ByteArray := prog_9_method_55_code
def yX7_spareOf : MethodName := ⟨RX7, "spareOf", "(I)I"⟩
abbrev cX7_starts : ByteArray := prog_9_method_56_code
def yX7_starts : MethodName := ⟨RX7, "starts", "()V"⟩
abbrev cX7_reachesLots : ByteArray := prog_9_method_57_code
def yX7_reachesLots : MethodName := ⟨RX7, "reachesLots", "(I)V"⟩
abbrev cX7_getsOne : ByteArray := prog_9_method_58_code
def yX7_getsOne : MethodName := ⟨RX7, "getsOne", "(I)Z"⟩
abbrev cX7_passesOn : ByteArray := prog_9_method_59_code
def yX7_passesOn : MethodName := ⟨RX7, "passesOn", "(II)V"⟩
abbrev cX7_usesOne : ByteArray := prog_9_method_60_code
def yX7_usesOne : MethodName := ⟨RX7, "usesOne", "(I)Z"⟩
abbrev cX7_givesUp : ByteArray := prog_9_method_61_code
def yX7_givesUp : MethodName := ⟨RX7, "givesUp", "(II)V"⟩
abbrev cX7_turnsOne : ByteArray := prog_9_method_62_code
def yX7_turnsOne : MethodName := ⟨RX7, "turnsOne", "(II)Z"⟩
abbrev cX7_closes : ByteArray := prog_9_method_63_code
def yX7_closes : MethodName := ⟨RX7, "closes", "(II)V"⟩
abbrev cX7_laysGots : ByteArray := prog_9_method_64_code
def yX7_laysGots : MethodName := ⟨RX7, "laysGots", "(IIIZIII)V"⟩
abbrev cX7_plansNow : ByteArray := prog_9_method_65_code
def yX7_plansNow : MethodName := ⟨RX7, "plansNow", "(I)V"⟩
abbrev cX7_turnOf : ByteArray := prog_9_method_66_code
def yX7_turnOf : MethodName := ⟨RX7, "turnOf", "(I)I"⟩
abbrev cX7_ageOf : ByteArray := prog_9_method_67_code
def yX7_ageOf : MethodName := ⟨RX7, "ageOf", "(I)I"⟩
abbrev cX7_plan : ByteArray := prog_9_method_68_code
def yX7_plan : MethodName := ⟨RX7, "plan", "(II)I"⟩
abbrev cX7_canWaste : ByteArray := prog_9_method_69_code
def yX7_canWaste : MethodName := ⟨RX7, "canWaste", "(II)Z"⟩
abbrev cX7_waste : ByteArray := prog_9_method_70_code
def yX7_waste : MethodName := ⟨RX7, "waste", "(II)I"⟩
abbrev cX7_least : ByteArray := prog_9_method_71_code
def yX7_least : MethodName := ⟨RX7, "least", "(II)I"⟩
abbrev cX7_canAsk : ByteArray := prog_9_method_72_code
def yX7_canAsk : MethodName := ⟨RX7, "canAsk", "(IIII)Z"⟩
abbrev cX7_would : ByteArray := prog_9_method_73_code
def yX7_would : MethodName := ⟨RX7, "would", "(IIII)I"⟩
abbrev cX7_slack : ByteArray := prog_9_method_74_code
def yX7_slack : MethodName := ⟨RX7, "slack", "(I)I"⟩
abbrev cX7_snap : ByteArray := prog_9_method_75_code
def yX7_snap : MethodName := ⟨RX7, "snap", "()V"⟩
abbrev cX7_comes : ByteArray := prog_9_method_76_code
def yX7_comes : MethodName := ⟨RX7, "comes", "(IIII)I"⟩
abbrev cX7_asks : ByteArray := prog_9_method_77_code
def yX7_asks : MethodName := ⟨RX7, "asks", "(IIII)I"⟩
abbrev cX7_reserve : ByteArray := prog_9_method_78_code
def yX7_reserve : MethodName := ⟨RX7, "reserve", "(I)I"⟩
abbrev cX7_frees : ByteArray := prog_9_method_79_code
def yX7_frees : MethodName := ⟨RX7, "frees", "(I)I"⟩
abbrev cX7_cancel : ByteArray := prog_9_method_80_code
def yX7_cancel : MethodName := ⟨RX7, "cancel", "(I)I"⟩
abbrev cX7_hold : ByteArray := prog_9_method_81_code
def yX7_hold : MethodName := ⟨RX7, "hold", "(II)I"⟩
abbrev cX7_deliver : ByteArray := prog_9_method_82_code
def yX7_deliver : MethodName := ⟨RX7, "deliver", "(I)I"⟩
abbrev cX7_ends : ByteArray := prog_9_method_83_code
def yX7_ends : MethodName := ⟨RX7, "ends", "()V"⟩
abbrev cX7_pass : ByteArray := prog_9_method_84_code
def yX7_pass : MethodName := ⟨RX7, "pass", "(I)I"⟩
abbrev cX7_undo : ByteArray := prog_9_method_85_code
def yX7_undo : MethodName := ⟨RX7, "undo", "()I"⟩
def RJx145de : String := "java/io/Serializable"
def TJx145de : u_T := fun k => match k with
  | _ => ("", "", "", false)
def tyJx145de : Nat → FieldType := fun k => match k with
  | _ => .int
abbrev wsJx145de0 : List Cond := u_ws RJx145de TJx145de 0
theorem nmJx145de : ∀ a, a < 0 → ∀ b, b < 0 → a ≠ b → (TJx145de a).2.1 ≠ (TJx145de b).2.1 := by decide +kernel
theorem tyJx145de_ok : ∀ k, k < 0 → parseFieldDescriptor (TJx145de k).2.2.1 = some (tyJx145de k) := by decide +kernel
def RJx9f9b0 : String := "java/lang/CharSequence"
def TJx9f9b0 : u_T := fun k => match k with
  | _ => ("", "", "", false)
def tyJx9f9b0 : Nat → FieldType := fun k => match k with
  | _ => .int
abbrev wsJx9f9b00 : List Cond := u_ws RJx9f9b0 TJx9f9b0 0
theorem nmJx9f9b0 : ∀ a, a < 0 → ∀ b, b < 0 → a ≠ b → (TJx9f9b0 a).2.1 ≠ (TJx9f9b0 b).2.1 := by decide +kernel
theorem tyJx9f9b0_ok : ∀ k, k < 0 → parseFieldDescriptor (TJx9f9b0 k).2.2.1 = some (tyJx9f9b0 k) := by decide +kernel
def RJxb160c : String := "java/lang/Comparable"
def TJxb160c : u_T := fun k => match k with
  | _ => ("", "", "", false)
def tyJxb160c : Nat → FieldType := fun k => match k with
  | _ => .int
abbrev wsJxb160c0 : List Cond := u_ws RJxb160c TJxb160c 0
theorem nmJxb160c : ∀ a, a < 0 → ∀ b, b < 0 → a ≠ b → (TJxb160c a).2.1 ≠ (TJxb160c b).2.1 := by decide +kernel
theorem tyJxb160c_ok : ∀ k, k < 0 → parseFieldDescriptor (TJxb160c k).2.2.1 = some (tyJxb160c k) := by decide +kernel
def RJ9 : String := "java/lang/Math"
def TJ9 : u_T := fun k => match k with
  | _ => ("", "", "", false)
def tyJ9 : Nat → FieldType := fun k => match k with
  | _ => .int
abbrev wsJ90 : List Cond := u_ws RJ9 TJ9 0
theorem nmJ9 : ∀ a, a < 0 → ∀ b, b < 0 → a ≠ b → (TJ9 a).2.1 ≠ (TJ9 b).2.1 := by decide +kernel
theorem tyJ9_ok : ∀ k, k < 0 → parseFieldDescriptor (TJ9 k).2.2.1 = some (tyJ9 k) := by decide +kernel
abbrev cJ9_max_7cf53 : ByteArray := prog_14_method_65_code
def yJ9_max_7cf53 : MethodName := ⟨RJ9, "max", "(II)I"⟩
abbrev cJ9_min_7cf53 : ByteArray := prog_14_method_69_code
def yJ9_min_7cf53 : MethodName := ⟨RJ9, "min", "(II)I"⟩
def RJ0 : String := "java/lang/String"
def TJ0 : u_T := fun k => match k with
  | _ => ("", "", "", false)
def tyJ0 : Nat → FieldType := fun k => match k with
  | _ => .int
abbrev wsJ00 : List Cond := u_ws RJ0 TJ0 0
theorem nmJ0 : ∀ a, a < 0 → ∀ b, b < 0 → a ≠ b → (TJ0 a).2.1 ≠ (TJ0 b).2.1 := by decide +kernel
theorem tyJ0_ok : ∀ k, k < 0 → parseFieldDescriptor (TJ0 k).2.2.1 = some (tyJ0 k) := by decide +kernel
abbrev cJ0_length_8abf5 : ByteArray := prog_16_method_54_code
def yJ0_length_8abf5 : MethodName := ⟨RJ0, "length", "()I"⟩
abbrev cJ0_charAt_5068e : ByteArray := prog_16_method_56_code
def yJ0_charAt_5068e : MethodName := ⟨RJ0, "charAt", "(I)C"⟩
abbrev cJ0_coder_7d493 : ByteArray := prog_16_method_152_code
def yJ0_coder_7d493 : MethodName := ⟨RJ0, "coder", "()B"⟩
abbrev cJ0_isLatin1_aae02 : ByteArray := prog_16_method_154_code
def yJ0_isLatin1_aae02 : MethodName := ⟨RJ0, "isLatin1", "()Z"⟩
abbrev cJ0_checkIndex_df160 : ByteArray := prog_16_method_155_code
def yJ0_checkIndex_df160 : MethodName := ⟨RJ0, "checkIndex", "(II)V"⟩
def RJ1 : String := "java/lang/StringLatin1"
def TJ1 : u_T := fun k => match k with
  | _ => ("", "", "", false)
def tyJ1 : Nat → FieldType := fun k => match k with
  | _ => .int
abbrev wsJ10 : List Cond := u_ws RJ1 TJ1 0
theorem nmJ1 : ∀ a, a < 0 → ∀ b, b < 0 → a ≠ b → (TJ1 a).2.1 ≠ (TJ1 b).2.1 := by decide +kernel
theorem tyJ1_ok : ∀ k, k < 0 → parseFieldDescriptor (TJ1 k).2.2.1 = some (tyJ1 k) := by decide +kernel
abbrev cJ1_charAt_3b067 : ByteArray := prog_17_method_2_code
def yJ1_charAt_3b067 : MethodName := ⟨RJ1, "charAt", "([BI)C"⟩
def RJ2 : String := "java/lang/StringUTF16"
def TJ2 : u_T := fun k => match k with
  | _ => ("", "", "", false)
def tyJ2 : Nat → FieldType := fun k => match k with
  | _ => .int
abbrev wsJ20 : List Cond := u_ws RJ2 TJ2 0
theorem nmJ2 : ∀ a, a < 0 → ∀ b, b < 0 → a ≠ b → (TJ2 a).2.1 ≠ (TJ2 b).2.1 := by decide +kernel
theorem tyJ2_ok : ∀ k, k < 0 → parseFieldDescriptor (TJ2 k).2.2.1 = some (tyJ2 k) := by decide +kernel
abbrev cJ2_getChar_3b067 : ByteArray := prog_18_method_5_code
def yJ2_getChar_3b067 : MethodName := ⟨RJ2, "getChar", "([BI)C"⟩
abbrev cJ2_length_9d52b : ByteArray := prog_18_method_6_code
def yJ2_length_9d52b : MethodName := ⟨RJ2, "length", "([B)I"⟩
abbrev cJ2_charAt_3b067 : ByteArray := prog_18_method_83_code
def yJ2_charAt_3b067 : MethodName := ⟨RJ2, "charAt", "([BI)C"⟩
abbrev cJ2_checkIndex_2214a : ByteArray := prog_18_method_91_code
def yJ2_checkIndex_2214a : MethodName := ⟨RJ2, "checkIndex", "(I[B)V"⟩
def RJ10 : String := "java/lang/System"
def TJ10 : u_T := fun k => match k with
  | _ => ("", "", "", false)
def tyJ10 : Nat → FieldType := fun k => match k with
  | _ => .int
abbrev wsJ100 : List Cond := u_ws RJ10 TJ10 0
theorem nmJ10 : ∀ a, a < 0 → ∀ b, b < 0 → a ≠ b → (TJ10 a).2.1 ≠ (TJ10 b).2.1 := by decide +kernel
theorem tyJ10_ok : ∀ k, k < 0 → parseFieldDescriptor (TJ10 k).2.2.1 = some (tyJ10 k) := by decide +kernel
def RJxfd54e : String := "java/lang/constant/Constable"
def TJxfd54e : u_T := fun k => match k with
  | _ => ("", "", "", false)
def tyJxfd54e : Nat → FieldType := fun k => match k with
  | _ => .int
abbrev wsJxfd54e0 : List Cond := u_ws RJxfd54e TJxfd54e 0
theorem nmJxfd54e : ∀ a, a < 0 → ∀ b, b < 0 → a ≠ b → (TJxfd54e a).2.1 ≠ (TJxfd54e b).2.1 := by decide +kernel
theorem tyJxfd54e_ok : ∀ k, k < 0 → parseFieldDescriptor (TJxfd54e k).2.2.1 = some (tyJxfd54e k) := by decide +kernel
def RJx3cf43 : String := "java/lang/constant/ConstantDesc"
def TJx3cf43 : u_T := fun k => match k with
  | _ => ("", "", "", false)
def tyJx3cf43 : Nat → FieldType := fun k => match k with
  | _ => .int
abbrev wsJx3cf430 : List Cond := u_ws RJx3cf43 TJx3cf43 0
theorem nmJx3cf43 : ∀ a, a < 0 → ∀ b, b < 0 → a ≠ b → (TJx3cf43 a).2.1 ≠ (TJx3cf43 b).2.1 := by decide +kernel
theorem tyJx3cf43_ok : ∀ k, k < 0 → parseFieldDescriptor (TJx3cf43 k).2.2.1 = some (tyJx3cf43 k) := by decide +kernel
def RJ3 : String := "jdk/internal/util/Preconditions"
def TJ3 : u_T := fun k => match k with
  | _ => ("", "", "", false)
def tyJ3 : Nat → FieldType := fun k => match k with
  | _ => .int
abbrev wsJ30 : List Cond := u_ws RJ3 TJ3 0
theorem nmJ3 : ∀ a, a < 0 → ∀ b, b < 0 → a ≠ b → (TJ3 a).2.1 ≠ (TJ3 b).2.1 := by decide +kernel
theorem tyJ3_ok : ∀ k, k < 0 → parseFieldDescriptor (TJ3 k).2.2.1 = some (tyJ3 k) := by decide +kernel
abbrev cJ3_checkIndex_8e157 : ByteArray := prog_24_method_11_code
def yJ3_checkIndex_8e157 : MethodName := ⟨RJ3, "checkIndex", "(IILjava/util/function/BiFunction;)I"⟩
def RL : String := "FreshAllotterLaw"
abbrev cL_lot : ByteArray := method_3_code
def yL_lot : MethodName := ⟨RL, "lot", "(LFreshAllotter;II[J)I"⟩
abbrev cL_order : ByteArray := method_4_code
def yL_order : MethodName := ⟨RL, "order", "(LFreshAllotter;II[J)I"⟩
abbrev cL_law : ByteArray := code
def yL_law : MethodName := ⟨RL, "law", "([I)Z"⟩
end
section
/-! the words of the tables that every method may take with it -/
def wsA : List Cond := lw_tbl.filter goodWord
theorem wa_p {w : Cond} (h : w ∈ k2_sels lw_privs) (hg : goodWord w = true) : w ∈ wsA := List.mem_filter.mpr ⟨List.mem_append_left _ h, hg⟩
theorem wa_t {w : Cond} (h : w ∈ tables_1) (hg : goodWord w = true) : w ∈ wsA := List.mem_filter.mpr ⟨List.mem_append_right _ h, hg⟩
theorem wa_good : ∀ w ∈ wsA, goodWord w = true := fun w h => (List.mem_filter.mp h).2
theorem wa_in : ∀ w ∈ wsA, w ∈ lw_tbl := fun w h => (List.mem_filter.mp h).1
theorem wa_1 {w : Cond} (h : w ∈ tables_1_1) (hg : goodWord w = true) : w ∈ wsA := wa_t (List.mem_append_left _ h) hg
theorem wa_2 {w : Cond} (h : w ∈ tables_1_2) (hg : goodWord w = true) : w ∈ wsA := wa_t (List.mem_append_right _ (List.mem_append_left _ h)) hg
theorem wa_3 {w : Cond} (h : w ∈ tables_1_3) (hg : goodWord w = true) : w ∈ wsA := wa_t (List.mem_append_right _ (List.mem_append_right _ (List.mem_append_left _ h))) hg
theorem wa_4 {w : Cond} (h : w ∈ tables_1_4) (hg : goodWord w = true) : w ∈ wsA := wa_t (List.mem_append_right _ (List.mem_append_right _ (List.mem_append_right _ (List.mem_append_left _ h)))) hg
theorem wa_5 {w : Cond} (h : w ∈ tables_1_5) (hg : goodWord w = true) : w ∈ wsA := wa_t (List.mem_append_right _ (List.mem_append_right _ (List.mem_append_right _ (List.mem_append_right _ (List.mem_append_left _ h))))) hg
theorem wa_6 {w : Cond} (h : w ∈ tables_1_6) (hg : goodWord w = true) : w ∈ wsA := wa_t (List.mem_append_right _ (List.mem_append_right _ (List.mem_append_right _ (List.mem_append_right _ (List.mem_append_right _ (h)))))) hg
abbrev vwCl : List vw_C := [(RX0, TX0, 3), (RX1, TX1, 7), (RX2, TX2, 20), (RX3, TX3, 2), (RX4, TX4, 5), (RX5, TX5, 5), (RX6, TX6, 6), (RX7, TX7, 28)]
set_option maxRecDepth 20000 in
theorem ulX0 : ∀ w ∈ u_ws RX0 TX0 3, w ∈ wsA := by
  intro w hw
  obtain ⟨k, hk, rfl⟩ := List.mem_map.mp hw
  have hk := List.mem_range.mp hk
  match k, hk with
  | 0, _ => exact (wa_1 (List.mem_of_getElem? (i := 233) (by decide +kernel)) (by decide +kernel))
  | 1, _ => exact (wa_1 (List.mem_of_getElem? (i := 235) (by decide +kernel)) (by decide +kernel))
  | 2, _ => exact (wa_1 (List.mem_of_getElem? (i := 237) (by decide +kernel)) (by decide +kernel))
  | k + 3, h => exact absurd h (by omega)
set_option maxRecDepth 20000 in
theorem ulX1 : ∀ w ∈ u_ws RX1 TX1 7, w ∈ wsA := by
  intro w hw
  obtain ⟨k, hk, rfl⟩ := List.mem_map.mp hw
  have hk := List.mem_range.mp hk
  match k, hk with
  | 0, _ => exact (wa_1 (List.mem_of_getElem? (i := 205) (by decide +kernel)) (by decide +kernel))
  | 1, _ => exact (wa_1 (List.mem_of_getElem? (i := 207) (by decide +kernel)) (by decide +kernel))
  | 2, _ => exact (wa_1 (List.mem_of_getElem? (i := 209) (by decide +kernel)) (by decide +kernel))
  | 3, _ => exact (wa_1 (List.mem_of_getElem? (i := 211) (by decide +kernel)) (by decide +kernel))
  | 4, _ => exact (wa_1 (List.mem_of_getElem? (i := 213) (by decide +kernel)) (by decide +kernel))
  | 5, _ => exact (wa_1 (List.mem_of_getElem? (i := 215) (by decide +kernel)) (by decide +kernel))
  | 6, _ => exact (wa_1 (List.mem_of_getElem? (i := 217) (by decide +kernel)) (by decide +kernel))
  | k + 7, h => exact absurd h (by omega)
set_option maxRecDepth 20000 in
theorem ulX2 : ∀ w ∈ u_ws RX2 TX2 20, w ∈ wsA := by
  intro w hw
  obtain ⟨k, hk, rfl⟩ := List.mem_map.mp hw
  have hk := List.mem_range.mp hk
  match k, hk with
  | 0, _ => exact (wa_1 (List.mem_of_getElem? (i := 100) (by decide +kernel)) (by decide +kernel))
  | 1, _ => exact (wa_1 (List.mem_of_getElem? (i := 102) (by decide +kernel)) (by decide +kernel))
  | 2, _ => exact (wa_1 (List.mem_of_getElem? (i := 104) (by decide +kernel)) (by decide +kernel))
  | 3, _ => exact (wa_1 (List.mem_of_getElem? (i := 106) (by decide +kernel)) (by decide +kernel))
  | 4, _ => exact (wa_1 (List.mem_of_getElem? (i := 108) (by decide +kernel)) (by decide +kernel))
  | 5, _ => exact (wa_1 (List.mem_of_getElem? (i := 110) (by decide +kernel)) (by decide +kernel))
  | 6, _ => exact (wa_1 (List.mem_of_getElem? (i := 112) (by decide +kernel)) (by decide +kernel))
  | 7, _ => exact (wa_1 (List.mem_of_getElem? (i := 114) (by decide +kernel)) (by decide +kernel))
  | 8, _ => exact (wa_1 (List.mem_of_getElem? (i := 116) (by decide +kernel)) (by decide +kernel))
  | 9, _ => exact (wa_1 (List.mem_of_getElem? (i := 118) (by decide +kernel)) (by decide +kernel))
  | 10, _ => exact (wa_1 (List.mem_of_getElem? (i := 120) (by decide +kernel)) (by decide +kernel))
  | 11, _ => exact (wa_1 (List.mem_of_getElem? (i := 122) (by decide +kernel)) (by decide +kernel))
  | 12, _ => exact (wa_1 (List.mem_of_getElem? (i := 124) (by decide +kernel)) (by decide +kernel))
  | 13, _ => exact (wa_1 (List.mem_of_getElem? (i := 126) (by decide +kernel)) (by decide +kernel))
  | 14, _ => exact (wa_1 (List.mem_of_getElem? (i := 128) (by decide +kernel)) (by decide +kernel))
  | 15, _ => exact (wa_1 (List.mem_of_getElem? (i := 130) (by decide +kernel)) (by decide +kernel))
  | 16, _ => exact (wa_1 (List.mem_of_getElem? (i := 132) (by decide +kernel)) (by decide +kernel))
  | 17, _ => exact (wa_1 (List.mem_of_getElem? (i := 134) (by decide +kernel)) (by decide +kernel))
  | 18, _ => exact (wa_1 (List.mem_of_getElem? (i := 136) (by decide +kernel)) (by decide +kernel))
  | 19, _ => exact (wa_1 (List.mem_of_getElem? (i := 138) (by decide +kernel)) (by decide +kernel))
  | k + 20, h => exact absurd h (by omega)
set_option maxRecDepth 20000 in
theorem ulX3 : ∀ w ∈ u_ws RX3 TX3 2, w ∈ wsA := by
  intro w hw
  obtain ⟨k, hk, rfl⟩ := List.mem_map.mp hw
  have hk := List.mem_range.mp hk
  match k, hk with
  | 0, _ => exact (wa_1 (List.mem_of_getElem? (i := 38) (by decide +kernel)) (by decide +kernel))
  | 1, _ => exact (wa_1 (List.mem_of_getElem? (i := 40) (by decide +kernel)) (by decide +kernel))
  | k + 2, h => exact absurd h (by omega)
set_option maxRecDepth 20000 in
theorem ulX4 : ∀ w ∈ u_ws RX4 TX4 5, w ∈ wsA := by
  intro w hw
  obtain ⟨k, hk, rfl⟩ := List.mem_map.mp hw
  have hk := List.mem_range.mp hk
  match k, hk with
  | 0, _ => exact (wa_1 (List.mem_of_getElem? (i := 181) (by decide +kernel)) (by decide +kernel))
  | 1, _ => exact (wa_1 (List.mem_of_getElem? (i := 183) (by decide +kernel)) (by decide +kernel))
  | 2, _ => exact (wa_1 (List.mem_of_getElem? (i := 185) (by decide +kernel)) (by decide +kernel))
  | 3, _ => exact (wa_1 (List.mem_of_getElem? (i := 187) (by decide +kernel)) (by decide +kernel))
  | 4, _ => exact (wa_1 (List.mem_of_getElem? (i := 189) (by decide +kernel)) (by decide +kernel))
  | k + 5, h => exact absurd h (by omega)
set_option maxRecDepth 20000 in
theorem ulX5 : ∀ w ∈ u_ws RX5 TX5 5, w ∈ wsA := by
  intro w hw
  obtain ⟨k, hk, rfl⟩ := List.mem_map.mp hw
  have hk := List.mem_range.mp hk
  match k, hk with
  | 0, _ => exact (wa_1 (List.mem_of_getElem? (i := 162) (by decide +kernel)) (by decide +kernel))
  | 1, _ => exact (wa_1 (List.mem_of_getElem? (i := 164) (by decide +kernel)) (by decide +kernel))
  | 2, _ => exact (wa_1 (List.mem_of_getElem? (i := 166) (by decide +kernel)) (by decide +kernel))
  | 3, _ => exact (wa_1 (List.mem_of_getElem? (i := 168) (by decide +kernel)) (by decide +kernel))
  | 4, _ => exact (wa_1 (List.mem_of_getElem? (i := 170) (by decide +kernel)) (by decide +kernel))
  | k + 5, h => exact absurd h (by omega)
set_option maxRecDepth 20000 in
theorem ulX6 : ∀ w ∈ u_ws RX6 TX6 6, w ∈ wsA := by
  intro w hw
  obtain ⟨k, hk, rfl⟩ := List.mem_map.mp hw
  have hk := List.mem_range.mp hk
  match k, hk with
  | 0, _ => exact (wa_2 (List.mem_of_getElem? (i := 10) (by decide +kernel)) (by decide +kernel))
  | 1, _ => exact (wa_2 (List.mem_of_getElem? (i := 12) (by decide +kernel)) (by decide +kernel))
  | 2, _ => exact (wa_2 (List.mem_of_getElem? (i := 14) (by decide +kernel)) (by decide +kernel))
  | 3, _ => exact (wa_2 (List.mem_of_getElem? (i := 16) (by decide +kernel)) (by decide +kernel))
  | 4, _ => exact (wa_2 (List.mem_of_getElem? (i := 18) (by decide +kernel)) (by decide +kernel))
  | 5, _ => exact (wa_2 (List.mem_of_getElem? (i := 20) (by decide +kernel)) (by decide +kernel))
  | k + 6, h => exact absurd h (by omega)
set_option maxRecDepth 20000 in
theorem ulX7 : ∀ w ∈ u_ws RX7 TX7 28, w ∈ wsA := by
  intro w hw
  obtain ⟨k, hk, rfl⟩ := List.mem_map.mp hw
  have hk := List.mem_range.mp hk
  match k, hk with
  | 0, _ => exact (wa_4 (List.mem_of_getElem? (i := 97) (by decide +kernel)) (by decide +kernel))
  | 1, _ => exact (wa_4 (List.mem_of_getElem? (i := 99) (by decide +kernel)) (by decide +kernel))
  | 2, _ => exact (wa_4 (List.mem_of_getElem? (i := 101) (by decide +kernel)) (by decide +kernel))
  | 3, _ => exact (wa_4 (List.mem_of_getElem? (i := 103) (by decide +kernel)) (by decide +kernel))
  | 4, _ => exact (wa_4 (List.mem_of_getElem? (i := 105) (by decide +kernel)) (by decide +kernel))
  | 5, _ => exact (wa_4 (List.mem_of_getElem? (i := 107) (by decide +kernel)) (by decide +kernel))
  | 6, _ => exact (wa_4 (List.mem_of_getElem? (i := 109) (by decide +kernel)) (by decide +kernel))
  | 7, _ => exact (wa_4 (List.mem_of_getElem? (i := 111) (by decide +kernel)) (by decide +kernel))
  | 8, _ => exact (wa_4 (List.mem_of_getElem? (i := 113) (by decide +kernel)) (by decide +kernel))
  | 9, _ => exact (wa_4 (List.mem_of_getElem? (i := 115) (by decide +kernel)) (by decide +kernel))
  | 10, _ => exact (wa_4 (List.mem_of_getElem? (i := 117) (by decide +kernel)) (by decide +kernel))
  | 11, _ => exact (wa_4 (List.mem_of_getElem? (i := 119) (by decide +kernel)) (by decide +kernel))
  | 12, _ => exact (wa_4 (List.mem_of_getElem? (i := 121) (by decide +kernel)) (by decide +kernel))
  | 13, _ => exact (wa_4 (List.mem_of_getElem? (i := 123) (by decide +kernel)) (by decide +kernel))
  | 14, _ => exact (wa_4 (List.mem_of_getElem? (i := 125) (by decide +kernel)) (by decide +kernel))
  | 15, _ => exact (wa_4 (List.mem_of_getElem? (i := 127) (by decide +kernel)) (by decide +kernel))
  | 16, _ => exact (wa_4 (List.mem_of_getElem? (i := 129) (by decide +kernel)) (by decide +kernel))
  | 17, _ => exact (wa_4 (List.mem_of_getElem? (i := 131) (by decide +kernel)) (by decide +kernel))
  | 18, _ => exact (wa_4 (List.mem_of_getElem? (i := 133) (by decide +kernel)) (by decide +kernel))
  | 19, _ => exact (wa_4 (List.mem_of_getElem? (i := 135) (by decide +kernel)) (by decide +kernel))
  | 20, _ => exact (wa_4 (List.mem_of_getElem? (i := 137) (by decide +kernel)) (by decide +kernel))
  | 21, _ => exact (wa_4 (List.mem_of_getElem? (i := 139) (by decide +kernel)) (by decide +kernel))
  | 22, _ => exact (wa_4 (List.mem_of_getElem? (i := 141) (by decide +kernel)) (by decide +kernel))
  | 23, _ => exact (wa_4 (List.mem_of_getElem? (i := 143) (by decide +kernel)) (by decide +kernel))
  | 24, _ => exact (wa_4 (List.mem_of_getElem? (i := 145) (by decide +kernel)) (by decide +kernel))
  | 25, _ => exact (wa_4 (List.mem_of_getElem? (i := 147) (by decide +kernel)) (by decide +kernel))
  | 26, _ => exact (wa_4 (List.mem_of_getElem? (i := 149) (by decide +kernel)) (by decide +kernel))
  | 27, _ => exact (wa_4 (List.mem_of_getElem? (i := 151) (by decide +kernel)) (by decide +kernel))
  | k + 28, h => exact absurd h (by omega)
end
section
/-! THE WORLD OF THE SYSTEM: objects by number (0 the stock, 1 the draft, 2 to 11 the past's stocks, 12 FreshAllotter, 13 Tape, 14 Tokens, 15 TextReader, 16 Planner, 17 Past, 18 the reference), an object's array at its field's slot plus one; the memory: the ints of object o, component c (0: its fields by slot), place i; and one long (the reference's word) -/
abbrev Mm : Type := (Nat → Nat → Nat → Int32) × Int64
def kd (o : Nat) : Nat := if o < 12 then 2 else match o with
  | 12 => 6 | 13 => 3 | 14 => 5 | 15 => 4 | 16 => 1 | 17 => 0 | 18 => 7 | _ => 99
def ftab (ci : Nat) : List (Nat × Nat) := match ci with
  | 0 => [(1, 0), (0, 0), (0, 0)]
  | 1 => [(3, 0), (0, 0), (0, 0), (1, 0), (1, 0), (1, 0), (1, 0)]
  | 2 => [(0, 0), (0, 0), (0, 0), (0, 0), (0, 0), (0, 0), (0, 0), (1, 0), (1, 0), (1, 0), (1, 0), (1, 0), (1, 0), (1, 0), (1, 0), (1, 0), (1, 0), (1, 0), (1, 0), (1, 0)]
  | 3 => [(1, 0), (0, 0)]
  | 4 => [(2, 14), (2, 1), (0, 0), (0, 0), (0, 0)]
  | 5 => [(2, 13), (0, 0), (0, 0), (0, 0), (0, 0)]
  | 6 => [(2, 13), (2, 0), (2, 1), (2, 15), (2, 16), (2, 17)]
  | 7 => [(0, 0), (1, 0), (0, 0), (0, 0), (0, 0), (0, 0), (0, 0), (0, 0), (0, 0), (0, 0), (4, 0), (1, 0), (1, 0), (1, 0), (0, 0), (0, 0), (1, 0), (1, 0), (1, 0), (1, 0), (1, 0), (1, 0), (1, 0), (1, 0), (0, 0), (0, 0), (0, 0), (0, 0)]
  | _ => []
/-- an array's sort (0 int, 1 byte, 2 boolean, 3 of stocks) and length -/
def atab (ci c : Nat) : Option (Nat × Nat) := match ci, c with
  | 0, 1 => some (3, 10)
  | 1, 4 => some (0, 24) | 1, 5 => some (0, 24) | 1, 6 => some (0, 6) | 1, 7 => some (0, 144)
  | 2, 8 => some (0, 6) | 2, 9 => some (0, 24) | 2, 10 => some (0, 24) | 2, 11 => some (0, 24) | 2, 12 => some (0, 24) | 2, 13 => some (0, 24)
  | 2, 14 => some (0, 41) | 2, 15 => some (0, 41) | 2, 16 => some (0, 41) | 2, 17 => some (0, 41) | 2, 18 => some (0, 41) | 2, 19 => some (0, 41) | 2, 20 => some (0, 144)
  | 3, 1 => some (1, 640)
  | 7, 2 => some (0, 640) | 7, 12 => some (0, 1333) | 7, 13 => some (0, 1333) | 7, 14 => some (0, 13330) | 7, 17 => some (0, 8) | 7, 18 => some (0, 24) | 7, 19 => some (0, 8)
  | 7, 20 => some (0, 192) | 7, 21 => some (0, 24) | 7, 22 => some (0, 8) | 7, 23 => some (0, 24) | 7, 24 => some (2, 192)
  | _, _ => none
def acs (ci : Nat) : List Nat := (List.range 25).filter (fun c => (atab ci c).isSome)
def PL : List (Nat × Nat) := (List.range 19).flatMap (fun o => (o, 0) :: (acs (kd o)).map (fun c => (o, c)))
def fval (g : Nat → Nat → Nat) (M : Mm) (o k : Nat) (d : Nat × Nat) : Value := match d.1 with
  | 0 => .int (M.1 o 0 k)
  | 1 => .ref (g o (k + 1))
  | 2 => .ref (g d.2 0)
  | 3 => .ref (g (M.1 o 0 k).toNatClampNeg 0)
  | _ => .long M.2
def flds (g : Nat → Nat → Nat) (M : Mm) (o ci : Nat) : List Value := (ftab ci).mapIdx (fun k d => fval g M o k d)
def cellE (g : Nat → Nat → Nat) (ca : Nat → ClassId) (M : Mm) (o c : Nat) : va_E := match atab (kd o) c with
  | some q => if q.1 = 3 then .inl (ca 3, q.2, .inr (.inr (.inr (.inr (fun i => some (g (2 + i) 0)))))) else .inl (ca q.1, q.2, .inl (M.1 o c))
  | none => .inr (kd o, flds g M o (kd o))
def Wd (g : Nat → Nat → Nat) (ca : Nat → ClassId) (M : Mm) : va_W := PL.map (fun q => (g q.1 q.2, cellE g ca M q.1 q.2))
abbrev tyl (ca : Nat → ClassId) : List (ClassId × FieldType) := [(ca 0, .int), (ca 1, .byte), (ca 2, .boolean), (ca 3, .object RX2)]
theorem wr_ex (M : Mm) (o c i : Nat) (x : Int32) : ∃ M' : Mm, (∀ o' c' i' : Nat, M'.1 o' c' i' = if o' = o ∧ c' = c ∧ i' = i then x else M.1 o' c' i') ∧ M'.2 = M.2 :=
  ⟨(fun o' c' i' => if o' = o ∧ c' = c ∧ i' = i then x else M.1 o' c' i', M.2), fun _ _ _ => rfl, rfl⟩
/-- one place is written (kept from unfolding: a comparison of two memories must not open it) -/
noncomputable def wr (M : Mm) (o c i : Nat) (x : Int32) : Mm := Classical.choose (wr_ex M o c i x)
theorem wr_at (M : Mm) (o c i : Nat) (x : Int32) (o' c' i' : Nat) : (wr M o c i x).1 o' c' i' = if o' = o ∧ c' = c ∧ i' = i then x else M.1 o' c' i' := (Classical.choose_spec (wr_ex M o c i x)).1 o' c' i'
theorem wr_lg (M : Mm) (o c i : Nat) (x : Int32) : (wr M o c i x).2 = M.2 := (Classical.choose_spec (wr_ex M o c i x)).2
theorem cpr_ex (M : Mm) (o c o2 c2 n : Nat) : ∃ M' : Mm, (∀ o' c' i' : Nat, M'.1 o' c' i' = if o' = o ∧ c' = c ∧ i' < n then M.1 o2 c2 i' else M.1 o' c' i') ∧ M'.2 = M.2 :=
  ⟨(fun o' c' i' => if o' = o ∧ c' = c ∧ i' < n then M.1 o2 c2 i' else M.1 o' c' i', M.2), fun _ _ _ => rfl, rfl⟩
/-- a row's first n places out of another row -/
noncomputable def cpr (M : Mm) (o c o2 c2 n : Nat) : Mm := Classical.choose (cpr_ex M o c o2 c2 n)
theorem cpr_at (M : Mm) (o c o2 c2 n : Nat) (o' c' i' : Nat) : (cpr M o c o2 c2 n).1 o' c' i' = if o' = o ∧ c' = c ∧ i' < n then M.1 o2 c2 i' else M.1 o' c' i' := (Classical.choose_spec (cpr_ex M o c o2 c2 n)).1 o' c' i'
theorem cpr_lg (M : Mm) (o c o2 c2 n : Nat) : (cpr M o c o2 c2 n).2 = M.2 := (Classical.choose_spec (cpr_ex M o c o2 c2 n)).2
theorem wr_ne {M : Mm} {o c i o' c' i' : Nat} {x : Int32} (h : ¬ (o' = o ∧ c' = c ∧ i' = i)) : (wr M o c i x).1 o' c' i' = M.1 o' c' i' := by rw [wr_at, if_neg h]
theorem wr_eq {M : Mm} {o c i : Nat} {x : Int32} : (wr M o c i x).1 o c i = x := by rw [wr_at, if_pos ⟨rfl, rfl, rfl⟩]
theorem cpr_ne {M : Mm} {o c o2 c2 n o' c' i' : Nat} (h : ¬ (o' = o ∧ c' = c ∧ i' < n)) : (cpr M o c o2 c2 n).1 o' c' i' = M.1 o' c' i' := by rw [cpr_at, if_neg h]
theorem cpr_eq {M : Mm} {o c o2 c2 n i' : Nat} (h : i' < n) : (cpr M o c o2 c2 n).1 o c i' = M.1 o2 c2 i' := by rw [cpr_at, if_pos ⟨rfl, rfl, h⟩]
theorem fval_eq {g : Nat → Nat → Nat} {M M' : Mm} {o k : Nat} {d : Nat × Nat} (h : M'.1 o 0 k = M.1 o 0 k) (h2 : M'.2 = M.2) : fval g M' o k d = fval g M o k d := by
  unfold fval
  rw [h, h2]
theorem atab_0 (ci : Nat) : atab ci 0 = none := by
  unfold atab
  split <;> first | rfl | contradiction | omega | (simp_all; done)
theorem kd_lt {o ci : Nat} (h : kd o = ci) (hc : ci < 8) : o < 19 := by
  unfold kd at h
  split at h
  · omega
  · split at h <;> omega
theorem kd_st {o : Nat} (h : o < 12) : kd o = 2 := by unfold kd; rw [if_pos h]
theorem kd_7 {o : Nat} (h : kd o = 7) : o = 18 := by
  unfold kd at h
  split at h
  · omega
  · split at h <;> omega
theorem PL_nd : PL.Nodup := by decide +kernel
theorem PL_at {o c ci : Nat} (hk : kd o = ci) (hci : ci < 8) (h : c = 0 ∨ (atab ci c).isSome = true) : ∃ k : Nat, PL[k]? = some (o, c) := by
  apply List.getElem?_of_mem
  unfold PL
  rw [List.mem_flatMap]
  refine ⟨o, List.mem_range.mpr (kd_lt hk hci), ?_⟩
  rcases h with h | h
  · subst h; exact List.mem_cons_self
  · refine List.mem_cons_of_mem _ (List.mem_map.mpr ⟨c, ?_, rfl⟩)
    unfold acs
    rw [List.mem_filter, hk]
    refine ⟨List.mem_range.mpr ?_, h⟩
    unfold atab at h
    split at h <;> first | omega | (simp at h; done)
theorem PL_in {k o c : Nat} (h : PL[k]? = some (o, c)) : c = 0 ∨ (atab (kd o) c).isSome = true := by
  have h1 := List.mem_of_getElem? h
  unfold PL at h1
  rw [List.mem_flatMap] at h1
  obtain ⟨o1, -, h2⟩ := h1
  rcases List.mem_cons.mp h2 with h3 | h3
  · left; exact (Prod.mk.inj h3).2
  · obtain ⟨c1, h4, h5⟩ := List.mem_map.mp h3
    obtain ⟨rfl, rfl⟩ := Prod.mk.inj h5
    right
    exact (List.mem_filter.mp h4).2
section WDS
variable {g : Nat → Nat → Nat} {ca : Nat → ClassId} {M M' : Mm} {k o c : Nat}
theorem Wd_get (h : PL[k]? = some (o, c)) : (Wd g ca M)[k]? = some (g o c, cellE g ca M o c) := by
  unfold Wd
  rw [List.getElem?_map, h]; rfl
theorem Wd_set (h : PL[k]? = some (o, c)) (hE : ∀ o' c', (c' = 0 ∨ (atab (kd o') c').isSome = true) → ¬ (o' = o ∧ c' = c) → cellE g ca M' o' c' = cellE g ca M o' c') : (Wd g ca M).set k (g o c, cellE g ca M' o c) = Wd g ca M' := by
  apply List.ext_getElem?
  intro i
  by_cases hi : i = k
  · subst hi
    have hl : i < (Wd g ca M).length := by
      unfold Wd; rw [List.length_map]; exact (List.getElem?_eq_some_iff.mp h).1
    rw [List.getElem?_set_self hl, Wd_get h]
  · rw [List.getElem?_set_ne (Ne.symm hi)]
    unfold Wd
    rw [List.getElem?_map, List.getElem?_map]
    cases hq : PL[i]? with
    | none => rfl
    | some q =>
      obtain ⟨o', c'⟩ := q
      show some (g o' c', cellE g ca M o' c') = some (g o' c', cellE g ca M' o' c')
      rw [hE o' c' (PL_in hq)]
      rintro ⟨rfl, rfl⟩
      exact hi ((List.getElem?_inj (List.getElem?_eq_some_iff.mp hq).1 PL_nd).mp (hq.trans h.symm))
theorem flds_get {ci k : Nat} {d : Nat × Nat} (h : (ftab ci)[k]? = some d) : (flds g M o ci)[k]? = some (fval g M o k d) := by
  unfold flds; rw [List.getElem?_mapIdx, h]; rfl
theorem cellE_arr {t n ci : Nat} (hk : kd o = ci) (h : atab ci c = some (t, n)) (ht : t ≠ 3) : cellE g ca M o c = .inl (ca t, n, .inl (M.1 o c)) := by
  unfold cellE; rw [hk, h]; exact if_neg ht
theorem cellE_obj {ci : Nat} (hk : kd o = ci) : cellE g ca M o 0 = .inr (ci, flds g M o ci) := by
  unfold cellE; rw [hk, atab_0]
theorem cellE_wr {o' c' i : Nat} {x : Int32} (h : c' = 0 ∨ (atab (kd o') c').isSome = true) (hn : ¬ (o' = o ∧ c' = c)) : cellE g ca (wr M o c i x) o' c' = cellE g ca M o' c' := by
  unfold cellE
  cases hq : atab (kd o') c' with
  | some q =>
    dsimp only
    split
    · rfl
    · congr 4
      funext i'
      exact wr_ne (fun z => hn ⟨z.1, z.2.1⟩)
  | none =>
    have h0 : c' = 0 := by
      rcases h with h | h
      · exact h
      · rw [hq] at h; exact absurd h (by decide)
    subst h0
    dsimp only
    congr 2
    unfold flds
    congr 1
    funext k d
    exact fval_eq (wr_ne (fun z => hn ⟨z.1, z.2.1⟩)) (wr_lg _ _ _ _ _)
theorem cellE_cpr {o' c' o2 c2 n : Nat} (h : c' = 0 ∨ (atab (kd o') c').isSome = true) (hn : ¬ (o' = o ∧ c' = c)) : cellE g ca (cpr M o c o2 c2 n) o' c' = cellE g ca M o' c' := by
  unfold cellE
  cases hq : atab (kd o') c' with
  | some q =>
    dsimp only
    split
    · rfl
    · congr 4
      funext i'
      exact cpr_ne (fun z => hn ⟨z.1, z.2.1⟩)
  | none =>
    have h0 : c' = 0 := by
      rcases h with h | h
      · exact h
      · rw [hq] at h; exact absurd h (by decide)
    subst h0
    dsimp only
    congr 2
    unfold flds
    congr 1
    funext k d
    exact fval_eq (cpr_ne (fun z => hn ⟨z.1, z.2.1⟩)) (cpr_lg _ _ _ _ _ _)
theorem fval_wr {i k : Nat} {q : Nat × Nat} {x : Int32} (hi : ¬ i = k) : fval g (wr M o 0 k x) o i q = fval g M o i q := fval_eq (wr_ne (fun z => hi z.2.2)) (wr_lg _ _ _ _ _)
theorem flds_wr {ci k : Nat} {d : Nat × Nat} {x : Int32} {v : Value} (h : (ftab ci)[k]? = some d) (hv : fval g (wr M o 0 k x) o k d = v) : flds g (wr M o 0 k x) o ci = (flds g M o ci).set k v := by
  apply List.ext_getElem?
  intro i
  have hl : k < (flds g M o ci).length := by
    unfold flds; rw [List.length_mapIdx]; exact (List.getElem?_eq_some_iff.mp h).1
  by_cases hi : i = k
  · subst hi
    rw [List.getElem?_set_self hl, flds_get h, hv]
  · rw [List.getElem?_set_ne (Ne.symm hi)]
    unfold flds
    rw [List.getElem?_mapIdx, List.getElem?_mapIdx]
    cases hq : (ftab ci)[i]? with
    | none => rfl
    | some q => exact congrArg some (fval_wr hi)
theorem no4 {ci : Nat} (h : ci ≠ 7) : ∀ d ∈ ftab ci, d.1 < 4 := by
  unfold ftab
  split <;> first | decide | exact absurd rfl h | (intro d hd; simp at hd)
theorem cellE_lg {o' c' : Nat} {x : Int64} (hn : ¬ (o' = 18 ∧ c' = 0)) (h : c' = 0 ∨ (atab (kd o') c').isSome = true) : cellE g ca (M.1, x) o' c' = cellE g ca M o' c' := by
  unfold cellE
  cases hq : atab (kd o') c' with
  | some q => rfl
  | none =>
    have h0 : c' = 0 := by
      rcases h with h | h
      · exact h
      · rw [hq] at h; exact absurd h (by decide)
    subst h0
    have h7 : kd o' ≠ 7 := fun z => hn ⟨kd_7 z, rfl⟩
    dsimp only
    congr 2
    unfold flds
    apply List.ext_getElem?
    intro i
    rw [List.getElem?_mapIdx, List.getElem?_mapIdx]
    cases hq : (ftab (kd o'))[i]? with
    | none => rfl
    | some q =>
      have h4 := no4 h7 q (List.mem_of_getElem? hq)
      obtain ⟨q1, q2⟩ := q
      show some (fval g (M.1, x) o' i (q1, q2)) = some (fval g M o' i (q1, q2))
      unfold fval
      match q1, h4 with
      | 0, _ => rfl
      | 1, _ => rfl
      | 2, _ => rfl
      | 3, _ => rfl
      | q1 + 4, h4 => exact absurd h4 (by omega)
end WDS
end
section
/-! THE JUDGEMENT: 'G l D g ca md pc lv st M Q': a frame of the method md at pc, with locals lv, stack st and the memory M, comes to the method's end with Q of its answer and its memory. A contract: Ct -/
abbrev Md : Type := String × MethodName × ByteArray × Nat × Option FieldType × Nat × Nat
def Cx (D : va_G) (ca : Nat → ClassId) (md : Md) (p : Program) (R : Room) (s : State) (m : MethodId) (args : Array Value) (meth : Method) (c : Code) : Prop :=
  p.tables.exec = Jvm.exec ∧ c.code = md.2.2.1 ∧ meth.sig.returnType = md.2.2.2.2.1 ∧ c.maxLocals = md.2.2.2.1 ∧ s.vm.findClass md.1 = some m.cls ∧ (∀ w ∈ wsA, w.before args s = true) ∧ meth.locks = false ∧ md.2.2.2.2.2.1 ≤ R.frames ∧ md.2.2.2.2.2.2 ≤ R.locals ∧ va_K D vwCl (tyl ca) s
def Wl (D : va_G) (g : Nat → Nat → Nat) (ca : Nat → ClassId) (A : Nat → Prop) (s : State) (M : Mm) (H : Heap) (locs : List Loc) : Prop :=
  va_P D vwCl (Wd g ca M) H ∧ va_D A (Wd g ca M) ∧ va_S A s.heap H locs ∧ ∀ q, s.heap.size ≤ q → A q
def Qm (D : va_G) (g : Nat → Nat → Nat) (ca : Nat → ClassId) (Q : Option Value → Mm → Prop) (A : Nat → Prop) : Array Value → State → Outcome → State → Prop := fun _ st oc t =>
  (∃ (v : Option Value) (u : Mm), oc = .returned v ∧ Q v u ∧ va_P D vwCl (Wd g ca u) t.heap) ∧ va_F A st t
def G (l : Launch) (D : va_G) (g : Nat → Nat → Nat) (ca : Nat → ClassId) (md : Md) (pc : Nat) (lv : List (Nat × Value)) (st : List Value) (M : Mm) (Q : Option Value → Mm → Prop) : Prop :=
  ∀ (p : Program) (e : Env) (R : Room) (s : State) (m : MethodId) (args : Array Value) (below : List Frame) (meth : Method) (c : Code) (H : Heap) (locs : List Loc) (cells slots : Nat) (A : Nat → Prop) (ls : Array Slot),
    Cx D ca md p R s m args meth c → cells ≤ R.cells → slots ≤ R.slots → Wl D g ca A s M H locs → lv_has ls md.2.2.2.1 lv →
    W p l e R s m args below meth c H locs cells slots (MQ below (Qm D g ca Q A) args s cells slots A) (F0 m pc ls st)
def Ct (l : Launch) (D : va_G) (g : Nat → Nat → Nat) (ca : Nat → ClassId) (md : Md) (as : List Value) (M : Mm) (Q : Option Value → Mm → Prop) : Prop :=
  ∀ sz : Nat, Met l md.2.1 (.code md.2.1 md.2.2.1 md.2.2.2.1 md.2.2.2.2.1 :: wsA) { frames := md.2.2.2.2.2.1, cells := 0, slots := 0, locals := md.2.2.2.2.2.2 }
    (va_Pc as (fun U => U.heap.size = sz ∧ va_P D vwCl (Wd g ca M) U.heap ∧ va_K D vwCl (tyl ca) U ∧ va_D (fun _ => True) (Wd g ca M))) (Qm D g ca Q (va_A (Wd g ca M) sz)) 0 0 (va_A (Wd g ca M) sz)
/-- an int answer, none, a long one -/
def Ri (q : Int32 → Mm → Prop) : Option Value → Mm → Prop := fun v u => ∃ r, v = some (.int r) ∧ q r u
def Rv (q : Mm → Prop) : Option Value → Mm → Prop := fun v u => v = none ∧ q u
def Rl (q : Int64 → Mm → Prop) : Option Value → Mm → Prop := fun v u => ∃ r, v = some (.long r) ∧ q r u
theorem Wd_D {A : Nat → Prop} {g : Nat → Nat → Nat} {ca : Nat → ClassId} {M M' : Mm} (h : va_D A (Wd g ca M)) : va_D A (Wd g ca M') := by
  have key : ∀ (k : Nat) (q : Nat × va_E), (Wd g ca M')[k]? = some q → ∃ q0, (Wd g ca M)[k]? = some q0 ∧ q0.1 = q.1 := by
    intro k q hq
    unfold Wd at hq ⊢
    rw [List.getElem?_map] at hq ⊢
    cases hk : PL[k]? with
    | none => rw [hk] at hq; cases hq
    | some z => rw [hk] at hq; cases hq; exact ⟨_, rfl, rfl⟩
  refine ⟨fun i j x y hi hj hxy => ?_, fun k q hk => ?_⟩
  · obtain ⟨x0, h1, h2⟩ := key i x hi
    obtain ⟨y0, h3, h4⟩ := key j y hj
    exact h.1 i j x0 y0 h1 h3 (h2.trans (hxy.trans h4.symm))
  · obtain ⟨q0, h1, h2⟩ := key k q hk
    rw [← h2]
    exact h.2 k q0 h1
theorem Wd_A {g : Nat → Nat → Nat} {ca : Nat → ClassId} {M M' : Mm} {sz q : Nat} (h : va_A (Wd g ca M) sz q) : va_A (Wd g ca M') sz q := by
  rcases h with ⟨k, e, h⟩ | h
  · left
    unfold Wd at h ⊢
    rw [List.getElem?_map] at h
    cases hk : PL[k]? with
    | none => rw [hk] at h; cases h
    | some z =>
      rw [hk] at h
      refine ⟨k, cellE g ca M' z.1 z.2, ?_⟩
      rw [List.getElem?_map, hk]
      have h1 := (Prod.mk.inj (Option.some.inj h)).1
      rw [← h1]
      rfl
  · exact Or.inr h

theorem ws_good : wsA.all goodWord = true := List.all_eq_true.mpr wa_good
section GL
variable {l : Launch} {D : va_G} {g : Nat → Nat → Nat} {ca : Nat → ClassId} {md : Md} {pc : Nat} {lv : List (Nat × Value)} {st : List Value} {M : Mm} {Q : Option Value → Mm → Prop}
theorem Ct.of {as : List Value} (hy : plainName md.2.1.cls = true) (ho : md.2.1.cls = md.1) (hn : (lg_sl as).length ≤ md.2.2.2.1) (h : G l D g ca md 0 (lv_args 0 as) [] M Q) : Ct l D g ca md as M Q := by
  intro sz
  refine Met.ofW hy rfl ?_
  intro p e s m args below meth c s₁ B hml hv
  obtain ⟨rfl, hsz, hP, hK, hD0⟩ := hv
  have hts := atoms_spec (ws := .code md.2.1 md.2.2.1 md.2.2.2.1 md.2.2.2.2.1 :: wsA) B.pre
  have hown : s.vm.findClass md.1 = some m.cls := by rw [← ho]; exact findClass_of_methodNamed B.named
  subst hsz
  have hl := lv_entry as (n := md.2.2.2.1) hn
  rw [lg_entry_eq]
  exact h p e _ s m _ below meth c s.heap [] 0 0 (va_A (Wd g ca M) s.heap.size) _ ⟨B.exec, B.bytes, B.returns, hml, hown, fun w hw => hts w (List.mem_cons_of_mem _ hw), B.notSynchronized, Nat.le_refl _, Nat.le_refl _, hK⟩ (Nat.zero_le _) (Nat.zero_le _) ⟨hP, hD0.self, va_S.rf, fun q hq => Or.inr hq⟩ hl
theorem Ct.mono {as : List Value} {Q' : Option Value → Mm → Prop} (h : ∀ v u, Q v u → Q' v u) (hc : G l D g ca md pc lv st M Q) : G l D g ca md pc lv st M Q' := by
  intro p e R s m args below meth c H locs cells slots A ls C0 hc1 hs1 hw hl T hT X
  obtain ⟨t, a1, o, b1, b2, ⟨⟨v, u, e1, e2, e3⟩, b4⟩, b5⟩ := hc p e R s m args below meth c H locs cells slots A ls C0 hc1 hs1 hw hl T hT X
  exact ⟨t, a1, o, b1, b2, ⟨⟨v, u, e1, h v u e2, e3⟩, b4⟩, b5⟩
theorem g_st {st' : List Value} (e : st = st') (h : G l D g ca md pc lv st' M Q) : G l D g ca md pc lv st M Q := e ▸ h
theorem g_lv (ks : List Nat) {lv' : List (Nat × Value)} (e : lv_pick lv ks = lv') (h : G l D g ca md pc lv' st M Q) : G l D g ca md pc lv st M Q := by
  intro p e R s m args below meth c H locs cells slots A ls C0 hc1 hs1 hw hl
  exact h p _ R s m args below meth c H locs cells slots A ls C0 hc1 hs1 hw (lv_sub hl ks (by assumption))
theorem g_top {x : Int32} (y : Int32) (e : x = y) (h : G l D g ca md pc lv (.int y :: st) M Q) : G l D g ca md pc lv (.int x :: st) M Q := e ▸ h
theorem g_iconst (pc' : Nat) {n : Int} (v : Int32) (hd : decode md.2.2.1 pc = .ok (.iconst n, 1)) (hp : pc + 1 = pc') (hv : Int32.ofInt n = v) (h : G l D g ca md pc' lv (.int v :: st) M Q) : G l D g ca md pc lv (st) M Q := by
  subst hp
  intro p e R s m args below meth c H locs cells slots A ls C0 hc1 hs1 hw hl
  exact lv_iconst C0.1 C0.2.1 hd hv (h p e R s m args below meth c H locs cells slots A ls C0 hc1 hs1 hw hl)
theorem g_bipush (pc' : Nat) {n : Int} (v : Int32) (hd : decode md.2.2.1 pc = .ok (.bipush n, 2)) (hp : pc + 2 = pc') (hv : (Int8.ofInt n).toInt32 = v) (h : G l D g ca md pc' lv (.int v :: st) M Q) : G l D g ca md pc lv (st) M Q := by
  subst hp
  intro p e R s m args below meth c H locs cells slots A ls C0 hc1 hs1 hw hl
  exact lv_bipush C0.1 C0.2.1 hd hv (h p e R s m args below meth c H locs cells slots A ls C0 hc1 hs1 hw hl)
theorem g_sipush (pc' : Nat) {n : Int} (v : Int32) (hd : decode md.2.2.1 pc = .ok (.sipush n, 3)) (hp : pc + 3 = pc') (hv : (Int16.ofInt n).toInt32 = v) (h : G l D g ca md pc' lv (.int v :: st) M Q) : G l D g ca md pc lv (st) M Q := by
  subst hp
  intro p e R s m args below meth c H locs cells slots A ls C0 hc1 hs1 hw hl
  exact lv_sipush C0.1 C0.2.1 hd hv (h p e R s m args below meth c H locs cells slots A ls C0 hc1 hs1 hw hl)
theorem g_lconst (pc' : Nat) {n : Fin 2} (v : Int64) (hd : decode md.2.2.1 pc = .ok (.lconst n, 1)) (hp : pc + 1 = pc') (hv : Int64.ofNat (n : Nat) = v) (h : G l D g ca md pc' lv (.long v :: st) M Q) : G l D g ca md pc lv (st) M Q := by
  subst hp
  intro p e R s m args below meth c H locs cells slots A ls C0 hc1 hs1 hw hl
  exact lv_lconst C0.1 C0.2.1 hd hv (h p e R s m args below meth c H locs cells slots A ls C0 hc1 hs1 hw hl)
theorem g_ldc2 (pc' : Nat) {n : Nat} (v : Int64) (hd : decode md.2.2.1 pc = .ok (.ldc2_w n, 3)) (hp : pc + 3 = pc') (hv : Jvm.Cond.constantLong md.1 n v ∈ wsA) (h : G l D g ca md pc' lv (.long v :: st) M Q) : G l D g ca md pc lv (st) M Q := by
  subst hp
  intro p e R s m args below meth c H locs cells slots A ls C0 hc1 hs1 hw hl
  exact lv_ldc2 C0.1 C0.2.1 C0.2.2.2.2.1 (C0.2.2.2.2.2.1 _ hv) hd (h p e R s m args below meth c H locs cells slots A ls C0 hc1 hs1 hw hl)
theorem g_iload_n (pc' : Nat) {k : Fin 4} {x : Int32} (j : Nat) (hd : decode md.2.2.1 pc = .ok (.iload_n k, 1)) (hp : pc + 1 = pc') (hj : lv[j]? = some ((k : Nat), .int x)) (h : G l D g ca md pc' lv (.int x :: st) M Q) : G l D g ca md pc lv (st) M Q := by
  subst hp
  intro p e R s m args below meth c H locs cells slots A ls C0 hc1 hs1 hw hl
  exact lv_iload_n C0.1 C0.2.1 hd rfl (lv_at hl j hj) (h p e R s m args below meth c H locs cells slots A ls C0 hc1 hs1 hw hl)
theorem g_iload (pc' : Nat) {k : Nat} {x : Int32} (j : Nat) (hd : decode md.2.2.1 pc = .ok (.iload k, 2)) (hp : pc + 2 = pc') (hj : lv[j]? = some (k, .int x)) (h : G l D g ca md pc' lv (.int x :: st) M Q) : G l D g ca md pc lv (st) M Q := by
  subst hp
  intro p e R s m args below meth c H locs cells slots A ls C0 hc1 hs1 hw hl
  exact lv_iload C0.1 C0.2.1 hd (lv_at hl j hj) (h p e R s m args below meth c H locs cells slots A ls C0 hc1 hs1 hw hl)
theorem g_lload_n (pc' : Nat) {k : Fin 4} {x : Int64} (j : Nat) (hd : decode md.2.2.1 pc = .ok (.lload_n k, 1)) (hp : pc + 1 = pc') (hj : lv[j]? = some ((k : Nat), .long x)) (h : G l D g ca md pc' lv (.long x :: st) M Q) : G l D g ca md pc lv (st) M Q := by
  subst hp
  intro p e R s m args below meth c H locs cells slots A ls C0 hc1 hs1 hw hl
  exact lv_lload_n C0.1 C0.2.1 hd rfl (lv_at hl j hj) (h p e R s m args below meth c H locs cells slots A ls C0 hc1 hs1 hw hl)
theorem g_aload_n (pc' : Nat) {k : Fin 4} {x : Nat} (j : Nat) (hd : decode md.2.2.1 pc = .ok (.aload_n k, 1)) (hp : pc + 1 = pc') (hj : lv[j]? = some ((k : Nat), .ref x)) (h : G l D g ca md pc' lv (.ref x :: st) M Q) : G l D g ca md pc lv (st) M Q := by
  subst hp
  intro p e R s m args below meth c H locs cells slots A ls C0 hc1 hs1 hw hl
  exact lv_aload_n C0.1 C0.2.1 hd rfl (lv_at hl j hj) (h p e R s m args below meth c H locs cells slots A ls C0 hc1 hs1 hw hl)
theorem g_aload (pc' : Nat) {k : Nat} {x : Nat} (j : Nat) (hd : decode md.2.2.1 pc = .ok (.aload k, 2)) (hp : pc + 2 = pc') (hj : lv[j]? = some (k, .ref x)) (h : G l D g ca md pc' lv (.ref x :: st) M Q) : G l D g ca md pc lv (st) M Q := by
  subst hp
  intro p e R s m args below meth c H locs cells slots A ls C0 hc1 hs1 hw hl
  exact lv_aload C0.1 C0.2.1 hd (lv_at hl j hj) (h p e R s m args below meth c H locs cells slots A ls C0 hc1 hs1 hw hl)
theorem g_iadd (pc' : Nat) {x y : Int32} (v : Int32) (hd : decode md.2.2.1 pc = .ok (.iadd, 1)) (hp : pc + 1 = pc') (hv : x + y = v) (h : G l D g ca md pc' lv (.int v :: st) M Q) : G l D g ca md pc lv (.int y :: .int x :: st) M Q := by
  subst hp
  intro p e R s m args below meth c H locs cells slots A ls C0 hc1 hs1 hw hl
  subst hv
  exact lv_iadd C0.1 C0.2.1 hd (h p e R s m args below meth c H locs cells slots A ls C0 hc1 hs1 hw hl)
theorem g_isub (pc' : Nat) {x y : Int32} (v : Int32) (hd : decode md.2.2.1 pc = .ok (.isub, 1)) (hp : pc + 1 = pc') (hv : x - y = v) (h : G l D g ca md pc' lv (.int v :: st) M Q) : G l D g ca md pc lv (.int y :: .int x :: st) M Q := by
  subst hp
  intro p e R s m args below meth c H locs cells slots A ls C0 hc1 hs1 hw hl
  subst hv
  exact lv_isub C0.1 C0.2.1 hd (h p e R s m args below meth c H locs cells slots A ls C0 hc1 hs1 hw hl)
theorem g_imul (pc' : Nat) {x y : Int32} (v : Int32) (hd : decode md.2.2.1 pc = .ok (.imul, 1)) (hp : pc + 1 = pc') (hv : x * y = v) (h : G l D g ca md pc' lv (.int v :: st) M Q) : G l D g ca md pc lv (.int y :: .int x :: st) M Q := by
  subst hp
  intro p e R s m args below meth c H locs cells slots A ls C0 hc1 hs1 hw hl
  subst hv
  exact lv_imul C0.1 C0.2.1 hd (h p e R s m args below meth c H locs cells slots A ls C0 hc1 hs1 hw hl)
theorem g_iand (pc' : Nat) {x y : Int32} (v : Int32) (hd : decode md.2.2.1 pc = .ok (.iand, 1)) (hp : pc + 1 = pc') (hv : x &&& y = v) (h : G l D g ca md pc' lv (.int v :: st) M Q) : G l D g ca md pc lv (.int y :: .int x :: st) M Q := by
  subst hp
  intro p e R s m args below meth c H locs cells slots A ls C0 hc1 hs1 hw hl
  subst hv
  exact lv_iand C0.1 C0.2.1 hd (h p e R s m args below meth c H locs cells slots A ls C0 hc1 hs1 hw hl)
theorem g_idiv (pc' : Nat) {x y : Int32} (v : Int32) (hd : decode md.2.2.1 pc = .ok (.idiv, 1)) (hp : pc + 1 = pc') (hne : ¬ y = 0) (hv : x / y = v) (h : G l D g ca md pc' lv (.int v :: st) M Q) : G l D g ca md pc lv (.int y :: .int x :: st) M Q := by
  subst hp
  intro p e R s m args below meth c H locs cells slots A ls C0 hc1 hs1 hw hl
  subst hv
  exact lv_idiv C0.1 C0.2.1 hd hne (h p e R s m args below meth c H locs cells slots A ls C0 hc1 hs1 hw hl)
theorem g_ishr (pc' : Nat) {x y : Int32} (v : Int32) (hd : decode md.2.2.1 pc = .ok (.ishr, 1)) (hp : pc + 1 = pc') (hv : x >>> (y &&& 31) = v) (h : G l D g ca md pc' lv (.int v :: st) M Q) : G l D g ca md pc lv (.int y :: .int x :: st) M Q := by
  subst hp
  intro p e R s m args below meth c H locs cells slots A ls C0 hc1 hs1 hw hl
  subst hv
  exact lv_ishr C0.1 C0.2.1 hd (h p e R s m args below meth c H locs cells slots A ls C0 hc1 hs1 hw hl)
theorem g_iushr (pc' : Nat) {x y : Int32} (v : Int32) (hd : decode md.2.2.1 pc = .ok (.iushr, 1)) (hp : pc + 1 = pc') (hv : (x.toUInt32 >>> (y.toUInt32 &&& Int32.toUInt32 31)).toInt32 = v) (h : G l D g ca md pc' lv (.int v :: st) M Q) : G l D g ca md pc lv (.int y :: .int x :: st) M Q := by
  subst hp
  intro p e R s m args below meth c H locs cells slots A ls C0 hc1 hs1 hw hl
  exact lv_iushr C0.1 C0.2.1 hd hv (h p e R s m args below meth c H locs cells slots A ls C0 hc1 hs1 hw hl)
theorem g_i2b (pc' : Nat) {x : Int32} (v : Int32) (hd : decode md.2.2.1 pc = .ok (.i2b, 1)) (hp : pc + 1 = pc') (hv : x.toInt8.toInt32 = v) (h : G l D g ca md pc' lv (.int v :: st) M Q) : G l D g ca md pc lv (.int x :: st) M Q := by
  subst hp
  intro p e R s m args below meth c H locs cells slots A ls C0 hc1 hs1 hw hl
  exact lv_i2b C0.1 C0.2.1 hd hv (h p e R s m args below meth c H locs cells slots A ls C0 hc1 hs1 hw hl)
theorem g_i2l (pc' : Nat) {x : Int32} (v : Int64) (hd : decode md.2.2.1 pc = .ok (.i2l, 1)) (hp : pc + 1 = pc') (hv : x.toInt64 = v) (h : G l D g ca md pc' lv (.long v :: st) M Q) : G l D g ca md pc lv (.int x :: st) M Q := by
  subst hp
  intro p e R s m args below meth c H locs cells slots A ls C0 hc1 hs1 hw hl
  exact lv_i2l C0.1 C0.2.1 hd hv (h p e R s m args below meth c H locs cells slots A ls C0 hc1 hs1 hw hl)
theorem g_ladd (pc' : Nat) {x y : Int64} (v : Int64) (hd : decode md.2.2.1 pc = .ok (.ladd, 1)) (hp : pc + 1 = pc') (hv : x + y = v) (h : G l D g ca md pc' lv (.long v :: st) M Q) : G l D g ca md pc lv (.long y :: .long x :: st) M Q := by
  subst hp
  intro p e R s m args below meth c H locs cells slots A ls C0 hc1 hs1 hw hl
  subst hv
  exact lv_ladd C0.1 C0.2.1 hd (h p e R s m args below meth c H locs cells slots A ls C0 hc1 hs1 hw hl)
theorem g_lsub (pc' : Nat) {x y : Int64} (v : Int64) (hd : decode md.2.2.1 pc = .ok (.lsub, 1)) (hp : pc + 1 = pc') (hv : x - y = v) (h : G l D g ca md pc' lv (.long v :: st) M Q) : G l D g ca md pc lv (.long y :: .long x :: st) M Q := by
  subst hp
  intro p e R s m args below meth c H locs cells slots A ls C0 hc1 hs1 hw hl
  subst hv
  exact lv_lsub C0.1 C0.2.1 hd (h p e R s m args below meth c H locs cells slots A ls C0 hc1 hs1 hw hl)
theorem g_lmul (pc' : Nat) {x y : Int64} (v : Int64) (hd : decode md.2.2.1 pc = .ok (.lmul, 1)) (hp : pc + 1 = pc') (hv : x * y = v) (h : G l D g ca md pc' lv (.long v :: st) M Q) : G l D g ca md pc lv (.long y :: .long x :: st) M Q := by
  subst hp
  intro p e R s m args below meth c H locs cells slots A ls C0 hc1 hs1 hw hl
  subst hv
  exact lv_lmul C0.1 C0.2.1 hd (h p e R s m args below meth c H locs cells slots A ls C0 hc1 hs1 hw hl)
theorem g_dup (pc' : Nat) {v : Value} (hd : decode md.2.2.1 pc = .ok (.dup, 1)) (hp : pc + 1 = pc') (hv : v.category = 1) (h : G l D g ca md pc' lv (v :: v :: st) M Q) : G l D g ca md pc lv (v :: st) M Q := by
  subst hp
  intro p e R s m args below meth c H locs cells slots A ls C0 hc1 hs1 hw hl
  exact lv_dup C0.1 C0.2.1 hd hv (h p e R s m args below meth c H locs cells slots A ls C0 hc1 hs1 hw hl)
theorem g_pop (pc' : Nat) {v : Value} (hd : decode md.2.2.1 pc = .ok (.pop, 1)) (hp : pc + 1 = pc') (hv : v.category = 1) (h : G l D g ca md pc' lv (st) M Q) : G l D g ca md pc lv (v :: st) M Q := by
  subst hp
  intro p e R s m args below meth c H locs cells slots A ls C0 hc1 hs1 hw hl
  exact lv_pop C0.1 C0.2.1 hd hv (h p e R s m args below meth c H locs cells slots A ls C0 hc1 hs1 hw hl)
theorem g_dup_x1 (pc' : Nat) {v u : Value} (hd : decode md.2.2.1 pc = .ok (.dup_x1, 1)) (hp : pc + 1 = pc') (hv : v.category = 1) (hu : u.category = 1) (h : G l D g ca md pc' lv (v :: u :: v :: st) M Q) : G l D g ca md pc lv (v :: u :: st) M Q := by
  subst hp
  intro p e R s m args below meth c H locs cells slots A ls C0 hc1 hs1 hw hl
  exact lv_dup_x1 C0.1 C0.2.1 hd hv hu (h p e R s m args below meth c H locs cells slots A ls C0 hc1 hs1 hw hl)
theorem g_dup2 (pc' : Nat) {v u : Value} (hd : decode md.2.2.1 pc = .ok (.dup2, 1)) (hp : pc + 1 = pc') (hv : v.category = 1) (hu : u.category = 1) (h : G l D g ca md pc' lv (v :: u :: v :: u :: st) M Q) : G l D g ca md pc lv (v :: u :: st) M Q := by
  subst hp
  intro p e R s m args below meth c H locs cells slots A ls C0 hc1 hs1 hw hl
  exact lv_dup2_11 C0.1 C0.2.1 hd hv hu (h p e R s m args below meth c H locs cells slots A ls C0 hc1 hs1 hw hl)
theorem g_istore_n (pc' : Nat) {k : Fin 4} {x : Int32} (lv' : List (Nat × Value)) (hd : decode md.2.2.1 pc = .ok (.istore_n k, 1)) (hp : pc + 1 = pc') (hn : (k : Nat) < md.2.2.2.1) (hl' : ((k : Nat), Value.int x) :: lv.filter (fun q => !(q.1 == (k : Nat)) && !(q.1 + 1 == (k : Nat) && q.2.category == 2)) = lv') (h : G l D g ca md pc' lv' st M Q) : G l D g ca md pc lv (.int x :: st) M Q := by
  subst hp
  intro p e R s m args below meth c H locs cells slots A ls C0 hc1 hs1 hw hl
  exact lv_istore_n C0.1 C0.2.1 hd rfl hl hn hl' (fun ls hl => (h p e R s m args below meth c H locs cells slots A ls C0 hc1 hs1 hw hl))
theorem g_istore (pc' : Nat) {k : Nat} {x : Int32} (lv' : List (Nat × Value)) (hd : decode md.2.2.1 pc = .ok (.istore k, 2)) (hp : pc + 2 = pc') (hn : k < md.2.2.2.1) (hl' : (k, Value.int x) :: lv.filter (fun q => !(q.1 == k) && !(q.1 + 1 == k && q.2.category == 2)) = lv') (h : G l D g ca md pc' lv' st M Q) : G l D g ca md pc lv (.int x :: st) M Q := by
  subst hp
  intro p e R s m args below meth c H locs cells slots A ls C0 hc1 hs1 hw hl
  exact lv_istore C0.1 C0.2.1 hd hl hn hl' (fun ls hl => (h p e R s m args below meth c H locs cells slots A ls C0 hc1 hs1 hw hl))
theorem g_astore_n (pc' : Nat) {k : Fin 4} {x : Nat} (lv' : List (Nat × Value)) (hd : decode md.2.2.1 pc = .ok (.astore_n k, 1)) (hp : pc + 1 = pc') (hn : (k : Nat) < md.2.2.2.1) (hl' : ((k : Nat), Value.ref x) :: lv.filter (fun q => !(q.1 == (k : Nat)) && !(q.1 + 1 == (k : Nat) && q.2.category == 2)) = lv') (h : G l D g ca md pc' lv' st M Q) : G l D g ca md pc lv (.ref x :: st) M Q := by
  subst hp
  intro p e R s m args below meth c H locs cells slots A ls C0 hc1 hs1 hw hl
  exact lv_astore_n C0.1 C0.2.1 hd rfl hl hn hl' (fun ls hl => (h p e R s m args below meth c H locs cells slots A ls C0 hc1 hs1 hw hl))
theorem g_astore (pc' : Nat) {k : Nat} {x : Nat} (lv' : List (Nat × Value)) (hd : decode md.2.2.1 pc = .ok (.astore k, 2)) (hp : pc + 2 = pc') (hn : k < md.2.2.2.1) (hl' : (k, Value.ref x) :: lv.filter (fun q => !(q.1 == k) && !(q.1 + 1 == k && q.2.category == 2)) = lv') (h : G l D g ca md pc' lv' st M Q) : G l D g ca md pc lv (.ref x :: st) M Q := by
  subst hp
  intro p e R s m args below meth c H locs cells slots A ls C0 hc1 hs1 hw hl
  exact lv_astore C0.1 C0.2.1 hd hl hn hl' (fun ls hl => (h p e R s m args below meth c H locs cells slots A ls C0 hc1 hs1 hw hl))
theorem g_iinc (pc' : Nat) {i : Nat} {n : Int} {x : Int32} (v : Int32) (lv' : List (Nat × Value)) (hd : decode md.2.2.1 pc = .ok (.iinc i n, 3)) (hp : pc + 3 = pc') (k : Nat) (hk : lv[k]? = some (i, .int x)) (hv : x + Int32.ofInt n = v) (hn : i < md.2.2.2.1) (hl' : (i, Value.int v) :: lv.filter (fun q => !(q.1 == i) && !(q.1 + 1 == i && q.2.category == 2)) = lv') (h : G l D g ca md pc' lv' st M Q) : G l D g ca md pc lv st M Q := by
  subst hp
  intro p e R s m args below meth c H locs cells slots A ls C0 hc1 hs1 hw hl
  exact lv_iinc C0.1 C0.2.1 hd hl hk hv hn hl' (fun ls hl => (h p e R s m args below meth c H locs cells slots A ls C0 hc1 hs1 hw hl))
theorem g_goto (tgt : Nat) {off : Int} (hd : decode md.2.2.1 pc = .ok (.goto off, 3)) (ht : (pc : Int) + off = (tgt : Int)) (h : G l D g ca md tgt lv st M Q) : G l D g ca md pc lv st M Q := by
  intro p e R s m args below meth c H locs cells slots A ls C0 hc1 hs1 hw hl
  exact lv_goto C0.1 C0.2.1 hd ht (h p e R s m args below meth c H locs cells slots A ls C0 hc1 hs1 hw hl)
-- branches: over ints, over naturals, over a truth value
theorem g_icmp_eq (tgt pc' : Nat) {x y : Int32} {off : Int} (hd : decode md.2.2.1 pc = .ok (.if_icmp .eq off, 3)) (ht : (pc : Int) + off = (tgt : Int)) (hp : pc + 3 = pc') (kt : x = y → G l D g ca md tgt lv st M Q) (kf : ¬ x = y → G l D g ca md pc' lv st M Q) : G l D g ca md pc lv (.int y :: .int x :: st) M Q := by
  subst hp
  intro p e R s m args below meth c H locs cells slots A ls C0 hc1 hs1 hw hl
  exact lv_icmp_eq C0.1 C0.2.1 hd ht (fun c1 => kt (by first | exact c1 | exact c1.symm | exact fun z => c1 z.symm) p e R s m args below meth c H locs cells slots A ls C0 hc1 hs1 hw hl) (fun c1 => kf (by first | exact c1 | exact c1.symm | exact fun z => c1 z.symm) p e R s m args below meth c H locs cells slots A ls C0 hc1 hs1 hw hl)
theorem g_icmpN_eq (tgt pc' : Nat) {a b : Nat} {off : Int} (hd : decode md.2.2.1 pc = .ok (.if_icmp .eq off, 3)) (ht : (pc : Int) + off = (tgt : Int)) (hp : pc + 3 = pc') (ha : a < 2147483648) (hb : b < 2147483648) (kt : a = b → G l D g ca md tgt lv st M Q) (kf : a ≠ b → G l D g ca md pc' lv st M Q) : G l D g ca md pc lv (.int (nI b) :: .int (nI a) :: st) M Q := by
  have e1 := nI_eq ha hb
  have e2 := nI_leI ha hb
  have e3 := nI_leI hb ha
  have e4 := nI_ltI ha hb
  have e5 := nI_ltI hb ha
  exact g_icmp_eq tgt pc' hd ht hp (fun c1 => kt (by first | exact e1.mp c1 | exact fun z => c1 (e1.mpr z) | exact e2.mp c1 | exact e3.mp c1 | exact e4.mp c1 | exact e5.mp c1)) (fun c1 => kf (by first | exact e1.mp c1 | exact fun z => c1 (e1.mpr z) | exact Nat.not_lt.mp (fun z => c1 (e4.mpr z)) | exact Nat.not_lt.mp (fun z => c1 (e5.mpr z)) | exact Nat.not_le.mp (fun z => c1 (e2.mpr z)) | exact Nat.not_le.mp (fun z => c1 (e3.mpr z))))
theorem g_icmp_ne (tgt pc' : Nat) {x y : Int32} {off : Int} (hd : decode md.2.2.1 pc = .ok (.if_icmp .ne off, 3)) (ht : (pc : Int) + off = (tgt : Int)) (hp : pc + 3 = pc') (kt : ¬ x = y → G l D g ca md tgt lv st M Q) (kf : x = y → G l D g ca md pc' lv st M Q) : G l D g ca md pc lv (.int y :: .int x :: st) M Q := by
  subst hp
  intro p e R s m args below meth c H locs cells slots A ls C0 hc1 hs1 hw hl
  exact lv_icmp_ne C0.1 C0.2.1 hd ht (fun c1 => kt (by first | exact c1 | exact c1.symm | exact fun z => c1 z.symm) p e R s m args below meth c H locs cells slots A ls C0 hc1 hs1 hw hl) (fun c1 => kf (by first | exact c1 | exact c1.symm | exact fun z => c1 z.symm) p e R s m args below meth c H locs cells slots A ls C0 hc1 hs1 hw hl)
theorem g_icmpN_ne (tgt pc' : Nat) {a b : Nat} {off : Int} (hd : decode md.2.2.1 pc = .ok (.if_icmp .ne off, 3)) (ht : (pc : Int) + off = (tgt : Int)) (hp : pc + 3 = pc') (ha : a < 2147483648) (hb : b < 2147483648) (kt : a ≠ b → G l D g ca md tgt lv st M Q) (kf : a = b → G l D g ca md pc' lv st M Q) : G l D g ca md pc lv (.int (nI b) :: .int (nI a) :: st) M Q := by
  have e1 := nI_eq ha hb
  have e2 := nI_leI ha hb
  have e3 := nI_leI hb ha
  have e4 := nI_ltI ha hb
  have e5 := nI_ltI hb ha
  exact g_icmp_ne tgt pc' hd ht hp (fun c1 => kt (by first | exact e1.mp c1 | exact fun z => c1 (e1.mpr z) | exact e2.mp c1 | exact e3.mp c1 | exact e4.mp c1 | exact e5.mp c1)) (fun c1 => kf (by first | exact e1.mp c1 | exact fun z => c1 (e1.mpr z) | exact Nat.not_lt.mp (fun z => c1 (e4.mpr z)) | exact Nat.not_lt.mp (fun z => c1 (e5.mpr z)) | exact Nat.not_le.mp (fun z => c1 (e2.mpr z)) | exact Nat.not_le.mp (fun z => c1 (e3.mpr z))))
theorem g_icmp_lt (tgt pc' : Nat) {x y : Int32} {off : Int} (hd : decode md.2.2.1 pc = .ok (.if_icmp .lt off, 3)) (ht : (pc : Int) + off = (tgt : Int)) (hp : pc + 3 = pc') (kt : x < y → G l D g ca md tgt lv st M Q) (kf : ¬ x < y → G l D g ca md pc' lv st M Q) : G l D g ca md pc lv (.int y :: .int x :: st) M Q := by
  subst hp
  intro p e R s m args below meth c H locs cells slots A ls C0 hc1 hs1 hw hl
  exact lv_icmp_lt C0.1 C0.2.1 hd ht (fun c1 => kt (by first | exact c1 | exact c1.symm | exact fun z => c1 z.symm) p e R s m args below meth c H locs cells slots A ls C0 hc1 hs1 hw hl) (fun c1 => kf (by first | exact c1 | exact c1.symm | exact fun z => c1 z.symm) p e R s m args below meth c H locs cells slots A ls C0 hc1 hs1 hw hl)
theorem g_icmpN_lt (tgt pc' : Nat) {a b : Nat} {off : Int} (hd : decode md.2.2.1 pc = .ok (.if_icmp .lt off, 3)) (ht : (pc : Int) + off = (tgt : Int)) (hp : pc + 3 = pc') (ha : a < 2147483648) (hb : b < 2147483648) (kt : a < b → G l D g ca md tgt lv st M Q) (kf : b ≤ a → G l D g ca md pc' lv st M Q) : G l D g ca md pc lv (.int (nI b) :: .int (nI a) :: st) M Q := by
  have e1 := nI_eq ha hb
  have e2 := nI_leI ha hb
  have e3 := nI_leI hb ha
  have e4 := nI_ltI ha hb
  have e5 := nI_ltI hb ha
  exact g_icmp_lt tgt pc' hd ht hp (fun c1 => kt (by first | exact e1.mp c1 | exact fun z => c1 (e1.mpr z) | exact e2.mp c1 | exact e3.mp c1 | exact e4.mp c1 | exact e5.mp c1)) (fun c1 => kf (by first | exact e1.mp c1 | exact fun z => c1 (e1.mpr z) | exact Nat.not_lt.mp (fun z => c1 (e4.mpr z)) | exact Nat.not_lt.mp (fun z => c1 (e5.mpr z)) | exact Nat.not_le.mp (fun z => c1 (e2.mpr z)) | exact Nat.not_le.mp (fun z => c1 (e3.mpr z))))
theorem g_icmp_ge (tgt pc' : Nat) {x y : Int32} {off : Int} (hd : decode md.2.2.1 pc = .ok (.if_icmp .ge off, 3)) (ht : (pc : Int) + off = (tgt : Int)) (hp : pc + 3 = pc') (kt : y ≤ x → G l D g ca md tgt lv st M Q) (kf : ¬ y ≤ x → G l D g ca md pc' lv st M Q) : G l D g ca md pc lv (.int y :: .int x :: st) M Q := by
  subst hp
  intro p e R s m args below meth c H locs cells slots A ls C0 hc1 hs1 hw hl
  exact lv_icmp_ge C0.1 C0.2.1 hd ht (fun c1 => kt (by first | exact c1 | exact c1.symm | exact fun z => c1 z.symm) p e R s m args below meth c H locs cells slots A ls C0 hc1 hs1 hw hl) (fun c1 => kf (by first | exact c1 | exact c1.symm | exact fun z => c1 z.symm) p e R s m args below meth c H locs cells slots A ls C0 hc1 hs1 hw hl)
theorem g_icmpN_ge (tgt pc' : Nat) {a b : Nat} {off : Int} (hd : decode md.2.2.1 pc = .ok (.if_icmp .ge off, 3)) (ht : (pc : Int) + off = (tgt : Int)) (hp : pc + 3 = pc') (ha : a < 2147483648) (hb : b < 2147483648) (kt : b ≤ a → G l D g ca md tgt lv st M Q) (kf : a < b → G l D g ca md pc' lv st M Q) : G l D g ca md pc lv (.int (nI b) :: .int (nI a) :: st) M Q := by
  have e1 := nI_eq ha hb
  have e2 := nI_leI ha hb
  have e3 := nI_leI hb ha
  have e4 := nI_ltI ha hb
  have e5 := nI_ltI hb ha
  exact g_icmp_ge tgt pc' hd ht hp (fun c1 => kt (by first | exact e1.mp c1 | exact fun z => c1 (e1.mpr z) | exact e2.mp c1 | exact e3.mp c1 | exact e4.mp c1 | exact e5.mp c1)) (fun c1 => kf (by first | exact e1.mp c1 | exact fun z => c1 (e1.mpr z) | exact Nat.not_lt.mp (fun z => c1 (e4.mpr z)) | exact Nat.not_lt.mp (fun z => c1 (e5.mpr z)) | exact Nat.not_le.mp (fun z => c1 (e2.mpr z)) | exact Nat.not_le.mp (fun z => c1 (e3.mpr z))))
theorem g_icmp_gt (tgt pc' : Nat) {x y : Int32} {off : Int} (hd : decode md.2.2.1 pc = .ok (.if_icmp .gt off, 3)) (ht : (pc : Int) + off = (tgt : Int)) (hp : pc + 3 = pc') (kt : y < x → G l D g ca md tgt lv st M Q) (kf : ¬ y < x → G l D g ca md pc' lv st M Q) : G l D g ca md pc lv (.int y :: .int x :: st) M Q := by
  subst hp
  intro p e R s m args below meth c H locs cells slots A ls C0 hc1 hs1 hw hl
  exact lv_icmp_gt C0.1 C0.2.1 hd ht (fun c1 => kt (by first | exact c1 | exact c1.symm | exact fun z => c1 z.symm) p e R s m args below meth c H locs cells slots A ls C0 hc1 hs1 hw hl) (fun c1 => kf (by first | exact c1 | exact c1.symm | exact fun z => c1 z.symm) p e R s m args below meth c H locs cells slots A ls C0 hc1 hs1 hw hl)
theorem g_icmpN_gt (tgt pc' : Nat) {a b : Nat} {off : Int} (hd : decode md.2.2.1 pc = .ok (.if_icmp .gt off, 3)) (ht : (pc : Int) + off = (tgt : Int)) (hp : pc + 3 = pc') (ha : a < 2147483648) (hb : b < 2147483648) (kt : b < a → G l D g ca md tgt lv st M Q) (kf : a ≤ b → G l D g ca md pc' lv st M Q) : G l D g ca md pc lv (.int (nI b) :: .int (nI a) :: st) M Q := by
  have e1 := nI_eq ha hb
  have e2 := nI_leI ha hb
  have e3 := nI_leI hb ha
  have e4 := nI_ltI ha hb
  have e5 := nI_ltI hb ha
  exact g_icmp_gt tgt pc' hd ht hp (fun c1 => kt (by first | exact e1.mp c1 | exact fun z => c1 (e1.mpr z) | exact e2.mp c1 | exact e3.mp c1 | exact e4.mp c1 | exact e5.mp c1)) (fun c1 => kf (by first | exact e1.mp c1 | exact fun z => c1 (e1.mpr z) | exact Nat.not_lt.mp (fun z => c1 (e4.mpr z)) | exact Nat.not_lt.mp (fun z => c1 (e5.mpr z)) | exact Nat.not_le.mp (fun z => c1 (e2.mpr z)) | exact Nat.not_le.mp (fun z => c1 (e3.mpr z))))
theorem g_icmp_le (tgt pc' : Nat) {x y : Int32} {off : Int} (hd : decode md.2.2.1 pc = .ok (.if_icmp .le off, 3)) (ht : (pc : Int) + off = (tgt : Int)) (hp : pc + 3 = pc') (kt : x ≤ y → G l D g ca md tgt lv st M Q) (kf : ¬ x ≤ y → G l D g ca md pc' lv st M Q) : G l D g ca md pc lv (.int y :: .int x :: st) M Q := by
  subst hp
  intro p e R s m args below meth c H locs cells slots A ls C0 hc1 hs1 hw hl
  exact lv_icmp_le C0.1 C0.2.1 hd ht (fun c1 => kt (by first | exact c1 | exact c1.symm | exact fun z => c1 z.symm) p e R s m args below meth c H locs cells slots A ls C0 hc1 hs1 hw hl) (fun c1 => kf (by first | exact c1 | exact c1.symm | exact fun z => c1 z.symm) p e R s m args below meth c H locs cells slots A ls C0 hc1 hs1 hw hl)
theorem g_icmpN_le (tgt pc' : Nat) {a b : Nat} {off : Int} (hd : decode md.2.2.1 pc = .ok (.if_icmp .le off, 3)) (ht : (pc : Int) + off = (tgt : Int)) (hp : pc + 3 = pc') (ha : a < 2147483648) (hb : b < 2147483648) (kt : a ≤ b → G l D g ca md tgt lv st M Q) (kf : b < a → G l D g ca md pc' lv st M Q) : G l D g ca md pc lv (.int (nI b) :: .int (nI a) :: st) M Q := by
  have e1 := nI_eq ha hb
  have e2 := nI_leI ha hb
  have e3 := nI_leI hb ha
  have e4 := nI_ltI ha hb
  have e5 := nI_ltI hb ha
  exact g_icmp_le tgt pc' hd ht hp (fun c1 => kt (by first | exact e1.mp c1 | exact fun z => c1 (e1.mpr z) | exact e2.mp c1 | exact e3.mp c1 | exact e4.mp c1 | exact e5.mp c1)) (fun c1 => kf (by first | exact e1.mp c1 | exact fun z => c1 (e1.mpr z) | exact Nat.not_lt.mp (fun z => c1 (e4.mpr z)) | exact Nat.not_lt.mp (fun z => c1 (e5.mpr z)) | exact Nat.not_le.mp (fun z => c1 (e2.mpr z)) | exact Nat.not_le.mp (fun z => c1 (e3.mpr z))))
theorem g_if_eq (tgt pc' : Nat) {x : Int32} {off : Int} (hd : decode md.2.2.1 pc = .ok (.ifCond .eq off, 3)) (ht : (pc : Int) + off = (tgt : Int)) (hp : pc + 3 = pc') (kt : x = 0 → G l D g ca md tgt lv st M Q) (kf : ¬ x = 0 → G l D g ca md pc' lv st M Q) : G l D g ca md pc lv (.int x :: st) M Q := by
  subst hp
  intro p e R s m args below meth c H locs cells slots A ls C0 hc1 hs1 hw hl
  exact lv_if_eq C0.1 C0.2.1 hd ht (fun c1 => kt (by first | exact c1 | exact c1.symm | exact fun z => c1 z.symm) p e R s m args below meth c H locs cells slots A ls C0 hc1 hs1 hw hl) (fun c1 => kf (by first | exact c1 | exact c1.symm | exact fun z => c1 z.symm) p e R s m args below meth c H locs cells slots A ls C0 hc1 hs1 hw hl)
theorem g_if_ne (tgt pc' : Nat) {x : Int32} {off : Int} (hd : decode md.2.2.1 pc = .ok (.ifCond .ne off, 3)) (ht : (pc : Int) + off = (tgt : Int)) (hp : pc + 3 = pc') (kt : ¬ x = 0 → G l D g ca md tgt lv st M Q) (kf : x = 0 → G l D g ca md pc' lv st M Q) : G l D g ca md pc lv (.int x :: st) M Q := by
  subst hp
  intro p e R s m args below meth c H locs cells slots A ls C0 hc1 hs1 hw hl
  exact lv_if_ne C0.1 C0.2.1 hd ht (fun c1 => kt (by first | exact c1 | exact c1.symm | exact fun z => c1 z.symm) p e R s m args below meth c H locs cells slots A ls C0 hc1 hs1 hw hl) (fun c1 => kf (by first | exact c1 | exact c1.symm | exact fun z => c1 z.symm) p e R s m args below meth c H locs cells slots A ls C0 hc1 hs1 hw hl)
theorem g_if_lt (tgt pc' : Nat) {x : Int32} {off : Int} (hd : decode md.2.2.1 pc = .ok (.ifCond .lt off, 3)) (ht : (pc : Int) + off = (tgt : Int)) (hp : pc + 3 = pc') (kt : x < 0 → G l D g ca md tgt lv st M Q) (kf : ¬ x < 0 → G l D g ca md pc' lv st M Q) : G l D g ca md pc lv (.int x :: st) M Q := by
  subst hp
  intro p e R s m args below meth c H locs cells slots A ls C0 hc1 hs1 hw hl
  exact lv_if_lt C0.1 C0.2.1 hd ht (fun c1 => kt (by first | exact c1 | exact c1.symm | exact fun z => c1 z.symm) p e R s m args below meth c H locs cells slots A ls C0 hc1 hs1 hw hl) (fun c1 => kf (by first | exact c1 | exact c1.symm | exact fun z => c1 z.symm) p e R s m args below meth c H locs cells slots A ls C0 hc1 hs1 hw hl)
theorem g_if_ge (tgt pc' : Nat) {x : Int32} {off : Int} (hd : decode md.2.2.1 pc = .ok (.ifCond .ge off, 3)) (ht : (pc : Int) + off = (tgt : Int)) (hp : pc + 3 = pc') (kt : 0 ≤ x → G l D g ca md tgt lv st M Q) (kf : ¬ 0 ≤ x → G l D g ca md pc' lv st M Q) : G l D g ca md pc lv (.int x :: st) M Q := by
  subst hp
  intro p e R s m args below meth c H locs cells slots A ls C0 hc1 hs1 hw hl
  exact lv_if_ge C0.1 C0.2.1 hd ht (fun c1 => kt (by first | exact c1 | exact c1.symm | exact fun z => c1 z.symm) p e R s m args below meth c H locs cells slots A ls C0 hc1 hs1 hw hl) (fun c1 => kf (by first | exact c1 | exact c1.symm | exact fun z => c1 z.symm) p e R s m args below meth c H locs cells slots A ls C0 hc1 hs1 hw hl)
theorem g_if_gt (tgt pc' : Nat) {x : Int32} {off : Int} (hd : decode md.2.2.1 pc = .ok (.ifCond .gt off, 3)) (ht : (pc : Int) + off = (tgt : Int)) (hp : pc + 3 = pc') (kt : 0 < x → G l D g ca md tgt lv st M Q) (kf : ¬ 0 < x → G l D g ca md pc' lv st M Q) : G l D g ca md pc lv (.int x :: st) M Q := by
  subst hp
  intro p e R s m args below meth c H locs cells slots A ls C0 hc1 hs1 hw hl
  exact lv_if_gt C0.1 C0.2.1 hd ht (fun c1 => kt (by first | exact c1 | exact c1.symm | exact fun z => c1 z.symm) p e R s m args below meth c H locs cells slots A ls C0 hc1 hs1 hw hl) (fun c1 => kf (by first | exact c1 | exact c1.symm | exact fun z => c1 z.symm) p e R s m args below meth c H locs cells slots A ls C0 hc1 hs1 hw hl)
theorem g_if_le (tgt pc' : Nat) {x : Int32} {off : Int} (hd : decode md.2.2.1 pc = .ok (.ifCond .le off, 3)) (ht : (pc : Int) + off = (tgt : Int)) (hp : pc + 3 = pc') (kt : x ≤ 0 → G l D g ca md tgt lv st M Q) (kf : ¬ x ≤ 0 → G l D g ca md pc' lv st M Q) : G l D g ca md pc lv (.int x :: st) M Q := by
  subst hp
  intro p e R s m args below meth c H locs cells slots A ls C0 hc1 hs1 hw hl
  exact lv_if_le C0.1 C0.2.1 hd ht (fun c1 => kt (by first | exact c1 | exact c1.symm | exact fun z => c1 z.symm) p e R s m args below meth c H locs cells slots A ls C0 hc1 hs1 hw hl) (fun c1 => kf (by first | exact c1 | exact c1.symm | exact fun z => c1 z.symm) p e R s m args below meth c H locs cells slots A ls C0 hc1 hs1 hw hl)
def bi (b : Bool) : Int32 := if b then 1 else 0
theorem bi_t : bi true = 1 := rfl
theorem bi_f : bi false = 0 := rfl
theorem bi_nar (b : Bool) : narrow .boolean (.int (bi b)) = .int (bi b) := by cases b <;> rfl
theorem g_ifB_eq (tgt pc' : Nat) {b : Bool} {off : Int} (hd : decode md.2.2.1 pc = .ok (.ifCond .eq off, 3)) (ht : (pc : Int) + off = (tgt : Int)) (hp : pc + 3 = pc') (kt : b = false → G l D g ca md tgt lv st M Q) (kf : b = true → G l D g ca md pc' lv st M Q) : G l D g ca md pc lv (.int (bi b) :: st) M Q := by
  refine g_if_eq tgt pc' hd ht hp (fun c1 => kt ?_) (fun c1 => kf ?_)
  · cases b
    · first | rfl | exact absurd rfl c1
    · first | rfl | exact absurd c1 (by decide)
  · cases b
    · first | rfl | exact absurd rfl c1 | exact absurd (by decide) c1
    · first | rfl | exact absurd rfl c1 | exact absurd (by decide) c1
theorem g_ifB_ne (tgt pc' : Nat) {b : Bool} {off : Int} (hd : decode md.2.2.1 pc = .ok (.ifCond .ne off, 3)) (ht : (pc : Int) + off = (tgt : Int)) (hp : pc + 3 = pc') (kt : b = true → G l D g ca md tgt lv st M Q) (kf : b = false → G l D g ca md pc' lv st M Q) : G l D g ca md pc lv (.int (bi b) :: st) M Q := by
  refine g_if_ne tgt pc' hd ht hp (fun c1 => kt ?_) (fun c1 => kf ?_)
  · cases b
    · first | rfl | exact absurd rfl c1
    · first | rfl | exact absurd c1 (by decide)
  · cases b
    · first | rfl | exact absurd rfl c1 | exact absurd (by decide) c1
    · first | rfl | exact absurd rfl c1 | exact absurd (by decide) c1
theorem g_ifN_eq (tgt pc' : Nat) {a : Nat} {off : Int} (hd : decode md.2.2.1 pc = .ok (.ifCond .eq off, 3)) (ht : (pc : Int) + off = (tgt : Int)) (hp : pc + 3 = pc') (ha : a < 2147483648) (kt : a = 0 → G l D g ca md tgt lv st M Q) (kf : 0 < a → G l D g ca md pc' lv st M Q) : G l D g ca md pc lv (.int (nI a) :: st) M Q := by
  have e1 : nI a = 0 ↔ a = 0 := nI_eq ha (b := 0) (by decide)
  have e2 : nI a ≤ 0 ↔ a ≤ 0 := nI_leI ha (b := 0) (by decide)
  have e3 : 0 < nI a ↔ 0 < a := nI_ltI (a := 0) (by decide) ha
  refine g_if_eq tgt pc' hd ht hp (fun c1 => kt ?_) (fun c1 => kf ?_)
  · first | exact e1.mp c1 | exact Nat.pos_of_ne_zero (fun z => c1 (e1.mpr z)) | exact Nat.le_zero.mp (e2.mp c1) | exact e3.mp c1
  · first | exact e1.mp c1 | exact Nat.pos_of_ne_zero (fun z => c1 (e1.mpr z)) | exact Nat.pos_of_ne_zero (fun z => c1 (e2.mpr (Nat.le_of_eq z))) | exact Nat.le_zero.mp (Nat.not_lt.mp (fun z => c1 (e3.mpr z)))
theorem g_ifN_ne (tgt pc' : Nat) {a : Nat} {off : Int} (hd : decode md.2.2.1 pc = .ok (.ifCond .ne off, 3)) (ht : (pc : Int) + off = (tgt : Int)) (hp : pc + 3 = pc') (ha : a < 2147483648) (kt : 0 < a → G l D g ca md tgt lv st M Q) (kf : a = 0 → G l D g ca md pc' lv st M Q) : G l D g ca md pc lv (.int (nI a) :: st) M Q := by
  have e1 : nI a = 0 ↔ a = 0 := nI_eq ha (b := 0) (by decide)
  have e2 : nI a ≤ 0 ↔ a ≤ 0 := nI_leI ha (b := 0) (by decide)
  have e3 : 0 < nI a ↔ 0 < a := nI_ltI (a := 0) (by decide) ha
  refine g_if_ne tgt pc' hd ht hp (fun c1 => kt ?_) (fun c1 => kf ?_)
  · first | exact e1.mp c1 | exact Nat.pos_of_ne_zero (fun z => c1 (e1.mpr z)) | exact Nat.le_zero.mp (e2.mp c1) | exact e3.mp c1
  · first | exact e1.mp c1 | exact Nat.pos_of_ne_zero (fun z => c1 (e1.mpr z)) | exact Nat.pos_of_ne_zero (fun z => c1 (e2.mpr (Nat.le_of_eq z))) | exact Nat.le_zero.mp (Nat.not_lt.mp (fun z => c1 (e3.mpr z)))
theorem g_ifN_le (tgt pc' : Nat) {a : Nat} {off : Int} (hd : decode md.2.2.1 pc = .ok (.ifCond .le off, 3)) (ht : (pc : Int) + off = (tgt : Int)) (hp : pc + 3 = pc') (ha : a < 2147483648) (kt : a = 0 → G l D g ca md tgt lv st M Q) (kf : 0 < a → G l D g ca md pc' lv st M Q) : G l D g ca md pc lv (.int (nI a) :: st) M Q := by
  have e1 : nI a = 0 ↔ a = 0 := nI_eq ha (b := 0) (by decide)
  have e2 : nI a ≤ 0 ↔ a ≤ 0 := nI_leI ha (b := 0) (by decide)
  have e3 : 0 < nI a ↔ 0 < a := nI_ltI (a := 0) (by decide) ha
  refine g_if_le tgt pc' hd ht hp (fun c1 => kt ?_) (fun c1 => kf ?_)
  · first | exact e1.mp c1 | exact Nat.pos_of_ne_zero (fun z => c1 (e1.mpr z)) | exact Nat.le_zero.mp (e2.mp c1) | exact e3.mp c1
  · first | exact e1.mp c1 | exact Nat.pos_of_ne_zero (fun z => c1 (e1.mpr z)) | exact Nat.pos_of_ne_zero (fun z => c1 (e2.mpr (Nat.le_of_eq z))) | exact Nat.le_zero.mp (Nat.not_lt.mp (fun z => c1 (e3.mpr z)))
theorem g_ifN_gt (tgt pc' : Nat) {a : Nat} {off : Int} (hd : decode md.2.2.1 pc = .ok (.ifCond .gt off, 3)) (ht : (pc : Int) + off = (tgt : Int)) (hp : pc + 3 = pc') (ha : a < 2147483648) (kt : 0 < a → G l D g ca md tgt lv st M Q) (kf : a = 0 → G l D g ca md pc' lv st M Q) : G l D g ca md pc lv (.int (nI a) :: st) M Q := by
  have e1 : nI a = 0 ↔ a = 0 := nI_eq ha (b := 0) (by decide)
  have e2 : nI a ≤ 0 ↔ a ≤ 0 := nI_leI ha (b := 0) (by decide)
  have e3 : 0 < nI a ↔ 0 < a := nI_ltI (a := 0) (by decide) ha
  refine g_if_gt tgt pc' hd ht hp (fun c1 => kt ?_) (fun c1 => kf ?_)
  · first | exact e1.mp c1 | exact Nat.pos_of_ne_zero (fun z => c1 (e1.mpr z)) | exact Nat.le_zero.mp (e2.mp c1) | exact e3.mp c1
  · first | exact e1.mp c1 | exact Nat.pos_of_ne_zero (fun z => c1 (e1.mpr z)) | exact Nat.pos_of_ne_zero (fun z => c1 (e2.mpr (Nat.le_of_eq z))) | exact Nat.le_zero.mp (Nat.not_lt.mp (fun z => c1 (e3.mpr z)))
theorem g_tableIn {dflt lo hi : Int} {offs : Array Int} {len : Nat} {x : Int32} {off : Int} (tgt : Nat) (hd : decode md.2.2.1 pc = .ok (.tableswitch dflt lo hi offs, len)) (h1 : ¬ x.toInt < lo) (h2 : ¬ hi < x.toInt) (ho : offs[(x.toInt - lo).toNat]? = some off) (ht : (pc : Int) + off = (tgt : Int)) (h : G l D g ca md tgt lv st M Q) : G l D g ca md pc lv (.int x :: st) M Q := by
  intro p e R s m args below meth c H locs cells slots A ls C0 hc1 hs1 hw hl
  exact lv_tableIn C0.1 C0.2.1 hd h1 h2 ho ht (h p e R s m args below meth c H locs cells slots A ls C0 hc1 hs1 hw hl)
theorem g_tableOut {dflt lo hi : Int} {offs : Array Int} {len : Nat} {x : Int32} (tgt : Nat) (hd : decode md.2.2.1 pc = .ok (.tableswitch dflt lo hi offs, len)) (h1 : x.toInt < lo ∨ hi < x.toInt) (ht : (pc : Int) + dflt = (tgt : Int)) (h : G l D g ca md tgt lv st M Q) : G l D g ca md pc lv (.int x :: st) M Q := by
  intro p e R s m args below meth c H locs cells slots A ls C0 hc1 hs1 hw hl
  exact lv_tableOut C0.1 C0.2.1 hd h1 ht (h p e R s m args below meth c H locs cells slots A ls C0 hc1 hs1 hw hl)
theorem g_iret {q : Int32 → Mm → Prop} {x : Int32} (hr : md.2.2.2.2.1 = some .int) (hd : decode md.2.2.1 pc = .ok (.ireturn, 1)) (h : q x M) : G l D g ca md pc lv [.int x] M (Ri q) := by
  intro p e R s m args below meth c H locs cells slots A ls C0 hc1 hs1 hw hl
  exact W.iret C0.1 C0.2.1 (C0.2.2.1.trans hr) (fun t ht hW => ⟨⟨_, M, rfl, ⟨x, rfl, h⟩, by rw [ht]; exact hw.1⟩, hw.2.2.1.F ht⟩) hw.2.2.1.2.2 hd C0.2.2.2.2.2.2.1
theorem g_zret {q : Int32 → Mm → Prop} {x : Int32} (hr : md.2.2.2.2.1 = some .boolean) (hd : decode md.2.2.1 pc = .ok (.ireturn, 1)) (hx : narrow .boolean (.int x) = .int x) (h : q x M) : G l D g ca md pc lv [.int x] M (Ri q) := by
  intro p e R s m args below meth c H locs cells slots A ls C0 hc1 hs1 hw hl
  exact W.zret C0.1 C0.2.1 (C0.2.2.1.trans hr) hx (fun t ht hW => ⟨⟨_, M, rfl, ⟨x, rfl, h⟩, by rw [ht]; exact hw.1⟩, hw.2.2.1.F ht⟩) hw.2.2.1.2.2 hd C0.2.2.2.2.2.2.1
theorem g_vret {q : Mm → Prop} (hr : md.2.2.2.2.1 = none) (hd : decode md.2.2.1 pc = .ok (.return_, 1)) (h : q M) : G l D g ca md pc lv [] M (Rv q) := by
  intro p e R s m args below meth c H locs cells slots A ls C0 hc1 hs1 hw hl
  exact W.vret C0.1 C0.2.1 (C0.2.2.1.trans hr) (fun t ht hW => ⟨⟨_, M, rfl, ⟨rfl, h⟩, by rw [ht]; exact hw.1⟩, hw.2.2.1.F ht⟩) hw.2.2.1.2.2 hd C0.2.2.2.2.2.2.1
theorem g_lret {q : Int64 → Mm → Prop} {x : Int64} (hr : md.2.2.2.2.1 = some .long) (hd : decode md.2.2.1 pc = .ok (.lreturn, 1)) (h : q x M) : G l D g ca md pc lv [.long x] M (Rl q) := by
  intro p e R s m args below meth c H locs cells slots A ls C0 hc1 hs1 hw hl
  exact W.lret C0.1 C0.2.1 (C0.2.2.1.trans hr) (fun t ht hW => ⟨⟨_, M, rfl, ⟨x, rfl, h⟩, by rw [ht]; exact hw.1⟩, hw.2.2.1.F ht⟩) hw.2.2.1.2.2 hd C0.2.2.2.2.2.2.1
/-- a field of the tables: entry idx of the class own's pool is slot k of class ci -/
def FK (own : String) (idx ci k : Nat) : Prop := ∃ (C : String) (T : u_T) (N : Nat) (ty0 : Nat → FieldType), vwCl[ci]? = some (C, T, N) ∧ k < N ∧ (∀ w ∈ u_ws C T N, w ∈ wsA) ∧ Cond.fieldLink own idx (T k).1 (T k).2.1 (T k).2.2.1 ∈ wsA ∧ (∀ k, k < N → parseFieldDescriptor (T k).2.2.1 = some (ty0 k)) ∧ (∀ a, a < N → ∀ b, b < N → a ≠ b → (T a).2.1 ≠ (T b).2.1)
/-- a field that may be put, of that type -/
def PK (ci k : Nat) (ty : FieldType) : Prop := ∀ (C : String) (T : u_T) (N : Nat), vwCl[ci]? = some (C, T, N) → (T k).2.2.2 = false ∧ parseFieldDescriptor (T k).2.2.1 = some ty
theorem g_getf (pc' : Nat) {idx ci k o : Nat} {d : Nat × Nat} (hd : decode md.2.2.1 pc = .ok (.getfield idx, 3)) (hp : pc + 3 = pc') (hf : FK md.1 idx ci k) (hk : kd o = ci) (hci : ci < 8) (ht : (ftab ci)[k]? = some d) (h : G l D g ca md pc' lv (fval g M o k d :: st) M Q) : G l D g ca md pc lv (.ref (g o 0) :: st) M Q := by
  subst hp
  obtain ⟨C, T, N, ty0, f1, f2, f3, f4, f5, f6⟩ := hf
  obtain ⟨k0, hk0⟩ := PL_at (c := 0) hk hci (Or.inl rfl)
  intro p e R s m args below meth c H locs cells slots A ls C0 hc1 hs1 hw hl
  exact va_get (D := D) (ci := ci) C0.1 C0.2.1 C0.2.2.2.2.2.1 f3 C0.2.2.2.2.1 C0.2.2.2.2.2.2.2.2.2 hw.1 k0 ((Wd_get hk0).trans (by rw [cellE_obj hk])) f1 k f2 (C0.2.2.2.2.2.1 _ f4) (fun _ z => z) (flds_get ht) hd (h p e R s m args below meth c H locs cells slots A ls C0 hc1 hs1 hw hl)
theorem g_get (pc' : Nat) {idx ci k o z : Nat} (v : Int32) (hd : decode md.2.2.1 pc = .ok (.getfield idx, 3)) (hp : pc + 3 = pc') (hf : FK md.1 idx ci k) (hk : kd o = ci) (hci : ci < 8) (ht : (ftab ci)[k]? = some (0, z)) (hv : M.1 o 0 k = v) (h : G l D g ca md pc' lv (.int v :: st) M Q) : G l D g ca md pc lv (.ref (g o 0) :: st) M Q :=
  g_getf pc' hd hp hf hk hci ht (by subst hv; exact h)
theorem g_geta (pc' : Nat) {idx ci k o z : Nat} (hd : decode md.2.2.1 pc = .ok (.getfield idx, 3)) (hp : pc + 3 = pc') (hf : FK md.1 idx ci k) (hk : kd o = ci) (hci : ci < 8) (ht : (ftab ci)[k]? = some (1, z)) (h : G l D g ca md pc' lv (.ref (g o (k + 1)) :: st) M Q) : G l D g ca md pc lv (.ref (g o 0) :: st) M Q :=
  g_getf pc' hd hp hf hk hci ht h
theorem g_geto (pc' : Nat) {idx ci k o z : Nat} (hd : decode md.2.2.1 pc = .ok (.getfield idx, 3)) (hp : pc + 3 = pc') (hf : FK md.1 idx ci k) (hk : kd o = ci) (hci : ci < 8) (ht : (ftab ci)[k]? = some (2, z)) (h : G l D g ca md pc' lv (.ref (g z 0) :: st) M Q) : G l D g ca md pc lv (.ref (g o 0) :: st) M Q :=
  g_getf pc' hd hp hf hk hci ht h
theorem g_gets (pc' : Nat) {idx ci k o z : Nat} (o2 : Nat) (hd : decode md.2.2.1 pc = .ok (.getfield idx, 3)) (hp : pc + 3 = pc') (hf : FK md.1 idx ci k) (hk : kd o = ci) (hci : ci < 8) (ht : (ftab ci)[k]? = some (3, z)) (hv : M.1 o 0 k = nI o2) (h2 : o2 < 2147483648) (h : G l D g ca md pc' lv (.ref (g o2 0) :: st) M Q) : G l D g ca md pc lv (.ref (g o 0) :: st) M Q :=
  g_getf pc' hd hp hf hk hci ht (by
    have e : fval g M o k (3, z) = .ref (g o2 0) := by show Value.ref (g (M.1 o 0 k).toNatClampNeg 0) = _; rw [hv, nI_clamp h2]
    rw [e]; exact h)
theorem g_getl (pc' : Nat) {idx ci k o z : Nat} (v : Int64) (hd : decode md.2.2.1 pc = .ok (.getfield idx, 3)) (hp : pc + 3 = pc') (hf : FK md.1 idx ci k) (hk : kd o = ci) (hci : ci < 8) (ht : (ftab ci)[k]? = some (4, z)) (hv : M.2 = v) (h : G l D g ca md pc' lv (.long v :: st) M Q) : G l D g ca md pc lv (.ref (g o 0) :: st) M Q :=
  g_getf pc' hd hp hf hk hci ht (by subst hv; exact h)
theorem g_putG (pc' : Nat) {idx ci k o : Nat} {v : Value} {ty : FieldType} (M' : Mm) (hd : decode md.2.2.1 pc = .ok (.putfield idx, 3)) (hp : pc + 3 = pc') (hf : FK md.1 idx ci k) (hpk : PK ci k ty) (hk : kd o = ci) (hci : ci < 8) (hl0 : k < (ftab ci).length) (hn : narrow ty v = v) (hfit : fits ty v = true)
    (hE : ∀ o' c', (c' = 0 ∨ (atab (kd o') c').isSome = true) → ¬ (o' = o ∧ c' = 0) → cellE g ca M' o' c' = cellE g ca M o' c') (hF : flds g M' o ci = (flds g M o ci).set k v) (h : G l D g ca md pc' lv st M' Q) : G l D g ca md pc lv (v :: .ref (g o 0) :: st) M Q := by
  subst hp
  obtain ⟨C, T, N, ty0, f1, f2, f3, f4, f5, f6⟩ := hf
  obtain ⟨p1, p2⟩ := hpk C T N f1
  obtain ⟨k0, hk0⟩ := PL_at (c := 0) hk hci (Or.inl rfl)
  intro p e R s m args below meth c H locs cells slots A ls C0 hc1 hs1 hw hl
  refine va_put (D := D) (ci := ci) C0.1 C0.2.1 C0.2.2.2.2.2.1 f3 ty0 f5 f6 C0.2.2.2.2.1 C0.2.2.2.2.2.2.2.2.2 hw.1 hw.2.1 hw.2.2.1 k0 ((Wd_get hk0).trans (by rw [cellE_obj hk])) f1 k f2 (C0.2.2.2.2.2.1 _ f4) (fun _ z => z) p1 p2 hn hfit (by unfold flds; rw [List.length_mapIdx]; exact hl0) hd (fun H1 locs1 hP1 hD1 hS1 => ?_)
  rw [← hF, ← cellE_obj (g := g) (ca := ca) (M := M') hk, Wd_set hk0 hE] at hP1
  exact h p e R s m args below meth c H1 locs1 cells slots A ls C0 hc1 hs1 ⟨hP1, Wd_D hw.2.1, hS1, hw.2.2.2⟩ hl
theorem g_put (pc' : Nat) {idx ci k o z : Nat} {x : Int32} (hd : decode md.2.2.1 pc = .ok (.putfield idx, 3)) (hp : pc + 3 = pc') (hf : FK md.1 idx ci k) (hpk : PK ci k .int) (hk : kd o = ci) (hci : ci < 8) (ht : (ftab ci)[k]? = some (0, z)) (h : G l D g ca md pc' lv st (wr M o 0 k x) Q) : G l D g ca md pc lv (.int x :: .ref (g o 0) :: st) M Q :=
  g_putG pc' (wr M o 0 k x) hd hp hf hpk hk hci (List.getElem?_eq_some_iff.mp ht).1 rfl rfl (fun o' c' => cellE_wr) (flds_wr ht (congrArg Value.int wr_eq)) h
theorem g_puts (pc' : Nat) {idx ci k o z o2 : Nat} {C2 : String} (hd : decode md.2.2.1 pc = .ok (.putfield idx, 3)) (hp : pc + 3 = pc') (hf : FK md.1 idx ci k) (hpk : PK ci k (.object C2)) (hk : kd o = ci) (hci : ci < 8) (ht : (ftab ci)[k]? = some (3, z)) (h2 : o2 < 2147483648) (h : G l D g ca md pc' lv st (wr M o 0 k (nI o2)) Q) : G l D g ca md pc lv (.ref (g o2 0) :: .ref (g o 0) :: st) M Q :=
  g_putG pc' (wr M o 0 k (nI o2)) hd hp hf hpk hk hci (List.getElem?_eq_some_iff.mp ht).1 rfl rfl (fun o' c' => cellE_wr) (flds_wr ht (by show Value.ref (g ((wr M o 0 k (nI o2)).1 o 0 k).toNatClampNeg 0) = _; rw [wr_eq, nI_clamp h2])) h
theorem fval_lt {M' : Mm} {k o : Nat} {d : Nat × Nat} (h : M'.1 = M.1) (hd : d.1 < 4) : fval g M' o k d = fval g M o k d := by
  obtain ⟨d1, d2⟩ := d
  match d1, hd with
  | 0, _ => show Value.int (M'.1 o 0 k) = Value.int (M.1 o 0 k); rw [h]
  | 1, _ => rfl
  | 2, _ => rfl
  | 3, _ => show Value.ref (g (M'.1 o 0 k).toNatClampNeg 0) = Value.ref (g (M.1 o 0 k).toNatClampNeg 0); rw [h]
  | d1 + 4, hd => exact absurd hd (by show ¬ (d1 + 4 < 4); omega)
theorem ftab7 : ∀ i : Fin 28, ((ftab 7)[i.val]?).all (fun q => decide (q.1 < 4) || decide (i.val = 10)) = true := by decide
theorem flds_lg {o : Nat} {x : Int64} : flds g (M.1, x) o 7 = (flds g M o 7).set 10 (.long x) := by
  apply List.ext_getElem?
  intro i
  have hl : 10 < (flds g M o 7).length := by
    unfold flds; rw [List.length_mapIdx]; decide
  by_cases hi : i = 10
  · subst hi
    rw [List.getElem?_set_self hl]
    exact flds_get (d := (4, 0)) rfl
  · rw [List.getElem?_set_ne (Ne.symm hi)]
    unfold flds
    rw [List.getElem?_mapIdx, List.getElem?_mapIdx]
    cases hq : (ftab 7)[i]? with
    | none => rfl
    | some q =>
      have hlt : i < 28 := (List.getElem?_eq_some_iff.mp hq).1
      have h7 := ftab7 ⟨i, hlt⟩
      rw [hq] at h7
      have h8 : (decide (q.1 < 4) || decide (i = 10)) = true := h7
      rw [decide_eq_false hi, Bool.or_false] at h8
      exact congrArg some (fval_lt rfl (of_decide_eq_true h8))
theorem g_putl (pc' : Nat) {idx : Nat} {x : Int64} (hd : decode md.2.2.1 pc = .ok (.putfield idx, 3)) (hp : pc + 3 = pc') (hf : FK md.1 idx 7 10) (hpk : PK 7 10 .long) (h : G l D g ca md pc' lv st (M.1, x) Q) : G l D g ca md pc lv (.long x :: .ref (g 18 0) :: st) M Q :=
  g_putG pc' (M.1, x) hd hp hf hpk (by decide) (by decide) (by decide) rfl rfl (fun o' c' z1 z2 => cellE_lg z2 z1) flds_lg h
theorem g_ialdI (pc' : Nat) {ci o c n : Nat} {i : Int32} (v : Int32) (hd : decode md.2.2.1 pc = .ok (.iaload, 1)) (hp : pc + 1 = pc') (hk : kd o = ci) (hci : ci < 8) (ha : atab ci c = some (0, n)) (hin : vp_in i n) (hv : M.1 o c i.toNatClampNeg = v) (h : G l D g ca md pc' lv (.int v :: st) M Q) : G l D g ca md pc lv (.int i :: .ref (g o c) :: st) M Q := by
  subst hp; subst hv
  obtain ⟨k0, hk0⟩ := PL_at (c := c) hk hci (Or.inr (by rw [ha]; rfl))
  have c0 := hd
  intro p e R s m args below meth cd H locs cells slots A ls C0 hc1 hs1 hw hl
  exact va_iald C0.1 C0.2.1 C0.2.2.2.2.2.2.2.2.2 hw.1 k0 0 ((Wd_get hk0).trans (by rw [cellE_arr hk ha (by decide)])) rfl hin hd (h p e R s m args below meth cd H locs cells slots A ls C0 hc1 hs1 hw hl)
theorem g_iald (pc' : Nat) {ci o c n k : Nat} (v : Int32) (hd : decode md.2.2.1 pc = .ok (.iaload, 1)) (hp : pc + 1 = pc') (hk : kd o = ci) (hci : ci < 8) (ha : atab ci c = some (0, n)) (hn : n < 2147483648) (hin : k < n) (hv : M.1 o c k = v) (h : G l D g ca md pc' lv (.int v :: st) M Q) : G l D g ca md pc lv (.int (nI k) :: .ref (g o c) :: st) M Q :=
  g_ialdI pc' v hd hp hk hci ha (vp_in_nI hin hn) (by rw [nI_clamp (Nat.lt_trans hin hn)]; exact hv) h
theorem g_baldI (pc' : Nat) {ci o c n : Nat} {i : Int32} (v : Int32) (hd : decode md.2.2.1 pc = .ok (.baload, 1)) (hp : pc + 1 = pc') (hk : kd o = ci) (hci : ci < 8) (ha : atab ci c = some (1, n)) (hin : vp_in i n) (hv : M.1 o c i.toNatClampNeg = v) (h : G l D g ca md pc' lv (.int v :: st) M Q) : G l D g ca md pc lv (.int i :: .ref (g o c) :: st) M Q := by
  subst hp; subst hv
  obtain ⟨k0, hk0⟩ := PL_at (c := c) hk hci (Or.inr (by rw [ha]; rfl))
  have c0 := hd
  intro p e R s m args below meth cd H locs cells slots A ls C0 hc1 hs1 hw hl
  exact va_bald C0.1 C0.2.1 C0.2.2.2.2.2.2.2.2.2 hw.1 k0 1 ((Wd_get hk0).trans (by rw [cellE_arr hk ha (by decide)])) rfl hin hd (h p e R s m args below meth cd H locs cells slots A ls C0 hc1 hs1 hw hl)
theorem g_bald (pc' : Nat) {ci o c n k : Nat} (v : Int32) (hd : decode md.2.2.1 pc = .ok (.baload, 1)) (hp : pc + 1 = pc') (hk : kd o = ci) (hci : ci < 8) (ha : atab ci c = some (1, n)) (hn : n < 2147483648) (hin : k < n) (hv : M.1 o c k = v) (h : G l D g ca md pc' lv (.int v :: st) M Q) : G l D g ca md pc lv (.int (nI k) :: .ref (g o c) :: st) M Q :=
  g_baldI pc' v hd hp hk hci ha (vp_in_nI hin hn) (by rw [nI_clamp (Nat.lt_trans hin hn)]; exact hv) h
theorem g_zaldI (pc' : Nat) {ci o c n : Nat} {i : Int32} (v : Int32) (hd : decode md.2.2.1 pc = .ok (.baload, 1)) (hp : pc + 1 = pc') (hk : kd o = ci) (hci : ci < 8) (ha : atab ci c = some (2, n)) (hin : vp_in i n) (hv : M.1 o c i.toNatClampNeg = v) (h : G l D g ca md pc' lv (.int v :: st) M Q) : G l D g ca md pc lv (.int i :: .ref (g o c) :: st) M Q := by
  subst hp; subst hv
  obtain ⟨k0, hk0⟩ := PL_at (c := c) hk hci (Or.inr (by rw [ha]; rfl))
  have c0 := hd
  intro p e R s m args below meth cd H locs cells slots A ls C0 hc1 hs1 hw hl
  exact va_zald C0.1 C0.2.1 C0.2.2.2.2.2.2.2.2.2 hw.1 k0 2 ((Wd_get hk0).trans (by rw [cellE_arr hk ha (by decide)])) rfl hin hd (h p e R s m args below meth cd H locs cells slots A ls C0 hc1 hs1 hw hl)
theorem g_zald (pc' : Nat) {ci o c n k : Nat} (v : Int32) (hd : decode md.2.2.1 pc = .ok (.baload, 1)) (hp : pc + 1 = pc') (hk : kd o = ci) (hci : ci < 8) (ha : atab ci c = some (2, n)) (hn : n < 2147483648) (hin : k < n) (hv : M.1 o c k = v) (h : G l D g ca md pc' lv (.int v :: st) M Q) : G l D g ca md pc lv (.int (nI k) :: .ref (g o c) :: st) M Q :=
  g_zaldI pc' v hd hp hk hci ha (vp_in_nI hin hn) (by rw [nI_clamp (Nat.lt_trans hin hn)]; exact hv) h
theorem g_iastI (pc' : Nat) {ci o c n : Nat} {i x : Int32} (hd : decode md.2.2.1 pc = .ok (.iastore, 1)) (hp : pc + 1 = pc') (hk : kd o = ci) (hci : ci < 8) (ha : atab ci c = some (0, n)) (hin : vp_in i n) (h : G l D g ca md pc' lv st (wr M o c i.toNatClampNeg (x)) Q) : G l D g ca md pc lv (.int x :: .int i :: .ref (g o c) :: st) M Q := by
  subst hp
  obtain ⟨k0, hk0⟩ := PL_at (c := c) hk hci (Or.inr (by rw [ha]; rfl))
  intro p e R s m args below meth cd H locs cells slots A ls C0 hc1 hs1 hw hl
  refine va_iast C0.1 C0.2.1 C0.2.2.2.2.2.2.2.2.2 hw.1 hw.2.1 hw.2.2.1 k0 0 ((Wd_get hk0).trans (by rw [cellE_arr hk ha (by decide)])) rfl hin hd (fun H1 locs1 hP1 hD1 hS1 => ?_)
  have eE : (Sum.inl (ca 0, n, Sum.inl (upd (M.1 o c) i.toNatClampNeg (x))) : va_E) = cellE g ca (wr M o c i.toNatClampNeg (x)) o c := by
    rw [cellE_arr hk ha (by decide)]
    congr 4
    funext j
    rw [wr_at]
    unfold upd
    by_cases hj : j = i.toNatClampNeg
    · simp [hj]
    · simp [hj]
  rw [eE, Wd_set hk0 (fun o' c' => cellE_wr)] at hP1
  exact h p e R s m args below meth cd H1 locs1 cells slots A ls C0 hc1 hs1 ⟨hP1, Wd_D hw.2.1, hS1, hw.2.2.2⟩ hl
theorem g_iast (pc' : Nat) {ci o c n k : Nat} {x : Int32} (hd : decode md.2.2.1 pc = .ok (.iastore, 1)) (hp : pc + 1 = pc') (hk : kd o = ci) (hci : ci < 8) (ha : atab ci c = some (0, n)) (hn : n < 2147483648) (hin : k < n) (h : G l D g ca md pc' lv st (wr M o c k (x)) Q) : G l D g ca md pc lv (.int x :: .int (nI k) :: .ref (g o c) :: st) M Q :=
  g_iastI pc' hd hp hk hci ha (vp_in_nI hin hn) (by rw [nI_clamp (Nat.lt_trans hin hn)]; exact h)
theorem g_bastI (pc' : Nat) {ci o c n : Nat} {i x : Int32} (hd : decode md.2.2.1 pc = .ok (.bastore, 1)) (hp : pc + 1 = pc') (hk : kd o = ci) (hci : ci < 8) (ha : atab ci c = some (1, n)) (hin : vp_in i n) (h : G l D g ca md pc' lv st (wr M o c i.toNatClampNeg (vp_nar .byte x)) Q) : G l D g ca md pc lv (.int x :: .int i :: .ref (g o c) :: st) M Q := by
  subst hp
  obtain ⟨k0, hk0⟩ := PL_at (c := c) hk hci (Or.inr (by rw [ha]; rfl))
  intro p e R s m args below meth cd H locs cells slots A ls C0 hc1 hs1 hw hl
  refine va_bast C0.1 C0.2.1 C0.2.2.2.2.2.2.2.2.2 hw.1 hw.2.1 hw.2.2.1 k0 1 ((Wd_get hk0).trans (by rw [cellE_arr hk ha (by decide)])) rfl hin hd (fun H1 locs1 hP1 hD1 hS1 => ?_)
  have eE : (Sum.inl (ca 1, n, Sum.inl (upd (M.1 o c) i.toNatClampNeg (vp_nar .byte x))) : va_E) = cellE g ca (wr M o c i.toNatClampNeg (vp_nar .byte x)) o c := by
    rw [cellE_arr hk ha (by decide)]
    congr 4
    funext j
    rw [wr_at]
    unfold upd
    by_cases hj : j = i.toNatClampNeg
    · simp [hj]
    · simp [hj]
  rw [eE, Wd_set hk0 (fun o' c' => cellE_wr)] at hP1
  exact h p e R s m args below meth cd H1 locs1 cells slots A ls C0 hc1 hs1 ⟨hP1, Wd_D hw.2.1, hS1, hw.2.2.2⟩ hl
theorem g_bast (pc' : Nat) {ci o c n k : Nat} {x : Int32} (hd : decode md.2.2.1 pc = .ok (.bastore, 1)) (hp : pc + 1 = pc') (hk : kd o = ci) (hci : ci < 8) (ha : atab ci c = some (1, n)) (hn : n < 2147483648) (hin : k < n) (h : G l D g ca md pc' lv st (wr M o c k (vp_nar .byte x)) Q) : G l D g ca md pc lv (.int x :: .int (nI k) :: .ref (g o c) :: st) M Q :=
  g_bastI pc' hd hp hk hci ha (vp_in_nI hin hn) (by rw [nI_clamp (Nat.lt_trans hin hn)]; exact h)
theorem g_zastI (pc' : Nat) {ci o c n : Nat} {i x : Int32} (hd : decode md.2.2.1 pc = .ok (.bastore, 1)) (hp : pc + 1 = pc') (hk : kd o = ci) (hci : ci < 8) (ha : atab ci c = some (2, n)) (hin : vp_in i n) (hx : x = 0 ∨ x = 1) (h : G l D g ca md pc' lv st (wr M o c i.toNatClampNeg (x)) Q) : G l D g ca md pc lv (.int x :: .int i :: .ref (g o c) :: st) M Q := by
  subst hp
  obtain ⟨k0, hk0⟩ := PL_at (c := c) hk hci (Or.inr (by rw [ha]; rfl))
  intro p e R s m args below meth cd H locs cells slots A ls C0 hc1 hs1 hw hl
  refine va_zast C0.1 C0.2.1 C0.2.2.2.2.2.2.2.2.2 hw.1 hw.2.1 hw.2.2.1 k0 2 ((Wd_get hk0).trans (by rw [cellE_arr hk ha (by decide)])) rfl hin hd (fun H1 locs1 hP1 hD1 hS1 => ?_)
  have eE : (Sum.inl (ca 2, n, Sum.inl (upd (M.1 o c) i.toNatClampNeg (vp_nar .boolean x))) : va_E) = cellE g ca (wr M o c i.toNatClampNeg (x)) o c := by
    rw [cellE_arr hk ha (by decide)]
    congr 4
    funext j
    rw [wr_at]
    unfold upd
    by_cases hj : j = i.toNatClampNeg
    · rw [if_pos hj, if_pos ⟨rfl, rfl, hj⟩]; rcases hx with rfl | rfl <;> rfl
    · simp [hj]
  rw [eE, Wd_set hk0 (fun o' c' => cellE_wr)] at hP1
  exact h p e R s m args below meth cd H1 locs1 cells slots A ls C0 hc1 hs1 ⟨hP1, Wd_D hw.2.1, hS1, hw.2.2.2⟩ hl
theorem g_zast (pc' : Nat) {ci o c n k : Nat} {x : Int32} (hd : decode md.2.2.1 pc = .ok (.bastore, 1)) (hp : pc + 1 = pc') (hk : kd o = ci) (hci : ci < 8) (ha : atab ci c = some (2, n)) (hn : n < 2147483648) (hin : k < n) (hx : x = 0 ∨ x = 1) (h : G l D g ca md pc' lv st (wr M o c k (x)) Q) : G l D g ca md pc lv (.int x :: .int (nI k) :: .ref (g o c) :: st) M Q :=
  g_zastI pc' hd hp hk hci ha (vp_in_nI hin hn) hx (by rw [nI_clamp (Nat.lt_trans hin hn)]; exact h)
theorem g_alen (pc' : Nat) {ci o c t n : Nat} (hd : decode md.2.2.1 pc = .ok (.arraylength, 1)) (hp : pc + 1 = pc') (hk : kd o = ci) (hci : ci < 8) (ha : atab ci c = some (t, n)) (ht : t < 3) (h : G l D g ca md pc' lv (.int (nI n) :: st) M Q) : G l D g ca md pc lv (.ref (g o c) :: st) M Q := by
  subst hp
  obtain ⟨k0, hk0⟩ := PL_at (c := c) hk hci (Or.inr (by rw [ha]; rfl))
  intro p e R s m args below meth cd H locs cells slots A ls C0 hc1 hs1 hw hl
  have hty : ∃ ty, (tyl ca)[t]? = some (ca t, ty) := by
    match t, ht with
    | 0, _ => exact ⟨_, rfl⟩
    | 1, _ => exact ⟨_, rfl⟩
    | 2, _ => exact ⟨_, rfl⟩
  obtain ⟨ty, hty⟩ := hty
  exact va_alen (x := (n, .inl (M.1 o c))) C0.1 C0.2.1 C0.2.2.2.2.2.2.2.2.2 hw.1 k0 t ((Wd_get hk0).trans (by rw [cellE_arr hk ha (by omega)])) hty rfl hd (h p e R s m args below meth cd H locs cells slots A ls C0 hc1 hs1 hw hl)
theorem g_aald (pc' : Nat) {o k : Nat} (hd : decode md.2.2.1 pc = .ok (.aaload, 1)) (hp : pc + 1 = pc') (hk : kd o = 0) (hin : k < 10) (h : G l D g ca md pc' lv (.ref (g (2 + k) 0) :: st) M Q) : G l D g ca md pc lv (.int (nI k) :: .ref (g o 1) :: st) M Q := by
  subst hp
  obtain ⟨k0, hk0⟩ := PL_at (c := 1) hk (by decide) (Or.inr rfl)
  intro p e R s m args below meth c H locs cells slots A ls C0 hc1 hs1 hw hl
  refine va_aldq (f := fun i => some (g (2 + i) 0)) C0.1 C0.2.1 C0.2.2.2.2.2.2.2.2.2 hw.1 k0 3 (cA := ca 3) (n := 10) ((Wd_get hk0).trans (by unfold cellE; rw [hk]; rfl)) rfl (vp_in_nI hin (by decide)) hd ?_
  rw [nI_clamp (by omega)]
  exact (h p e R s m args below meth c H locs cells slots A ls C0 hc1 hs1 hw hl)
/-- a call's edge, by the tables' words: receiver's class ci, n parameters -/
def EV (md md' : Md) (idx ci n : Nat) : Prop := Cond.methodLink md.1 idx md'.2.1 ∈ wsA ∧ Cond.instanceMethod md'.2.1 ∈ wsA ∧ Cond.selects md'.1 md'.2.1 md'.2.1 ∈ wsA ∧ Cond.initialized md'.1 ∈ wsA ∧ Cond.code md'.2.1 md'.2.2.1 md'.2.2.2.1 md'.2.2.2.2.1 ∈ wsA ∧
  (md'.2.1.cls = md'.1 ∧ md'.2.1.cls ≠ "java/lang/invoke/MethodHandle" ∧ md'.2.1.cls ≠ "java/lang/invoke/VarHandle" ∧ (parseMethodDescriptor md'.2.1.desc).map (fun d => d.parameters.length) = some n) ∧ (md'.2.2.2.2.2.1 + 1 ≤ md.2.2.2.2.2.1 ∧ 8 + (md'.2.2.2.1 + 11) + md'.2.2.2.2.2.2 ≤ md.2.2.2.2.2.2) ∧ (∃ q : vw_C, vwCl[ci]? = some q ∧ q.1 = md'.1)
def ES (md md' : Md) (idx n : Nat) : Prop := Cond.methodLink md.1 idx md'.2.1 ∈ wsA ∧ Cond.static md'.2.1 ∈ wsA ∧ Cond.initialized md'.1 ∈ wsA ∧ Cond.code md'.2.1 md'.2.2.1 md'.2.2.2.1 md'.2.2.2.2.1 ∈ wsA ∧
  (md'.2.1.cls = md'.1 ∧ md'.2.1.cls ≠ "java/lang/invoke/MethodHandle" ∧ md'.2.1.cls ≠ "java/lang/invoke/VarHandle" ∧ (parseMethodDescriptor md'.2.1.desc).map (fun d => d.parameters.length) = some n) ∧ (md'.2.2.2.2.2.1 + 1 ≤ md.2.2.2.2.2.1 ∧ 8 + (md'.2.2.2.1 + 11) + md'.2.2.2.2.2.2 ≤ md.2.2.2.2.2.2)
theorem w_in {md' : Md} (hc : Cond.code md'.2.1 md'.2.2.1 md'.2.2.2.1 md'.2.2.2.2.1 ∈ wsA) : GoodIn wsA (.code md'.2.1 md'.2.2.1 md'.2.2.2.1 md'.2.2.2.2.1 :: wsA) := by
  intro w hw
  have h1 : w ∈ wsA := by
    rcases List.mem_cons.mp hw with rfl | h
    · exact hc
    · exact h
  exact ⟨h1, good_of_word (List.all_eq_true.mp ws_good w h1)⟩
theorem pre_blind {as : List Value} {sz : Nat} : FrameBlind (va_Pc as (fun U => U.heap.size = sz ∧ va_P D vwCl (Wd g ca M) U.heap ∧ va_K D vwCl (tyl ca) U ∧ va_D (fun _ => True) (Wd g ca M))) := by
  intro a U gg mk q
  obtain ⟨q0, q1, qP, qK, qD⟩ := q
  exact ⟨q0, q1, qP, va_K.moved (u := U) (U := U.calling gg mk a) (Vm.Alike.refl U.vm) qK, qD⟩
theorem run_G {p : Program} {e : Env} {R : Room} {s : State} {m : MethodId} {args : Array Value} {below : List Frame} {meth : Method} {c : Code} {H : Heap} {locs : List Loc} {cells slots : Nat} {A : Nat → Prop} {ls : Array Slot} {st0 : List Value} {a : Array Value} {Q1 : Option Value → Mm → Prop}
    (hr : va_Run p l e R s m args below meth c H locs cells slots 0 0 (F0 m pc ls st0) st (Qm D g ca Q1 (va_A (Wd g ca M) H.size) a) (va_A (Wd g ca M) H.size)) (C0 : Cx D ca md p R s m args meth c) (hc1 : cells ≤ R.cells) (hs1 : slots ≤ R.slots) (hw : Wl D g ca A s M H locs) (hl : lv_has ls md.2.2.2.1 lv)
    (h : ∀ v M1, Q1 v M1 → G l D g ca md (pc + 3) lv (v.toList ++ st) M1 Q) : W p l e R s m args below meth c H locs cells slots (MQ below (Qm D g ca Q A) args s cells slots A) (F0 m pc ls st0) := by
  obtain ⟨hP, hD, hS, hA⟩ := hw
  have hF : ∀ q, va_A (Wd g ca M) H.size q → A q := by
    intro q hq
    rcases hq with ⟨k, e, hk⟩ | hq
    · exact hD.2 k (q, e) hk
    · exact hA q (Nat.le_trans hS.1 hq)
  intro T hT X
  obtain ⟨v, st₀, t, T', L, h0, X', hL, e1, e2, ⟨⟨v1, u, hv, hp, hb⟩, hz, hk⟩, stp⟩ := hr T hT X
  cases hv
  rw [h0] at hz hk
  obtain ⟨t2, a1, b1⟩ := h v u hp p e R s m args below meth c T'.heap (locs ++ L) cells slots A ls C0 hc1 hs1 ⟨by rw [e1]; exact hb, Wd_D hD, ⟨Nat.le_trans hS.1 (by rw [e1]; exact hz), fun q h1 h2 => by rw [e1, hk q (Nat.lt_of_lt_of_le h1 hS.1) (fun z => h2 (hF q z))]; exact hS.2.1 q h1 h2, fun q hq => by
      rcases List.mem_append.mp hq with h | h
      · exact hS.2.2 q h
      · exact hF _ (hL q h)⟩, hA⟩ hl T' rfl X'
  exact ⟨t2, stp t2 a1, b1⟩
theorem g_callV (pc' : Nat) (md' : Md) {idx ci n o : Nat} {st0 : List Value} (as : List Value) (st : List Value) {Q1 : Option Value → Mm → Prop} (hd : decode md.2.2.1 pc = .ok (.invokevirtual idx, 3)) (hp : pc + 3 = pc') (he : EV md md' idx ci n) (hk : kd o = ci) (hci : ci < 8) (hn : as.length = n) (hst : st0 = as.reverse ++ .ref (g o 0) :: st) (hst2 : (st.map fun v => v.category).sum ≤ 8) (hc : Ct l D g ca md' (.ref (g o 0) :: as) M Q1) (h : ∀ v M1, Q1 v M1 → G l D g ca md pc' lv (v.toList ++ st) M1 Q) : G l D g ca md pc lv st0 M Q := by
  subst hp
  obtain ⟨e1, e2, e3, e4, e5, e6, e7, q, e8, e9⟩ := he
  obtain ⟨k0, hk0⟩ := PL_at (c := 0) hk hci (Or.inl rfl)
  intro p e R s m args below meth c H locs cells slots A ls C0 hc1 hs1 hw hl
  have hts := C0.2.2.2.2.2.1
  refine run_G (a := (Value.ref (g o 0) :: as).toArray) (va_runV (C := md'.1) (n := n) ⟨C0.1, C0.2.1, C0.2.2.2.1, C0.2.2.2.2.1, hts⟩ (hc H.size) ⟨callB_of n hts (w_in e5) rfl rfl rfl (by rw [e6.1]; exact hts _ e4) (hts _ e1) e6.2 ⟨Nat.le_trans e7.1 C0.2.2.2.2.2.2.2.1, Nat.le_trans e7.2 C0.2.2.2.2.2.2.2.2.1⟩, hts _ e2, hts _ e3⟩ ⟨pre_blind, ?_, ?_⟩ rfl hn (hl.1) hst (lv_room hst2) hd ⟨hc1, hs1⟩) C0 hc1 hs1 hw hl h
  · rw [← e9]
    exact va_recv C0.2.2.2.2.2.2.2.2.2 hw.1 e8 ((Wd_get hk0).trans (by rw [cellE_obj hk]))
  · intro U hU hW
    exact ⟨rfl, by rw [hU], by rw [hU]; exact hw.1, va_K.moved hW.alike C0.2.2.2.2.2.2.2.2.2, hw.2.1.weaken (fun _ _ _ _ => trivial)⟩
theorem g_callS (pc' : Nat) (md' : Md) {idx n : Nat} {st0 : List Value} (as : List Value) (st : List Value) {Q1 : Option Value → Mm → Prop} (hd : decode md.2.2.1 pc = .ok (.invokestatic idx, 3)) (hp : pc + 3 = pc') (he : ES md md' idx n) (hn : as.length = n) (hst : st0 = as.reverse ++ st) (hst2 : (st.map fun v => v.category).sum ≤ 8) (hc : Ct l D g ca md' as M Q1) (h : ∀ v M1, Q1 v M1 → G l D g ca md pc' lv (v.toList ++ st) M1 Q) : G l D g ca md pc lv st0 M Q := by
  subst hp
  obtain ⟨e1, e2, e4, e5, e6, e7⟩ := he
  intro p e R s m args below meth c H locs cells slots A ls C0 hc1 hs1 hw hl
  have hts := C0.2.2.2.2.2.1
  refine run_G (a := as.toArray) (va_runS (n := n) ⟨C0.1, C0.2.1, C0.2.2.2.1, C0.2.2.2.2.1, hts⟩ (hc H.size) ⟨callB_of n hts (w_in e5) rfl rfl rfl (by rw [e6.1]; exact hts _ e4) (hts _ e1) e6.2 ⟨Nat.le_trans e7.1 C0.2.2.2.2.2.2.2.1, Nat.le_trans e7.2 C0.2.2.2.2.2.2.2.2.1⟩, hts _ e2⟩ ⟨pre_blind, ?_⟩ rfl hn (hl.1) hst (lv_room hst2) hd ⟨hc1, hs1⟩) C0 hc1 hs1 hw hl h
  intro U hU hW
  exact ⟨rfl, by rw [hU], by rw [hU]; exact hw.1, va_K.moved hW.alike C0.2.2.2.2.2.2.2.2.2, hw.2.1.weaken (fun _ _ _ _ => trivial)⟩
theorem g_callVi (pc' : Nat) (md' : Md) {idx ci n o : Nat} {st0 : List Value} (as : List Value) (st : List Value) {q : Int32 → Mm → Prop} (hd : decode md.2.2.1 pc = .ok (.invokevirtual idx, 3)) (hp : pc + 3 = pc') (he : EV md md' idx ci n) (hk : kd o = ci) (hci : ci < 8) (hn : as.length = n) (hst : st0 = as.reverse ++ .ref (g o 0) :: st) (hst2 : (st.map fun v => v.category).sum ≤ 8) (hc : Ct l D g ca md' (.ref (g o 0) :: as) M (Ri q)) (h : ∀ r M1, q r M1 → G l D g ca md pc' lv (.int r :: st) M1 Q) : G l D g ca md pc lv st0 M Q :=
  g_callV pc' md' as st hd hp he hk hci hn hst hst2 hc (fun v M1 z => by obtain ⟨r, rfl, z⟩ := z; exact h r M1 z)
theorem g_callVv (pc' : Nat) (md' : Md) {idx ci n o : Nat} {st0 : List Value} (as : List Value) (st : List Value) {q : Mm → Prop} (hd : decode md.2.2.1 pc = .ok (.invokevirtual idx, 3)) (hp : pc + 3 = pc') (he : EV md md' idx ci n) (hk : kd o = ci) (hci : ci < 8) (hn : as.length = n) (hst : st0 = as.reverse ++ .ref (g o 0) :: st) (hst2 : (st.map fun v => v.category).sum ≤ 8) (hc : Ct l D g ca md' (.ref (g o 0) :: as) M (Rv q)) (h : ∀ M1, q M1 → G l D g ca md pc' lv st M1 Q) : G l D g ca md pc lv st0 M Q :=
  g_callV pc' md' as st hd hp he hk hci hn hst hst2 hc (fun v M1 z => by obtain ⟨rfl, z⟩ := z; exact h M1 z)
theorem g_callVl (pc' : Nat) (md' : Md) {idx ci n o : Nat} {st0 : List Value} (as : List Value) (st : List Value) {q : Int64 → Mm → Prop} (hd : decode md.2.2.1 pc = .ok (.invokevirtual idx, 3)) (hp : pc + 3 = pc') (he : EV md md' idx ci n) (hk : kd o = ci) (hci : ci < 8) (hn : as.length = n) (hst : st0 = as.reverse ++ .ref (g o 0) :: st) (hst2 : (st.map fun v => v.category).sum ≤ 8) (hc : Ct l D g ca md' (.ref (g o 0) :: as) M (Rl q)) (h : ∀ r M1, q r M1 → G l D g ca md pc' lv (.long r :: st) M1 Q) : G l D g ca md pc lv st0 M Q :=
  g_callV pc' md' as st hd hp he hk hci hn hst hst2 hc (fun v M1 z => by obtain ⟨r, rfl, z⟩ := z; exact h r M1 z)
theorem g_callSi (pc' : Nat) (md' : Md) {idx n : Nat} {st0 : List Value} (as : List Value) (st : List Value) {q : Int32 → Mm → Prop} (hd : decode md.2.2.1 pc = .ok (.invokestatic idx, 3)) (hp : pc + 3 = pc') (he : ES md md' idx n) (hn : as.length = n) (hst : st0 = as.reverse ++ st) (hst2 : (st.map fun v => v.category).sum ≤ 8) (hc : Ct l D g ca md' as M (Ri q)) (h : ∀ r M1, q r M1 → G l D g ca md pc' lv (.int r :: st) M1 Q) : G l D g ca md pc lv st0 M Q :=
  g_callS pc' md' as st hd hp he hn hst hst2 hc (fun v M1 z => by obtain ⟨r, rfl, z⟩ := z; exact h r M1 z)
theorem g_callSv (pc' : Nat) (md' : Md) {idx n : Nat} {st0 : List Value} (as : List Value) (st : List Value) {q : Mm → Prop} (hd : decode md.2.2.1 pc = .ok (.invokestatic idx, 3)) (hp : pc + 3 = pc') (he : ES md md' idx n) (hn : as.length = n) (hst : st0 = as.reverse ++ st) (hst2 : (st.map fun v => v.category).sum ≤ 8) (hc : Ct l D g ca md' as M (Rv q)) (h : ∀ M1, q M1 → G l D g ca md pc' lv st M1 Q) : G l D g ca md pc lv st0 M Q :=
  g_callS pc' md' as st hd hp he hn hst hst2 hc (fun v M1 z => by obtain ⟨rfl, z⟩ := z; exact h M1 z)
theorem g_callSl (pc' : Nat) (md' : Md) {idx n : Nat} {st0 : List Value} (as : List Value) (st : List Value) {q : Int64 → Mm → Prop} (hd : decode md.2.2.1 pc = .ok (.invokestatic idx, 3)) (hp : pc + 3 = pc') (he : ES md md' idx n) (hn : as.length = n) (hst : st0 = as.reverse ++ st) (hst2 : (st.map fun v => v.category).sum ≤ 8) (hc : Ct l D g ca md' as M (Rl q)) (h : ∀ r M1, q r M1 → G l D g ca md pc' lv (.long r :: st) M1 Q) : G l D g ca md pc lv st0 M Q :=
  g_callS pc' md' as st hd hp he hn hst hst2 hc (fun v M1 z => by obtain ⟨r, rfl, z⟩ := z; exact h r M1 z)
theorem g_lcmp (pc' : Nat) {x y : Int64} (v : Int32) (hd : decode md.2.2.1 pc = .ok (.lcmp, 1)) (hp : pc + 1 = pc') (hv : lg_cmp x y = v) (h : G l D g ca md pc' lv (.int v :: st) M Q) : G l D g ca md pc lv (.long y :: .long x :: st) M Q := by
  subst hp
  intro p e R s m args below meth c H locs cells slots A ls C0 hc1 hs1 hw hl
  subst hv
  exact W.lcmp C0.1 C0.2.1 hd (h p e R s m args below meth c H locs cells slots A ls C0 hc1 hs1 hw hl)
end GL
end
