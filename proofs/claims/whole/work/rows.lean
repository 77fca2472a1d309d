section
-- ===== PART A: goes FIRST, ahead of the names: the tables' words, and 'selects' of the private methods out of them =====
/-- a private method of a class that the tables say can be made, by its rows of tables_1 -/
def lw_okq (q : MethodName × Nat) : Prop := (q.1.cls ≠ "java/lang/invoke/MethodHandle" ∧ q.1.cls ≠ "java/lang/invoke/VarHandle") ∧ Cond.instantiable q.1.cls q.2 ∈ tables_1 ∧ Cond.privateMethod q.1 ∈ tables_1 ∧ Cond.instanceMethod q.1 ∈ tables_1
theorem lw_p0 : lw_okq (⟨"ArchiveBench$Packer", "appendRecord", "(LArchiveBench$WaitingFile;)V"⟩, 3) := ⟨⟨by decide +kernel, by decide +kernel⟩, List.mem_of_getElem? (i := 42) (by decide +kernel), List.mem_of_getElem? (i := 279) (by decide +kernel), List.mem_of_getElem? (i := 280) (by decide +kernel)⟩
theorem lw_p1 : lw_okq (⟨"ArchiveBench$Packer", "appendEntry", "(LArchiveBench$WaitingFile;)V"⟩, 3) := ⟨⟨by decide +kernel, by decide +kernel⟩, List.mem_of_getElem? (i := 42) (by decide +kernel), List.mem_of_getElem? (i := 312) (by decide +kernel), List.mem_of_getElem? (i := 313) (by decide +kernel)⟩
theorem lw_p2 : lw_okq (⟨"ArchiveBench$Archive", "start", "(II)V"⟩, 6) := ⟨⟨by decide +kernel, by decide +kernel⟩, List.mem_of_getElem? (i := 92) (by decide +kernel), List.mem_of_getElem? (i := 348) (by decide +kernel), List.mem_of_getElem? (i := 349) (by decide +kernel)⟩
theorem lw_p3 : lw_okq (⟨"ArchiveBench$Archive", "readByte", "()I"⟩, 6) := ⟨⟨by decide +kernel, by decide +kernel⟩, List.mem_of_getElem? (i := 92) (by decide +kernel), List.mem_of_getElem? (i := 352) (by decide +kernel), List.mem_of_getElem? (i := 353) (by decide +kernel)⟩
theorem lw_p4 : lw_okq (⟨"ArchiveBench$Archive", "readRecordHead", "(LArchiveBench$OpenFile;I)I"⟩, 6) := ⟨⟨by decide +kernel, by decide +kernel⟩, List.mem_of_getElem? (i := 92) (by decide +kernel), List.mem_of_getElem? (i := 361) (by decide +kernel), List.mem_of_getElem? (i := 362) (by decide +kernel)⟩
theorem lw_p5 : lw_okq (⟨"ArchiveBench$Archive", "readMethodAndName", "(LArchiveBench$OpenFile;)I"⟩, 6) := ⟨⟨by decide +kernel, by decide +kernel⟩, List.mem_of_getElem? (i := 92) (by decide +kernel), List.mem_of_getElem? (i := 365) (by decide +kernel), List.mem_of_getElem? (i := 366) (by decide +kernel)⟩
theorem lw_p6 : lw_okq (⟨"ArchiveBench$Archive", "readBetween", "(II)I"⟩, 6) := ⟨⟨by decide +kernel, by decide +kernel⟩, List.mem_of_getElem? (i := 92) (by decide +kernel), List.mem_of_getElem? (i := 369) (by decide +kernel), List.mem_of_getElem? (i := 370) (by decide +kernel)⟩
theorem lw_p7 : lw_okq (⟨"ArchiveBench$Archive", "readLengthAndCheck", "(LArchiveBench$OpenFile;)I"⟩, 6) := ⟨⟨by decide +kernel, by decide +kernel⟩, List.mem_of_getElem? (i := 92) (by decide +kernel), List.mem_of_getElem? (i := 376) (by decide +kernel), List.mem_of_getElem? (i := 377) (by decide +kernel)⟩
theorem lw_p8 : lw_okq (⟨"ArchiveBench$Archive", "readNumber", "()I"⟩, 6) := ⟨⟨by decide +kernel, by decide +kernel⟩, List.mem_of_getElem? (i := 92) (by decide +kernel), List.mem_of_getElem? (i := 380) (by decide +kernel), List.mem_of_getElem? (i := 381) (by decide +kernel)⟩
theorem lw_p9 : lw_okq (⟨"ArchiveBench$Archive", "passSqueezed", "(LArchiveBench$OpenFile;)I"⟩, 6) := ⟨⟨by decide +kernel, by decide +kernel⟩, List.mem_of_getElem? (i := 92) (by decide +kernel), List.mem_of_getElem? (i := 385) (by decide +kernel), List.mem_of_getElem? (i := 386) (by decide +kernel)⟩
theorem lw_p10 : lw_okq (⟨"ArchiveBench$Archive", "testTail", "(I)I"⟩, 6) := ⟨⟨by decide +kernel, by decide +kernel⟩, List.mem_of_getElem? (i := 92) (by decide +kernel), List.mem_of_getElem? (i := 394) (by decide +kernel), List.mem_of_getElem? (i := 395) (by decide +kernel)⟩
theorem lw_p11 : lw_okq (⟨"ArchiveBench$Archive", "readEntry", "(LArchiveBench$OpenFile;I)I"⟩, 6) := ⟨⟨by decide +kernel, by decide +kernel⟩, List.mem_of_getElem? (i := 92) (by decide +kernel), List.mem_of_getElem? (i := 403) (by decide +kernel), List.mem_of_getElem? (i := 404) (by decide +kernel)⟩
theorem lw_p12 : lw_okq (⟨"ArchiveBench$OpenFile", "isSafePart", "(II)Z"⟩, 6) := ⟨⟨by decide +kernel, by decide +kernel⟩, List.mem_of_getElem? (i := 101) (by decide +kernel), List.mem_of_getElem? (i := 425) (by decide +kernel), List.mem_of_getElem? (i := 426) (by decide +kernel)⟩
theorem lw_p13 : lw_okq (⟨"ArchiveBenchModel", "chain", "()V"⟩, 21) := ⟨⟨by decide +kernel, by decide +kernel⟩, List.mem_of_getElem? (i := 471) (by decide +kernel), List.mem_of_getElem? (i := 563) (by decide +kernel), List.mem_of_getElem? (i := 564) (by decide +kernel)⟩
theorem lw_p14 : lw_okq (⟨"ArchiveBenchModel", "squeeze", "(I)V"⟩, 21) := ⟨⟨by decide +kernel, by decide +kernel⟩, List.mem_of_getElem? (i := 471) (by decide +kernel), List.mem_of_getElem? (i := 567) (by decide +kernel), List.mem_of_getElem? (i := 568) (by decide +kernel)⟩
theorem lw_p15 : lw_okq (⟨"ArchiveBenchModel", "runs", "(I)V"⟩, 21) := ⟨⟨by decide +kernel, by decide +kernel⟩, List.mem_of_getElem? (i := 471) (by decide +kernel), List.mem_of_getElem? (i := 571) (by decide +kernel), List.mem_of_getElem? (i := 572) (by decide +kernel)⟩
def lw_privs_1 : List (MethodName × Nat) := [(⟨"ArchiveBench$Packer", "appendRecord", "(LArchiveBench$WaitingFile;)V"⟩, 3), (⟨"ArchiveBench$Packer", "appendEntry", "(LArchiveBench$WaitingFile;)V"⟩, 3), (⟨"ArchiveBench$Archive", "start", "(II)V"⟩, 6), (⟨"ArchiveBench$Archive", "readByte", "()I"⟩, 6), (⟨"ArchiveBench$Archive", "readRecordHead", "(LArchiveBench$OpenFile;I)I"⟩, 6), (⟨"ArchiveBench$Archive", "readMethodAndName", "(LArchiveBench$OpenFile;)I"⟩, 6), (⟨"ArchiveBench$Archive", "readBetween", "(II)I"⟩, 6), (⟨"ArchiveBench$Archive", "readLengthAndCheck", "(LArchiveBench$OpenFile;)I"⟩, 6), (⟨"ArchiveBench$Archive", "readNumber", "()I"⟩, 6), (⟨"ArchiveBench$Archive", "passSqueezed", "(LArchiveBench$OpenFile;)I"⟩, 6), (⟨"ArchiveBench$Archive", "testTail", "(I)I"⟩, 6), (⟨"ArchiveBench$Archive", "readEntry", "(LArchiveBench$OpenFile;I)I"⟩, 6), (⟨"ArchiveBench$OpenFile", "isSafePart", "(II)Z"⟩, 6), (⟨"ArchiveBenchModel", "chain", "()V"⟩, 21), (⟨"ArchiveBenchModel", "squeeze", "(I)V"⟩, 21), (⟨"ArchiveBenchModel", "runs", "(I)V"⟩, 21)]
theorem lw_r1 : ∀ q ∈ lw_privs_1, lw_okq q := List.forall_mem_cons.mpr ⟨lw_p0, List.forall_mem_cons.mpr ⟨lw_p1, List.forall_mem_cons.mpr ⟨lw_p2, List.forall_mem_cons.mpr ⟨lw_p3, List.forall_mem_cons.mpr ⟨lw_p4, List.forall_mem_cons.mpr ⟨lw_p5, List.forall_mem_cons.mpr ⟨lw_p6, List.forall_mem_cons.mpr ⟨lw_p7, List.forall_mem_cons.mpr ⟨lw_p8, List.forall_mem_cons.mpr ⟨lw_p9, List.forall_mem_cons.mpr ⟨lw_p10, List.forall_mem_cons.mpr ⟨lw_p11, List.forall_mem_cons.mpr ⟨lw_p12, List.forall_mem_cons.mpr ⟨lw_p13, List.forall_mem_cons.mpr ⟨lw_p14, List.forall_mem_cons.mpr ⟨lw_p15, fun _ h => absurd h List.not_mem_nil⟩⟩⟩⟩⟩⟩⟩⟩⟩⟩⟩⟩⟩⟩⟩⟩
theorem lw_p16 : lw_okq (⟨"ArchiveBenchModel", "byteOf", "(II)I"⟩, 21) := ⟨⟨by decide +kernel, by decide +kernel⟩, List.mem_of_getElem? (i := 471) (by decide +kernel), List.mem_of_getElem? (i := 575) (by decide +kernel), List.mem_of_getElem? (i := 576) (by decide +kernel)⟩
theorem lw_p17 : lw_okq (⟨"ArchiveBenchModel", "push", "(I)V"⟩, 21) := ⟨⟨by decide +kernel, by decide +kernel⟩, List.mem_of_getElem? (i := 471) (by decide +kernel), List.mem_of_getElem? (i := 579) (by decide +kernel), List.mem_of_getElem? (i := 580) (by decide +kernel)⟩
theorem lw_p18 : lw_okq (⟨"ArchiveBenchModel", "copies", "(I)V"⟩, 21) := ⟨⟨by decide +kernel, by decide +kernel⟩, List.mem_of_getElem? (i := 471) (by decide +kernel), List.mem_of_getElem? (i := 583) (by decide +kernel), List.mem_of_getElem? (i := 584) (by decide +kernel)⟩
theorem lw_p19 : lw_okq (⟨"ArchiveBenchModel", "copyLength", "(III)I"⟩, 21) := ⟨⟨by decide +kernel, by decide +kernel⟩, List.mem_of_getElem? (i := 471) (by decide +kernel), List.mem_of_getElem? (i := 587) (by decide +kernel), List.mem_of_getElem? (i := 588) (by decide +kernel)⟩
theorem lw_p20 : lw_okq (⟨"ArchiveBenchModel", "literals", "(III)V"⟩, 21) := ⟨⟨by decide +kernel, by decide +kernel⟩, List.mem_of_getElem? (i := 471) (by decide +kernel), List.mem_of_getElem? (i := 591) (by decide +kernel), List.mem_of_getElem? (i := 592) (by decide +kernel)⟩
theorem lw_p21 : lw_okq (⟨"ArchiveBenchModel", "say", "(I)V"⟩, 21) := ⟨⟨by decide +kernel, by decide +kernel⟩, List.mem_of_getElem? (i := 471) (by decide +kernel), List.mem_of_getElem? (i := 595) (by decide +kernel), List.mem_of_getElem? (i := 596) (by decide +kernel)⟩
theorem lw_p22 : lw_okq (⟨"ArchiveBenchModel", "sayHead", "(I)V"⟩, 21) := ⟨⟨by decide +kernel, by decide +kernel⟩, List.mem_of_getElem? (i := 471) (by decide +kernel), List.mem_of_getElem? (i := 599) (by decide +kernel), List.mem_of_getElem? (i := 600) (by decide +kernel)⟩
theorem lw_p23 : lw_okq (⟨"ArchiveBenchModel", "checkOf", "(I)I"⟩, 21) := ⟨⟨by decide +kernel, by decide +kernel⟩, List.mem_of_getElem? (i := 471) (by decide +kernel), List.mem_of_getElem? (i := 603) (by decide +kernel), List.mem_of_getElem? (i := 604) (by decide +kernel)⟩
theorem lw_p24 : lw_okq (⟨"ArchiveBenchModel", "sayTwo", "(I)V"⟩, 21) := ⟨⟨by decide +kernel, by decide +kernel⟩, List.mem_of_getElem? (i := 471) (by decide +kernel), List.mem_of_getElem? (i := 611) (by decide +kernel), List.mem_of_getElem? (i := 612) (by decide +kernel)⟩
theorem lw_p25 : lw_okq (⟨"ArchiveBenchModel", "sayRow", "()V"⟩, 21) := ⟨⟨by decide +kernel, by decide +kernel⟩, List.mem_of_getElem? (i := 471) (by decide +kernel), List.mem_of_getElem? (i := 615) (by decide +kernel), List.mem_of_getElem? (i := 616) (by decide +kernel)⟩
theorem lw_p26 : lw_okq (⟨"ArchiveBenchModel", "index", "()V"⟩, 21) := ⟨⟨by decide +kernel, by decide +kernel⟩, List.mem_of_getElem? (i := 471) (by decide +kernel), List.mem_of_getElem? (i := 619) (by decide +kernel), List.mem_of_getElem? (i := 620) (by decide +kernel)⟩
theorem lw_p27 : lw_okq (⟨"ArchiveBenchModel", "openIndex", "()I"⟩, 21) := ⟨⟨by decide +kernel, by decide +kernel⟩, List.mem_of_getElem? (i := 471) (by decide +kernel), List.mem_of_getElem? (i := 639) (by decide +kernel), List.mem_of_getElem? (i := 640) (by decide +kernel)⟩
theorem lw_p28 : lw_okq (⟨"ArchiveBenchModel", "stop", "(II)I"⟩, 21) := ⟨⟨by decide +kernel, by decide +kernel⟩, List.mem_of_getElem? (i := 471) (by decide +kernel), List.mem_of_getElem? (i := 643) (by decide +kernel), List.mem_of_getElem? (i := 644) (by decide +kernel)⟩
theorem lw_p29 : lw_okq (⟨"ArchiveBenchModel", "two", "(I)I"⟩, 21) := ⟨⟨by decide +kernel, by decide +kernel⟩, List.mem_of_getElem? (i := 471) (by decide +kernel), List.mem_of_getElem? (i := 647) (by decide +kernel), List.mem_of_getElem? (i := 648) (by decide +kernel)⟩
theorem lw_p30 : lw_okq (⟨"ArchiveBenchModel", "openEntry", "(III)I"⟩, 21) := ⟨⟨by decide +kernel, by decide +kernel⟩, List.mem_of_getElem? (i := 471) (by decide +kernel), List.mem_of_getElem? (i := 651) (by decide +kernel), List.mem_of_getElem? (i := 652) (by decide +kernel)⟩
theorem lw_p31 : lw_okq (⟨"ArchiveBenchModel", "head", "(II)I"⟩, 21) := ⟨⟨by decide +kernel, by decide +kernel⟩, List.mem_of_getElem? (i := 471) (by decide +kernel), List.mem_of_getElem? (i := 655) (by decide +kernel), List.mem_of_getElem? (i := 656) (by decide +kernel)⟩
def lw_privs_2 : List (MethodName × Nat) := [(⟨"ArchiveBenchModel", "byteOf", "(II)I"⟩, 21), (⟨"ArchiveBenchModel", "push", "(I)V"⟩, 21), (⟨"ArchiveBenchModel", "copies", "(I)V"⟩, 21), (⟨"ArchiveBenchModel", "copyLength", "(III)I"⟩, 21), (⟨"ArchiveBenchModel", "literals", "(III)V"⟩, 21), (⟨"ArchiveBenchModel", "say", "(I)V"⟩, 21), (⟨"ArchiveBenchModel", "sayHead", "(I)V"⟩, 21), (⟨"ArchiveBenchModel", "checkOf", "(I)I"⟩, 21), (⟨"ArchiveBenchModel", "sayTwo", "(I)V"⟩, 21), (⟨"ArchiveBenchModel", "sayRow", "()V"⟩, 21), (⟨"ArchiveBenchModel", "index", "()V"⟩, 21), (⟨"ArchiveBenchModel", "openIndex", "()I"⟩, 21), (⟨"ArchiveBenchModel", "stop", "(II)I"⟩, 21), (⟨"ArchiveBenchModel", "two", "(I)I"⟩, 21), (⟨"ArchiveBenchModel", "openEntry", "(III)I"⟩, 21), (⟨"ArchiveBenchModel", "head", "(II)I"⟩, 21)]
theorem lw_r2 : ∀ q ∈ lw_privs_2, lw_okq q := List.forall_mem_cons.mpr ⟨lw_p16, List.forall_mem_cons.mpr ⟨lw_p17, List.forall_mem_cons.mpr ⟨lw_p18, List.forall_mem_cons.mpr ⟨lw_p19, List.forall_mem_cons.mpr ⟨lw_p20, List.forall_mem_cons.mpr ⟨lw_p21, List.forall_mem_cons.mpr ⟨lw_p22, List.forall_mem_cons.mpr ⟨lw_p23, List.forall_mem_cons.mpr ⟨lw_p24, List.forall_mem_cons.mpr ⟨lw_p25, List.forall_mem_cons.mpr ⟨lw_p26, List.forall_mem_cons.mpr ⟨lw_p27, List.forall_mem_cons.mpr ⟨lw_p28, List.forall_mem_cons.mpr ⟨lw_p29, List.forall_mem_cons.mpr ⟨lw_p30, List.forall_mem_cons.mpr ⟨lw_p31, fun _ h => absurd h List.not_mem_nil⟩⟩⟩⟩⟩⟩⟩⟩⟩⟩⟩⟩⟩⟩⟩⟩
theorem lw_p32 : lw_okq (⟨"ArchiveBenchModel", "note", "(IIII)V"⟩, 21) := ⟨⟨by decide +kernel, by decide +kernel⟩, List.mem_of_getElem? (i := 471) (by decide +kernel), List.mem_of_getElem? (i := 659) (by decide +kernel), List.mem_of_getElem? (i := 660) (by decide +kernel)⟩
theorem lw_p33 : lw_okq (⟨"ArchiveBenchModel", "openChain", "()I"⟩, 21) := ⟨⟨by decide +kernel, by decide +kernel⟩, List.mem_of_getElem? (i := 471) (by decide +kernel), List.mem_of_getElem? (i := 663) (by decide +kernel), List.mem_of_getElem? (i := 664) (by decide +kernel)⟩
theorem lw_p34 : lw_okq (⟨"ArchiveBenchModel", "safe", "(I)Z"⟩, 21) := ⟨⟨by decide +kernel, by decide +kernel⟩, List.mem_of_getElem? (i := 471) (by decide +kernel), List.mem_of_getElem? (i := 675) (by decide +kernel), List.mem_of_getElem? (i := 676) (by decide +kernel)⟩
theorem lw_p35 : lw_okq (⟨"ArchiveBenchModel", "of", "(II)I"⟩, 21) := ⟨⟨by decide +kernel, by decide +kernel⟩, List.mem_of_getElem? (i := 471) (by decide +kernel), List.mem_of_getElem? (i := 679) (by decide +kernel), List.mem_of_getElem? (i := 680) (by decide +kernel)⟩
theorem lw_p36 : lw_okq (⟨"ArchiveBenchModel", "nameAt", "(II)I"⟩, 21) := ⟨⟨by decide +kernel, by decide +kernel⟩, List.mem_of_getElem? (i := 471) (by decide +kernel), List.mem_of_getElem? (i := 683) (by decide +kernel), List.mem_of_getElem? (i := 684) (by decide +kernel)⟩
theorem lw_p37 : lw_okq (⟨"ArchiveBenchModel", "sameName", "(II)Z"⟩, 21) := ⟨⟨by decide +kernel, by decide +kernel⟩, List.mem_of_getElem? (i := 471) (by decide +kernel), List.mem_of_getElem? (i := 687) (by decide +kernel), List.mem_of_getElem? (i := 688) (by decide +kernel)⟩
theorem lw_p38 : lw_okq (⟨"ArchiveBenchModel", "unsqueeze", "(I)Z"⟩, 21) := ⟨⟨by decide +kernel, by decide +kernel⟩, List.mem_of_getElem? (i := 471) (by decide +kernel), List.mem_of_getElem? (i := 691) (by decide +kernel), List.mem_of_getElem? (i := 692) (by decide +kernel)⟩
theorem lw_p39 : lw_okq (⟨"ArchiveBenchModel", "piece", "(III)I"⟩, 21) := ⟨⟨by decide +kernel, by decide +kernel⟩, List.mem_of_getElem? (i := 471) (by decide +kernel), List.mem_of_getElem? (i := 695) (by decide +kernel), List.mem_of_getElem? (i := 696) (by decide +kernel)⟩
theorem lw_p40 : lw_okq (⟨"ArchiveBenchModel", "make", "(II)Z"⟩, 21) := ⟨⟨by decide +kernel, by decide +kernel⟩, List.mem_of_getElem? (i := 471) (by decide +kernel), List.mem_of_getElem? (i := 699) (by decide +kernel), List.mem_of_getElem? (i := 700) (by decide +kernel)⟩
def lw_privs_3 : List (MethodName × Nat) := [(⟨"ArchiveBenchModel", "note", "(IIII)V"⟩, 21), (⟨"ArchiveBenchModel", "openChain", "()I"⟩, 21), (⟨"ArchiveBenchModel", "safe", "(I)Z"⟩, 21), (⟨"ArchiveBenchModel", "of", "(II)I"⟩, 21), (⟨"ArchiveBenchModel", "nameAt", "(II)I"⟩, 21), (⟨"ArchiveBenchModel", "sameName", "(II)Z"⟩, 21), (⟨"ArchiveBenchModel", "unsqueeze", "(I)Z"⟩, 21), (⟨"ArchiveBenchModel", "piece", "(III)I"⟩, 21), (⟨"ArchiveBenchModel", "make", "(II)Z"⟩, 21)]
theorem lw_r3 : ∀ q ∈ lw_privs_3, lw_okq q := List.forall_mem_cons.mpr ⟨lw_p32, List.forall_mem_cons.mpr ⟨lw_p33, List.forall_mem_cons.mpr ⟨lw_p34, List.forall_mem_cons.mpr ⟨lw_p35, List.forall_mem_cons.mpr ⟨lw_p36, List.forall_mem_cons.mpr ⟨lw_p37, List.forall_mem_cons.mpr ⟨lw_p38, List.forall_mem_cons.mpr ⟨lw_p39, List.forall_mem_cons.mpr ⟨lw_p40, fun _ h => absurd h List.not_mem_nil⟩⟩⟩⟩⟩⟩⟩⟩⟩
def lw_privs : List (MethodName × Nat) := lw_privs_1 ++ (lw_privs_2 ++ (lw_privs_3))
def lw_tbl : List Cond := k2_sels lw_privs ++ tables_1
theorem lw_privs_ok : ∀ q ∈ lw_privs, lw_okq q := by
  show ∀ q ∈ lw_privs_1 ++ (lw_privs_2 ++ (lw_privs_3)), lw_okq q
  exact List.forall_mem_append.mpr ⟨lw_r1, List.forall_mem_append.mpr ⟨lw_r2, lw_r3⟩⟩
end
section
def R_AB : String := "ArchiveBench"
def T_AB : u_T := fun k => match k with
  | 0 => ("ArchiveBench", "writtenName", "LArchiveBench$Row;", true)
  | 1 => ("ArchiveBench", "writtenBytes", "LArchiveBench$Row;", true)
  | 2 => ("ArchiveBench", "packer", "LArchiveBench$Packer;", true)
  | 3 => ("ArchiveBench", "archive", "LArchiveBench$Archive;", true)
  | 4 => ("ArchiveBench", "made", "LArchiveBench$Row;", true)
  | _ => ("ArchiveBench", "takenBytes", "LArchiveBench$Row;", true)
def t_AB : Nat → FieldType := fun k => match k with
  | 0 => .object "ArchiveBench$Row"
  | 1 => .object "ArchiveBench$Row"
  | 2 => .object "ArchiveBench$Packer"
  | 3 => .object "ArchiveBench$Archive"
  | 4 => .object "ArchiveBench$Row"
  | _ => .object "ArchiveBench$Row"
def R_Row : String := "ArchiveBench$Row"
def T_Row : u_T := fun k => match k with
  | 0 => ("ArchiveBench$Row", "cells", "[I", true)
  | _ => ("ArchiveBench$Row", "length", "I", false)
def t_Row : Nat → FieldType := fun k => match k with
  | 0 => .array .int
  | _ => .int
def R_Pk : String := "ArchiveBench$Packer"
def T_Pk : u_T := fun k => match k with
  | 0 => ("ArchiveBench$Packer", "waiting", "[LArchiveBench$WaitingFile;", true)
  | 1 => ("ArchiveBench$Packer", "files", "I", false)
  | _ => ("ArchiveBench$Packer", "draft", "LArchiveBench$Row;", true)
def t_Pk : Nat → FieldType := fun k => match k with
  | 0 => .array (.object "ArchiveBench$WaitingFile")
  | 1 => .int
  | _ => .object "ArchiveBench$Row"
def R_WF : String := "ArchiveBench$WaitingFile"
def T_WF : u_T := fun k => match k with
  | 0 => ("ArchiveBench$WaitingFile", "ownName", "LArchiveBench$Row;", true)
  | 1 => ("ArchiveBench$WaitingFile", "squeezed", "LArchiveBench$Row;", true)
  | 2 => ("ArchiveBench$WaitingFile", "method", "I", false)
  | 3 => ("ArchiveBench$WaitingFile", "length", "I", false)
  | 4 => ("ArchiveBench$WaitingFile", "check", "I", false)
  | _ => ("ArchiveBench$WaitingFile", "squeezedAt", "I", false)
def t_WF : Nat → FieldType := fun k => match k with
  | 0 => .object "ArchiveBench$Row"
  | 1 => .object "ArchiveBench$Row"
  | 2 => .int
  | 3 => .int
  | 4 => .int
  | _ => .int
def R_Ar : String := "ArchiveBench$Archive"
def T_Ar : u_T := fun k => match k with
  | 0 => ("ArchiveBench$Archive", "row", "LArchiveBench$Row;", true)
  | 1 => ("ArchiveBench$Archive", "files", "[LArchiveBench$OpenFile;", true)
  | 2 => ("ArchiveBench$Archive", "opened", "I", false)
  | 3 => ("ArchiveBench$Archive", "endedAt", "I", false)
  | 4 => ("ArchiveBench$Archive", "cursor", "I", false)
  | _ => ("ArchiveBench$Archive", "limit", "I", false)
def t_Ar : Nat → FieldType := fun k => match k with
  | 0 => .object "ArchiveBench$Row"
  | 1 => .array (.object "ArchiveBench$OpenFile")
  | 2 => .int
  | 3 => .int
  | 4 => .int
  | _ => .int
def R_OF : String := "ArchiveBench$OpenFile"
def T_OF : u_T := fun k => match k with
  | 0 => ("ArchiveBench$OpenFile", "ownName", "LArchiveBench$Row;", true)
  | 1 => ("ArchiveBench$OpenFile", "method", "I", false)
  | 2 => ("ArchiveBench$OpenFile", "squeezedAt", "I", false)
  | 3 => ("ArchiveBench$OpenFile", "squeezedLength", "I", false)
  | 4 => ("ArchiveBench$OpenFile", "length", "I", false)
  | _ => ("ArchiveBench$OpenFile", "check", "I", false)
def t_OF : Nat → FieldType := fun k => match k with
  | 0 => .object "ArchiveBench$Row"
  | 1 => .int
  | 2 => .int
  | 3 => .int
  | 4 => .int
  | _ => .int
def R_Md : String := "ArchiveBenchModel"
def T_Md : u_T := fun k => match k with
  | 0 => ("ArchiveBenchModel", "nameLength", "I", false)
  | 1 => ("ArchiveBenchModel", "name", "[I", true)
  | 2 => ("ArchiveBenchModel", "dataLength", "I", false)
  | 3 => ("ArchiveBenchModel", "data", "[I", true)
  | 4 => ("ArchiveBenchModel", "files", "I", false)
  | 5 => ("ArchiveBenchModel", "fMethod", "[I", true)
  | 6 => ("ArchiveBenchModel", "fNames", "[I", true)
  | 7 => ("ArchiveBenchModel", "fName", "[I", true)
  | 8 => ("ArchiveBenchModel", "fBytes", "[I", true)
  | 9 => ("ArchiveBenchModel", "fData", "[I", true)
  | 10 => ("ArchiveBenchModel", "length", "I", false)
  | 11 => ("ArchiveBenchModel", "image", "[I", true)
  | 12 => ("ArchiveBenchModel", "made", "I", false)
  | 13 => ("ArchiveBenchModel", "draft", "[I", true)
  | 14 => ("ArchiveBenchModel", "open", "I", false)
  | 15 => ("ArchiveBenchModel", "file", "[I", true)
  | 16 => ("ArchiveBenchModel", "place", "I", false)
  | 17 => ("ArchiveBenchModel", "takenLength", "I", false)
  | 18 => ("ArchiveBenchModel", "taken", "[I", true)
  | 19 => ("ArchiveBenchModel", "rowLength", "I", false)
  | _ => ("ArchiveBenchModel", "row", "[I", true)
def t_Md : Nat → FieldType := fun k => match k with
  | 0 => .int
  | 1 => .array .int
  | 2 => .int
  | 3 => .array .int
  | 4 => .int
  | 5 => .array .int
  | 6 => .array .int
  | 7 => .array .int
  | 8 => .array .int
  | 9 => .array .int
  | 10 => .int
  | 11 => .array .int
  | 12 => .int
  | 13 => .array .int
  | 14 => .int
  | 15 => .array .int
  | 16 => .int
  | 17 => .int
  | 18 => .array .int
  | 19 => .int
  | _ => .array .int
abbrev vwCl : List vw_C := [(R_AB, T_AB, 6), (R_Row, T_Row, 2), (R_Pk, T_Pk, 3), (R_WF, T_WF, 6), (R_Ar, T_Ar, 6), (R_OF, T_OF, 6), (R_Md, T_Md, 21)]
def ab_tys : List FieldType := [.int, .object "ArchiveBench$WaitingFile", .object "ArchiveBench$OpenFile"]
def ab_nestM : List (String × Nat × MethodName × String) := [("ArchiveBench$Archive", 118, ⟨"ArchiveBench", "isNameCharacter", "(I)Z"⟩, "ArchiveBench")]
def ab_over : List String := ["ArchiveBench$WaitingFile", "ArchiveBench$OpenFile"]
def mm_AB_init : MethodName × ByteArray × Nat × Option FieldType := (⟨"ArchiveBench", "<init>", "()V"⟩, prog_1_method_1_code, 1, none)
abbrev rr_AB_init : Nat × Nat := (4, 82)
def mm_Row_init : MethodName × ByteArray × Nat × Option FieldType := (⟨"ArchiveBench$Row", "<init>", "(I)V"⟩, prog_5_method_1_code, 2, none)
abbrev rr_Row_init : Nat × Nat := (1, 20)
def mm_Pk_init : MethodName × ByteArray × Nat × Option FieldType := (⟨"ArchiveBench$Packer", "<init>", "()V"⟩, prog_4_method_1_code, 2, none)
abbrev rr_Pk_init : Nat × Nat := (3, 61)
def mm_WF_init : MethodName × ByteArray × Nat × Option FieldType := (⟨"ArchiveBench$WaitingFile", "<init>", "()V"⟩, prog_8_method_1_code, 1, none)
abbrev rr_WF_init : Nat × Nat := (2, 41)
def mm_Ar_init : MethodName × ByteArray × Nat × Option FieldType := (⟨"ArchiveBench$Archive", "<init>", "()V"⟩, prog_2_method_1_code, 2, none)
abbrev rr_Ar_init : Nat × Nat := (3, 61)
def mm_OF_init : MethodName × ByteArray × Nat × Option FieldType := (⟨"ArchiveBench$OpenFile", "<init>", "()V"⟩, prog_3_method_1_code, 1, none)
abbrev rr_OF_init : Nat × Nat := (2, 41)
def mm_AB_name : MethodName × ByteArray × Nat × Option FieldType := (⟨"ArchiveBench", "name", "(I)I"⟩, prog_1_method_2_code, 2, (some .int))
abbrev rr_AB_name : Nat × Nat := (1, 21)
def mm_AB_isNameCharacter : MethodName × ByteArray × Nat × Option FieldType := (⟨"ArchiveBench", "isNameCharacter", "(I)Z"⟩, prog_1_method_16_code, 1, (some .boolean))
abbrev rr_AB_isNameCharacter : Nat × Nat := (0, 0)
def mm_Row_append : MethodName × ByteArray × Nat × Option FieldType := (⟨"ArchiveBench$Row", "append", "(I)Z"⟩, prog_5_method_6_code, 2, (some .boolean))
abbrev rr_Row_append : Nat × Nat := (0, 0)
def mm_AB_data : MethodName × ByteArray × Nat × Option FieldType := (⟨"ArchiveBench", "data", "(II)I"⟩, prog_1_method_3_code, 3, (some .int))
abbrev rr_AB_data : Nat × Nat := (1, 23)
def mm_AB_isByte : MethodName × ByteArray × Nat × Option FieldType := (⟨"ArchiveBench", "isByte", "(I)Z"⟩, prog_1_method_15_code, 1, (some .boolean))
abbrev rr_AB_isByte : Nat × Nat := (0, 0)
def mm_Row_appendTimes : MethodName × ByteArray × Nat × Option FieldType := (⟨"ArchiveBench$Row", "appendTimes", "(II)Z"⟩, prog_5_method_7_code, 4, (some .boolean))
abbrev rr_Row_appendTimes : Nat × Nat := (0, 0)
def mm_AB_add : MethodName × ByteArray × Nat × Option FieldType := (⟨"ArchiveBench", "add", "(I)I"⟩, prog_1_method_4_code, 3, (some .int))
abbrev rr_AB_add : Nat × Nat := (6, 144)
def mm_WF_become : MethodName × ByteArray × Nat × Option FieldType := (⟨"ArchiveBench$WaitingFile", "become", "(LArchiveBench$Row;LArchiveBench$Row;I)V"⟩, prog_8_method_2_code, 4, none)
abbrev rr_WF_become : Nat × Nat := (5, 121)
def mm_Row_become : MethodName × ByteArray × Nat × Option FieldType := (⟨"ArchiveBench$Row", "become", "(LArchiveBench$Row;)V"⟩, prog_5_method_11_code, 2, none)
abbrev rr_Row_become : Nat × Nat := (3, 70)
def mm_Row_cutTo : MethodName × ByteArray × Nat × Option FieldType := (⟨"ArchiveBench$Row", "cutTo", "(I)V"⟩, prog_5_method_5_code, 2, none)
abbrev rr_Row_cutTo : Nat × Nat := (0, 0)
def mm_Row_appendAll : MethodName × ByteArray × Nat × Option FieldType := (⟨"ArchiveBench$Row", "appendAll", "(LArchiveBench$Row;)V"⟩, prog_5_method_10_code, 2, none)
abbrev rr_Row_appendAll : Nat × Nat := (2, 49)
def mm_Row_appendPart : MethodName × ByteArray × Nat × Option FieldType := (⟨"ArchiveBench$Row", "appendPart", "(LArchiveBench$Row;II)Z"⟩, prog_5_method_9_code, 4, (some .boolean))
abbrev rr_Row_appendPart : Nat × Nat := (1, 26)
def mm_Sq_squeeze : MethodName × ByteArray × Nat × Option FieldType := (⟨"ArchiveBench$Squeezing", "squeeze", "(ILArchiveBench$Row;LArchiveBench$Row;)V"⟩, prog_6_method_2_code, 3, none)
abbrev rr_Sq_squeeze : Nat × Nat := (4, 99)
def mm_Sq_squeezeRuns : MethodName × ByteArray × Nat × Option FieldType := (⟨"ArchiveBench$Squeezing", "squeezeRuns", "(LArchiveBench$Row;LArchiveBench$Row;)V"⟩, prog_6_method_3_code, 5, none)
abbrev rr_Sq_squeezeRuns : Nat × Nat := (1, 23)
def mm_Row_at : MethodName × ByteArray × Nat × Option FieldType := (⟨"ArchiveBench$Row", "at", "(I)I"⟩, prog_5_method_2_code, 2, (some .int))
abbrev rr_Row_at : Nat × Nat := (0, 0)
def mm_Sq_squeezeCopies : MethodName × ByteArray × Nat × Option FieldType := (⟨"ArchiveBench$Squeezing", "squeezeCopies", "(LArchiveBench$Row;LArchiveBench$Row;)V"⟩, prog_6_method_4_code, 6, none)
abbrev rr_Sq_squeezeCopies : Nat × Nat := (3, 74)
def mm_Sq_bestDistance : MethodName × ByteArray × Nat × Option FieldType := (⟨"ArchiveBench$Squeezing", "bestDistance", "(LArchiveBench$Row;I)I"⟩, prog_6_method_5_code, 6, (some .int))
abbrev rr_Sq_bestDistance : Nat × Nat := (2, 44)
def mm_Sq_copyLength : MethodName × ByteArray × Nat × Option FieldType := (⟨"ArchiveBench$Squeezing", "copyLength", "(LArchiveBench$Row;II)I"⟩, prog_6_method_6_code, 4, (some .int))
abbrev rr_Sq_copyLength : Nat × Nat := (1, 21)
def mm_Sq_appendLiterals : MethodName × ByteArray × Nat × Option FieldType := (⟨"ArchiveBench$Squeezing", "appendLiterals", "(LArchiveBench$Row;IILArchiveBench$Row;)V"⟩, prog_6_method_7_code, 6, none)
abbrev rr_Sq_appendLiterals : Nat × Nat := (2, 49)
def mm_Row_check : MethodName × ByteArray × Nat × Option FieldType := (⟨"ArchiveBench$Row", "check", "(II)I"⟩, prog_5_method_14_code, 5, (some .int))
abbrev rr_Row_check : Nat × Nat := (1, 24)
def mm_Row_checkWith : MethodName × ByteArray × Nat × Option FieldType := (⟨"ArchiveBench$Row", "checkWith", "(II)I"⟩, prog_5_method_15_code, 5, (some .int))
abbrev rr_Row_checkWith : Nat × Nat := (0, 0)
def mm_AB_pack : MethodName × ByteArray × Nat × Option FieldType := (⟨"ArchiveBench", "pack", "(I)I"⟩, prog_1_method_5_code, 2, (some .int))
abbrev rr_AB_pack : Nat × Nat := (6, 134)
def mm_Pk_draftChain : MethodName × ByteArray × Nat × Option FieldType := (⟨"ArchiveBench$Packer", "draftChain", "()V"⟩, prog_4_method_2_code, 2, none)
abbrev rr_Pk_draftChain : Nat × Nat := (5, 113)
def mm_Pk_appendRecord : MethodName × ByteArray × Nat × Option FieldType := (⟨"ArchiveBench$Packer", "appendRecord", "(LArchiveBench$WaitingFile;)V"⟩, prog_4_method_3_code, 3, none)
abbrev rr_Pk_appendRecord : Nat × Nat := (4, 91)
def mm_WF_appendMethodAndName : MethodName × ByteArray × Nat × Option FieldType := (⟨"ArchiveBench$WaitingFile", "appendMethodAndName", "(LArchiveBench$Row;)V"⟩, prog_8_method_3_code, 2, none)
abbrev rr_WF_appendMethodAndName : Nat × Nat := (3, 70)
def mm_WF_appendLengthsAndCheck : MethodName × ByteArray × Nat × Option FieldType := (⟨"ArchiveBench$WaitingFile", "appendLengthsAndCheck", "(LArchiveBench$Row;)V"⟩, prog_8_method_4_code, 2, none)
abbrev rr_WF_appendLengthsAndCheck : Nat × Nat := (2, 42)
def mm_Row_appendNumber : MethodName × ByteArray × Nat × Option FieldType := (⟨"ArchiveBench$Row", "appendNumber", "(I)V"⟩, prog_5_method_8_code, 2, none)
abbrev rr_Row_appendNumber : Nat × Nat := (1, 21)
def mm_Row_sum : MethodName × ByteArray × Nat × Option FieldType := (⟨"ArchiveBench$Row", "sum", "(II)I"⟩, prog_5_method_13_code, 5, (some .int))
abbrev rr_Row_sum : Nat × Nat := (1, 21)
def mm_Pk_zerosBehind : MethodName × ByteArray × Nat × Option FieldType := (⟨"ArchiveBench$Packer", "zerosBehind", "(I)I"⟩, prog_4_method_6_code, 1, (some .int))
abbrev rr_Pk_zerosBehind : Nat × Nat := (0, 0)
def mm_Pk_draftIndex : MethodName × ByteArray × Nat × Option FieldType := (⟨"ArchiveBench$Packer", "draftIndex", "()V"⟩, prog_4_method_4_code, 3, none)
abbrev rr_Pk_draftIndex : Nat × Nat := (5, 112)
def mm_Pk_appendEntry : MethodName × ByteArray × Nat × Option FieldType := (⟨"ArchiveBench$Packer", "appendEntry", "(LArchiveBench$WaitingFile;)V"⟩, prog_4_method_5_code, 2, none)
abbrev rr_Pk_appendEntry : Nat × Nat := (4, 91)
def mm_Ar_close : MethodName × ByteArray × Nat × Option FieldType := (⟨"ArchiveBench$Archive", "close", "()V"⟩, prog_2_method_2_code, 1, none)
abbrev rr_Ar_close : Nat × Nat := (0, 0)
def mm_AB_put : MethodName × ByteArray × Nat × Option FieldType := (⟨"ArchiveBench", "put", "(II)I"⟩, prog_1_method_6_code, 3, (some .int))
abbrev rr_AB_put : Nat × Nat := (1, 22)
def mm_Row_set : MethodName × ByteArray × Nat × Option FieldType := (⟨"ArchiveBench$Row", "set", "(II)V"⟩, prog_5_method_4_code, 3, none)
abbrev rr_Row_set : Nat × Nat := (0, 0)
def mm_AB_cut : MethodName × ByteArray × Nat × Option FieldType := (⟨"ArchiveBench", "cut", "(I)I"⟩, prog_1_method_7_code, 2, (some .int))
abbrev rr_AB_cut : Nat × Nat := (1, 21)
def mm_AB_image : MethodName × ByteArray × Nat × Option FieldType := (⟨"ArchiveBench", "image", "(I)I"⟩, prog_1_method_8_code, 2, (some .int))
abbrev rr_AB_image : Nat × Nat := (1, 21)
def mm_AB_open : MethodName × ByteArray × Nat × Option FieldType := (⟨"ArchiveBench", "open", "()I"⟩, prog_1_method_9_code, 1, (some .int))
abbrev rr_AB_open : Nat × Nat := (6, 139)
def mm_Ar_openChain : MethodName × ByteArray × Nat × Option FieldType := (⟨"ArchiveBench$Archive", "openChain", "()I"⟩, prog_2_method_7_code, 5, (some .int))
abbrev rr_Ar_openChain : Nat × Nat := (5, 114)
def mm_Ar_start : MethodName × ByteArray × Nat × Option FieldType := (⟨"ArchiveBench$Archive", "start", "(II)V"⟩, prog_2_method_6_code, 3, none)
abbrev rr_Ar_start : Nat × Nat := (0, 0)
def mm_Ar_readByte : MethodName × ByteArray × Nat × Option FieldType := (⟨"ArchiveBench$Archive", "readByte", "()I"⟩, prog_2_method_17_code, 2, (some .int))
abbrev rr_Ar_readByte : Nat × Nat := (1, 22)
def mm_Ar_stop : MethodName × ByteArray × Nat × Option FieldType := (⟨"ArchiveBench$Archive", "stop", "(II)I"⟩, prog_2_method_5_code, 3, (some .int))
abbrev rr_Ar_stop : Nat × Nat := (0, 0)
def mm_Ar_readRecordHead : MethodName × ByteArray × Nat × Option FieldType := (⟨"ArchiveBench$Archive", "readRecordHead", "(LArchiveBench$OpenFile;I)I"⟩, prog_2_method_8_code, 5, (some .int))
abbrev rr_Ar_readRecordHead : Nat × Nat := (4, 90)
def mm_Ar_readMethodAndName : MethodName × ByteArray × Nat × Option FieldType := (⟨"ArchiveBench$Archive", "readMethodAndName", "(LArchiveBench$OpenFile;)I"⟩, prog_2_method_13_code, 5, (some .int))
abbrev rr_Ar_readMethodAndName : Nat × Nat := (3, 66)
def mm_Ar_readBetween : MethodName × ByteArray × Nat × Option FieldType := (⟨"ArchiveBench$Archive", "readBetween", "(II)I"⟩, prog_2_method_16_code, 4, (some .int))
abbrev rr_Ar_readBetween : Nat × Nat := (2, 43)
def mm_Ar_readLengthAndCheck : MethodName × ByteArray × Nat × Option FieldType := (⟨"ArchiveBench$Archive", "readLengthAndCheck", "(LArchiveBench$OpenFile;)I"⟩, prog_2_method_14_code, 2, (some .int))
abbrev rr_Ar_readLengthAndCheck : Nat × Nat := (3, 66)
def mm_Ar_readNumber : MethodName × ByteArray × Nat × Option FieldType := (⟨"ArchiveBench$Archive", "readNumber", "()I"⟩, prog_2_method_15_code, 3, (some .int))
abbrev rr_Ar_readNumber : Nat × Nat := (2, 43)
def mm_Ar_passSqueezed : MethodName × ByteArray × Nat × Option FieldType := (⟨"ArchiveBench$Archive", "passSqueezed", "(LArchiveBench$OpenFile;)I"⟩, prog_2_method_9_code, 5, (some .int))
abbrev rr_Ar_passSqueezed : Nat × Nat := (1, 22)
def mm_Ar_openIndex : MethodName × ByteArray × Nat × Option FieldType := (⟨"ArchiveBench$Archive", "openIndex", "()I"⟩, prog_2_method_10_code, 6, (some .int))
abbrev rr_Ar_openIndex : Nat × Nat := (5, 114)
def mm_Ar_testTail : MethodName × ByteArray × Nat × Option FieldType := (⟨"ArchiveBench$Archive", "testTail", "(I)I"⟩, prog_2_method_11_code, 3, (some .int))
abbrev rr_Ar_testTail : Nat × Nat := (2, 48)
def mm_Row_numberAt : MethodName × ByteArray × Nat × Option FieldType := (⟨"ArchiveBench$Row", "numberAt", "(I)I"⟩, prog_5_method_3_code, 2, (some .int))
abbrev rr_Row_numberAt : Nat × Nat := (1, 21)
def mm_Ar_readEntry : MethodName × ByteArray × Nat × Option FieldType := (⟨"ArchiveBench$Archive", "readEntry", "(LArchiveBench$OpenFile;I)I"⟩, prog_2_method_12_code, 5, (some .int))
abbrev rr_Ar_readEntry : Nat × Nat := (4, 90)
def mm_AB_place : MethodName × ByteArray × Nat × Option FieldType := (⟨"ArchiveBench", "place", "()I"⟩, prog_1_method_10_code, 1, (some .int))
abbrev rr_AB_place : Nat × Nat := (0, 0)
def mm_AB_take : MethodName × ByteArray × Nat × Option FieldType := (⟨"ArchiveBench", "take", "(I)I"⟩, prog_1_method_11_code, 3, (some .int))
abbrev rr_AB_take : Nat × Nat := (4, 102)
def mm_Ar_has : MethodName × ByteArray × Nat × Option FieldType := (⟨"ArchiveBench$Archive", "has", "(I)Z"⟩, prog_2_method_3_code, 2, (some .boolean))
abbrev rr_Ar_has : Nat × Nat := (0, 0)
def mm_OF_hasSafeName : MethodName × ByteArray × Nat × Option FieldType := (⟨"ArchiveBench$OpenFile", "hasSafeName", "()Z"⟩, prog_3_method_3_code, 3, (some .boolean))
abbrev rr_OF_hasSafeName : Nat × Nat := (2, 44)
def mm_OF_isSafePart : MethodName × ByteArray × Nat × Option FieldType := (⟨"ArchiveBench$OpenFile", "isSafePart", "(II)Z"⟩, prog_3_method_4_code, 4, (some .boolean))
abbrev rr_OF_isSafePart : Nat × Nat := (1, 21)
def mm_Ar_hasNameBefore : MethodName × ByteArray × Nat × Option FieldType := (⟨"ArchiveBench$Archive", "hasNameBefore", "(I)Z"⟩, prog_2_method_4_code, 3, (some .boolean))
abbrev rr_Ar_hasNameBefore : Nat × Nat := (2, 43)
def mm_Row_isSameAs : MethodName × ByteArray × Nat × Option FieldType := (⟨"ArchiveBench$Row", "isSameAs", "(LArchiveBench$Row;)Z"⟩, prog_5_method_12_code, 3, (some .boolean))
abbrev rr_Row_isSameAs : Nat × Nat := (1, 21)
def mm_Un_unsqueeze : MethodName × ByteArray × Nat × Option FieldType := (⟨"ArchiveBench$Unsqueezing", "unsqueeze", "(LArchiveBench$Row;LArchiveBench$OpenFile;LArchiveBench$Row;)Z"⟩, prog_7_method_2_code, 6, (some .boolean))
abbrev rr_Un_unsqueeze : Nat × Nat := (3, 77)
def mm_Un_unsqueezeRuns : MethodName × ByteArray × Nat × Option FieldType := (⟨"ArchiveBench$Unsqueezing", "unsqueezeRuns", "(LArchiveBench$Row;IILArchiveBench$Row;)Z"⟩, prog_7_method_3_code, 8, (some .boolean))
abbrev rr_Un_unsqueezeRuns : Nat × Nat := (1, 23)
def mm_Un_unsqueezeCopies : MethodName × ByteArray × Nat × Option FieldType := (⟨"ArchiveBench$Unsqueezing", "unsqueezeCopies", "(LArchiveBench$Row;IILArchiveBench$Row;)Z"⟩, prog_7_method_4_code, 9, (some .boolean))
abbrev rr_Un_unsqueezeCopies : Nat × Nat := (2, 49)
def mm_Un_copyBack : MethodName × ByteArray × Nat × Option FieldType := (⟨"ArchiveBench$Unsqueezing", "copyBack", "(LArchiveBench$Row;II)Z"⟩, prog_7_method_5_code, 4, (some .boolean))
abbrev rr_Un_copyBack : Nat × Nat := (1, 21)
def mm_AB_taken : MethodName × ByteArray × Nat × Option FieldType := (⟨"ArchiveBench", "taken", "(I)I"⟩, prog_1_method_12_code, 2, (some .int))
abbrev rr_AB_taken : Nat × Nat := (1, 21)
def mm_AB_file : MethodName × ByteArray × Nat × Option FieldType := (⟨"ArchiveBench", "file", "(II)I"⟩, prog_1_method_13_code, 3, (some .int))
abbrev rr_AB_file : Nat × Nat := (2, 42)
def mm_OF_tell : MethodName × ByteArray × Nat × Option FieldType := (⟨"ArchiveBench$OpenFile", "tell", "(I)I"⟩, prog_3_method_2_code, 2, (some .int))
abbrev rr_OF_tell : Nat × Nat := (1, 21)
def mm_AB_count : MethodName × ByteArray × Nat × Option FieldType := (⟨"ArchiveBench", "count", "(I)I"⟩, prog_1_method_14_code, 2, (some .int))
abbrev rr_AB_count : Nat × Nat := (0, 0)
def mm_Md_init : MethodName × ByteArray × Nat × Option FieldType := (⟨"ArchiveBenchModel", "<init>", "()V"⟩, prog_10_method_1_code, 1, none)
abbrev rr_Md_init : Nat × Nat := (1, 20)
def mm_Md_name : MethodName × ByteArray × Nat × Option FieldType := (⟨"ArchiveBenchModel", "name", "(I)I"⟩, prog_10_method_4_code, 2, (some .int))
abbrev rr_Md_name : Nat × Nat := (2, 42)
def mm_Md_sign : MethodName × ByteArray × Nat × Option FieldType := (⟨"ArchiveBenchModel", "sign", "(I)Z"⟩, prog_10_method_3_code, 1, (some .boolean))
abbrev rr_Md_sign : Nat × Nat := (1, 22)
def mm_Md_in : MethodName × ByteArray × Nat × Option FieldType := (⟨"ArchiveBenchModel", "in", "(III)Z"⟩, prog_10_method_2_code, 3, (some .boolean))
abbrev rr_Md_in : Nat × Nat := (0, 0)
def mm_Md_data : MethodName × ByteArray × Nat × Option FieldType := (⟨"ArchiveBenchModel", "data", "(II)I"⟩, prog_10_method_5_code, 4, (some .int))
abbrev rr_Md_data : Nat × Nat := (1, 22)
def mm_Md_add : MethodName × ByteArray × Nat × Option FieldType := (⟨"ArchiveBenchModel", "add", "(I)I"⟩, prog_10_method_6_code, 3, (some .int))
abbrev rr_Md_add : Nat × Nat := (1, 22)
def mm_Md_pack : MethodName × ByteArray × Nat × Option FieldType := (⟨"ArchiveBenchModel", "pack", "(I)I"⟩, prog_10_method_22_code, 3, (some .int))
abbrev rr_Md_pack : Nat × Nat := (5, 117)
def mm_Md_chain : MethodName × ByteArray × Nat × Option FieldType := (⟨"ArchiveBenchModel", "chain", "()V"⟩, prog_10_method_20_code, 5, none)
abbrev rr_Md_chain : Nat × Nat := (4, 93)
def mm_Md_squeeze : MethodName × ByteArray × Nat × Option FieldType := (⟨"ArchiveBenchModel", "squeeze", "(I)V"⟩, prog_10_method_13_code, 3, none)
abbrev rr_Md_squeeze : Nat × Nat := (3, 71)
def mm_Md_runs : MethodName × ByteArray × Nat × Option FieldType := (⟨"ArchiveBenchModel", "runs", "(I)V"⟩, prog_10_method_9_code, 7, none)
abbrev rr_Md_runs : Nat × Nat := (1, 22)
def mm_Md_byteOf : MethodName × ByteArray × Nat × Option FieldType := (⟨"ArchiveBenchModel", "byteOf", "(II)I"⟩, prog_10_method_8_code, 3, (some .int))
abbrev rr_Md_byteOf : Nat × Nat := (0, 0)
def mm_Md_push : MethodName × ByteArray × Nat × Option FieldType := (⟨"ArchiveBenchModel", "push", "(I)V"⟩, prog_10_method_7_code, 2, none)
abbrev rr_Md_push : Nat × Nat := (0, 0)
def mm_Md_copies : MethodName × ByteArray × Nat × Option FieldType := (⟨"ArchiveBenchModel", "copies", "(I)V"⟩, prog_10_method_12_code, 6, none)
abbrev rr_Md_copies : Nat × Nat := (2, 46)
def mm_Md_copyLength : MethodName × ByteArray × Nat × Option FieldType := (⟨"ArchiveBenchModel", "copyLength", "(III)I"⟩, prog_10_method_10_code, 5, (some .int))
abbrev rr_Md_copyLength : Nat × Nat := (1, 22)
def mm_Md_literals : MethodName × ByteArray × Nat × Option FieldType := (⟨"ArchiveBenchModel", "literals", "(III)V"⟩, prog_10_method_11_code, 5, none)
abbrev rr_Md_literals : Nat × Nat := (1, 22)
def mm_Md_say : MethodName × ByteArray × Nat × Option FieldType := (⟨"ArchiveBenchModel", "say", "(I)V"⟩, prog_10_method_16_code, 2, none)
abbrev rr_Md_say : Nat × Nat := (0, 0)
def mm_Md_sayHead : MethodName × ByteArray × Nat × Option FieldType := (⟨"ArchiveBenchModel", "sayHead", "(I)V"⟩, prog_10_method_19_code, 3, none)
abbrev rr_Md_sayHead : Nat × Nat := (1, 21)
def mm_Md_checkOf : MethodName × ByteArray × Nat × Option FieldType := (⟨"ArchiveBenchModel", "checkOf", "(I)I"⟩, prog_10_method_15_code, 4, (some .int))
abbrev rr_Md_checkOf : Nat × Nat := (1, 24)
def mm_Md_checked : MethodName × ByteArray × Nat × Option FieldType := (⟨"ArchiveBenchModel", "checked", "(II)I"⟩, prog_10_method_14_code, 5, (some .int))
abbrev rr_Md_checked : Nat × Nat := (0, 0)
def mm_Md_sayTwo : MethodName × ByteArray × Nat × Option FieldType := (⟨"ArchiveBenchModel", "sayTwo", "(I)V"⟩, prog_10_method_17_code, 2, none)
abbrev rr_Md_sayTwo : Nat × Nat := (1, 21)
def mm_Md_sayRow : MethodName × ByteArray × Nat × Option FieldType := (⟨"ArchiveBenchModel", "sayRow", "()V"⟩, prog_10_method_18_code, 2, none)
abbrev rr_Md_sayRow : Nat × Nat := (1, 21)
def mm_Md_index : MethodName × ByteArray × Nat × Option FieldType := (⟨"ArchiveBenchModel", "index", "()V"⟩, prog_10_method_21_code, 5, none)
abbrev rr_Md_index : Nat × Nat := (4, 93)
def mm_Md_put : MethodName × ByteArray × Nat × Option FieldType := (⟨"ArchiveBenchModel", "put", "(II)I"⟩, prog_10_method_23_code, 3, (some .int))
abbrev rr_Md_put : Nat × Nat := (1, 22)
def mm_Md_cut : MethodName × ByteArray × Nat × Option FieldType := (⟨"ArchiveBenchModel", "cut", "(I)I"⟩, prog_10_method_24_code, 2, (some .int))
abbrev rr_Md_cut : Nat × Nat := (1, 22)
def mm_Md_image : MethodName × ByteArray × Nat × Option FieldType := (⟨"ArchiveBenchModel", "image", "(I)I"⟩, prog_10_method_25_code, 2, (some .int))
abbrev rr_Md_image : Nat × Nat := (1, 22)
def mm_Md_open : MethodName × ByteArray × Nat × Option FieldType := (⟨"ArchiveBenchModel", "open", "()I"⟩, prog_10_method_33_code, 3, (some .int))
abbrev rr_Md_open : Nat × Nat := (5, 119)
def mm_Md_openIndex : MethodName × ByteArray × Nat × Option FieldType := (⟨"ArchiveBenchModel", "openIndex", "()I"⟩, prog_10_method_32_code, 7, (some .int))
abbrev rr_Md_openIndex : Nat × Nat := (4, 93)
def mm_Md_stop : MethodName × ByteArray × Nat × Option FieldType := (⟨"ArchiveBenchModel", "stop", "(II)I"⟩, prog_10_method_26_code, 3, (some .int))
abbrev rr_Md_stop : Nat × Nat := (0, 0)
def mm_Md_two : MethodName × ByteArray × Nat × Option FieldType := (⟨"ArchiveBenchModel", "two", "(I)I"⟩, prog_10_method_27_code, 2, (some .int))
abbrev rr_Md_two : Nat × Nat := (0, 0)
def mm_Md_openEntry : MethodName × ByteArray × Nat × Option FieldType := (⟨"ArchiveBenchModel", "openEntry", "(III)I"⟩, prog_10_method_31_code, 6, (some .int))
abbrev rr_Md_openEntry : Nat × Nat := (3, 68)
def mm_Md_head : MethodName × ByteArray × Nat × Option FieldType := (⟨"ArchiveBenchModel", "head", "(II)I"⟩, prog_10_method_28_code, 7, (some .int))
abbrev rr_Md_head : Nat × Nat := (2, 42)
def mm_Md_note : MethodName × ByteArray × Nat × Option FieldType := (⟨"ArchiveBenchModel", "note", "(IIII)V"⟩, prog_10_method_29_code, 6, none)
abbrev rr_Md_note : Nat × Nat := (0, 0)
def mm_Md_openChain : MethodName × ByteArray × Nat × Option FieldType := (⟨"ArchiveBenchModel", "openChain", "()I"⟩, prog_10_method_30_code, 8, (some .int))
abbrev rr_Md_openChain : Nat × Nat := (3, 68)
def mm_Md_place : MethodName × ByteArray × Nat × Option FieldType := (⟨"ArchiveBenchModel", "place", "()I"⟩, prog_10_method_34_code, 1, (some .int))
abbrev rr_Md_place : Nat × Nat := (0, 0)
def mm_Md_take : MethodName × ByteArray × Nat × Option FieldType := (⟨"ArchiveBenchModel", "take", "(I)I"⟩, prog_10_method_42_code, 4, (some .int))
abbrev rr_Md_take : Nat × Nat := (4, 95)
def mm_Md_safe : MethodName × ByteArray × Nat × Option FieldType := (⟨"ArchiveBenchModel", "safe", "(I)Z"⟩, prog_10_method_37_code, 6, (some .boolean))
abbrev rr_Md_safe : Nat × Nat := (2, 44)
def mm_Md_of : MethodName × ByteArray × Nat × Option FieldType := (⟨"ArchiveBenchModel", "of", "(II)I"⟩, prog_10_method_35_code, 3, (some .int))
abbrev rr_Md_of : Nat × Nat := (0, 0)
def mm_Md_nameAt : MethodName × ByteArray × Nat × Option FieldType := (⟨"ArchiveBenchModel", "nameAt", "(II)I"⟩, prog_10_method_36_code, 3, (some .int))
abbrev rr_Md_nameAt : Nat × Nat := (1, 22)
def mm_Md_sameName : MethodName × ByteArray × Nat × Option FieldType := (⟨"ArchiveBenchModel", "sameName", "(II)Z"⟩, prog_10_method_38_code, 4, (some .boolean))
abbrev rr_Md_sameName : Nat × Nat := (2, 44)
def mm_Md_unsqueeze : MethodName × ByteArray × Nat × Option FieldType := (⟨"ArchiveBenchModel", "unsqueeze", "(I)Z"⟩, prog_10_method_41_code, 5, (some .boolean))
abbrev rr_Md_unsqueeze : Nat × Nat := (3, 71)
def mm_Md_piece : MethodName × ByteArray × Nat × Option FieldType := (⟨"ArchiveBenchModel", "piece", "(III)I"⟩, prog_10_method_40_code, 8, (some .int))
abbrev rr_Md_piece : Nat × Nat := (2, 44)
def mm_Md_make : MethodName × ByteArray × Nat × Option FieldType := (⟨"ArchiveBenchModel", "make", "(II)Z"⟩, prog_10_method_39_code, 3, (some .boolean))
abbrev rr_Md_make : Nat × Nat := (1, 22)
def mm_Md_taken : MethodName × ByteArray × Nat × Option FieldType := (⟨"ArchiveBenchModel", "taken", "(I)I"⟩, prog_10_method_43_code, 2, (some .int))
abbrev rr_Md_taken : Nat × Nat := (1, 22)
def mm_Md_file : MethodName × ByteArray × Nat × Option FieldType := (⟨"ArchiveBenchModel", "file", "(II)I"⟩, prog_10_method_44_code, 3, (some .int))
abbrev rr_Md_file : Nat × Nat := (1, 22)
def mm_Md_count : MethodName × ByteArray × Nat × Option FieldType := (⟨"ArchiveBenchModel", "count", "(I)I"⟩, prog_10_method_45_code, 2, (some .int))
abbrev rr_Md_count : Nat × Nat := (0, 0)
def mm_Lw_law : MethodName × ByteArray × Nat × Option FieldType := (⟨"ArchiveBenchLaw", "law", "([I)Z"⟩, code, 4, (some .boolean))
abbrev rr_Lw_law : Nat × Nat := (7, 166)
end
section
/-! ONE MACHINE FOR ALL METHODS. A world is a function from numbers (ids) to cells; id 0 is the script. 'ab_R G M d pc lv st w r w2': the method M, at pc with locals lv and stack st in the world w, comes to its return with r, in the world w2. One row an instruction; the machine of the kit is behind it. -/
abbrev ab_H : Type := Nat → Option va_E
abbrev ab_W : Type := ab_H × Nat × Nat
abbrev ab_M : Type := MethodName × ByteArray × Nat × Option FieldType
abbrev ab_G : Type := Launch × va_G × List (ClassId × FieldType) × Nat × Nat × Nat × (Nat → Int32)
abbrev g_l (G : ab_G) : Launch := G.1
abbrev g_D (G : ab_G) : va_G := G.2.1
abbrev g_T (G : ab_G) : List (ClassId × FieldType) := G.2.2.1
abbrev g_b (G : ab_G) : Nat := G.2.2.2.1
abbrev g_B (G : ab_G) : Nat := G.2.2.2.2.1
abbrev g_L (G : ab_G) : Nat := G.2.2.2.2.2.1
abbrev g_x (G : ab_G) : Nat → Int32 := G.2.2.2.2.2.2
def ab_ad (G : ab_G) (i : Nat) : Nat := if i = 0 then g_b G else g_B G + i
def ab_v (G : ab_G) (v : Value) : Value := match v with
  | .ref a => .ref (ab_ad G a)
  | w => w
def ab_q (G : ab_G) (x : vp_A) : vp_A := match x with
  | (n, .inr (.inr (.inr (.inr f)))) => (n, .inr (.inr (.inr (.inr (fun i => (f i).map (ab_ad G))))))
  | y => y
def ab_e (G : ab_G) (x : va_E) : va_E := match x with
  | .inl (t, y) => .inl (((g_T G).getD t (0, .int)).1, ab_q G y)
  | .inr (ci, fs) => .inr (ci, fs.map (ab_v G))
def ab_w (G : ab_G) (h : ab_H) (n : Nat) : va_W := (List.range (n - 1)).map (fun i => (g_B G + (i + 1), ab_e G ((h (i + 1)).getD (.inr (0, [])))))
def ab_l (G : ab_G) (lv : List (Nat × Value)) : List (Nat × Value) := lv.map (fun q => (q.1, ab_v G q.2))
def ab_L (G : ab_G) (M : ab_M) (lv : List (Nat × Value)) (ls : Array Slot) : Prop := lv_has ls M.2.2.1 (ab_l G lv) ∧ ∀ q ∈ lv, q.2.category = 1
def ab_A (G : ab_G) : Nat → Prop := fun q => g_B G < q
def ab_dom (w : ab_W) : Prop := 1 ≤ w.2.1 ∧ ∀ i, (w.1 i).isSome = true ↔ 0 < i ∧ i < w.2.1
/-- the words that hold in every state, and stay -/
def ab_T : List Cond := lw_tbl.filter goodWord
theorem ab_T_in {w : Cond} (h : w ∈ lw_tbl) (hg : goodWord w = true) : w ∈ ab_T := List.mem_filter.mpr ⟨h, hg⟩
def ab_K (G : ab_G) (s : State) : Prop := va_K (g_D G) vwCl (g_T G) s ∧ (g_T G).map Prod.snd = ab_tys ∧ va_X (g_b G) (g_L G) (g_x G) s s.heap ∧ g_b G ≤ g_B G ∧ g_B G < s.heap.size ∧ (∀ q ∈ ab_nestM, va_Nw (.methodLinkNest q.1 q.2.1 q.2.2.1 q.2.2.2) s) ∧ ∀ C ∈ ab_over, va_AO C s
def ab_C (G : ab_G) (M : ab_M) (d : Nat × Nat) (p : Program) (R : Room) (s : State) (m : MethodId) (args : Array Value) (meth : Method) (c : Code) : Prop :=
  p.tables.exec = Jvm.exec ∧ c.code = M.2.1 ∧ meth.sig.returnType = M.2.2.2 ∧ c.maxLocals = M.2.2.1 ∧ s.vm.findClass M.1.cls = some m.cls ∧ (∀ w ∈ ab_T, w.before args s = true) ∧ meth.locks = false ∧ meth.name = M.1.name ∧ d.1 ≤ R.frames ∧ d.2 ≤ R.locals ∧ ab_K G s
def ab_I (G : ab_G) (w : ab_W) (s : State) (H : Heap) (locs : List Loc) : Prop := ab_dom w ∧ va_P (g_D G) vwCl (ab_w G w.1 w.2.1) H ∧ va_S (ab_A G) s.heap H locs
def ab_end (cc : ByteArray) (pc : Nat) (r : Option Value) : Prop := (r = none ∧ decode cc pc = .ok (.return_, 1)) ∨ (∃ x, r = some (.int x) ∧ decode cc pc = .ok (.ireturn, 1)) ∨ ∃ a, r = some (.ref a) ∧ decode cc pc = .ok (.areturn, 1)
def ab_R (G : ab_G) (M : ab_M) (d : Nat × Nat) (pc : Nat) (lv : List (Nat × Value)) (st : List Value) (w : ab_W) (r : Option Value) (w2 : ab_W) : Prop :=
  w.2.1 ≤ w2.2.1 ∧ w.2.2 ≤ w2.2.2 ∧ ∀ (p : Program) (e : Env) (R : Room) (s : State) (m : MethodId) (args : Array Value) (below : List Frame) (meth : Method) (c : Code) (H : Heap) (locs : List Loc) (cells slots : Nat) (ls : Array Slot) (Q : State → Prop),
    ab_C G M d p R s m args meth c → ab_I G w s H locs → s.heap.size + cells = g_B G + w.2.1 → cells + (w2.2.1 - w.2.1) ≤ R.cells → slots + (w2.2.2 - w.2.2) ≤ R.slots → ab_L G M lv ls →
    (∀ (H1 : Heap) (locs1 : List Loc) (pc1 : Nat) (ls1 : Array Slot), ab_I G w2 s H1 locs1 → ab_end M.2.1 pc1 r → W p (g_l G) e R s m args below meth c H1 locs1 (cells + (w2.2.1 - w.2.1)) (slots + (w2.2.2 - w.2.2)) Q (F0 m pc1 ls1 (r.toList.map (ab_v G)))) →
    W p (g_l G) e R s m args below meth c H locs cells slots Q (F0 m pc ls (st.map (ab_v G)))
theorem ab_v_i (G : ab_G) (x : Int32) : ab_v G (.int x) = .int x := rfl
theorem ab_v_r (G : ab_G) (a : Nat) : ab_v G (.ref a) = .ref (ab_ad G a) := rfl
theorem ab_cat (G : ab_G) (v : Value) : (ab_v G v).category = v.category := by cases v <;> rfl
theorem ab_cats (G : ab_G) (st : List Value) : ((st.map (ab_v G)).map fun v => v.category) = st.map fun v => v.category := by
  rw [List.map_map]; exact List.map_congr_left (fun v _ => ab_cat G v)
theorem ab_ad_pos (G : ab_G) {a : Nat} (h : 0 < a) : ab_ad G a = g_B G + a := if_neg (by omega)
theorem ab_w_get (G : ab_G) {h : ab_H} {n a : Nat} {x : va_E} (hx : h a = some x) (h0 : 0 < a) (hn : a < n) : (ab_w G h n)[a - 1]? = some (ab_ad G a, ab_e G x) := by
  have e1 : a - 1 + 1 = a := by omega
  rw [ab_w, List.getElem?_map, List.getElem?_range (by omega), Option.map_some, e1, hx, ab_ad_pos G h0]
  rfl
theorem ab_w_at (G : ab_G) {h : ab_H} {n k : Nat} {q : Nat × va_E} (hk : (ab_w G h n)[k]? = some q) : k + 1 < n ∧ q = (g_B G + (k + 1), ab_e G ((h (k + 1)).getD (.inr (0, [])))) := by
  rw [ab_w, List.getElem?_map] at hk
  by_cases hl : k < n - 1
  · rw [List.getElem?_range hl, Option.map_some] at hk
    exact ⟨by omega, (Option.some.inj hk).symm⟩
  · rw [List.getElem?_eq_none (by simpa using hl)] at hk
    cases hk
theorem ab_w_set (G : ab_G) {h : ab_H} {n a : Nat} (x : va_E) (h0 : 0 < a) (hn : a < n) : (ab_w G h n).set (a - 1) (ab_ad G a, ab_e G x) = ab_w G (va_up h a (some x)) n := by
  apply List.ext_getElem?
  intro k
  have e1 : a - 1 + 1 = a := by omega
  by_cases hl : k < n - 1
  · by_cases hk : k = a - 1
    · subst hk
      rw [List.getElem?_set_self (by simp [ab_w]; omega), ab_w_get G (x := x) (by simp [va_up]) h0 hn]
    · rw [List.getElem?_set_ne (Ne.symm hk), ab_w, ab_w, List.getElem?_map, List.getElem?_map, List.getElem?_range hl]
      have e2 : va_up h a (some x) (k + 1) = h (k + 1) := if_neg (by omega)
      simp only [Option.map_some, e2]
  · rw [List.getElem?_eq_none (by simp [ab_w]; omega), List.getElem?_eq_none (by simp [ab_w]; omega)]
theorem ab_w_push (G : ab_G) {h : ab_H} {n : Nat} (x : va_E) (hn : 1 ≤ n) : ab_w G h n ++ [(g_B G + n, ab_e G x)] = ab_w G (va_up h n (some x)) (n + 1) := by
  have e1 : n + 1 - 1 = (n - 1) + 1 := by omega
  have e2 : n - 1 + 1 = n := by omega
  rw [ab_w, ab_w, e1, List.range_succ, List.map_append]
  congr 1
  · apply List.map_congr_left
    intro i hi
    have hi' := List.mem_range.mp hi
    have e3 : va_up h n (some x) (i + 1) = h (i + 1) := if_neg (by omega)
    rw [e3]
  · simp only [List.map_cons, List.map_nil, e2]
    have e3 : va_up h n (some x) n = some x := if_pos rfl
    rw [e3]
    rfl
theorem ab_w_D (G : ab_G) (h : ab_H) (n : Nat) : va_D (ab_A G) (ab_w G h n) := by
  refine ⟨fun i j x y hi hj hxy => ?_, fun k q hk => ?_⟩
  · rw [(ab_w_at G hi).2, (ab_w_at G hj).2] at hxy
    dsimp only at hxy
    omega
  · rw [(ab_w_at G hk).2]
    show g_B G < g_B G + (k + 1)
    omega
theorem ab_dom.pos {w : ab_W} (h : ab_dom w) {a : Nat} {x : va_E} (hx : w.1 a = some x) : 0 < a ∧ a < w.2.1 := (h.2 a).mp (by rw [hx]; rfl)
theorem ab_dom.set {w : ab_W} (h : ab_dom w) {a : Nat} {x y : va_E} (hx : w.1 a = some x) : ab_dom (va_up w.1 a (some y), w.2) := by
  refine ⟨h.1, fun i => ?_⟩
  by_cases hi : i = a
  · subst hi
    have e : va_up w.1 i (some y) i = some y := if_pos rfl
    show (va_up w.1 i (some y) i).isSome = true ↔ _
    rw [e]
    exact ⟨fun _ => h.pos hx, fun _ => rfl⟩
  · have e : va_up w.1 a (some y) i = w.1 i := if_neg hi
    show (va_up w.1 a (some y) i).isSome = true ↔ _
    rw [e]
    exact h.2 i
theorem ab_dom.push {w : ab_W} (h : ab_dom w) (x : va_E) (k : Nat) : ab_dom (va_up w.1 w.2.1 (some x), w.2.1 + 1, k) := by
  refine ⟨Nat.le_add_left _ _, fun i => ?_⟩
  show (va_up w.1 w.2.1 (some x) i).isSome = true ↔ 0 < i ∧ i < w.2.1 + 1
  by_cases hi : i = w.2.1
  · have e : va_up w.1 w.2.1 (some x) i = some x := if_pos hi
    rw [e]
    have := h.1
    exact ⟨fun _ => ⟨by omega, by omega⟩, fun _ => rfl⟩
  · have e : va_up w.1 w.2.1 (some x) i = w.1 i := if_neg hi
    rw [e, h.2 i]
    omega
/-- a local's value; storing one -/
def ab_at : List (Nat × Value) → Nat → Option Value
  | [], _ => none
  | (j, v) :: t, i => if j = i then some v else ab_at t i
def ab_rm : List (Nat × Value) → Nat → List (Nat × Value)
  | [], _ => []
  | (j, w) :: t, i => if j = i then ab_rm t i else (j, w) :: ab_rm t i
def ab_st : List (Nat × Value) → Nat → Value → List (Nat × Value)
  | [], i, v => [(i, v)]
  | (j, w) :: t, i, v => if j = i then (i, v) :: ab_rm t i else (j, w) :: ab_st t i v
theorem ab_at_mem : ∀ {lv : List (Nat × Value)} {i : Nat} {v : Value}, ab_at lv i = some v → (i, v) ∈ lv
  | [], _, _, h => by simp [ab_at] at h
  | (j, w) :: t, i, v, h => by
    unfold ab_at at h
    split at h
    · rename_i e
      subst e
      cases h
      exact List.mem_cons_self
    · exact List.mem_cons_of_mem _ (ab_at_mem h)
theorem ab_rm_mem : ∀ {lv : List (Nat × Value)} {i : Nat} {q : Nat × Value}, q ∈ ab_rm lv i → q ∈ lv ∧ q.1 ≠ i
  | [], _, _, h => by simp [ab_rm] at h
  | (j, w) :: t, i, q, h => by
    unfold ab_rm at h
    split at h
    · exact ⟨List.mem_cons_of_mem _ (ab_rm_mem h).1, (ab_rm_mem h).2⟩
    · rename_i e
      rcases List.mem_cons.mp h with rfl | h
      · exact ⟨List.mem_cons_self, e⟩
      · exact ⟨List.mem_cons_of_mem _ (ab_rm_mem h).1, (ab_rm_mem h).2⟩
theorem ab_st_mem : ∀ {lv : List (Nat × Value)} {i : Nat} {v : Value} {q : Nat × Value}, q ∈ ab_st lv i v → q = (i, v) ∨ (q ∈ lv ∧ q.1 ≠ i)
  | [], _, _, _, h => by
    simp [ab_st] at h
    exact Or.inl h
  | (j, w) :: t, i, v, q, h => by
    unfold ab_st at h
    split at h
    · rcases List.mem_cons.mp h with rfl | h
      · exact Or.inl rfl
      · exact Or.inr ⟨List.mem_cons_of_mem _ (ab_rm_mem h).1, (ab_rm_mem h).2⟩
    · rename_i e
      rcases List.mem_cons.mp h with rfl | h
      · exact Or.inr ⟨List.mem_cons_self, e⟩
      · rcases ab_st_mem h with h | h
        · exact Or.inl h
        · exact Or.inr ⟨List.mem_cons_of_mem _ h.1, h.2⟩
theorem ab_L.at {G : ab_G} {M : ab_M} {lv : List (Nat × Value)} {ls : Array Slot} (h : ab_L G M lv ls) {i : Nat} {v : Value} (hv : ab_at lv i = some v) : ls[i]? = some (.val (ab_v G v)) :=
  h.1.2.2 (i, ab_v G v) (List.mem_map.mpr ⟨(i, v), ab_at_mem hv, rfl⟩)
theorem ab_L.set {G : ab_G} {M : ab_M} {lv : List (Nat × Value)} {ls : Array Slot} (h : ab_L G M lv ls) {i : Nat} {v : Value} (hc : v.category = 1) {ls2 : Array Slot}
    (h2 : lv_has ls2 M.2.2.1 ((i, ab_v G v) :: (ab_l G lv).filter (fun q => !(q.1 == i) && !(q.1 + 1 == i && q.2.category == 2)))) : ab_L G M (ab_st lv i v) ls2 := by
  refine ⟨⟨h2.1, h2.2.1, fun q hq => ?_⟩, fun q hq => ?_⟩
  · obtain ⟨q0, hq0, rfl⟩ := List.mem_map.mp hq
    rcases ab_st_mem hq0 with rfl | ⟨h3, h4⟩
    · exact h2.2.2 _ List.mem_cons_self
    · refine h2.2.2 (q0.1, ab_v G q0.2) (List.mem_cons_of_mem _ (List.mem_filter.mpr ⟨List.mem_map.mpr ⟨q0, h3, rfl⟩, ?_⟩))
      have h5 := h.2 q0 h3
      simp [h4, ab_cat, h5]
  · rcases ab_st_mem hq with rfl | ⟨h3, -⟩
    · exact hc
    · exact h.2 q h3
end
section
/-! The rows. -/
def ab_rt (ret : Option FieldType) (r : Option Value) : Prop := match r with
  | none => ret = none
  | some (.int x) => ∃ ty, ret = some ty ∧ narrow ty (.int x) = .int x
  | some (.ref _) => ∃ ty, ret = some ty ∧ ((∃ n, ty = .object n) ∨ ∃ t, ty = .array t)
  | _ => False
/-- from here the method comes to its end, with an answer and a world of which P holds -/
def ab_E (G : ab_G) (M : ab_M) (d : Nat × Nat) (pc : Nat) (lv : List (Nat × Value)) (st : List Value) (w : ab_W) (P : Option Value → ab_W → Prop) : Prop := ∃ r w2, ab_R G M d pc lv st w r w2 ∧ ab_rt M.2.2.2 r ∧ P r w2
theorem ab_E.mono {G : ab_G} {M : ab_M} {d : Nat × Nat} {pc : Nat} {lv : List (Nat × Value)} {st : List Value} {w : ab_W} {P P2 : Option Value → ab_W → Prop} (h : ab_E G M d pc lv st w P) (hP : ∀ r w2, P r w2 → P2 r w2) : ab_E G M d pc lv st w P2 := by
  obtain ⟨r, w2, h1, h2, h3⟩ := h
  exact ⟨r, w2, h1, h2, hP r w2 h3⟩
theorem ab_C.room {G : ab_G} {M : ab_M} {d d2 : Nat × Nat} {p : Program} {R : Room} {s : State} {m : MethodId} {args : Array Value} {meth : Method} {c : Code} (h : ab_C G M d p R s m args meth c) (h1 : d2.1 ≤ d.1) (h2 : d2.2 ≤ d.2) : ab_C G M d2 p R s m args meth c := by
  obtain ⟨a1, a2, a3, a4, a5, a6, a7, a8, a9, a10, a11⟩ := h
  exact ⟨a1, a2, a3, a4, a5, a6, a7, a8, Nat.le_trans h1 a9, Nat.le_trans h2 a10, a11⟩
theorem ab_E.room {G : ab_G} {M : ab_M} {d d2 : Nat × Nat} {pc : Nat} {lv : List (Nat × Value)} {st : List Value} {w : ab_W} {P : Option Value → ab_W → Prop} (h : ab_E G M d2 pc lv st w P) (h1 : d2.1 ≤ d.1) (h2 : d2.2 ≤ d.2) : ab_E G M d pc lv st w P := by
  obtain ⟨r, w2, ⟨b1, b2, b3⟩, hr, hP⟩ := h
  exact ⟨r, w2, ⟨b1, b2, fun p e R s m args below meth c H locs cells slots ls Q C => b3 p e R s m args below meth c H locs cells slots ls Q (C.room h1 h2)⟩, hr, hP⟩
section AB
variable {G : ab_G} {M : ab_M} {d : Nat × Nat} {pc : Nat} {lv : List (Nat × Value)} {st : List Value} {w : ab_W} {P : Option Value → ab_W → Prop}
/-- a step that changes no cell -/
theorem ab_go {pc1 : Nat} {lv1 : List (Nat × Value)} {st1 : List Value}
    (step : ∀ (p : Program) (e : Env) (R : Room) (s : State) (m : MethodId) (args : Array Value) (below : List Frame) (meth : Method) (c : Code) (H : Heap) (locs : List Loc) (cells slots : Nat) (ls : Array Slot) (Q : State → Prop), ab_C G M d p R s m args meth c → ab_I G w s H locs → cells ≤ R.cells → slots ≤ R.slots → ab_L G M lv ls → (∀ ls1, ab_L G M lv1 ls1 → W p (g_l G) e R s m args below meth c H locs cells slots Q (F0 m pc1 ls1 (st1.map (ab_v G)))) → W p (g_l G) e R s m args below meth c H locs cells slots Q (F0 m pc ls (st.map (ab_v G))))
    (kk : ab_E G M d pc1 lv1 st1 w P) : ab_E G M d pc lv st w P := by
  obtain ⟨r, w2, ⟨b1, b2, b3⟩, hr, hP⟩ := kk
  exact ⟨r, w2, ⟨b1, b2, fun p e R s m args below meth c H locs cells slots ls Q C I hz hc hs hl hret => step p e R s m args below meth c H locs cells slots ls Q C I (by omega) (by omega) hl (fun ls1 hl1 => b3 p e R s m args below meth c H locs cells slots ls1 Q C I hz hc hs hl1 hret)⟩, hr, hP⟩
/-- a step that writes one cell -/
theorem ab_goW {pc1 : Nat} {st1 : List Value} {h1 : ab_H}
    (step : ∀ (p : Program) (e : Env) (R : Room) (s : State) (m : MethodId) (args : Array Value) (below : List Frame) (meth : Method) (c : Code) (H : Heap) (locs : List Loc) (cells slots : Nat) (ls : Array Slot) (Q : State → Prop), ab_C G M d p R s m args meth c → ab_I G w s H locs → ab_L G M lv ls → (∀ (H1 : Heap) (locs1 : List Loc), ab_I G (h1, w.2) s H1 locs1 → W p (g_l G) e R s m args below meth c H1 locs1 cells slots Q (F0 m pc1 ls (st1.map (ab_v G)))) → W p (g_l G) e R s m args below meth c H locs cells slots Q (F0 m pc ls (st.map (ab_v G))))
    (kk : ab_E G M d pc1 lv st1 (h1, w.2) P) : ab_E G M d pc lv st w P := by
  obtain ⟨r, w2, ⟨b1, b2, b3⟩, hr, hP⟩ := kk
  exact ⟨r, w2, ⟨b1, b2, fun p e R s m args below meth c H locs cells slots ls Q C I hz hc hs hl hret => step p e R s m args below meth c H locs cells slots ls Q C I hl (fun H1 locs1 I1 => b3 p e R s m args below meth c H1 locs1 cells slots ls Q C I1 hz hc hs hl hret)⟩, hr, hP⟩

theorem e_iconst {n : Int} {v : Int32} (hd : decode M.2.1 pc = .ok (.iconst n, 1)) (hv : Int32.ofInt n = v) (kk : ab_E G M d (pc + 1) lv (.int v :: st) w P) : ab_E G M d pc lv st w P :=
  ab_go (fun p e R s m args below meth c H locs cells slots ls Q C I hc hs hl k => lv_iconst C.1 C.2.1 hd hv (k ls hl)) kk
theorem e_bipush {n : Int} {v : Int32} (hd : decode M.2.1 pc = .ok (.bipush n, 2)) (hv : (Int8.ofInt n).toInt32 = v) (kk : ab_E G M d (pc + 2) lv (.int v :: st) w P) : ab_E G M d pc lv st w P :=
  ab_go (fun p e R s m args below meth c H locs cells slots ls Q C I hc hs hl k => lv_bipush C.1 C.2.1 hd hv (k ls hl)) kk
theorem e_sipush {n : Int} {v : Int32} (hd : decode M.2.1 pc = .ok (.sipush n, 3)) (hv : (Int16.ofInt n).toInt32 = v) (kk : ab_E G M d (pc + 3) lv (.int v :: st) w P) : ab_E G M d pc lv st w P :=
  ab_go (fun p e R s m args below meth c H locs cells slots ls Q C I hc hs hl k => lv_sipush C.1 C.2.1 hd hv (k ls hl)) kk
theorem e_ldc {index : Nat} {v : Int32} (hd : decode M.2.1 pc = .ok (.ldc index, 2)) (hk : Cond.constant M.1.cls index v ∈ ab_T) (kk : ab_E G M d (pc + 2) lv (.int v :: st) w P) : ab_E G M d pc lv st w P :=
  ab_go (fun p e R s m args below meth c H locs cells slots ls Q C I hc hs hl k => lv_ldc C.1 C.2.1 C.2.2.2.2.1 (C.2.2.2.2.2.1 _ hk) hd (k ls hl)) kk
theorem e_iload_n {i : Fin 4} {x : Int32} (hd : decode M.2.1 pc = .ok (.iload_n i, 1)) (hv : ab_at lv i.val = some (.int x)) (kk : ab_E G M d (pc + 1) lv (.int x :: st) w P) : ab_E G M d pc lv st w P :=
  ab_go (fun p e R s m args below meth c H locs cells slots ls Q C I hc hs hl k => lv_iload_n C.1 C.2.1 hd rfl (hl.at hv) (k ls hl)) kk
theorem e_iload {i : Nat} {x : Int32} (hd : decode M.2.1 pc = .ok (.iload i, 2)) (hv : ab_at lv i = some (.int x)) (kk : ab_E G M d (pc + 2) lv (.int x :: st) w P) : ab_E G M d pc lv st w P :=
  ab_go (fun p e R s m args below meth c H locs cells slots ls Q C I hc hs hl k => lv_iload C.1 C.2.1 hd (hl.at hv) (k ls hl)) kk
theorem e_aload_n {i : Fin 4} {x : Nat} (hd : decode M.2.1 pc = .ok (.aload_n i, 1)) (hv : ab_at lv i.val = some (.ref x)) (kk : ab_E G M d (pc + 1) lv (.ref x :: st) w P) : ab_E G M d pc lv st w P :=
  ab_go (fun p e R s m args below meth c H locs cells slots ls Q C I hc hs hl k => lv_aload_n C.1 C.2.1 hd rfl (hl.at hv) (k ls hl)) kk
theorem e_aload {i : Nat} {x : Nat} (hd : decode M.2.1 pc = .ok (.aload i, 2)) (hv : ab_at lv i = some (.ref x)) (kk : ab_E G M d (pc + 2) lv (.ref x :: st) w P) : ab_E G M d pc lv st w P :=
  ab_go (fun p e R s m args below meth c H locs cells slots ls Q C I hc hs hl k => lv_aload C.1 C.2.1 hd (hl.at hv) (k ls hl)) kk
theorem e_istore_n {i : Fin 4} {x : Int32} {lv1 : List (Nat × Value)} (hd : decode M.2.1 pc = .ok (.istore_n i, 1)) (hi : i.val < M.2.2.1) (hv : ab_st lv i.val (.int x) = lv1) (kk : ab_E G M d (pc + 1) lv1 st w P) : ab_E G M d pc lv (.int x :: st) w P :=
  ab_go (fun p e R s m args below meth c H locs cells slots ls Q C I hc hs hl k => lv_istore_n C.1 C.2.1 hd rfl hl.1 hi rfl (fun ls1 h1 => k ls1 (hv ▸ hl.set rfl h1))) kk
theorem e_istore {i : Nat} {x : Int32} {lv1 : List (Nat × Value)} (hd : decode M.2.1 pc = .ok (.istore i, 2)) (hi : i < M.2.2.1) (hv : ab_st lv i (.int x) = lv1) (kk : ab_E G M d (pc + 2) lv1 st w P) : ab_E G M d pc lv (.int x :: st) w P :=
  ab_go (fun p e R s m args below meth c H locs cells slots ls Q C I hc hs hl k => lv_istore C.1 C.2.1 hd hl.1 hi rfl (fun ls1 h1 => k ls1 (hv ▸ hl.set rfl h1))) kk
theorem e_astore_n {i : Fin 4} {x : Nat} {lv1 : List (Nat × Value)} (hd : decode M.2.1 pc = .ok (.astore_n i, 1)) (hi : i.val < M.2.2.1) (hv : ab_st lv i.val (.ref x) = lv1) (kk : ab_E G M d (pc + 1) lv1 st w P) : ab_E G M d pc lv (.ref x :: st) w P :=
  ab_go (fun p e R s m args below meth c H locs cells slots ls Q C I hc hs hl k => lv_astore_n C.1 C.2.1 hd rfl hl.1 hi rfl (fun ls1 h1 => k ls1 (hv ▸ hl.set rfl h1))) kk
theorem e_astore {i : Nat} {x : Nat} {lv1 : List (Nat × Value)} (hd : decode M.2.1 pc = .ok (.astore i, 2)) (hi : i < M.2.2.1) (hv : ab_st lv i (.ref x) = lv1) (kk : ab_E G M d (pc + 2) lv1 st w P) : ab_E G M d pc lv (.ref x :: st) w P :=
  ab_go (fun p e R s m args below meth c H locs cells slots ls Q C I hc hs hl k => lv_astore C.1 C.2.1 hd hl.1 hi rfl (fun ls1 h1 => k ls1 (hv ▸ hl.set rfl h1))) kk
theorem ab_L.ix {G : ab_G} {M : ab_M} {lv : List (Nat × Value)} {ls : Array Slot} (_ : ab_L G M lv ls) {i : Nat} {v : Value} (hv : ab_at lv i = some v) : ∃ k : Nat, (ab_l G lv)[k]? = some (i, ab_v G v) := by
  obtain ⟨k, hk⟩ := List.getElem?_of_mem (ab_at_mem hv)
  exact ⟨k, by rw [ab_l, List.getElem?_map, hk]; rfl⟩
theorem e_iinc {i : Nat} {n : Int} {x v : Int32} {lv1 : List (Nat × Value)} (hd : decode M.2.1 pc = .ok (.iinc i n, 3)) (hx : ab_at lv i = some (.int x)) (hi : i < M.2.2.1) (hv : x + Int32.ofInt n = v) (hl1 : ab_st lv i (.int v) = lv1) (kk : ab_E G M d (pc + 3) lv1 st w P) : ab_E G M d pc lv st w P :=
  ab_go (fun p e R s m args below meth c H locs cells slots ls Q C I hc hs hl k => by
    obtain ⟨j, hj⟩ := hl.ix hx
    exact lv_iinc C.1 C.2.1 hd hl.1 hj hv hi rfl (fun ls1 h1 => k ls1 (hl1 ▸ hl.set (v := .int v) rfl h1))) kk
theorem e_iadd {x y : Int32} (hd : decode M.2.1 pc = .ok (.iadd, 1)) (kk : ab_E G M d (pc + 1) lv (.int (x + y) :: st) w P) : ab_E G M d pc lv (.int y :: .int x :: st) w P :=
  ab_go (fun p e R s m args below meth c H locs cells slots ls Q C I hc hs hl k => lv_iadd C.1 C.2.1 hd (k ls hl)) kk
theorem e_isub {x y : Int32} (hd : decode M.2.1 pc = .ok (.isub, 1)) (kk : ab_E G M d (pc + 1) lv (.int (x - y) :: st) w P) : ab_E G M d pc lv (.int y :: .int x :: st) w P :=
  ab_go (fun p e R s m args below meth c H locs cells slots ls Q C I hc hs hl k => lv_isub C.1 C.2.1 hd (k ls hl)) kk
theorem e_imul {x y : Int32} (hd : decode M.2.1 pc = .ok (.imul, 1)) (kk : ab_E G M d (pc + 1) lv (.int (x * y) :: st) w P) : ab_E G M d pc lv (.int y :: .int x :: st) w P :=
  ab_go (fun p e R s m args below meth c H locs cells slots ls Q C I hc hs hl k => lv_imul C.1 C.2.1 hd (k ls hl)) kk
theorem e_iand {x y : Int32} (hd : decode M.2.1 pc = .ok (.iand, 1)) (kk : ab_E G M d (pc + 1) lv (.int (x &&& y) :: st) w P) : ab_E G M d pc lv (.int y :: .int x :: st) w P :=
  ab_go (fun p e R s m args below meth c H locs cells slots ls Q C I hc hs hl k => lv_iand C.1 C.2.1 hd (k ls hl)) kk
theorem e_ior {x y : Int32} (hd : decode M.2.1 pc = .ok (.ior, 1)) (kk : ab_E G M d (pc + 1) lv (.int (x ||| y) :: st) w P) : ab_E G M d pc lv (.int y :: .int x :: st) w P :=
  ab_go (fun p e R s m args below meth c H locs cells slots ls Q C I hc hs hl k => lv_ior C.1 C.2.1 hd (k ls hl)) kk
theorem e_ixor {x y : Int32} (hd : decode M.2.1 pc = .ok (.ixor, 1)) (kk : ab_E G M d (pc + 1) lv (.int (x ^^^ y) :: st) w P) : ab_E G M d pc lv (.int y :: .int x :: st) w P :=
  ab_go (fun p e R s m args below meth c H locs cells slots ls Q C I hc hs hl k => lv_ixor C.1 C.2.1 hd (k ls hl)) kk
theorem e_ishl {x y : Int32} (hd : decode M.2.1 pc = .ok (.ishl, 1)) (kk : ab_E G M d (pc + 1) lv (.int (x <<< (y &&& 31)) :: st) w P) : ab_E G M d pc lv (.int y :: .int x :: st) w P :=
  ab_go (fun p e R s m args below meth c H locs cells slots ls Q C I hc hs hl k => lv_ishl C.1 C.2.1 hd (k ls hl)) kk
theorem e_ishr {x y : Int32} (hd : decode M.2.1 pc = .ok (.ishr, 1)) (kk : ab_E G M d (pc + 1) lv (.int (x >>> (y &&& 31)) :: st) w P) : ab_E G M d pc lv (.int y :: .int x :: st) w P :=
  ab_go (fun p e R s m args below meth c H locs cells slots ls Q C I hc hs hl k => lv_ishr C.1 C.2.1 hd (k ls hl)) kk
theorem e_iushr {x y v : Int32} (hd : decode M.2.1 pc = .ok (.iushr, 1)) (hv : (x.toUInt32 >>> (y.toUInt32 &&& Int32.toUInt32 31)).toInt32 = v) (kk : ab_E G M d (pc + 1) lv (.int v :: st) w P) : ab_E G M d pc lv (.int y :: .int x :: st) w P :=
  ab_go (fun p e R s m args below meth c H locs cells slots ls Q C I hc hs hl k => lv_iushr C.1 C.2.1 hd hv (k ls hl)) kk
theorem e_idiv {x y : Int32} (hd : decode M.2.1 pc = .ok (.idiv, 1)) (hy : ¬ y = 0) (kk : ab_E G M d (pc + 1) lv (.int (x / y) :: st) w P) : ab_E G M d pc lv (.int y :: .int x :: st) w P :=
  ab_go (fun p e R s m args below meth c H locs cells slots ls Q C I hc hs hl k => lv_idiv C.1 C.2.1 hd hy (k ls hl)) kk
theorem e_irem {x y : Int32} (hd : decode M.2.1 pc = .ok (.irem, 1)) (hy : ¬ y = 0) (kk : ab_E G M d (pc + 1) lv (.int (x - x / y * y) :: st) w P) : ab_E G M d pc lv (.int y :: .int x :: st) w P :=
  ab_go (fun p e R s m args below meth c H locs cells slots ls Q C I hc hs hl k => lv_irem C.1 C.2.1 hd hy (k ls hl)) kk
theorem e_ineg {x : Int32} (hd : decode M.2.1 pc = .ok (.ineg, 1)) (kk : ab_E G M d (pc + 1) lv (.int (-x) :: st) w P) : ab_E G M d pc lv (.int x :: st) w P :=
  ab_go (fun p e R s m args below meth c H locs cells slots ls Q C I hc hs hl k => lv_ineg C.1 C.2.1 hd (k ls hl)) kk
theorem e_dup {a : Value} (hd : decode M.2.1 pc = .ok (.dup, 1)) (ha : a.category = 1) (kk : ab_E G M d (pc + 1) lv (a :: a :: st) w P) : ab_E G M d pc lv (a :: st) w P :=
  ab_go (fun p e R s m args below meth c H locs cells slots ls Q C I hc hs hl k => lv_dup C.1 C.2.1 hd ((ab_cat G a).trans ha) (k ls hl)) kk
theorem e_pop {a : Value} (hd : decode M.2.1 pc = .ok (.pop, 1)) (ha : a.category = 1) (kk : ab_E G M d (pc + 1) lv st w P) : ab_E G M d pc lv (a :: st) w P :=
  ab_go (fun p e R s m args below meth c H locs cells slots ls Q C I hc hs hl k => lv_pop C.1 C.2.1 hd ((ab_cat G a).trans ha) (k ls hl)) kk
theorem e_dup_x1 {a b : Value} (hd : decode M.2.1 pc = .ok (.dup_x1, 1)) (ha : a.category = 1) (hb : b.category = 1) (kk : ab_E G M d (pc + 1) lv (a :: b :: a :: st) w P) : ab_E G M d pc lv (a :: b :: st) w P :=
  ab_go (fun p e R s m args below meth c H locs cells slots ls Q C I hc hs hl k => lv_dup_x1 C.1 C.2.1 hd ((ab_cat G a).trans ha) ((ab_cat G b).trans hb) (k ls hl)) kk
theorem e_dup_x2 {a b f : Value} (hd : decode M.2.1 pc = .ok (.dup_x2, 1)) (ha : a.category = 1) (hb : b.category = 1) (hf : f.category = 1) (kk : ab_E G M d (pc + 1) lv (a :: b :: f :: a :: st) w P) : ab_E G M d pc lv (a :: b :: f :: st) w P :=
  ab_go (fun p e R s m args below meth c H locs cells slots ls Q C I hc hs hl k => lv_dup_x2 C.1 C.2.1 hd ((ab_cat G a).trans ha) ((ab_cat G b).trans hb) ((ab_cat G f).trans hf) (k ls hl)) kk
theorem e_dup2 {a b : Value} (hd : decode M.2.1 pc = .ok (.dup2, 1)) (ha : a.category = 1) (hb : b.category = 1) (kk : ab_E G M d (pc + 1) lv (a :: b :: a :: b :: st) w P) : ab_E G M d pc lv (a :: b :: st) w P :=
  ab_go (fun p e R s m args below meth c H locs cells slots ls Q C I hc hs hl k => lv_dup2_11 C.1 C.2.1 hd ((ab_cat G a).trans ha) ((ab_cat G b).trans hb) (k ls hl)) kk
theorem e_icmp_eq {x y : Int32} {off : Int} {tgt : Nat} (hd : decode M.2.1 pc = .ok (.if_icmp .eq off, 3)) (ht : (pc : Int) + off = (tgt : Int)) (kt : x = y → ab_E G M d tgt lv st w P) (kf : ¬ x = y → ab_E G M d (pc + 3) lv st w P) : ab_E G M d pc lv (.int y :: .int x :: st) w P := by
  by_cases hq : x = y
  · exact ab_go (fun p e R s m args below meth c H locs cells slots ls Q C I hc hs hl k => lv_icmp_eq C.1 C.2.1 hd ht (fun _ => k ls hl) (fun h => absurd hq h)) (kt hq)
  · exact ab_go (fun p e R s m args below meth c H locs cells slots ls Q C I hc hs hl k => lv_icmp_eq C.1 C.2.1 hd ht (fun h => absurd h hq) (fun _ => k ls hl)) (kf hq)
theorem e_if_eq {x : Int32} {off : Int} {tgt : Nat} (hd : decode M.2.1 pc = .ok (.ifCond .eq off, 3)) (ht : (pc : Int) + off = (tgt : Int)) (kt : x = 0 → ab_E G M d tgt lv st w P) (kf : ¬ x = 0 → ab_E G M d (pc + 3) lv st w P) : ab_E G M d pc lv (.int x :: st) w P := by
  by_cases hq : x = 0
  · exact ab_go (fun p e R s m args below meth c H locs cells slots ls Q C I hc hs hl k => lv_if_eq C.1 C.2.1 hd ht (fun _ => k ls hl) (fun h => absurd hq h)) (kt hq)
  · exact ab_go (fun p e R s m args below meth c H locs cells slots ls Q C I hc hs hl k => lv_if_eq C.1 C.2.1 hd ht (fun h => absurd h hq) (fun _ => k ls hl)) (kf hq)
theorem e_icmp_ne {x y : Int32} {off : Int} {tgt : Nat} (hd : decode M.2.1 pc = .ok (.if_icmp .ne off, 3)) (ht : (pc : Int) + off = (tgt : Int)) (kt : ¬ x = y → ab_E G M d tgt lv st w P) (kf : x = y → ab_E G M d (pc + 3) lv st w P) : ab_E G M d pc lv (.int y :: .int x :: st) w P := by
  by_cases hq : x = y
  · exact ab_go (fun p e R s m args below meth c H locs cells slots ls Q C I hc hs hl k => lv_icmp_ne C.1 C.2.1 hd ht (fun h => absurd hq h) (fun _ => k ls hl)) (kf hq)
  · exact ab_go (fun p e R s m args below meth c H locs cells slots ls Q C I hc hs hl k => lv_icmp_ne C.1 C.2.1 hd ht (fun _ => k ls hl) (fun h => absurd h hq)) (kt hq)
theorem e_if_ne {x : Int32} {off : Int} {tgt : Nat} (hd : decode M.2.1 pc = .ok (.ifCond .ne off, 3)) (ht : (pc : Int) + off = (tgt : Int)) (kt : ¬ x = 0 → ab_E G M d tgt lv st w P) (kf : x = 0 → ab_E G M d (pc + 3) lv st w P) : ab_E G M d pc lv (.int x :: st) w P := by
  by_cases hq : x = 0
  · exact ab_go (fun p e R s m args below meth c H locs cells slots ls Q C I hc hs hl k => lv_if_ne C.1 C.2.1 hd ht (fun h => absurd hq h) (fun _ => k ls hl)) (kf hq)
  · exact ab_go (fun p e R s m args below meth c H locs cells slots ls Q C I hc hs hl k => lv_if_ne C.1 C.2.1 hd ht (fun _ => k ls hl) (fun h => absurd h hq)) (kt hq)
theorem e_icmp_lt {x y : Int32} {off : Int} {tgt : Nat} (hd : decode M.2.1 pc = .ok (.if_icmp .lt off, 3)) (ht : (pc : Int) + off = (tgt : Int)) (kt : x < y → ab_E G M d tgt lv st w P) (kf : ¬ x < y → ab_E G M d (pc + 3) lv st w P) : ab_E G M d pc lv (.int y :: .int x :: st) w P := by
  by_cases hq : x < y
  · exact ab_go (fun p e R s m args below meth c H locs cells slots ls Q C I hc hs hl k => lv_icmp_lt C.1 C.2.1 hd ht (fun _ => k ls hl) (fun h => absurd hq h)) (kt hq)
  · exact ab_go (fun p e R s m args below meth c H locs cells slots ls Q C I hc hs hl k => lv_icmp_lt C.1 C.2.1 hd ht (fun h => absurd h hq) (fun _ => k ls hl)) (kf hq)
theorem e_if_lt {x : Int32} {off : Int} {tgt : Nat} (hd : decode M.2.1 pc = .ok (.ifCond .lt off, 3)) (ht : (pc : Int) + off = (tgt : Int)) (kt : x < 0 → ab_E G M d tgt lv st w P) (kf : ¬ x < 0 → ab_E G M d (pc + 3) lv st w P) : ab_E G M d pc lv (.int x :: st) w P := by
  by_cases hq : x < 0
  · exact ab_go (fun p e R s m args below meth c H locs cells slots ls Q C I hc hs hl k => lv_if_lt C.1 C.2.1 hd ht (fun _ => k ls hl) (fun h => absurd hq h)) (kt hq)
  · exact ab_go (fun p e R s m args below meth c H locs cells slots ls Q C I hc hs hl k => lv_if_lt C.1 C.2.1 hd ht (fun h => absurd h hq) (fun _ => k ls hl)) (kf hq)
theorem e_icmp_ge {x y : Int32} {off : Int} {tgt : Nat} (hd : decode M.2.1 pc = .ok (.if_icmp .ge off, 3)) (ht : (pc : Int) + off = (tgt : Int)) (kt : y ≤ x → ab_E G M d tgt lv st w P) (kf : ¬ y ≤ x → ab_E G M d (pc + 3) lv st w P) : ab_E G M d pc lv (.int y :: .int x :: st) w P := by
  by_cases hq : y ≤ x
  · exact ab_go (fun p e R s m args below meth c H locs cells slots ls Q C I hc hs hl k => lv_icmp_ge C.1 C.2.1 hd ht (fun _ => k ls hl) (fun h => absurd hq h)) (kt hq)
  · exact ab_go (fun p e R s m args below meth c H locs cells slots ls Q C I hc hs hl k => lv_icmp_ge C.1 C.2.1 hd ht (fun h => absurd h hq) (fun _ => k ls hl)) (kf hq)
theorem e_if_ge {x : Int32} {off : Int} {tgt : Nat} (hd : decode M.2.1 pc = .ok (.ifCond .ge off, 3)) (ht : (pc : Int) + off = (tgt : Int)) (kt : 0 ≤ x → ab_E G M d tgt lv st w P) (kf : ¬ 0 ≤ x → ab_E G M d (pc + 3) lv st w P) : ab_E G M d pc lv (.int x :: st) w P := by
  by_cases hq : 0 ≤ x
  · exact ab_go (fun p e R s m args below meth c H locs cells slots ls Q C I hc hs hl k => lv_if_ge C.1 C.2.1 hd ht (fun _ => k ls hl) (fun h => absurd hq h)) (kt hq)
  · exact ab_go (fun p e R s m args below meth c H locs cells slots ls Q C I hc hs hl k => lv_if_ge C.1 C.2.1 hd ht (fun h => absurd h hq) (fun _ => k ls hl)) (kf hq)
theorem e_icmp_gt {x y : Int32} {off : Int} {tgt : Nat} (hd : decode M.2.1 pc = .ok (.if_icmp .gt off, 3)) (ht : (pc : Int) + off = (tgt : Int)) (kt : y < x → ab_E G M d tgt lv st w P) (kf : ¬ y < x → ab_E G M d (pc + 3) lv st w P) : ab_E G M d pc lv (.int y :: .int x :: st) w P := by
  by_cases hq : y < x
  · exact ab_go (fun p e R s m args below meth c H locs cells slots ls Q C I hc hs hl k => lv_icmp_gt C.1 C.2.1 hd ht (fun _ => k ls hl) (fun h => absurd hq h)) (kt hq)
  · exact ab_go (fun p e R s m args below meth c H locs cells slots ls Q C I hc hs hl k => lv_icmp_gt C.1 C.2.1 hd ht (fun h => absurd h hq) (fun _ => k ls hl)) (kf hq)
theorem e_if_gt {x : Int32} {off : Int} {tgt : Nat} (hd : decode M.2.1 pc = .ok (.ifCond .gt off, 3)) (ht : (pc : Int) + off = (tgt : Int)) (kt : 0 < x → ab_E G M d tgt lv st w P) (kf : ¬ 0 < x → ab_E G M d (pc + 3) lv st w P) : ab_E G M d pc lv (.int x :: st) w P := by
  by_cases hq : 0 < x
  · exact ab_go (fun p e R s m args below meth c H locs cells slots ls Q C I hc hs hl k => lv_if_gt C.1 C.2.1 hd ht (fun _ => k ls hl) (fun h => absurd hq h)) (kt hq)
  · exact ab_go (fun p e R s m args below meth c H locs cells slots ls Q C I hc hs hl k => lv_if_gt C.1 C.2.1 hd ht (fun h => absurd h hq) (fun _ => k ls hl)) (kf hq)
theorem e_icmp_le {x y : Int32} {off : Int} {tgt : Nat} (hd : decode M.2.1 pc = .ok (.if_icmp .le off, 3)) (ht : (pc : Int) + off = (tgt : Int)) (kt : x ≤ y → ab_E G M d tgt lv st w P) (kf : ¬ x ≤ y → ab_E G M d (pc + 3) lv st w P) : ab_E G M d pc lv (.int y :: .int x :: st) w P := by
  by_cases hq : x ≤ y
  · exact ab_go (fun p e R s m args below meth c H locs cells slots ls Q C I hc hs hl k => lv_icmp_le C.1 C.2.1 hd ht (fun _ => k ls hl) (fun h => absurd hq h)) (kt hq)
  · exact ab_go (fun p e R s m args below meth c H locs cells slots ls Q C I hc hs hl k => lv_icmp_le C.1 C.2.1 hd ht (fun h => absurd h hq) (fun _ => k ls hl)) (kf hq)
theorem e_if_le {x : Int32} {off : Int} {tgt : Nat} (hd : decode M.2.1 pc = .ok (.ifCond .le off, 3)) (ht : (pc : Int) + off = (tgt : Int)) (kt : x ≤ 0 → ab_E G M d tgt lv st w P) (kf : ¬ x ≤ 0 → ab_E G M d (pc + 3) lv st w P) : ab_E G M d pc lv (.int x :: st) w P := by
  by_cases hq : x ≤ 0
  · exact ab_go (fun p e R s m args below meth c H locs cells slots ls Q C I hc hs hl k => lv_if_le C.1 C.2.1 hd ht (fun _ => k ls hl) (fun h => absurd hq h)) (kt hq)
  · exact ab_go (fun p e R s m args below meth c H locs cells slots ls Q C I hc hs hl k => lv_if_le C.1 C.2.1 hd ht (fun h => absurd h hq) (fun _ => k ls hl)) (kf hq)
theorem e_goto {off : Int} {tgt : Nat} (hd : decode M.2.1 pc = .ok (.goto off, 3)) (ht : (pc : Int) + off = (tgt : Int)) (kk : ab_E G M d tgt lv st w P) : ab_E G M d pc lv st w P :=
  ab_go (fun p e R s m args below meth c H locs cells slots ls Q C I hc hs hl k => lv_goto C.1 C.2.1 hd ht (k ls hl)) kk
theorem e_tableOut {dflt lo hi : Int} {offs : Array Int} {len : Nat} {x : Int32} {tgt : Nat} (hd : decode M.2.1 pc = .ok (.tableswitch dflt lo hi offs, len)) (h : x.toInt < lo ∨ hi < x.toInt) (ht : (pc : Int) + dflt = (tgt : Int)) (kk : ab_E G M d tgt lv st w P) : ab_E G M d pc lv (.int x :: st) w P :=
  ab_go (fun p e R s m args below meth c H locs cells slots ls Q C I hc hs hl k => lv_tableOut C.1 C.2.1 hd h ht (k ls hl)) kk
theorem e_tableIn {dflt lo hi : Int} {offs : Array Int} {len : Nat} {x : Int32} {off : Int} {tgt : Nat} (hd : decode M.2.1 pc = .ok (.tableswitch dflt lo hi offs, len)) (h1 : ¬ x.toInt < lo) (h2 : ¬ hi < x.toInt) (ho : offs[(x.toInt - lo).toNat]? = some off) (ht : (pc : Int) + off = (tgt : Int)) (kk : ab_E G M d tgt lv st w P) : ab_E G M d pc lv (.int x :: st) w P :=
  ab_go (fun p e R s m args below meth c H locs cells slots ls Q C I hc hs hl k => lv_tableIn C.1 C.2.1 hd h1 h2 ho ht (k ls hl)) kk
theorem e_lookup {dflt : Int} {ps : Array (Int × Int)} {len : Nat} {x : Int32} {off : Int} {tgt : Nat} (hd : decode M.2.1 pc = .ok (.lookupswitch dflt ps, len)) (hp : (ps.toList.zip (ps.toList.drop 1)).all (fun (a, next) => a.1 < next.1) = true) (ho : Op.lookupswitch.offset ps.toList dflt x.toInt = off) (ht : (pc : Int) + off = (tgt : Int)) (kk : ab_E G M d tgt lv st w P) : ab_E G M d pc lv (.int x :: st) w P :=
  ab_go (fun p e R s m args below meth c H locs cells slots ls Q C I hc hs hl k => lv_lookup C.1 C.2.1 hd hp ho ht (k ls hl)) kk
/-- a name for the number on the stack -/
theorem e_top {x y : Int32} (hx : x = y) (kk : ab_E G M d pc lv (.int y :: st) w P) : ab_E G M d pc lv (.int x :: st) w P := by
  rw [hx]; exact kk
theorem ab_same {p : Program} {e : Env} {R : Room} {s : State} {m : MethodId} {args : Array Value} {below : List Frame} {meth : Method} {c : Code} {H : Heap} {locs : List Loc} {cells slots n k : Nat} {Q : State → Prop} {g : JFrame} (h : W p (g_l G) e R s m args below meth c H locs (cells + (n - n)) (slots + (k - k)) Q g) : W p (g_l G) e R s m args below meth c H locs cells slots Q g := by
  rw [Nat.sub_self, Nat.sub_self, Nat.add_zero, Nat.add_zero] at h
  exact h
theorem e_vret (hd : decode M.2.1 pc = .ok (.return_, 1)) (hr : M.2.2.2 = none) (hP : P none w) : ab_E G M d pc lv [] w P :=
  ⟨none, w, ⟨Nat.le_refl _, Nat.le_refl _, fun p e R s m args below meth c H locs cells slots ls Q C I hz hc hs hl hret => ab_same (hret H locs pc ls I (Or.inl ⟨rfl, hd⟩))⟩, hr, hP⟩
theorem e_iret {x : Int32} (hd : decode M.2.1 pc = .ok (.ireturn, 1)) (hr : M.2.2.2 = some .int) (hP : P (some (.int x)) w) : ab_E G M d pc lv [.int x] w P :=
  ⟨some (.int x), w, ⟨Nat.le_refl _, Nat.le_refl _, fun p e R s m args below meth c H locs cells slots ls Q C I hz hc hs hl hret => ab_same (hret H locs pc ls I (Or.inr (Or.inl ⟨x, rfl, hd⟩)))⟩, ⟨.int, hr, rfl⟩, hP⟩
theorem e_zret {x : Int32} (hd : decode M.2.1 pc = .ok (.ireturn, 1)) (hr : M.2.2.2 = some .boolean) (hx : x = 0 ∨ x = 1) (hP : P (some (.int x)) w) : ab_E G M d pc lv [.int x] w P :=
  ⟨some (.int x), w, ⟨Nat.le_refl _, Nat.le_refl _, fun p e R s m args below meth c H locs cells slots ls Q C I hz hc hs hl hret => ab_same (hret H locs pc ls I (Or.inr (Or.inl ⟨x, rfl, hd⟩)))⟩, ⟨.boolean, hr, by rcases hx with rfl | rfl <;> rfl⟩, hP⟩
theorem e_aret {a : Nat} {n : String} (hd : decode M.2.1 pc = .ok (.areturn, 1)) (hr : M.2.2.2 = some (.object n)) (hP : P (some (.ref a)) w) : ab_E G M d pc lv [.ref a] w P :=
  ⟨some (.ref a), w, ⟨Nat.le_refl _, Nat.le_refl _, fun p e R s m args below meth c H locs cells slots ls Q C I hz hc hs hl hret => ab_same (hret H locs pc ls I (Or.inr (Or.inr ⟨a, rfl, hd⟩)))⟩, ⟨_, hr, Or.inl ⟨n, rfl⟩⟩, hP⟩
theorem e_aretA {a : Nat} {t : FieldType} (hd : decode M.2.1 pc = .ok (.areturn, 1)) (hr : M.2.2.2 = some (.array t)) (hP : P (some (.ref a)) w) : ab_E G M d pc lv [.ref a] w P :=
  ⟨some (.ref a), w, ⟨Nat.le_refl _, Nat.le_refl _, fun p e R s m args below meth c H locs cells slots ls Q C I hz hc hs hl hret => ab_same (hret H locs pc ls I (Or.inr (Or.inr ⟨a, rfl, hd⟩)))⟩, ⟨_, hr, Or.inr ⟨t, rfl⟩⟩, hP⟩
end AB
end
section
/-! The rows of cells: fields, arrays, new ones. -/
theorem ab_C.own {G : ab_G} {M : ab_M} {d : Nat × Nat} {p : Program} {R : Room} {s : State} {m : MethodId} {args : Array Value} {meth : Method} {c : Code} (h : ab_C G M d p R s m args meth c) : s.vm.findClass M.1.cls = some m.cls := h.2.2.2.2.1
theorem ab_C.wd {G : ab_G} {M : ab_M} {d : Nat × Nat} {p : Program} {R : Room} {s : State} {m : MethodId} {args : Array Value} {meth : Method} {c : Code} (h : ab_C G M d p R s m args meth c) : ∀ w ∈ ab_T, w.before args s = true := h.2.2.2.2.2.1
theorem ab_C.kk {G : ab_G} {M : ab_M} {d : Nat × Nat} {p : Program} {R : Room} {s : State} {m : MethodId} {args : Array Value} {meth : Method} {c : Code} (h : ab_C G M d p R s m args meth c) : ab_K G s := h.2.2.2.2.2.2.2.2.2.2
theorem ab_C.fr {G : ab_G} {M : ab_M} {d : Nat × Nat} {p : Program} {R : Room} {s : State} {m : MethodId} {args : Array Value} {meth : Method} {c : Code} (h : ab_C G M d p R s m args meth c) : d.1 ≤ R.frames ∧ d.2 ≤ R.locals := ⟨h.2.2.2.2.2.2.2.2.1, h.2.2.2.2.2.2.2.2.2.1⟩
theorem ab_ty {G : ab_G} {s : State} (hK : ab_K G s) {t : Nat} {ty : FieldType} (ht : ab_tys[t]? = some ty) : (g_T G)[t]? = some (((g_T G).getD t (0, .int)).1, ty) := by
  rw [← hK.2.1, List.getElem?_map] at ht
  obtain ⟨x, hx, rfl⟩ := Option.map_eq_some_iff.mp ht
  rw [List.getD_eq_getElem?_getD, hx]
  rfl
/-- a class by its number, its field table and their types -/
def ab_cl (ci : Nat) (C : String) (T : u_T) (N : Nat) (ty : Nat → FieldType) : Prop := vwCl[ci]? = some (C, T, N) ∧ (∀ w ∈ u_ws C T N, w ∈ ab_T) ∧ (∀ k, k < N → parseFieldDescriptor (T k).2.2.1 = some (ty k)) ∧ ∀ a, a < N → ∀ b, b < N → a ≠ b → (T a).2.1 ≠ (T b).2.1
/-- pool entry idx of the class own: field k of class ci -/
def ab_fl (own : String) (idx ci k : Nat) (t : FieldType) (fin : Bool) : Prop := ∃ (C : String) (T : u_T) (N : Nat) (ty : Nat → FieldType), ab_cl ci C T N ty ∧ k < N ∧ Cond.fieldLink own idx (T k).1 (T k).2.1 (T k).2.2.1 ∈ ab_T ∧ ty k = t ∧ (T k).2.2.2 = fin ∧ (T k).1 = C
/-- pool entry idx of the class own: class ci, whose new objects hold fs -/
def ab_nw (own : String) (idx ci : Nat) (fs : List Value) : Prop := ∃ (C : String) (T : u_T) (N : Nat) (ty : Nat → FieldType), ab_cl ci C T N ty ∧ Cond.classLink own idx C ∈ ab_T ∧ Cond.instantiable C N ∈ ab_T ∧ Cond.initialized C ∈ ab_T ∧ fs.length = N ∧ ∀ j, j < N → defaultValue (ty j) = vp_V fs j
theorem ab_vnull (G : ab_G) (ty : FieldType) : ab_v G (defaultValue ty) = defaultValue ty := by cases ty <;> rfl
theorem ab_vV (G : ab_G) (fs : List Value) (j : Nat) : vp_V (fs.map (ab_v G)) j = ab_v G (vp_V fs j) := by
  simp only [vp_V, List.getD_eq_getElem?_getD, List.getElem?_map]
  cases fs[j]? <;> rfl
theorem ab_fresh {G : ab_G} {h : ab_H} {n q : Nat} {x : va_E} {H : Heap} (hP : va_P (g_D G) vwCl (ab_w G h n ++ [(q, x)]) H) (hD : va_D (ab_A G) (ab_w G h n ++ [(q, x)])) (hn : 1 ≤ n) (hz : H.size ≤ g_B G + n + 1) : q = g_B G + n := by
  have hlen : (ab_w G h n).length = n - 1 := by simp [ab_w]
  have e1 : (ab_w G h n ++ [(q, x)])[n - 1]? = some (q, x) := by
    rw [List.getElem?_append_right (by omega), hlen, Nat.sub_self]
    rfl
  have h1 : q < H.size := (hP _ _ e1).lt
  have h2 : g_B G < q := hD.2 _ _ e1
  rcases Nat.lt_or_ge q (g_B G + n) with hq | hq
  · exfalso
    obtain ⟨i, hi⟩ : ∃ i, q = g_B G + (i + 1) := ⟨q - g_B G - 1, by omega⟩
    have hl : i < n - 1 := by omega
    have e2 : (ab_w G h n ++ [(q, x)])[i]? = some (g_B G + (i + 1), ab_e G ((h (i + 1)).getD (.inr (0, [])))) := by
      rw [List.getElem?_append_left (by omega), ab_w, List.getElem?_map, List.getElem?_range hl]
      rfl
    have := hD.1 _ _ _ _ e2 e1 hi.symm
    omega
  · omega
section AB
variable {G : ab_G} {M : ab_M} {d : Nat × Nat} {pc : Nat} {lv : List (Nat × Value)} {st : List Value} {w : ab_W} {P : Option Value → ab_W → Prop}
theorem e_get {idx ci k a : Nat} {t : FieldType} {fin : Bool} {fs : List Value} {v : Value} (hd : decode M.2.1 pc = .ok (.getfield idx, 3)) (hf : ab_fl M.1.cls idx ci k t fin) (ha : w.1 a = some (.inr (ci, fs))) (hv : fs[k]? = some v) (kk : ab_E G M d (pc + 3) lv (v :: st) w P) : ab_E G M d pc lv (.ref a :: st) w P :=
  ab_go (fun p e R s m args below meth c H locs cells slots ls Q C I hc hs hl k0 => by
    obtain ⟨Cn, T, N, ty, ⟨c1, c2, c3, c4⟩, hk, hlk, -⟩ := hf
    obtain ⟨p1, p2⟩ := I.1.pos ha
    exact va_get (D := g_D G) C.1 C.2.1 C.wd c2 C.own C.kk.1 I.2.1 (a - 1) (ab_w_get G ha p1 p2) c1 k hk (C.wd _ hlk) (fun _ h9 => h9) (by rw [List.getElem?_map, hv]; rfl) hd (k0 ls hl)) kk
theorem e_put {idx ci k a : Nat} {t : FieldType} {fs fs1 : List Value} {v : Value} (hd : decode M.2.1 pc = .ok (.putfield idx, 3)) (hf : ab_fl M.1.cls idx ci k t false) (ha : w.1 a = some (.inr (ci, fs))) (hk0 : k < fs.length) (hn : narrow t (ab_v G v) = ab_v G v) (hft : fits t (ab_v G v) = true) (hfs : fs.set k v = fs1) (kk : ab_E G M d (pc + 3) lv st (va_up w.1 a (some (.inr (ci, fs1))), w.2) P) : ab_E G M d pc lv (v :: .ref a :: st) w P :=
  ab_goW (fun p e R s m args below meth c H locs cells slots ls Q C I hl k0 => by
    obtain ⟨Cn, T, N, ty, ⟨c1, c2, c3, c4⟩, hk, hlk, hty, hfin, -⟩ := hf
    obtain ⟨p1, p2⟩ := I.1.pos ha
    refine va_put (D := g_D G) (v := ab_v G v) (ty := t) C.1 C.2.1 C.wd c2 ty c3 c4 C.own C.kk.1 I.2.1 (ab_w_D G _ _) I.2.2 (a - 1) (ab_w_get G ha p1 p2) c1 k hk (C.wd _ hlk) (fun _ h9 => h9) hfin (by rw [c3 k hk, hty]) hn hft (by simpa using hk0) hd (fun H1 locs1 q1 q2 q3 => k0 H1 locs1 ⟨I.1.set ha, ?_, q3⟩)
    subst hfs
    rw [← List.map_set] at q1
    have e2 := ab_w_set G (h := w.1) (.inr (ci, fs.set k v)) p1 p2
    rw [show ab_e G (.inr (ci, fs.set k v)) = .inr (ci, (fs.set k v).map (ab_v G)) from rfl] at e2
    rw [e2] at q1
    exact q1) kk
theorem e_putF {idx ci k a : Nat} {t : FieldType} {fs fs1 : List Value} {v : Value} (hd : decode M.2.1 pc = .ok (.putfield idx, 3)) (hf : ab_fl M.1.cls idx ci k t true) (hcls : (vwCl[ci]?).map (fun q => q.1) = some M.1.cls) (hin : M.1.name = "<init>") (ha : w.1 a = some (.inr (ci, fs))) (hk0 : k < fs.length) (hn : narrow t (ab_v G v) = ab_v G v) (hft : fits t (ab_v G v) = true) (hfs : fs.set k v = fs1) (kk : ab_E G M d (pc + 3) lv st (va_up w.1 a (some (.inr (ci, fs1))), w.2) P) : ab_E G M d pc lv (v :: .ref a :: st) w P :=
  ab_goW (fun p e R s m args below meth c H locs cells slots ls Q C I hl k0 => by
    obtain ⟨Cn, T, N, ty, ⟨c1, c2, c3, c4⟩, hk, hlk, hty, hfin, hown⟩ := hf
    obtain ⟨p1, p2⟩ := I.1.pos ha
    have hC : Cn = M.1.cls := by rw [c1] at hcls; exact Option.some.inj hcls
    refine va_putF (D := g_D G) (v := ab_v G v) (ty := t) C.1 C.2.1 C.wd c2 ty c3 c4 C.own C.kk.1 I.2.1 (ab_w_D G _ _) I.2.2 (a - 1) (ab_w_get G ha p1 p2) c1 k hk (C.wd _ hlk) (fun _ h9 => h9) hfin (C.2.2.2.2.2.2.2.1.trans hin) (hown.trans hC) (by rw [c3 k hk, hty]) hn hft (by simpa using hk0) hd (fun H1 locs1 q1 q2 q3 => k0 H1 locs1 ⟨I.1.set ha, ?_, q3⟩)
    subst hfs
    rw [← List.map_set] at q1
    have e2 := ab_w_set G (h := w.1) (.inr (ci, fs.set k v)) p1 p2
    rw [show ab_e G (.inr (ci, fs.set k v)) = .inr (ci, (fs.set k v).map (ab_v G)) from rfl] at e2
    rw [e2] at q1
    exact q1) kk
theorem e_iald {t a n j : Nat} {f : Nat → Int32} {i : Int32} (hd : decode M.2.1 pc = .ok (.iaload, 1)) (ha : w.1 a = some (.inl (t, n, .inl f))) (ht : ab_tys[t]? = some .int) (hi : i = nI j) (hj : j < n) (hn : n < 2 ^ 31) (kk : ab_E G M d (pc + 1) lv (.int (f j) :: st) w P) : ab_E G M d pc lv (.int i :: .ref a :: st) w P :=
  ab_go (fun p e R s m args below meth c H locs cells slots ls Q C I hc hs hl k0 => by
    obtain ⟨p1, p2⟩ := I.1.pos ha
    subst hi
    refine va_iald (D := g_D G) (f := f) C.1 C.2.1 C.kk.1 I.2.1 (a - 1) t (ab_w_get G ha p1 p2) (ab_ty C.kk ht) (vp_in_nI hj hn) hd ?_
    rw [nI_clamp (by omega)]
    exact k0 ls hl) kk
theorem e_iast {t a n j : Nat} {f : Nat → Int32} {i x : Int32} (hd : decode M.2.1 pc = .ok (.iastore, 1)) (ha : w.1 a = some (.inl (t, n, .inl f))) (ht : ab_tys[t]? = some .int) (hi : i = nI j) (hj : j < n) (hn : n < 2 ^ 31) (kk : ab_E G M d (pc + 1) lv st (va_up w.1 a (some (.inl (t, n, .inl (upd f j x)))), w.2) P) : ab_E G M d pc lv (.int x :: .int i :: .ref a :: st) w P :=
  ab_goW (fun p e R s m args below meth c H locs cells slots ls Q C I hl k0 => by
    obtain ⟨p1, p2⟩ := I.1.pos ha
    subst hi
    refine va_iast (D := g_D G) (f := f) C.1 C.2.1 C.kk.1 I.2.1 (ab_w_D G _ _) I.2.2 (a - 1) t (ab_w_get G ha p1 p2) (ab_ty C.kk ht) (vp_in_nI hj hn) hd (fun H1 locs1 q1 q2 q3 => k0 H1 locs1 ⟨I.1.set ha, ?_, q3⟩)
    rw [nI_clamp (by omega)] at q1
    have e2 := ab_w_set G (h := w.1) (.inl (t, n, .inl (upd f j x))) p1 p2
    rw [show ab_e G (.inl (t, n, .inl (upd f j x))) = .inl (((g_T G).getD t (0, .int)).1, n, .inl (upd f j x)) from rfl] at e2
    rw [e2] at q1
    exact q1) kk
theorem e_alen {t a n : Nat} {x : (Nat → Int32) ⊕ (Nat → Int64) ⊕ (Nat → UInt32) ⊕ (Nat → UInt64) ⊕ (Nat → Option Nat)} {ty : FieldType} (hd : decode M.2.1 pc = .ok (.arraylength, 1)) (ha : w.1 a = some (.inl (t, n, x))) (ht : ab_tys[t]? = some ty) (kk : ab_E G M d (pc + 1) lv (.int (nI n) :: st) w P) : ab_E G M d pc lv (.ref a :: st) w P :=
  ab_go (fun p e R s m args below meth c H locs cells slots ls Q C I hc hs hl k0 => by
    obtain ⟨p1, p2⟩ := I.1.pos ha
    have e1 : (ab_q G (n, x)).1 = n := by
      rcases x with f | f | f | f | f <;> rfl
    exact va_alen (D := g_D G) (x := ab_q G (n, x)) C.1 C.2.1 C.kk.1 I.2.1 (a - 1) t (ab_w_get G ha p1 p2) (ab_ty C.kk ht) (by rw [e1]; rfl) hd (k0 ls hl)) kk
theorem ab_rfv (G : ab_G) (r : Option Nat) : va_rf (r.map (ab_ad G)) = ab_v G (va_rf r) := by cases r <;> rfl
theorem e_aald {t a n j : Nat} {Cn : String} {f : Nat → Option Nat} {i : Int32} {v : Value} (hd : decode M.2.1 pc = .ok (.aaload, 1)) (ha : w.1 a = some (.inl (t, n, .inr (.inr (.inr (.inr f)))))) (ht : ab_tys[t]? = some (.object Cn)) (hi : i = nI j) (hj : j < n) (hn : n < 2 ^ 31) (hv : va_rf (f j) = v) (kk : ab_E G M d (pc + 1) lv (v :: st) w P) : ab_E G M d pc lv (.int i :: .ref a :: st) w P :=
  ab_go (fun p e R s m args below meth c H locs cells slots ls Q C I hc hs hl k0 => by
    obtain ⟨p1, p2⟩ := I.1.pos ha
    subst hi
    subst hv
    refine va_aldq (D := g_D G) (f := fun i => (f i).map (ab_ad G)) C.1 C.2.1 C.kk.1 I.2.1 (a - 1) t (ab_w_get G ha p1 p2) (ab_ty C.kk ht) (vp_in_nI hj hn) hd ?_
    rw [nI_clamp (by omega), ab_rfv]
    exact k0 ls hl) kk
theorem ab_upq (G : ab_G) (f : Nat → Option Nat) (j v : Nat) : va_up (fun i => (f i).map (ab_ad G)) j (some (ab_ad G v)) = fun i => (va_up f j (some v) i).map (ab_ad G) := by
  funext i
  by_cases h : i = j
  · simp [va_up, h]
  · simp [va_up, h]
theorem e_aast {t a n j ci v : Nat} {q : vw_C} {vs : List Value} {f : Nat → Option Nat} {i : Int32} (hd : decode M.2.1 pc = .ok (.aastore, 1)) (ha : w.1 a = some (.inl (t, n, .inr (.inr (.inr (.inr f)))))) (ht : ab_tys[t]? = some (.object q.1)) (hv : w.1 v = some (.inr (ci, vs))) (hc : vwCl[ci]? = some q) (hi : i = nI j) (hj : j < n) (hn : n < 2 ^ 31) (kk : ab_E G M d (pc + 1) lv st (va_up w.1 a (some (.inl (t, n, .inr (.inr (.inr (.inr (va_up f j (some v)))))))), w.2) P) : ab_E G M d pc lv (.ref v :: .int i :: .ref a :: st) w P :=
  ab_goW (fun p e R s m args below meth c H locs cells slots ls Q C I hl k0 => by
    obtain ⟨p1, p2⟩ := I.1.pos ha
    obtain ⟨p3, p4⟩ := I.1.pos hv
    subst hi
    refine va_astq (D := g_D G) (f := fun i => (f i).map (ab_ad G)) (r := q) C.1 C.2.1 C.kk.1 I.2.1 (ab_w_D G _ _) I.2.2 (a - 1) t (v - 1) ci (ab_w_get G ha p1 p2) (ab_ty C.kk ht) (ab_w_get G hv p3 p4) hc (vp_in_nI hj hn) hd (fun H1 locs1 q1 q2 q3 => k0 H1 locs1 ⟨I.1.set ha, ?_, q3⟩)
    rw [nI_clamp (by omega), ab_upq] at q1
    have e2 := ab_w_set G (h := w.1) (.inl (t, n, .inr (.inr (.inr (.inr (va_up f j (some v))))))) p1 p2
    rw [show ab_e G (.inl (t, n, .inr (.inr (.inr (.inr (va_up f j (some v))))))) = .inl (((g_T G).getD t (0, .int)).1, n, .inr (.inr (.inr (.inr (fun i => (va_up f j (some v) i).map (ab_ad G)))))) from rfl] at e2
    rw [e2] at q1
    exact q1) kk
/-- the script -/
theorem e_sld {j : Nat} {i : Int32} (hd : decode M.2.1 pc = .ok (.iaload, 1)) (hi : i = nI j) (hj : j < g_L G) (hn : g_L G < 2 ^ 31) (kk : ab_E G M d (pc + 1) lv (.int (g_x G j) :: st) w P) : ab_E G M d pc lv (.int i :: .ref 0 :: st) w P :=
  ab_go (fun p e R s m args below meth c H locs cells slots ls Q C I hc hs hl k0 => by
    obtain ⟨-, -, hX, hb1, hb2, -⟩ := C.kk
    subst hi
    refine va_sld (A := ab_A G) (b := g_b G) C.1 C.2.1 hX (by omega) (by show ¬ g_B G < g_b G; omega) I.2.2 (vp_in_nI hj hn) hd ?_
    rw [nI_clamp (by omega)]
    exact k0 ls hl) kk
theorem e_slen (hd : decode M.2.1 pc = .ok (.arraylength, 1)) (kk : ab_E G M d (pc + 1) lv (.int (nI (g_L G)) :: st) w P) : ab_E G M d pc lv (.ref 0 :: st) w P :=
  ab_go (fun p e R s m args below meth c H locs cells slots ls Q C I hc hs hl k0 => by
    obtain ⟨-, -, hX, hb1, hb2, -⟩ := C.kk
    exact va_slen (A := ab_A G) (b := g_b G) C.1 C.2.1 hX (by omega) (by show ¬ g_B G < g_b G; omega) I.2.2 hd (k0 ls hl)) kk
/-- a new cell -/
theorem ab_goA {pc1 k : Nat} {st1 : List Value} {x : va_E}
    (step : ∀ (p : Program) (e : Env) (R : Room) (s : State) (m : MethodId) (args : Array Value) (below : List Frame) (meth : Method) (c : Code) (H : Heap) (locs : List Loc) (cells slots : Nat) (ls : Array Slot) (Q : State → Prop), ab_C G M d p R s m args meth c → ab_I G w s H locs → cells + 1 ≤ R.cells → slots + k ≤ R.slots → ab_L G M lv ls → (∀ (q : Nat) (H1 : Heap), va_P (g_D G) vwCl (ab_w G w.1 w.2.1 ++ [(q, ab_e G x)]) H1 → va_D (ab_A G) (ab_w G w.1 w.2.1 ++ [(q, ab_e G x)]) → va_S (ab_A G) s.heap H1 locs → W p (g_l G) e R s m args below meth c H1 locs (cells + 1) (slots + k) Q (F0 m pc1 ls (.ref q :: st1.map (ab_v G)))) → W p (g_l G) e R s m args below meth c H locs cells slots Q (F0 m pc ls (st.map (ab_v G))))
    (kk : ab_E G M d pc1 lv (.ref w.2.1 :: st1) (va_up w.1 w.2.1 (some x), w.2.1 + 1, w.2.2 + k) P) : ab_E G M d pc lv st w P := by
  obtain ⟨r, w2, ⟨b1, b2, b3⟩, hr, hP⟩ := kk
  dsimp only at b1 b2
  refine ⟨r, w2, ⟨by omega, by omega, fun p e R s m args below meth c H locs cells slots ls Q C I hz hc hs hl hret => ?_⟩, hr, hP⟩
  refine step p e R s m args below meth c H locs cells slots ls Q C I (by omega) (by omega) hl (fun q H1 q1 q2 q3 T hT X => ?_)
  have hsz := X.heapSize
  rw [hT] at hsz
  have hq : q = g_B G + w.2.1 := ab_fresh q1 q2 I.1.1 (by omega)
  subst hq
  rw [ab_w_push G x I.1.1] at q1
  have e1 : cells + 1 + (w2.2.1 - (w.2.1 + 1)) = cells + (w2.2.1 - w.2.1) := by omega
  have e2 : slots + k + (w2.2.2 - (w.2.2 + k)) = slots + (w2.2.2 - w.2.2) := by omega
  have K := b3 p e R s m args below meth c H1 locs (cells + 1) (slots + k) ls Q C ⟨I.1.push x _, q1, q3⟩ (by dsimp only; omega) (by dsimp only; omega) (by dsimp only; omega) hl (fun H2 locs2 pc2 ls2 I2 t2 => by
    dsimp only
    rw [e1, e2]
    exact hret H2 locs2 pc2 ls2 I2 t2)
  rw [List.map_cons, ab_v_r, ab_ad_pos G (by have := I.1.1; omega)] at K
  exact K T hT X
theorem ab_hA {s : State} (hK : ab_K G s) : ∀ q : Nat, s.heap.size ≤ q → ab_A G q := fun q h => by
  have := hK.2.2.2.2.1
  show g_B G < q
  omega
theorem e_new {idx ci : Nat} {fs : List Value} (hd : decode M.2.1 pc = .ok (.new idx, 3)) (hk : ab_nw M.1.cls idx ci fs) (kk : ab_E G M d (pc + 3) lv (.ref w.2.1 :: st) (va_up w.1 w.2.1 (some (.inr (ci, fs))), w.2.1 + 1, w.2.2 + fs.length) P) : ab_E G M d pc lv st w P :=
  ab_goA (fun p e R s m args below meth c H locs cells slots ls Q C I hc hs hl k0 => by
    obtain ⟨Cn, T, N, ty, ⟨c1, c2, c3, c4⟩, k1, k2, k3, hN, hfs⟩ := hk
    subst hN
    exact va_new (ci := ci) (fs := fs.map (ab_v G)) C.1 C.2.1 C.wd c2 ty c3 C.own (C.wd _ k1) (C.wd _ k2) (C.wd _ k3) C.kk.1 I.2.1 (ab_w_D G _ _) I.2.2 (ab_hA C.kk) c1 (fun j hj => by rw [ab_vV, ← hfs j hj, ab_vnull]) hc hs hd (fun q H1 q1 q2 q3 => k0 q H1 q1 q2 q3)) kk
theorem e_newa {t n : Nat} {i : Int32} (hd : decode M.2.1 pc = .ok (.newarray .int, 2)) (ht : ab_tys[t]? = some .int) (hk : Cond.arrayClass .int ∈ ab_T) (hi : i = nI n) (hn : n ≤ 100000) (kk : ab_E G M d (pc + 2) lv (.ref w.2.1 :: st) (va_up w.1 w.2.1 (some (.inl (t, n, .inl (fun _ => 0)))), w.2.1 + 1, w.2.2 + n) P) : ab_E G M d pc lv (.int i :: st) w P :=
  ab_goA (fun p e R s m args below meth c H locs cells slots ls Q C I hc hs hl k0 => by
    subst hi
    refine va_newa (D := g_D G) (atype := .int) (N' := n) (ty := .int) (a0 := (n, .inl (fun _ => 0))) C.1 C.2.1 (C.wd _ hk) rfl C.kk.1 I.2.1 (ab_w_D G _ _) I.2.2 (ab_hA C.kk) (fun cA => rfl) (nI_pos (by omega)) (nI_clamp (by omega)) (by show n * 4 ≤ 536870912; omega) hc hs hd (fun q cA H1 qK q1 q2 q3 => ?_)
    have e1 : (((g_T G).getD t (0, .int)).1) = cA := by
      have h1 := (qK.2 (g_T G).length (cA, .int) (by rw [List.getElem?_append_right (Nat.le_refl _), Nat.sub_self]; rfl)).2
      have h2 := (C.kk.1.2 t _ (ab_ty C.kk ht)).2
      exact Option.some.inj (h2.symm.trans h1)
    rw [← e1] at q1 q2
    exact k0 q H1 q1 q2 q3) kk
theorem e_newq {t n idx : Nat} {i : Int32} {Cn : String} (hd : decode M.2.1 pc = .ok (.anewarray idx, 3)) (ht : ab_tys[t]? = some (.object Cn)) (hk : Cond.classLink M.1.cls idx Cn ∈ ab_T) (ho : Cn ∈ ab_over) (hi : i = nI n) (hn : n ≤ 100000) (kk : ab_E G M d (pc + 3) lv (.ref w.2.1 :: st) (va_up w.1 w.2.1 (some (.inl (t, n, .inr (.inr (.inr (.inr (fun _ => none))))))), w.2.1 + 1, w.2.2 + n) P) : ab_E G M d pc lv (.int i :: st) w P :=
  ab_goA (fun p e R s m args below meth c H locs cells slots ls Q C I hc hs hl k0 => by
    subst hi
    refine va_newq (D := g_D G) (N' := n) C.1 C.2.1 C.own (C.wd _ hk) (C.kk.2.2.2.2.2.2 _ ho) C.kk.1 I.2.1 (ab_w_D G _ _) I.2.2 (ab_hA C.kk) (nI_pos (by omega)) (nI_clamp (by omega)) (by omega) hc hs hd (fun q cA H1 qK q1 q2 q3 => ?_)
    have e1 : (((g_T G).getD t (0, .int)).1) = cA := by
      obtain ⟨-, -, -, -, -, h1⟩ := (qK.2 (g_T G).length (cA, .object Cn) (by rw [List.getElem?_append_right (Nat.le_refl _), Nat.sub_self]; rfl)).2
      obtain ⟨-, -, -, -, -, h2⟩ := (C.kk.1.2 t _ (ab_ty C.kk ht)).2
      exact Option.some.inj (h2.symm.trans h1)
    rw [← e1] at q1 q2
    exact k0 q H1 q1 q2 q3) kk
theorem e_copy {idx t a0 a1 n0 n1 sp dp n : Nat} {f g : Nat → Int32} {isp idp i : Int32} (hd : decode M.2.1 pc = .ok (.invokestatic idx, 3)) (hw : Cond.methodLink M.1.cls idx arraycopyName ∈ ab_T ∧ Cond.native arraycopyName ∈ ab_T ∧ Cond.static arraycopyName ∈ ab_T ∧ Cond.initialized "java/lang/System" ∈ ab_T) (h0 : w.1 a0 = some (.inl (t, n0, .inl f))) (h1 : w.1 a1 = some (.inl (t, n1, .inl g))) (ht : ab_tys[t]? = some .int) (e1 : isp = nI sp) (e2 : idp = nI dp) (e3 : i = nI n) (hs : sp + n ≤ n0) (hp : dp + n ≤ n1) (hn0 : n0 < 2 ^ 31) (hn1 : n1 < 2 ^ 31) (hr : 1 ≤ d.1 ∧ (st.map fun v => v.category).sum + (nativeFrameWords "java/lang/System" "arraycopy" 5 + 11) ≤ d.2) (kk : ab_E G M d (pc + 3) lv st (va_up w.1 a1 (some (.inl (t, n1, .inl (va_cpy f g sp dp n)))), w.2) P) : ab_E G M d pc lv (.int i :: .int idp :: .ref a1 :: .int isp :: .ref a0 :: st) w P :=
  ab_goW (fun p e R s m args below meth c H locs cells slots ls Q C I hl k0 => by
    obtain ⟨p1, p2⟩ := I.1.pos h0
    obtain ⟨p3, p4⟩ := I.1.pos h1
    subst e1 e2 e3
    have c1 : (nI sp).toNatClampNeg = sp := nI_clamp (by omega)
    have c2 : (nI dp).toNatClampNeg = dp := nI_clamp (by omega)
    have c3 : (nI n).toNatClampNeg = n := nI_clamp (by omega)
    refine va_copyi (D := g_D G) (f := f) (g := g) (ty := .int) C.1 C.2.1 (C.2.2.2.1.trans hl.1.1.symm) C.own (C.wd _ hw.1) (C.wd _ hw.2.1) (C.wd _ hw.2.2.1) (C.wd _ hw.2.2.2) C.kk.1 I.2.1 (ab_w_D G _ _) I.2.2 (a0 - 1) (a1 - 1) t t (ab_w_get G h0 p1 p2) (ab_w_get G h1 p3 p4) (ab_ty C.kk ht) (ab_ty C.kk ht) rfl (nI_pos (by omega)) (nI_pos (by omega)) (nI_pos (by omega)) (by rw [c1, c3]; exact hs) (by rw [c2, c3]; exact hp) (fun _ _ => rfl) (Nat.le_trans hr.1 C.fr.1) (by rw [ab_cats]; exact Nat.le_trans hr.2 C.fr.2) hd (fun H1 locs1 q1 q2 q3 => k0 H1 locs1 ⟨I.1.set h1, ?_, q3⟩)
    rw [c1, c2, c3] at q1
    have e2 := ab_w_set G (h := w.1) (.inl (t, n1, .inl (va_cpy f g sp dp n))) p3 p4
    rw [show ab_e G (.inl (t, n1, .inl (va_cpy f g sp dp n))) = .inl (((g_T G).getD t (0, .int)).1, n1, .inl (va_cpy f g sp dp n)) from rfl] at e2
    rw [e2] at q1
    exact q1) kk
theorem e_mmin {idx : Nat} {x y : Int32} (hd : decode M.2.1 pc = .ok (.invokestatic idx, 3)) (hw : Cond.methodLink M.1.cls idx Lib.Math.min.name ∈ ab_T ∧ Cond.static Lib.Math.min.name ∈ ab_T ∧ Cond.initialized "java/lang/Math" ∈ ab_T ∧ Cond.code Lib.Math.min.name Lib.Math.min.code 2 (some .int) ∈ ab_T) (hr : 1 ≤ d.1 ∧ (st.map fun v => v.category).sum + 13 ≤ d.2) (kk : ab_E G M d (pc + 3) lv (.int (if y < x then y else x) :: st) w P) : ab_E G M d pc lv (.int y :: .int x :: st) w P :=
  ab_go (fun p e R s m args below meth c H locs cells slots ls Q C I hc hs hl k0 => va_mmin C.1 C.2.1 (C.2.2.2.1.trans hl.1.1.symm) C.own (C.wd _ hw.1) (C.wd _ hw.2.1) (C.wd _ hw.2.2.1) (C.wd _ hw.2.2.2) (Nat.le_trans hr.1 C.fr.1) (by rw [ab_cats]; exact Nat.le_trans hr.2 C.fr.2) hc hs hd (k0 ls hl)) kk
/-- Object's own constructor -/
theorem e_obj {idx : Nat} {a : Nat} (hd : decode M.2.1 pc = .ok (.invokespecial idx, 3)) (hw : Cond.methodLink M.1.cls idx objectInit ∈ ab_T ∧ Cond.instanceMethod objectInit ∈ ab_T ∧ Cond.code objectInit ⟨#[0xb1]⟩ 1 none ∈ ab_T) (hr : 1 ≤ d.1 ∧ (st.map fun v => v.category).sum + 12 ≤ d.2) (kk : ab_E G M d (pc + 3) lv st w P) : ab_E G M d pc lv (.ref a :: st) w P :=
  ab_go (fun p e R s m args below meth c H locs cells slots ls Q C I hc hs hl k0 => W.objInit C.1 C.2.1 C.own (C.wd _ hw.1) (C.wd _ hw.2.1) (C.wd _ hw.2.2) rfl (hl.1.1.trans C.2.2.2.1.symm) rfl hd (Nat.le_trans hr.1 C.fr.1) (by show 2 * 0 + _ + 12 ≤ _; rw [Nat.mul_zero, Nat.zero_add]; exact (by rw [ab_cats]; exact Nat.le_trans hr.2 C.fr.2)) (k0 ls hl)) kk
/-- the same, the new world by a name -/
theorem e_putx {idx ci k a : Nat} {t : FieldType} {fs fs1 : List Value} {v : Value} (hd : decode M.2.1 pc = .ok (.putfield idx, 3)) (hf : ab_fl M.1.cls idx ci k t false) (ha : w.1 a = some (.inr (ci, fs))) (hk0 : k < fs.length) (hn : narrow t (ab_v G v) = ab_v G v) (hft : fits t (ab_v G v) = true) (hfs : fs.set k v = fs1) (kk : ∀ w1 : ab_W, w1.2 = w.2 → w1.1 a = some (.inr (ci, fs1)) → (∀ i, i ≠ a → w1.1 i = w.1 i) → ab_E G M d (pc + 3) lv st w1 P) : ab_E G M d pc lv (v :: .ref a :: st) w P :=
  e_put hd hf ha hk0 hn hft hfs (kk _ rfl (if_pos rfl) (fun _ hi => if_neg hi))
theorem e_putFx {idx ci k a : Nat} {t : FieldType} {fs fs1 : List Value} {v : Value} (hd : decode M.2.1 pc = .ok (.putfield idx, 3)) (hf : ab_fl M.1.cls idx ci k t true) (hcls : (vwCl[ci]?).map (fun q => q.1) = some M.1.cls) (hin : M.1.name = "<init>") (ha : w.1 a = some (.inr (ci, fs))) (hk0 : k < fs.length) (hn : narrow t (ab_v G v) = ab_v G v) (hft : fits t (ab_v G v) = true) (hfs : fs.set k v = fs1) (kk : ∀ w1 : ab_W, w1.2 = w.2 → w1.1 a = some (.inr (ci, fs1)) → (∀ i, i ≠ a → w1.1 i = w.1 i) → ab_E G M d (pc + 3) lv st w1 P) : ab_E G M d pc lv (v :: .ref a :: st) w P :=
  e_putF hd hf hcls hin ha hk0 hn hft hfs (kk _ rfl (if_pos rfl) (fun _ hi => if_neg hi))
theorem e_iastx {t a n j : Nat} {f : Nat → Int32} {i x : Int32} (hd : decode M.2.1 pc = .ok (.iastore, 1)) (ha : w.1 a = some (.inl (t, n, .inl f))) (ht : ab_tys[t]? = some .int) (hi : i = nI j) (hj : j < n) (hn : n < 2 ^ 31) (kk : ∀ w1 : ab_W, w1.2 = w.2 → w1.1 a = some (.inl (t, n, .inl (upd f j x))) → (∀ i, i ≠ a → w1.1 i = w.1 i) → ab_E G M d (pc + 1) lv st w1 P) : ab_E G M d pc lv (.int x :: .int i :: .ref a :: st) w P :=
  e_iast hd ha ht hi hj hn (kk _ rfl (if_pos rfl) (fun _ hi => if_neg hi))
theorem e_copyx {idx t a0 a1 n0 n1 sp dp n : Nat} {f g : Nat → Int32} {isp idp i : Int32} (hd : decode M.2.1 pc = .ok (.invokestatic idx, 3)) (hw : Cond.methodLink M.1.cls idx arraycopyName ∈ ab_T ∧ Cond.native arraycopyName ∈ ab_T ∧ Cond.static arraycopyName ∈ ab_T ∧ Cond.initialized "java/lang/System" ∈ ab_T) (h0 : w.1 a0 = some (.inl (t, n0, .inl f))) (h1 : w.1 a1 = some (.inl (t, n1, .inl g))) (ht : ab_tys[t]? = some .int) (e1 : isp = nI sp) (e2 : idp = nI dp) (e3 : i = nI n) (hs : sp + n ≤ n0) (hp : dp + n ≤ n1) (hn0 : n0 < 2 ^ 31) (hn1 : n1 < 2 ^ 31) (hr : 1 ≤ d.1 ∧ (st.map fun v => v.category).sum + (nativeFrameWords "java/lang/System" "arraycopy" 5 + 11) ≤ d.2) (kk : ∀ w1 : ab_W, w1.2 = w.2 → w1.1 a1 = some (.inl (t, n1, .inl (va_cpy f g sp dp n))) → (∀ i, i ≠ a1 → w1.1 i = w.1 i) → ab_E G M d (pc + 3) lv st w1 P) : ab_E G M d pc lv (.int i :: .int idp :: .ref a1 :: .int isp :: .ref a0 :: st) w P :=
  e_copy hd hw h0 h1 ht e1 e2 e3 hs hp hn0 hn1 hr (kk _ rfl (if_pos rfl) (fun _ hi => if_neg hi))
end AB
end
section
/-! The rows of calls: what a method comes to, as a contract of the kit; and how a caller goes on. -/
theorem ab_K.moved {G : ab_G} {s U : State} {locs : List Loc} (hK : ab_K G s) (hW : s.WarmedH U.vm) (hS : va_S (ab_A G) s.heap U.heap locs) : ab_K G U := by
  obtain ⟨h1, h2, h3, h4, h5, h6, h7⟩ := hK
  refine ⟨va_K.moved hW.alike h1, h2, (h3.kept (hS.2.1 _ (by omega) (by show ¬ g_B G < g_b G; omega))).moved hW.alike, h4, Nat.lt_of_lt_of_le h5 hS.1, fun q hq => (h6 q hq).warmM hW, fun C hC => (h7 C hC).moved hW.alike⟩
def ab_P (G : ab_G) (w : ab_W) (U : State) : Prop := ab_K G U ∧ U.heap.size = g_B G + w.2.1 ∧ ab_dom w ∧ va_P (g_D G) vwCl (ab_w G w.1 w.2.1) U.heap
def ab_Q (G : ab_G) (r : Option Value) (w : ab_W) : Array Value → State → Outcome → State → Prop := fun _ st o t => o = .returned (r.map (ab_v G)) ∧ ab_dom w ∧ va_P (g_D G) vwCl (ab_w G w.1 w.2.1) t.heap ∧ va_F (ab_A G) st t
theorem ab_blind {G : ab_G} {w : ab_W} {av : List Value} : FrameBlind (va_Pc av (ab_P G w)) := by
  intro a U g mk q
  obtain ⟨q0, ⟨h1, h2, h3, h4, h5, h6, h7⟩, q2, q3, q4⟩ := q
  exact ⟨q0, ⟨va_K.moved (u := U) (U := U.calling g mk a) (Vm.Alike.refl U.vm) h1, h2, va_X.moved (u := U) (U := U.calling g mk a) (Vm.Alike.refl U.vm) h3, h4, h5, fun q hq => va_Nw.same (u := U) (U := U.calling g mk a) rfl rfl (h6 q hq), fun C hC => va_AO.moved (u := U) (U := U.calling g mk a) (Vm.Alike.refl U.vm) (h7 C hC)⟩, q2, q3, q4⟩
def ab_ws (M : ab_M) : List Cond := Cond.code M.1 M.2.1 M.2.2.1 M.2.2.2 :: ab_T
def ab_room (d : Nat × Nat) (mc ms : Nat) : Room := { frames := d.1, cells := mc, slots := ms, locals := d.2 }
theorem ab_good {M : ab_M} (h : Cond.code M.1 M.2.1 M.2.2.1 M.2.2.2 ∈ ab_T) : GoodIn ab_T (ab_ws M) := by
  intro c hc
  have hm : c ∈ ab_T := by
    rcases List.mem_cons.mp hc with rfl | h1
    · exact h
    · exact h1
  exact ⟨hm, good_of_word (List.mem_filter.mp hm).2⟩
theorem ab_met {G : ab_G} {M : ab_M} {d : Nat × Nat} {w w2 : ab_W} {r : Option Value} {As : List Value} {lv : List (Nat × Value)} (hy : plainName M.1.cls = true) (hlen : As.length ≤ M.2.2.1) (hcat : ∀ v ∈ As, v.category = 1) (hlv : lv_args 0 As = lv) (hR : ab_R G M d 0 lv [] w r w2) (hr : ab_rt M.2.2.2 r) :
    Met (g_l G) M.1 (ab_ws M) (ab_room d (w2.2.1 - w.2.1) (w2.2.2 - w.2.2)) (va_Pc (As.map (ab_v G)) (ab_P G w)) (ab_Q G r w2) (w2.2.1 - w.2.1) (w2.2.2 - w.2.2) (ab_A G) := by
  refine Met.ofW (cc := M.2.1) (maxL := M.2.2.1) (ret := M.2.2.2) hy rfl ?_
  intro p e s m args below meth c s₁ B hml hv
  obtain ⟨rfl, hK, hsz, hdom, hP⟩ := hv
  have hx := B.exec
  have hb := B.bytes
  have hret := B.returns
  have hts := atoms_spec (ws := ab_ws M) B.pre
  have hown : s.vm.findClass M.1.cls = some m.cls := findClass_of_methodNamed B.named
  have hlocks := B.notSynchronized
  have hin : meth.name = M.1.name := (name_of_methodNamed B.named B.method).1
  have hS : va_S (ab_A G) s.heap s.heap [] := va_S.rf
  have hsl : ∀ (l : List Value), (∀ v ∈ l, v.category = 1) → (lg_sl (l.map (ab_v G))).length = l.length := by
    intro l
    induction l with
    | nil => intro _; rfl
    | cons v t ih =>
      intro h
      have h1 : (ab_v G v).category = 1 := (ab_cat G v).trans (h v List.mem_cons_self)
      have h2 := ih (fun u hu => h u (List.mem_cons_of_mem _ hu))
      have e1 : lg_sl (ab_v G v :: t.map (ab_v G)) = .val (ab_v G v) :: lg_sl (t.map (ab_v G)) := by
        simp only [lg_sl, List.flatMap_cons, h1]
        rfl
      rw [List.map_cons, e1, List.length_cons, List.length_cons, h2]
  have hl := lv_entry (As.map (ab_v G)) (n := M.2.2.1) (by rw [hsl As hcat]; exact hlen)
  rw [lg_entry_eq]
  generalize (lg_sl (As.map (ab_v G)) ++ List.replicate (M.2.2.1 - (lg_sl (As.map (ab_v G))).length) Slot.unset).toArray = ls at hl ⊢
  have hla : ∀ (l : List Value) (k : Nat), (∀ v ∈ l, v.category = 1) → lv_args k (l.map (ab_v G)) = ab_l G (lv_args k l) ∧ ∀ q ∈ lv_args k l, q.2.category = 1 := by
    intro l
    induction l with
    | nil => intro k _; exact ⟨rfl, fun q hq => by cases hq⟩
    | cons v t ih =>
      intro k h
      have h0 := h v List.mem_cons_self
      have h1 : (ab_v G v).category = 1 := (ab_cat G v).trans h0
      obtain ⟨i1, i2⟩ := ih (k + 1) (fun u hu => h u (List.mem_cons_of_mem _ hu))
      refine ⟨?_, fun q hq => ?_⟩
      · simp only [List.map_cons, lv_args, h0, h1]
        show (k, ab_v G v) :: lv_args (k + 1) (t.map (ab_v G)) = _
        rw [i1]
        rfl
      · simp only [lv_args, h0] at hq
        rcases List.mem_cons.mp hq with rfl | hq
        · exact h0
        · exact i2 q hq
  obtain ⟨j1, j2⟩ := hla As 0 hcat
  rw [j1, hlv] at hl
  rw [hlv] at j2
  obtain ⟨b1, b2, b3⟩ := hR
  refine b3 p e _ s m _ below meth c s.heap [] 0 0 ls _ ⟨hx, hb, hret, hml, hown, fun w hw => hts w (List.mem_cons_of_mem _ hw), hlocks, hin, Nat.le_refl _, Nat.le_refl _, hK⟩ ⟨hdom, hP, hS⟩ (by omega) (by show 0 + _ ≤ (ab_room d _ _).cells; rw [Nat.zero_add]; exact Nat.le_refl _) (by show 0 + _ ≤ (ab_room d _ _).slots; rw [Nat.zero_add]; exact Nat.le_refl _) ⟨hl, j2⟩ (fun H1 locs1 pc1 ls1 I1 t1 => ?_)
  rw [Nat.zero_add, Nat.zero_add]
  have hq : ∀ t : State, t.heap = H1 → s.WarmedH t.vm → ab_Q G r w2 (As.map (ab_v G)).toArray s (.returned (r.map (ab_v G))) t := fun t ht _ => ⟨rfl, I1.1, by rw [ht]; exact I1.2.1, I1.2.2.F ht⟩
  rcases t1 with ⟨rfl, hd⟩ | ⟨x, rfl, hd⟩ | ⟨a, rfl, hd⟩
  · exact W.vret hx hb (hret.trans hr) hq I1.2.2.2.2 hd
  · obtain ⟨ty, h1, h2⟩ := hr
    exact W.zret hx hb (hret.trans h1) h2 hq I1.2.2.2.2 hd
  · obtain ⟨ty, h1, h2⟩ := hr
    exact W.aret hx hb (hret.trans h1) h2 (Or.inr ⟨_, rfl⟩) hq I1.2.2.2.2 hd
/-- what a call needs of the tables -/
def ab_kB (own : String) (idx : Nat) (M : ab_M) (n : Nat) : Prop := plainName M.1.cls = true ∧ Cond.code M.1 M.2.1 M.2.2.1 M.2.2.2 ∈ ab_T ∧ Cond.methodLink own idx M.1 ∈ ab_T ∧ Cond.initialized M.1.cls ∈ ab_T ∧ (M.1.cls ≠ "java/lang/invoke/MethodHandle" ∧ M.1.cls ≠ "java/lang/invoke/VarHandle" ∧ (parseMethodDescriptor M.1.desc).map (fun d => d.parameters.length) = some n)
def ab_kV (own : String) (idx : Nat) (M : ab_M) (n : Nat) : Prop := ab_kB own idx M n ∧ Cond.instanceMethod M.1 ∈ ab_T ∧ Cond.selects M.1.cls M.1 M.1 ∈ ab_T
def ab_kS (own : String) (idx : Nat) (M : ab_M) (n : Nat) : Prop := ab_kB own idx M n ∧ Cond.static M.1 ∈ ab_T
def ab_kI (own : String) (idx : Nat) (M : ab_M) (n : Nat) : Prop := ab_kB own idx M n ∧ M.1.name = "<init>" ∧ Cond.instanceMethod M.1 ∈ ab_T
/-- of a nest mate's private static method -/
def ab_kN (own : String) (idx : Nat) (M : ab_M) (n : Nat) (host : String) : Prop := plainName M.1.cls = true ∧ Cond.code M.1 M.2.1 M.2.2.1 M.2.2.2 ∈ ab_T ∧ (own, idx, M.1, host) ∈ ab_nestM ∧ Cond.initialized M.1.cls ∈ ab_T ∧ (M.1.cls ≠ "java/lang/invoke/MethodHandle" ∧ M.1.cls ≠ "java/lang/invoke/VarHandle" ∧ (parseMethodDescriptor M.1.desc).map (fun d => d.parameters.length) = some n) ∧ Cond.static M.1 ∈ ab_T
section AB
variable {G : ab_G} {M M1 : ab_M} {d d1 : Nat × Nat} {pc idx : Nat} {lv lv1 : List (Nat × Value)} {st stk As : List Value} {w : ab_W} {P P1 : Option Value → ab_W → Prop}
theorem ab_toList (G : ab_G) (r : Option Value) (st : List Value) : (r.map (ab_v G)).toList ++ st.map (ab_v G) = (r.toList ++ st).map (ab_v G) := by cases r <;> simp
theorem ab_pre {p : Program} {R : Room} {s : State} {m : MethodId} {args : Array Value} {meth : Method} {c : Code} {H : Heap} {locs : List Loc} {cells : Nat} (C : ab_C G M d p R s m args meth c) (I : ab_I G w s H locs) (hsz : H.size = g_B G + w.2.1) (av : List Value) : PreS s H (va_Pc (av.map (ab_v G)) (ab_P G w)) (av.map (ab_v G)) :=
  ⟨ab_blind, fun U hU hW => ⟨rfl, C.kk.moved hW (by rw [hU]; exact I.2.2), by rw [hU]; exact hsz, I.1, by rw [hU]; exact I.2.1⟩⟩
theorem ab_size {p : Program} {e : Env} {R : Room} {s : State} {m : MethodId} {args : Array Value} {below : List Frame} {meth : Method} {c : Code} {H : Heap} {locs : List Loc} {cells slots : Nat} {T : State} (hT : T.heap = H) (X : Stand p (g_l G) e R s m args below meth c T locs cells slots) (C : ab_C G M d p R s m args meth c) (I : ab_I G w s H locs) (hz : s.heap.size + cells = g_B G + w.2.1) : H.size = g_B G + w.2.1 := by
  have h1 := X.heapSize
  rw [hT] at h1
  have h2 := I.2.2.1
  have h3 := C.kk.2.2.2.2.1
  have h4 := I.1.1
  by_cases h5 : s.heap.size = g_B G + w.2.1
  · omega
  · have h6 : 1 < w.2.1 := by omega
    obtain ⟨x, hx⟩ := Option.isSome_iff_exists.mp ((I.1.2 (w.2.1 - 1)).mpr ⟨by omega, by omega⟩)
    have h7 := (I.2.1 _ _ (ab_w_get G hx (by omega) (by omega))).lt
    rw [ab_ad_pos G (by omega)] at h7
    omega
/-- a caller goes on behind a call -/
theorem ab_on {r1 : Option Value} {w1 w2 : ab_W} {r : Option Value} (hn1 : w.2.1 ≤ w1.2.1) (hn2 : w.2.2 ≤ w1.2.2)
    (run : ∀ (p : Program) (e : Env) (R : Room) (s : State) (m : MethodId) (args : Array Value) (below : List Frame) (meth : Method) (c : Code) (H : Heap) (locs : List Loc) (cells slots : Nat) (ls : Array Slot), ab_C G M d p R s m args meth c → ab_I G w s H locs → H.size = g_B G + w.2.1 → cells + (w1.2.1 - w.2.1) ≤ R.cells → slots + (w1.2.2 - w.2.2) ≤ R.slots → ab_L G M lv ls → ∃ as : Array Value, va_Run p (g_l G) e R s m args below meth c H locs cells slots (w1.2.1 - w.2.1) (w1.2.2 - w.2.2) (F0 m pc ls (stk.map (ab_v G))) (st.map (ab_v G)) (ab_Q G r1 w1 as) (ab_A G))
    (kk : ab_R G M d (pc + 3) lv (r1.toList ++ st) w1 r w2) : ab_R G M d pc lv stk w r w2 := by
  obtain ⟨b1, b2, b3⟩ := kk
  refine ⟨Nat.le_trans hn1 b1, Nat.le_trans hn2 b2, fun p e R s m args below meth c H locs cells slots ls Q C I hz hc hs hl hret T hT X => ?_⟩
  obtain ⟨as, hrun⟩ := run p e R s m args below meth c H locs cells slots ls C I (ab_size hT X C I hz) (by omega) (by omega) hl
  obtain ⟨v, st₀, t, T2, L, h0, X2, hL, e1, e2, ⟨hv, hdom, hP, hF1, hF2⟩, go⟩ := hrun T hT X
  have hv : v = r1.map (ab_v G) := Outcome.returned.inj hv
  subst hv
  rw [h0] at hF1 hF2
  have I2 : ab_I G w1 s T2.heap (locs ++ L) := by
    refine ⟨hdom, by rw [e1]; exact hP, by rw [e1]; exact Nat.le_trans I.2.2.1 hF1, fun q h1 h2 => ?_, fun q hq => ?_⟩
    · rw [e1, hF2 q (Nat.lt_of_lt_of_le h1 I.2.2.1) h2]
      exact I.2.2.2.1 q h1 h2
    · rcases List.mem_append.mp hq with h | h
      · exact I.2.2.2.2 q h
      · exact hL q h
  have e3 : cells + (w1.2.1 - w.2.1) + (w2.2.1 - w1.2.1) = cells + (w2.2.1 - w.2.1) := by omega
  have e4 : slots + (w1.2.2 - w.2.2) + (w2.2.2 - w1.2.2) = slots + (w2.2.2 - w.2.2) := by omega
  obtain ⟨t2, a1, a2⟩ := b3 p e R s m args below meth c T2.heap (locs ++ L) (cells + (w1.2.1 - w.2.1)) (slots + (w1.2.2 - w.2.2)) ls Q C I2 (by omega) (by omega) (by omega) hl (fun H3 locs3 pc3 ls3 I3 t3 => by
    rw [e3, e4]
    exact hret H3 locs3 pc3 ls3 I3 t3) T2 rfl X2
  rw [← ab_toList] at a1
  exact ⟨t2, go t2 a1, a2⟩
theorem ab_cb {p : Program} {R : Room} {s : State} {m : MethodId} {args : Array Value} {meth : Method} {c : Code} {n mc ms : Nat} (C : ab_C G M d p R s m args meth c) (hk : ab_kB M.1.cls idx M1 n) (hd1 : d1.1 + 1 ≤ d.1 ∧ 8 + (M1.2.2.1 + 11) + d1.2 ≤ d.2) : CallB R s args M.1.cls idx M1.1 M1.2.1 M1.2.2.1 M1.2.2.2 (ab_ws M1) (ab_room d1 mc ms) mc ms n :=
  callB_of n C.wd (ab_good hk.2.1) rfl rfl rfl (C.wd _ hk.2.2.2.1) (C.wd _ hk.2.2.1) hk.2.2.2.2 ⟨Nat.le_trans hd1.1 C.fr.1, Nat.le_trans hd1.2 C.fr.2⟩
theorem e_callS (hd : decode M.2.1 pc = .ok (.invokestatic idx, 3)) (hk : ab_kS M.1.cls idx M1 As.length) (hd1 : d1.1 + 1 ≤ d.1 ∧ 8 + (M1.2.2.1 + 11) + d1.2 ≤ d.2) (hstk : stk = As.reverse ++ st) (hst : (st.map fun v => v.category).sum ≤ 8) (hlen : As.length ≤ M1.2.2.1) (hcat : ∀ v ∈ As, v.category = 1) (hlv : lv_args 0 As = lv1) (hs : ab_E G M1 d1 0 lv1 [] w P1) (kk : ∀ r1 w1, P1 r1 w1 → ab_E G M d (pc + 3) lv (r1.toList ++ st) w1 P) : ab_E G M d pc lv stk w P := by
  obtain ⟨r1, w1, hR, hrt, hP1⟩ := hs
  obtain ⟨r, w2, hR2, hrt2, hP2⟩ := kk r1 w1 hP1
  refine ⟨r, w2, ab_on hR.1 hR.2.1 (fun p e R s m args below meth c H locs cells slots ls C I hsz hc hs hl => ⟨(As.map (ab_v G)).toArray, ?_⟩) hR2, hrt2, hP2⟩
  exact va_runS (As := As.map (ab_v G)) (n := As.length) (rest := st.map (ab_v G)) ⟨C.1, C.2.1, C.2.2.2.1, C.own, C.wd⟩ (ab_met hk.1.1 hlen hcat hlv hR hrt) ⟨ab_cb C hk.1 hd1, C.wd _ hk.2⟩ (ab_pre (cells := cells) C I hsz As) rfl (by simp) hl.1.1 (by show stk.map (ab_v G) = _; rw [hstk, List.map_append, List.map_reverse]) (by show 2 * 0 + _ ≤ 8; rw [ab_cats]; omega) hd ⟨hc, hs⟩
theorem e_callI {a : Nat} (hd : decode M.2.1 pc = .ok (.invokespecial idx, 3)) (hk : ab_kI M.1.cls idx M1 As.length) (hret : M1.2.2.2 = none) (hd1 : d1.1 + 1 ≤ d.1 ∧ 8 + (M1.2.2.1 + 11) + d1.2 ≤ d.2) (hstk : stk = As.reverse ++ .ref a :: st) (hst : (st.map fun v => v.category).sum ≤ 8) (hlen : As.length + 1 ≤ M1.2.2.1) (hcat : ∀ v ∈ As, v.category = 1) (hlv : lv_args 0 (.ref a :: As) = lv1) (hs : ab_E G M1 d1 0 lv1 [] w P1) (kk : ∀ r1 w1, P1 r1 w1 → ab_E G M d (pc + 3) lv (r1.toList ++ st) w1 P) : ab_E G M d pc lv stk w P := by
  obtain ⟨r1, w1, hR, hrt, hP1⟩ := hs
  obtain ⟨r, w2, hR2, hrt2, hP2⟩ := kk r1 w1 hP1
  refine ⟨r, w2, ab_on hR.1 hR.2.1 (fun p e R s m args below meth c H locs cells slots ls C I hsz hc hs hl => ⟨(Value.ref (ab_ad G a) :: As.map (ab_v G)).toArray, ?_⟩) hR2, hrt2, hP2⟩
  have hcb := ab_cb (mc := w1.2.1 - w.2.1) (ms := w1.2.2 - w.2.2) C hk.1 hd1
  rw [hret] at hcb
  exact va_runI (b := ab_ad G a) (As := As.map (ab_v G)) (n := As.length) (rest := st.map (ab_v G)) ⟨C.1, C.2.1, C.2.2.2.1, C.own, C.wd⟩ (ab_met (As := .ref a :: As) hk.1.1 (by simpa using hlen) (fun v hv => by
    rcases List.mem_cons.mp hv with rfl | h
    · rfl
    · exact hcat v h) hlv hR hrt) ⟨hcb, hk.2.1, C.wd _ hk.2.2⟩ (ab_pre (cells := cells) C I hsz (.ref a :: As)) rfl (by simp) hl.1.1 (by show stk.map (ab_v G) = _; rw [hstk, List.map_append, List.map_reverse]; rfl) (by show 2 * 0 + _ ≤ 8; rw [ab_cats]; omega) hd ⟨hc, hs⟩
theorem e_callV {a ci : Nat} {fs : List Value} (hd : decode M.2.1 pc = .ok (.invokevirtual idx, 3)) (hk : ab_kV M.1.cls idx M1 As.length) (ha : w.1 a = some (.inr (ci, fs))) (hci : (vwCl[ci]?).map (fun q => q.1) = some M1.1.cls) (hd1 : d1.1 + 1 ≤ d.1 ∧ 8 + (M1.2.2.1 + 11) + d1.2 ≤ d.2) (hstk : stk = As.reverse ++ .ref a :: st) (hst : (st.map fun v => v.category).sum ≤ 8) (hlen : As.length + 1 ≤ M1.2.2.1) (hcat : ∀ v ∈ As, v.category = 1) (hlv : lv_args 0 (.ref a :: As) = lv1) (hs : ab_E G M1 d1 0 lv1 [] w P1) (kk : ∀ r1 w1, P1 r1 w1 → ab_E G M d (pc + 3) lv (r1.toList ++ st) w1 P) : ab_E G M d pc lv stk w P := by
  obtain ⟨r1, w1, hR, hrt, hP1⟩ := hs
  obtain ⟨r, w2, hR2, hrt2, hP2⟩ := kk r1 w1 hP1
  refine ⟨r, w2, ab_on hR.1 hR.2.1 (fun p e R s m args below meth c H locs cells slots ls C I hsz hc hs hl => ⟨(Value.ref (ab_ad G a) :: As.map (ab_v G)).toArray, ?_⟩) hR2, hrt2, hP2⟩
  obtain ⟨p1, p2⟩ := I.1.pos ha
  obtain ⟨q, hq1, hq2⟩ := Option.map_eq_some_iff.mp hci
  have hrec := va_recv C.kk.1 I.2.1 hq1 (ab_w_get G ha p1 p2)
  rw [hq2] at hrec
  have hpre := ab_pre (cells := cells) C I hsz (.ref a :: As)
  exact va_runV (b := ab_ad G a) (C := M1.1.cls) (As := As.map (ab_v G)) (n := As.length) (rest := st.map (ab_v G)) ⟨C.1, C.2.1, C.2.2.2.1, C.own, C.wd⟩ (ab_met (As := .ref a :: As) hk.1.1 (by simpa using hlen) (fun v hv => by
    rcases List.mem_cons.mp hv with rfl | h
    · rfl
    · exact hcat v h) hlv hR hrt) ⟨ab_cb C hk.1 hd1, C.wd _ hk.2.1, C.wd _ hk.2.2⟩ ⟨hpre.1, hrec, hpre.2⟩ rfl (by simp) hl.1.1 (by show stk.map (ab_v G) = _; rw [hstk, List.map_append, List.map_reverse]; rfl) (by show 2 * 0 + _ ≤ 8; rw [ab_cats]; omega) hd ⟨hc, hs⟩
theorem e_callN {host : String} (hd : decode M.2.1 pc = .ok (.invokestatic idx, 3)) (hk : ab_kN M.1.cls idx M1 As.length host) (hd1 : d1.1 + 1 ≤ d.1 ∧ 8 + (M1.2.2.1 + 11) + d1.2 ≤ d.2) (hstk : stk = As.reverse ++ st) (hst : (st.map fun v => v.category).sum ≤ 8) (hlen : As.length ≤ M1.2.2.1) (hcat : ∀ v ∈ As, v.category = 1) (hlv : lv_args 0 As = lv1) (hs : ab_E G M1 d1 0 lv1 [] w P1) (kk : ∀ r1 w1, P1 r1 w1 → ab_E G M d (pc + 3) lv (r1.toList ++ st) w1 P) : ab_E G M d pc lv stk w P := by
  obtain ⟨r1, w1, hR, hrt, hP1⟩ := hs
  obtain ⟨r, w2, hR2, hrt2, hP2⟩ := kk r1 w1 hP1
  refine ⟨r, w2, ab_on hR.1 hR.2.1 (fun p e R s m args below meth c H locs cells slots ls C I hsz hc hs hl => ⟨(As.map (ab_v G)).toArray, ?_⟩) hR2, hrt2, hP2⟩
  exact va_runSN (As := As.map (ab_v G)) (n := As.length) (rest := st.map (ab_v G)) (host := host) ⟨C.1, C.2.1, C.2.2.2.1, C.own, C.wd⟩ (ab_met hk.1 hlen hcat hlv hR hrt) ⟨va_cnB As.length C.wd (ab_good hk.2.1) rfl rfl rfl (C.kk.2.2.2.2.2.1 _ hk.2.2.1) (C.wd _ hk.2.2.2.1) hk.2.2.2.2.1 ⟨Nat.le_trans hd1.1 C.fr.1, Nat.le_trans hd1.2 C.fr.2⟩, C.wd _ hk.2.2.2.2.2, trivial⟩ (ab_pre (cells := cells) C I hsz As) rfl (by simp) hl.1.1 (by show stk.map (ab_v G) = _; rw [hstk, List.map_append, List.map_reverse]) (by show 2 * 0 + _ ≤ 8; rw [ab_cats]; omega) hd ⟨hc, hs⟩
end AB
end
section
theorem dd_AB_init_0 : decode (mm_AB_init).2.1 0 = .ok (.aload_n 0, 1) := by decide +kernel
theorem dd_AB_init_1 : decode (mm_AB_init).2.1 1 = .ok (.invokespecial 3, 3) := by decide +kernel
theorem dd_AB_init_4 : decode (mm_AB_init).2.1 4 = .ok (.aload_n 0, 1) := by decide +kernel
theorem dd_AB_init_5 : decode (mm_AB_init).2.1 5 = .ok (.new 9, 3) := by decide +kernel
theorem dd_AB_init_8 : decode (mm_AB_init).2.1 8 = .ok (.dup, 1) := by decide +kernel
theorem dd_AB_init_9 : decode (mm_AB_init).2.1 9 = .ok (.bipush 8, 2) := by decide +kernel
theorem dd_AB_init_11 : decode (mm_AB_init).2.1 11 = .ok (.invokespecial 11, 3) := by decide +kernel
theorem dd_AB_init_14 : decode (mm_AB_init).2.1 14 = .ok (.putfield 14, 3) := by decide +kernel
theorem dd_AB_init_17 : decode (mm_AB_init).2.1 17 = .ok (.aload_n 0, 1) := by decide +kernel
theorem dd_AB_init_18 : decode (mm_AB_init).2.1 18 = .ok (.new 9, 3) := by decide +kernel
theorem dd_AB_init_21 : decode (mm_AB_init).2.1 21 = .ok (.dup, 1) := by decide +kernel
theorem dd_AB_init_22 : decode (mm_AB_init).2.1 22 = .ok (.bipush 60, 2) := by decide +kernel
theorem dd_AB_init_24 : decode (mm_AB_init).2.1 24 = .ok (.invokespecial 11, 3) := by decide +kernel
theorem dd_AB_init_27 : decode (mm_AB_init).2.1 27 = .ok (.putfield 18, 3) := by decide +kernel
theorem dd_AB_init_30 : decode (mm_AB_init).2.1 30 = .ok (.aload_n 0, 1) := by decide +kernel
theorem dd_AB_init_31 : decode (mm_AB_init).2.1 31 = .ok (.new 21, 3) := by decide +kernel
theorem dd_AB_init_34 : decode (mm_AB_init).2.1 34 = .ok (.dup, 1) := by decide +kernel
theorem dd_AB_init_35 : decode (mm_AB_init).2.1 35 = .ok (.invokespecial 23, 3) := by decide +kernel
theorem dd_AB_init_38 : decode (mm_AB_init).2.1 38 = .ok (.putfield 24, 3) := by decide +kernel
theorem dd_AB_init_41 : decode (mm_AB_init).2.1 41 = .ok (.aload_n 0, 1) := by decide +kernel
theorem dd_AB_init_42 : decode (mm_AB_init).2.1 42 = .ok (.new 28, 3) := by decide +kernel
theorem dd_AB_init_45 : decode (mm_AB_init).2.1 45 = .ok (.dup, 1) := by decide +kernel
theorem dd_AB_init_46 : decode (mm_AB_init).2.1 46 = .ok (.invokespecial 30, 3) := by decide +kernel
theorem dd_AB_init_49 : decode (mm_AB_init).2.1 49 = .ok (.putfield 31, 3) := by decide +kernel
theorem dd_AB_init_52 : decode (mm_AB_init).2.1 52 = .ok (.aload_n 0, 1) := by decide +kernel
theorem dd_AB_init_53 : decode (mm_AB_init).2.1 53 = .ok (.new 9, 3) := by decide +kernel
theorem dd_AB_init_56 : decode (mm_AB_init).2.1 56 = .ok (.dup, 1) := by decide +kernel
theorem dd_AB_init_57 : decode (mm_AB_init).2.1 57 = .ok (.bipush 60, 2) := by decide +kernel
theorem dd_AB_init_59 : decode (mm_AB_init).2.1 59 = .ok (.invokespecial 11, 3) := by decide +kernel
theorem dd_AB_init_62 : decode (mm_AB_init).2.1 62 = .ok (.putfield 35, 3) := by decide +kernel
theorem dd_AB_init_65 : decode (mm_AB_init).2.1 65 = .ok (.aload_n 0, 1) := by decide +kernel
theorem dd_AB_init_66 : decode (mm_AB_init).2.1 66 = .ok (.new 9, 3) := by decide +kernel
theorem dd_AB_init_69 : decode (mm_AB_init).2.1 69 = .ok (.dup, 1) := by decide +kernel
theorem dd_AB_init_70 : decode (mm_AB_init).2.1 70 = .ok (.bipush 60, 2) := by decide +kernel
theorem dd_AB_init_72 : decode (mm_AB_init).2.1 72 = .ok (.invokespecial 11, 3) := by decide +kernel
theorem dd_AB_init_75 : decode (mm_AB_init).2.1 75 = .ok (.putfield 38, 3) := by decide +kernel
theorem dd_AB_init_78 : decode (mm_AB_init).2.1 78 = .ok (.return_, 1) := by decide +kernel
theorem dd_Row_init_0 : decode (mm_Row_init).2.1 0 = .ok (.aload_n 0, 1) := by decide +kernel
theorem dd_Row_init_1 : decode (mm_Row_init).2.1 1 = .ok (.invokespecial 3, 3) := by decide +kernel
theorem dd_Row_init_4 : decode (mm_Row_init).2.1 4 = .ok (.aload_n 0, 1) := by decide +kernel
theorem dd_Row_init_5 : decode (mm_Row_init).2.1 5 = .ok (.iload_n 1, 1) := by decide +kernel
theorem dd_Row_init_6 : decode (mm_Row_init).2.1 6 = .ok (.newarray .int, 2) := by decide +kernel
theorem dd_Row_init_8 : decode (mm_Row_init).2.1 8 = .ok (.putfield 9, 3) := by decide +kernel
theorem dd_Row_init_11 : decode (mm_Row_init).2.1 11 = .ok (.aload_n 0, 1) := by decide +kernel
theorem dd_Row_init_12 : decode (mm_Row_init).2.1 12 = .ok (.iconst 0, 1) := by decide +kernel
theorem dd_Row_init_13 : decode (mm_Row_init).2.1 13 = .ok (.putfield 15, 3) := by decide +kernel
theorem dd_Row_init_16 : decode (mm_Row_init).2.1 16 = .ok (.return_, 1) := by decide +kernel
theorem dd_Pk_init_0 : decode (mm_Pk_init).2.1 0 = .ok (.aload_n 0, 1) := by decide +kernel
theorem dd_Pk_init_1 : decode (mm_Pk_init).2.1 1 = .ok (.invokespecial 3, 3) := by decide +kernel
theorem dd_Pk_init_4 : decode (mm_Pk_init).2.1 4 = .ok (.aload_n 0, 1) := by decide +kernel
theorem dd_Pk_init_5 : decode (mm_Pk_init).2.1 5 = .ok (.bipush 6, 2) := by decide +kernel
theorem dd_Pk_init_7 : decode (mm_Pk_init).2.1 7 = .ok (.anewarray 9, 3) := by decide +kernel
theorem dd_Pk_init_10 : decode (mm_Pk_init).2.1 10 = .ok (.putfield 11, 3) := by decide +kernel
theorem dd_Pk_init_13 : decode (mm_Pk_init).2.1 13 = .ok (.iconst 0, 1) := by decide +kernel
theorem dd_Pk_init_14 : decode (mm_Pk_init).2.1 14 = .ok (.istore_n 1, 1) := by decide +kernel
theorem dd_Pk_init_15 : decode (mm_Pk_init).2.1 15 = .ok (.iload_n 1, 1) := by decide +kernel
theorem dd_Pk_init_16 : decode (mm_Pk_init).2.1 16 = .ok (.aload_n 0, 1) := by decide +kernel
theorem dd_Pk_init_17 : decode (mm_Pk_init).2.1 17 = .ok (.getfield 11, 3) := by decide +kernel
theorem dd_Pk_init_20 : decode (mm_Pk_init).2.1 20 = .ok (.arraylength, 1) := by decide +kernel
theorem dd_Pk_init_21 : decode (mm_Pk_init).2.1 21 = .ok (.if_icmp .ge 22, 3) := by decide +kernel
theorem dd_Pk_init_24 : decode (mm_Pk_init).2.1 24 = .ok (.aload_n 0, 1) := by decide +kernel
theorem dd_Pk_init_25 : decode (mm_Pk_init).2.1 25 = .ok (.getfield 11, 3) := by decide +kernel
theorem dd_Pk_init_28 : decode (mm_Pk_init).2.1 28 = .ok (.iload_n 1, 1) := by decide +kernel
theorem dd_Pk_init_29 : decode (mm_Pk_init).2.1 29 = .ok (.new 9, 3) := by decide +kernel
theorem dd_Pk_init_32 : decode (mm_Pk_init).2.1 32 = .ok (.dup, 1) := by decide +kernel
theorem dd_Pk_init_33 : decode (mm_Pk_init).2.1 33 = .ok (.invokespecial 17, 3) := by decide +kernel
theorem dd_Pk_init_36 : decode (mm_Pk_init).2.1 36 = .ok (.aastore, 1) := by decide +kernel
theorem dd_Pk_init_37 : decode (mm_Pk_init).2.1 37 = .ok (.iinc 1 1, 3) := by decide +kernel
theorem dd_Pk_init_40 : decode (mm_Pk_init).2.1 40 = .ok (.goto (-25), 3) := by decide +kernel
theorem dd_Pk_init_43 : decode (mm_Pk_init).2.1 43 = .ok (.aload_n 0, 1) := by decide +kernel
theorem dd_Pk_init_44 : decode (mm_Pk_init).2.1 44 = .ok (.iconst 0, 1) := by decide +kernel
theorem dd_Pk_init_45 : decode (mm_Pk_init).2.1 45 = .ok (.putfield 18, 3) := by decide +kernel
theorem dd_Pk_init_48 : decode (mm_Pk_init).2.1 48 = .ok (.aload_n 0, 1) := by decide +kernel
theorem dd_Pk_init_49 : decode (mm_Pk_init).2.1 49 = .ok (.new 22, 3) := by decide +kernel
theorem dd_Pk_init_52 : decode (mm_Pk_init).2.1 52 = .ok (.dup, 1) := by decide +kernel
theorem dd_Pk_init_53 : decode (mm_Pk_init).2.1 53 = .ok (.sipush 823, 3) := by decide +kernel
theorem dd_Pk_init_56 : decode (mm_Pk_init).2.1 56 = .ok (.invokespecial 24, 3) := by decide +kernel
theorem dd_Pk_init_59 : decode (mm_Pk_init).2.1 59 = .ok (.putfield 27, 3) := by decide +kernel
theorem dd_Pk_init_62 : decode (mm_Pk_init).2.1 62 = .ok (.return_, 1) := by decide +kernel
theorem dd_WF_init_0 : decode (mm_WF_init).2.1 0 = .ok (.aload_n 0, 1) := by decide +kernel
theorem dd_WF_init_1 : decode (mm_WF_init).2.1 1 = .ok (.invokespecial 3, 3) := by decide +kernel
theorem dd_WF_init_4 : decode (mm_WF_init).2.1 4 = .ok (.aload_n 0, 1) := by decide +kernel
theorem dd_WF_init_5 : decode (mm_WF_init).2.1 5 = .ok (.new 9, 3) := by decide +kernel
theorem dd_WF_init_8 : decode (mm_WF_init).2.1 8 = .ok (.dup, 1) := by decide +kernel
theorem dd_WF_init_9 : decode (mm_WF_init).2.1 9 = .ok (.bipush 8, 2) := by decide +kernel
theorem dd_WF_init_11 : decode (mm_WF_init).2.1 11 = .ok (.invokespecial 11, 3) := by decide +kernel
theorem dd_WF_init_14 : decode (mm_WF_init).2.1 14 = .ok (.putfield 14, 3) := by decide +kernel
theorem dd_WF_init_17 : decode (mm_WF_init).2.1 17 = .ok (.aload_n 0, 1) := by decide +kernel
theorem dd_WF_init_18 : decode (mm_WF_init).2.1 18 = .ok (.new 9, 3) := by decide +kernel
theorem dd_WF_init_21 : decode (mm_WF_init).2.1 21 = .ok (.dup, 1) := by decide +kernel
theorem dd_WF_init_22 : decode (mm_WF_init).2.1 22 = .ok (.bipush 120, 2) := by decide +kernel
theorem dd_WF_init_24 : decode (mm_WF_init).2.1 24 = .ok (.invokespecial 11, 3) := by decide +kernel
theorem dd_WF_init_27 : decode (mm_WF_init).2.1 27 = .ok (.putfield 20, 3) := by decide +kernel
theorem dd_WF_init_30 : decode (mm_WF_init).2.1 30 = .ok (.return_, 1) := by decide +kernel
theorem dd_Ar_init_0 : decode (mm_Ar_init).2.1 0 = .ok (.aload_n 0, 1) := by decide +kernel
theorem dd_Ar_init_1 : decode (mm_Ar_init).2.1 1 = .ok (.invokespecial 3, 3) := by decide +kernel
theorem dd_Ar_init_4 : decode (mm_Ar_init).2.1 4 = .ok (.aload_n 0, 1) := by decide +kernel
theorem dd_Ar_init_5 : decode (mm_Ar_init).2.1 5 = .ok (.new 9, 3) := by decide +kernel
theorem dd_Ar_init_8 : decode (mm_Ar_init).2.1 8 = .ok (.dup, 1) := by decide +kernel
theorem dd_Ar_init_9 : decode (mm_Ar_init).2.1 9 = .ok (.sipush 600, 3) := by decide +kernel
theorem dd_Ar_init_12 : decode (mm_Ar_init).2.1 12 = .ok (.invokespecial 11, 3) := by decide +kernel
theorem dd_Ar_init_15 : decode (mm_Ar_init).2.1 15 = .ok (.putfield 14, 3) := by decide +kernel
theorem dd_Ar_init_18 : decode (mm_Ar_init).2.1 18 = .ok (.aload_n 0, 1) := by decide +kernel
theorem dd_Ar_init_19 : decode (mm_Ar_init).2.1 19 = .ok (.bipush 7, 2) := by decide +kernel
theorem dd_Ar_init_21 : decode (mm_Ar_init).2.1 21 = .ok (.anewarray 20, 3) := by decide +kernel
theorem dd_Ar_init_24 : decode (mm_Ar_init).2.1 24 = .ok (.putfield 22, 3) := by decide +kernel
theorem dd_Ar_init_27 : decode (mm_Ar_init).2.1 27 = .ok (.iconst 0, 1) := by decide +kernel
theorem dd_Ar_init_28 : decode (mm_Ar_init).2.1 28 = .ok (.istore_n 1, 1) := by decide +kernel
theorem dd_Ar_init_29 : decode (mm_Ar_init).2.1 29 = .ok (.iload_n 1, 1) := by decide +kernel
theorem dd_Ar_init_30 : decode (mm_Ar_init).2.1 30 = .ok (.aload_n 0, 1) := by decide +kernel
theorem dd_Ar_init_31 : decode (mm_Ar_init).2.1 31 = .ok (.getfield 22, 3) := by decide +kernel
theorem dd_Ar_init_34 : decode (mm_Ar_init).2.1 34 = .ok (.arraylength, 1) := by decide +kernel
theorem dd_Ar_init_35 : decode (mm_Ar_init).2.1 35 = .ok (.if_icmp .ge 22, 3) := by decide +kernel
theorem dd_Ar_init_38 : decode (mm_Ar_init).2.1 38 = .ok (.aload_n 0, 1) := by decide +kernel
theorem dd_Ar_init_39 : decode (mm_Ar_init).2.1 39 = .ok (.getfield 22, 3) := by decide +kernel
theorem dd_Ar_init_42 : decode (mm_Ar_init).2.1 42 = .ok (.iload_n 1, 1) := by decide +kernel
theorem dd_Ar_init_43 : decode (mm_Ar_init).2.1 43 = .ok (.new 20, 3) := by decide +kernel
theorem dd_Ar_init_46 : decode (mm_Ar_init).2.1 46 = .ok (.dup, 1) := by decide +kernel
theorem dd_Ar_init_47 : decode (mm_Ar_init).2.1 47 = .ok (.invokespecial 26, 3) := by decide +kernel
theorem dd_Ar_init_50 : decode (mm_Ar_init).2.1 50 = .ok (.aastore, 1) := by decide +kernel
theorem dd_Ar_init_51 : decode (mm_Ar_init).2.1 51 = .ok (.iinc 1 1, 3) := by decide +kernel
theorem dd_Ar_init_54 : decode (mm_Ar_init).2.1 54 = .ok (.goto (-25), 3) := by decide +kernel
theorem dd_Ar_init_57 : decode (mm_Ar_init).2.1 57 = .ok (.aload_n 0, 1) := by decide +kernel
theorem dd_Ar_init_58 : decode (mm_Ar_init).2.1 58 = .ok (.iconst 0, 1) := by decide +kernel
theorem dd_Ar_init_59 : decode (mm_Ar_init).2.1 59 = .ok (.putfield 27, 3) := by decide +kernel
theorem dd_Ar_init_62 : decode (mm_Ar_init).2.1 62 = .ok (.aload_n 0, 1) := by decide +kernel
theorem dd_Ar_init_63 : decode (mm_Ar_init).2.1 63 = .ok (.iconst (-1), 1) := by decide +kernel
theorem dd_Ar_init_64 : decode (mm_Ar_init).2.1 64 = .ok (.putfield 31, 3) := by decide +kernel
theorem dd_Ar_init_67 : decode (mm_Ar_init).2.1 67 = .ok (.return_, 1) := by decide +kernel
theorem dd_OF_init_0 : decode (mm_OF_init).2.1 0 = .ok (.aload_n 0, 1) := by decide +kernel
theorem dd_OF_init_1 : decode (mm_OF_init).2.1 1 = .ok (.invokespecial 3, 3) := by decide +kernel
theorem dd_OF_init_4 : decode (mm_OF_init).2.1 4 = .ok (.aload_n 0, 1) := by decide +kernel
theorem dd_OF_init_5 : decode (mm_OF_init).2.1 5 = .ok (.new 9, 3) := by decide +kernel
theorem dd_OF_init_8 : decode (mm_OF_init).2.1 8 = .ok (.dup, 1) := by decide +kernel
theorem dd_OF_init_9 : decode (mm_OF_init).2.1 9 = .ok (.bipush 8, 2) := by decide +kernel
theorem dd_OF_init_11 : decode (mm_OF_init).2.1 11 = .ok (.invokespecial 11, 3) := by decide +kernel
theorem dd_OF_init_14 : decode (mm_OF_init).2.1 14 = .ok (.putfield 14, 3) := by decide +kernel
theorem dd_OF_init_17 : decode (mm_OF_init).2.1 17 = .ok (.return_, 1) := by decide +kernel
theorem dd_AB_name_0 : decode (mm_AB_name).2.1 0 = .ok (.iload_n 1, 1) := by decide +kernel
theorem dd_AB_name_1 : decode (mm_AB_name).2.1 1 = .ok (.invokestatic 41, 3) := by decide +kernel
theorem dd_AB_name_4 : decode (mm_AB_name).2.1 4 = .ok (.ifCond .ne 5, 3) := by decide +kernel
theorem dd_AB_name_7 : decode (mm_AB_name).2.1 7 = .ok (.iconst (-1), 1) := by decide +kernel
theorem dd_AB_name_8 : decode (mm_AB_name).2.1 8 = .ok (.ireturn, 1) := by decide +kernel
theorem dd_AB_name_9 : decode (mm_AB_name).2.1 9 = .ok (.aload_n 0, 1) := by decide +kernel
theorem dd_AB_name_10 : decode (mm_AB_name).2.1 10 = .ok (.getfield 14, 3) := by decide +kernel
theorem dd_AB_name_13 : decode (mm_AB_name).2.1 13 = .ok (.iload_n 1, 1) := by decide +kernel
theorem dd_AB_name_14 : decode (mm_AB_name).2.1 14 = .ok (.invokevirtual 45, 3) := by decide +kernel
theorem dd_AB_name_17 : decode (mm_AB_name).2.1 17 = .ok (.ifCond .eq 13, 3) := by decide +kernel
theorem dd_AB_name_20 : decode (mm_AB_name).2.1 20 = .ok (.aload_n 0, 1) := by decide +kernel
theorem dd_AB_name_21 : decode (mm_AB_name).2.1 21 = .ok (.getfield 14, 3) := by decide +kernel
theorem dd_AB_name_24 : decode (mm_AB_name).2.1 24 = .ok (.getfield 48, 3) := by decide +kernel
theorem dd_AB_name_27 : decode (mm_AB_name).2.1 27 = .ok (.goto 5, 3) := by decide +kernel
theorem dd_AB_name_30 : decode (mm_AB_name).2.1 30 = .ok (.bipush (-2), 2) := by decide +kernel
theorem dd_AB_name_32 : decode (mm_AB_name).2.1 32 = .ok (.ireturn, 1) := by decide +kernel
theorem dd_AB_isNameCharacter_0 : decode (mm_AB_isNameCharacter).2.1 0 = .ok (.iload_n 0, 1) := by decide +kernel
theorem dd_AB_isNameCharacter_1 : decode (mm_AB_isNameCharacter).2.1 1 = .ok (.bipush 97, 2) := by decide +kernel
theorem dd_AB_isNameCharacter_3 : decode (mm_AB_isNameCharacter).2.1 3 = .ok (.if_icmp .lt 9, 3) := by decide +kernel
theorem dd_AB_isNameCharacter_6 : decode (mm_AB_isNameCharacter).2.1 6 = .ok (.iload_n 0, 1) := by decide +kernel
theorem dd_AB_isNameCharacter_7 : decode (mm_AB_isNameCharacter).2.1 7 = .ok (.bipush 122, 2) := by decide +kernel
theorem dd_AB_isNameCharacter_9 : decode (mm_AB_isNameCharacter).2.1 9 = .ok (.if_icmp .le 15, 3) := by decide +kernel
theorem dd_AB_isNameCharacter_12 : decode (mm_AB_isNameCharacter).2.1 12 = .ok (.iload_n 0, 1) := by decide +kernel
theorem dd_AB_isNameCharacter_13 : decode (mm_AB_isNameCharacter).2.1 13 = .ok (.bipush 46, 2) := by decide +kernel
theorem dd_AB_isNameCharacter_15 : decode (mm_AB_isNameCharacter).2.1 15 = .ok (.if_icmp .eq 9, 3) := by decide +kernel
theorem dd_AB_isNameCharacter_18 : decode (mm_AB_isNameCharacter).2.1 18 = .ok (.iload_n 0, 1) := by decide +kernel
theorem dd_AB_isNameCharacter_19 : decode (mm_AB_isNameCharacter).2.1 19 = .ok (.bipush 47, 2) := by decide +kernel
theorem dd_AB_isNameCharacter_21 : decode (mm_AB_isNameCharacter).2.1 21 = .ok (.if_icmp .ne 7, 3) := by decide +kernel
theorem dd_AB_isNameCharacter_24 : decode (mm_AB_isNameCharacter).2.1 24 = .ok (.iconst 1, 1) := by decide +kernel
theorem dd_AB_isNameCharacter_25 : decode (mm_AB_isNameCharacter).2.1 25 = .ok (.goto 4, 3) := by decide +kernel
theorem dd_AB_isNameCharacter_28 : decode (mm_AB_isNameCharacter).2.1 28 = .ok (.iconst 0, 1) := by decide +kernel
theorem dd_AB_isNameCharacter_29 : decode (mm_AB_isNameCharacter).2.1 29 = .ok (.ireturn, 1) := by decide +kernel
theorem dd_Row_append_0 : decode (mm_Row_append).2.1 0 = .ok (.aload_n 0, 1) := by decide +kernel
theorem dd_Row_append_1 : decode (mm_Row_append).2.1 1 = .ok (.getfield 15, 3) := by decide +kernel
theorem dd_Row_append_4 : decode (mm_Row_append).2.1 4 = .ok (.aload_n 0, 1) := by decide +kernel
theorem dd_Row_append_5 : decode (mm_Row_append).2.1 5 = .ok (.getfield 9, 3) := by decide +kernel
theorem dd_Row_append_8 : decode (mm_Row_append).2.1 8 = .ok (.arraylength, 1) := by decide +kernel
theorem dd_Row_append_9 : decode (mm_Row_append).2.1 9 = .ok (.if_icmp .lt 5, 3) := by decide +kernel
theorem dd_Row_append_12 : decode (mm_Row_append).2.1 12 = .ok (.iconst 0, 1) := by decide +kernel
theorem dd_Row_append_13 : decode (mm_Row_append).2.1 13 = .ok (.ireturn, 1) := by decide +kernel
theorem dd_Row_append_14 : decode (mm_Row_append).2.1 14 = .ok (.aload_n 0, 1) := by decide +kernel
theorem dd_Row_append_15 : decode (mm_Row_append).2.1 15 = .ok (.getfield 9, 3) := by decide +kernel
theorem dd_Row_append_18 : decode (mm_Row_append).2.1 18 = .ok (.aload_n 0, 1) := by decide +kernel
theorem dd_Row_append_19 : decode (mm_Row_append).2.1 19 = .ok (.getfield 15, 3) := by decide +kernel
theorem dd_Row_append_22 : decode (mm_Row_append).2.1 22 = .ok (.iload_n 1, 1) := by decide +kernel
theorem dd_Row_append_23 : decode (mm_Row_append).2.1 23 = .ok (.iastore, 1) := by decide +kernel
theorem dd_Row_append_24 : decode (mm_Row_append).2.1 24 = .ok (.aload_n 0, 1) := by decide +kernel
theorem dd_Row_append_25 : decode (mm_Row_append).2.1 25 = .ok (.dup, 1) := by decide +kernel
theorem dd_Row_append_26 : decode (mm_Row_append).2.1 26 = .ok (.getfield 15, 3) := by decide +kernel
theorem dd_Row_append_29 : decode (mm_Row_append).2.1 29 = .ok (.iconst 1, 1) := by decide +kernel
theorem dd_Row_append_30 : decode (mm_Row_append).2.1 30 = .ok (.iadd, 1) := by decide +kernel
theorem dd_Row_append_31 : decode (mm_Row_append).2.1 31 = .ok (.putfield 15, 3) := by decide +kernel
theorem dd_Row_append_34 : decode (mm_Row_append).2.1 34 = .ok (.iconst 1, 1) := by decide +kernel
theorem dd_Row_append_35 : decode (mm_Row_append).2.1 35 = .ok (.ireturn, 1) := by decide +kernel
theorem dd_AB_data_0 : decode (mm_AB_data).2.1 0 = .ok (.iload_n 1, 1) := by decide +kernel
theorem dd_AB_data_1 : decode (mm_AB_data).2.1 1 = .ok (.invokestatic 52, 3) := by decide +kernel
theorem dd_AB_data_4 : decode (mm_AB_data).2.1 4 = .ok (.ifCond .eq 14, 3) := by decide +kernel
theorem dd_AB_data_7 : decode (mm_AB_data).2.1 7 = .ok (.iload_n 2, 1) := by decide +kernel
theorem dd_AB_data_8 : decode (mm_AB_data).2.1 8 = .ok (.iconst 1, 1) := by decide +kernel
theorem dd_AB_data_9 : decode (mm_AB_data).2.1 9 = .ok (.if_icmp .lt 9, 3) := by decide +kernel
theorem dd_AB_data_12 : decode (mm_AB_data).2.1 12 = .ok (.iload_n 2, 1) := by decide +kernel
theorem dd_AB_data_13 : decode (mm_AB_data).2.1 13 = .ok (.bipush 60, 2) := by decide +kernel
theorem dd_AB_data_15 : decode (mm_AB_data).2.1 15 = .ok (.if_icmp .le 5, 3) := by decide +kernel
theorem dd_AB_data_18 : decode (mm_AB_data).2.1 18 = .ok (.iconst (-1), 1) := by decide +kernel
theorem dd_AB_data_19 : decode (mm_AB_data).2.1 19 = .ok (.ireturn, 1) := by decide +kernel
theorem dd_AB_data_20 : decode (mm_AB_data).2.1 20 = .ok (.aload_n 0, 1) := by decide +kernel
theorem dd_AB_data_21 : decode (mm_AB_data).2.1 21 = .ok (.getfield 18, 3) := by decide +kernel
theorem dd_AB_data_24 : decode (mm_AB_data).2.1 24 = .ok (.iload_n 1, 1) := by decide +kernel
theorem dd_AB_data_25 : decode (mm_AB_data).2.1 25 = .ok (.iload_n 2, 1) := by decide +kernel
theorem dd_AB_data_26 : decode (mm_AB_data).2.1 26 = .ok (.invokevirtual 55, 3) := by decide +kernel
theorem dd_AB_data_29 : decode (mm_AB_data).2.1 29 = .ok (.ifCond .eq 13, 3) := by decide +kernel
theorem dd_AB_data_32 : decode (mm_AB_data).2.1 32 = .ok (.aload_n 0, 1) := by decide +kernel
theorem dd_AB_data_33 : decode (mm_AB_data).2.1 33 = .ok (.getfield 18, 3) := by decide +kernel
theorem dd_AB_data_36 : decode (mm_AB_data).2.1 36 = .ok (.getfield 48, 3) := by decide +kernel
theorem dd_AB_data_39 : decode (mm_AB_data).2.1 39 = .ok (.goto 5, 3) := by decide +kernel
theorem dd_AB_data_42 : decode (mm_AB_data).2.1 42 = .ok (.bipush (-2), 2) := by decide +kernel
theorem dd_AB_data_44 : decode (mm_AB_data).2.1 44 = .ok (.ireturn, 1) := by decide +kernel
theorem dd_AB_isByte_0 : decode (mm_AB_isByte).2.1 0 = .ok (.iload_n 0, 1) := by decide +kernel
theorem dd_AB_isByte_1 : decode (mm_AB_isByte).2.1 1 = .ok (.ifCond .lt 14, 3) := by decide +kernel
theorem dd_AB_isByte_4 : decode (mm_AB_isByte).2.1 4 = .ok (.iload_n 0, 1) := by decide +kernel
theorem dd_AB_isByte_5 : decode (mm_AB_isByte).2.1 5 = .ok (.sipush 255, 3) := by decide +kernel
theorem dd_AB_isByte_8 : decode (mm_AB_isByte).2.1 8 = .ok (.if_icmp .gt 7, 3) := by decide +kernel
theorem dd_AB_isByte_11 : decode (mm_AB_isByte).2.1 11 = .ok (.iconst 1, 1) := by decide +kernel
theorem dd_AB_isByte_12 : decode (mm_AB_isByte).2.1 12 = .ok (.goto 4, 3) := by decide +kernel
theorem dd_AB_isByte_15 : decode (mm_AB_isByte).2.1 15 = .ok (.iconst 0, 1) := by decide +kernel
theorem dd_AB_isByte_16 : decode (mm_AB_isByte).2.1 16 = .ok (.ireturn, 1) := by decide +kernel
theorem dd_Row_appendTimes_0 : decode (mm_Row_appendTimes).2.1 0 = .ok (.iload_n 2, 1) := by decide +kernel
theorem dd_Row_appendTimes_1 : decode (mm_Row_appendTimes).2.1 1 = .ok (.aload_n 0, 1) := by decide +kernel
theorem dd_Row_appendTimes_2 : decode (mm_Row_appendTimes).2.1 2 = .ok (.getfield 9, 3) := by decide +kernel
theorem dd_Row_appendTimes_5 : decode (mm_Row_appendTimes).2.1 5 = .ok (.arraylength, 1) := by decide +kernel
theorem dd_Row_appendTimes_6 : decode (mm_Row_appendTimes).2.1 6 = .ok (.aload_n 0, 1) := by decide +kernel
theorem dd_Row_appendTimes_7 : decode (mm_Row_appendTimes).2.1 7 = .ok (.getfield 15, 3) := by decide +kernel
theorem dd_Row_appendTimes_10 : decode (mm_Row_appendTimes).2.1 10 = .ok (.isub, 1) := by decide +kernel
theorem dd_Row_appendTimes_11 : decode (mm_Row_appendTimes).2.1 11 = .ok (.if_icmp .le 5, 3) := by decide +kernel
theorem dd_Row_appendTimes_14 : decode (mm_Row_appendTimes).2.1 14 = .ok (.iconst 0, 1) := by decide +kernel
theorem dd_Row_appendTimes_15 : decode (mm_Row_appendTimes).2.1 15 = .ok (.ireturn, 1) := by decide +kernel
theorem dd_Row_appendTimes_16 : decode (mm_Row_appendTimes).2.1 16 = .ok (.iconst 0, 1) := by decide +kernel
theorem dd_Row_appendTimes_17 : decode (mm_Row_appendTimes).2.1 17 = .ok (.istore_n 3, 1) := by decide +kernel
theorem dd_Row_appendTimes_18 : decode (mm_Row_appendTimes).2.1 18 = .ok (.iload_n 3, 1) := by decide +kernel
theorem dd_Row_appendTimes_19 : decode (mm_Row_appendTimes).2.1 19 = .ok (.iload_n 2, 1) := by decide +kernel
theorem dd_Row_appendTimes_20 : decode (mm_Row_appendTimes).2.1 20 = .ok (.if_icmp .ge 29, 3) := by decide +kernel
theorem dd_Row_appendTimes_23 : decode (mm_Row_appendTimes).2.1 23 = .ok (.aload_n 0, 1) := by decide +kernel
theorem dd_Row_appendTimes_24 : decode (mm_Row_appendTimes).2.1 24 = .ok (.getfield 9, 3) := by decide +kernel
theorem dd_Row_appendTimes_27 : decode (mm_Row_appendTimes).2.1 27 = .ok (.aload_n 0, 1) := by decide +kernel
theorem dd_Row_appendTimes_28 : decode (mm_Row_appendTimes).2.1 28 = .ok (.getfield 15, 3) := by decide +kernel
theorem dd_Row_appendTimes_31 : decode (mm_Row_appendTimes).2.1 31 = .ok (.iload_n 1, 1) := by decide +kernel
theorem dd_Row_appendTimes_32 : decode (mm_Row_appendTimes).2.1 32 = .ok (.iastore, 1) := by decide +kernel
theorem dd_Row_appendTimes_33 : decode (mm_Row_appendTimes).2.1 33 = .ok (.aload_n 0, 1) := by decide +kernel
theorem dd_Row_appendTimes_34 : decode (mm_Row_appendTimes).2.1 34 = .ok (.dup, 1) := by decide +kernel
theorem dd_Row_appendTimes_35 : decode (mm_Row_appendTimes).2.1 35 = .ok (.getfield 15, 3) := by decide +kernel
theorem dd_Row_appendTimes_38 : decode (mm_Row_appendTimes).2.1 38 = .ok (.iconst 1, 1) := by decide +kernel
theorem dd_Row_appendTimes_39 : decode (mm_Row_appendTimes).2.1 39 = .ok (.iadd, 1) := by decide +kernel
theorem dd_Row_appendTimes_40 : decode (mm_Row_appendTimes).2.1 40 = .ok (.putfield 15, 3) := by decide +kernel
theorem dd_Row_appendTimes_43 : decode (mm_Row_appendTimes).2.1 43 = .ok (.iinc 3 1, 3) := by decide +kernel
theorem dd_Row_appendTimes_46 : decode (mm_Row_appendTimes).2.1 46 = .ok (.goto (-28), 3) := by decide +kernel
theorem dd_Row_appendTimes_49 : decode (mm_Row_appendTimes).2.1 49 = .ok (.iconst 1, 1) := by decide +kernel
theorem dd_Row_appendTimes_50 : decode (mm_Row_appendTimes).2.1 50 = .ok (.ireturn, 1) := by decide +kernel
theorem dd_AB_add_0 : decode (mm_AB_add).2.1 0 = .ok (.iload_n 1, 1) := by decide +kernel
theorem dd_AB_add_1 : decode (mm_AB_add).2.1 1 = .ok (.ifCond .lt 18, 3) := by decide +kernel
theorem dd_AB_add_4 : decode (mm_AB_add).2.1 4 = .ok (.iload_n 1, 1) := by decide +kernel
theorem dd_AB_add_5 : decode (mm_AB_add).2.1 5 = .ok (.iconst 2, 1) := by decide +kernel
theorem dd_AB_add_6 : decode (mm_AB_add).2.1 6 = .ok (.if_icmp .gt 13, 3) := by decide +kernel
theorem dd_AB_add_9 : decode (mm_AB_add).2.1 9 = .ok (.aload_n 0, 1) := by decide +kernel
theorem dd_AB_add_10 : decode (mm_AB_add).2.1 10 = .ok (.getfield 14, 3) := by decide +kernel
theorem dd_AB_add_13 : decode (mm_AB_add).2.1 13 = .ok (.getfield 48, 3) := by decide +kernel
theorem dd_AB_add_16 : decode (mm_AB_add).2.1 16 = .ok (.ifCond .ne 5, 3) := by decide +kernel
theorem dd_AB_add_19 : decode (mm_AB_add).2.1 19 = .ok (.iconst (-1), 1) := by decide +kernel
theorem dd_AB_add_20 : decode (mm_AB_add).2.1 20 = .ok (.ireturn, 1) := by decide +kernel
theorem dd_AB_add_21 : decode (mm_AB_add).2.1 21 = .ok (.aload_n 0, 1) := by decide +kernel
theorem dd_AB_add_22 : decode (mm_AB_add).2.1 22 = .ok (.getfield 24, 3) := by decide +kernel
theorem dd_AB_add_25 : decode (mm_AB_add).2.1 25 = .ok (.getfield 59, 3) := by decide +kernel
theorem dd_AB_add_28 : decode (mm_AB_add).2.1 28 = .ok (.istore_n 2, 1) := by decide +kernel
theorem dd_AB_add_29 : decode (mm_AB_add).2.1 29 = .ok (.iload_n 2, 1) := by decide +kernel
theorem dd_AB_add_30 : decode (mm_AB_add).2.1 30 = .ok (.bipush 6, 2) := by decide +kernel
theorem dd_AB_add_32 : decode (mm_AB_add).2.1 32 = .ok (.if_icmp .lt 6, 3) := by decide +kernel
theorem dd_AB_add_35 : decode (mm_AB_add).2.1 35 = .ok (.bipush (-2), 2) := by decide +kernel
theorem dd_AB_add_37 : decode (mm_AB_add).2.1 37 = .ok (.ireturn, 1) := by decide +kernel
theorem dd_AB_add_38 : decode (mm_AB_add).2.1 38 = .ok (.aload_n 0, 1) := by decide +kernel
theorem dd_AB_add_39 : decode (mm_AB_add).2.1 39 = .ok (.getfield 24, 3) := by decide +kernel
theorem dd_AB_add_42 : decode (mm_AB_add).2.1 42 = .ok (.getfield 62, 3) := by decide +kernel
theorem dd_AB_add_45 : decode (mm_AB_add).2.1 45 = .ok (.iload_n 2, 1) := by decide +kernel
theorem dd_AB_add_46 : decode (mm_AB_add).2.1 46 = .ok (.aaload, 1) := by decide +kernel
theorem dd_AB_add_47 : decode (mm_AB_add).2.1 47 = .ok (.aload_n 0, 1) := by decide +kernel
theorem dd_AB_add_48 : decode (mm_AB_add).2.1 48 = .ok (.getfield 14, 3) := by decide +kernel
theorem dd_AB_add_51 : decode (mm_AB_add).2.1 51 = .ok (.aload_n 0, 1) := by decide +kernel
theorem dd_AB_add_52 : decode (mm_AB_add).2.1 52 = .ok (.getfield 18, 3) := by decide +kernel
theorem dd_AB_add_55 : decode (mm_AB_add).2.1 55 = .ok (.iload_n 1, 1) := by decide +kernel
theorem dd_AB_add_56 : decode (mm_AB_add).2.1 56 = .ok (.invokevirtual 66, 3) := by decide +kernel
theorem dd_AB_add_59 : decode (mm_AB_add).2.1 59 = .ok (.aload_n 0, 1) := by decide +kernel
theorem dd_AB_add_60 : decode (mm_AB_add).2.1 60 = .ok (.getfield 24, 3) := by decide +kernel
theorem dd_AB_add_63 : decode (mm_AB_add).2.1 63 = .ok (.dup, 1) := by decide +kernel
theorem dd_AB_add_64 : decode (mm_AB_add).2.1 64 = .ok (.getfield 59, 3) := by decide +kernel
theorem dd_AB_add_67 : decode (mm_AB_add).2.1 67 = .ok (.iconst 1, 1) := by decide +kernel
theorem dd_AB_add_68 : decode (mm_AB_add).2.1 68 = .ok (.iadd, 1) := by decide +kernel
theorem dd_AB_add_69 : decode (mm_AB_add).2.1 69 = .ok (.putfield 59, 3) := by decide +kernel
theorem dd_AB_add_72 : decode (mm_AB_add).2.1 72 = .ok (.aload_n 0, 1) := by decide +kernel
theorem dd_AB_add_73 : decode (mm_AB_add).2.1 73 = .ok (.getfield 14, 3) := by decide +kernel
theorem dd_AB_add_76 : decode (mm_AB_add).2.1 76 = .ok (.iconst 0, 1) := by decide +kernel
theorem dd_AB_add_77 : decode (mm_AB_add).2.1 77 = .ok (.invokevirtual 72, 3) := by decide +kernel
theorem dd_AB_add_80 : decode (mm_AB_add).2.1 80 = .ok (.aload_n 0, 1) := by decide +kernel
theorem dd_AB_add_81 : decode (mm_AB_add).2.1 81 = .ok (.getfield 18, 3) := by decide +kernel
theorem dd_AB_add_84 : decode (mm_AB_add).2.1 84 = .ok (.iconst 0, 1) := by decide +kernel
theorem dd_AB_add_85 : decode (mm_AB_add).2.1 85 = .ok (.invokevirtual 72, 3) := by decide +kernel
theorem dd_AB_add_88 : decode (mm_AB_add).2.1 88 = .ok (.iload_n 2, 1) := by decide +kernel
theorem dd_AB_add_89 : decode (mm_AB_add).2.1 89 = .ok (.ireturn, 1) := by decide +kernel
theorem dd_WF_become_0 : decode (mm_WF_become).2.1 0 = .ok (.aload_n 0, 1) := by decide +kernel
theorem dd_WF_become_1 : decode (mm_WF_become).2.1 1 = .ok (.getfield 14, 3) := by decide +kernel
theorem dd_WF_become_4 : decode (mm_WF_become).2.1 4 = .ok (.aload_n 1, 1) := by decide +kernel
theorem dd_WF_become_5 : decode (mm_WF_become).2.1 5 = .ok (.invokevirtual 23, 3) := by decide +kernel
theorem dd_WF_become_8 : decode (mm_WF_become).2.1 8 = .ok (.iload_n 3, 1) := by decide +kernel
theorem dd_WF_become_9 : decode (mm_WF_become).2.1 9 = .ok (.aload_n 2, 1) := by decide +kernel
theorem dd_WF_become_10 : decode (mm_WF_become).2.1 10 = .ok (.aload_n 0, 1) := by decide +kernel
theorem dd_WF_become_11 : decode (mm_WF_become).2.1 11 = .ok (.getfield 20, 3) := by decide +kernel
theorem dd_WF_become_14 : decode (mm_WF_become).2.1 14 = .ok (.invokestatic 27, 3) := by decide +kernel
theorem dd_WF_become_17 : decode (mm_WF_become).2.1 17 = .ok (.aload_n 0, 1) := by decide +kernel
theorem dd_WF_become_18 : decode (mm_WF_become).2.1 18 = .ok (.iload_n 3, 1) := by decide +kernel
theorem dd_WF_become_19 : decode (mm_WF_become).2.1 19 = .ok (.putfield 33, 3) := by decide +kernel
theorem dd_WF_become_22 : decode (mm_WF_become).2.1 22 = .ok (.aload_n 0, 1) := by decide +kernel
theorem dd_WF_become_23 : decode (mm_WF_become).2.1 23 = .ok (.aload_n 2, 1) := by decide +kernel
theorem dd_WF_become_24 : decode (mm_WF_become).2.1 24 = .ok (.getfield 37, 3) := by decide +kernel
theorem dd_WF_become_27 : decode (mm_WF_become).2.1 27 = .ok (.putfield 40, 3) := by decide +kernel
theorem dd_WF_become_30 : decode (mm_WF_become).2.1 30 = .ok (.aload_n 0, 1) := by decide +kernel
theorem dd_WF_become_31 : decode (mm_WF_become).2.1 31 = .ok (.aload_n 2, 1) := by decide +kernel
theorem dd_WF_become_32 : decode (mm_WF_become).2.1 32 = .ok (.iconst 0, 1) := by decide +kernel
theorem dd_WF_become_33 : decode (mm_WF_become).2.1 33 = .ok (.aload_n 2, 1) := by decide +kernel
theorem dd_WF_become_34 : decode (mm_WF_become).2.1 34 = .ok (.getfield 37, 3) := by decide +kernel
theorem dd_WF_become_37 : decode (mm_WF_become).2.1 37 = .ok (.invokevirtual 41, 3) := by decide +kernel
theorem dd_WF_become_40 : decode (mm_WF_become).2.1 40 = .ok (.putfield 45, 3) := by decide +kernel
theorem dd_WF_become_43 : decode (mm_WF_become).2.1 43 = .ok (.return_, 1) := by decide +kernel
theorem dd_Row_become_0 : decode (mm_Row_become).2.1 0 = .ok (.aload_n 0, 1) := by decide +kernel
theorem dd_Row_become_1 : decode (mm_Row_become).2.1 1 = .ok (.iconst 0, 1) := by decide +kernel
theorem dd_Row_become_2 : decode (mm_Row_become).2.1 2 = .ok (.invokevirtual 37, 3) := by decide +kernel
theorem dd_Row_become_5 : decode (mm_Row_become).2.1 5 = .ok (.aload_n 0, 1) := by decide +kernel
theorem dd_Row_become_6 : decode (mm_Row_become).2.1 6 = .ok (.aload_n 1, 1) := by decide +kernel
theorem dd_Row_become_7 : decode (mm_Row_become).2.1 7 = .ok (.invokevirtual 41, 3) := by decide +kernel
theorem dd_Row_become_10 : decode (mm_Row_become).2.1 10 = .ok (.return_, 1) := by decide +kernel
theorem dd_Row_cutTo_0 : decode (mm_Row_cutTo).2.1 0 = .ok (.iload_n 1, 1) := by decide +kernel
theorem dd_Row_cutTo_1 : decode (mm_Row_cutTo).2.1 1 = .ok (.ifCond .lt 16, 3) := by decide +kernel
theorem dd_Row_cutTo_4 : decode (mm_Row_cutTo).2.1 4 = .ok (.iload_n 1, 1) := by decide +kernel
theorem dd_Row_cutTo_5 : decode (mm_Row_cutTo).2.1 5 = .ok (.aload_n 0, 1) := by decide +kernel
theorem dd_Row_cutTo_6 : decode (mm_Row_cutTo).2.1 6 = .ok (.getfield 15, 3) := by decide +kernel
theorem dd_Row_cutTo_9 : decode (mm_Row_cutTo).2.1 9 = .ok (.if_icmp .ge 8, 3) := by decide +kernel
theorem dd_Row_cutTo_12 : decode (mm_Row_cutTo).2.1 12 = .ok (.aload_n 0, 1) := by decide +kernel
theorem dd_Row_cutTo_13 : decode (mm_Row_cutTo).2.1 13 = .ok (.iload_n 1, 1) := by decide +kernel
theorem dd_Row_cutTo_14 : decode (mm_Row_cutTo).2.1 14 = .ok (.putfield 15, 3) := by decide +kernel
theorem dd_Row_cutTo_17 : decode (mm_Row_cutTo).2.1 17 = .ok (.return_, 1) := by decide +kernel
theorem dd_Row_appendAll_0 : decode (mm_Row_appendAll).2.1 0 = .ok (.aload_n 0, 1) := by decide +kernel
theorem dd_Row_appendAll_1 : decode (mm_Row_appendAll).2.1 1 = .ok (.aload_n 1, 1) := by decide +kernel
theorem dd_Row_appendAll_2 : decode (mm_Row_appendAll).2.1 2 = .ok (.iconst 0, 1) := by decide +kernel
theorem dd_Row_appendAll_3 : decode (mm_Row_appendAll).2.1 3 = .ok (.aload_n 1, 1) := by decide +kernel
theorem dd_Row_appendAll_4 : decode (mm_Row_appendAll).2.1 4 = .ok (.getfield 15, 3) := by decide +kernel
theorem dd_Row_appendAll_7 : decode (mm_Row_appendAll).2.1 7 = .ok (.invokevirtual 33, 3) := by decide +kernel
theorem dd_Row_appendAll_10 : decode (mm_Row_appendAll).2.1 10 = .ok (.pop, 1) := by decide +kernel
theorem dd_Row_appendAll_11 : decode (mm_Row_appendAll).2.1 11 = .ok (.return_, 1) := by decide +kernel
theorem dd_Row_appendPart_0 : decode (mm_Row_appendPart).2.1 0 = .ok (.iload_n 2, 1) := by decide +kernel
theorem dd_Row_appendPart_1 : decode (mm_Row_appendPart).2.1 1 = .ok (.ifCond .lt 32, 3) := by decide +kernel
theorem dd_Row_appendPart_4 : decode (mm_Row_appendPart).2.1 4 = .ok (.iload_n 2, 1) := by decide +kernel
theorem dd_Row_appendPart_5 : decode (mm_Row_appendPart).2.1 5 = .ok (.iload_n 3, 1) := by decide +kernel
theorem dd_Row_appendPart_6 : decode (mm_Row_appendPart).2.1 6 = .ok (.if_icmp .gt 27, 3) := by decide +kernel
theorem dd_Row_appendPart_9 : decode (mm_Row_appendPart).2.1 9 = .ok (.iload_n 3, 1) := by decide +kernel
theorem dd_Row_appendPart_10 : decode (mm_Row_appendPart).2.1 10 = .ok (.aload_n 1, 1) := by decide +kernel
theorem dd_Row_appendPart_11 : decode (mm_Row_appendPart).2.1 11 = .ok (.getfield 15, 3) := by decide +kernel
theorem dd_Row_appendPart_14 : decode (mm_Row_appendPart).2.1 14 = .ok (.if_icmp .gt 19, 3) := by decide +kernel
theorem dd_Row_appendPart_17 : decode (mm_Row_appendPart).2.1 17 = .ok (.iload_n 3, 1) := by decide +kernel
theorem dd_Row_appendPart_18 : decode (mm_Row_appendPart).2.1 18 = .ok (.iload_n 2, 1) := by decide +kernel
theorem dd_Row_appendPart_19 : decode (mm_Row_appendPart).2.1 19 = .ok (.isub, 1) := by decide +kernel
theorem dd_Row_appendPart_20 : decode (mm_Row_appendPart).2.1 20 = .ok (.aload_n 0, 1) := by decide +kernel
theorem dd_Row_appendPart_21 : decode (mm_Row_appendPart).2.1 21 = .ok (.getfield 9, 3) := by decide +kernel
theorem dd_Row_appendPart_24 : decode (mm_Row_appendPart).2.1 24 = .ok (.arraylength, 1) := by decide +kernel
theorem dd_Row_appendPart_25 : decode (mm_Row_appendPart).2.1 25 = .ok (.aload_n 0, 1) := by decide +kernel
theorem dd_Row_appendPart_26 : decode (mm_Row_appendPart).2.1 26 = .ok (.getfield 15, 3) := by decide +kernel
theorem dd_Row_appendPart_29 : decode (mm_Row_appendPart).2.1 29 = .ok (.isub, 1) := by decide +kernel
theorem dd_Row_appendPart_30 : decode (mm_Row_appendPart).2.1 30 = .ok (.if_icmp .le 5, 3) := by decide +kernel
theorem dd_Row_appendPart_33 : decode (mm_Row_appendPart).2.1 33 = .ok (.iconst 0, 1) := by decide +kernel
theorem dd_Row_appendPart_34 : decode (mm_Row_appendPart).2.1 34 = .ok (.ireturn, 1) := by decide +kernel
theorem dd_Row_appendPart_35 : decode (mm_Row_appendPart).2.1 35 = .ok (.aload_n 1, 1) := by decide +kernel
theorem dd_Row_appendPart_36 : decode (mm_Row_appendPart).2.1 36 = .ok (.getfield 9, 3) := by decide +kernel
theorem dd_Row_appendPart_39 : decode (mm_Row_appendPart).2.1 39 = .ok (.iload_n 2, 1) := by decide +kernel
theorem dd_Row_appendPart_40 : decode (mm_Row_appendPart).2.1 40 = .ok (.aload_n 0, 1) := by decide +kernel
theorem dd_Row_appendPart_41 : decode (mm_Row_appendPart).2.1 41 = .ok (.getfield 9, 3) := by decide +kernel
theorem dd_Row_appendPart_44 : decode (mm_Row_appendPart).2.1 44 = .ok (.aload_n 0, 1) := by decide +kernel
theorem dd_Row_appendPart_45 : decode (mm_Row_appendPart).2.1 45 = .ok (.getfield 15, 3) := by decide +kernel
theorem dd_Row_appendPart_48 : decode (mm_Row_appendPart).2.1 48 = .ok (.iload_n 3, 1) := by decide +kernel
theorem dd_Row_appendPart_49 : decode (mm_Row_appendPart).2.1 49 = .ok (.iload_n 2, 1) := by decide +kernel
theorem dd_Row_appendPart_50 : decode (mm_Row_appendPart).2.1 50 = .ok (.isub, 1) := by decide +kernel
theorem dd_Row_appendPart_51 : decode (mm_Row_appendPart).2.1 51 = .ok (.invokestatic 27, 3) := by decide +kernel
theorem dd_Row_appendPart_54 : decode (mm_Row_appendPart).2.1 54 = .ok (.aload_n 0, 1) := by decide +kernel
theorem dd_Row_appendPart_55 : decode (mm_Row_appendPart).2.1 55 = .ok (.dup, 1) := by decide +kernel
theorem dd_Row_appendPart_56 : decode (mm_Row_appendPart).2.1 56 = .ok (.getfield 15, 3) := by decide +kernel
theorem dd_Row_appendPart_59 : decode (mm_Row_appendPart).2.1 59 = .ok (.iload_n 3, 1) := by decide +kernel
theorem dd_Row_appendPart_60 : decode (mm_Row_appendPart).2.1 60 = .ok (.iload_n 2, 1) := by decide +kernel
theorem dd_Row_appendPart_61 : decode (mm_Row_appendPart).2.1 61 = .ok (.isub, 1) := by decide +kernel
theorem dd_Row_appendPart_62 : decode (mm_Row_appendPart).2.1 62 = .ok (.iadd, 1) := by decide +kernel
theorem dd_Row_appendPart_63 : decode (mm_Row_appendPart).2.1 63 = .ok (.putfield 15, 3) := by decide +kernel
theorem dd_Row_appendPart_66 : decode (mm_Row_appendPart).2.1 66 = .ok (.iconst 1, 1) := by decide +kernel
theorem dd_Row_appendPart_67 : decode (mm_Row_appendPart).2.1 67 = .ok (.ireturn, 1) := by decide +kernel
theorem dd_Sq_squeeze_0 : decode (mm_Sq_squeeze).2.1 0 = .ok (.aload_n 2, 1) := by decide +kernel
theorem dd_Sq_squeeze_1 : decode (mm_Sq_squeeze).2.1 1 = .ok (.iconst 0, 1) := by decide +kernel
theorem dd_Sq_squeeze_2 : decode (mm_Sq_squeeze).2.1 2 = .ok (.invokevirtual 9, 3) := by decide +kernel
theorem dd_Sq_squeeze_5 : decode (mm_Sq_squeeze).2.1 5 = .ok (.iload_n 0, 1) := by decide +kernel
theorem dd_Sq_squeeze_6 : decode (mm_Sq_squeeze).2.1 6 = .ok (.iconst 1, 1) := by decide +kernel
theorem dd_Sq_squeeze_7 : decode (mm_Sq_squeeze).2.1 7 = .ok (.if_icmp .ne 11, 3) := by decide +kernel
theorem dd_Sq_squeeze_10 : decode (mm_Sq_squeeze).2.1 10 = .ok (.aload_n 1, 1) := by decide +kernel
theorem dd_Sq_squeeze_11 : decode (mm_Sq_squeeze).2.1 11 = .ok (.aload_n 2, 1) := by decide +kernel
theorem dd_Sq_squeeze_12 : decode (mm_Sq_squeeze).2.1 12 = .ok (.invokestatic 15, 3) := by decide +kernel
theorem dd_Sq_squeeze_15 : decode (mm_Sq_squeeze).2.1 15 = .ok (.goto 21, 3) := by decide +kernel
theorem dd_Sq_squeeze_18 : decode (mm_Sq_squeeze).2.1 18 = .ok (.iload_n 0, 1) := by decide +kernel
theorem dd_Sq_squeeze_19 : decode (mm_Sq_squeeze).2.1 19 = .ok (.iconst 2, 1) := by decide +kernel
theorem dd_Sq_squeeze_20 : decode (mm_Sq_squeeze).2.1 20 = .ok (.if_icmp .ne 11, 3) := by decide +kernel
theorem dd_Sq_squeeze_23 : decode (mm_Sq_squeeze).2.1 23 = .ok (.aload_n 1, 1) := by decide +kernel
theorem dd_Sq_squeeze_24 : decode (mm_Sq_squeeze).2.1 24 = .ok (.aload_n 2, 1) := by decide +kernel
theorem dd_Sq_squeeze_25 : decode (mm_Sq_squeeze).2.1 25 = .ok (.invokestatic 21, 3) := by decide +kernel
theorem dd_Sq_squeeze_28 : decode (mm_Sq_squeeze).2.1 28 = .ok (.goto 8, 3) := by decide +kernel
theorem dd_Sq_squeeze_31 : decode (mm_Sq_squeeze).2.1 31 = .ok (.aload_n 2, 1) := by decide +kernel
theorem dd_Sq_squeeze_32 : decode (mm_Sq_squeeze).2.1 32 = .ok (.aload_n 1, 1) := by decide +kernel
theorem dd_Sq_squeeze_33 : decode (mm_Sq_squeeze).2.1 33 = .ok (.invokevirtual 24, 3) := by decide +kernel
theorem dd_Sq_squeeze_36 : decode (mm_Sq_squeeze).2.1 36 = .ok (.return_, 1) := by decide +kernel
theorem dd_Sq_squeezeRuns_0 : decode (mm_Sq_squeezeRuns).2.1 0 = .ok (.iconst 0, 1) := by decide +kernel
theorem dd_Sq_squeezeRuns_1 : decode (mm_Sq_squeezeRuns).2.1 1 = .ok (.istore_n 2, 1) := by decide +kernel
theorem dd_Sq_squeezeRuns_2 : decode (mm_Sq_squeezeRuns).2.1 2 = .ok (.iload_n 2, 1) := by decide +kernel
theorem dd_Sq_squeezeRuns_3 : decode (mm_Sq_squeezeRuns).2.1 3 = .ok (.aload_n 0, 1) := by decide +kernel
theorem dd_Sq_squeezeRuns_4 : decode (mm_Sq_squeezeRuns).2.1 4 = .ok (.getfield 28, 3) := by decide +kernel
theorem dd_Sq_squeezeRuns_7 : decode (mm_Sq_squeezeRuns).2.1 7 = .ok (.if_icmp .ge 86, 3) := by decide +kernel
theorem dd_Sq_squeezeRuns_10 : decode (mm_Sq_squeezeRuns).2.1 10 = .ok (.aload_n 0, 1) := by decide +kernel
theorem dd_Sq_squeezeRuns_11 : decode (mm_Sq_squeezeRuns).2.1 11 = .ok (.iload_n 2, 1) := by decide +kernel
theorem dd_Sq_squeezeRuns_12 : decode (mm_Sq_squeezeRuns).2.1 12 = .ok (.invokevirtual 32, 3) := by decide +kernel
theorem dd_Sq_squeezeRuns_15 : decode (mm_Sq_squeezeRuns).2.1 15 = .ok (.istore_n 3, 1) := by decide +kernel
theorem dd_Sq_squeezeRuns_16 : decode (mm_Sq_squeezeRuns).2.1 16 = .ok (.iconst 1, 1) := by decide +kernel
theorem dd_Sq_squeezeRuns_17 : decode (mm_Sq_squeezeRuns).2.1 17 = .ok (.istore 4, 2) := by decide +kernel
theorem dd_Sq_squeezeRuns_19 : decode (mm_Sq_squeezeRuns).2.1 19 = .ok (.iload 4, 2) := by decide +kernel
theorem dd_Sq_squeezeRuns_21 : decode (mm_Sq_squeezeRuns).2.1 21 = .ok (.bipush 9, 2) := by decide +kernel
theorem dd_Sq_squeezeRuns_23 : decode (mm_Sq_squeezeRuns).2.1 23 = .ok (.if_icmp .ge 21, 3) := by decide +kernel
theorem dd_Sq_squeezeRuns_26 : decode (mm_Sq_squeezeRuns).2.1 26 = .ok (.aload_n 0, 1) := by decide +kernel
theorem dd_Sq_squeezeRuns_27 : decode (mm_Sq_squeezeRuns).2.1 27 = .ok (.iload_n 2, 1) := by decide +kernel
theorem dd_Sq_squeezeRuns_28 : decode (mm_Sq_squeezeRuns).2.1 28 = .ok (.iload 4, 2) := by decide +kernel
theorem dd_Sq_squeezeRuns_30 : decode (mm_Sq_squeezeRuns).2.1 30 = .ok (.iadd, 1) := by decide +kernel
theorem dd_Sq_squeezeRuns_31 : decode (mm_Sq_squeezeRuns).2.1 31 = .ok (.invokevirtual 32, 3) := by decide +kernel
theorem dd_Sq_squeezeRuns_34 : decode (mm_Sq_squeezeRuns).2.1 34 = .ok (.iload_n 3, 1) := by decide +kernel
theorem dd_Sq_squeezeRuns_35 : decode (mm_Sq_squeezeRuns).2.1 35 = .ok (.if_icmp .ne 9, 3) := by decide +kernel
theorem dd_Sq_squeezeRuns_38 : decode (mm_Sq_squeezeRuns).2.1 38 = .ok (.iinc 4 1, 3) := by decide +kernel
theorem dd_Sq_squeezeRuns_41 : decode (mm_Sq_squeezeRuns).2.1 41 = .ok (.goto (-22), 3) := by decide +kernel
theorem dd_Sq_squeezeRuns_44 : decode (mm_Sq_squeezeRuns).2.1 44 = .ok (.iload 4, 2) := by decide +kernel
theorem dd_Sq_squeezeRuns_46 : decode (mm_Sq_squeezeRuns).2.1 46 = .ok (.iconst 2, 1) := by decide +kernel
theorem dd_Sq_squeezeRuns_47 : decode (mm_Sq_squeezeRuns).2.1 47 = .ok (.if_icmp .gt 21, 3) := by decide +kernel
theorem dd_Sq_squeezeRuns_50 : decode (mm_Sq_squeezeRuns).2.1 50 = .ok (.iload_n 3, 1) := by decide +kernel
theorem dd_Sq_squeezeRuns_51 : decode (mm_Sq_squeezeRuns).2.1 51 = .ok (.sipush 246, 3) := by decide +kernel
theorem dd_Sq_squeezeRuns_54 : decode (mm_Sq_squeezeRuns).2.1 54 = .ok (.if_icmp .ge 14, 3) := by decide +kernel
theorem dd_Sq_squeezeRuns_57 : decode (mm_Sq_squeezeRuns).2.1 57 = .ok (.aload_n 1, 1) := by decide +kernel
theorem dd_Sq_squeezeRuns_58 : decode (mm_Sq_squeezeRuns).2.1 58 = .ok (.iload_n 3, 1) := by decide +kernel
theorem dd_Sq_squeezeRuns_59 : decode (mm_Sq_squeezeRuns).2.1 59 = .ok (.iload 4, 2) := by decide +kernel
theorem dd_Sq_squeezeRuns_61 : decode (mm_Sq_squeezeRuns).2.1 61 = .ok (.invokevirtual 36, 3) := by decide +kernel
theorem dd_Sq_squeezeRuns_64 : decode (mm_Sq_squeezeRuns).2.1 64 = .ok (.pop, 1) := by decide +kernel
theorem dd_Sq_squeezeRuns_65 : decode (mm_Sq_squeezeRuns).2.1 65 = .ok (.goto 20, 3) := by decide +kernel
theorem dd_Sq_squeezeRuns_68 : decode (mm_Sq_squeezeRuns).2.1 68 = .ok (.aload_n 1, 1) := by decide +kernel
theorem dd_Sq_squeezeRuns_69 : decode (mm_Sq_squeezeRuns).2.1 69 = .ok (.sipush 246, 3) := by decide +kernel
theorem dd_Sq_squeezeRuns_72 : decode (mm_Sq_squeezeRuns).2.1 72 = .ok (.iload 4, 2) := by decide +kernel
theorem dd_Sq_squeezeRuns_74 : decode (mm_Sq_squeezeRuns).2.1 74 = .ok (.iadd, 1) := by decide +kernel
theorem dd_Sq_squeezeRuns_75 : decode (mm_Sq_squeezeRuns).2.1 75 = .ok (.invokevirtual 40, 3) := by decide +kernel
theorem dd_Sq_squeezeRuns_78 : decode (mm_Sq_squeezeRuns).2.1 78 = .ok (.pop, 1) := by decide +kernel
theorem dd_Sq_squeezeRuns_79 : decode (mm_Sq_squeezeRuns).2.1 79 = .ok (.aload_n 1, 1) := by decide +kernel
theorem dd_Sq_squeezeRuns_80 : decode (mm_Sq_squeezeRuns).2.1 80 = .ok (.iload_n 3, 1) := by decide +kernel
theorem dd_Sq_squeezeRuns_81 : decode (mm_Sq_squeezeRuns).2.1 81 = .ok (.invokevirtual 40, 3) := by decide +kernel
theorem dd_Sq_squeezeRuns_84 : decode (mm_Sq_squeezeRuns).2.1 84 = .ok (.pop, 1) := by decide +kernel
theorem dd_Sq_squeezeRuns_85 : decode (mm_Sq_squeezeRuns).2.1 85 = .ok (.iload_n 2, 1) := by decide +kernel
theorem dd_Sq_squeezeRuns_86 : decode (mm_Sq_squeezeRuns).2.1 86 = .ok (.iload 4, 2) := by decide +kernel
theorem dd_Sq_squeezeRuns_88 : decode (mm_Sq_squeezeRuns).2.1 88 = .ok (.iadd, 1) := by decide +kernel
theorem dd_Sq_squeezeRuns_89 : decode (mm_Sq_squeezeRuns).2.1 89 = .ok (.istore_n 2, 1) := by decide +kernel
theorem dd_Sq_squeezeRuns_90 : decode (mm_Sq_squeezeRuns).2.1 90 = .ok (.goto (-88), 3) := by decide +kernel
theorem dd_Sq_squeezeRuns_93 : decode (mm_Sq_squeezeRuns).2.1 93 = .ok (.return_, 1) := by decide +kernel
theorem dd_Row_at_0 : decode (mm_Row_at).2.1 0 = .ok (.iload_n 1, 1) := by decide +kernel
theorem dd_Row_at_1 : decode (mm_Row_at).2.1 1 = .ok (.ifCond .lt 20, 3) := by decide +kernel
theorem dd_Row_at_4 : decode (mm_Row_at).2.1 4 = .ok (.iload_n 1, 1) := by decide +kernel
theorem dd_Row_at_5 : decode (mm_Row_at).2.1 5 = .ok (.aload_n 0, 1) := by decide +kernel
theorem dd_Row_at_6 : decode (mm_Row_at).2.1 6 = .ok (.getfield 15, 3) := by decide +kernel
theorem dd_Row_at_9 : decode (mm_Row_at).2.1 9 = .ok (.if_icmp .ge 12, 3) := by decide +kernel
theorem dd_Row_at_12 : decode (mm_Row_at).2.1 12 = .ok (.aload_n 0, 1) := by decide +kernel
theorem dd_Row_at_13 : decode (mm_Row_at).2.1 13 = .ok (.getfield 9, 3) := by decide +kernel
theorem dd_Row_at_16 : decode (mm_Row_at).2.1 16 = .ok (.iload_n 1, 1) := by decide +kernel
theorem dd_Row_at_17 : decode (mm_Row_at).2.1 17 = .ok (.iaload, 1) := by decide +kernel
theorem dd_Row_at_18 : decode (mm_Row_at).2.1 18 = .ok (.goto 4, 3) := by decide +kernel
theorem dd_Row_at_21 : decode (mm_Row_at).2.1 21 = .ok (.iconst (-1), 1) := by decide +kernel
theorem dd_Row_at_22 : decode (mm_Row_at).2.1 22 = .ok (.ireturn, 1) := by decide +kernel
theorem dd_Sq_squeezeCopies_0 : decode (mm_Sq_squeezeCopies).2.1 0 = .ok (.iconst 0, 1) := by decide +kernel
theorem dd_Sq_squeezeCopies_1 : decode (mm_Sq_squeezeCopies).2.1 1 = .ok (.istore_n 2, 1) := by decide +kernel
theorem dd_Sq_squeezeCopies_2 : decode (mm_Sq_squeezeCopies).2.1 2 = .ok (.iconst 0, 1) := by decide +kernel
theorem dd_Sq_squeezeCopies_3 : decode (mm_Sq_squeezeCopies).2.1 3 = .ok (.istore_n 3, 1) := by decide +kernel
theorem dd_Sq_squeezeCopies_4 : decode (mm_Sq_squeezeCopies).2.1 4 = .ok (.iload_n 3, 1) := by decide +kernel
theorem dd_Sq_squeezeCopies_5 : decode (mm_Sq_squeezeCopies).2.1 5 = .ok (.aload_n 0, 1) := by decide +kernel
theorem dd_Sq_squeezeCopies_6 : decode (mm_Sq_squeezeCopies).2.1 6 = .ok (.getfield 28, 3) := by decide +kernel
theorem dd_Sq_squeezeCopies_9 : decode (mm_Sq_squeezeCopies).2.1 9 = .ok (.if_icmp .ge 74, 3) := by decide +kernel
theorem dd_Sq_squeezeCopies_12 : decode (mm_Sq_squeezeCopies).2.1 12 = .ok (.aload_n 0, 1) := by decide +kernel
theorem dd_Sq_squeezeCopies_13 : decode (mm_Sq_squeezeCopies).2.1 13 = .ok (.iload_n 3, 1) := by decide +kernel
theorem dd_Sq_squeezeCopies_14 : decode (mm_Sq_squeezeCopies).2.1 14 = .ok (.invokestatic 44, 3) := by decide +kernel
theorem dd_Sq_squeezeCopies_17 : decode (mm_Sq_squeezeCopies).2.1 17 = .ok (.istore 4, 2) := by decide +kernel
theorem dd_Sq_squeezeCopies_19 : decode (mm_Sq_squeezeCopies).2.1 19 = .ok (.aload_n 0, 1) := by decide +kernel
theorem dd_Sq_squeezeCopies_20 : decode (mm_Sq_squeezeCopies).2.1 20 = .ok (.iload_n 3, 1) := by decide +kernel
theorem dd_Sq_squeezeCopies_21 : decode (mm_Sq_squeezeCopies).2.1 21 = .ok (.iload 4, 2) := by decide +kernel
theorem dd_Sq_squeezeCopies_23 : decode (mm_Sq_squeezeCopies).2.1 23 = .ok (.invokestatic 48, 3) := by decide +kernel
theorem dd_Sq_squeezeCopies_26 : decode (mm_Sq_squeezeCopies).2.1 26 = .ok (.istore 5, 2) := by decide +kernel
theorem dd_Sq_squeezeCopies_28 : decode (mm_Sq_squeezeCopies).2.1 28 = .ok (.iload 5, 2) := by decide +kernel
theorem dd_Sq_squeezeCopies_30 : decode (mm_Sq_squeezeCopies).2.1 30 = .ok (.iconst 3, 1) := by decide +kernel
theorem dd_Sq_squeezeCopies_31 : decode (mm_Sq_squeezeCopies).2.1 31 = .ok (.if_icmp .lt 43, 3) := by decide +kernel
theorem dd_Sq_squeezeCopies_34 : decode (mm_Sq_squeezeCopies).2.1 34 = .ok (.aload_n 0, 1) := by decide +kernel
theorem dd_Sq_squeezeCopies_35 : decode (mm_Sq_squeezeCopies).2.1 35 = .ok (.iload_n 3, 1) := by decide +kernel
theorem dd_Sq_squeezeCopies_36 : decode (mm_Sq_squeezeCopies).2.1 36 = .ok (.iload_n 2, 1) := by decide +kernel
theorem dd_Sq_squeezeCopies_37 : decode (mm_Sq_squeezeCopies).2.1 37 = .ok (.isub, 1) := by decide +kernel
theorem dd_Sq_squeezeCopies_38 : decode (mm_Sq_squeezeCopies).2.1 38 = .ok (.iload_n 3, 1) := by decide +kernel
theorem dd_Sq_squeezeCopies_39 : decode (mm_Sq_squeezeCopies).2.1 39 = .ok (.aload_n 1, 1) := by decide +kernel
theorem dd_Sq_squeezeCopies_40 : decode (mm_Sq_squeezeCopies).2.1 40 = .ok (.invokestatic 52, 3) := by decide +kernel
theorem dd_Sq_squeezeCopies_43 : decode (mm_Sq_squeezeCopies).2.1 43 = .ok (.iconst 0, 1) := by decide +kernel
theorem dd_Sq_squeezeCopies_44 : decode (mm_Sq_squeezeCopies).2.1 44 = .ok (.istore_n 2, 1) := by decide +kernel
theorem dd_Sq_squeezeCopies_45 : decode (mm_Sq_squeezeCopies).2.1 45 = .ok (.aload_n 1, 1) := by decide +kernel
theorem dd_Sq_squeezeCopies_46 : decode (mm_Sq_squeezeCopies).2.1 46 = .ok (.bipush 32, 2) := by decide +kernel
theorem dd_Sq_squeezeCopies_48 : decode (mm_Sq_squeezeCopies).2.1 48 = .ok (.iload 5, 2) := by decide +kernel
theorem dd_Sq_squeezeCopies_50 : decode (mm_Sq_squeezeCopies).2.1 50 = .ok (.iadd, 1) := by decide +kernel
theorem dd_Sq_squeezeCopies_51 : decode (mm_Sq_squeezeCopies).2.1 51 = .ok (.iconst 3, 1) := by decide +kernel
theorem dd_Sq_squeezeCopies_52 : decode (mm_Sq_squeezeCopies).2.1 52 = .ok (.isub, 1) := by decide +kernel
theorem dd_Sq_squeezeCopies_53 : decode (mm_Sq_squeezeCopies).2.1 53 = .ok (.invokevirtual 40, 3) := by decide +kernel
theorem dd_Sq_squeezeCopies_56 : decode (mm_Sq_squeezeCopies).2.1 56 = .ok (.pop, 1) := by decide +kernel
theorem dd_Sq_squeezeCopies_57 : decode (mm_Sq_squeezeCopies).2.1 57 = .ok (.aload_n 1, 1) := by decide +kernel
theorem dd_Sq_squeezeCopies_58 : decode (mm_Sq_squeezeCopies).2.1 58 = .ok (.iload 4, 2) := by decide +kernel
theorem dd_Sq_squeezeCopies_60 : decode (mm_Sq_squeezeCopies).2.1 60 = .ok (.iconst 1, 1) := by decide +kernel
theorem dd_Sq_squeezeCopies_61 : decode (mm_Sq_squeezeCopies).2.1 61 = .ok (.isub, 1) := by decide +kernel
theorem dd_Sq_squeezeCopies_62 : decode (mm_Sq_squeezeCopies).2.1 62 = .ok (.invokevirtual 40, 3) := by decide +kernel
theorem dd_Sq_squeezeCopies_65 : decode (mm_Sq_squeezeCopies).2.1 65 = .ok (.pop, 1) := by decide +kernel
theorem dd_Sq_squeezeCopies_66 : decode (mm_Sq_squeezeCopies).2.1 66 = .ok (.iload_n 3, 1) := by decide +kernel
theorem dd_Sq_squeezeCopies_67 : decode (mm_Sq_squeezeCopies).2.1 67 = .ok (.iload 5, 2) := by decide +kernel
theorem dd_Sq_squeezeCopies_69 : decode (mm_Sq_squeezeCopies).2.1 69 = .ok (.iadd, 1) := by decide +kernel
theorem dd_Sq_squeezeCopies_70 : decode (mm_Sq_squeezeCopies).2.1 70 = .ok (.istore_n 3, 1) := by decide +kernel
theorem dd_Sq_squeezeCopies_71 : decode (mm_Sq_squeezeCopies).2.1 71 = .ok (.goto 9, 3) := by decide +kernel
theorem dd_Sq_squeezeCopies_74 : decode (mm_Sq_squeezeCopies).2.1 74 = .ok (.iinc 2 1, 3) := by decide +kernel
theorem dd_Sq_squeezeCopies_77 : decode (mm_Sq_squeezeCopies).2.1 77 = .ok (.iinc 3 1, 3) := by decide +kernel
theorem dd_Sq_squeezeCopies_80 : decode (mm_Sq_squeezeCopies).2.1 80 = .ok (.goto (-76), 3) := by decide +kernel
theorem dd_Sq_squeezeCopies_83 : decode (mm_Sq_squeezeCopies).2.1 83 = .ok (.aload_n 0, 1) := by decide +kernel
theorem dd_Sq_squeezeCopies_84 : decode (mm_Sq_squeezeCopies).2.1 84 = .ok (.iload_n 3, 1) := by decide +kernel
theorem dd_Sq_squeezeCopies_85 : decode (mm_Sq_squeezeCopies).2.1 85 = .ok (.iload_n 2, 1) := by decide +kernel
theorem dd_Sq_squeezeCopies_86 : decode (mm_Sq_squeezeCopies).2.1 86 = .ok (.isub, 1) := by decide +kernel
theorem dd_Sq_squeezeCopies_87 : decode (mm_Sq_squeezeCopies).2.1 87 = .ok (.iload_n 3, 1) := by decide +kernel
theorem dd_Sq_squeezeCopies_88 : decode (mm_Sq_squeezeCopies).2.1 88 = .ok (.aload_n 1, 1) := by decide +kernel
theorem dd_Sq_squeezeCopies_89 : decode (mm_Sq_squeezeCopies).2.1 89 = .ok (.invokestatic 52, 3) := by decide +kernel
theorem dd_Sq_squeezeCopies_92 : decode (mm_Sq_squeezeCopies).2.1 92 = .ok (.return_, 1) := by decide +kernel
theorem dd_Sq_bestDistance_0 : decode (mm_Sq_bestDistance).2.1 0 = .ok (.iconst 1, 1) := by decide +kernel
theorem dd_Sq_bestDistance_1 : decode (mm_Sq_bestDistance).2.1 1 = .ok (.istore_n 2, 1) := by decide +kernel
theorem dd_Sq_bestDistance_2 : decode (mm_Sq_bestDistance).2.1 2 = .ok (.iconst 0, 1) := by decide +kernel
theorem dd_Sq_bestDistance_3 : decode (mm_Sq_bestDistance).2.1 3 = .ok (.istore_n 3, 1) := by decide +kernel
theorem dd_Sq_bestDistance_4 : decode (mm_Sq_bestDistance).2.1 4 = .ok (.iconst 1, 1) := by decide +kernel
theorem dd_Sq_bestDistance_5 : decode (mm_Sq_bestDistance).2.1 5 = .ok (.istore 4, 2) := by decide +kernel
theorem dd_Sq_bestDistance_7 : decode (mm_Sq_bestDistance).2.1 7 = .ok (.iload 4, 2) := by decide +kernel
theorem dd_Sq_bestDistance_9 : decode (mm_Sq_bestDistance).2.1 9 = .ok (.bipush 32, 2) := by decide +kernel
theorem dd_Sq_bestDistance_11 : decode (mm_Sq_bestDistance).2.1 11 = .ok (.if_icmp .gt 36, 3) := by decide +kernel
theorem dd_Sq_bestDistance_14 : decode (mm_Sq_bestDistance).2.1 14 = .ok (.iload 4, 2) := by decide +kernel
theorem dd_Sq_bestDistance_16 : decode (mm_Sq_bestDistance).2.1 16 = .ok (.iload_n 1, 1) := by decide +kernel
theorem dd_Sq_bestDistance_17 : decode (mm_Sq_bestDistance).2.1 17 = .ok (.if_icmp .gt 30, 3) := by decide +kernel
theorem dd_Sq_bestDistance_20 : decode (mm_Sq_bestDistance).2.1 20 = .ok (.aload_n 0, 1) := by decide +kernel
theorem dd_Sq_bestDistance_21 : decode (mm_Sq_bestDistance).2.1 21 = .ok (.iload_n 1, 1) := by decide +kernel
theorem dd_Sq_bestDistance_22 : decode (mm_Sq_bestDistance).2.1 22 = .ok (.iload 4, 2) := by decide +kernel
theorem dd_Sq_bestDistance_24 : decode (mm_Sq_bestDistance).2.1 24 = .ok (.invokestatic 48, 3) := by decide +kernel
theorem dd_Sq_bestDistance_27 : decode (mm_Sq_bestDistance).2.1 27 = .ok (.istore 5, 2) := by decide +kernel
theorem dd_Sq_bestDistance_29 : decode (mm_Sq_bestDistance).2.1 29 = .ok (.iload 5, 2) := by decide +kernel
theorem dd_Sq_bestDistance_31 : decode (mm_Sq_bestDistance).2.1 31 = .ok (.iload_n 3, 1) := by decide +kernel
theorem dd_Sq_bestDistance_32 : decode (mm_Sq_bestDistance).2.1 32 = .ok (.if_icmp .le 9, 3) := by decide +kernel
theorem dd_Sq_bestDistance_35 : decode (mm_Sq_bestDistance).2.1 35 = .ok (.iload 5, 2) := by decide +kernel
theorem dd_Sq_bestDistance_37 : decode (mm_Sq_bestDistance).2.1 37 = .ok (.istore_n 3, 1) := by decide +kernel
theorem dd_Sq_bestDistance_38 : decode (mm_Sq_bestDistance).2.1 38 = .ok (.iload 4, 2) := by decide +kernel
theorem dd_Sq_bestDistance_40 : decode (mm_Sq_bestDistance).2.1 40 = .ok (.istore_n 2, 1) := by decide +kernel
theorem dd_Sq_bestDistance_41 : decode (mm_Sq_bestDistance).2.1 41 = .ok (.iinc 4 1, 3) := by decide +kernel
theorem dd_Sq_bestDistance_44 : decode (mm_Sq_bestDistance).2.1 44 = .ok (.goto (-37), 3) := by decide +kernel
theorem dd_Sq_bestDistance_47 : decode (mm_Sq_bestDistance).2.1 47 = .ok (.iload_n 2, 1) := by decide +kernel
theorem dd_Sq_bestDistance_48 : decode (mm_Sq_bestDistance).2.1 48 = .ok (.ireturn, 1) := by decide +kernel
theorem dd_Sq_copyLength_0 : decode (mm_Sq_copyLength).2.1 0 = .ok (.iconst 0, 1) := by decide +kernel
theorem dd_Sq_copyLength_1 : decode (mm_Sq_copyLength).2.1 1 = .ok (.istore_n 3, 1) := by decide +kernel
theorem dd_Sq_copyLength_2 : decode (mm_Sq_copyLength).2.1 2 = .ok (.iload_n 3, 1) := by decide +kernel
theorem dd_Sq_copyLength_3 : decode (mm_Sq_copyLength).2.1 3 = .ok (.bipush 34, 2) := by decide +kernel
theorem dd_Sq_copyLength_5 : decode (mm_Sq_copyLength).2.1 5 = .ok (.if_icmp .ge 38, 3) := by decide +kernel
theorem dd_Sq_copyLength_8 : decode (mm_Sq_copyLength).2.1 8 = .ok (.iload_n 1, 1) := by decide +kernel
theorem dd_Sq_copyLength_9 : decode (mm_Sq_copyLength).2.1 9 = .ok (.iload_n 3, 1) := by decide +kernel
theorem dd_Sq_copyLength_10 : decode (mm_Sq_copyLength).2.1 10 = .ok (.iadd, 1) := by decide +kernel
theorem dd_Sq_copyLength_11 : decode (mm_Sq_copyLength).2.1 11 = .ok (.aload_n 0, 1) := by decide +kernel
theorem dd_Sq_copyLength_12 : decode (mm_Sq_copyLength).2.1 12 = .ok (.getfield 28, 3) := by decide +kernel
theorem dd_Sq_copyLength_15 : decode (mm_Sq_copyLength).2.1 15 = .ok (.if_icmp .ge 28, 3) := by decide +kernel
theorem dd_Sq_copyLength_18 : decode (mm_Sq_copyLength).2.1 18 = .ok (.aload_n 0, 1) := by decide +kernel
theorem dd_Sq_copyLength_19 : decode (mm_Sq_copyLength).2.1 19 = .ok (.iload_n 1, 1) := by decide +kernel
theorem dd_Sq_copyLength_20 : decode (mm_Sq_copyLength).2.1 20 = .ok (.iload_n 3, 1) := by decide +kernel
theorem dd_Sq_copyLength_21 : decode (mm_Sq_copyLength).2.1 21 = .ok (.iadd, 1) := by decide +kernel
theorem dd_Sq_copyLength_22 : decode (mm_Sq_copyLength).2.1 22 = .ok (.invokevirtual 32, 3) := by decide +kernel
theorem dd_Sq_copyLength_25 : decode (mm_Sq_copyLength).2.1 25 = .ok (.aload_n 0, 1) := by decide +kernel
theorem dd_Sq_copyLength_26 : decode (mm_Sq_copyLength).2.1 26 = .ok (.iload_n 1, 1) := by decide +kernel
theorem dd_Sq_copyLength_27 : decode (mm_Sq_copyLength).2.1 27 = .ok (.iload_n 3, 1) := by decide +kernel
theorem dd_Sq_copyLength_28 : decode (mm_Sq_copyLength).2.1 28 = .ok (.iadd, 1) := by decide +kernel
theorem dd_Sq_copyLength_29 : decode (mm_Sq_copyLength).2.1 29 = .ok (.iload_n 2, 1) := by decide +kernel
theorem dd_Sq_copyLength_30 : decode (mm_Sq_copyLength).2.1 30 = .ok (.isub, 1) := by decide +kernel
theorem dd_Sq_copyLength_31 : decode (mm_Sq_copyLength).2.1 31 = .ok (.invokevirtual 32, 3) := by decide +kernel
theorem dd_Sq_copyLength_34 : decode (mm_Sq_copyLength).2.1 34 = .ok (.if_icmp .ne 9, 3) := by decide +kernel
theorem dd_Sq_copyLength_37 : decode (mm_Sq_copyLength).2.1 37 = .ok (.iinc 3 1, 3) := by decide +kernel
theorem dd_Sq_copyLength_40 : decode (mm_Sq_copyLength).2.1 40 = .ok (.goto (-38), 3) := by decide +kernel
theorem dd_Sq_copyLength_43 : decode (mm_Sq_copyLength).2.1 43 = .ok (.iload_n 3, 1) := by decide +kernel
theorem dd_Sq_copyLength_44 : decode (mm_Sq_copyLength).2.1 44 = .ok (.ireturn, 1) := by decide +kernel
theorem dd_Sq_appendLiterals_0 : decode (mm_Sq_appendLiterals).2.1 0 = .ok (.iload_n 1, 1) := by decide +kernel
theorem dd_Sq_appendLiterals_1 : decode (mm_Sq_appendLiterals).2.1 1 = .ok (.istore 4, 2) := by decide +kernel
theorem dd_Sq_appendLiterals_3 : decode (mm_Sq_appendLiterals).2.1 3 = .ok (.iload 4, 2) := by decide +kernel
theorem dd_Sq_appendLiterals_5 : decode (mm_Sq_appendLiterals).2.1 5 = .ok (.iload_n 2, 1) := by decide +kernel
theorem dd_Sq_appendLiterals_6 : decode (mm_Sq_appendLiterals).2.1 6 = .ok (.if_icmp .ge 42, 3) := by decide +kernel
theorem dd_Sq_appendLiterals_9 : decode (mm_Sq_appendLiterals).2.1 9 = .ok (.bipush 32, 2) := by decide +kernel
theorem dd_Sq_appendLiterals_11 : decode (mm_Sq_appendLiterals).2.1 11 = .ok (.iload_n 2, 1) := by decide +kernel
theorem dd_Sq_appendLiterals_12 : decode (mm_Sq_appendLiterals).2.1 12 = .ok (.iload 4, 2) := by decide +kernel
theorem dd_Sq_appendLiterals_14 : decode (mm_Sq_appendLiterals).2.1 14 = .ok (.isub, 1) := by decide +kernel
theorem dd_Sq_appendLiterals_15 : decode (mm_Sq_appendLiterals).2.1 15 = .ok (.invokestatic 56, 3) := by decide +kernel
theorem dd_Sq_appendLiterals_18 : decode (mm_Sq_appendLiterals).2.1 18 = .ok (.istore 5, 2) := by decide +kernel
theorem dd_Sq_appendLiterals_20 : decode (mm_Sq_appendLiterals).2.1 20 = .ok (.aload_n 3, 1) := by decide +kernel
theorem dd_Sq_appendLiterals_21 : decode (mm_Sq_appendLiterals).2.1 21 = .ok (.iload 5, 2) := by decide +kernel
theorem dd_Sq_appendLiterals_23 : decode (mm_Sq_appendLiterals).2.1 23 = .ok (.iconst 1, 1) := by decide +kernel
theorem dd_Sq_appendLiterals_24 : decode (mm_Sq_appendLiterals).2.1 24 = .ok (.isub, 1) := by decide +kernel
theorem dd_Sq_appendLiterals_25 : decode (mm_Sq_appendLiterals).2.1 25 = .ok (.invokevirtual 40, 3) := by decide +kernel
theorem dd_Sq_appendLiterals_28 : decode (mm_Sq_appendLiterals).2.1 28 = .ok (.pop, 1) := by decide +kernel
theorem dd_Sq_appendLiterals_29 : decode (mm_Sq_appendLiterals).2.1 29 = .ok (.aload_n 3, 1) := by decide +kernel
theorem dd_Sq_appendLiterals_30 : decode (mm_Sq_appendLiterals).2.1 30 = .ok (.aload_n 0, 1) := by decide +kernel
theorem dd_Sq_appendLiterals_31 : decode (mm_Sq_appendLiterals).2.1 31 = .ok (.iload 4, 2) := by decide +kernel
theorem dd_Sq_appendLiterals_33 : decode (mm_Sq_appendLiterals).2.1 33 = .ok (.iload 4, 2) := by decide +kernel
theorem dd_Sq_appendLiterals_35 : decode (mm_Sq_appendLiterals).2.1 35 = .ok (.iload 5, 2) := by decide +kernel
theorem dd_Sq_appendLiterals_37 : decode (mm_Sq_appendLiterals).2.1 37 = .ok (.iadd, 1) := by decide +kernel
theorem dd_Sq_appendLiterals_38 : decode (mm_Sq_appendLiterals).2.1 38 = .ok (.invokevirtual 62, 3) := by decide +kernel
theorem dd_Sq_appendLiterals_41 : decode (mm_Sq_appendLiterals).2.1 41 = .ok (.pop, 1) := by decide +kernel
theorem dd_Sq_appendLiterals_42 : decode (mm_Sq_appendLiterals).2.1 42 = .ok (.iinc 4 32, 3) := by decide +kernel
theorem dd_Sq_appendLiterals_45 : decode (mm_Sq_appendLiterals).2.1 45 = .ok (.goto (-42), 3) := by decide +kernel
theorem dd_Sq_appendLiterals_48 : decode (mm_Sq_appendLiterals).2.1 48 = .ok (.return_, 1) := by decide +kernel
theorem dd_Row_check_0 : decode (mm_Row_check).2.1 0 = .ok (.ldc 45, 2) := by decide +kernel
theorem dd_Row_check_2 : decode (mm_Row_check).2.1 2 = .ok (.istore_n 3, 1) := by decide +kernel
theorem dd_Row_check_3 : decode (mm_Row_check).2.1 3 = .ok (.iload_n 1, 1) := by decide +kernel
theorem dd_Row_check_4 : decode (mm_Row_check).2.1 4 = .ok (.istore 4, 2) := by decide +kernel
theorem dd_Row_check_6 : decode (mm_Row_check).2.1 6 = .ok (.iload 4, 2) := by decide +kernel
theorem dd_Row_check_8 : decode (mm_Row_check).2.1 8 = .ok (.iload_n 2, 1) := by decide +kernel
theorem dd_Row_check_9 : decode (mm_Row_check).2.1 9 = .ok (.if_icmp .ge 20, 3) := by decide +kernel
theorem dd_Row_check_12 : decode (mm_Row_check).2.1 12 = .ok (.iload_n 3, 1) := by decide +kernel
theorem dd_Row_check_13 : decode (mm_Row_check).2.1 13 = .ok (.aload_n 0, 1) := by decide +kernel
theorem dd_Row_check_14 : decode (mm_Row_check).2.1 14 = .ok (.iload 4, 2) := by decide +kernel
theorem dd_Row_check_16 : decode (mm_Row_check).2.1 16 = .ok (.invokevirtual 19, 3) := by decide +kernel
theorem dd_Row_check_19 : decode (mm_Row_check).2.1 19 = .ok (.invokestatic 46, 3) := by decide +kernel
theorem dd_Row_check_22 : decode (mm_Row_check).2.1 22 = .ok (.istore_n 3, 1) := by decide +kernel
theorem dd_Row_check_23 : decode (mm_Row_check).2.1 23 = .ok (.iinc 4 1, 3) := by decide +kernel
theorem dd_Row_check_26 : decode (mm_Row_check).2.1 26 = .ok (.goto (-20), 3) := by decide +kernel
theorem dd_Row_check_29 : decode (mm_Row_check).2.1 29 = .ok (.iload_n 3, 1) := by decide +kernel
theorem dd_Row_check_30 : decode (mm_Row_check).2.1 30 = .ok (.ireturn, 1) := by decide +kernel
theorem dd_Row_checkWith_0 : decode (mm_Row_checkWith).2.1 0 = .ok (.iload_n 0, 1) := by decide +kernel
theorem dd_Row_checkWith_1 : decode (mm_Row_checkWith).2.1 1 = .ok (.istore_n 2, 1) := by decide +kernel
theorem dd_Row_checkWith_2 : decode (mm_Row_checkWith).2.1 2 = .ok (.bipush 7, 2) := by decide +kernel
theorem dd_Row_checkWith_4 : decode (mm_Row_checkWith).2.1 4 = .ok (.istore_n 3, 1) := by decide +kernel
theorem dd_Row_checkWith_5 : decode (mm_Row_checkWith).2.1 5 = .ok (.iload_n 3, 1) := by decide +kernel
theorem dd_Row_checkWith_6 : decode (mm_Row_checkWith).2.1 6 = .ok (.ifCond .lt 42, 3) := by decide +kernel
theorem dd_Row_checkWith_9 : decode (mm_Row_checkWith).2.1 9 = .ok (.iload_n 1, 1) := by decide +kernel
theorem dd_Row_checkWith_10 : decode (mm_Row_checkWith).2.1 10 = .ok (.iload_n 3, 1) := by decide +kernel
theorem dd_Row_checkWith_11 : decode (mm_Row_checkWith).2.1 11 = .ok (.ishr, 1) := by decide +kernel
theorem dd_Row_checkWith_12 : decode (mm_Row_checkWith).2.1 12 = .ok (.iconst 1, 1) := by decide +kernel
theorem dd_Row_checkWith_13 : decode (mm_Row_checkWith).2.1 13 = .ok (.iand, 1) := by decide +kernel
theorem dd_Row_checkWith_14 : decode (mm_Row_checkWith).2.1 14 = .ok (.iload_n 2, 1) := by decide +kernel
theorem dd_Row_checkWith_15 : decode (mm_Row_checkWith).2.1 15 = .ok (.bipush 15, 2) := by decide +kernel
theorem dd_Row_checkWith_17 : decode (mm_Row_checkWith).2.1 17 = .ok (.ishr, 1) := by decide +kernel
theorem dd_Row_checkWith_18 : decode (mm_Row_checkWith).2.1 18 = .ok (.iconst 1, 1) := by decide +kernel
theorem dd_Row_checkWith_19 : decode (mm_Row_checkWith).2.1 19 = .ok (.iand, 1) := by decide +kernel
theorem dd_Row_checkWith_20 : decode (mm_Row_checkWith).2.1 20 = .ok (.ixor, 1) := by decide +kernel
theorem dd_Row_checkWith_21 : decode (mm_Row_checkWith).2.1 21 = .ok (.istore 4, 2) := by decide +kernel
theorem dd_Row_checkWith_23 : decode (mm_Row_checkWith).2.1 23 = .ok (.iload_n 2, 1) := by decide +kernel
theorem dd_Row_checkWith_24 : decode (mm_Row_checkWith).2.1 24 = .ok (.iconst 2, 1) := by decide +kernel
theorem dd_Row_checkWith_25 : decode (mm_Row_checkWith).2.1 25 = .ok (.imul, 1) := by decide +kernel
theorem dd_Row_checkWith_26 : decode (mm_Row_checkWith).2.1 26 = .ok (.ldc 45, 2) := by decide +kernel
theorem dd_Row_checkWith_28 : decode (mm_Row_checkWith).2.1 28 = .ok (.iand, 1) := by decide +kernel
theorem dd_Row_checkWith_29 : decode (mm_Row_checkWith).2.1 29 = .ok (.istore_n 2, 1) := by decide +kernel
theorem dd_Row_checkWith_30 : decode (mm_Row_checkWith).2.1 30 = .ok (.iload 4, 2) := by decide +kernel
theorem dd_Row_checkWith_32 : decode (mm_Row_checkWith).2.1 32 = .ok (.iconst 1, 1) := by decide +kernel
theorem dd_Row_checkWith_33 : decode (mm_Row_checkWith).2.1 33 = .ok (.if_icmp .ne 9, 3) := by decide +kernel
theorem dd_Row_checkWith_36 : decode (mm_Row_checkWith).2.1 36 = .ok (.iload_n 2, 1) := by decide +kernel
theorem dd_Row_checkWith_37 : decode (mm_Row_checkWith).2.1 37 = .ok (.sipush 4129, 3) := by decide +kernel
theorem dd_Row_checkWith_40 : decode (mm_Row_checkWith).2.1 40 = .ok (.ixor, 1) := by decide +kernel
theorem dd_Row_checkWith_41 : decode (mm_Row_checkWith).2.1 41 = .ok (.istore_n 2, 1) := by decide +kernel
theorem dd_Row_checkWith_42 : decode (mm_Row_checkWith).2.1 42 = .ok (.iinc 3 (-1), 3) := by decide +kernel
theorem dd_Row_checkWith_45 : decode (mm_Row_checkWith).2.1 45 = .ok (.goto (-40), 3) := by decide +kernel
theorem dd_Row_checkWith_48 : decode (mm_Row_checkWith).2.1 48 = .ok (.iload_n 2, 1) := by decide +kernel
theorem dd_Row_checkWith_49 : decode (mm_Row_checkWith).2.1 49 = .ok (.ireturn, 1) := by decide +kernel
theorem dd_AB_pack_0 : decode (mm_AB_pack).2.1 0 = .ok (.iload_n 1, 1) := by decide +kernel
theorem dd_AB_pack_1 : decode (mm_AB_pack).2.1 1 = .ok (.ifCond .eq 10, 3) := by decide +kernel
theorem dd_AB_pack_4 : decode (mm_AB_pack).2.1 4 = .ok (.iload_n 1, 1) := by decide +kernel
theorem dd_AB_pack_5 : decode (mm_AB_pack).2.1 5 = .ok (.iconst 1, 1) := by decide +kernel
theorem dd_AB_pack_6 : decode (mm_AB_pack).2.1 6 = .ok (.if_icmp .eq 5, 3) := by decide +kernel
theorem dd_AB_pack_9 : decode (mm_AB_pack).2.1 9 = .ok (.iconst (-1), 1) := by decide +kernel
theorem dd_AB_pack_10 : decode (mm_AB_pack).2.1 10 = .ok (.ireturn, 1) := by decide +kernel
theorem dd_AB_pack_11 : decode (mm_AB_pack).2.1 11 = .ok (.iload_n 1, 1) := by decide +kernel
theorem dd_AB_pack_12 : decode (mm_AB_pack).2.1 12 = .ok (.ifCond .ne 13, 3) := by decide +kernel
theorem dd_AB_pack_15 : decode (mm_AB_pack).2.1 15 = .ok (.aload_n 0, 1) := by decide +kernel
theorem dd_AB_pack_16 : decode (mm_AB_pack).2.1 16 = .ok (.getfield 24, 3) := by decide +kernel
theorem dd_AB_pack_19 : decode (mm_AB_pack).2.1 19 = .ok (.invokevirtual 75, 3) := by decide +kernel
theorem dd_AB_pack_22 : decode (mm_AB_pack).2.1 22 = .ok (.goto 10, 3) := by decide +kernel
theorem dd_AB_pack_25 : decode (mm_AB_pack).2.1 25 = .ok (.aload_n 0, 1) := by decide +kernel
theorem dd_AB_pack_26 : decode (mm_AB_pack).2.1 26 = .ok (.getfield 24, 3) := by decide +kernel
theorem dd_AB_pack_29 : decode (mm_AB_pack).2.1 29 = .ok (.invokevirtual 78, 3) := by decide +kernel
theorem dd_AB_pack_32 : decode (mm_AB_pack).2.1 32 = .ok (.aload_n 0, 1) := by decide +kernel
theorem dd_AB_pack_33 : decode (mm_AB_pack).2.1 33 = .ok (.getfield 24, 3) := by decide +kernel
theorem dd_AB_pack_36 : decode (mm_AB_pack).2.1 36 = .ok (.getfield 81, 3) := by decide +kernel
theorem dd_AB_pack_39 : decode (mm_AB_pack).2.1 39 = .ok (.getfield 48, 3) := by decide +kernel
theorem dd_AB_pack_42 : decode (mm_AB_pack).2.1 42 = .ok (.sipush 600, 3) := by decide +kernel
theorem dd_AB_pack_45 : decode (mm_AB_pack).2.1 45 = .ok (.if_icmp .le 6, 3) := by decide +kernel
theorem dd_AB_pack_48 : decode (mm_AB_pack).2.1 48 = .ok (.bipush (-2), 2) := by decide +kernel
theorem dd_AB_pack_50 : decode (mm_AB_pack).2.1 50 = .ok (.ireturn, 1) := by decide +kernel
theorem dd_AB_pack_51 : decode (mm_AB_pack).2.1 51 = .ok (.aload_n 0, 1) := by decide +kernel
end
section
theorem dd_AB_pack_52 : decode (mm_AB_pack).2.1 52 = .ok (.getfield 31, 3) := by decide +kernel
theorem dd_AB_pack_55 : decode (mm_AB_pack).2.1 55 = .ok (.getfield 84, 3) := by decide +kernel
theorem dd_AB_pack_58 : decode (mm_AB_pack).2.1 58 = .ok (.aload_n 0, 1) := by decide +kernel
theorem dd_AB_pack_59 : decode (mm_AB_pack).2.1 59 = .ok (.getfield 24, 3) := by decide +kernel
theorem dd_AB_pack_62 : decode (mm_AB_pack).2.1 62 = .ok (.getfield 81, 3) := by decide +kernel
theorem dd_AB_pack_65 : decode (mm_AB_pack).2.1 65 = .ok (.invokevirtual 87, 3) := by decide +kernel
theorem dd_AB_pack_68 : decode (mm_AB_pack).2.1 68 = .ok (.aload_n 0, 1) := by decide +kernel
theorem dd_AB_pack_69 : decode (mm_AB_pack).2.1 69 = .ok (.getfield 31, 3) := by decide +kernel
theorem dd_AB_pack_72 : decode (mm_AB_pack).2.1 72 = .ok (.invokevirtual 90, 3) := by decide +kernel
theorem dd_AB_pack_75 : decode (mm_AB_pack).2.1 75 = .ok (.aload_n 0, 1) := by decide +kernel
theorem dd_AB_pack_76 : decode (mm_AB_pack).2.1 76 = .ok (.getfield 24, 3) := by decide +kernel
theorem dd_AB_pack_79 : decode (mm_AB_pack).2.1 79 = .ok (.iconst 0, 1) := by decide +kernel
theorem dd_AB_pack_80 : decode (mm_AB_pack).2.1 80 = .ok (.putfield 59, 3) := by decide +kernel
theorem dd_AB_pack_83 : decode (mm_AB_pack).2.1 83 = .ok (.aload_n 0, 1) := by decide +kernel
theorem dd_AB_pack_84 : decode (mm_AB_pack).2.1 84 = .ok (.getfield 31, 3) := by decide +kernel
theorem dd_AB_pack_87 : decode (mm_AB_pack).2.1 87 = .ok (.getfield 84, 3) := by decide +kernel
theorem dd_AB_pack_90 : decode (mm_AB_pack).2.1 90 = .ok (.getfield 48, 3) := by decide +kernel
theorem dd_AB_pack_93 : decode (mm_AB_pack).2.1 93 = .ok (.ireturn, 1) := by decide +kernel
theorem dd_Pk_draftChain_0 : decode (mm_Pk_draftChain).2.1 0 = .ok (.aload_n 0, 1) := by decide +kernel
theorem dd_Pk_draftChain_1 : decode (mm_Pk_draftChain).2.1 1 = .ok (.getfield 27, 3) := by decide +kernel
theorem dd_Pk_draftChain_4 : decode (mm_Pk_draftChain).2.1 4 = .ok (.iconst 0, 1) := by decide +kernel
theorem dd_Pk_draftChain_5 : decode (mm_Pk_draftChain).2.1 5 = .ok (.invokevirtual 31, 3) := by decide +kernel
theorem dd_Pk_draftChain_8 : decode (mm_Pk_draftChain).2.1 8 = .ok (.iconst 0, 1) := by decide +kernel
theorem dd_Pk_draftChain_9 : decode (mm_Pk_draftChain).2.1 9 = .ok (.istore_n 1, 1) := by decide +kernel
theorem dd_Pk_draftChain_10 : decode (mm_Pk_draftChain).2.1 10 = .ok (.iload_n 1, 1) := by decide +kernel
theorem dd_Pk_draftChain_11 : decode (mm_Pk_draftChain).2.1 11 = .ok (.aload_n 0, 1) := by decide +kernel
theorem dd_Pk_draftChain_12 : decode (mm_Pk_draftChain).2.1 12 = .ok (.getfield 18, 3) := by decide +kernel
theorem dd_Pk_draftChain_15 : decode (mm_Pk_draftChain).2.1 15 = .ok (.if_icmp .ge 19, 3) := by decide +kernel
theorem dd_Pk_draftChain_18 : decode (mm_Pk_draftChain).2.1 18 = .ok (.aload_n 0, 1) := by decide +kernel
theorem dd_Pk_draftChain_19 : decode (mm_Pk_draftChain).2.1 19 = .ok (.aload_n 0, 1) := by decide +kernel
theorem dd_Pk_draftChain_20 : decode (mm_Pk_draftChain).2.1 20 = .ok (.getfield 11, 3) := by decide +kernel
theorem dd_Pk_draftChain_23 : decode (mm_Pk_draftChain).2.1 23 = .ok (.iload_n 1, 1) := by decide +kernel
theorem dd_Pk_draftChain_24 : decode (mm_Pk_draftChain).2.1 24 = .ok (.aaload, 1) := by decide +kernel
theorem dd_Pk_draftChain_25 : decode (mm_Pk_draftChain).2.1 25 = .ok (.invokevirtual 34, 3) := by decide +kernel
theorem dd_Pk_draftChain_28 : decode (mm_Pk_draftChain).2.1 28 = .ok (.iinc 1 1, 3) := by decide +kernel
theorem dd_Pk_draftChain_31 : decode (mm_Pk_draftChain).2.1 31 = .ok (.goto (-21), 3) := by decide +kernel
theorem dd_Pk_draftChain_34 : decode (mm_Pk_draftChain).2.1 34 = .ok (.aload_n 0, 1) := by decide +kernel
theorem dd_Pk_draftChain_35 : decode (mm_Pk_draftChain).2.1 35 = .ok (.getfield 27, 3) := by decide +kernel
theorem dd_Pk_draftChain_38 : decode (mm_Pk_draftChain).2.1 38 = .ok (.bipush 69, 2) := by decide +kernel
theorem dd_Pk_draftChain_40 : decode (mm_Pk_draftChain).2.1 40 = .ok (.invokevirtual 38, 3) := by decide +kernel
theorem dd_Pk_draftChain_43 : decode (mm_Pk_draftChain).2.1 43 = .ok (.pop, 1) := by decide +kernel
theorem dd_Pk_draftChain_44 : decode (mm_Pk_draftChain).2.1 44 = .ok (.return_, 1) := by decide +kernel
theorem dd_Pk_appendRecord_0 : decode (mm_Pk_appendRecord).2.1 0 = .ok (.aload_n 0, 1) := by decide +kernel
theorem dd_Pk_appendRecord_1 : decode (mm_Pk_appendRecord).2.1 1 = .ok (.getfield 27, 3) := by decide +kernel
theorem dd_Pk_appendRecord_4 : decode (mm_Pk_appendRecord).2.1 4 = .ok (.getfield 42, 3) := by decide +kernel
theorem dd_Pk_appendRecord_7 : decode (mm_Pk_appendRecord).2.1 7 = .ok (.istore_n 2, 1) := by decide +kernel
theorem dd_Pk_appendRecord_8 : decode (mm_Pk_appendRecord).2.1 8 = .ok (.aload_n 0, 1) := by decide +kernel
theorem dd_Pk_appendRecord_9 : decode (mm_Pk_appendRecord).2.1 9 = .ok (.getfield 27, 3) := by decide +kernel
theorem dd_Pk_appendRecord_12 : decode (mm_Pk_appendRecord).2.1 12 = .ok (.bipush 67, 2) := by decide +kernel
theorem dd_Pk_appendRecord_14 : decode (mm_Pk_appendRecord).2.1 14 = .ok (.invokevirtual 38, 3) := by decide +kernel
theorem dd_Pk_appendRecord_17 : decode (mm_Pk_appendRecord).2.1 17 = .ok (.pop, 1) := by decide +kernel
theorem dd_Pk_appendRecord_18 : decode (mm_Pk_appendRecord).2.1 18 = .ok (.aload_n 1, 1) := by decide +kernel
theorem dd_Pk_appendRecord_19 : decode (mm_Pk_appendRecord).2.1 19 = .ok (.aload_n 0, 1) := by decide +kernel
theorem dd_Pk_appendRecord_20 : decode (mm_Pk_appendRecord).2.1 20 = .ok (.getfield 27, 3) := by decide +kernel
theorem dd_Pk_appendRecord_23 : decode (mm_Pk_appendRecord).2.1 23 = .ok (.invokevirtual 45, 3) := by decide +kernel
theorem dd_Pk_appendRecord_26 : decode (mm_Pk_appendRecord).2.1 26 = .ok (.aload_n 1, 1) := by decide +kernel
theorem dd_Pk_appendRecord_27 : decode (mm_Pk_appendRecord).2.1 27 = .ok (.aload_n 0, 1) := by decide +kernel
theorem dd_Pk_appendRecord_28 : decode (mm_Pk_appendRecord).2.1 28 = .ok (.getfield 27, 3) := by decide +kernel
theorem dd_Pk_appendRecord_31 : decode (mm_Pk_appendRecord).2.1 31 = .ok (.invokevirtual 49, 3) := by decide +kernel
theorem dd_Pk_appendRecord_34 : decode (mm_Pk_appendRecord).2.1 34 = .ok (.aload_n 0, 1) := by decide +kernel
theorem dd_Pk_appendRecord_35 : decode (mm_Pk_appendRecord).2.1 35 = .ok (.getfield 27, 3) := by decide +kernel
theorem dd_Pk_appendRecord_38 : decode (mm_Pk_appendRecord).2.1 38 = .ok (.aload_n 0, 1) := by decide +kernel
theorem dd_Pk_appendRecord_39 : decode (mm_Pk_appendRecord).2.1 39 = .ok (.getfield 27, 3) := by decide +kernel
theorem dd_Pk_appendRecord_42 : decode (mm_Pk_appendRecord).2.1 42 = .ok (.iload_n 2, 1) := by decide +kernel
theorem dd_Pk_appendRecord_43 : decode (mm_Pk_appendRecord).2.1 43 = .ok (.aload_n 0, 1) := by decide +kernel
theorem dd_Pk_appendRecord_44 : decode (mm_Pk_appendRecord).2.1 44 = .ok (.getfield 27, 3) := by decide +kernel
theorem dd_Pk_appendRecord_47 : decode (mm_Pk_appendRecord).2.1 47 = .ok (.getfield 42, 3) := by decide +kernel
theorem dd_Pk_appendRecord_50 : decode (mm_Pk_appendRecord).2.1 50 = .ok (.invokevirtual 52, 3) := by decide +kernel
theorem dd_Pk_appendRecord_53 : decode (mm_Pk_appendRecord).2.1 53 = .ok (.invokevirtual 38, 3) := by decide +kernel
theorem dd_Pk_appendRecord_56 : decode (mm_Pk_appendRecord).2.1 56 = .ok (.pop, 1) := by decide +kernel
theorem dd_Pk_appendRecord_57 : decode (mm_Pk_appendRecord).2.1 57 = .ok (.aload_n 0, 1) := by decide +kernel
theorem dd_Pk_appendRecord_58 : decode (mm_Pk_appendRecord).2.1 58 = .ok (.getfield 27, 3) := by decide +kernel
theorem dd_Pk_appendRecord_61 : decode (mm_Pk_appendRecord).2.1 61 = .ok (.aload_n 1, 1) := by decide +kernel
theorem dd_Pk_appendRecord_62 : decode (mm_Pk_appendRecord).2.1 62 = .ok (.getfield 56, 3) := by decide +kernel
theorem dd_Pk_appendRecord_65 : decode (mm_Pk_appendRecord).2.1 65 = .ok (.invokevirtual 59, 3) := by decide +kernel
theorem dd_Pk_appendRecord_68 : decode (mm_Pk_appendRecord).2.1 68 = .ok (.aload_n 0, 1) := by decide +kernel
theorem dd_Pk_appendRecord_69 : decode (mm_Pk_appendRecord).2.1 69 = .ok (.getfield 27, 3) := by decide +kernel
theorem dd_Pk_appendRecord_72 : decode (mm_Pk_appendRecord).2.1 72 = .ok (.iconst 0, 1) := by decide +kernel
theorem dd_Pk_appendRecord_73 : decode (mm_Pk_appendRecord).2.1 73 = .ok (.aload_n 0, 1) := by decide +kernel
theorem dd_Pk_appendRecord_74 : decode (mm_Pk_appendRecord).2.1 74 = .ok (.getfield 27, 3) := by decide +kernel
theorem dd_Pk_appendRecord_77 : decode (mm_Pk_appendRecord).2.1 77 = .ok (.getfield 42, 3) := by decide +kernel
theorem dd_Pk_appendRecord_80 : decode (mm_Pk_appendRecord).2.1 80 = .ok (.invokestatic 62, 3) := by decide +kernel
theorem dd_Pk_appendRecord_83 : decode (mm_Pk_appendRecord).2.1 83 = .ok (.invokevirtual 66, 3) := by decide +kernel
theorem dd_Pk_appendRecord_86 : decode (mm_Pk_appendRecord).2.1 86 = .ok (.pop, 1) := by decide +kernel
theorem dd_Pk_appendRecord_87 : decode (mm_Pk_appendRecord).2.1 87 = .ok (.return_, 1) := by decide +kernel
theorem dd_WF_appendMethodAndName_0 : decode (mm_WF_appendMethodAndName).2.1 0 = .ok (.aload_n 1, 1) := by decide +kernel
theorem dd_WF_appendMethodAndName_1 : decode (mm_WF_appendMethodAndName).2.1 1 = .ok (.aload_n 0, 1) := by decide +kernel
theorem dd_WF_appendMethodAndName_2 : decode (mm_WF_appendMethodAndName).2.1 2 = .ok (.getfield 33, 3) := by decide +kernel
theorem dd_WF_appendMethodAndName_5 : decode (mm_WF_appendMethodAndName).2.1 5 = .ok (.invokevirtual 47, 3) := by decide +kernel
theorem dd_WF_appendMethodAndName_8 : decode (mm_WF_appendMethodAndName).2.1 8 = .ok (.pop, 1) := by decide +kernel
theorem dd_WF_appendMethodAndName_9 : decode (mm_WF_appendMethodAndName).2.1 9 = .ok (.aload_n 1, 1) := by decide +kernel
theorem dd_WF_appendMethodAndName_10 : decode (mm_WF_appendMethodAndName).2.1 10 = .ok (.aload_n 0, 1) := by decide +kernel
theorem dd_WF_appendMethodAndName_11 : decode (mm_WF_appendMethodAndName).2.1 11 = .ok (.getfield 14, 3) := by decide +kernel
theorem dd_WF_appendMethodAndName_14 : decode (mm_WF_appendMethodAndName).2.1 14 = .ok (.getfield 37, 3) := by decide +kernel
theorem dd_WF_appendMethodAndName_17 : decode (mm_WF_appendMethodAndName).2.1 17 = .ok (.invokevirtual 47, 3) := by decide +kernel
theorem dd_WF_appendMethodAndName_20 : decode (mm_WF_appendMethodAndName).2.1 20 = .ok (.pop, 1) := by decide +kernel
theorem dd_WF_appendMethodAndName_21 : decode (mm_WF_appendMethodAndName).2.1 21 = .ok (.aload_n 1, 1) := by decide +kernel
theorem dd_WF_appendMethodAndName_22 : decode (mm_WF_appendMethodAndName).2.1 22 = .ok (.aload_n 0, 1) := by decide +kernel
theorem dd_WF_appendMethodAndName_23 : decode (mm_WF_appendMethodAndName).2.1 23 = .ok (.getfield 14, 3) := by decide +kernel
theorem dd_WF_appendMethodAndName_26 : decode (mm_WF_appendMethodAndName).2.1 26 = .ok (.invokevirtual 51, 3) := by decide +kernel
theorem dd_WF_appendMethodAndName_29 : decode (mm_WF_appendMethodAndName).2.1 29 = .ok (.return_, 1) := by decide +kernel
theorem dd_WF_appendLengthsAndCheck_0 : decode (mm_WF_appendLengthsAndCheck).2.1 0 = .ok (.aload_n 1, 1) := by decide +kernel
theorem dd_WF_appendLengthsAndCheck_1 : decode (mm_WF_appendLengthsAndCheck).2.1 1 = .ok (.aload_n 0, 1) := by decide +kernel
theorem dd_WF_appendLengthsAndCheck_2 : decode (mm_WF_appendLengthsAndCheck).2.1 2 = .ok (.getfield 20, 3) := by decide +kernel
theorem dd_WF_appendLengthsAndCheck_5 : decode (mm_WF_appendLengthsAndCheck).2.1 5 = .ok (.getfield 37, 3) := by decide +kernel
theorem dd_WF_appendLengthsAndCheck_8 : decode (mm_WF_appendLengthsAndCheck).2.1 8 = .ok (.invokevirtual 47, 3) := by decide +kernel
theorem dd_WF_appendLengthsAndCheck_11 : decode (mm_WF_appendLengthsAndCheck).2.1 11 = .ok (.pop, 1) := by decide +kernel
theorem dd_WF_appendLengthsAndCheck_12 : decode (mm_WF_appendLengthsAndCheck).2.1 12 = .ok (.aload_n 1, 1) := by decide +kernel
theorem dd_WF_appendLengthsAndCheck_13 : decode (mm_WF_appendLengthsAndCheck).2.1 13 = .ok (.aload_n 0, 1) := by decide +kernel
theorem dd_WF_appendLengthsAndCheck_14 : decode (mm_WF_appendLengthsAndCheck).2.1 14 = .ok (.getfield 40, 3) := by decide +kernel
theorem dd_WF_appendLengthsAndCheck_17 : decode (mm_WF_appendLengthsAndCheck).2.1 17 = .ok (.invokevirtual 47, 3) := by decide +kernel
theorem dd_WF_appendLengthsAndCheck_20 : decode (mm_WF_appendLengthsAndCheck).2.1 20 = .ok (.pop, 1) := by decide +kernel
theorem dd_WF_appendLengthsAndCheck_21 : decode (mm_WF_appendLengthsAndCheck).2.1 21 = .ok (.aload_n 1, 1) := by decide +kernel
theorem dd_WF_appendLengthsAndCheck_22 : decode (mm_WF_appendLengthsAndCheck).2.1 22 = .ok (.aload_n 0, 1) := by decide +kernel
theorem dd_WF_appendLengthsAndCheck_23 : decode (mm_WF_appendLengthsAndCheck).2.1 23 = .ok (.getfield 45, 3) := by decide +kernel
theorem dd_WF_appendLengthsAndCheck_26 : decode (mm_WF_appendLengthsAndCheck).2.1 26 = .ok (.invokevirtual 54, 3) := by decide +kernel
theorem dd_WF_appendLengthsAndCheck_29 : decode (mm_WF_appendLengthsAndCheck).2.1 29 = .ok (.return_, 1) := by decide +kernel
theorem dd_Row_appendNumber_0 : decode (mm_Row_appendNumber).2.1 0 = .ok (.aload_n 0, 1) := by decide +kernel
theorem dd_Row_appendNumber_1 : decode (mm_Row_appendNumber).2.1 1 = .ok (.iload_n 1, 1) := by decide +kernel
theorem dd_Row_appendNumber_2 : decode (mm_Row_appendNumber).2.1 2 = .ok (.sipush 256, 3) := by decide +kernel
theorem dd_Row_appendNumber_5 : decode (mm_Row_appendNumber).2.1 5 = .ok (.idiv, 1) := by decide +kernel
theorem dd_Row_appendNumber_6 : decode (mm_Row_appendNumber).2.1 6 = .ok (.invokevirtual 23, 3) := by decide +kernel
theorem dd_Row_appendNumber_9 : decode (mm_Row_appendNumber).2.1 9 = .ok (.pop, 1) := by decide +kernel
theorem dd_Row_appendNumber_10 : decode (mm_Row_appendNumber).2.1 10 = .ok (.aload_n 0, 1) := by decide +kernel
theorem dd_Row_appendNumber_11 : decode (mm_Row_appendNumber).2.1 11 = .ok (.iload_n 1, 1) := by decide +kernel
theorem dd_Row_appendNumber_12 : decode (mm_Row_appendNumber).2.1 12 = .ok (.sipush 256, 3) := by decide +kernel
theorem dd_Row_appendNumber_15 : decode (mm_Row_appendNumber).2.1 15 = .ok (.irem, 1) := by decide +kernel
theorem dd_Row_appendNumber_16 : decode (mm_Row_appendNumber).2.1 16 = .ok (.invokevirtual 23, 3) := by decide +kernel
theorem dd_Row_appendNumber_19 : decode (mm_Row_appendNumber).2.1 19 = .ok (.pop, 1) := by decide +kernel
theorem dd_Row_appendNumber_20 : decode (mm_Row_appendNumber).2.1 20 = .ok (.return_, 1) := by decide +kernel
theorem dd_Row_sum_0 : decode (mm_Row_sum).2.1 0 = .ok (.iconst 0, 1) := by decide +kernel
theorem dd_Row_sum_1 : decode (mm_Row_sum).2.1 1 = .ok (.istore_n 3, 1) := by decide +kernel
theorem dd_Row_sum_2 : decode (mm_Row_sum).2.1 2 = .ok (.iload_n 1, 1) := by decide +kernel
theorem dd_Row_sum_3 : decode (mm_Row_sum).2.1 3 = .ok (.istore 4, 2) := by decide +kernel
theorem dd_Row_sum_5 : decode (mm_Row_sum).2.1 5 = .ok (.iload 4, 2) := by decide +kernel
theorem dd_Row_sum_7 : decode (mm_Row_sum).2.1 7 = .ok (.iload_n 2, 1) := by decide +kernel
theorem dd_Row_sum_8 : decode (mm_Row_sum).2.1 8 = .ok (.if_icmp .ge 18, 3) := by decide +kernel
theorem dd_Row_sum_11 : decode (mm_Row_sum).2.1 11 = .ok (.iload_n 3, 1) := by decide +kernel
theorem dd_Row_sum_12 : decode (mm_Row_sum).2.1 12 = .ok (.aload_n 0, 1) := by decide +kernel
theorem dd_Row_sum_13 : decode (mm_Row_sum).2.1 13 = .ok (.iload 4, 2) := by decide +kernel
theorem dd_Row_sum_15 : decode (mm_Row_sum).2.1 15 = .ok (.invokevirtual 19, 3) := by decide +kernel
theorem dd_Row_sum_18 : decode (mm_Row_sum).2.1 18 = .ok (.iadd, 1) := by decide +kernel
theorem dd_Row_sum_19 : decode (mm_Row_sum).2.1 19 = .ok (.istore_n 3, 1) := by decide +kernel
theorem dd_Row_sum_20 : decode (mm_Row_sum).2.1 20 = .ok (.iinc 4 1, 3) := by decide +kernel
theorem dd_Row_sum_23 : decode (mm_Row_sum).2.1 23 = .ok (.goto (-18), 3) := by decide +kernel
theorem dd_Row_sum_26 : decode (mm_Row_sum).2.1 26 = .ok (.iload_n 3, 1) := by decide +kernel
theorem dd_Row_sum_27 : decode (mm_Row_sum).2.1 27 = .ok (.sipush 255, 3) := by decide +kernel
theorem dd_Row_sum_30 : decode (mm_Row_sum).2.1 30 = .ok (.iand, 1) := by decide +kernel
theorem dd_Row_sum_31 : decode (mm_Row_sum).2.1 31 = .ok (.ireturn, 1) := by decide +kernel
theorem dd_Pk_zerosBehind_0 : decode (mm_Pk_zerosBehind).2.1 0 = .ok (.iconst 4, 1) := by decide +kernel
theorem dd_Pk_zerosBehind_1 : decode (mm_Pk_zerosBehind).2.1 1 = .ok (.iload_n 0, 1) := by decide +kernel
theorem dd_Pk_zerosBehind_2 : decode (mm_Pk_zerosBehind).2.1 2 = .ok (.iconst 4, 1) := by decide +kernel
theorem dd_Pk_zerosBehind_3 : decode (mm_Pk_zerosBehind).2.1 3 = .ok (.irem, 1) := by decide +kernel
theorem dd_Pk_zerosBehind_4 : decode (mm_Pk_zerosBehind).2.1 4 = .ok (.isub, 1) := by decide +kernel
theorem dd_Pk_zerosBehind_5 : decode (mm_Pk_zerosBehind).2.1 5 = .ok (.iconst 4, 1) := by decide +kernel
theorem dd_Pk_zerosBehind_6 : decode (mm_Pk_zerosBehind).2.1 6 = .ok (.irem, 1) := by decide +kernel
theorem dd_Pk_zerosBehind_7 : decode (mm_Pk_zerosBehind).2.1 7 = .ok (.ireturn, 1) := by decide +kernel
theorem dd_Pk_draftIndex_0 : decode (mm_Pk_draftIndex).2.1 0 = .ok (.aload_n 0, 1) := by decide +kernel
theorem dd_Pk_draftIndex_1 : decode (mm_Pk_draftIndex).2.1 1 = .ok (.getfield 27, 3) := by decide +kernel
theorem dd_Pk_draftIndex_4 : decode (mm_Pk_draftIndex).2.1 4 = .ok (.iconst 0, 1) := by decide +kernel
theorem dd_Pk_draftIndex_5 : decode (mm_Pk_draftIndex).2.1 5 = .ok (.invokevirtual 31, 3) := by decide +kernel
theorem dd_Pk_draftIndex_8 : decode (mm_Pk_draftIndex).2.1 8 = .ok (.aload_n 0, 1) := by decide +kernel
theorem dd_Pk_draftIndex_9 : decode (mm_Pk_draftIndex).2.1 9 = .ok (.getfield 27, 3) := by decide +kernel
theorem dd_Pk_draftIndex_12 : decode (mm_Pk_draftIndex).2.1 12 = .ok (.bipush 73, 2) := by decide +kernel
theorem dd_Pk_draftIndex_14 : decode (mm_Pk_draftIndex).2.1 14 = .ok (.invokevirtual 38, 3) := by decide +kernel
theorem dd_Pk_draftIndex_17 : decode (mm_Pk_draftIndex).2.1 17 = .ok (.pop, 1) := by decide +kernel
theorem dd_Pk_draftIndex_18 : decode (mm_Pk_draftIndex).2.1 18 = .ok (.iconst 0, 1) := by decide +kernel
theorem dd_Pk_draftIndex_19 : decode (mm_Pk_draftIndex).2.1 19 = .ok (.istore_n 1, 1) := by decide +kernel
theorem dd_Pk_draftIndex_20 : decode (mm_Pk_draftIndex).2.1 20 = .ok (.iload_n 1, 1) := by decide +kernel
theorem dd_Pk_draftIndex_21 : decode (mm_Pk_draftIndex).2.1 21 = .ok (.aload_n 0, 1) := by decide +kernel
theorem dd_Pk_draftIndex_22 : decode (mm_Pk_draftIndex).2.1 22 = .ok (.getfield 18, 3) := by decide +kernel
theorem dd_Pk_draftIndex_25 : decode (mm_Pk_draftIndex).2.1 25 = .ok (.if_icmp .ge 41, 3) := by decide +kernel
theorem dd_Pk_draftIndex_28 : decode (mm_Pk_draftIndex).2.1 28 = .ok (.aload_n 0, 1) := by decide +kernel
theorem dd_Pk_draftIndex_29 : decode (mm_Pk_draftIndex).2.1 29 = .ok (.getfield 11, 3) := by decide +kernel
theorem dd_Pk_draftIndex_32 : decode (mm_Pk_draftIndex).2.1 32 = .ok (.iload_n 1, 1) := by decide +kernel
theorem dd_Pk_draftIndex_33 : decode (mm_Pk_draftIndex).2.1 33 = .ok (.aaload, 1) := by decide +kernel
theorem dd_Pk_draftIndex_34 : decode (mm_Pk_draftIndex).2.1 34 = .ok (.aload_n 0, 1) := by decide +kernel
theorem dd_Pk_draftIndex_35 : decode (mm_Pk_draftIndex).2.1 35 = .ok (.getfield 27, 3) := by decide +kernel
theorem dd_Pk_draftIndex_38 : decode (mm_Pk_draftIndex).2.1 38 = .ok (.getfield 42, 3) := by decide +kernel
theorem dd_Pk_draftIndex_41 : decode (mm_Pk_draftIndex).2.1 41 = .ok (.putfield 70, 3) := by decide +kernel
theorem dd_Pk_draftIndex_44 : decode (mm_Pk_draftIndex).2.1 44 = .ok (.aload_n 0, 1) := by decide +kernel
theorem dd_Pk_draftIndex_45 : decode (mm_Pk_draftIndex).2.1 45 = .ok (.getfield 27, 3) := by decide +kernel
theorem dd_Pk_draftIndex_48 : decode (mm_Pk_draftIndex).2.1 48 = .ok (.aload_n 0, 1) := by decide +kernel
theorem dd_Pk_draftIndex_49 : decode (mm_Pk_draftIndex).2.1 49 = .ok (.getfield 11, 3) := by decide +kernel
theorem dd_Pk_draftIndex_52 : decode (mm_Pk_draftIndex).2.1 52 = .ok (.iload_n 1, 1) := by decide +kernel
theorem dd_Pk_draftIndex_53 : decode (mm_Pk_draftIndex).2.1 53 = .ok (.aaload, 1) := by decide +kernel
theorem dd_Pk_draftIndex_54 : decode (mm_Pk_draftIndex).2.1 54 = .ok (.getfield 56, 3) := by decide +kernel
theorem dd_Pk_draftIndex_57 : decode (mm_Pk_draftIndex).2.1 57 = .ok (.invokevirtual 59, 3) := by decide +kernel
theorem dd_Pk_draftIndex_60 : decode (mm_Pk_draftIndex).2.1 60 = .ok (.iinc 1 1, 3) := by decide +kernel
theorem dd_Pk_draftIndex_63 : decode (mm_Pk_draftIndex).2.1 63 = .ok (.goto (-43), 3) := by decide +kernel
theorem dd_Pk_draftIndex_66 : decode (mm_Pk_draftIndex).2.1 66 = .ok (.aload_n 0, 1) := by decide +kernel
theorem dd_Pk_draftIndex_67 : decode (mm_Pk_draftIndex).2.1 67 = .ok (.getfield 27, 3) := by decide +kernel
theorem dd_Pk_draftIndex_70 : decode (mm_Pk_draftIndex).2.1 70 = .ok (.getfield 42, 3) := by decide +kernel
theorem dd_Pk_draftIndex_73 : decode (mm_Pk_draftIndex).2.1 73 = .ok (.istore_n 1, 1) := by decide +kernel
theorem dd_Pk_draftIndex_74 : decode (mm_Pk_draftIndex).2.1 74 = .ok (.iconst 0, 1) := by decide +kernel
theorem dd_Pk_draftIndex_75 : decode (mm_Pk_draftIndex).2.1 75 = .ok (.istore_n 2, 1) := by decide +kernel
theorem dd_Pk_draftIndex_76 : decode (mm_Pk_draftIndex).2.1 76 = .ok (.iload_n 2, 1) := by decide +kernel
theorem dd_Pk_draftIndex_77 : decode (mm_Pk_draftIndex).2.1 77 = .ok (.aload_n 0, 1) := by decide +kernel
theorem dd_Pk_draftIndex_78 : decode (mm_Pk_draftIndex).2.1 78 = .ok (.getfield 18, 3) := by decide +kernel
theorem dd_Pk_draftIndex_81 : decode (mm_Pk_draftIndex).2.1 81 = .ok (.if_icmp .ge 19, 3) := by decide +kernel
theorem dd_Pk_draftIndex_84 : decode (mm_Pk_draftIndex).2.1 84 = .ok (.aload_n 0, 1) := by decide +kernel
theorem dd_Pk_draftIndex_85 : decode (mm_Pk_draftIndex).2.1 85 = .ok (.aload_n 0, 1) := by decide +kernel
theorem dd_Pk_draftIndex_86 : decode (mm_Pk_draftIndex).2.1 86 = .ok (.getfield 11, 3) := by decide +kernel
theorem dd_Pk_draftIndex_89 : decode (mm_Pk_draftIndex).2.1 89 = .ok (.iload_n 2, 1) := by decide +kernel
theorem dd_Pk_draftIndex_90 : decode (mm_Pk_draftIndex).2.1 90 = .ok (.aaload, 1) := by decide +kernel
theorem dd_Pk_draftIndex_91 : decode (mm_Pk_draftIndex).2.1 91 = .ok (.invokevirtual 73, 3) := by decide +kernel
theorem dd_Pk_draftIndex_94 : decode (mm_Pk_draftIndex).2.1 94 = .ok (.iinc 2 1, 3) := by decide +kernel
theorem dd_Pk_draftIndex_97 : decode (mm_Pk_draftIndex).2.1 97 = .ok (.goto (-21), 3) := by decide +kernel
theorem dd_Pk_draftIndex_100 : decode (mm_Pk_draftIndex).2.1 100 = .ok (.aload_n 0, 1) := by decide +kernel
theorem dd_Pk_draftIndex_101 : decode (mm_Pk_draftIndex).2.1 101 = .ok (.getfield 27, 3) := by decide +kernel
theorem dd_Pk_draftIndex_104 : decode (mm_Pk_draftIndex).2.1 104 = .ok (.iload_n 1, 1) := by decide +kernel
theorem dd_Pk_draftIndex_105 : decode (mm_Pk_draftIndex).2.1 105 = .ok (.aload_n 0, 1) := by decide +kernel
theorem dd_Pk_draftIndex_106 : decode (mm_Pk_draftIndex).2.1 106 = .ok (.getfield 27, 3) := by decide +kernel
theorem dd_Pk_draftIndex_109 : decode (mm_Pk_draftIndex).2.1 109 = .ok (.getfield 42, 3) := by decide +kernel
theorem dd_Pk_draftIndex_112 : decode (mm_Pk_draftIndex).2.1 112 = .ok (.invokevirtual 76, 3) := by decide +kernel
theorem dd_Pk_draftIndex_115 : decode (mm_Pk_draftIndex).2.1 115 = .ok (.istore_n 2, 1) := by decide +kernel
theorem dd_Pk_draftIndex_116 : decode (mm_Pk_draftIndex).2.1 116 = .ok (.aload_n 0, 1) := by decide +kernel
theorem dd_Pk_draftIndex_117 : decode (mm_Pk_draftIndex).2.1 117 = .ok (.getfield 27, 3) := by decide +kernel
theorem dd_Pk_draftIndex_120 : decode (mm_Pk_draftIndex).2.1 120 = .ok (.bipush 88, 2) := by decide +kernel
theorem dd_Pk_draftIndex_122 : decode (mm_Pk_draftIndex).2.1 122 = .ok (.invokevirtual 38, 3) := by decide +kernel
theorem dd_Pk_draftIndex_125 : decode (mm_Pk_draftIndex).2.1 125 = .ok (.pop, 1) := by decide +kernel
theorem dd_Pk_draftIndex_126 : decode (mm_Pk_draftIndex).2.1 126 = .ok (.aload_n 0, 1) := by decide +kernel
theorem dd_Pk_draftIndex_127 : decode (mm_Pk_draftIndex).2.1 127 = .ok (.getfield 27, 3) := by decide +kernel
theorem dd_Pk_draftIndex_130 : decode (mm_Pk_draftIndex).2.1 130 = .ok (.aload_n 0, 1) := by decide +kernel
theorem dd_Pk_draftIndex_131 : decode (mm_Pk_draftIndex).2.1 131 = .ok (.getfield 18, 3) := by decide +kernel
theorem dd_Pk_draftIndex_134 : decode (mm_Pk_draftIndex).2.1 134 = .ok (.invokevirtual 38, 3) := by decide +kernel
theorem dd_Pk_draftIndex_137 : decode (mm_Pk_draftIndex).2.1 137 = .ok (.pop, 1) := by decide +kernel
theorem dd_Pk_draftIndex_138 : decode (mm_Pk_draftIndex).2.1 138 = .ok (.aload_n 0, 1) := by decide +kernel
theorem dd_Pk_draftIndex_139 : decode (mm_Pk_draftIndex).2.1 139 = .ok (.getfield 27, 3) := by decide +kernel
theorem dd_Pk_draftIndex_142 : decode (mm_Pk_draftIndex).2.1 142 = .ok (.iload_n 1, 1) := by decide +kernel
theorem dd_Pk_draftIndex_143 : decode (mm_Pk_draftIndex).2.1 143 = .ok (.invokevirtual 79, 3) := by decide +kernel
theorem dd_Pk_draftIndex_146 : decode (mm_Pk_draftIndex).2.1 146 = .ok (.aload_n 0, 1) := by decide +kernel
theorem dd_Pk_draftIndex_147 : decode (mm_Pk_draftIndex).2.1 147 = .ok (.getfield 27, 3) := by decide +kernel
theorem dd_Pk_draftIndex_150 : decode (mm_Pk_draftIndex).2.1 150 = .ok (.iload_n 2, 1) := by decide +kernel
theorem dd_Pk_draftIndex_151 : decode (mm_Pk_draftIndex).2.1 151 = .ok (.invokevirtual 79, 3) := by decide +kernel
theorem dd_Pk_draftIndex_154 : decode (mm_Pk_draftIndex).2.1 154 = .ok (.return_, 1) := by decide +kernel
theorem dd_Pk_appendEntry_0 : decode (mm_Pk_appendEntry).2.1 0 = .ok (.aload_n 1, 1) := by decide +kernel
theorem dd_Pk_appendEntry_1 : decode (mm_Pk_appendEntry).2.1 1 = .ok (.aload_n 0, 1) := by decide +kernel
theorem dd_Pk_appendEntry_2 : decode (mm_Pk_appendEntry).2.1 2 = .ok (.getfield 27, 3) := by decide +kernel
theorem dd_Pk_appendEntry_5 : decode (mm_Pk_appendEntry).2.1 5 = .ok (.invokevirtual 45, 3) := by decide +kernel
theorem dd_Pk_appendEntry_8 : decode (mm_Pk_appendEntry).2.1 8 = .ok (.aload_n 0, 1) := by decide +kernel
theorem dd_Pk_appendEntry_9 : decode (mm_Pk_appendEntry).2.1 9 = .ok (.getfield 27, 3) := by decide +kernel
theorem dd_Pk_appendEntry_12 : decode (mm_Pk_appendEntry).2.1 12 = .ok (.aload_n 1, 1) := by decide +kernel
theorem dd_Pk_appendEntry_13 : decode (mm_Pk_appendEntry).2.1 13 = .ok (.getfield 70, 3) := by decide +kernel
theorem dd_Pk_appendEntry_16 : decode (mm_Pk_appendEntry).2.1 16 = .ok (.invokevirtual 79, 3) := by decide +kernel
theorem dd_Pk_appendEntry_19 : decode (mm_Pk_appendEntry).2.1 19 = .ok (.aload_n 1, 1) := by decide +kernel
theorem dd_Pk_appendEntry_20 : decode (mm_Pk_appendEntry).2.1 20 = .ok (.aload_n 0, 1) := by decide +kernel
theorem dd_Pk_appendEntry_21 : decode (mm_Pk_appendEntry).2.1 21 = .ok (.getfield 27, 3) := by decide +kernel
theorem dd_Pk_appendEntry_24 : decode (mm_Pk_appendEntry).2.1 24 = .ok (.invokevirtual 49, 3) := by decide +kernel
theorem dd_Pk_appendEntry_27 : decode (mm_Pk_appendEntry).2.1 27 = .ok (.return_, 1) := by decide +kernel
theorem dd_Ar_close_0 : decode (mm_Ar_close).2.1 0 = .ok (.aload_n 0, 1) := by decide +kernel
theorem dd_Ar_close_1 : decode (mm_Ar_close).2.1 1 = .ok (.iconst 0, 1) := by decide +kernel
theorem dd_Ar_close_2 : decode (mm_Ar_close).2.1 2 = .ok (.putfield 27, 3) := by decide +kernel
theorem dd_Ar_close_5 : decode (mm_Ar_close).2.1 5 = .ok (.return_, 1) := by decide +kernel
theorem dd_AB_put_0 : decode (mm_AB_put).2.1 0 = .ok (.iload_n 1, 1) := by decide +kernel
theorem dd_AB_put_1 : decode (mm_AB_put).2.1 1 = .ok (.ifCond .lt 24, 3) := by decide +kernel
theorem dd_AB_put_4 : decode (mm_AB_put).2.1 4 = .ok (.iload_n 1, 1) := by decide +kernel
theorem dd_AB_put_5 : decode (mm_AB_put).2.1 5 = .ok (.aload_n 0, 1) := by decide +kernel
theorem dd_AB_put_6 : decode (mm_AB_put).2.1 6 = .ok (.getfield 31, 3) := by decide +kernel
theorem dd_AB_put_9 : decode (mm_AB_put).2.1 9 = .ok (.getfield 84, 3) := by decide +kernel
theorem dd_AB_put_12 : decode (mm_AB_put).2.1 12 = .ok (.getfield 48, 3) := by decide +kernel
theorem dd_AB_put_15 : decode (mm_AB_put).2.1 15 = .ok (.if_icmp .gt 10, 3) := by decide +kernel
theorem dd_AB_put_18 : decode (mm_AB_put).2.1 18 = .ok (.iload_n 2, 1) := by decide +kernel
theorem dd_AB_put_19 : decode (mm_AB_put).2.1 19 = .ok (.invokestatic 52, 3) := by decide +kernel
theorem dd_AB_put_22 : decode (mm_AB_put).2.1 22 = .ok (.ifCond .ne 5, 3) := by decide +kernel
theorem dd_AB_put_25 : decode (mm_AB_put).2.1 25 = .ok (.iconst (-1), 1) := by decide +kernel
theorem dd_AB_put_26 : decode (mm_AB_put).2.1 26 = .ok (.ireturn, 1) := by decide +kernel
theorem dd_AB_put_27 : decode (mm_AB_put).2.1 27 = .ok (.iload_n 1, 1) := by decide +kernel
theorem dd_AB_put_28 : decode (mm_AB_put).2.1 28 = .ok (.aload_n 0, 1) := by decide +kernel
theorem dd_AB_put_29 : decode (mm_AB_put).2.1 29 = .ok (.getfield 31, 3) := by decide +kernel
theorem dd_AB_put_32 : decode (mm_AB_put).2.1 32 = .ok (.getfield 84, 3) := by decide +kernel
theorem dd_AB_put_35 : decode (mm_AB_put).2.1 35 = .ok (.getfield 48, 3) := by decide +kernel
theorem dd_AB_put_38 : decode (mm_AB_put).2.1 38 = .ok (.if_icmp .ge 18, 3) := by decide +kernel
theorem dd_AB_put_41 : decode (mm_AB_put).2.1 41 = .ok (.aload_n 0, 1) := by decide +kernel
theorem dd_AB_put_42 : decode (mm_AB_put).2.1 42 = .ok (.getfield 31, 3) := by decide +kernel
theorem dd_AB_put_45 : decode (mm_AB_put).2.1 45 = .ok (.getfield 84, 3) := by decide +kernel
theorem dd_AB_put_48 : decode (mm_AB_put).2.1 48 = .ok (.iload_n 1, 1) := by decide +kernel
theorem dd_AB_put_49 : decode (mm_AB_put).2.1 49 = .ok (.iload_n 2, 1) := by decide +kernel
theorem dd_AB_put_50 : decode (mm_AB_put).2.1 50 = .ok (.invokevirtual 93, 3) := by decide +kernel
theorem dd_AB_put_53 : decode (mm_AB_put).2.1 53 = .ok (.goto 20, 3) := by decide +kernel
theorem dd_AB_put_56 : decode (mm_AB_put).2.1 56 = .ok (.aload_n 0, 1) := by decide +kernel
theorem dd_AB_put_57 : decode (mm_AB_put).2.1 57 = .ok (.getfield 31, 3) := by decide +kernel
theorem dd_AB_put_60 : decode (mm_AB_put).2.1 60 = .ok (.getfield 84, 3) := by decide +kernel
theorem dd_AB_put_63 : decode (mm_AB_put).2.1 63 = .ok (.iload_n 2, 1) := by decide +kernel
theorem dd_AB_put_64 : decode (mm_AB_put).2.1 64 = .ok (.invokevirtual 45, 3) := by decide +kernel
theorem dd_AB_put_67 : decode (mm_AB_put).2.1 67 = .ok (.ifCond .ne 6, 3) := by decide +kernel
theorem dd_AB_put_70 : decode (mm_AB_put).2.1 70 = .ok (.bipush (-2), 2) := by decide +kernel
theorem dd_AB_put_72 : decode (mm_AB_put).2.1 72 = .ok (.ireturn, 1) := by decide +kernel
theorem dd_AB_put_73 : decode (mm_AB_put).2.1 73 = .ok (.aload_n 0, 1) := by decide +kernel
theorem dd_AB_put_74 : decode (mm_AB_put).2.1 74 = .ok (.getfield 31, 3) := by decide +kernel
theorem dd_AB_put_77 : decode (mm_AB_put).2.1 77 = .ok (.invokevirtual 90, 3) := by decide +kernel
theorem dd_AB_put_80 : decode (mm_AB_put).2.1 80 = .ok (.aload_n 0, 1) := by decide +kernel
theorem dd_AB_put_81 : decode (mm_AB_put).2.1 81 = .ok (.getfield 31, 3) := by decide +kernel
theorem dd_AB_put_84 : decode (mm_AB_put).2.1 84 = .ok (.getfield 84, 3) := by decide +kernel
theorem dd_AB_put_87 : decode (mm_AB_put).2.1 87 = .ok (.getfield 48, 3) := by decide +kernel
theorem dd_AB_put_90 : decode (mm_AB_put).2.1 90 = .ok (.ireturn, 1) := by decide +kernel
theorem dd_Row_set_0 : decode (mm_Row_set).2.1 0 = .ok (.iload_n 1, 1) := by decide +kernel
theorem dd_Row_set_1 : decode (mm_Row_set).2.1 1 = .ok (.ifCond .lt 18, 3) := by decide +kernel
theorem dd_Row_set_4 : decode (mm_Row_set).2.1 4 = .ok (.iload_n 1, 1) := by decide +kernel
theorem dd_Row_set_5 : decode (mm_Row_set).2.1 5 = .ok (.aload_n 0, 1) := by decide +kernel
theorem dd_Row_set_6 : decode (mm_Row_set).2.1 6 = .ok (.getfield 15, 3) := by decide +kernel
theorem dd_Row_set_9 : decode (mm_Row_set).2.1 9 = .ok (.if_icmp .ge 10, 3) := by decide +kernel
theorem dd_Row_set_12 : decode (mm_Row_set).2.1 12 = .ok (.aload_n 0, 1) := by decide +kernel
theorem dd_Row_set_13 : decode (mm_Row_set).2.1 13 = .ok (.getfield 9, 3) := by decide +kernel
theorem dd_Row_set_16 : decode (mm_Row_set).2.1 16 = .ok (.iload_n 1, 1) := by decide +kernel
theorem dd_Row_set_17 : decode (mm_Row_set).2.1 17 = .ok (.iload_n 2, 1) := by decide +kernel
theorem dd_Row_set_18 : decode (mm_Row_set).2.1 18 = .ok (.iastore, 1) := by decide +kernel
theorem dd_Row_set_19 : decode (mm_Row_set).2.1 19 = .ok (.return_, 1) := by decide +kernel
theorem dd_AB_cut_0 : decode (mm_AB_cut).2.1 0 = .ok (.iload_n 1, 1) := by decide +kernel
theorem dd_AB_cut_1 : decode (mm_AB_cut).2.1 1 = .ok (.ifCond .lt 17, 3) := by decide +kernel
theorem dd_AB_cut_4 : decode (mm_AB_cut).2.1 4 = .ok (.iload_n 1, 1) := by decide +kernel
theorem dd_AB_cut_5 : decode (mm_AB_cut).2.1 5 = .ok (.aload_n 0, 1) := by decide +kernel
theorem dd_AB_cut_6 : decode (mm_AB_cut).2.1 6 = .ok (.getfield 31, 3) := by decide +kernel
theorem dd_AB_cut_9 : decode (mm_AB_cut).2.1 9 = .ok (.getfield 84, 3) := by decide +kernel
theorem dd_AB_cut_12 : decode (mm_AB_cut).2.1 12 = .ok (.getfield 48, 3) := by decide +kernel
theorem dd_AB_cut_15 : decode (mm_AB_cut).2.1 15 = .ok (.if_icmp .le 5, 3) := by decide +kernel
theorem dd_AB_cut_18 : decode (mm_AB_cut).2.1 18 = .ok (.iconst (-1), 1) := by decide +kernel
theorem dd_AB_cut_19 : decode (mm_AB_cut).2.1 19 = .ok (.ireturn, 1) := by decide +kernel
theorem dd_AB_cut_20 : decode (mm_AB_cut).2.1 20 = .ok (.aload_n 0, 1) := by decide +kernel
theorem dd_AB_cut_21 : decode (mm_AB_cut).2.1 21 = .ok (.getfield 31, 3) := by decide +kernel
theorem dd_AB_cut_24 : decode (mm_AB_cut).2.1 24 = .ok (.getfield 84, 3) := by decide +kernel
theorem dd_AB_cut_27 : decode (mm_AB_cut).2.1 27 = .ok (.iload_n 1, 1) := by decide +kernel
theorem dd_AB_cut_28 : decode (mm_AB_cut).2.1 28 = .ok (.invokevirtual 72, 3) := by decide +kernel
theorem dd_AB_cut_31 : decode (mm_AB_cut).2.1 31 = .ok (.aload_n 0, 1) := by decide +kernel
theorem dd_AB_cut_32 : decode (mm_AB_cut).2.1 32 = .ok (.getfield 31, 3) := by decide +kernel
theorem dd_AB_cut_35 : decode (mm_AB_cut).2.1 35 = .ok (.invokevirtual 90, 3) := by decide +kernel
theorem dd_AB_cut_38 : decode (mm_AB_cut).2.1 38 = .ok (.iload_n 1, 1) := by decide +kernel
theorem dd_AB_cut_39 : decode (mm_AB_cut).2.1 39 = .ok (.ireturn, 1) := by decide +kernel
theorem dd_AB_image_0 : decode (mm_AB_image).2.1 0 = .ok (.aload_n 0, 1) := by decide +kernel
theorem dd_AB_image_1 : decode (mm_AB_image).2.1 1 = .ok (.getfield 31, 3) := by decide +kernel
theorem dd_AB_image_4 : decode (mm_AB_image).2.1 4 = .ok (.getfield 84, 3) := by decide +kernel
theorem dd_AB_image_7 : decode (mm_AB_image).2.1 7 = .ok (.iload_n 1, 1) := by decide +kernel
theorem dd_AB_image_8 : decode (mm_AB_image).2.1 8 = .ok (.invokevirtual 97, 3) := by decide +kernel
theorem dd_AB_image_11 : decode (mm_AB_image).2.1 11 = .ok (.ireturn, 1) := by decide +kernel
theorem dd_AB_open_0 : decode (mm_AB_open).2.1 0 = .ok (.aload_n 0, 1) := by decide +kernel
theorem dd_AB_open_1 : decode (mm_AB_open).2.1 1 = .ok (.getfield 31, 3) := by decide +kernel
theorem dd_AB_open_4 : decode (mm_AB_open).2.1 4 = .ok (.getfield 84, 3) := by decide +kernel
theorem dd_AB_open_7 : decode (mm_AB_open).2.1 7 = .ok (.iconst 0, 1) := by decide +kernel
theorem dd_AB_open_8 : decode (mm_AB_open).2.1 8 = .ok (.invokevirtual 97, 3) := by decide +kernel
theorem dd_AB_open_11 : decode (mm_AB_open).2.1 11 = .ok (.lookupswitch 49 #[(67, 33), (69, 33), (73, 41)], 33) := by decide +kernel
theorem dd_AB_open_44 : decode (mm_AB_open).2.1 44 = .ok (.aload_n 0, 1) := by decide +kernel
theorem dd_AB_open_45 : decode (mm_AB_open).2.1 45 = .ok (.getfield 31, 3) := by decide +kernel
theorem dd_AB_open_48 : decode (mm_AB_open).2.1 48 = .ok (.invokevirtual 101, 3) := by decide +kernel
theorem dd_AB_open_51 : decode (mm_AB_open).2.1 51 = .ok (.ireturn, 1) := by decide +kernel
theorem dd_AB_open_52 : decode (mm_AB_open).2.1 52 = .ok (.aload_n 0, 1) := by decide +kernel
theorem dd_AB_open_53 : decode (mm_AB_open).2.1 53 = .ok (.getfield 31, 3) := by decide +kernel
theorem dd_AB_open_56 : decode (mm_AB_open).2.1 56 = .ok (.invokevirtual 105, 3) := by decide +kernel
theorem dd_AB_open_59 : decode (mm_AB_open).2.1 59 = .ok (.ireturn, 1) := by decide +kernel
theorem dd_AB_open_60 : decode (mm_AB_open).2.1 60 = .ok (.aload_n 0, 1) := by decide +kernel
theorem dd_AB_open_61 : decode (mm_AB_open).2.1 61 = .ok (.getfield 31, 3) := by decide +kernel
theorem dd_AB_open_64 : decode (mm_AB_open).2.1 64 = .ok (.bipush (-4), 2) := by decide +kernel
theorem dd_AB_open_66 : decode (mm_AB_open).2.1 66 = .ok (.iconst 0, 1) := by decide +kernel
theorem dd_AB_open_67 : decode (mm_AB_open).2.1 67 = .ok (.invokevirtual 108, 3) := by decide +kernel
theorem dd_AB_open_70 : decode (mm_AB_open).2.1 70 = .ok (.ireturn, 1) := by decide +kernel
theorem dd_Ar_openChain_0 : decode (mm_Ar_openChain).2.1 0 = .ok (.aload_n 0, 1) := by decide +kernel
theorem dd_Ar_openChain_1 : decode (mm_Ar_openChain).2.1 1 = .ok (.iconst 0, 1) := by decide +kernel
theorem dd_Ar_openChain_2 : decode (mm_Ar_openChain).2.1 2 = .ok (.aload_n 0, 1) := by decide +kernel
theorem dd_Ar_openChain_3 : decode (mm_Ar_openChain).2.1 3 = .ok (.getfield 14, 3) := by decide +kernel
theorem dd_Ar_openChain_6 : decode (mm_Ar_openChain).2.1 6 = .ok (.getfield 47, 3) := by decide +kernel
theorem dd_Ar_openChain_9 : decode (mm_Ar_openChain).2.1 9 = .ok (.invokevirtual 50, 3) := by decide +kernel
theorem dd_Ar_openChain_12 : decode (mm_Ar_openChain).2.1 12 = .ok (.iconst 0, 1) := by decide +kernel
theorem dd_Ar_openChain_13 : decode (mm_Ar_openChain).2.1 13 = .ok (.istore_n 1, 1) := by decide +kernel
theorem dd_Ar_openChain_14 : decode (mm_Ar_openChain).2.1 14 = .ok (.iload_n 1, 1) := by decide +kernel
theorem dd_Ar_openChain_15 : decode (mm_Ar_openChain).2.1 15 = .ok (.bipush 6, 2) := by decide +kernel
theorem dd_Ar_openChain_17 : decode (mm_Ar_openChain).2.1 17 = .ok (.if_icmp .gt 118, 3) := by decide +kernel
theorem dd_Ar_openChain_20 : decode (mm_Ar_openChain).2.1 20 = .ok (.aload_n 0, 1) := by decide +kernel
theorem dd_Ar_openChain_21 : decode (mm_Ar_openChain).2.1 21 = .ok (.getfield 41, 3) := by decide +kernel
theorem dd_Ar_openChain_24 : decode (mm_Ar_openChain).2.1 24 = .ok (.istore_n 2, 1) := by decide +kernel
theorem dd_Ar_openChain_25 : decode (mm_Ar_openChain).2.1 25 = .ok (.aload_n 0, 1) := by decide +kernel
theorem dd_Ar_openChain_26 : decode (mm_Ar_openChain).2.1 26 = .ok (.invokevirtual 54, 3) := by decide +kernel
theorem dd_Ar_openChain_29 : decode (mm_Ar_openChain).2.1 29 = .ok (.istore_n 3, 1) := by decide +kernel
theorem dd_Ar_openChain_30 : decode (mm_Ar_openChain).2.1 30 = .ok (.iload_n 3, 1) := by decide +kernel
theorem dd_Ar_openChain_31 : decode (mm_Ar_openChain).2.1 31 = .ok (.ifCond .ge 5, 3) := by decide +kernel
theorem dd_Ar_openChain_34 : decode (mm_Ar_openChain).2.1 34 = .ok (.iload_n 3, 1) := by decide +kernel
theorem dd_Ar_openChain_35 : decode (mm_Ar_openChain).2.1 35 = .ok (.ireturn, 1) := by decide +kernel
theorem dd_Ar_openChain_36 : decode (mm_Ar_openChain).2.1 36 = .ok (.iload_n 3, 1) := by decide +kernel
theorem dd_Ar_openChain_37 : decode (mm_Ar_openChain).2.1 37 = .ok (.bipush 69, 2) := by decide +kernel
theorem dd_Ar_openChain_39 : decode (mm_Ar_openChain).2.1 39 = .ok (.if_icmp .ne 8, 3) := by decide +kernel
theorem dd_Ar_openChain_42 : decode (mm_Ar_openChain).2.1 42 = .ok (.aload_n 0, 1) := by decide +kernel
theorem dd_Ar_openChain_43 : decode (mm_Ar_openChain).2.1 43 = .ok (.getfield 27, 3) := by decide +kernel
theorem dd_Ar_openChain_46 : decode (mm_Ar_openChain).2.1 46 = .ok (.ireturn, 1) := by decide +kernel
theorem dd_Ar_openChain_47 : decode (mm_Ar_openChain).2.1 47 = .ok (.iload_n 3, 1) := by decide +kernel
theorem dd_Ar_openChain_48 : decode (mm_Ar_openChain).2.1 48 = .ok (.bipush 67, 2) := by decide +kernel
theorem dd_Ar_openChain_50 : decode (mm_Ar_openChain).2.1 50 = .ok (.if_icmp .eq 11, 3) := by decide +kernel
theorem dd_Ar_openChain_53 : decode (mm_Ar_openChain).2.1 53 = .ok (.aload_n 0, 1) := by decide +kernel
theorem dd_Ar_openChain_54 : decode (mm_Ar_openChain).2.1 54 = .ok (.bipush (-4), 2) := by decide +kernel
theorem dd_Ar_openChain_56 : decode (mm_Ar_openChain).2.1 56 = .ok (.iload_n 2, 1) := by decide +kernel
theorem dd_Ar_openChain_57 : decode (mm_Ar_openChain).2.1 57 = .ok (.invokevirtual 58, 3) := by decide +kernel
theorem dd_Ar_openChain_60 : decode (mm_Ar_openChain).2.1 60 = .ok (.ireturn, 1) := by decide +kernel
theorem dd_Ar_openChain_61 : decode (mm_Ar_openChain).2.1 61 = .ok (.aload_n 0, 1) := by decide +kernel
theorem dd_Ar_openChain_62 : decode (mm_Ar_openChain).2.1 62 = .ok (.aload_n 0, 1) := by decide +kernel
theorem dd_Ar_openChain_63 : decode (mm_Ar_openChain).2.1 63 = .ok (.getfield 22, 3) := by decide +kernel
theorem dd_Ar_openChain_66 : decode (mm_Ar_openChain).2.1 66 = .ok (.iload_n 1, 1) := by decide +kernel
theorem dd_Ar_openChain_67 : decode (mm_Ar_openChain).2.1 67 = .ok (.aaload, 1) := by decide +kernel
theorem dd_Ar_openChain_68 : decode (mm_Ar_openChain).2.1 68 = .ok (.iload_n 2, 1) := by decide +kernel
theorem dd_Ar_openChain_69 : decode (mm_Ar_openChain).2.1 69 = .ok (.invokevirtual 62, 3) := by decide +kernel
theorem dd_Ar_openChain_72 : decode (mm_Ar_openChain).2.1 72 = .ok (.istore 4, 2) := by decide +kernel
theorem dd_Ar_openChain_74 : decode (mm_Ar_openChain).2.1 74 = .ok (.iload 4, 2) := by decide +kernel
theorem dd_Ar_openChain_76 : decode (mm_Ar_openChain).2.1 76 = .ok (.ifCond .ge 6, 3) := by decide +kernel
theorem dd_Ar_openChain_79 : decode (mm_Ar_openChain).2.1 79 = .ok (.iload 4, 2) := by decide +kernel
theorem dd_Ar_openChain_81 : decode (mm_Ar_openChain).2.1 81 = .ok (.ireturn, 1) := by decide +kernel
theorem dd_Ar_openChain_82 : decode (mm_Ar_openChain).2.1 82 = .ok (.aload_n 0, 1) := by decide +kernel
theorem dd_Ar_openChain_83 : decode (mm_Ar_openChain).2.1 83 = .ok (.getfield 27, 3) := by decide +kernel
theorem dd_Ar_openChain_86 : decode (mm_Ar_openChain).2.1 86 = .ok (.bipush 6, 2) := by decide +kernel
theorem dd_Ar_openChain_88 : decode (mm_Ar_openChain).2.1 88 = .ok (.if_icmp .ne 11, 3) := by decide +kernel
theorem dd_Ar_openChain_91 : decode (mm_Ar_openChain).2.1 91 = .ok (.aload_n 0, 1) := by decide +kernel
theorem dd_Ar_openChain_92 : decode (mm_Ar_openChain).2.1 92 = .ok (.bipush (-2), 2) := by decide +kernel
theorem dd_Ar_openChain_94 : decode (mm_Ar_openChain).2.1 94 = .ok (.iload_n 2, 1) := by decide +kernel
theorem dd_Ar_openChain_95 : decode (mm_Ar_openChain).2.1 95 = .ok (.invokevirtual 58, 3) := by decide +kernel
theorem dd_Ar_openChain_98 : decode (mm_Ar_openChain).2.1 98 = .ok (.ireturn, 1) := by decide +kernel
theorem dd_Ar_openChain_99 : decode (mm_Ar_openChain).2.1 99 = .ok (.aload_n 0, 1) := by decide +kernel
theorem dd_Ar_openChain_100 : decode (mm_Ar_openChain).2.1 100 = .ok (.aload_n 0, 1) := by decide +kernel
theorem dd_Ar_openChain_101 : decode (mm_Ar_openChain).2.1 101 = .ok (.getfield 22, 3) := by decide +kernel
theorem dd_Ar_openChain_104 : decode (mm_Ar_openChain).2.1 104 = .ok (.iload_n 1, 1) := by decide +kernel
theorem dd_Ar_openChain_105 : decode (mm_Ar_openChain).2.1 105 = .ok (.aaload, 1) := by decide +kernel
theorem dd_Ar_openChain_106 : decode (mm_Ar_openChain).2.1 106 = .ok (.invokevirtual 66, 3) := by decide +kernel
theorem dd_Ar_openChain_109 : decode (mm_Ar_openChain).2.1 109 = .ok (.istore 4, 2) := by decide +kernel
theorem dd_Ar_openChain_111 : decode (mm_Ar_openChain).2.1 111 = .ok (.iload 4, 2) := by decide +kernel
theorem dd_Ar_openChain_113 : decode (mm_Ar_openChain).2.1 113 = .ok (.ifCond .ge 6, 3) := by decide +kernel
theorem dd_Ar_openChain_116 : decode (mm_Ar_openChain).2.1 116 = .ok (.iload 4, 2) := by decide +kernel
theorem dd_Ar_openChain_118 : decode (mm_Ar_openChain).2.1 118 = .ok (.ireturn, 1) := by decide +kernel
theorem dd_Ar_openChain_119 : decode (mm_Ar_openChain).2.1 119 = .ok (.aload_n 0, 1) := by decide +kernel
theorem dd_Ar_openChain_120 : decode (mm_Ar_openChain).2.1 120 = .ok (.dup, 1) := by decide +kernel
theorem dd_Ar_openChain_121 : decode (mm_Ar_openChain).2.1 121 = .ok (.getfield 27, 3) := by decide +kernel
theorem dd_Ar_openChain_124 : decode (mm_Ar_openChain).2.1 124 = .ok (.iconst 1, 1) := by decide +kernel
theorem dd_Ar_openChain_125 : decode (mm_Ar_openChain).2.1 125 = .ok (.iadd, 1) := by decide +kernel
theorem dd_Ar_openChain_126 : decode (mm_Ar_openChain).2.1 126 = .ok (.putfield 27, 3) := by decide +kernel
theorem dd_Ar_openChain_129 : decode (mm_Ar_openChain).2.1 129 = .ok (.iinc 1 1, 3) := by decide +kernel
theorem dd_Ar_openChain_132 : decode (mm_Ar_openChain).2.1 132 = .ok (.goto (-118), 3) := by decide +kernel
theorem dd_Ar_openChain_135 : decode (mm_Ar_openChain).2.1 135 = .ok (.aload_n 0, 1) := by decide +kernel
theorem dd_Ar_openChain_136 : decode (mm_Ar_openChain).2.1 136 = .ok (.bipush (-2), 2) := by decide +kernel
theorem dd_Ar_openChain_138 : decode (mm_Ar_openChain).2.1 138 = .ok (.aload_n 0, 1) := by decide +kernel
theorem dd_Ar_openChain_139 : decode (mm_Ar_openChain).2.1 139 = .ok (.getfield 41, 3) := by decide +kernel
theorem dd_Ar_openChain_142 : decode (mm_Ar_openChain).2.1 142 = .ok (.invokevirtual 58, 3) := by decide +kernel
theorem dd_Ar_openChain_145 : decode (mm_Ar_openChain).2.1 145 = .ok (.ireturn, 1) := by decide +kernel
theorem dd_Ar_start_0 : decode (mm_Ar_start).2.1 0 = .ok (.aload_n 0, 1) := by decide +kernel
theorem dd_Ar_start_1 : decode (mm_Ar_start).2.1 1 = .ok (.iconst 0, 1) := by decide +kernel
theorem dd_Ar_start_2 : decode (mm_Ar_start).2.1 2 = .ok (.putfield 27, 3) := by decide +kernel
theorem dd_Ar_start_5 : decode (mm_Ar_start).2.1 5 = .ok (.aload_n 0, 1) := by decide +kernel
theorem dd_Ar_start_6 : decode (mm_Ar_start).2.1 6 = .ok (.iconst (-1), 1) := by decide +kernel
theorem dd_Ar_start_7 : decode (mm_Ar_start).2.1 7 = .ok (.putfield 31, 3) := by decide +kernel
theorem dd_Ar_start_10 : decode (mm_Ar_start).2.1 10 = .ok (.aload_n 0, 1) := by decide +kernel
theorem dd_Ar_start_11 : decode (mm_Ar_start).2.1 11 = .ok (.iload_n 1, 1) := by decide +kernel
theorem dd_Ar_start_12 : decode (mm_Ar_start).2.1 12 = .ok (.putfield 41, 3) := by decide +kernel
theorem dd_Ar_start_15 : decode (mm_Ar_start).2.1 15 = .ok (.aload_n 0, 1) := by decide +kernel
theorem dd_Ar_start_16 : decode (mm_Ar_start).2.1 16 = .ok (.iload_n 2, 1) := by decide +kernel
theorem dd_Ar_start_17 : decode (mm_Ar_start).2.1 17 = .ok (.putfield 44, 3) := by decide +kernel
theorem dd_Ar_start_20 : decode (mm_Ar_start).2.1 20 = .ok (.return_, 1) := by decide +kernel
theorem dd_Ar_readByte_0 : decode (mm_Ar_readByte).2.1 0 = .ok (.aload_n 0, 1) := by decide +kernel
theorem dd_Ar_readByte_1 : decode (mm_Ar_readByte).2.1 1 = .ok (.getfield 41, 3) := by decide +kernel
theorem dd_Ar_readByte_4 : decode (mm_Ar_readByte).2.1 4 = .ok (.aload_n 0, 1) := by decide +kernel
theorem dd_Ar_readByte_5 : decode (mm_Ar_readByte).2.1 5 = .ok (.getfield 44, 3) := by decide +kernel
theorem dd_Ar_readByte_8 : decode (mm_Ar_readByte).2.1 8 = .ok (.if_icmp .lt 14, 3) := by decide +kernel
theorem dd_Ar_readByte_11 : decode (mm_Ar_readByte).2.1 11 = .ok (.aload_n 0, 1) := by decide +kernel
theorem dd_Ar_readByte_12 : decode (mm_Ar_readByte).2.1 12 = .ok (.bipush (-3), 2) := by decide +kernel
theorem dd_Ar_readByte_14 : decode (mm_Ar_readByte).2.1 14 = .ok (.aload_n 0, 1) := by decide +kernel
theorem dd_Ar_readByte_15 : decode (mm_Ar_readByte).2.1 15 = .ok (.getfield 44, 3) := by decide +kernel
theorem dd_Ar_readByte_18 : decode (mm_Ar_readByte).2.1 18 = .ok (.invokevirtual 58, 3) := by decide +kernel
theorem dd_Ar_readByte_21 : decode (mm_Ar_readByte).2.1 21 = .ok (.ireturn, 1) := by decide +kernel
theorem dd_Ar_readByte_22 : decode (mm_Ar_readByte).2.1 22 = .ok (.aload_n 0, 1) := by decide +kernel
theorem dd_Ar_readByte_23 : decode (mm_Ar_readByte).2.1 23 = .ok (.getfield 14, 3) := by decide +kernel
theorem dd_Ar_readByte_26 : decode (mm_Ar_readByte).2.1 26 = .ok (.aload_n 0, 1) := by decide +kernel
theorem dd_Ar_readByte_27 : decode (mm_Ar_readByte).2.1 27 = .ok (.getfield 41, 3) := by decide +kernel
theorem dd_Ar_readByte_30 : decode (mm_Ar_readByte).2.1 30 = .ok (.invokevirtual 94, 3) := by decide +kernel
theorem dd_Ar_readByte_33 : decode (mm_Ar_readByte).2.1 33 = .ok (.istore_n 1, 1) := by decide +kernel
theorem dd_Ar_readByte_34 : decode (mm_Ar_readByte).2.1 34 = .ok (.aload_n 0, 1) := by decide +kernel
theorem dd_Ar_readByte_35 : decode (mm_Ar_readByte).2.1 35 = .ok (.dup, 1) := by decide +kernel
theorem dd_Ar_readByte_36 : decode (mm_Ar_readByte).2.1 36 = .ok (.getfield 41, 3) := by decide +kernel
theorem dd_Ar_readByte_39 : decode (mm_Ar_readByte).2.1 39 = .ok (.iconst 1, 1) := by decide +kernel
theorem dd_Ar_readByte_40 : decode (mm_Ar_readByte).2.1 40 = .ok (.iadd, 1) := by decide +kernel
theorem dd_Ar_readByte_41 : decode (mm_Ar_readByte).2.1 41 = .ok (.putfield 41, 3) := by decide +kernel
theorem dd_Ar_readByte_44 : decode (mm_Ar_readByte).2.1 44 = .ok (.iload_n 1, 1) := by decide +kernel
theorem dd_Ar_readByte_45 : decode (mm_Ar_readByte).2.1 45 = .ok (.ireturn, 1) := by decide +kernel
theorem dd_Ar_stop_0 : decode (mm_Ar_stop).2.1 0 = .ok (.aload_n 0, 1) := by decide +kernel
theorem dd_Ar_stop_1 : decode (mm_Ar_stop).2.1 1 = .ok (.iconst 0, 1) := by decide +kernel
theorem dd_Ar_stop_2 : decode (mm_Ar_stop).2.1 2 = .ok (.putfield 27, 3) := by decide +kernel
theorem dd_Ar_stop_5 : decode (mm_Ar_stop).2.1 5 = .ok (.aload_n 0, 1) := by decide +kernel
theorem dd_Ar_stop_6 : decode (mm_Ar_stop).2.1 6 = .ok (.iload_n 2, 1) := by decide +kernel
theorem dd_Ar_stop_7 : decode (mm_Ar_stop).2.1 7 = .ok (.putfield 31, 3) := by decide +kernel
theorem dd_Ar_stop_10 : decode (mm_Ar_stop).2.1 10 = .ok (.iload_n 1, 1) := by decide +kernel
theorem dd_Ar_stop_11 : decode (mm_Ar_stop).2.1 11 = .ok (.ireturn, 1) := by decide +kernel
theorem dd_Ar_readRecordHead_0 : decode (mm_Ar_readRecordHead).2.1 0 = .ok (.aload_n 0, 1) := by decide +kernel
theorem dd_Ar_readRecordHead_1 : decode (mm_Ar_readRecordHead).2.1 1 = .ok (.aload_n 1, 1) := by decide +kernel
theorem dd_Ar_readRecordHead_2 : decode (mm_Ar_readRecordHead).2.1 2 = .ok (.invokevirtual 70, 3) := by decide +kernel
theorem dd_Ar_readRecordHead_5 : decode (mm_Ar_readRecordHead).2.1 5 = .ok (.istore_n 3, 1) := by decide +kernel
theorem dd_Ar_readRecordHead_6 : decode (mm_Ar_readRecordHead).2.1 6 = .ok (.iload_n 3, 1) := by decide +kernel
theorem dd_Ar_readRecordHead_7 : decode (mm_Ar_readRecordHead).2.1 7 = .ok (.ifCond .ge 5, 3) := by decide +kernel
theorem dd_Ar_readRecordHead_10 : decode (mm_Ar_readRecordHead).2.1 10 = .ok (.iload_n 3, 1) := by decide +kernel
theorem dd_Ar_readRecordHead_11 : decode (mm_Ar_readRecordHead).2.1 11 = .ok (.ireturn, 1) := by decide +kernel
theorem dd_Ar_readRecordHead_12 : decode (mm_Ar_readRecordHead).2.1 12 = .ok (.aload_n 1, 1) := by decide +kernel
theorem dd_Ar_readRecordHead_13 : decode (mm_Ar_readRecordHead).2.1 13 = .ok (.aload_n 0, 1) := by decide +kernel
theorem dd_Ar_readRecordHead_14 : decode (mm_Ar_readRecordHead).2.1 14 = .ok (.invokevirtual 54, 3) := by decide +kernel
theorem dd_Ar_readRecordHead_17 : decode (mm_Ar_readRecordHead).2.1 17 = .ok (.putfield 73, 3) := by decide +kernel
theorem dd_Ar_readRecordHead_20 : decode (mm_Ar_readRecordHead).2.1 20 = .ok (.aload_n 1, 1) := by decide +kernel
theorem dd_Ar_readRecordHead_21 : decode (mm_Ar_readRecordHead).2.1 21 = .ok (.getfield 73, 3) := by decide +kernel
theorem dd_Ar_readRecordHead_24 : decode (mm_Ar_readRecordHead).2.1 24 = .ok (.ifCond .ge 8, 3) := by decide +kernel
theorem dd_Ar_readRecordHead_27 : decode (mm_Ar_readRecordHead).2.1 27 = .ok (.aload_n 1, 1) := by decide +kernel
theorem dd_Ar_readRecordHead_28 : decode (mm_Ar_readRecordHead).2.1 28 = .ok (.getfield 73, 3) := by decide +kernel
theorem dd_Ar_readRecordHead_31 : decode (mm_Ar_readRecordHead).2.1 31 = .ok (.ireturn, 1) := by decide +kernel
theorem dd_Ar_readRecordHead_32 : decode (mm_Ar_readRecordHead).2.1 32 = .ok (.aload_n 0, 1) := by decide +kernel
theorem dd_Ar_readRecordHead_33 : decode (mm_Ar_readRecordHead).2.1 33 = .ok (.aload_n 1, 1) := by decide +kernel
theorem dd_Ar_readRecordHead_34 : decode (mm_Ar_readRecordHead).2.1 34 = .ok (.invokevirtual 76, 3) := by decide +kernel
theorem dd_Ar_readRecordHead_37 : decode (mm_Ar_readRecordHead).2.1 37 = .ok (.istore_n 3, 1) := by decide +kernel
theorem dd_Ar_readRecordHead_38 : decode (mm_Ar_readRecordHead).2.1 38 = .ok (.iload_n 3, 1) := by decide +kernel
theorem dd_Ar_readRecordHead_39 : decode (mm_Ar_readRecordHead).2.1 39 = .ok (.ifCond .ge 5, 3) := by decide +kernel
theorem dd_Ar_readRecordHead_42 : decode (mm_Ar_readRecordHead).2.1 42 = .ok (.iload_n 3, 1) := by decide +kernel
theorem dd_Ar_readRecordHead_43 : decode (mm_Ar_readRecordHead).2.1 43 = .ok (.ireturn, 1) := by decide +kernel
theorem dd_Ar_readRecordHead_44 : decode (mm_Ar_readRecordHead).2.1 44 = .ok (.aload_n 0, 1) := by decide +kernel
theorem dd_Ar_readRecordHead_45 : decode (mm_Ar_readRecordHead).2.1 45 = .ok (.getfield 14, 3) := by decide +kernel
theorem dd_Ar_readRecordHead_48 : decode (mm_Ar_readRecordHead).2.1 48 = .ok (.iload_n 2, 1) := by decide +kernel
theorem dd_Ar_readRecordHead_49 : decode (mm_Ar_readRecordHead).2.1 49 = .ok (.aload_n 0, 1) := by decide +kernel
theorem dd_Ar_readRecordHead_50 : decode (mm_Ar_readRecordHead).2.1 50 = .ok (.getfield 41, 3) := by decide +kernel
theorem dd_Ar_readRecordHead_53 : decode (mm_Ar_readRecordHead).2.1 53 = .ok (.invokevirtual 79, 3) := by decide +kernel
theorem dd_Ar_readRecordHead_56 : decode (mm_Ar_readRecordHead).2.1 56 = .ok (.istore 4, 2) := by decide +kernel
theorem dd_Ar_readRecordHead_58 : decode (mm_Ar_readRecordHead).2.1 58 = .ok (.aload_n 0, 1) := by decide +kernel
theorem dd_Ar_readRecordHead_59 : decode (mm_Ar_readRecordHead).2.1 59 = .ok (.iload 4, 2) := by decide +kernel
theorem dd_Ar_readRecordHead_61 : decode (mm_Ar_readRecordHead).2.1 61 = .ok (.iload 4, 2) := by decide +kernel
theorem dd_Ar_readRecordHead_63 : decode (mm_Ar_readRecordHead).2.1 63 = .ok (.invokevirtual 82, 3) := by decide +kernel
theorem dd_Ar_readRecordHead_66 : decode (mm_Ar_readRecordHead).2.1 66 = .ok (.ireturn, 1) := by decide +kernel
theorem dd_Ar_readMethodAndName_0 : decode (mm_Ar_readMethodAndName).2.1 0 = .ok (.aload_n 1, 1) := by decide +kernel
theorem dd_Ar_readMethodAndName_1 : decode (mm_Ar_readMethodAndName).2.1 1 = .ok (.aload_n 0, 1) := by decide +kernel
theorem dd_Ar_readMethodAndName_2 : decode (mm_Ar_readMethodAndName).2.1 2 = .ok (.iconst 0, 1) := by decide +kernel
theorem dd_Ar_readMethodAndName_3 : decode (mm_Ar_readMethodAndName).2.1 3 = .ok (.iconst 2, 1) := by decide +kernel
theorem dd_Ar_readMethodAndName_4 : decode (mm_Ar_readMethodAndName).2.1 4 = .ok (.invokevirtual 82, 3) := by decide +kernel
theorem dd_Ar_readMethodAndName_7 : decode (mm_Ar_readMethodAndName).2.1 7 = .ok (.putfield 112, 3) := by decide +kernel
theorem dd_Ar_readMethodAndName_10 : decode (mm_Ar_readMethodAndName).2.1 10 = .ok (.aload_n 1, 1) := by decide +kernel
theorem dd_Ar_readMethodAndName_11 : decode (mm_Ar_readMethodAndName).2.1 11 = .ok (.getfield 112, 3) := by decide +kernel
theorem dd_Ar_readMethodAndName_14 : decode (mm_Ar_readMethodAndName).2.1 14 = .ok (.ifCond .ge 8, 3) := by decide +kernel
theorem dd_Ar_readMethodAndName_17 : decode (mm_Ar_readMethodAndName).2.1 17 = .ok (.aload_n 1, 1) := by decide +kernel
theorem dd_Ar_readMethodAndName_18 : decode (mm_Ar_readMethodAndName).2.1 18 = .ok (.getfield 112, 3) := by decide +kernel
theorem dd_Ar_readMethodAndName_21 : decode (mm_Ar_readMethodAndName).2.1 21 = .ok (.ireturn, 1) := by decide +kernel
theorem dd_Ar_readMethodAndName_22 : decode (mm_Ar_readMethodAndName).2.1 22 = .ok (.aload_n 0, 1) := by decide +kernel
theorem dd_Ar_readMethodAndName_23 : decode (mm_Ar_readMethodAndName).2.1 23 = .ok (.iconst 1, 1) := by decide +kernel
theorem dd_Ar_readMethodAndName_24 : decode (mm_Ar_readMethodAndName).2.1 24 = .ok (.bipush 8, 2) := by decide +kernel
theorem dd_Ar_readMethodAndName_26 : decode (mm_Ar_readMethodAndName).2.1 26 = .ok (.invokevirtual 82, 3) := by decide +kernel
theorem dd_Ar_readMethodAndName_29 : decode (mm_Ar_readMethodAndName).2.1 29 = .ok (.istore_n 2, 1) := by decide +kernel
theorem dd_Ar_readMethodAndName_30 : decode (mm_Ar_readMethodAndName).2.1 30 = .ok (.aload_n 1, 1) := by decide +kernel
theorem dd_Ar_readMethodAndName_31 : decode (mm_Ar_readMethodAndName).2.1 31 = .ok (.getfield 34, 3) := by decide +kernel
theorem dd_Ar_readMethodAndName_34 : decode (mm_Ar_readMethodAndName).2.1 34 = .ok (.iconst 0, 1) := by decide +kernel
theorem dd_Ar_readMethodAndName_35 : decode (mm_Ar_readMethodAndName).2.1 35 = .ok (.invokevirtual 115, 3) := by decide +kernel
theorem dd_Ar_readMethodAndName_38 : decode (mm_Ar_readMethodAndName).2.1 38 = .ok (.iconst 0, 1) := by decide +kernel
theorem dd_Ar_readMethodAndName_39 : decode (mm_Ar_readMethodAndName).2.1 39 = .ok (.istore_n 3, 1) := by decide +kernel
theorem dd_Ar_readMethodAndName_40 : decode (mm_Ar_readMethodAndName).2.1 40 = .ok (.iload_n 3, 1) := by decide +kernel
theorem dd_Ar_readMethodAndName_41 : decode (mm_Ar_readMethodAndName).2.1 41 = .ok (.iload_n 2, 1) := by decide +kernel
theorem dd_Ar_readMethodAndName_42 : decode (mm_Ar_readMethodAndName).2.1 42 = .ok (.if_icmp .ge 54, 3) := by decide +kernel
theorem dd_Ar_readMethodAndName_45 : decode (mm_Ar_readMethodAndName).2.1 45 = .ok (.aload_n 0, 1) := by decide +kernel
theorem dd_Ar_readMethodAndName_46 : decode (mm_Ar_readMethodAndName).2.1 46 = .ok (.invokevirtual 54, 3) := by decide +kernel
theorem dd_Ar_readMethodAndName_49 : decode (mm_Ar_readMethodAndName).2.1 49 = .ok (.istore 4, 2) := by decide +kernel
theorem dd_Ar_readMethodAndName_51 : decode (mm_Ar_readMethodAndName).2.1 51 = .ok (.iload 4, 2) := by decide +kernel
theorem dd_Ar_readMethodAndName_53 : decode (mm_Ar_readMethodAndName).2.1 53 = .ok (.ifCond .ge 6, 3) := by decide +kernel
theorem dd_Ar_readMethodAndName_56 : decode (mm_Ar_readMethodAndName).2.1 56 = .ok (.iload 4, 2) := by decide +kernel
theorem dd_Ar_readMethodAndName_58 : decode (mm_Ar_readMethodAndName).2.1 58 = .ok (.ireturn, 1) := by decide +kernel
theorem dd_Ar_readMethodAndName_59 : decode (mm_Ar_readMethodAndName).2.1 59 = .ok (.iload 4, 2) := by decide +kernel
theorem dd_Ar_readMethodAndName_61 : decode (mm_Ar_readMethodAndName).2.1 61 = .ok (.invokestatic 118, 3) := by decide +kernel
theorem dd_Ar_readMethodAndName_64 : decode (mm_Ar_readMethodAndName).2.1 64 = .ok (.ifCond .ne 16, 3) := by decide +kernel
theorem dd_Ar_readMethodAndName_67 : decode (mm_Ar_readMethodAndName).2.1 67 = .ok (.aload_n 0, 1) := by decide +kernel
theorem dd_Ar_readMethodAndName_68 : decode (mm_Ar_readMethodAndName).2.1 68 = .ok (.bipush (-4), 2) := by decide +kernel
theorem dd_Ar_readMethodAndName_70 : decode (mm_Ar_readMethodAndName).2.1 70 = .ok (.aload_n 0, 1) := by decide +kernel
theorem dd_Ar_readMethodAndName_71 : decode (mm_Ar_readMethodAndName).2.1 71 = .ok (.getfield 41, 3) := by decide +kernel
theorem dd_Ar_readMethodAndName_74 : decode (mm_Ar_readMethodAndName).2.1 74 = .ok (.iconst 1, 1) := by decide +kernel
theorem dd_Ar_readMethodAndName_75 : decode (mm_Ar_readMethodAndName).2.1 75 = .ok (.isub, 1) := by decide +kernel
theorem dd_Ar_readMethodAndName_76 : decode (mm_Ar_readMethodAndName).2.1 76 = .ok (.invokevirtual 58, 3) := by decide +kernel
theorem dd_Ar_readMethodAndName_79 : decode (mm_Ar_readMethodAndName).2.1 79 = .ok (.ireturn, 1) := by decide +kernel
theorem dd_Ar_readMethodAndName_80 : decode (mm_Ar_readMethodAndName).2.1 80 = .ok (.aload_n 1, 1) := by decide +kernel
theorem dd_Ar_readMethodAndName_81 : decode (mm_Ar_readMethodAndName).2.1 81 = .ok (.getfield 34, 3) := by decide +kernel
theorem dd_Ar_readMethodAndName_84 : decode (mm_Ar_readMethodAndName).2.1 84 = .ok (.iload 4, 2) := by decide +kernel
theorem dd_Ar_readMethodAndName_86 : decode (mm_Ar_readMethodAndName).2.1 86 = .ok (.invokevirtual 122, 3) := by decide +kernel
theorem dd_Ar_readMethodAndName_89 : decode (mm_Ar_readMethodAndName).2.1 89 = .ok (.pop, 1) := by decide +kernel
theorem dd_Ar_readMethodAndName_90 : decode (mm_Ar_readMethodAndName).2.1 90 = .ok (.iinc 3 1, 3) := by decide +kernel
theorem dd_Ar_readMethodAndName_93 : decode (mm_Ar_readMethodAndName).2.1 93 = .ok (.goto (-53), 3) := by decide +kernel
theorem dd_Ar_readMethodAndName_96 : decode (mm_Ar_readMethodAndName).2.1 96 = .ok (.iload_n 2, 1) := by decide +kernel
theorem dd_Ar_readMethodAndName_97 : decode (mm_Ar_readMethodAndName).2.1 97 = .ok (.ireturn, 1) := by decide +kernel
theorem dd_Ar_readBetween_0 : decode (mm_Ar_readBetween).2.1 0 = .ok (.aload_n 0, 1) := by decide +kernel
theorem dd_Ar_readBetween_1 : decode (mm_Ar_readBetween).2.1 1 = .ok (.invokevirtual 54, 3) := by decide +kernel
theorem dd_Ar_readBetween_4 : decode (mm_Ar_readBetween).2.1 4 = .ok (.istore_n 3, 1) := by decide +kernel
theorem dd_Ar_readBetween_5 : decode (mm_Ar_readBetween).2.1 5 = .ok (.iload_n 3, 1) := by decide +kernel
theorem dd_Ar_readBetween_6 : decode (mm_Ar_readBetween).2.1 6 = .ok (.ifCond .lt 26, 3) := by decide +kernel
theorem dd_Ar_readBetween_9 : decode (mm_Ar_readBetween).2.1 9 = .ok (.iload_n 3, 1) := by decide +kernel
theorem dd_Ar_readBetween_10 : decode (mm_Ar_readBetween).2.1 10 = .ok (.iload_n 1, 1) := by decide +kernel
theorem dd_Ar_readBetween_11 : decode (mm_Ar_readBetween).2.1 11 = .ok (.if_icmp .lt 8, 3) := by decide +kernel
theorem dd_Ar_readBetween_14 : decode (mm_Ar_readBetween).2.1 14 = .ok (.iload_n 3, 1) := by decide +kernel
theorem dd_Ar_readBetween_15 : decode (mm_Ar_readBetween).2.1 15 = .ok (.iload_n 2, 1) := by decide +kernel
theorem dd_Ar_readBetween_16 : decode (mm_Ar_readBetween).2.1 16 = .ok (.if_icmp .le 16, 3) := by decide +kernel
theorem dd_Ar_readBetween_19 : decode (mm_Ar_readBetween).2.1 19 = .ok (.aload_n 0, 1) := by decide +kernel
theorem dd_Ar_readBetween_20 : decode (mm_Ar_readBetween).2.1 20 = .ok (.bipush (-4), 2) := by decide +kernel
theorem dd_Ar_readBetween_22 : decode (mm_Ar_readBetween).2.1 22 = .ok (.aload_n 0, 1) := by decide +kernel
theorem dd_Ar_readBetween_23 : decode (mm_Ar_readBetween).2.1 23 = .ok (.getfield 41, 3) := by decide +kernel
theorem dd_Ar_readBetween_26 : decode (mm_Ar_readBetween).2.1 26 = .ok (.iconst 1, 1) := by decide +kernel
theorem dd_Ar_readBetween_27 : decode (mm_Ar_readBetween).2.1 27 = .ok (.isub, 1) := by decide +kernel
theorem dd_Ar_readBetween_28 : decode (mm_Ar_readBetween).2.1 28 = .ok (.invokevirtual 58, 3) := by decide +kernel
theorem dd_Ar_readBetween_31 : decode (mm_Ar_readBetween).2.1 31 = .ok (.ireturn, 1) := by decide +kernel
theorem dd_Ar_readBetween_32 : decode (mm_Ar_readBetween).2.1 32 = .ok (.iload_n 3, 1) := by decide +kernel
theorem dd_Ar_readBetween_33 : decode (mm_Ar_readBetween).2.1 33 = .ok (.ireturn, 1) := by decide +kernel
theorem dd_Ar_readLengthAndCheck_0 : decode (mm_Ar_readLengthAndCheck).2.1 0 = .ok (.aload_n 1, 1) := by decide +kernel
theorem dd_Ar_readLengthAndCheck_1 : decode (mm_Ar_readLengthAndCheck).2.1 1 = .ok (.aload_n 0, 1) := by decide +kernel
theorem dd_Ar_readLengthAndCheck_2 : decode (mm_Ar_readLengthAndCheck).2.1 2 = .ok (.iconst 0, 1) := by decide +kernel
theorem dd_Ar_readLengthAndCheck_3 : decode (mm_Ar_readLengthAndCheck).2.1 3 = .ok (.bipush 60, 2) := by decide +kernel
theorem dd_Ar_readLengthAndCheck_5 : decode (mm_Ar_readLengthAndCheck).2.1 5 = .ok (.invokevirtual 82, 3) := by decide +kernel
theorem dd_Ar_readLengthAndCheck_8 : decode (mm_Ar_readLengthAndCheck).2.1 8 = .ok (.putfield 125, 3) := by decide +kernel
theorem dd_Ar_readLengthAndCheck_11 : decode (mm_Ar_readLengthAndCheck).2.1 11 = .ok (.aload_n 1, 1) := by decide +kernel
theorem dd_Ar_readLengthAndCheck_12 : decode (mm_Ar_readLengthAndCheck).2.1 12 = .ok (.getfield 125, 3) := by decide +kernel
theorem dd_Ar_readLengthAndCheck_15 : decode (mm_Ar_readLengthAndCheck).2.1 15 = .ok (.ifCond .ge 8, 3) := by decide +kernel
theorem dd_Ar_readLengthAndCheck_18 : decode (mm_Ar_readLengthAndCheck).2.1 18 = .ok (.aload_n 1, 1) := by decide +kernel
theorem dd_Ar_readLengthAndCheck_19 : decode (mm_Ar_readLengthAndCheck).2.1 19 = .ok (.getfield 125, 3) := by decide +kernel
theorem dd_Ar_readLengthAndCheck_22 : decode (mm_Ar_readLengthAndCheck).2.1 22 = .ok (.ireturn, 1) := by decide +kernel
theorem dd_Ar_readLengthAndCheck_23 : decode (mm_Ar_readLengthAndCheck).2.1 23 = .ok (.aload_n 1, 1) := by decide +kernel
theorem dd_Ar_readLengthAndCheck_24 : decode (mm_Ar_readLengthAndCheck).2.1 24 = .ok (.aload_n 0, 1) := by decide +kernel
theorem dd_Ar_readLengthAndCheck_25 : decode (mm_Ar_readLengthAndCheck).2.1 25 = .ok (.invokevirtual 109, 3) := by decide +kernel
theorem dd_Ar_readLengthAndCheck_28 : decode (mm_Ar_readLengthAndCheck).2.1 28 = .ok (.putfield 126, 3) := by decide +kernel
theorem dd_Ar_readLengthAndCheck_31 : decode (mm_Ar_readLengthAndCheck).2.1 31 = .ok (.aload_n 1, 1) := by decide +kernel
theorem dd_Ar_readLengthAndCheck_32 : decode (mm_Ar_readLengthAndCheck).2.1 32 = .ok (.getfield 126, 3) := by decide +kernel
theorem dd_Ar_readLengthAndCheck_35 : decode (mm_Ar_readLengthAndCheck).2.1 35 = .ok (.ireturn, 1) := by decide +kernel
theorem dd_Ar_readNumber_0 : decode (mm_Ar_readNumber).2.1 0 = .ok (.aload_n 0, 1) := by decide +kernel
theorem dd_Ar_readNumber_1 : decode (mm_Ar_readNumber).2.1 1 = .ok (.invokevirtual 54, 3) := by decide +kernel
theorem dd_Ar_readNumber_4 : decode (mm_Ar_readNumber).2.1 4 = .ok (.istore_n 1, 1) := by decide +kernel
theorem dd_Ar_readNumber_5 : decode (mm_Ar_readNumber).2.1 5 = .ok (.iload_n 1, 1) := by decide +kernel
theorem dd_Ar_readNumber_6 : decode (mm_Ar_readNumber).2.1 6 = .ok (.ifCond .ge 5, 3) := by decide +kernel
theorem dd_Ar_readNumber_9 : decode (mm_Ar_readNumber).2.1 9 = .ok (.iload_n 1, 1) := by decide +kernel
theorem dd_Ar_readNumber_10 : decode (mm_Ar_readNumber).2.1 10 = .ok (.ireturn, 1) := by decide +kernel
theorem dd_Ar_readNumber_11 : decode (mm_Ar_readNumber).2.1 11 = .ok (.aload_n 0, 1) := by decide +kernel
theorem dd_Ar_readNumber_12 : decode (mm_Ar_readNumber).2.1 12 = .ok (.invokevirtual 54, 3) := by decide +kernel
theorem dd_Ar_readNumber_15 : decode (mm_Ar_readNumber).2.1 15 = .ok (.istore_n 2, 1) := by decide +kernel
theorem dd_Ar_readNumber_16 : decode (mm_Ar_readNumber).2.1 16 = .ok (.iload_n 2, 1) := by decide +kernel
theorem dd_Ar_readNumber_17 : decode (mm_Ar_readNumber).2.1 17 = .ok (.ifCond .ge 7, 3) := by decide +kernel
theorem dd_Ar_readNumber_20 : decode (mm_Ar_readNumber).2.1 20 = .ok (.iload_n 2, 1) := by decide +kernel
theorem dd_Ar_readNumber_21 : decode (mm_Ar_readNumber).2.1 21 = .ok (.goto 10, 3) := by decide +kernel
theorem dd_Ar_readNumber_24 : decode (mm_Ar_readNumber).2.1 24 = .ok (.iload_n 1, 1) := by decide +kernel
theorem dd_Ar_readNumber_25 : decode (mm_Ar_readNumber).2.1 25 = .ok (.sipush 256, 3) := by decide +kernel
theorem dd_Ar_readNumber_28 : decode (mm_Ar_readNumber).2.1 28 = .ok (.imul, 1) := by decide +kernel
theorem dd_Ar_readNumber_29 : decode (mm_Ar_readNumber).2.1 29 = .ok (.iload_n 2, 1) := by decide +kernel
theorem dd_Ar_readNumber_30 : decode (mm_Ar_readNumber).2.1 30 = .ok (.iadd, 1) := by decide +kernel
theorem dd_Ar_readNumber_31 : decode (mm_Ar_readNumber).2.1 31 = .ok (.ireturn, 1) := by decide +kernel
theorem dd_Ar_passSqueezed_0 : decode (mm_Ar_passSqueezed).2.1 0 = .ok (.aload_n 1, 1) := by decide +kernel
theorem dd_Ar_passSqueezed_1 : decode (mm_Ar_passSqueezed).2.1 1 = .ok (.aload_n 0, 1) := by decide +kernel
theorem dd_Ar_passSqueezed_2 : decode (mm_Ar_passSqueezed).2.1 2 = .ok (.getfield 41, 3) := by decide +kernel
theorem dd_Ar_passSqueezed_5 : decode (mm_Ar_passSqueezed).2.1 5 = .ok (.putfield 85, 3) := by decide +kernel
theorem dd_Ar_passSqueezed_8 : decode (mm_Ar_passSqueezed).2.1 8 = .ok (.aload_n 0, 1) := by decide +kernel
theorem dd_Ar_passSqueezed_9 : decode (mm_Ar_passSqueezed).2.1 9 = .ok (.getfield 41, 3) := by decide +kernel
theorem dd_Ar_passSqueezed_12 : decode (mm_Ar_passSqueezed).2.1 12 = .ok (.aload_n 1, 1) := by decide +kernel
theorem dd_Ar_passSqueezed_13 : decode (mm_Ar_passSqueezed).2.1 13 = .ok (.getfield 73, 3) := by decide +kernel
theorem dd_Ar_passSqueezed_16 : decode (mm_Ar_passSqueezed).2.1 16 = .ok (.iadd, 1) := by decide +kernel
theorem dd_Ar_passSqueezed_17 : decode (mm_Ar_passSqueezed).2.1 17 = .ok (.istore_n 2, 1) := by decide +kernel
theorem dd_Ar_passSqueezed_18 : decode (mm_Ar_passSqueezed).2.1 18 = .ok (.iload_n 2, 1) := by decide +kernel
theorem dd_Ar_passSqueezed_19 : decode (mm_Ar_passSqueezed).2.1 19 = .ok (.iload_n 2, 1) := by decide +kernel
theorem dd_Ar_passSqueezed_20 : decode (mm_Ar_passSqueezed).2.1 20 = .ok (.invokestatic 88, 3) := by decide +kernel
theorem dd_Ar_passSqueezed_23 : decode (mm_Ar_passSqueezed).2.1 23 = .ok (.iadd, 1) := by decide +kernel
theorem dd_Ar_passSqueezed_24 : decode (mm_Ar_passSqueezed).2.1 24 = .ok (.istore_n 3, 1) := by decide +kernel
theorem dd_Ar_passSqueezed_25 : decode (mm_Ar_passSqueezed).2.1 25 = .ok (.iload_n 3, 1) := by decide +kernel
theorem dd_Ar_passSqueezed_26 : decode (mm_Ar_passSqueezed).2.1 26 = .ok (.aload_n 0, 1) := by decide +kernel
theorem dd_Ar_passSqueezed_27 : decode (mm_Ar_passSqueezed).2.1 27 = .ok (.getfield 44, 3) := by decide +kernel
theorem dd_Ar_passSqueezed_30 : decode (mm_Ar_passSqueezed).2.1 30 = .ok (.if_icmp .le 14, 3) := by decide +kernel
theorem dd_Ar_passSqueezed_33 : decode (mm_Ar_passSqueezed).2.1 33 = .ok (.aload_n 0, 1) := by decide +kernel
theorem dd_Ar_passSqueezed_34 : decode (mm_Ar_passSqueezed).2.1 34 = .ok (.bipush (-3), 2) := by decide +kernel
theorem dd_Ar_passSqueezed_36 : decode (mm_Ar_passSqueezed).2.1 36 = .ok (.aload_n 0, 1) := by decide +kernel
theorem dd_Ar_passSqueezed_37 : decode (mm_Ar_passSqueezed).2.1 37 = .ok (.getfield 44, 3) := by decide +kernel
theorem dd_Ar_passSqueezed_40 : decode (mm_Ar_passSqueezed).2.1 40 = .ok (.invokevirtual 58, 3) := by decide +kernel
theorem dd_Ar_passSqueezed_43 : decode (mm_Ar_passSqueezed).2.1 43 = .ok (.ireturn, 1) := by decide +kernel
theorem dd_Ar_passSqueezed_44 : decode (mm_Ar_passSqueezed).2.1 44 = .ok (.iload_n 2, 1) := by decide +kernel
theorem dd_Ar_passSqueezed_45 : decode (mm_Ar_passSqueezed).2.1 45 = .ok (.istore 4, 2) := by decide +kernel
theorem dd_Ar_passSqueezed_47 : decode (mm_Ar_passSqueezed).2.1 47 = .ok (.iload 4, 2) := by decide +kernel
theorem dd_Ar_passSqueezed_49 : decode (mm_Ar_passSqueezed).2.1 49 = .ok (.iload_n 3, 1) := by decide +kernel
theorem dd_Ar_passSqueezed_50 : decode (mm_Ar_passSqueezed).2.1 50 = .ok (.if_icmp .ge 30, 3) := by decide +kernel
theorem dd_Ar_passSqueezed_53 : decode (mm_Ar_passSqueezed).2.1 53 = .ok (.aload_n 0, 1) := by decide +kernel
theorem dd_Ar_passSqueezed_54 : decode (mm_Ar_passSqueezed).2.1 54 = .ok (.getfield 14, 3) := by decide +kernel
theorem dd_Ar_passSqueezed_57 : decode (mm_Ar_passSqueezed).2.1 57 = .ok (.iload 4, 2) := by decide +kernel
theorem dd_Ar_passSqueezed_59 : decode (mm_Ar_passSqueezed).2.1 59 = .ok (.invokevirtual 94, 3) := by decide +kernel
theorem dd_Ar_passSqueezed_62 : decode (mm_Ar_passSqueezed).2.1 62 = .ok (.ifCond .eq 12, 3) := by decide +kernel
theorem dd_Ar_passSqueezed_65 : decode (mm_Ar_passSqueezed).2.1 65 = .ok (.aload_n 0, 1) := by decide +kernel
theorem dd_Ar_passSqueezed_66 : decode (mm_Ar_passSqueezed).2.1 66 = .ok (.bipush (-4), 2) := by decide +kernel
theorem dd_Ar_passSqueezed_68 : decode (mm_Ar_passSqueezed).2.1 68 = .ok (.iload 4, 2) := by decide +kernel
theorem dd_Ar_passSqueezed_70 : decode (mm_Ar_passSqueezed).2.1 70 = .ok (.invokevirtual 58, 3) := by decide +kernel
theorem dd_Ar_passSqueezed_73 : decode (mm_Ar_passSqueezed).2.1 73 = .ok (.ireturn, 1) := by decide +kernel
theorem dd_Ar_passSqueezed_74 : decode (mm_Ar_passSqueezed).2.1 74 = .ok (.iinc 4 1, 3) := by decide +kernel
theorem dd_Ar_passSqueezed_77 : decode (mm_Ar_passSqueezed).2.1 77 = .ok (.goto (-30), 3) := by decide +kernel
theorem dd_Ar_passSqueezed_80 : decode (mm_Ar_passSqueezed).2.1 80 = .ok (.aload_n 0, 1) := by decide +kernel
theorem dd_Ar_passSqueezed_81 : decode (mm_Ar_passSqueezed).2.1 81 = .ok (.iload_n 3, 1) := by decide +kernel
theorem dd_Ar_passSqueezed_82 : decode (mm_Ar_passSqueezed).2.1 82 = .ok (.putfield 41, 3) := by decide +kernel
theorem dd_Ar_passSqueezed_85 : decode (mm_Ar_passSqueezed).2.1 85 = .ok (.iconst 0, 1) := by decide +kernel
theorem dd_Ar_passSqueezed_86 : decode (mm_Ar_passSqueezed).2.1 86 = .ok (.ireturn, 1) := by decide +kernel
theorem dd_Ar_openIndex_0 : decode (mm_Ar_openIndex).2.1 0 = .ok (.aload_n 0, 1) := by decide +kernel
theorem dd_Ar_openIndex_1 : decode (mm_Ar_openIndex).2.1 1 = .ok (.getfield 14, 3) := by decide +kernel
theorem dd_Ar_openIndex_4 : decode (mm_Ar_openIndex).2.1 4 = .ok (.getfield 47, 3) := by decide +kernel
theorem dd_Ar_openIndex_7 : decode (mm_Ar_openIndex).2.1 7 = .ok (.bipush 6, 2) := by decide +kernel
theorem dd_Ar_openIndex_9 : decode (mm_Ar_openIndex).2.1 9 = .ok (.isub, 1) := by decide +kernel
theorem dd_Ar_openIndex_10 : decode (mm_Ar_openIndex).2.1 10 = .ok (.istore_n 1, 1) := by decide +kernel
theorem dd_Ar_openIndex_11 : decode (mm_Ar_openIndex).2.1 11 = .ok (.aload_n 0, 1) := by decide +kernel
theorem dd_Ar_openIndex_12 : decode (mm_Ar_openIndex).2.1 12 = .ok (.iload_n 1, 1) := by decide +kernel
theorem dd_Ar_openIndex_13 : decode (mm_Ar_openIndex).2.1 13 = .ok (.invokevirtual 97, 3) := by decide +kernel
theorem dd_Ar_openIndex_16 : decode (mm_Ar_openIndex).2.1 16 = .ok (.istore_n 2, 1) := by decide +kernel
theorem dd_Ar_openIndex_17 : decode (mm_Ar_openIndex).2.1 17 = .ok (.iload_n 2, 1) := by decide +kernel
theorem dd_Ar_openIndex_18 : decode (mm_Ar_openIndex).2.1 18 = .ok (.ifCond .ge 5, 3) := by decide +kernel
theorem dd_Ar_openIndex_21 : decode (mm_Ar_openIndex).2.1 21 = .ok (.iload_n 2, 1) := by decide +kernel
theorem dd_Ar_openIndex_22 : decode (mm_Ar_openIndex).2.1 22 = .ok (.ireturn, 1) := by decide +kernel
theorem dd_Ar_openIndex_23 : decode (mm_Ar_openIndex).2.1 23 = .ok (.aload_n 0, 1) := by decide +kernel
theorem dd_Ar_openIndex_24 : decode (mm_Ar_openIndex).2.1 24 = .ok (.getfield 14, 3) := by decide +kernel
theorem dd_Ar_openIndex_27 : decode (mm_Ar_openIndex).2.1 27 = .ok (.iload_n 1, 1) := by decide +kernel
theorem dd_Ar_openIndex_28 : decode (mm_Ar_openIndex).2.1 28 = .ok (.iconst 1, 1) := by decide +kernel
theorem dd_Ar_openIndex_29 : decode (mm_Ar_openIndex).2.1 29 = .ok (.iadd, 1) := by decide +kernel
theorem dd_Ar_openIndex_30 : decode (mm_Ar_openIndex).2.1 30 = .ok (.invokevirtual 94, 3) := by decide +kernel
theorem dd_Ar_openIndex_33 : decode (mm_Ar_openIndex).2.1 33 = .ok (.istore_n 3, 1) := by decide +kernel
end
section
theorem dd_Ar_openIndex_34 : decode (mm_Ar_openIndex).2.1 34 = .ok (.aload_n 0, 1) := by decide +kernel
theorem dd_Ar_openIndex_35 : decode (mm_Ar_openIndex).2.1 35 = .ok (.getfield 14, 3) := by decide +kernel
theorem dd_Ar_openIndex_38 : decode (mm_Ar_openIndex).2.1 38 = .ok (.iload_n 1, 1) := by decide +kernel
theorem dd_Ar_openIndex_39 : decode (mm_Ar_openIndex).2.1 39 = .ok (.iconst 2, 1) := by decide +kernel
theorem dd_Ar_openIndex_40 : decode (mm_Ar_openIndex).2.1 40 = .ok (.iadd, 1) := by decide +kernel
theorem dd_Ar_openIndex_41 : decode (mm_Ar_openIndex).2.1 41 = .ok (.invokevirtual 100, 3) := by decide +kernel
theorem dd_Ar_openIndex_44 : decode (mm_Ar_openIndex).2.1 44 = .ok (.istore 4, 2) := by decide +kernel
theorem dd_Ar_openIndex_46 : decode (mm_Ar_openIndex).2.1 46 = .ok (.aload_n 0, 1) := by decide +kernel
theorem dd_Ar_openIndex_47 : decode (mm_Ar_openIndex).2.1 47 = .ok (.iload 4, 2) := by decide +kernel
theorem dd_Ar_openIndex_49 : decode (mm_Ar_openIndex).2.1 49 = .ok (.iload_n 1, 1) := by decide +kernel
theorem dd_Ar_openIndex_50 : decode (mm_Ar_openIndex).2.1 50 = .ok (.invokevirtual 50, 3) := by decide +kernel
theorem dd_Ar_openIndex_53 : decode (mm_Ar_openIndex).2.1 53 = .ok (.iconst 0, 1) := by decide +kernel
theorem dd_Ar_openIndex_54 : decode (mm_Ar_openIndex).2.1 54 = .ok (.istore 5, 2) := by decide +kernel
theorem dd_Ar_openIndex_56 : decode (mm_Ar_openIndex).2.1 56 = .ok (.iload 5, 2) := by decide +kernel
theorem dd_Ar_openIndex_58 : decode (mm_Ar_openIndex).2.1 58 = .ok (.iload_n 3, 1) := by decide +kernel
theorem dd_Ar_openIndex_59 : decode (mm_Ar_openIndex).2.1 59 = .ok (.if_icmp .ge 46, 3) := by decide +kernel
theorem dd_Ar_openIndex_62 : decode (mm_Ar_openIndex).2.1 62 = .ok (.iload 5, 2) := by decide +kernel
theorem dd_Ar_openIndex_64 : decode (mm_Ar_openIndex).2.1 64 = .ok (.bipush 6, 2) := by decide +kernel
theorem dd_Ar_openIndex_66 : decode (mm_Ar_openIndex).2.1 66 = .ok (.if_icmp .ge 39, 3) := by decide +kernel
theorem dd_Ar_openIndex_69 : decode (mm_Ar_openIndex).2.1 69 = .ok (.aload_n 0, 1) := by decide +kernel
theorem dd_Ar_openIndex_70 : decode (mm_Ar_openIndex).2.1 70 = .ok (.aload_n 0, 1) := by decide +kernel
theorem dd_Ar_openIndex_71 : decode (mm_Ar_openIndex).2.1 71 = .ok (.getfield 22, 3) := by decide +kernel
theorem dd_Ar_openIndex_74 : decode (mm_Ar_openIndex).2.1 74 = .ok (.iload 5, 2) := by decide +kernel
theorem dd_Ar_openIndex_76 : decode (mm_Ar_openIndex).2.1 76 = .ok (.aaload, 1) := by decide +kernel
theorem dd_Ar_openIndex_77 : decode (mm_Ar_openIndex).2.1 77 = .ok (.iload 4, 2) := by decide +kernel
theorem dd_Ar_openIndex_79 : decode (mm_Ar_openIndex).2.1 79 = .ok (.invokevirtual 103, 3) := by decide +kernel
theorem dd_Ar_openIndex_82 : decode (mm_Ar_openIndex).2.1 82 = .ok (.istore_n 2, 1) := by decide +kernel
theorem dd_Ar_openIndex_83 : decode (mm_Ar_openIndex).2.1 83 = .ok (.iload_n 2, 1) := by decide +kernel
theorem dd_Ar_openIndex_84 : decode (mm_Ar_openIndex).2.1 84 = .ok (.ifCond .ge 5, 3) := by decide +kernel
theorem dd_Ar_openIndex_87 : decode (mm_Ar_openIndex).2.1 87 = .ok (.iload_n 2, 1) := by decide +kernel
theorem dd_Ar_openIndex_88 : decode (mm_Ar_openIndex).2.1 88 = .ok (.ireturn, 1) := by decide +kernel
theorem dd_Ar_openIndex_89 : decode (mm_Ar_openIndex).2.1 89 = .ok (.aload_n 0, 1) := by decide +kernel
theorem dd_Ar_openIndex_90 : decode (mm_Ar_openIndex).2.1 90 = .ok (.dup, 1) := by decide +kernel
theorem dd_Ar_openIndex_91 : decode (mm_Ar_openIndex).2.1 91 = .ok (.getfield 27, 3) := by decide +kernel
theorem dd_Ar_openIndex_94 : decode (mm_Ar_openIndex).2.1 94 = .ok (.iconst 1, 1) := by decide +kernel
theorem dd_Ar_openIndex_95 : decode (mm_Ar_openIndex).2.1 95 = .ok (.iadd, 1) := by decide +kernel
theorem dd_Ar_openIndex_96 : decode (mm_Ar_openIndex).2.1 96 = .ok (.putfield 27, 3) := by decide +kernel
theorem dd_Ar_openIndex_99 : decode (mm_Ar_openIndex).2.1 99 = .ok (.iinc 5 1, 3) := by decide +kernel
theorem dd_Ar_openIndex_102 : decode (mm_Ar_openIndex).2.1 102 = .ok (.goto (-46), 3) := by decide +kernel
theorem dd_Ar_openIndex_105 : decode (mm_Ar_openIndex).2.1 105 = .ok (.aload_n 0, 1) := by decide +kernel
theorem dd_Ar_openIndex_106 : decode (mm_Ar_openIndex).2.1 106 = .ok (.getfield 41, 3) := by decide +kernel
theorem dd_Ar_openIndex_109 : decode (mm_Ar_openIndex).2.1 109 = .ok (.iload_n 1, 1) := by decide +kernel
theorem dd_Ar_openIndex_110 : decode (mm_Ar_openIndex).2.1 110 = .ok (.if_icmp .ge 16, 3) := by decide +kernel
theorem dd_Ar_openIndex_113 : decode (mm_Ar_openIndex).2.1 113 = .ok (.aload_n 0, 1) := by decide +kernel
theorem dd_Ar_openIndex_114 : decode (mm_Ar_openIndex).2.1 114 = .ok (.bipush (-4), 2) := by decide +kernel
theorem dd_Ar_openIndex_116 : decode (mm_Ar_openIndex).2.1 116 = .ok (.aload_n 0, 1) := by decide +kernel
theorem dd_Ar_openIndex_117 : decode (mm_Ar_openIndex).2.1 117 = .ok (.getfield 41, 3) := by decide +kernel
theorem dd_Ar_openIndex_120 : decode (mm_Ar_openIndex).2.1 120 = .ok (.invokevirtual 58, 3) := by decide +kernel
theorem dd_Ar_openIndex_123 : decode (mm_Ar_openIndex).2.1 123 = .ok (.goto 7, 3) := by decide +kernel
theorem dd_Ar_openIndex_126 : decode (mm_Ar_openIndex).2.1 126 = .ok (.aload_n 0, 1) := by decide +kernel
theorem dd_Ar_openIndex_127 : decode (mm_Ar_openIndex).2.1 127 = .ok (.getfield 27, 3) := by decide +kernel
theorem dd_Ar_openIndex_130 : decode (mm_Ar_openIndex).2.1 130 = .ok (.ireturn, 1) := by decide +kernel
theorem dd_Ar_testTail_0 : decode (mm_Ar_testTail).2.1 0 = .ok (.iload_n 1, 1) := by decide +kernel
theorem dd_Ar_testTail_1 : decode (mm_Ar_testTail).2.1 1 = .ok (.iconst 1, 1) := by decide +kernel
theorem dd_Ar_testTail_2 : decode (mm_Ar_testTail).2.1 2 = .ok (.if_icmp .ge 17, 3) := by decide +kernel
theorem dd_Ar_testTail_5 : decode (mm_Ar_testTail).2.1 5 = .ok (.aload_n 0, 1) := by decide +kernel
theorem dd_Ar_testTail_6 : decode (mm_Ar_testTail).2.1 6 = .ok (.bipush (-3), 2) := by decide +kernel
theorem dd_Ar_testTail_8 : decode (mm_Ar_testTail).2.1 8 = .ok (.aload_n 0, 1) := by decide +kernel
theorem dd_Ar_testTail_9 : decode (mm_Ar_testTail).2.1 9 = .ok (.getfield 14, 3) := by decide +kernel
theorem dd_Ar_testTail_12 : decode (mm_Ar_testTail).2.1 12 = .ok (.getfield 47, 3) := by decide +kernel
theorem dd_Ar_testTail_15 : decode (mm_Ar_testTail).2.1 15 = .ok (.invokevirtual 58, 3) := by decide +kernel
theorem dd_Ar_testTail_18 : decode (mm_Ar_testTail).2.1 18 = .ok (.ireturn, 1) := by decide +kernel
theorem dd_Ar_testTail_19 : decode (mm_Ar_testTail).2.1 19 = .ok (.aload_n 0, 1) := by decide +kernel
theorem dd_Ar_testTail_20 : decode (mm_Ar_testTail).2.1 20 = .ok (.getfield 14, 3) := by decide +kernel
theorem dd_Ar_testTail_23 : decode (mm_Ar_testTail).2.1 23 = .ok (.iload_n 1, 1) := by decide +kernel
theorem dd_Ar_testTail_24 : decode (mm_Ar_testTail).2.1 24 = .ok (.invokevirtual 94, 3) := by decide +kernel
theorem dd_Ar_testTail_27 : decode (mm_Ar_testTail).2.1 27 = .ok (.bipush 88, 2) := by decide +kernel
theorem dd_Ar_testTail_29 : decode (mm_Ar_testTail).2.1 29 = .ok (.if_icmp .eq 11, 3) := by decide +kernel
theorem dd_Ar_testTail_32 : decode (mm_Ar_testTail).2.1 32 = .ok (.aload_n 0, 1) := by decide +kernel
theorem dd_Ar_testTail_33 : decode (mm_Ar_testTail).2.1 33 = .ok (.bipush (-4), 2) := by decide +kernel
theorem dd_Ar_testTail_35 : decode (mm_Ar_testTail).2.1 35 = .ok (.iload_n 1, 1) := by decide +kernel
theorem dd_Ar_testTail_36 : decode (mm_Ar_testTail).2.1 36 = .ok (.invokevirtual 58, 3) := by decide +kernel
theorem dd_Ar_testTail_39 : decode (mm_Ar_testTail).2.1 39 = .ok (.ireturn, 1) := by decide +kernel
theorem dd_Ar_testTail_40 : decode (mm_Ar_testTail).2.1 40 = .ok (.aload_n 0, 1) := by decide +kernel
theorem dd_Ar_testTail_41 : decode (mm_Ar_testTail).2.1 41 = .ok (.getfield 14, 3) := by decide +kernel
theorem dd_Ar_testTail_44 : decode (mm_Ar_testTail).2.1 44 = .ok (.iload_n 1, 1) := by decide +kernel
theorem dd_Ar_testTail_45 : decode (mm_Ar_testTail).2.1 45 = .ok (.iconst 1, 1) := by decide +kernel
theorem dd_Ar_testTail_46 : decode (mm_Ar_testTail).2.1 46 = .ok (.iadd, 1) := by decide +kernel
theorem dd_Ar_testTail_47 : decode (mm_Ar_testTail).2.1 47 = .ok (.invokevirtual 94, 3) := by decide +kernel
theorem dd_Ar_testTail_50 : decode (mm_Ar_testTail).2.1 50 = .ok (.bipush 6, 2) := by decide +kernel
theorem dd_Ar_testTail_52 : decode (mm_Ar_testTail).2.1 52 = .ok (.if_icmp .le 13, 3) := by decide +kernel
theorem dd_Ar_testTail_55 : decode (mm_Ar_testTail).2.1 55 = .ok (.aload_n 0, 1) := by decide +kernel
theorem dd_Ar_testTail_56 : decode (mm_Ar_testTail).2.1 56 = .ok (.bipush (-4), 2) := by decide +kernel
theorem dd_Ar_testTail_58 : decode (mm_Ar_testTail).2.1 58 = .ok (.iload_n 1, 1) := by decide +kernel
theorem dd_Ar_testTail_59 : decode (mm_Ar_testTail).2.1 59 = .ok (.iconst 1, 1) := by decide +kernel
theorem dd_Ar_testTail_60 : decode (mm_Ar_testTail).2.1 60 = .ok (.iadd, 1) := by decide +kernel
theorem dd_Ar_testTail_61 : decode (mm_Ar_testTail).2.1 61 = .ok (.invokevirtual 58, 3) := by decide +kernel
theorem dd_Ar_testTail_64 : decode (mm_Ar_testTail).2.1 64 = .ok (.ireturn, 1) := by decide +kernel
theorem dd_Ar_testTail_65 : decode (mm_Ar_testTail).2.1 65 = .ok (.aload_n 0, 1) := by decide +kernel
theorem dd_Ar_testTail_66 : decode (mm_Ar_testTail).2.1 66 = .ok (.getfield 14, 3) := by decide +kernel
theorem dd_Ar_testTail_69 : decode (mm_Ar_testTail).2.1 69 = .ok (.iload_n 1, 1) := by decide +kernel
theorem dd_Ar_testTail_70 : decode (mm_Ar_testTail).2.1 70 = .ok (.iconst 2, 1) := by decide +kernel
theorem dd_Ar_testTail_71 : decode (mm_Ar_testTail).2.1 71 = .ok (.iadd, 1) := by decide +kernel
theorem dd_Ar_testTail_72 : decode (mm_Ar_testTail).2.1 72 = .ok (.invokevirtual 100, 3) := by decide +kernel
theorem dd_Ar_testTail_75 : decode (mm_Ar_testTail).2.1 75 = .ok (.istore_n 2, 1) := by decide +kernel
theorem dd_Ar_testTail_76 : decode (mm_Ar_testTail).2.1 76 = .ok (.iload_n 2, 1) := by decide +kernel
theorem dd_Ar_testTail_77 : decode (mm_Ar_testTail).2.1 77 = .ok (.iconst 1, 1) := by decide +kernel
theorem dd_Ar_testTail_78 : decode (mm_Ar_testTail).2.1 78 = .ok (.if_icmp .lt 8, 3) := by decide +kernel
theorem dd_Ar_testTail_81 : decode (mm_Ar_testTail).2.1 81 = .ok (.iload_n 2, 1) := by decide +kernel
theorem dd_Ar_testTail_82 : decode (mm_Ar_testTail).2.1 82 = .ok (.iload_n 1, 1) := by decide +kernel
theorem dd_Ar_testTail_83 : decode (mm_Ar_testTail).2.1 83 = .ok (.if_icmp .le 13, 3) := by decide +kernel
theorem dd_Ar_testTail_86 : decode (mm_Ar_testTail).2.1 86 = .ok (.aload_n 0, 1) := by decide +kernel
theorem dd_Ar_testTail_87 : decode (mm_Ar_testTail).2.1 87 = .ok (.bipush (-4), 2) := by decide +kernel
theorem dd_Ar_testTail_89 : decode (mm_Ar_testTail).2.1 89 = .ok (.iload_n 1, 1) := by decide +kernel
theorem dd_Ar_testTail_90 : decode (mm_Ar_testTail).2.1 90 = .ok (.iconst 2, 1) := by decide +kernel
theorem dd_Ar_testTail_91 : decode (mm_Ar_testTail).2.1 91 = .ok (.iadd, 1) := by decide +kernel
theorem dd_Ar_testTail_92 : decode (mm_Ar_testTail).2.1 92 = .ok (.invokevirtual 58, 3) := by decide +kernel
theorem dd_Ar_testTail_95 : decode (mm_Ar_testTail).2.1 95 = .ok (.ireturn, 1) := by decide +kernel
theorem dd_Ar_testTail_96 : decode (mm_Ar_testTail).2.1 96 = .ok (.aload_n 0, 1) := by decide +kernel
theorem dd_Ar_testTail_97 : decode (mm_Ar_testTail).2.1 97 = .ok (.getfield 14, 3) := by decide +kernel
theorem dd_Ar_testTail_100 : decode (mm_Ar_testTail).2.1 100 = .ok (.iload_n 2, 1) := by decide +kernel
theorem dd_Ar_testTail_101 : decode (mm_Ar_testTail).2.1 101 = .ok (.iload_n 1, 1) := by decide +kernel
theorem dd_Ar_testTail_102 : decode (mm_Ar_testTail).2.1 102 = .ok (.invokevirtual 106, 3) := by decide +kernel
theorem dd_Ar_testTail_105 : decode (mm_Ar_testTail).2.1 105 = .ok (.aload_n 0, 1) := by decide +kernel
theorem dd_Ar_testTail_106 : decode (mm_Ar_testTail).2.1 106 = .ok (.getfield 14, 3) := by decide +kernel
theorem dd_Ar_testTail_109 : decode (mm_Ar_testTail).2.1 109 = .ok (.iload_n 1, 1) := by decide +kernel
theorem dd_Ar_testTail_110 : decode (mm_Ar_testTail).2.1 110 = .ok (.iconst 4, 1) := by decide +kernel
theorem dd_Ar_testTail_111 : decode (mm_Ar_testTail).2.1 111 = .ok (.iadd, 1) := by decide +kernel
theorem dd_Ar_testTail_112 : decode (mm_Ar_testTail).2.1 112 = .ok (.invokevirtual 100, 3) := by decide +kernel
theorem dd_Ar_testTail_115 : decode (mm_Ar_testTail).2.1 115 = .ok (.if_icmp .eq 13, 3) := by decide +kernel
theorem dd_Ar_testTail_118 : decode (mm_Ar_testTail).2.1 118 = .ok (.aload_n 0, 1) := by decide +kernel
theorem dd_Ar_testTail_119 : decode (mm_Ar_testTail).2.1 119 = .ok (.bipush (-4), 2) := by decide +kernel
theorem dd_Ar_testTail_121 : decode (mm_Ar_testTail).2.1 121 = .ok (.iload_n 1, 1) := by decide +kernel
theorem dd_Ar_testTail_122 : decode (mm_Ar_testTail).2.1 122 = .ok (.iconst 4, 1) := by decide +kernel
theorem dd_Ar_testTail_123 : decode (mm_Ar_testTail).2.1 123 = .ok (.iadd, 1) := by decide +kernel
theorem dd_Ar_testTail_124 : decode (mm_Ar_testTail).2.1 124 = .ok (.invokevirtual 58, 3) := by decide +kernel
theorem dd_Ar_testTail_127 : decode (mm_Ar_testTail).2.1 127 = .ok (.ireturn, 1) := by decide +kernel
theorem dd_Ar_testTail_128 : decode (mm_Ar_testTail).2.1 128 = .ok (.iconst 0, 1) := by decide +kernel
theorem dd_Ar_testTail_129 : decode (mm_Ar_testTail).2.1 129 = .ok (.ireturn, 1) := by decide +kernel
theorem dd_Row_numberAt_0 : decode (mm_Row_numberAt).2.1 0 = .ok (.aload_n 0, 1) := by decide +kernel
theorem dd_Row_numberAt_1 : decode (mm_Row_numberAt).2.1 1 = .ok (.iload_n 1, 1) := by decide +kernel
theorem dd_Row_numberAt_2 : decode (mm_Row_numberAt).2.1 2 = .ok (.invokevirtual 19, 3) := by decide +kernel
theorem dd_Row_numberAt_5 : decode (mm_Row_numberAt).2.1 5 = .ok (.sipush 256, 3) := by decide +kernel
theorem dd_Row_numberAt_8 : decode (mm_Row_numberAt).2.1 8 = .ok (.imul, 1) := by decide +kernel
theorem dd_Row_numberAt_9 : decode (mm_Row_numberAt).2.1 9 = .ok (.aload_n 0, 1) := by decide +kernel
theorem dd_Row_numberAt_10 : decode (mm_Row_numberAt).2.1 10 = .ok (.iload_n 1, 1) := by decide +kernel
theorem dd_Row_numberAt_11 : decode (mm_Row_numberAt).2.1 11 = .ok (.iconst 1, 1) := by decide +kernel
theorem dd_Row_numberAt_12 : decode (mm_Row_numberAt).2.1 12 = .ok (.iadd, 1) := by decide +kernel
theorem dd_Row_numberAt_13 : decode (mm_Row_numberAt).2.1 13 = .ok (.invokevirtual 19, 3) := by decide +kernel
theorem dd_Row_numberAt_16 : decode (mm_Row_numberAt).2.1 16 = .ok (.iadd, 1) := by decide +kernel
theorem dd_Row_numberAt_17 : decode (mm_Row_numberAt).2.1 17 = .ok (.ireturn, 1) := by decide +kernel
theorem dd_Ar_readEntry_0 : decode (mm_Ar_readEntry).2.1 0 = .ok (.aload_n 0, 1) := by decide +kernel
theorem dd_Ar_readEntry_1 : decode (mm_Ar_readEntry).2.1 1 = .ok (.aload_n 1, 1) := by decide +kernel
theorem dd_Ar_readEntry_2 : decode (mm_Ar_readEntry).2.1 2 = .ok (.invokevirtual 70, 3) := by decide +kernel
theorem dd_Ar_readEntry_5 : decode (mm_Ar_readEntry).2.1 5 = .ok (.istore_n 3, 1) := by decide +kernel
theorem dd_Ar_readEntry_6 : decode (mm_Ar_readEntry).2.1 6 = .ok (.iload_n 3, 1) := by decide +kernel
theorem dd_Ar_readEntry_7 : decode (mm_Ar_readEntry).2.1 7 = .ok (.ifCond .ge 5, 3) := by decide +kernel
theorem dd_Ar_readEntry_10 : decode (mm_Ar_readEntry).2.1 10 = .ok (.iload_n 3, 1) := by decide +kernel
theorem dd_Ar_readEntry_11 : decode (mm_Ar_readEntry).2.1 11 = .ok (.ireturn, 1) := by decide +kernel
theorem dd_Ar_readEntry_12 : decode (mm_Ar_readEntry).2.1 12 = .ok (.aload_n 0, 1) := by decide +kernel
theorem dd_Ar_readEntry_13 : decode (mm_Ar_readEntry).2.1 13 = .ok (.getfield 41, 3) := by decide +kernel
theorem dd_Ar_readEntry_16 : decode (mm_Ar_readEntry).2.1 16 = .ok (.istore 4, 2) := by decide +kernel
theorem dd_Ar_readEntry_18 : decode (mm_Ar_readEntry).2.1 18 = .ok (.aload_n 1, 1) := by decide +kernel
theorem dd_Ar_readEntry_19 : decode (mm_Ar_readEntry).2.1 19 = .ok (.aload_n 0, 1) := by decide +kernel
theorem dd_Ar_readEntry_20 : decode (mm_Ar_readEntry).2.1 20 = .ok (.invokevirtual 109, 3) := by decide +kernel
theorem dd_Ar_readEntry_23 : decode (mm_Ar_readEntry).2.1 23 = .ok (.putfield 85, 3) := by decide +kernel
theorem dd_Ar_readEntry_26 : decode (mm_Ar_readEntry).2.1 26 = .ok (.aload_n 1, 1) := by decide +kernel
theorem dd_Ar_readEntry_27 : decode (mm_Ar_readEntry).2.1 27 = .ok (.getfield 85, 3) := by decide +kernel
theorem dd_Ar_readEntry_30 : decode (mm_Ar_readEntry).2.1 30 = .ok (.ifCond .ge 8, 3) := by decide +kernel
theorem dd_Ar_readEntry_33 : decode (mm_Ar_readEntry).2.1 33 = .ok (.aload_n 1, 1) := by decide +kernel
theorem dd_Ar_readEntry_34 : decode (mm_Ar_readEntry).2.1 34 = .ok (.getfield 85, 3) := by decide +kernel
theorem dd_Ar_readEntry_37 : decode (mm_Ar_readEntry).2.1 37 = .ok (.ireturn, 1) := by decide +kernel
theorem dd_Ar_readEntry_38 : decode (mm_Ar_readEntry).2.1 38 = .ok (.aload_n 1, 1) := by decide +kernel
theorem dd_Ar_readEntry_39 : decode (mm_Ar_readEntry).2.1 39 = .ok (.aload_n 0, 1) := by decide +kernel
theorem dd_Ar_readEntry_40 : decode (mm_Ar_readEntry).2.1 40 = .ok (.invokevirtual 54, 3) := by decide +kernel
theorem dd_Ar_readEntry_43 : decode (mm_Ar_readEntry).2.1 43 = .ok (.putfield 73, 3) := by decide +kernel
theorem dd_Ar_readEntry_46 : decode (mm_Ar_readEntry).2.1 46 = .ok (.aload_n 1, 1) := by decide +kernel
theorem dd_Ar_readEntry_47 : decode (mm_Ar_readEntry).2.1 47 = .ok (.getfield 73, 3) := by decide +kernel
theorem dd_Ar_readEntry_50 : decode (mm_Ar_readEntry).2.1 50 = .ok (.ifCond .ge 8, 3) := by decide +kernel
theorem dd_Ar_readEntry_53 : decode (mm_Ar_readEntry).2.1 53 = .ok (.aload_n 1, 1) := by decide +kernel
theorem dd_Ar_readEntry_54 : decode (mm_Ar_readEntry).2.1 54 = .ok (.getfield 73, 3) := by decide +kernel
theorem dd_Ar_readEntry_57 : decode (mm_Ar_readEntry).2.1 57 = .ok (.ireturn, 1) := by decide +kernel
theorem dd_Ar_readEntry_58 : decode (mm_Ar_readEntry).2.1 58 = .ok (.aload_n 1, 1) := by decide +kernel
theorem dd_Ar_readEntry_59 : decode (mm_Ar_readEntry).2.1 59 = .ok (.getfield 85, 3) := by decide +kernel
theorem dd_Ar_readEntry_62 : decode (mm_Ar_readEntry).2.1 62 = .ok (.iconst 1, 1) := by decide +kernel
theorem dd_Ar_readEntry_63 : decode (mm_Ar_readEntry).2.1 63 = .ok (.if_icmp .lt 16, 3) := by decide +kernel
theorem dd_Ar_readEntry_66 : decode (mm_Ar_readEntry).2.1 66 = .ok (.aload_n 1, 1) := by decide +kernel
theorem dd_Ar_readEntry_67 : decode (mm_Ar_readEntry).2.1 67 = .ok (.getfield 85, 3) := by decide +kernel
theorem dd_Ar_readEntry_70 : decode (mm_Ar_readEntry).2.1 70 = .ok (.aload_n 1, 1) := by decide +kernel
theorem dd_Ar_readEntry_71 : decode (mm_Ar_readEntry).2.1 71 = .ok (.getfield 73, 3) := by decide +kernel
theorem dd_Ar_readEntry_74 : decode (mm_Ar_readEntry).2.1 74 = .ok (.iadd, 1) := by decide +kernel
theorem dd_Ar_readEntry_75 : decode (mm_Ar_readEntry).2.1 75 = .ok (.iload_n 2, 1) := by decide +kernel
theorem dd_Ar_readEntry_76 : decode (mm_Ar_readEntry).2.1 76 = .ok (.if_icmp .le 12, 3) := by decide +kernel
theorem dd_Ar_readEntry_79 : decode (mm_Ar_readEntry).2.1 79 = .ok (.aload_n 0, 1) := by decide +kernel
theorem dd_Ar_readEntry_80 : decode (mm_Ar_readEntry).2.1 80 = .ok (.bipush (-4), 2) := by decide +kernel
theorem dd_Ar_readEntry_82 : decode (mm_Ar_readEntry).2.1 82 = .ok (.iload 4, 2) := by decide +kernel
theorem dd_Ar_readEntry_84 : decode (mm_Ar_readEntry).2.1 84 = .ok (.invokevirtual 58, 3) := by decide +kernel
theorem dd_Ar_readEntry_87 : decode (mm_Ar_readEntry).2.1 87 = .ok (.ireturn, 1) := by decide +kernel
theorem dd_Ar_readEntry_88 : decode (mm_Ar_readEntry).2.1 88 = .ok (.aload_n 0, 1) := by decide +kernel
theorem dd_Ar_readEntry_89 : decode (mm_Ar_readEntry).2.1 89 = .ok (.aload_n 1, 1) := by decide +kernel
theorem dd_Ar_readEntry_90 : decode (mm_Ar_readEntry).2.1 90 = .ok (.invokevirtual 76, 3) := by decide +kernel
theorem dd_Ar_readEntry_93 : decode (mm_Ar_readEntry).2.1 93 = .ok (.ireturn, 1) := by decide +kernel
theorem dd_AB_place_0 : decode (mm_AB_place).2.1 0 = .ok (.aload_n 0, 1) := by decide +kernel
theorem dd_AB_place_1 : decode (mm_AB_place).2.1 1 = .ok (.getfield 31, 3) := by decide +kernel
theorem dd_AB_place_4 : decode (mm_AB_place).2.1 4 = .ok (.getfield 112, 3) := by decide +kernel
theorem dd_AB_place_7 : decode (mm_AB_place).2.1 7 = .ok (.ireturn, 1) := by decide +kernel
theorem dd_AB_take_0 : decode (mm_AB_take).2.1 0 = .ok (.aload_n 0, 1) := by decide +kernel
theorem dd_AB_take_1 : decode (mm_AB_take).2.1 1 = .ok (.getfield 31, 3) := by decide +kernel
theorem dd_AB_take_4 : decode (mm_AB_take).2.1 4 = .ok (.iload_n 1, 1) := by decide +kernel
theorem dd_AB_take_5 : decode (mm_AB_take).2.1 5 = .ok (.invokevirtual 115, 3) := by decide +kernel
theorem dd_AB_take_8 : decode (mm_AB_take).2.1 8 = .ok (.ifCond .ne 5, 3) := by decide +kernel
theorem dd_AB_take_11 : decode (mm_AB_take).2.1 11 = .ok (.iconst (-1), 1) := by decide +kernel
theorem dd_AB_take_12 : decode (mm_AB_take).2.1 12 = .ok (.ireturn, 1) := by decide +kernel
theorem dd_AB_take_13 : decode (mm_AB_take).2.1 13 = .ok (.aload_n 0, 1) := by decide +kernel
theorem dd_AB_take_14 : decode (mm_AB_take).2.1 14 = .ok (.getfield 31, 3) := by decide +kernel
theorem dd_AB_take_17 : decode (mm_AB_take).2.1 17 = .ok (.getfield 118, 3) := by decide +kernel
theorem dd_AB_take_20 : decode (mm_AB_take).2.1 20 = .ok (.iload_n 1, 1) := by decide +kernel
theorem dd_AB_take_21 : decode (mm_AB_take).2.1 21 = .ok (.aaload, 1) := by decide +kernel
theorem dd_AB_take_22 : decode (mm_AB_take).2.1 22 = .ok (.astore_n 2, 1) := by decide +kernel
theorem dd_AB_take_23 : decode (mm_AB_take).2.1 23 = .ok (.aload_n 2, 1) := by decide +kernel
theorem dd_AB_take_24 : decode (mm_AB_take).2.1 24 = .ok (.invokevirtual 121, 3) := by decide +kernel
theorem dd_AB_take_27 : decode (mm_AB_take).2.1 27 = .ok (.ifCond .ne 6, 3) := by decide +kernel
theorem dd_AB_take_30 : decode (mm_AB_take).2.1 30 = .ok (.bipush (-6), 2) := by decide +kernel
theorem dd_AB_take_32 : decode (mm_AB_take).2.1 32 = .ok (.ireturn, 1) := by decide +kernel
theorem dd_AB_take_33 : decode (mm_AB_take).2.1 33 = .ok (.aload_n 0, 1) := by decide +kernel
theorem dd_AB_take_34 : decode (mm_AB_take).2.1 34 = .ok (.getfield 31, 3) := by decide +kernel
theorem dd_AB_take_37 : decode (mm_AB_take).2.1 37 = .ok (.iload_n 1, 1) := by decide +kernel
theorem dd_AB_take_38 : decode (mm_AB_take).2.1 38 = .ok (.invokevirtual 127, 3) := by decide +kernel
theorem dd_AB_take_41 : decode (mm_AB_take).2.1 41 = .ok (.ifCond .eq 6, 3) := by decide +kernel
theorem dd_AB_take_44 : decode (mm_AB_take).2.1 44 = .ok (.bipush (-8), 2) := by decide +kernel
theorem dd_AB_take_46 : decode (mm_AB_take).2.1 46 = .ok (.ireturn, 1) := by decide +kernel
theorem dd_AB_take_47 : decode (mm_AB_take).2.1 47 = .ok (.aload_n 0, 1) := by decide +kernel
theorem dd_AB_take_48 : decode (mm_AB_take).2.1 48 = .ok (.getfield 31, 3) := by decide +kernel
theorem dd_AB_take_51 : decode (mm_AB_take).2.1 51 = .ok (.getfield 84, 3) := by decide +kernel
theorem dd_AB_take_54 : decode (mm_AB_take).2.1 54 = .ok (.aload_n 2, 1) := by decide +kernel
theorem dd_AB_take_55 : decode (mm_AB_take).2.1 55 = .ok (.aload_n 0, 1) := by decide +kernel
theorem dd_AB_take_56 : decode (mm_AB_take).2.1 56 = .ok (.getfield 35, 3) := by decide +kernel
theorem dd_AB_take_59 : decode (mm_AB_take).2.1 59 = .ok (.invokestatic 130, 3) := by decide +kernel
theorem dd_AB_take_62 : decode (mm_AB_take).2.1 62 = .ok (.ifCond .ne 6, 3) := by decide +kernel
theorem dd_AB_take_65 : decode (mm_AB_take).2.1 65 = .ok (.bipush (-5), 2) := by decide +kernel
theorem dd_AB_take_67 : decode (mm_AB_take).2.1 67 = .ok (.ireturn, 1) := by decide +kernel
theorem dd_AB_take_68 : decode (mm_AB_take).2.1 68 = .ok (.aload_n 0, 1) := by decide +kernel
theorem dd_AB_take_69 : decode (mm_AB_take).2.1 69 = .ok (.getfield 35, 3) := by decide +kernel
theorem dd_AB_take_72 : decode (mm_AB_take).2.1 72 = .ok (.iconst 0, 1) := by decide +kernel
theorem dd_AB_take_73 : decode (mm_AB_take).2.1 73 = .ok (.aload_n 0, 1) := by decide +kernel
theorem dd_AB_take_74 : decode (mm_AB_take).2.1 74 = .ok (.getfield 35, 3) := by decide +kernel
theorem dd_AB_take_77 : decode (mm_AB_take).2.1 77 = .ok (.getfield 48, 3) := by decide +kernel
theorem dd_AB_take_80 : decode (mm_AB_take).2.1 80 = .ok (.invokevirtual 136, 3) := by decide +kernel
theorem dd_AB_take_83 : decode (mm_AB_take).2.1 83 = .ok (.aload_n 2, 1) := by decide +kernel
theorem dd_AB_take_84 : decode (mm_AB_take).2.1 84 = .ok (.getfield 139, 3) := by decide +kernel
theorem dd_AB_take_87 : decode (mm_AB_take).2.1 87 = .ok (.if_icmp .eq 6, 3) := by decide +kernel
theorem dd_AB_take_90 : decode (mm_AB_take).2.1 90 = .ok (.bipush (-7), 2) := by decide +kernel
theorem dd_AB_take_92 : decode (mm_AB_take).2.1 92 = .ok (.ireturn, 1) := by decide +kernel
theorem dd_AB_take_93 : decode (mm_AB_take).2.1 93 = .ok (.aload_n 0, 1) := by decide +kernel
theorem dd_AB_take_94 : decode (mm_AB_take).2.1 94 = .ok (.getfield 38, 3) := by decide +kernel
theorem dd_AB_take_97 : decode (mm_AB_take).2.1 97 = .ok (.aload_n 0, 1) := by decide +kernel
theorem dd_AB_take_98 : decode (mm_AB_take).2.1 98 = .ok (.getfield 35, 3) := by decide +kernel
theorem dd_AB_take_101 : decode (mm_AB_take).2.1 101 = .ok (.invokevirtual 87, 3) := by decide +kernel
theorem dd_AB_take_104 : decode (mm_AB_take).2.1 104 = .ok (.aload_n 0, 1) := by decide +kernel
theorem dd_AB_take_105 : decode (mm_AB_take).2.1 105 = .ok (.getfield 38, 3) := by decide +kernel
theorem dd_AB_take_108 : decode (mm_AB_take).2.1 108 = .ok (.getfield 48, 3) := by decide +kernel
theorem dd_AB_take_111 : decode (mm_AB_take).2.1 111 = .ok (.ireturn, 1) := by decide +kernel
theorem dd_Ar_has_0 : decode (mm_Ar_has).2.1 0 = .ok (.iload_n 1, 1) := by decide +kernel
theorem dd_Ar_has_1 : decode (mm_Ar_has).2.1 1 = .ok (.ifCond .lt 15, 3) := by decide +kernel
theorem dd_Ar_has_4 : decode (mm_Ar_has).2.1 4 = .ok (.iload_n 1, 1) := by decide +kernel
theorem dd_Ar_has_5 : decode (mm_Ar_has).2.1 5 = .ok (.aload_n 0, 1) := by decide +kernel
theorem dd_Ar_has_6 : decode (mm_Ar_has).2.1 6 = .ok (.getfield 27, 3) := by decide +kernel
theorem dd_Ar_has_9 : decode (mm_Ar_has).2.1 9 = .ok (.if_icmp .ge 7, 3) := by decide +kernel
theorem dd_Ar_has_12 : decode (mm_Ar_has).2.1 12 = .ok (.iconst 1, 1) := by decide +kernel
theorem dd_Ar_has_13 : decode (mm_Ar_has).2.1 13 = .ok (.goto 4, 3) := by decide +kernel
theorem dd_Ar_has_16 : decode (mm_Ar_has).2.1 16 = .ok (.iconst 0, 1) := by decide +kernel
theorem dd_Ar_has_17 : decode (mm_Ar_has).2.1 17 = .ok (.ireturn, 1) := by decide +kernel
theorem dd_OF_hasSafeName_0 : decode (mm_OF_hasSafeName).2.1 0 = .ok (.iconst 0, 1) := by decide +kernel
theorem dd_OF_hasSafeName_1 : decode (mm_OF_hasSafeName).2.1 1 = .ok (.istore_n 1, 1) := by decide +kernel
theorem dd_OF_hasSafeName_2 : decode (mm_OF_hasSafeName).2.1 2 = .ok (.iconst 0, 1) := by decide +kernel
theorem dd_OF_hasSafeName_3 : decode (mm_OF_hasSafeName).2.1 3 = .ok (.istore_n 2, 1) := by decide +kernel
theorem dd_OF_hasSafeName_4 : decode (mm_OF_hasSafeName).2.1 4 = .ok (.iload_n 2, 1) := by decide +kernel
theorem dd_OF_hasSafeName_5 : decode (mm_OF_hasSafeName).2.1 5 = .ok (.aload_n 0, 1) := by decide +kernel
theorem dd_OF_hasSafeName_6 : decode (mm_OF_hasSafeName).2.1 6 = .ok (.getfield 14, 3) := by decide +kernel
theorem dd_OF_hasSafeName_9 : decode (mm_OF_hasSafeName).2.1 9 = .ok (.getfield 24, 3) := by decide +kernel
theorem dd_OF_hasSafeName_12 : decode (mm_OF_hasSafeName).2.1 12 = .ok (.if_icmp .gt 48, 3) := by decide +kernel
theorem dd_OF_hasSafeName_15 : decode (mm_OF_hasSafeName).2.1 15 = .ok (.iload_n 2, 1) := by decide +kernel
theorem dd_OF_hasSafeName_16 : decode (mm_OF_hasSafeName).2.1 16 = .ok (.aload_n 0, 1) := by decide +kernel
theorem dd_OF_hasSafeName_17 : decode (mm_OF_hasSafeName).2.1 17 = .ok (.getfield 14, 3) := by decide +kernel
theorem dd_OF_hasSafeName_20 : decode (mm_OF_hasSafeName).2.1 20 = .ok (.getfield 24, 3) := by decide +kernel
theorem dd_OF_hasSafeName_23 : decode (mm_OF_hasSafeName).2.1 23 = .ok (.if_icmp .eq 16, 3) := by decide +kernel
theorem dd_OF_hasSafeName_26 : decode (mm_OF_hasSafeName).2.1 26 = .ok (.aload_n 0, 1) := by decide +kernel
theorem dd_OF_hasSafeName_27 : decode (mm_OF_hasSafeName).2.1 27 = .ok (.getfield 14, 3) := by decide +kernel
theorem dd_OF_hasSafeName_30 : decode (mm_OF_hasSafeName).2.1 30 = .ok (.iload_n 2, 1) := by decide +kernel
theorem dd_OF_hasSafeName_31 : decode (mm_OF_hasSafeName).2.1 31 = .ok (.invokevirtual 37, 3) := by decide +kernel
theorem dd_OF_hasSafeName_34 : decode (mm_OF_hasSafeName).2.1 34 = .ok (.bipush 47, 2) := by decide +kernel
theorem dd_OF_hasSafeName_36 : decode (mm_OF_hasSafeName).2.1 36 = .ok (.if_icmp .ne 18, 3) := by decide +kernel
theorem dd_OF_hasSafeName_39 : decode (mm_OF_hasSafeName).2.1 39 = .ok (.aload_n 0, 1) := by decide +kernel
theorem dd_OF_hasSafeName_40 : decode (mm_OF_hasSafeName).2.1 40 = .ok (.iload_n 1, 1) := by decide +kernel
theorem dd_OF_hasSafeName_41 : decode (mm_OF_hasSafeName).2.1 41 = .ok (.iload_n 2, 1) := by decide +kernel
theorem dd_OF_hasSafeName_42 : decode (mm_OF_hasSafeName).2.1 42 = .ok (.invokevirtual 41, 3) := by decide +kernel
theorem dd_OF_hasSafeName_45 : decode (mm_OF_hasSafeName).2.1 45 = .ok (.ifCond .ne 5, 3) := by decide +kernel
theorem dd_OF_hasSafeName_48 : decode (mm_OF_hasSafeName).2.1 48 = .ok (.iconst 0, 1) := by decide +kernel
theorem dd_OF_hasSafeName_49 : decode (mm_OF_hasSafeName).2.1 49 = .ok (.ireturn, 1) := by decide +kernel
theorem dd_OF_hasSafeName_50 : decode (mm_OF_hasSafeName).2.1 50 = .ok (.iload_n 2, 1) := by decide +kernel
theorem dd_OF_hasSafeName_51 : decode (mm_OF_hasSafeName).2.1 51 = .ok (.iconst 1, 1) := by decide +kernel
theorem dd_OF_hasSafeName_52 : decode (mm_OF_hasSafeName).2.1 52 = .ok (.iadd, 1) := by decide +kernel
theorem dd_OF_hasSafeName_53 : decode (mm_OF_hasSafeName).2.1 53 = .ok (.istore_n 1, 1) := by decide +kernel
theorem dd_OF_hasSafeName_54 : decode (mm_OF_hasSafeName).2.1 54 = .ok (.iinc 2 1, 3) := by decide +kernel
theorem dd_OF_hasSafeName_57 : decode (mm_OF_hasSafeName).2.1 57 = .ok (.goto (-53), 3) := by decide +kernel
theorem dd_OF_hasSafeName_60 : decode (mm_OF_hasSafeName).2.1 60 = .ok (.iconst 1, 1) := by decide +kernel
theorem dd_OF_hasSafeName_61 : decode (mm_OF_hasSafeName).2.1 61 = .ok (.ireturn, 1) := by decide +kernel
theorem dd_OF_isSafePart_0 : decode (mm_OF_isSafePart).2.1 0 = .ok (.iload_n 2, 1) := by decide +kernel
theorem dd_OF_isSafePart_1 : decode (mm_OF_isSafePart).2.1 1 = .ok (.iload_n 1, 1) := by decide +kernel
theorem dd_OF_isSafePart_2 : decode (mm_OF_isSafePart).2.1 2 = .ok (.isub, 1) := by decide +kernel
theorem dd_OF_isSafePart_3 : decode (mm_OF_isSafePart).2.1 3 = .ok (.iconst 2, 1) := by decide +kernel
theorem dd_OF_isSafePart_4 : decode (mm_OF_isSafePart).2.1 4 = .ok (.if_icmp .ne 35, 3) := by decide +kernel
theorem dd_OF_isSafePart_7 : decode (mm_OF_isSafePart).2.1 7 = .ok (.aload_n 0, 1) := by decide +kernel
theorem dd_OF_isSafePart_8 : decode (mm_OF_isSafePart).2.1 8 = .ok (.getfield 14, 3) := by decide +kernel
theorem dd_OF_isSafePart_11 : decode (mm_OF_isSafePart).2.1 11 = .ok (.iload_n 1, 1) := by decide +kernel
theorem dd_OF_isSafePart_12 : decode (mm_OF_isSafePart).2.1 12 = .ok (.invokevirtual 37, 3) := by decide +kernel
theorem dd_OF_isSafePart_15 : decode (mm_OF_isSafePart).2.1 15 = .ok (.bipush 46, 2) := by decide +kernel
theorem dd_OF_isSafePart_17 : decode (mm_OF_isSafePart).2.1 17 = .ok (.if_icmp .ne 22, 3) := by decide +kernel
theorem dd_OF_isSafePart_20 : decode (mm_OF_isSafePart).2.1 20 = .ok (.aload_n 0, 1) := by decide +kernel
theorem dd_OF_isSafePart_21 : decode (mm_OF_isSafePart).2.1 21 = .ok (.getfield 14, 3) := by decide +kernel
theorem dd_OF_isSafePart_24 : decode (mm_OF_isSafePart).2.1 24 = .ok (.iload_n 1, 1) := by decide +kernel
theorem dd_OF_isSafePart_25 : decode (mm_OF_isSafePart).2.1 25 = .ok (.iconst 1, 1) := by decide +kernel
theorem dd_OF_isSafePart_26 : decode (mm_OF_isSafePart).2.1 26 = .ok (.iadd, 1) := by decide +kernel
theorem dd_OF_isSafePart_27 : decode (mm_OF_isSafePart).2.1 27 = .ok (.invokevirtual 37, 3) := by decide +kernel
theorem dd_OF_isSafePart_30 : decode (mm_OF_isSafePart).2.1 30 = .ok (.bipush 46, 2) := by decide +kernel
theorem dd_OF_isSafePart_32 : decode (mm_OF_isSafePart).2.1 32 = .ok (.if_icmp .ne 7, 3) := by decide +kernel
theorem dd_OF_isSafePart_35 : decode (mm_OF_isSafePart).2.1 35 = .ok (.iconst 1, 1) := by decide +kernel
theorem dd_OF_isSafePart_36 : decode (mm_OF_isSafePart).2.1 36 = .ok (.goto 4, 3) := by decide +kernel
theorem dd_OF_isSafePart_39 : decode (mm_OF_isSafePart).2.1 39 = .ok (.iconst 0, 1) := by decide +kernel
theorem dd_OF_isSafePart_40 : decode (mm_OF_isSafePart).2.1 40 = .ok (.istore_n 3, 1) := by decide +kernel
theorem dd_OF_isSafePart_41 : decode (mm_OF_isSafePart).2.1 41 = .ok (.iload_n 2, 1) := by decide +kernel
theorem dd_OF_isSafePart_42 : decode (mm_OF_isSafePart).2.1 42 = .ok (.iload_n 1, 1) := by decide +kernel
theorem dd_OF_isSafePart_43 : decode (mm_OF_isSafePart).2.1 43 = .ok (.if_icmp .le 11, 3) := by decide +kernel
theorem dd_OF_isSafePart_46 : decode (mm_OF_isSafePart).2.1 46 = .ok (.iload_n 3, 1) := by decide +kernel
theorem dd_OF_isSafePart_47 : decode (mm_OF_isSafePart).2.1 47 = .ok (.ifCond .ne 7, 3) := by decide +kernel
theorem dd_OF_isSafePart_50 : decode (mm_OF_isSafePart).2.1 50 = .ok (.iconst 1, 1) := by decide +kernel
theorem dd_OF_isSafePart_51 : decode (mm_OF_isSafePart).2.1 51 = .ok (.goto 4, 3) := by decide +kernel
theorem dd_OF_isSafePart_54 : decode (mm_OF_isSafePart).2.1 54 = .ok (.iconst 0, 1) := by decide +kernel
theorem dd_OF_isSafePart_55 : decode (mm_OF_isSafePart).2.1 55 = .ok (.ireturn, 1) := by decide +kernel
theorem dd_Ar_hasNameBefore_0 : decode (mm_Ar_hasNameBefore).2.1 0 = .ok (.iconst 0, 1) := by decide +kernel
theorem dd_Ar_hasNameBefore_1 : decode (mm_Ar_hasNameBefore).2.1 1 = .ok (.istore_n 2, 1) := by decide +kernel
theorem dd_Ar_hasNameBefore_2 : decode (mm_Ar_hasNameBefore).2.1 2 = .ok (.iload_n 2, 1) := by decide +kernel
theorem dd_Ar_hasNameBefore_3 : decode (mm_Ar_hasNameBefore).2.1 3 = .ok (.iload_n 1, 1) := by decide +kernel
theorem dd_Ar_hasNameBefore_4 : decode (mm_Ar_hasNameBefore).2.1 4 = .ok (.if_icmp .ge 35, 3) := by decide +kernel
theorem dd_Ar_hasNameBefore_7 : decode (mm_Ar_hasNameBefore).2.1 7 = .ok (.aload_n 0, 1) := by decide +kernel
theorem dd_Ar_hasNameBefore_8 : decode (mm_Ar_hasNameBefore).2.1 8 = .ok (.getfield 22, 3) := by decide +kernel
theorem dd_Ar_hasNameBefore_11 : decode (mm_Ar_hasNameBefore).2.1 11 = .ok (.iload_n 2, 1) := by decide +kernel
theorem dd_Ar_hasNameBefore_12 : decode (mm_Ar_hasNameBefore).2.1 12 = .ok (.aaload, 1) := by decide +kernel
theorem dd_Ar_hasNameBefore_13 : decode (mm_Ar_hasNameBefore).2.1 13 = .ok (.getfield 34, 3) := by decide +kernel
theorem dd_Ar_hasNameBefore_16 : decode (mm_Ar_hasNameBefore).2.1 16 = .ok (.aload_n 0, 1) := by decide +kernel
theorem dd_Ar_hasNameBefore_17 : decode (mm_Ar_hasNameBefore).2.1 17 = .ok (.getfield 22, 3) := by decide +kernel
theorem dd_Ar_hasNameBefore_20 : decode (mm_Ar_hasNameBefore).2.1 20 = .ok (.iload_n 1, 1) := by decide +kernel
theorem dd_Ar_hasNameBefore_21 : decode (mm_Ar_hasNameBefore).2.1 21 = .ok (.aaload, 1) := by decide +kernel
theorem dd_Ar_hasNameBefore_22 : decode (mm_Ar_hasNameBefore).2.1 22 = .ok (.getfield 34, 3) := by decide +kernel
theorem dd_Ar_hasNameBefore_25 : decode (mm_Ar_hasNameBefore).2.1 25 = .ok (.invokevirtual 37, 3) := by decide +kernel
theorem dd_Ar_hasNameBefore_28 : decode (mm_Ar_hasNameBefore).2.1 28 = .ok (.ifCond .eq 5, 3) := by decide +kernel
theorem dd_Ar_hasNameBefore_31 : decode (mm_Ar_hasNameBefore).2.1 31 = .ok (.iconst 1, 1) := by decide +kernel
theorem dd_Ar_hasNameBefore_32 : decode (mm_Ar_hasNameBefore).2.1 32 = .ok (.ireturn, 1) := by decide +kernel
theorem dd_Ar_hasNameBefore_33 : decode (mm_Ar_hasNameBefore).2.1 33 = .ok (.iinc 2 1, 3) := by decide +kernel
theorem dd_Ar_hasNameBefore_36 : decode (mm_Ar_hasNameBefore).2.1 36 = .ok (.goto (-34), 3) := by decide +kernel
theorem dd_Ar_hasNameBefore_39 : decode (mm_Ar_hasNameBefore).2.1 39 = .ok (.iconst 0, 1) := by decide +kernel
theorem dd_Ar_hasNameBefore_40 : decode (mm_Ar_hasNameBefore).2.1 40 = .ok (.ireturn, 1) := by decide +kernel
theorem dd_Row_isSameAs_0 : decode (mm_Row_isSameAs).2.1 0 = .ok (.aload_n 0, 1) := by decide +kernel
theorem dd_Row_isSameAs_1 : decode (mm_Row_isSameAs).2.1 1 = .ok (.getfield 15, 3) := by decide +kernel
theorem dd_Row_isSameAs_4 : decode (mm_Row_isSameAs).2.1 4 = .ok (.aload_n 1, 1) := by decide +kernel
theorem dd_Row_isSameAs_5 : decode (mm_Row_isSameAs).2.1 5 = .ok (.getfield 15, 3) := by decide +kernel
theorem dd_Row_isSameAs_8 : decode (mm_Row_isSameAs).2.1 8 = .ok (.if_icmp .eq 5, 3) := by decide +kernel
theorem dd_Row_isSameAs_11 : decode (mm_Row_isSameAs).2.1 11 = .ok (.iconst 0, 1) := by decide +kernel
theorem dd_Row_isSameAs_12 : decode (mm_Row_isSameAs).2.1 12 = .ok (.ireturn, 1) := by decide +kernel
theorem dd_Row_isSameAs_13 : decode (mm_Row_isSameAs).2.1 13 = .ok (.iconst 0, 1) := by decide +kernel
theorem dd_Row_isSameAs_14 : decode (mm_Row_isSameAs).2.1 14 = .ok (.istore_n 2, 1) := by decide +kernel
theorem dd_Row_isSameAs_15 : decode (mm_Row_isSameAs).2.1 15 = .ok (.iload_n 2, 1) := by decide +kernel
theorem dd_Row_isSameAs_16 : decode (mm_Row_isSameAs).2.1 16 = .ok (.aload_n 0, 1) := by decide +kernel
theorem dd_Row_isSameAs_17 : decode (mm_Row_isSameAs).2.1 17 = .ok (.getfield 15, 3) := by decide +kernel
theorem dd_Row_isSameAs_20 : decode (mm_Row_isSameAs).2.1 20 = .ok (.if_icmp .ge 24, 3) := by decide +kernel
theorem dd_Row_isSameAs_23 : decode (mm_Row_isSameAs).2.1 23 = .ok (.aload_n 0, 1) := by decide +kernel
theorem dd_Row_isSameAs_24 : decode (mm_Row_isSameAs).2.1 24 = .ok (.iload_n 2, 1) := by decide +kernel
theorem dd_Row_isSameAs_25 : decode (mm_Row_isSameAs).2.1 25 = .ok (.invokevirtual 19, 3) := by decide +kernel
theorem dd_Row_isSameAs_28 : decode (mm_Row_isSameAs).2.1 28 = .ok (.aload_n 1, 1) := by decide +kernel
theorem dd_Row_isSameAs_29 : decode (mm_Row_isSameAs).2.1 29 = .ok (.iload_n 2, 1) := by decide +kernel
theorem dd_Row_isSameAs_30 : decode (mm_Row_isSameAs).2.1 30 = .ok (.invokevirtual 19, 3) := by decide +kernel
theorem dd_Row_isSameAs_33 : decode (mm_Row_isSameAs).2.1 33 = .ok (.if_icmp .eq 5, 3) := by decide +kernel
theorem dd_Row_isSameAs_36 : decode (mm_Row_isSameAs).2.1 36 = .ok (.iconst 0, 1) := by decide +kernel
theorem dd_Row_isSameAs_37 : decode (mm_Row_isSameAs).2.1 37 = .ok (.ireturn, 1) := by decide +kernel
theorem dd_Row_isSameAs_38 : decode (mm_Row_isSameAs).2.1 38 = .ok (.iinc 2 1, 3) := by decide +kernel
theorem dd_Row_isSameAs_41 : decode (mm_Row_isSameAs).2.1 41 = .ok (.goto (-26), 3) := by decide +kernel
theorem dd_Row_isSameAs_44 : decode (mm_Row_isSameAs).2.1 44 = .ok (.iconst 1, 1) := by decide +kernel
theorem dd_Row_isSameAs_45 : decode (mm_Row_isSameAs).2.1 45 = .ok (.ireturn, 1) := by decide +kernel
theorem dd_Un_unsqueeze_0 : decode (mm_Un_unsqueeze).2.1 0 = .ok (.aload_n 1, 1) := by decide +kernel
theorem dd_Un_unsqueeze_1 : decode (mm_Un_unsqueeze).2.1 1 = .ok (.getfield 9, 3) := by decide +kernel
theorem dd_Un_unsqueeze_4 : decode (mm_Un_unsqueeze).2.1 4 = .ok (.istore_n 3, 1) := by decide +kernel
theorem dd_Un_unsqueeze_5 : decode (mm_Un_unsqueeze).2.1 5 = .ok (.iload_n 3, 1) := by decide +kernel
theorem dd_Un_unsqueeze_6 : decode (mm_Un_unsqueeze).2.1 6 = .ok (.aload_n 1, 1) := by decide +kernel
theorem dd_Un_unsqueeze_7 : decode (mm_Un_unsqueeze).2.1 7 = .ok (.getfield 15, 3) := by decide +kernel
theorem dd_Un_unsqueeze_10 : decode (mm_Un_unsqueeze).2.1 10 = .ok (.iadd, 1) := by decide +kernel
theorem dd_Un_unsqueeze_11 : decode (mm_Un_unsqueeze).2.1 11 = .ok (.istore 4, 2) := by decide +kernel
theorem dd_Un_unsqueeze_13 : decode (mm_Un_unsqueeze).2.1 13 = .ok (.aload_n 2, 1) := by decide +kernel
theorem dd_Un_unsqueeze_14 : decode (mm_Un_unsqueeze).2.1 14 = .ok (.iconst 0, 1) := by decide +kernel
theorem dd_Un_unsqueeze_15 : decode (mm_Un_unsqueeze).2.1 15 = .ok (.invokevirtual 18, 3) := by decide +kernel
theorem dd_Un_unsqueeze_18 : decode (mm_Un_unsqueeze).2.1 18 = .ok (.aload_n 1, 1) := by decide +kernel
theorem dd_Un_unsqueeze_19 : decode (mm_Un_unsqueeze).2.1 19 = .ok (.getfield 24, 3) := by decide +kernel
theorem dd_Un_unsqueeze_22 : decode (mm_Un_unsqueeze).2.1 22 = .ok (.iconst 1, 1) := by decide +kernel
theorem dd_Un_unsqueeze_23 : decode (mm_Un_unsqueeze).2.1 23 = .ok (.if_icmp .ne 16, 3) := by decide +kernel
theorem dd_Un_unsqueeze_26 : decode (mm_Un_unsqueeze).2.1 26 = .ok (.aload_n 0, 1) := by decide +kernel
theorem dd_Un_unsqueeze_27 : decode (mm_Un_unsqueeze).2.1 27 = .ok (.iload_n 3, 1) := by decide +kernel
theorem dd_Un_unsqueeze_28 : decode (mm_Un_unsqueeze).2.1 28 = .ok (.iload 4, 2) := by decide +kernel
theorem dd_Un_unsqueeze_30 : decode (mm_Un_unsqueeze).2.1 30 = .ok (.aload_n 2, 1) := by decide +kernel
theorem dd_Un_unsqueeze_31 : decode (mm_Un_unsqueeze).2.1 31 = .ok (.invokestatic 27, 3) := by decide +kernel
theorem dd_Un_unsqueeze_34 : decode (mm_Un_unsqueeze).2.1 34 = .ok (.istore 5, 2) := by decide +kernel
theorem dd_Un_unsqueeze_36 : decode (mm_Un_unsqueeze).2.1 36 = .ok (.goto 34, 3) := by decide +kernel
theorem dd_Un_unsqueeze_39 : decode (mm_Un_unsqueeze).2.1 39 = .ok (.aload_n 1, 1) := by decide +kernel
theorem dd_Un_unsqueeze_40 : decode (mm_Un_unsqueeze).2.1 40 = .ok (.getfield 24, 3) := by decide +kernel
theorem dd_Un_unsqueeze_43 : decode (mm_Un_unsqueeze).2.1 43 = .ok (.iconst 2, 1) := by decide +kernel
theorem dd_Un_unsqueeze_44 : decode (mm_Un_unsqueeze).2.1 44 = .ok (.if_icmp .ne 16, 3) := by decide +kernel
theorem dd_Un_unsqueeze_47 : decode (mm_Un_unsqueeze).2.1 47 = .ok (.aload_n 0, 1) := by decide +kernel
theorem dd_Un_unsqueeze_48 : decode (mm_Un_unsqueeze).2.1 48 = .ok (.iload_n 3, 1) := by decide +kernel
theorem dd_Un_unsqueeze_49 : decode (mm_Un_unsqueeze).2.1 49 = .ok (.iload 4, 2) := by decide +kernel
theorem dd_Un_unsqueeze_51 : decode (mm_Un_unsqueeze).2.1 51 = .ok (.aload_n 2, 1) := by decide +kernel
theorem dd_Un_unsqueeze_52 : decode (mm_Un_unsqueeze).2.1 52 = .ok (.invokestatic 33, 3) := by decide +kernel
theorem dd_Un_unsqueeze_55 : decode (mm_Un_unsqueeze).2.1 55 = .ok (.istore 5, 2) := by decide +kernel
theorem dd_Un_unsqueeze_57 : decode (mm_Un_unsqueeze).2.1 57 = .ok (.goto 13, 3) := by decide +kernel
theorem dd_Un_unsqueeze_60 : decode (mm_Un_unsqueeze).2.1 60 = .ok (.aload_n 2, 1) := by decide +kernel
theorem dd_Un_unsqueeze_61 : decode (mm_Un_unsqueeze).2.1 61 = .ok (.aload_n 0, 1) := by decide +kernel
theorem dd_Un_unsqueeze_62 : decode (mm_Un_unsqueeze).2.1 62 = .ok (.iload_n 3, 1) := by decide +kernel
theorem dd_Un_unsqueeze_63 : decode (mm_Un_unsqueeze).2.1 63 = .ok (.iload 4, 2) := by decide +kernel
theorem dd_Un_unsqueeze_65 : decode (mm_Un_unsqueeze).2.1 65 = .ok (.invokevirtual 36, 3) := by decide +kernel
theorem dd_Un_unsqueeze_68 : decode (mm_Un_unsqueeze).2.1 68 = .ok (.istore 5, 2) := by decide +kernel
theorem dd_Un_unsqueeze_70 : decode (mm_Un_unsqueeze).2.1 70 = .ok (.iload 5, 2) := by decide +kernel
theorem dd_Un_unsqueeze_72 : decode (mm_Un_unsqueeze).2.1 72 = .ok (.ifCond .eq 18, 3) := by decide +kernel
theorem dd_Un_unsqueeze_75 : decode (mm_Un_unsqueeze).2.1 75 = .ok (.aload_n 2, 1) := by decide +kernel
theorem dd_Un_unsqueeze_76 : decode (mm_Un_unsqueeze).2.1 76 = .ok (.getfield 40, 3) := by decide +kernel
theorem dd_Un_unsqueeze_79 : decode (mm_Un_unsqueeze).2.1 79 = .ok (.aload_n 1, 1) := by decide +kernel
theorem dd_Un_unsqueeze_80 : decode (mm_Un_unsqueeze).2.1 80 = .ok (.getfield 43, 3) := by decide +kernel
theorem dd_Un_unsqueeze_83 : decode (mm_Un_unsqueeze).2.1 83 = .ok (.if_icmp .ne 7, 3) := by decide +kernel
theorem dd_Un_unsqueeze_86 : decode (mm_Un_unsqueeze).2.1 86 = .ok (.iconst 1, 1) := by decide +kernel
theorem dd_Un_unsqueeze_87 : decode (mm_Un_unsqueeze).2.1 87 = .ok (.goto 4, 3) := by decide +kernel
theorem dd_Un_unsqueeze_90 : decode (mm_Un_unsqueeze).2.1 90 = .ok (.iconst 0, 1) := by decide +kernel
theorem dd_Un_unsqueeze_91 : decode (mm_Un_unsqueeze).2.1 91 = .ok (.ireturn, 1) := by decide +kernel
theorem dd_Un_unsqueezeRuns_0 : decode (mm_Un_unsqueezeRuns).2.1 0 = .ok (.iload_n 1, 1) := by decide +kernel
theorem dd_Un_unsqueezeRuns_1 : decode (mm_Un_unsqueezeRuns).2.1 1 = .ok (.istore 4, 2) := by decide +kernel
theorem dd_Un_unsqueezeRuns_3 : decode (mm_Un_unsqueezeRuns).2.1 3 = .ok (.iload 4, 2) := by decide +kernel
theorem dd_Un_unsqueezeRuns_5 : decode (mm_Un_unsqueezeRuns).2.1 5 = .ok (.iload_n 2, 1) := by decide +kernel
theorem dd_Un_unsqueezeRuns_6 : decode (mm_Un_unsqueezeRuns).2.1 6 = .ok (.if_icmp .ge 108, 3) := by decide +kernel
theorem dd_Un_unsqueezeRuns_9 : decode (mm_Un_unsqueezeRuns).2.1 9 = .ok (.aload_n 0, 1) := by decide +kernel
theorem dd_Un_unsqueezeRuns_10 : decode (mm_Un_unsqueezeRuns).2.1 10 = .ok (.iload 4, 2) := by decide +kernel
theorem dd_Un_unsqueezeRuns_12 : decode (mm_Un_unsqueezeRuns).2.1 12 = .ok (.invokevirtual 44, 3) := by decide +kernel
theorem dd_Un_unsqueezeRuns_15 : decode (mm_Un_unsqueezeRuns).2.1 15 = .ok (.istore 5, 2) := by decide +kernel
theorem dd_Un_unsqueezeRuns_17 : decode (mm_Un_unsqueezeRuns).2.1 17 = .ok (.iload 5, 2) := by decide +kernel
theorem dd_Un_unsqueezeRuns_19 : decode (mm_Un_unsqueezeRuns).2.1 19 = .ok (.sipush 246, 3) := by decide +kernel
theorem dd_Un_unsqueezeRuns_22 : decode (mm_Un_unsqueezeRuns).2.1 22 = .ok (.if_icmp .lt 7, 3) := by decide +kernel
theorem dd_Un_unsqueezeRuns_25 : decode (mm_Un_unsqueezeRuns).2.1 25 = .ok (.iconst 1, 1) := by decide +kernel
theorem dd_Un_unsqueezeRuns_26 : decode (mm_Un_unsqueezeRuns).2.1 26 = .ok (.goto 4, 3) := by decide +kernel
theorem dd_Un_unsqueezeRuns_29 : decode (mm_Un_unsqueezeRuns).2.1 29 = .ok (.iconst 0, 1) := by decide +kernel
theorem dd_Un_unsqueezeRuns_30 : decode (mm_Un_unsqueezeRuns).2.1 30 = .ok (.istore 6, 2) := by decide +kernel
theorem dd_Un_unsqueezeRuns_32 : decode (mm_Un_unsqueezeRuns).2.1 32 = .ok (.iload 6, 2) := by decide +kernel
theorem dd_Un_unsqueezeRuns_34 : decode (mm_Un_unsqueezeRuns).2.1 34 = .ok (.ifCond .eq 21, 3) := by decide +kernel
theorem dd_Un_unsqueezeRuns_37 : decode (mm_Un_unsqueezeRuns).2.1 37 = .ok (.iload 5, 2) := by decide +kernel
theorem dd_Un_unsqueezeRuns_39 : decode (mm_Un_unsqueezeRuns).2.1 39 = .ok (.sipush 246, 3) := by decide +kernel
theorem dd_Un_unsqueezeRuns_42 : decode (mm_Un_unsqueezeRuns).2.1 42 = .ok (.if_icmp .eq 11, 3) := by decide +kernel
theorem dd_Un_unsqueezeRuns_45 : decode (mm_Un_unsqueezeRuns).2.1 45 = .ok (.iload 4, 2) := by decide +kernel
theorem dd_Un_unsqueezeRuns_47 : decode (mm_Un_unsqueezeRuns).2.1 47 = .ok (.iconst 1, 1) := by decide +kernel
theorem dd_Un_unsqueezeRuns_48 : decode (mm_Un_unsqueezeRuns).2.1 48 = .ok (.iadd, 1) := by decide +kernel
theorem dd_Un_unsqueezeRuns_49 : decode (mm_Un_unsqueezeRuns).2.1 49 = .ok (.iload_n 2, 1) := by decide +kernel
theorem dd_Un_unsqueezeRuns_50 : decode (mm_Un_unsqueezeRuns).2.1 50 = .ok (.if_icmp .lt 5, 3) := by decide +kernel
theorem dd_Un_unsqueezeRuns_53 : decode (mm_Un_unsqueezeRuns).2.1 53 = .ok (.iconst 0, 1) := by decide +kernel
theorem dd_Un_unsqueezeRuns_54 : decode (mm_Un_unsqueezeRuns).2.1 54 = .ok (.ireturn, 1) := by decide +kernel
theorem dd_Un_unsqueezeRuns_55 : decode (mm_Un_unsqueezeRuns).2.1 55 = .ok (.iload 6, 2) := by decide +kernel
theorem dd_Un_unsqueezeRuns_57 : decode (mm_Un_unsqueezeRuns).2.1 57 = .ok (.ifCond .eq 24, 3) := by decide +kernel
theorem dd_Un_unsqueezeRuns_60 : decode (mm_Un_unsqueezeRuns).2.1 60 = .ok (.aload_n 3, 1) := by decide +kernel
theorem dd_Un_unsqueezeRuns_61 : decode (mm_Un_unsqueezeRuns).2.1 61 = .ok (.aload_n 0, 1) := by decide +kernel
theorem dd_Un_unsqueezeRuns_62 : decode (mm_Un_unsqueezeRuns).2.1 62 = .ok (.iload 4, 2) := by decide +kernel
theorem dd_Un_unsqueezeRuns_64 : decode (mm_Un_unsqueezeRuns).2.1 64 = .ok (.iconst 1, 1) := by decide +kernel
theorem dd_Un_unsqueezeRuns_65 : decode (mm_Un_unsqueezeRuns).2.1 65 = .ok (.iadd, 1) := by decide +kernel
theorem dd_Un_unsqueezeRuns_66 : decode (mm_Un_unsqueezeRuns).2.1 66 = .ok (.invokevirtual 44, 3) := by decide +kernel
theorem dd_Un_unsqueezeRuns_69 : decode (mm_Un_unsqueezeRuns).2.1 69 = .ok (.iload 5, 2) := by decide +kernel
theorem dd_Un_unsqueezeRuns_71 : decode (mm_Un_unsqueezeRuns).2.1 71 = .ok (.sipush 246, 3) := by decide +kernel
theorem dd_Un_unsqueezeRuns_74 : decode (mm_Un_unsqueezeRuns).2.1 74 = .ok (.isub, 1) := by decide +kernel
theorem dd_Un_unsqueezeRuns_75 : decode (mm_Un_unsqueezeRuns).2.1 75 = .ok (.invokevirtual 48, 3) := by decide +kernel
theorem dd_Un_unsqueezeRuns_78 : decode (mm_Un_unsqueezeRuns).2.1 78 = .ok (.goto 9, 3) := by decide +kernel
theorem dd_Un_unsqueezeRuns_81 : decode (mm_Un_unsqueezeRuns).2.1 81 = .ok (.aload_n 3, 1) := by decide +kernel
theorem dd_Un_unsqueezeRuns_82 : decode (mm_Un_unsqueezeRuns).2.1 82 = .ok (.iload 5, 2) := by decide +kernel
theorem dd_Un_unsqueezeRuns_84 : decode (mm_Un_unsqueezeRuns).2.1 84 = .ok (.invokevirtual 52, 3) := by decide +kernel
theorem dd_Un_unsqueezeRuns_87 : decode (mm_Un_unsqueezeRuns).2.1 87 = .ok (.istore 7, 2) := by decide +kernel
theorem dd_Un_unsqueezeRuns_89 : decode (mm_Un_unsqueezeRuns).2.1 89 = .ok (.iload 7, 2) := by decide +kernel
theorem dd_Un_unsqueezeRuns_91 : decode (mm_Un_unsqueezeRuns).2.1 91 = .ok (.ifCond .ne 5, 3) := by decide +kernel
theorem dd_Un_unsqueezeRuns_94 : decode (mm_Un_unsqueezeRuns).2.1 94 = .ok (.iconst 0, 1) := by decide +kernel
theorem dd_Un_unsqueezeRuns_95 : decode (mm_Un_unsqueezeRuns).2.1 95 = .ok (.ireturn, 1) := by decide +kernel
theorem dd_Un_unsqueezeRuns_96 : decode (mm_Un_unsqueezeRuns).2.1 96 = .ok (.iload 4, 2) := by decide +kernel
theorem dd_Un_unsqueezeRuns_98 : decode (mm_Un_unsqueezeRuns).2.1 98 = .ok (.iload 6, 2) := by decide +kernel
theorem dd_Un_unsqueezeRuns_100 : decode (mm_Un_unsqueezeRuns).2.1 100 = .ok (.ifCond .eq 7, 3) := by decide +kernel
theorem dd_Un_unsqueezeRuns_103 : decode (mm_Un_unsqueezeRuns).2.1 103 = .ok (.iconst 2, 1) := by decide +kernel
theorem dd_Un_unsqueezeRuns_104 : decode (mm_Un_unsqueezeRuns).2.1 104 = .ok (.goto 4, 3) := by decide +kernel
theorem dd_Un_unsqueezeRuns_107 : decode (mm_Un_unsqueezeRuns).2.1 107 = .ok (.iconst 1, 1) := by decide +kernel
theorem dd_Un_unsqueezeRuns_108 : decode (mm_Un_unsqueezeRuns).2.1 108 = .ok (.iadd, 1) := by decide +kernel
theorem dd_Un_unsqueezeRuns_109 : decode (mm_Un_unsqueezeRuns).2.1 109 = .ok (.istore 4, 2) := by decide +kernel
theorem dd_Un_unsqueezeRuns_111 : decode (mm_Un_unsqueezeRuns).2.1 111 = .ok (.goto (-108), 3) := by decide +kernel
theorem dd_Un_unsqueezeRuns_114 : decode (mm_Un_unsqueezeRuns).2.1 114 = .ok (.iconst 1, 1) := by decide +kernel
theorem dd_Un_unsqueezeRuns_115 : decode (mm_Un_unsqueezeRuns).2.1 115 = .ok (.ireturn, 1) := by decide +kernel
theorem dd_Un_unsqueezeCopies_0 : decode (mm_Un_unsqueezeCopies).2.1 0 = .ok (.iload_n 1, 1) := by decide +kernel
theorem dd_Un_unsqueezeCopies_1 : decode (mm_Un_unsqueezeCopies).2.1 1 = .ok (.istore 4, 2) := by decide +kernel
theorem dd_Un_unsqueezeCopies_3 : decode (mm_Un_unsqueezeCopies).2.1 3 = .ok (.iload 4, 2) := by decide +kernel
theorem dd_Un_unsqueezeCopies_5 : decode (mm_Un_unsqueezeCopies).2.1 5 = .ok (.iload_n 2, 1) := by decide +kernel
theorem dd_Un_unsqueezeCopies_6 : decode (mm_Un_unsqueezeCopies).2.1 6 = .ok (.if_icmp .ge 131, 3) := by decide +kernel
theorem dd_Un_unsqueezeCopies_9 : decode (mm_Un_unsqueezeCopies).2.1 9 = .ok (.aload_n 0, 1) := by decide +kernel
theorem dd_Un_unsqueezeCopies_10 : decode (mm_Un_unsqueezeCopies).2.1 10 = .ok (.iload 4, 2) := by decide +kernel
theorem dd_Un_unsqueezeCopies_12 : decode (mm_Un_unsqueezeCopies).2.1 12 = .ok (.invokevirtual 44, 3) := by decide +kernel
theorem dd_Un_unsqueezeCopies_15 : decode (mm_Un_unsqueezeCopies).2.1 15 = .ok (.istore 5, 2) := by decide +kernel
theorem dd_Un_unsqueezeCopies_17 : decode (mm_Un_unsqueezeCopies).2.1 17 = .ok (.iload 5, 2) := by decide +kernel
theorem dd_Un_unsqueezeCopies_19 : decode (mm_Un_unsqueezeCopies).2.1 19 = .ok (.ifCond .lt 10, 3) := by decide +kernel
theorem dd_Un_unsqueezeCopies_22 : decode (mm_Un_unsqueezeCopies).2.1 22 = .ok (.iload 5, 2) := by decide +kernel
theorem dd_Un_unsqueezeCopies_24 : decode (mm_Un_unsqueezeCopies).2.1 24 = .ok (.bipush 64, 2) := by decide +kernel
theorem dd_Un_unsqueezeCopies_26 : decode (mm_Un_unsqueezeCopies).2.1 26 = .ok (.if_icmp .lt 5, 3) := by decide +kernel
theorem dd_Un_unsqueezeCopies_29 : decode (mm_Un_unsqueezeCopies).2.1 29 = .ok (.iconst 0, 1) := by decide +kernel
theorem dd_Un_unsqueezeCopies_30 : decode (mm_Un_unsqueezeCopies).2.1 30 = .ok (.ireturn, 1) := by decide +kernel
theorem dd_Un_unsqueezeCopies_31 : decode (mm_Un_unsqueezeCopies).2.1 31 = .ok (.iload 5, 2) := by decide +kernel
theorem dd_Un_unsqueezeCopies_33 : decode (mm_Un_unsqueezeCopies).2.1 33 = .ok (.bipush 32, 2) := by decide +kernel
theorem dd_Un_unsqueezeCopies_35 : decode (mm_Un_unsqueezeCopies).2.1 35 = .ok (.if_icmp .lt 7, 3) := by decide +kernel
theorem dd_Un_unsqueezeCopies_38 : decode (mm_Un_unsqueezeCopies).2.1 38 = .ok (.iconst 1, 1) := by decide +kernel
theorem dd_Un_unsqueezeCopies_39 : decode (mm_Un_unsqueezeCopies).2.1 39 = .ok (.goto 4, 3) := by decide +kernel
theorem dd_Un_unsqueezeCopies_42 : decode (mm_Un_unsqueezeCopies).2.1 42 = .ok (.iconst 0, 1) := by decide +kernel
theorem dd_Un_unsqueezeCopies_43 : decode (mm_Un_unsqueezeCopies).2.1 43 = .ok (.istore 6, 2) := by decide +kernel
theorem dd_Un_unsqueezeCopies_45 : decode (mm_Un_unsqueezeCopies).2.1 45 = .ok (.iload 6, 2) := by decide +kernel
theorem dd_Un_unsqueezeCopies_47 : decode (mm_Un_unsqueezeCopies).2.1 47 = .ok (.ifCond .eq 7, 3) := by decide +kernel
theorem dd_Un_unsqueezeCopies_50 : decode (mm_Un_unsqueezeCopies).2.1 50 = .ok (.iconst 1, 1) := by decide +kernel
theorem dd_Un_unsqueezeCopies_51 : decode (mm_Un_unsqueezeCopies).2.1 51 = .ok (.goto 7, 3) := by decide +kernel
theorem dd_Un_unsqueezeCopies_54 : decode (mm_Un_unsqueezeCopies).2.1 54 = .ok (.iload 5, 2) := by decide +kernel
theorem dd_Un_unsqueezeCopies_56 : decode (mm_Un_unsqueezeCopies).2.1 56 = .ok (.iconst 1, 1) := by decide +kernel
theorem dd_Un_unsqueezeCopies_57 : decode (mm_Un_unsqueezeCopies).2.1 57 = .ok (.iadd, 1) := by decide +kernel
theorem dd_Un_unsqueezeCopies_58 : decode (mm_Un_unsqueezeCopies).2.1 58 = .ok (.istore 7, 2) := by decide +kernel
theorem dd_Un_unsqueezeCopies_60 : decode (mm_Un_unsqueezeCopies).2.1 60 = .ok (.iload 4, 2) := by decide +kernel
theorem dd_Un_unsqueezeCopies_62 : decode (mm_Un_unsqueezeCopies).2.1 62 = .ok (.iload 7, 2) := by decide +kernel
theorem dd_Un_unsqueezeCopies_64 : decode (mm_Un_unsqueezeCopies).2.1 64 = .ok (.iadd, 1) := by decide +kernel
theorem dd_Un_unsqueezeCopies_65 : decode (mm_Un_unsqueezeCopies).2.1 65 = .ok (.iload_n 2, 1) := by decide +kernel
theorem dd_Un_unsqueezeCopies_66 : decode (mm_Un_unsqueezeCopies).2.1 66 = .ok (.if_icmp .lt 5, 3) := by decide +kernel
theorem dd_Un_unsqueezeCopies_69 : decode (mm_Un_unsqueezeCopies).2.1 69 = .ok (.iconst 0, 1) := by decide +kernel
theorem dd_Un_unsqueezeCopies_70 : decode (mm_Un_unsqueezeCopies).2.1 70 = .ok (.ireturn, 1) := by decide +kernel
theorem dd_Un_unsqueezeCopies_71 : decode (mm_Un_unsqueezeCopies).2.1 71 = .ok (.iload 6, 2) := by decide +kernel
theorem dd_Un_unsqueezeCopies_73 : decode (mm_Un_unsqueezeCopies).2.1 73 = .ok (.ifCond .eq 27, 3) := by decide +kernel
theorem dd_Un_unsqueezeCopies_76 : decode (mm_Un_unsqueezeCopies).2.1 76 = .ok (.aload_n 3, 1) := by decide +kernel
theorem dd_Un_unsqueezeCopies_77 : decode (mm_Un_unsqueezeCopies).2.1 77 = .ok (.iload 5, 2) := by decide +kernel
theorem dd_Un_unsqueezeCopies_79 : decode (mm_Un_unsqueezeCopies).2.1 79 = .ok (.bipush 32, 2) := by decide +kernel
theorem dd_Un_unsqueezeCopies_81 : decode (mm_Un_unsqueezeCopies).2.1 81 = .ok (.isub, 1) := by decide +kernel
theorem dd_Un_unsqueezeCopies_82 : decode (mm_Un_unsqueezeCopies).2.1 82 = .ok (.iconst 3, 1) := by decide +kernel
theorem dd_Un_unsqueezeCopies_83 : decode (mm_Un_unsqueezeCopies).2.1 83 = .ok (.iadd, 1) := by decide +kernel
theorem dd_Un_unsqueezeCopies_84 : decode (mm_Un_unsqueezeCopies).2.1 84 = .ok (.aload_n 0, 1) := by decide +kernel
theorem dd_Un_unsqueezeCopies_85 : decode (mm_Un_unsqueezeCopies).2.1 85 = .ok (.iload 4, 2) := by decide +kernel
theorem dd_Un_unsqueezeCopies_87 : decode (mm_Un_unsqueezeCopies).2.1 87 = .ok (.iconst 1, 1) := by decide +kernel
theorem dd_Un_unsqueezeCopies_88 : decode (mm_Un_unsqueezeCopies).2.1 88 = .ok (.iadd, 1) := by decide +kernel
theorem dd_Un_unsqueezeCopies_89 : decode (mm_Un_unsqueezeCopies).2.1 89 = .ok (.invokevirtual 44, 3) := by decide +kernel
theorem dd_Un_unsqueezeCopies_92 : decode (mm_Un_unsqueezeCopies).2.1 92 = .ok (.iconst 1, 1) := by decide +kernel
theorem dd_Un_unsqueezeCopies_93 : decode (mm_Un_unsqueezeCopies).2.1 93 = .ok (.iadd, 1) := by decide +kernel
theorem dd_Un_unsqueezeCopies_94 : decode (mm_Un_unsqueezeCopies).2.1 94 = .ok (.invokestatic 56, 3) := by decide +kernel
theorem dd_Un_unsqueezeCopies_97 : decode (mm_Un_unsqueezeCopies).2.1 97 = .ok (.goto 19, 3) := by decide +kernel
theorem dd_Un_unsqueezeCopies_100 : decode (mm_Un_unsqueezeCopies).2.1 100 = .ok (.aload_n 3, 1) := by decide +kernel
theorem dd_Un_unsqueezeCopies_101 : decode (mm_Un_unsqueezeCopies).2.1 101 = .ok (.aload_n 0, 1) := by decide +kernel
theorem dd_Un_unsqueezeCopies_102 : decode (mm_Un_unsqueezeCopies).2.1 102 = .ok (.iload 4, 2) := by decide +kernel
theorem dd_Un_unsqueezeCopies_104 : decode (mm_Un_unsqueezeCopies).2.1 104 = .ok (.iconst 1, 1) := by decide +kernel
theorem dd_Un_unsqueezeCopies_105 : decode (mm_Un_unsqueezeCopies).2.1 105 = .ok (.iadd, 1) := by decide +kernel
theorem dd_Un_unsqueezeCopies_106 : decode (mm_Un_unsqueezeCopies).2.1 106 = .ok (.iload 4, 2) := by decide +kernel
theorem dd_Un_unsqueezeCopies_108 : decode (mm_Un_unsqueezeCopies).2.1 108 = .ok (.iconst 1, 1) := by decide +kernel
theorem dd_Un_unsqueezeCopies_109 : decode (mm_Un_unsqueezeCopies).2.1 109 = .ok (.iadd, 1) := by decide +kernel
theorem dd_Un_unsqueezeCopies_110 : decode (mm_Un_unsqueezeCopies).2.1 110 = .ok (.iload 7, 2) := by decide +kernel
theorem dd_Un_unsqueezeCopies_112 : decode (mm_Un_unsqueezeCopies).2.1 112 = .ok (.iadd, 1) := by decide +kernel
theorem dd_Un_unsqueezeCopies_113 : decode (mm_Un_unsqueezeCopies).2.1 113 = .ok (.invokevirtual 36, 3) := by decide +kernel
theorem dd_Un_unsqueezeCopies_116 : decode (mm_Un_unsqueezeCopies).2.1 116 = .ok (.istore 8, 2) := by decide +kernel
theorem dd_Un_unsqueezeCopies_118 : decode (mm_Un_unsqueezeCopies).2.1 118 = .ok (.iload 8, 2) := by decide +kernel
theorem dd_Un_unsqueezeCopies_120 : decode (mm_Un_unsqueezeCopies).2.1 120 = .ok (.ifCond .ne 5, 3) := by decide +kernel
theorem dd_Un_unsqueezeCopies_123 : decode (mm_Un_unsqueezeCopies).2.1 123 = .ok (.iconst 0, 1) := by decide +kernel
theorem dd_Un_unsqueezeCopies_124 : decode (mm_Un_unsqueezeCopies).2.1 124 = .ok (.ireturn, 1) := by decide +kernel
theorem dd_Un_unsqueezeCopies_125 : decode (mm_Un_unsqueezeCopies).2.1 125 = .ok (.iload 4, 2) := by decide +kernel
theorem dd_Un_unsqueezeCopies_127 : decode (mm_Un_unsqueezeCopies).2.1 127 = .ok (.iconst 1, 1) := by decide +kernel
theorem dd_Un_unsqueezeCopies_128 : decode (mm_Un_unsqueezeCopies).2.1 128 = .ok (.iload 7, 2) := by decide +kernel
theorem dd_Un_unsqueezeCopies_130 : decode (mm_Un_unsqueezeCopies).2.1 130 = .ok (.iadd, 1) := by decide +kernel
theorem dd_Un_unsqueezeCopies_131 : decode (mm_Un_unsqueezeCopies).2.1 131 = .ok (.iadd, 1) := by decide +kernel
theorem dd_Un_unsqueezeCopies_132 : decode (mm_Un_unsqueezeCopies).2.1 132 = .ok (.istore 4, 2) := by decide +kernel
theorem dd_Un_unsqueezeCopies_134 : decode (mm_Un_unsqueezeCopies).2.1 134 = .ok (.goto (-131), 3) := by decide +kernel
theorem dd_Un_unsqueezeCopies_137 : decode (mm_Un_unsqueezeCopies).2.1 137 = .ok (.iconst 1, 1) := by decide +kernel
theorem dd_Un_unsqueezeCopies_138 : decode (mm_Un_unsqueezeCopies).2.1 138 = .ok (.ireturn, 1) := by decide +kernel
theorem dd_Un_copyBack_0 : decode (mm_Un_copyBack).2.1 0 = .ok (.iload_n 2, 1) := by decide +kernel
theorem dd_Un_copyBack_1 : decode (mm_Un_copyBack).2.1 1 = .ok (.bipush 32, 2) := by decide +kernel
theorem dd_Un_copyBack_3 : decode (mm_Un_copyBack).2.1 3 = .ok (.if_icmp .gt 11, 3) := by decide +kernel
theorem dd_Un_copyBack_6 : decode (mm_Un_copyBack).2.1 6 = .ok (.iload_n 2, 1) := by decide +kernel
theorem dd_Un_copyBack_7 : decode (mm_Un_copyBack).2.1 7 = .ok (.aload_n 0, 1) := by decide +kernel
theorem dd_Un_copyBack_8 : decode (mm_Un_copyBack).2.1 8 = .ok (.getfield 40, 3) := by decide +kernel
theorem dd_Un_copyBack_11 : decode (mm_Un_copyBack).2.1 11 = .ok (.if_icmp .le 5, 3) := by decide +kernel
theorem dd_Un_copyBack_14 : decode (mm_Un_copyBack).2.1 14 = .ok (.iconst 0, 1) := by decide +kernel
theorem dd_Un_copyBack_15 : decode (mm_Un_copyBack).2.1 15 = .ok (.ireturn, 1) := by decide +kernel
theorem dd_Un_copyBack_16 : decode (mm_Un_copyBack).2.1 16 = .ok (.iconst 0, 1) := by decide +kernel
theorem dd_Un_copyBack_17 : decode (mm_Un_copyBack).2.1 17 = .ok (.istore_n 3, 1) := by decide +kernel
theorem dd_Un_copyBack_18 : decode (mm_Un_copyBack).2.1 18 = .ok (.iload_n 3, 1) := by decide +kernel
theorem dd_Un_copyBack_19 : decode (mm_Un_copyBack).2.1 19 = .ok (.iload_n 1, 1) := by decide +kernel
theorem dd_Un_copyBack_20 : decode (mm_Un_copyBack).2.1 20 = .ok (.if_icmp .ge 28, 3) := by decide +kernel
theorem dd_Un_copyBack_23 : decode (mm_Un_copyBack).2.1 23 = .ok (.aload_n 0, 1) := by decide +kernel
theorem dd_Un_copyBack_24 : decode (mm_Un_copyBack).2.1 24 = .ok (.aload_n 0, 1) := by decide +kernel
theorem dd_Un_copyBack_25 : decode (mm_Un_copyBack).2.1 25 = .ok (.aload_n 0, 1) := by decide +kernel
theorem dd_Un_copyBack_26 : decode (mm_Un_copyBack).2.1 26 = .ok (.getfield 40, 3) := by decide +kernel
theorem dd_Un_copyBack_29 : decode (mm_Un_copyBack).2.1 29 = .ok (.iload_n 2, 1) := by decide +kernel
theorem dd_Un_copyBack_30 : decode (mm_Un_copyBack).2.1 30 = .ok (.isub, 1) := by decide +kernel
theorem dd_Un_copyBack_31 : decode (mm_Un_copyBack).2.1 31 = .ok (.invokevirtual 44, 3) := by decide +kernel
theorem dd_Un_copyBack_34 : decode (mm_Un_copyBack).2.1 34 = .ok (.invokevirtual 52, 3) := by decide +kernel
theorem dd_Un_copyBack_37 : decode (mm_Un_copyBack).2.1 37 = .ok (.ifCond .ne 5, 3) := by decide +kernel
theorem dd_Un_copyBack_40 : decode (mm_Un_copyBack).2.1 40 = .ok (.iconst 0, 1) := by decide +kernel
theorem dd_Un_copyBack_41 : decode (mm_Un_copyBack).2.1 41 = .ok (.ireturn, 1) := by decide +kernel
theorem dd_Un_copyBack_42 : decode (mm_Un_copyBack).2.1 42 = .ok (.iinc 3 1, 3) := by decide +kernel
theorem dd_Un_copyBack_45 : decode (mm_Un_copyBack).2.1 45 = .ok (.goto (-27), 3) := by decide +kernel
theorem dd_Un_copyBack_48 : decode (mm_Un_copyBack).2.1 48 = .ok (.iconst 1, 1) := by decide +kernel
theorem dd_Un_copyBack_49 : decode (mm_Un_copyBack).2.1 49 = .ok (.ireturn, 1) := by decide +kernel
theorem dd_AB_taken_0 : decode (mm_AB_taken).2.1 0 = .ok (.aload_n 0, 1) := by decide +kernel
theorem dd_AB_taken_1 : decode (mm_AB_taken).2.1 1 = .ok (.getfield 38, 3) := by decide +kernel
theorem dd_AB_taken_4 : decode (mm_AB_taken).2.1 4 = .ok (.iload_n 1, 1) := by decide +kernel
theorem dd_AB_taken_5 : decode (mm_AB_taken).2.1 5 = .ok (.invokevirtual 97, 3) := by decide +kernel
theorem dd_AB_taken_8 : decode (mm_AB_taken).2.1 8 = .ok (.ireturn, 1) := by decide +kernel
theorem dd_AB_file_0 : decode (mm_AB_file).2.1 0 = .ok (.aload_n 0, 1) := by decide +kernel
theorem dd_AB_file_1 : decode (mm_AB_file).2.1 1 = .ok (.getfield 31, 3) := by decide +kernel
theorem dd_AB_file_4 : decode (mm_AB_file).2.1 4 = .ok (.iload_n 1, 1) := by decide +kernel
theorem dd_AB_file_5 : decode (mm_AB_file).2.1 5 = .ok (.invokevirtual 115, 3) := by decide +kernel
theorem dd_AB_file_8 : decode (mm_AB_file).2.1 8 = .ok (.ifCond .eq 19, 3) := by decide +kernel
theorem dd_AB_file_11 : decode (mm_AB_file).2.1 11 = .ok (.aload_n 0, 1) := by decide +kernel
theorem dd_AB_file_12 : decode (mm_AB_file).2.1 12 = .ok (.getfield 31, 3) := by decide +kernel
theorem dd_AB_file_15 : decode (mm_AB_file).2.1 15 = .ok (.getfield 118, 3) := by decide +kernel
theorem dd_AB_file_18 : decode (mm_AB_file).2.1 18 = .ok (.iload_n 1, 1) := by decide +kernel
theorem dd_AB_file_19 : decode (mm_AB_file).2.1 19 = .ok (.aaload, 1) := by decide +kernel
theorem dd_AB_file_20 : decode (mm_AB_file).2.1 20 = .ok (.iload_n 2, 1) := by decide +kernel
theorem dd_AB_file_21 : decode (mm_AB_file).2.1 21 = .ok (.invokevirtual 141, 3) := by decide +kernel
theorem dd_AB_file_24 : decode (mm_AB_file).2.1 24 = .ok (.goto 4, 3) := by decide +kernel
theorem dd_AB_file_27 : decode (mm_AB_file).2.1 27 = .ok (.iconst (-1), 1) := by decide +kernel
theorem dd_AB_file_28 : decode (mm_AB_file).2.1 28 = .ok (.ireturn, 1) := by decide +kernel
theorem dd_OF_tell_0 : decode (mm_OF_tell).2.1 0 = .ok (.iload_n 1, 1) := by decide +kernel
theorem dd_OF_tell_1 : decode (mm_OF_tell).2.1 1 = .ok (.tableswitch 72 0 5 #[39, 44, 52, 57, 62, 67], 39) := by decide +kernel
theorem dd_OF_tell_40 : decode (mm_OF_tell).2.1 40 = .ok (.aload_n 0, 1) := by decide +kernel
theorem dd_OF_tell_41 : decode (mm_OF_tell).2.1 41 = .ok (.getfield 20, 3) := by decide +kernel
theorem dd_OF_tell_44 : decode (mm_OF_tell).2.1 44 = .ok (.ireturn, 1) := by decide +kernel
theorem dd_OF_tell_45 : decode (mm_OF_tell).2.1 45 = .ok (.aload_n 0, 1) := by decide +kernel
theorem dd_OF_tell_46 : decode (mm_OF_tell).2.1 46 = .ok (.getfield 14, 3) := by decide +kernel
theorem dd_OF_tell_49 : decode (mm_OF_tell).2.1 49 = .ok (.getfield 24, 3) := by decide +kernel
theorem dd_OF_tell_52 : decode (mm_OF_tell).2.1 52 = .ok (.ireturn, 1) := by decide +kernel
theorem dd_OF_tell_53 : decode (mm_OF_tell).2.1 53 = .ok (.aload_n 0, 1) := by decide +kernel
theorem dd_OF_tell_54 : decode (mm_OF_tell).2.1 54 = .ok (.getfield 27, 3) := by decide +kernel
theorem dd_OF_tell_57 : decode (mm_OF_tell).2.1 57 = .ok (.ireturn, 1) := by decide +kernel
theorem dd_OF_tell_58 : decode (mm_OF_tell).2.1 58 = .ok (.aload_n 0, 1) := by decide +kernel
theorem dd_OF_tell_59 : decode (mm_OF_tell).2.1 59 = .ok (.getfield 30, 3) := by decide +kernel
theorem dd_OF_tell_62 : decode (mm_OF_tell).2.1 62 = .ok (.ireturn, 1) := by decide +kernel
theorem dd_OF_tell_63 : decode (mm_OF_tell).2.1 63 = .ok (.aload_n 0, 1) := by decide +kernel
theorem dd_OF_tell_64 : decode (mm_OF_tell).2.1 64 = .ok (.getfield 33, 3) := by decide +kernel
theorem dd_OF_tell_67 : decode (mm_OF_tell).2.1 67 = .ok (.ireturn, 1) := by decide +kernel
theorem dd_OF_tell_68 : decode (mm_OF_tell).2.1 68 = .ok (.aload_n 0, 1) := by decide +kernel
theorem dd_OF_tell_69 : decode (mm_OF_tell).2.1 69 = .ok (.getfield 34, 3) := by decide +kernel
theorem dd_OF_tell_72 : decode (mm_OF_tell).2.1 72 = .ok (.ireturn, 1) := by decide +kernel
theorem dd_OF_tell_73 : decode (mm_OF_tell).2.1 73 = .ok (.iload_n 1, 1) := by decide +kernel
theorem dd_OF_tell_74 : decode (mm_OF_tell).2.1 74 = .ok (.bipush 16, 2) := by decide +kernel
theorem dd_OF_tell_76 : decode (mm_OF_tell).2.1 76 = .ok (.if_icmp .ge 7, 3) := by decide +kernel
theorem dd_OF_tell_79 : decode (mm_OF_tell).2.1 79 = .ok (.iconst (-1), 1) := by decide +kernel
theorem dd_OF_tell_80 : decode (mm_OF_tell).2.1 80 = .ok (.goto 14, 3) := by decide +kernel
theorem dd_OF_tell_83 : decode (mm_OF_tell).2.1 83 = .ok (.aload_n 0, 1) := by decide +kernel
theorem dd_OF_tell_84 : decode (mm_OF_tell).2.1 84 = .ok (.getfield 14, 3) := by decide +kernel
theorem dd_OF_tell_87 : decode (mm_OF_tell).2.1 87 = .ok (.iload_n 1, 1) := by decide +kernel
theorem dd_OF_tell_88 : decode (mm_OF_tell).2.1 88 = .ok (.bipush 16, 2) := by decide +kernel
theorem dd_OF_tell_90 : decode (mm_OF_tell).2.1 90 = .ok (.isub, 1) := by decide +kernel
theorem dd_OF_tell_91 : decode (mm_OF_tell).2.1 91 = .ok (.invokevirtual 37, 3) := by decide +kernel
theorem dd_OF_tell_94 : decode (mm_OF_tell).2.1 94 = .ok (.ireturn, 1) := by decide +kernel
theorem dd_AB_count_0 : decode (mm_AB_count).2.1 0 = .ok (.iload_n 1, 1) := by decide +kernel
theorem dd_AB_count_1 : decode (mm_AB_count).2.1 1 = .ok (.tableswitch 90 0 5 #[39, 47, 58, 66, 74, 82], 39) := by decide +kernel
theorem dd_AB_count_40 : decode (mm_AB_count).2.1 40 = .ok (.aload_n 0, 1) := by decide +kernel
theorem dd_AB_count_41 : decode (mm_AB_count).2.1 41 = .ok (.getfield 24, 3) := by decide +kernel
theorem dd_AB_count_44 : decode (mm_AB_count).2.1 44 = .ok (.getfield 59, 3) := by decide +kernel
theorem dd_AB_count_47 : decode (mm_AB_count).2.1 47 = .ok (.ireturn, 1) := by decide +kernel
theorem dd_AB_count_48 : decode (mm_AB_count).2.1 48 = .ok (.aload_n 0, 1) := by decide +kernel
theorem dd_AB_count_49 : decode (mm_AB_count).2.1 49 = .ok (.getfield 31, 3) := by decide +kernel
theorem dd_AB_count_52 : decode (mm_AB_count).2.1 52 = .ok (.getfield 84, 3) := by decide +kernel
theorem dd_AB_count_55 : decode (mm_AB_count).2.1 55 = .ok (.getfield 48, 3) := by decide +kernel
theorem dd_AB_count_58 : decode (mm_AB_count).2.1 58 = .ok (.ireturn, 1) := by decide +kernel
theorem dd_AB_count_59 : decode (mm_AB_count).2.1 59 = .ok (.aload_n 0, 1) := by decide +kernel
theorem dd_AB_count_60 : decode (mm_AB_count).2.1 60 = .ok (.getfield 31, 3) := by decide +kernel
theorem dd_AB_count_63 : decode (mm_AB_count).2.1 63 = .ok (.getfield 144, 3) := by decide +kernel
theorem dd_AB_count_66 : decode (mm_AB_count).2.1 66 = .ok (.ireturn, 1) := by decide +kernel
theorem dd_AB_count_67 : decode (mm_AB_count).2.1 67 = .ok (.aload_n 0, 1) := by decide +kernel
theorem dd_AB_count_68 : decode (mm_AB_count).2.1 68 = .ok (.getfield 14, 3) := by decide +kernel
theorem dd_AB_count_71 : decode (mm_AB_count).2.1 71 = .ok (.getfield 48, 3) := by decide +kernel
theorem dd_AB_count_74 : decode (mm_AB_count).2.1 74 = .ok (.ireturn, 1) := by decide +kernel
theorem dd_AB_count_75 : decode (mm_AB_count).2.1 75 = .ok (.aload_n 0, 1) := by decide +kernel
theorem dd_AB_count_76 : decode (mm_AB_count).2.1 76 = .ok (.getfield 18, 3) := by decide +kernel
theorem dd_AB_count_79 : decode (mm_AB_count).2.1 79 = .ok (.getfield 48, 3) := by decide +kernel
theorem dd_AB_count_82 : decode (mm_AB_count).2.1 82 = .ok (.ireturn, 1) := by decide +kernel
theorem dd_AB_count_83 : decode (mm_AB_count).2.1 83 = .ok (.aload_n 0, 1) := by decide +kernel
theorem dd_AB_count_84 : decode (mm_AB_count).2.1 84 = .ok (.getfield 38, 3) := by decide +kernel
theorem dd_AB_count_87 : decode (mm_AB_count).2.1 87 = .ok (.getfield 48, 3) := by decide +kernel
theorem dd_AB_count_90 : decode (mm_AB_count).2.1 90 = .ok (.ireturn, 1) := by decide +kernel
theorem dd_AB_count_91 : decode (mm_AB_count).2.1 91 = .ok (.iconst (-1), 1) := by decide +kernel
theorem dd_AB_count_92 : decode (mm_AB_count).2.1 92 = .ok (.ireturn, 1) := by decide +kernel
theorem dd_Md_init_0 : decode (mm_Md_init).2.1 0 = .ok (.aload_n 0, 1) := by decide +kernel
theorem dd_Md_init_1 : decode (mm_Md_init).2.1 1 = .ok (.invokespecial 1, 3) := by decide +kernel
theorem dd_Md_init_4 : decode (mm_Md_init).2.1 4 = .ok (.aload_n 0, 1) := by decide +kernel
theorem dd_Md_init_5 : decode (mm_Md_init).2.1 5 = .ok (.bipush 8, 2) := by decide +kernel
theorem dd_Md_init_7 : decode (mm_Md_init).2.1 7 = .ok (.newarray .int, 2) := by decide +kernel
theorem dd_Md_init_9 : decode (mm_Md_init).2.1 9 = .ok (.putfield 7, 3) := by decide +kernel
theorem dd_Md_init_12 : decode (mm_Md_init).2.1 12 = .ok (.aload_n 0, 1) := by decide +kernel
theorem dd_Md_init_13 : decode (mm_Md_init).2.1 13 = .ok (.bipush 60, 2) := by decide +kernel
theorem dd_Md_init_15 : decode (mm_Md_init).2.1 15 = .ok (.newarray .int, 2) := by decide +kernel
theorem dd_Md_init_17 : decode (mm_Md_init).2.1 17 = .ok (.putfield 13, 3) := by decide +kernel
theorem dd_Md_init_20 : decode (mm_Md_init).2.1 20 = .ok (.aload_n 0, 1) := by decide +kernel
theorem dd_Md_init_21 : decode (mm_Md_init).2.1 21 = .ok (.bipush 6, 2) := by decide +kernel
theorem dd_Md_init_23 : decode (mm_Md_init).2.1 23 = .ok (.newarray .int, 2) := by decide +kernel
theorem dd_Md_init_25 : decode (mm_Md_init).2.1 25 = .ok (.putfield 16, 3) := by decide +kernel
theorem dd_Md_init_28 : decode (mm_Md_init).2.1 28 = .ok (.aload_n 0, 1) := by decide +kernel
theorem dd_Md_init_29 : decode (mm_Md_init).2.1 29 = .ok (.bipush 6, 2) := by decide +kernel
theorem dd_Md_init_31 : decode (mm_Md_init).2.1 31 = .ok (.newarray .int, 2) := by decide +kernel
theorem dd_Md_init_33 : decode (mm_Md_init).2.1 33 = .ok (.putfield 19, 3) := by decide +kernel
theorem dd_Md_init_36 : decode (mm_Md_init).2.1 36 = .ok (.aload_n 0, 1) := by decide +kernel
theorem dd_Md_init_37 : decode (mm_Md_init).2.1 37 = .ok (.bipush 48, 2) := by decide +kernel
theorem dd_Md_init_39 : decode (mm_Md_init).2.1 39 = .ok (.newarray .int, 2) := by decide +kernel
end
section
theorem dd_Md_init_41 : decode (mm_Md_init).2.1 41 = .ok (.putfield 22, 3) := by decide +kernel
theorem dd_Md_init_44 : decode (mm_Md_init).2.1 44 = .ok (.aload_n 0, 1) := by decide +kernel
theorem dd_Md_init_45 : decode (mm_Md_init).2.1 45 = .ok (.bipush 6, 2) := by decide +kernel
theorem dd_Md_init_47 : decode (mm_Md_init).2.1 47 = .ok (.newarray .int, 2) := by decide +kernel
theorem dd_Md_init_49 : decode (mm_Md_init).2.1 49 = .ok (.putfield 25, 3) := by decide +kernel
theorem dd_Md_init_52 : decode (mm_Md_init).2.1 52 = .ok (.aload_n 0, 1) := by decide +kernel
theorem dd_Md_init_53 : decode (mm_Md_init).2.1 53 = .ok (.sipush 360, 3) := by decide +kernel
theorem dd_Md_init_56 : decode (mm_Md_init).2.1 56 = .ok (.newarray .int, 2) := by decide +kernel
theorem dd_Md_init_58 : decode (mm_Md_init).2.1 58 = .ok (.putfield 28, 3) := by decide +kernel
theorem dd_Md_init_61 : decode (mm_Md_init).2.1 61 = .ok (.aload_n 0, 1) := by decide +kernel
theorem dd_Md_init_62 : decode (mm_Md_init).2.1 62 = .ok (.sipush 600, 3) := by decide +kernel
theorem dd_Md_init_65 : decode (mm_Md_init).2.1 65 = .ok (.newarray .int, 2) := by decide +kernel
theorem dd_Md_init_67 : decode (mm_Md_init).2.1 67 = .ok (.putfield 31, 3) := by decide +kernel
theorem dd_Md_init_70 : decode (mm_Md_init).2.1 70 = .ok (.aload_n 0, 1) := by decide +kernel
theorem dd_Md_init_71 : decode (mm_Md_init).2.1 71 = .ok (.sipush 1200, 3) := by decide +kernel
theorem dd_Md_init_74 : decode (mm_Md_init).2.1 74 = .ok (.newarray .int, 2) := by decide +kernel
theorem dd_Md_init_76 : decode (mm_Md_init).2.1 76 = .ok (.putfield 34, 3) := by decide +kernel
theorem dd_Md_init_79 : decode (mm_Md_init).2.1 79 = .ok (.aload_n 0, 1) := by decide +kernel
theorem dd_Md_init_80 : decode (mm_Md_init).2.1 80 = .ok (.bipush 84, 2) := by decide +kernel
theorem dd_Md_init_82 : decode (mm_Md_init).2.1 82 = .ok (.newarray .int, 2) := by decide +kernel
theorem dd_Md_init_84 : decode (mm_Md_init).2.1 84 = .ok (.putfield 37, 3) := by decide +kernel
theorem dd_Md_init_87 : decode (mm_Md_init).2.1 87 = .ok (.aload_n 0, 1) := by decide +kernel
theorem dd_Md_init_88 : decode (mm_Md_init).2.1 88 = .ok (.iconst (-1), 1) := by decide +kernel
theorem dd_Md_init_89 : decode (mm_Md_init).2.1 89 = .ok (.putfield 40, 3) := by decide +kernel
theorem dd_Md_init_92 : decode (mm_Md_init).2.1 92 = .ok (.aload_n 0, 1) := by decide +kernel
theorem dd_Md_init_93 : decode (mm_Md_init).2.1 93 = .ok (.bipush 60, 2) := by decide +kernel
theorem dd_Md_init_95 : decode (mm_Md_init).2.1 95 = .ok (.newarray .int, 2) := by decide +kernel
theorem dd_Md_init_97 : decode (mm_Md_init).2.1 97 = .ok (.putfield 44, 3) := by decide +kernel
theorem dd_Md_init_100 : decode (mm_Md_init).2.1 100 = .ok (.aload_n 0, 1) := by decide +kernel
theorem dd_Md_init_101 : decode (mm_Md_init).2.1 101 = .ok (.sipush 400, 3) := by decide +kernel
theorem dd_Md_init_104 : decode (mm_Md_init).2.1 104 = .ok (.newarray .int, 2) := by decide +kernel
theorem dd_Md_init_106 : decode (mm_Md_init).2.1 106 = .ok (.putfield 47, 3) := by decide +kernel
theorem dd_Md_init_109 : decode (mm_Md_init).2.1 109 = .ok (.return_, 1) := by decide +kernel
theorem dd_Md_name_0 : decode (mm_Md_name).2.1 0 = .ok (.iload_n 1, 1) := by decide +kernel
theorem dd_Md_name_1 : decode (mm_Md_name).2.1 1 = .ok (.invokestatic 54, 3) := by decide +kernel
theorem dd_Md_name_4 : decode (mm_Md_name).2.1 4 = .ok (.ifCond .ne 5, 3) := by decide +kernel
theorem dd_Md_name_7 : decode (mm_Md_name).2.1 7 = .ok (.iconst (-1), 1) := by decide +kernel
theorem dd_Md_name_8 : decode (mm_Md_name).2.1 8 = .ok (.ireturn, 1) := by decide +kernel
theorem dd_Md_name_9 : decode (mm_Md_name).2.1 9 = .ok (.aload_n 0, 1) := by decide +kernel
theorem dd_Md_name_10 : decode (mm_Md_name).2.1 10 = .ok (.getfield 58, 3) := by decide +kernel
theorem dd_Md_name_13 : decode (mm_Md_name).2.1 13 = .ok (.bipush 8, 2) := by decide +kernel
theorem dd_Md_name_15 : decode (mm_Md_name).2.1 15 = .ok (.if_icmp .ne 6, 3) := by decide +kernel
theorem dd_Md_name_18 : decode (mm_Md_name).2.1 18 = .ok (.bipush (-2), 2) := by decide +kernel
theorem dd_Md_name_20 : decode (mm_Md_name).2.1 20 = .ok (.ireturn, 1) := by decide +kernel
theorem dd_Md_name_21 : decode (mm_Md_name).2.1 21 = .ok (.aload_n 0, 1) := by decide +kernel
theorem dd_Md_name_22 : decode (mm_Md_name).2.1 22 = .ok (.getfield 7, 3) := by decide +kernel
theorem dd_Md_name_25 : decode (mm_Md_name).2.1 25 = .ok (.aload_n 0, 1) := by decide +kernel
theorem dd_Md_name_26 : decode (mm_Md_name).2.1 26 = .ok (.getfield 58, 3) := by decide +kernel
theorem dd_Md_name_29 : decode (mm_Md_name).2.1 29 = .ok (.iload_n 1, 1) := by decide +kernel
theorem dd_Md_name_30 : decode (mm_Md_name).2.1 30 = .ok (.iastore, 1) := by decide +kernel
theorem dd_Md_name_31 : decode (mm_Md_name).2.1 31 = .ok (.aload_n 0, 1) := by decide +kernel
theorem dd_Md_name_32 : decode (mm_Md_name).2.1 32 = .ok (.dup, 1) := by decide +kernel
theorem dd_Md_name_33 : decode (mm_Md_name).2.1 33 = .ok (.getfield 58, 3) := by decide +kernel
theorem dd_Md_name_36 : decode (mm_Md_name).2.1 36 = .ok (.iconst 1, 1) := by decide +kernel
theorem dd_Md_name_37 : decode (mm_Md_name).2.1 37 = .ok (.iadd, 1) := by decide +kernel
theorem dd_Md_name_38 : decode (mm_Md_name).2.1 38 = .ok (.putfield 58, 3) := by decide +kernel
theorem dd_Md_name_41 : decode (mm_Md_name).2.1 41 = .ok (.aload_n 0, 1) := by decide +kernel
theorem dd_Md_name_42 : decode (mm_Md_name).2.1 42 = .ok (.getfield 58, 3) := by decide +kernel
theorem dd_Md_name_45 : decode (mm_Md_name).2.1 45 = .ok (.ireturn, 1) := by decide +kernel
theorem dd_Md_sign_0 : decode (mm_Md_sign).2.1 0 = .ok (.iload_n 0, 1) := by decide +kernel
theorem dd_Md_sign_1 : decode (mm_Md_sign).2.1 1 = .ok (.bipush 97, 2) := by decide +kernel
theorem dd_Md_sign_3 : decode (mm_Md_sign).2.1 3 = .ok (.bipush 122, 2) := by decide +kernel
theorem dd_Md_sign_5 : decode (mm_Md_sign).2.1 5 = .ok (.invokestatic 50, 3) := by decide +kernel
theorem dd_Md_sign_8 : decode (mm_Md_sign).2.1 8 = .ok (.ifCond .ne 15, 3) := by decide +kernel
theorem dd_Md_sign_11 : decode (mm_Md_sign).2.1 11 = .ok (.iload_n 0, 1) := by decide +kernel
theorem dd_Md_sign_12 : decode (mm_Md_sign).2.1 12 = .ok (.bipush 46, 2) := by decide +kernel
theorem dd_Md_sign_14 : decode (mm_Md_sign).2.1 14 = .ok (.if_icmp .eq 9, 3) := by decide +kernel
theorem dd_Md_sign_17 : decode (mm_Md_sign).2.1 17 = .ok (.iload_n 0, 1) := by decide +kernel
theorem dd_Md_sign_18 : decode (mm_Md_sign).2.1 18 = .ok (.bipush 47, 2) := by decide +kernel
theorem dd_Md_sign_20 : decode (mm_Md_sign).2.1 20 = .ok (.if_icmp .ne 7, 3) := by decide +kernel
theorem dd_Md_sign_23 : decode (mm_Md_sign).2.1 23 = .ok (.iconst 1, 1) := by decide +kernel
theorem dd_Md_sign_24 : decode (mm_Md_sign).2.1 24 = .ok (.goto 4, 3) := by decide +kernel
theorem dd_Md_sign_27 : decode (mm_Md_sign).2.1 27 = .ok (.iconst 0, 1) := by decide +kernel
theorem dd_Md_sign_28 : decode (mm_Md_sign).2.1 28 = .ok (.ireturn, 1) := by decide +kernel
theorem dd_Md_in_0 : decode (mm_Md_in).2.1 0 = .ok (.iload_n 0, 1) := by decide +kernel
theorem dd_Md_in_1 : decode (mm_Md_in).2.1 1 = .ok (.iload_n 1, 1) := by decide +kernel
theorem dd_Md_in_2 : decode (mm_Md_in).2.1 2 = .ok (.if_icmp .lt 12, 3) := by decide +kernel
theorem dd_Md_in_5 : decode (mm_Md_in).2.1 5 = .ok (.iload_n 0, 1) := by decide +kernel
theorem dd_Md_in_6 : decode (mm_Md_in).2.1 6 = .ok (.iload_n 2, 1) := by decide +kernel
theorem dd_Md_in_7 : decode (mm_Md_in).2.1 7 = .ok (.if_icmp .gt 7, 3) := by decide +kernel
theorem dd_Md_in_10 : decode (mm_Md_in).2.1 10 = .ok (.iconst 1, 1) := by decide +kernel
theorem dd_Md_in_11 : decode (mm_Md_in).2.1 11 = .ok (.goto 4, 3) := by decide +kernel
theorem dd_Md_in_14 : decode (mm_Md_in).2.1 14 = .ok (.iconst 0, 1) := by decide +kernel
theorem dd_Md_in_15 : decode (mm_Md_in).2.1 15 = .ok (.ireturn, 1) := by decide +kernel
theorem dd_Md_data_0 : decode (mm_Md_data).2.1 0 = .ok (.iload_n 1, 1) := by decide +kernel
theorem dd_Md_data_1 : decode (mm_Md_data).2.1 1 = .ok (.iconst 0, 1) := by decide +kernel
theorem dd_Md_data_2 : decode (mm_Md_data).2.1 2 = .ok (.sipush 255, 3) := by decide +kernel
theorem dd_Md_data_5 : decode (mm_Md_data).2.1 5 = .ok (.invokestatic 50, 3) := by decide +kernel
theorem dd_Md_data_8 : decode (mm_Md_data).2.1 8 = .ok (.ifCond .eq 13, 3) := by decide +kernel
theorem dd_Md_data_11 : decode (mm_Md_data).2.1 11 = .ok (.iload_n 2, 1) := by decide +kernel
theorem dd_Md_data_12 : decode (mm_Md_data).2.1 12 = .ok (.iconst 1, 1) := by decide +kernel
theorem dd_Md_data_13 : decode (mm_Md_data).2.1 13 = .ok (.bipush 60, 2) := by decide +kernel
theorem dd_Md_data_15 : decode (mm_Md_data).2.1 15 = .ok (.invokestatic 50, 3) := by decide +kernel
theorem dd_Md_data_18 : decode (mm_Md_data).2.1 18 = .ok (.ifCond .ne 5, 3) := by decide +kernel
theorem dd_Md_data_21 : decode (mm_Md_data).2.1 21 = .ok (.iconst (-1), 1) := by decide +kernel
theorem dd_Md_data_22 : decode (mm_Md_data).2.1 22 = .ok (.ireturn, 1) := by decide +kernel
theorem dd_Md_data_23 : decode (mm_Md_data).2.1 23 = .ok (.aload_n 0, 1) := by decide +kernel
theorem dd_Md_data_24 : decode (mm_Md_data).2.1 24 = .ok (.getfield 61, 3) := by decide +kernel
theorem dd_Md_data_27 : decode (mm_Md_data).2.1 27 = .ok (.iload_n 2, 1) := by decide +kernel
theorem dd_Md_data_28 : decode (mm_Md_data).2.1 28 = .ok (.iadd, 1) := by decide +kernel
theorem dd_Md_data_29 : decode (mm_Md_data).2.1 29 = .ok (.bipush 60, 2) := by decide +kernel
theorem dd_Md_data_31 : decode (mm_Md_data).2.1 31 = .ok (.if_icmp .le 6, 3) := by decide +kernel
theorem dd_Md_data_34 : decode (mm_Md_data).2.1 34 = .ok (.bipush (-2), 2) := by decide +kernel
theorem dd_Md_data_36 : decode (mm_Md_data).2.1 36 = .ok (.ireturn, 1) := by decide +kernel
theorem dd_Md_data_37 : decode (mm_Md_data).2.1 37 = .ok (.iconst 0, 1) := by decide +kernel
theorem dd_Md_data_38 : decode (mm_Md_data).2.1 38 = .ok (.istore_n 3, 1) := by decide +kernel
theorem dd_Md_data_39 : decode (mm_Md_data).2.1 39 = .ok (.iload_n 3, 1) := by decide +kernel
theorem dd_Md_data_40 : decode (mm_Md_data).2.1 40 = .ok (.iload_n 2, 1) := by decide +kernel
theorem dd_Md_data_41 : decode (mm_Md_data).2.1 41 = .ok (.if_icmp .ge 21, 3) := by decide +kernel
theorem dd_Md_data_44 : decode (mm_Md_data).2.1 44 = .ok (.aload_n 0, 1) := by decide +kernel
theorem dd_Md_data_45 : decode (mm_Md_data).2.1 45 = .ok (.getfield 13, 3) := by decide +kernel
theorem dd_Md_data_48 : decode (mm_Md_data).2.1 48 = .ok (.aload_n 0, 1) := by decide +kernel
theorem dd_Md_data_49 : decode (mm_Md_data).2.1 49 = .ok (.getfield 61, 3) := by decide +kernel
theorem dd_Md_data_52 : decode (mm_Md_data).2.1 52 = .ok (.iload_n 3, 1) := by decide +kernel
theorem dd_Md_data_53 : decode (mm_Md_data).2.1 53 = .ok (.iadd, 1) := by decide +kernel
theorem dd_Md_data_54 : decode (mm_Md_data).2.1 54 = .ok (.iload_n 1, 1) := by decide +kernel
theorem dd_Md_data_55 : decode (mm_Md_data).2.1 55 = .ok (.iastore, 1) := by decide +kernel
theorem dd_Md_data_56 : decode (mm_Md_data).2.1 56 = .ok (.iinc 3 1, 3) := by decide +kernel
theorem dd_Md_data_59 : decode (mm_Md_data).2.1 59 = .ok (.goto (-20), 3) := by decide +kernel
theorem dd_Md_data_62 : decode (mm_Md_data).2.1 62 = .ok (.aload_n 0, 1) := by decide +kernel
theorem dd_Md_data_63 : decode (mm_Md_data).2.1 63 = .ok (.dup, 1) := by decide +kernel
theorem dd_Md_data_64 : decode (mm_Md_data).2.1 64 = .ok (.getfield 61, 3) := by decide +kernel
theorem dd_Md_data_67 : decode (mm_Md_data).2.1 67 = .ok (.iload_n 2, 1) := by decide +kernel
theorem dd_Md_data_68 : decode (mm_Md_data).2.1 68 = .ok (.iadd, 1) := by decide +kernel
theorem dd_Md_data_69 : decode (mm_Md_data).2.1 69 = .ok (.putfield 61, 3) := by decide +kernel
theorem dd_Md_data_72 : decode (mm_Md_data).2.1 72 = .ok (.aload_n 0, 1) := by decide +kernel
theorem dd_Md_data_73 : decode (mm_Md_data).2.1 73 = .ok (.getfield 61, 3) := by decide +kernel
theorem dd_Md_data_76 : decode (mm_Md_data).2.1 76 = .ok (.ireturn, 1) := by decide +kernel
theorem dd_Md_add_0 : decode (mm_Md_add).2.1 0 = .ok (.iload_n 1, 1) := by decide +kernel
theorem dd_Md_add_1 : decode (mm_Md_add).2.1 1 = .ok (.iconst 0, 1) := by decide +kernel
theorem dd_Md_add_2 : decode (mm_Md_add).2.1 2 = .ok (.iconst 2, 1) := by decide +kernel
theorem dd_Md_add_3 : decode (mm_Md_add).2.1 3 = .ok (.invokestatic 50, 3) := by decide +kernel
theorem dd_Md_add_6 : decode (mm_Md_add).2.1 6 = .ok (.ifCond .eq 10, 3) := by decide +kernel
theorem dd_Md_add_9 : decode (mm_Md_add).2.1 9 = .ok (.aload_n 0, 1) := by decide +kernel
theorem dd_Md_add_10 : decode (mm_Md_add).2.1 10 = .ok (.getfield 58, 3) := by decide +kernel
theorem dd_Md_add_13 : decode (mm_Md_add).2.1 13 = .ok (.ifCond .ne 5, 3) := by decide +kernel
theorem dd_Md_add_16 : decode (mm_Md_add).2.1 16 = .ok (.iconst (-1), 1) := by decide +kernel
theorem dd_Md_add_17 : decode (mm_Md_add).2.1 17 = .ok (.ireturn, 1) := by decide +kernel
theorem dd_Md_add_18 : decode (mm_Md_add).2.1 18 = .ok (.aload_n 0, 1) := by decide +kernel
theorem dd_Md_add_19 : decode (mm_Md_add).2.1 19 = .ok (.getfield 64, 3) := by decide +kernel
theorem dd_Md_add_22 : decode (mm_Md_add).2.1 22 = .ok (.bipush 6, 2) := by decide +kernel
theorem dd_Md_add_24 : decode (mm_Md_add).2.1 24 = .ok (.if_icmp .ne 6, 3) := by decide +kernel
theorem dd_Md_add_27 : decode (mm_Md_add).2.1 27 = .ok (.bipush (-2), 2) := by decide +kernel
theorem dd_Md_add_29 : decode (mm_Md_add).2.1 29 = .ok (.ireturn, 1) := by decide +kernel
theorem dd_Md_add_30 : decode (mm_Md_add).2.1 30 = .ok (.aload_n 0, 1) := by decide +kernel
theorem dd_Md_add_31 : decode (mm_Md_add).2.1 31 = .ok (.getfield 16, 3) := by decide +kernel
theorem dd_Md_add_34 : decode (mm_Md_add).2.1 34 = .ok (.aload_n 0, 1) := by decide +kernel
theorem dd_Md_add_35 : decode (mm_Md_add).2.1 35 = .ok (.getfield 64, 3) := by decide +kernel
theorem dd_Md_add_38 : decode (mm_Md_add).2.1 38 = .ok (.iload_n 1, 1) := by decide +kernel
theorem dd_Md_add_39 : decode (mm_Md_add).2.1 39 = .ok (.iastore, 1) := by decide +kernel
theorem dd_Md_add_40 : decode (mm_Md_add).2.1 40 = .ok (.aload_n 0, 1) := by decide +kernel
theorem dd_Md_add_41 : decode (mm_Md_add).2.1 41 = .ok (.getfield 19, 3) := by decide +kernel
theorem dd_Md_add_44 : decode (mm_Md_add).2.1 44 = .ok (.aload_n 0, 1) := by decide +kernel
theorem dd_Md_add_45 : decode (mm_Md_add).2.1 45 = .ok (.getfield 64, 3) := by decide +kernel
theorem dd_Md_add_48 : decode (mm_Md_add).2.1 48 = .ok (.aload_n 0, 1) := by decide +kernel
theorem dd_Md_add_49 : decode (mm_Md_add).2.1 49 = .ok (.getfield 58, 3) := by decide +kernel
theorem dd_Md_add_52 : decode (mm_Md_add).2.1 52 = .ok (.iastore, 1) := by decide +kernel
theorem dd_Md_add_53 : decode (mm_Md_add).2.1 53 = .ok (.aload_n 0, 1) := by decide +kernel
theorem dd_Md_add_54 : decode (mm_Md_add).2.1 54 = .ok (.getfield 25, 3) := by decide +kernel
theorem dd_Md_add_57 : decode (mm_Md_add).2.1 57 = .ok (.aload_n 0, 1) := by decide +kernel
theorem dd_Md_add_58 : decode (mm_Md_add).2.1 58 = .ok (.getfield 64, 3) := by decide +kernel
theorem dd_Md_add_61 : decode (mm_Md_add).2.1 61 = .ok (.aload_n 0, 1) := by decide +kernel
theorem dd_Md_add_62 : decode (mm_Md_add).2.1 62 = .ok (.getfield 61, 3) := by decide +kernel
theorem dd_Md_add_65 : decode (mm_Md_add).2.1 65 = .ok (.iastore, 1) := by decide +kernel
theorem dd_Md_add_66 : decode (mm_Md_add).2.1 66 = .ok (.iconst 0, 1) := by decide +kernel
theorem dd_Md_add_67 : decode (mm_Md_add).2.1 67 = .ok (.istore_n 2, 1) := by decide +kernel
theorem dd_Md_add_68 : decode (mm_Md_add).2.1 68 = .ok (.iload_n 2, 1) := by decide +kernel
theorem dd_Md_add_69 : decode (mm_Md_add).2.1 69 = .ok (.bipush 8, 2) := by decide +kernel
theorem dd_Md_add_71 : decode (mm_Md_add).2.1 71 = .ok (.if_icmp .ge 29, 3) := by decide +kernel
theorem dd_Md_add_74 : decode (mm_Md_add).2.1 74 = .ok (.aload_n 0, 1) := by decide +kernel
theorem dd_Md_add_75 : decode (mm_Md_add).2.1 75 = .ok (.getfield 22, 3) := by decide +kernel
theorem dd_Md_add_78 : decode (mm_Md_add).2.1 78 = .ok (.bipush 8, 2) := by decide +kernel
theorem dd_Md_add_80 : decode (mm_Md_add).2.1 80 = .ok (.aload_n 0, 1) := by decide +kernel
theorem dd_Md_add_81 : decode (mm_Md_add).2.1 81 = .ok (.getfield 64, 3) := by decide +kernel
theorem dd_Md_add_84 : decode (mm_Md_add).2.1 84 = .ok (.imul, 1) := by decide +kernel
theorem dd_Md_add_85 : decode (mm_Md_add).2.1 85 = .ok (.iload_n 2, 1) := by decide +kernel
theorem dd_Md_add_86 : decode (mm_Md_add).2.1 86 = .ok (.iadd, 1) := by decide +kernel
theorem dd_Md_add_87 : decode (mm_Md_add).2.1 87 = .ok (.aload_n 0, 1) := by decide +kernel
theorem dd_Md_add_88 : decode (mm_Md_add).2.1 88 = .ok (.getfield 7, 3) := by decide +kernel
theorem dd_Md_add_91 : decode (mm_Md_add).2.1 91 = .ok (.iload_n 2, 1) := by decide +kernel
theorem dd_Md_add_92 : decode (mm_Md_add).2.1 92 = .ok (.iaload, 1) := by decide +kernel
theorem dd_Md_add_93 : decode (mm_Md_add).2.1 93 = .ok (.iastore, 1) := by decide +kernel
theorem dd_Md_add_94 : decode (mm_Md_add).2.1 94 = .ok (.iinc 2 1, 3) := by decide +kernel
theorem dd_Md_add_97 : decode (mm_Md_add).2.1 97 = .ok (.goto (-29), 3) := by decide +kernel
theorem dd_Md_add_100 : decode (mm_Md_add).2.1 100 = .ok (.iconst 0, 1) := by decide +kernel
theorem dd_Md_add_101 : decode (mm_Md_add).2.1 101 = .ok (.istore_n 2, 1) := by decide +kernel
theorem dd_Md_add_102 : decode (mm_Md_add).2.1 102 = .ok (.iload_n 2, 1) := by decide +kernel
theorem dd_Md_add_103 : decode (mm_Md_add).2.1 103 = .ok (.bipush 60, 2) := by decide +kernel
theorem dd_Md_add_105 : decode (mm_Md_add).2.1 105 = .ok (.if_icmp .ge 29, 3) := by decide +kernel
theorem dd_Md_add_108 : decode (mm_Md_add).2.1 108 = .ok (.aload_n 0, 1) := by decide +kernel
theorem dd_Md_add_109 : decode (mm_Md_add).2.1 109 = .ok (.getfield 28, 3) := by decide +kernel
theorem dd_Md_add_112 : decode (mm_Md_add).2.1 112 = .ok (.bipush 60, 2) := by decide +kernel
theorem dd_Md_add_114 : decode (mm_Md_add).2.1 114 = .ok (.aload_n 0, 1) := by decide +kernel
theorem dd_Md_add_115 : decode (mm_Md_add).2.1 115 = .ok (.getfield 64, 3) := by decide +kernel
theorem dd_Md_add_118 : decode (mm_Md_add).2.1 118 = .ok (.imul, 1) := by decide +kernel
theorem dd_Md_add_119 : decode (mm_Md_add).2.1 119 = .ok (.iload_n 2, 1) := by decide +kernel
theorem dd_Md_add_120 : decode (mm_Md_add).2.1 120 = .ok (.iadd, 1) := by decide +kernel
theorem dd_Md_add_121 : decode (mm_Md_add).2.1 121 = .ok (.aload_n 0, 1) := by decide +kernel
theorem dd_Md_add_122 : decode (mm_Md_add).2.1 122 = .ok (.getfield 13, 3) := by decide +kernel
theorem dd_Md_add_125 : decode (mm_Md_add).2.1 125 = .ok (.iload_n 2, 1) := by decide +kernel
theorem dd_Md_add_126 : decode (mm_Md_add).2.1 126 = .ok (.iaload, 1) := by decide +kernel
theorem dd_Md_add_127 : decode (mm_Md_add).2.1 127 = .ok (.iastore, 1) := by decide +kernel
theorem dd_Md_add_128 : decode (mm_Md_add).2.1 128 = .ok (.iinc 2 1, 3) := by decide +kernel
theorem dd_Md_add_131 : decode (mm_Md_add).2.1 131 = .ok (.goto (-29), 3) := by decide +kernel
theorem dd_Md_add_134 : decode (mm_Md_add).2.1 134 = .ok (.aload_n 0, 1) := by decide +kernel
theorem dd_Md_add_135 : decode (mm_Md_add).2.1 135 = .ok (.dup, 1) := by decide +kernel
theorem dd_Md_add_136 : decode (mm_Md_add).2.1 136 = .ok (.getfield 64, 3) := by decide +kernel
theorem dd_Md_add_139 : decode (mm_Md_add).2.1 139 = .ok (.iconst 1, 1) := by decide +kernel
theorem dd_Md_add_140 : decode (mm_Md_add).2.1 140 = .ok (.iadd, 1) := by decide +kernel
theorem dd_Md_add_141 : decode (mm_Md_add).2.1 141 = .ok (.putfield 64, 3) := by decide +kernel
theorem dd_Md_add_144 : decode (mm_Md_add).2.1 144 = .ok (.aload_n 0, 1) := by decide +kernel
theorem dd_Md_add_145 : decode (mm_Md_add).2.1 145 = .ok (.iconst 0, 1) := by decide +kernel
theorem dd_Md_add_146 : decode (mm_Md_add).2.1 146 = .ok (.putfield 58, 3) := by decide +kernel
theorem dd_Md_add_149 : decode (mm_Md_add).2.1 149 = .ok (.aload_n 0, 1) := by decide +kernel
theorem dd_Md_add_150 : decode (mm_Md_add).2.1 150 = .ok (.iconst 0, 1) := by decide +kernel
theorem dd_Md_add_151 : decode (mm_Md_add).2.1 151 = .ok (.putfield 61, 3) := by decide +kernel
theorem dd_Md_add_154 : decode (mm_Md_add).2.1 154 = .ok (.aload_n 0, 1) := by decide +kernel
theorem dd_Md_add_155 : decode (mm_Md_add).2.1 155 = .ok (.getfield 64, 3) := by decide +kernel
theorem dd_Md_add_158 : decode (mm_Md_add).2.1 158 = .ok (.iconst 1, 1) := by decide +kernel
theorem dd_Md_add_159 : decode (mm_Md_add).2.1 159 = .ok (.isub, 1) := by decide +kernel
theorem dd_Md_add_160 : decode (mm_Md_add).2.1 160 = .ok (.ireturn, 1) := by decide +kernel
theorem dd_Md_pack_0 : decode (mm_Md_pack).2.1 0 = .ok (.iload_n 1, 1) := by decide +kernel
theorem dd_Md_pack_1 : decode (mm_Md_pack).2.1 1 = .ok (.iconst 0, 1) := by decide +kernel
theorem dd_Md_pack_2 : decode (mm_Md_pack).2.1 2 = .ok (.iconst 1, 1) := by decide +kernel
theorem dd_Md_pack_3 : decode (mm_Md_pack).2.1 3 = .ok (.invokestatic 50, 3) := by decide +kernel
theorem dd_Md_pack_6 : decode (mm_Md_pack).2.1 6 = .ok (.ifCond .ne 5, 3) := by decide +kernel
theorem dd_Md_pack_9 : decode (mm_Md_pack).2.1 9 = .ok (.iconst (-1), 1) := by decide +kernel
theorem dd_Md_pack_10 : decode (mm_Md_pack).2.1 10 = .ok (.ireturn, 1) := by decide +kernel
theorem dd_Md_pack_11 : decode (mm_Md_pack).2.1 11 = .ok (.aload_n 0, 1) := by decide +kernel
theorem dd_Md_pack_12 : decode (mm_Md_pack).2.1 12 = .ok (.iconst 0, 1) := by decide +kernel
theorem dd_Md_pack_13 : decode (mm_Md_pack).2.1 13 = .ok (.putfield 96, 3) := by decide +kernel
theorem dd_Md_pack_16 : decode (mm_Md_pack).2.1 16 = .ok (.iload_n 1, 1) := by decide +kernel
theorem dd_Md_pack_17 : decode (mm_Md_pack).2.1 17 = .ok (.ifCond .ne 10, 3) := by decide +kernel
theorem dd_Md_pack_20 : decode (mm_Md_pack).2.1 20 = .ok (.aload_n 0, 1) := by decide +kernel
theorem dd_Md_pack_21 : decode (mm_Md_pack).2.1 21 = .ok (.invokevirtual 118, 3) := by decide +kernel
theorem dd_Md_pack_24 : decode (mm_Md_pack).2.1 24 = .ok (.goto 7, 3) := by decide +kernel
theorem dd_Md_pack_27 : decode (mm_Md_pack).2.1 27 = .ok (.aload_n 0, 1) := by decide +kernel
theorem dd_Md_pack_28 : decode (mm_Md_pack).2.1 28 = .ok (.invokevirtual 121, 3) := by decide +kernel
theorem dd_Md_pack_31 : decode (mm_Md_pack).2.1 31 = .ok (.aload_n 0, 1) := by decide +kernel
theorem dd_Md_pack_32 : decode (mm_Md_pack).2.1 32 = .ok (.getfield 96, 3) := by decide +kernel
theorem dd_Md_pack_35 : decode (mm_Md_pack).2.1 35 = .ok (.sipush 600, 3) := by decide +kernel
theorem dd_Md_pack_38 : decode (mm_Md_pack).2.1 38 = .ok (.if_icmp .le 6, 3) := by decide +kernel
theorem dd_Md_pack_41 : decode (mm_Md_pack).2.1 41 = .ok (.bipush (-2), 2) := by decide +kernel
theorem dd_Md_pack_43 : decode (mm_Md_pack).2.1 43 = .ok (.ireturn, 1) := by decide +kernel
theorem dd_Md_pack_44 : decode (mm_Md_pack).2.1 44 = .ok (.iconst 0, 1) := by decide +kernel
theorem dd_Md_pack_45 : decode (mm_Md_pack).2.1 45 = .ok (.istore_n 2, 1) := by decide +kernel
theorem dd_Md_pack_46 : decode (mm_Md_pack).2.1 46 = .ok (.iload_n 2, 1) := by decide +kernel
theorem dd_Md_pack_47 : decode (mm_Md_pack).2.1 47 = .ok (.aload_n 0, 1) := by decide +kernel
theorem dd_Md_pack_48 : decode (mm_Md_pack).2.1 48 = .ok (.getfield 96, 3) := by decide +kernel
theorem dd_Md_pack_51 : decode (mm_Md_pack).2.1 51 = .ok (.if_icmp .ge 21, 3) := by decide +kernel
theorem dd_Md_pack_54 : decode (mm_Md_pack).2.1 54 = .ok (.aload_n 0, 1) := by decide +kernel
theorem dd_Md_pack_55 : decode (mm_Md_pack).2.1 55 = .ok (.getfield 31, 3) := by decide +kernel
theorem dd_Md_pack_58 : decode (mm_Md_pack).2.1 58 = .ok (.iload_n 2, 1) := by decide +kernel
theorem dd_Md_pack_59 : decode (mm_Md_pack).2.1 59 = .ok (.aload_n 0, 1) := by decide +kernel
theorem dd_Md_pack_60 : decode (mm_Md_pack).2.1 60 = .ok (.getfield 34, 3) := by decide +kernel
theorem dd_Md_pack_63 : decode (mm_Md_pack).2.1 63 = .ok (.iload_n 2, 1) := by decide +kernel
theorem dd_Md_pack_64 : decode (mm_Md_pack).2.1 64 = .ok (.iaload, 1) := by decide +kernel
theorem dd_Md_pack_65 : decode (mm_Md_pack).2.1 65 = .ok (.iastore, 1) := by decide +kernel
theorem dd_Md_pack_66 : decode (mm_Md_pack).2.1 66 = .ok (.iinc 2 1, 3) := by decide +kernel
theorem dd_Md_pack_69 : decode (mm_Md_pack).2.1 69 = .ok (.goto (-23), 3) := by decide +kernel
theorem dd_Md_pack_72 : decode (mm_Md_pack).2.1 72 = .ok (.aload_n 0, 1) := by decide +kernel
theorem dd_Md_pack_73 : decode (mm_Md_pack).2.1 73 = .ok (.aload_n 0, 1) := by decide +kernel
theorem dd_Md_pack_74 : decode (mm_Md_pack).2.1 74 = .ok (.getfield 96, 3) := by decide +kernel
theorem dd_Md_pack_77 : decode (mm_Md_pack).2.1 77 = .ok (.putfield 124, 3) := by decide +kernel
theorem dd_Md_pack_80 : decode (mm_Md_pack).2.1 80 = .ok (.aload_n 0, 1) := by decide +kernel
theorem dd_Md_pack_81 : decode (mm_Md_pack).2.1 81 = .ok (.iconst 0, 1) := by decide +kernel
theorem dd_Md_pack_82 : decode (mm_Md_pack).2.1 82 = .ok (.putfield 64, 3) := by decide +kernel
theorem dd_Md_pack_85 : decode (mm_Md_pack).2.1 85 = .ok (.aload_n 0, 1) := by decide +kernel
theorem dd_Md_pack_86 : decode (mm_Md_pack).2.1 86 = .ok (.iconst 0, 1) := by decide +kernel
theorem dd_Md_pack_87 : decode (mm_Md_pack).2.1 87 = .ok (.putfield 127, 3) := by decide +kernel
theorem dd_Md_pack_90 : decode (mm_Md_pack).2.1 90 = .ok (.aload_n 0, 1) := by decide +kernel
theorem dd_Md_pack_91 : decode (mm_Md_pack).2.1 91 = .ok (.getfield 124, 3) := by decide +kernel
theorem dd_Md_pack_94 : decode (mm_Md_pack).2.1 94 = .ok (.ireturn, 1) := by decide +kernel
theorem dd_Md_chain_0 : decode (mm_Md_chain).2.1 0 = .ok (.iconst 0, 1) := by decide +kernel
theorem dd_Md_chain_1 : decode (mm_Md_chain).2.1 1 = .ok (.istore_n 1, 1) := by decide +kernel
theorem dd_Md_chain_2 : decode (mm_Md_chain).2.1 2 = .ok (.iload_n 1, 1) := by decide +kernel
theorem dd_Md_chain_3 : decode (mm_Md_chain).2.1 3 = .ok (.aload_n 0, 1) := by decide +kernel
theorem dd_Md_chain_4 : decode (mm_Md_chain).2.1 4 = .ok (.getfield 64, 3) := by decide +kernel
theorem dd_Md_chain_7 : decode (mm_Md_chain).2.1 7 = .ok (.if_icmp .ge 117, 3) := by decide +kernel
theorem dd_Md_chain_10 : decode (mm_Md_chain).2.1 10 = .ok (.aload_n 0, 1) := by decide +kernel
theorem dd_Md_chain_11 : decode (mm_Md_chain).2.1 11 = .ok (.getfield 96, 3) := by decide +kernel
theorem dd_Md_chain_14 : decode (mm_Md_chain).2.1 14 = .ok (.istore_n 2, 1) := by decide +kernel
theorem dd_Md_chain_15 : decode (mm_Md_chain).2.1 15 = .ok (.aload_n 0, 1) := by decide +kernel
theorem dd_Md_chain_16 : decode (mm_Md_chain).2.1 16 = .ok (.iload_n 1, 1) := by decide +kernel
theorem dd_Md_chain_17 : decode (mm_Md_chain).2.1 17 = .ok (.invokevirtual 102, 3) := by decide +kernel
theorem dd_Md_chain_20 : decode (mm_Md_chain).2.1 20 = .ok (.aload_n 0, 1) := by decide +kernel
theorem dd_Md_chain_21 : decode (mm_Md_chain).2.1 21 = .ok (.bipush 67, 2) := by decide +kernel
theorem dd_Md_chain_23 : decode (mm_Md_chain).2.1 23 = .ok (.invokevirtual 99, 3) := by decide +kernel
theorem dd_Md_chain_26 : decode (mm_Md_chain).2.1 26 = .ok (.aload_n 0, 1) := by decide +kernel
theorem dd_Md_chain_27 : decode (mm_Md_chain).2.1 27 = .ok (.iload_n 1, 1) := by decide +kernel
theorem dd_Md_chain_28 : decode (mm_Md_chain).2.1 28 = .ok (.invokevirtual 105, 3) := by decide +kernel
theorem dd_Md_chain_31 : decode (mm_Md_chain).2.1 31 = .ok (.aload_n 0, 1) := by decide +kernel
theorem dd_Md_chain_32 : decode (mm_Md_chain).2.1 32 = .ok (.aload_n 0, 1) := by decide +kernel
theorem dd_Md_chain_33 : decode (mm_Md_chain).2.1 33 = .ok (.getfield 67, 3) := by decide +kernel
theorem dd_Md_chain_36 : decode (mm_Md_chain).2.1 36 = .ok (.invokevirtual 99, 3) := by decide +kernel
theorem dd_Md_chain_39 : decode (mm_Md_chain).2.1 39 = .ok (.aload_n 0, 1) := by decide +kernel
theorem dd_Md_chain_40 : decode (mm_Md_chain).2.1 40 = .ok (.aload_n 0, 1) := by decide +kernel
theorem dd_Md_chain_41 : decode (mm_Md_chain).2.1 41 = .ok (.getfield 25, 3) := by decide +kernel
theorem dd_Md_chain_44 : decode (mm_Md_chain).2.1 44 = .ok (.iload_n 1, 1) := by decide +kernel
theorem dd_Md_chain_45 : decode (mm_Md_chain).2.1 45 = .ok (.iaload, 1) := by decide +kernel
theorem dd_Md_chain_46 : decode (mm_Md_chain).2.1 46 = .ok (.invokevirtual 99, 3) := by decide +kernel
theorem dd_Md_chain_49 : decode (mm_Md_chain).2.1 49 = .ok (.aload_n 0, 1) := by decide +kernel
theorem dd_Md_chain_50 : decode (mm_Md_chain).2.1 50 = .ok (.aload_n 0, 1) := by decide +kernel
theorem dd_Md_chain_51 : decode (mm_Md_chain).2.1 51 = .ok (.iload_n 1, 1) := by decide +kernel
theorem dd_Md_chain_52 : decode (mm_Md_chain).2.1 52 = .ok (.invokevirtual 108, 3) := by decide +kernel
theorem dd_Md_chain_55 : decode (mm_Md_chain).2.1 55 = .ok (.invokevirtual 112, 3) := by decide +kernel
theorem dd_Md_chain_58 : decode (mm_Md_chain).2.1 58 = .ok (.iconst 0, 1) := by decide +kernel
theorem dd_Md_chain_59 : decode (mm_Md_chain).2.1 59 = .ok (.istore_n 3, 1) := by decide +kernel
theorem dd_Md_chain_60 : decode (mm_Md_chain).2.1 60 = .ok (.iload_n 2, 1) := by decide +kernel
theorem dd_Md_chain_61 : decode (mm_Md_chain).2.1 61 = .ok (.istore 4, 2) := by decide +kernel
theorem dd_Md_chain_63 : decode (mm_Md_chain).2.1 63 = .ok (.iload 4, 2) := by decide +kernel
theorem dd_Md_chain_65 : decode (mm_Md_chain).2.1 65 = .ok (.aload_n 0, 1) := by decide +kernel
theorem dd_Md_chain_66 : decode (mm_Md_chain).2.1 66 = .ok (.getfield 96, 3) := by decide +kernel
theorem dd_Md_chain_69 : decode (mm_Md_chain).2.1 69 = .ok (.if_icmp .ge 19, 3) := by decide +kernel
theorem dd_Md_chain_72 : decode (mm_Md_chain).2.1 72 = .ok (.iload_n 3, 1) := by decide +kernel
theorem dd_Md_chain_73 : decode (mm_Md_chain).2.1 73 = .ok (.aload_n 0, 1) := by decide +kernel
theorem dd_Md_chain_74 : decode (mm_Md_chain).2.1 74 = .ok (.getfield 34, 3) := by decide +kernel
theorem dd_Md_chain_77 : decode (mm_Md_chain).2.1 77 = .ok (.iload 4, 2) := by decide +kernel
theorem dd_Md_chain_79 : decode (mm_Md_chain).2.1 79 = .ok (.iaload, 1) := by decide +kernel
theorem dd_Md_chain_80 : decode (mm_Md_chain).2.1 80 = .ok (.iadd, 1) := by decide +kernel
theorem dd_Md_chain_81 : decode (mm_Md_chain).2.1 81 = .ok (.istore_n 3, 1) := by decide +kernel
theorem dd_Md_chain_82 : decode (mm_Md_chain).2.1 82 = .ok (.iinc 4 1, 3) := by decide +kernel
theorem dd_Md_chain_85 : decode (mm_Md_chain).2.1 85 = .ok (.goto (-22), 3) := by decide +kernel
theorem dd_Md_chain_88 : decode (mm_Md_chain).2.1 88 = .ok (.aload_n 0, 1) := by decide +kernel
theorem dd_Md_chain_89 : decode (mm_Md_chain).2.1 89 = .ok (.iload_n 3, 1) := by decide +kernel
theorem dd_Md_chain_90 : decode (mm_Md_chain).2.1 90 = .ok (.sipush 255, 3) := by decide +kernel
theorem dd_Md_chain_93 : decode (mm_Md_chain).2.1 93 = .ok (.iand, 1) := by decide +kernel
theorem dd_Md_chain_94 : decode (mm_Md_chain).2.1 94 = .ok (.invokevirtual 99, 3) := by decide +kernel
theorem dd_Md_chain_97 : decode (mm_Md_chain).2.1 97 = .ok (.aload_n 0, 1) := by decide +kernel
theorem dd_Md_chain_98 : decode (mm_Md_chain).2.1 98 = .ok (.invokevirtual 115, 3) := by decide +kernel
theorem dd_Md_chain_101 : decode (mm_Md_chain).2.1 101 = .ok (.aload_n 0, 1) := by decide +kernel
theorem dd_Md_chain_102 : decode (mm_Md_chain).2.1 102 = .ok (.getfield 96, 3) := by decide +kernel
theorem dd_Md_chain_105 : decode (mm_Md_chain).2.1 105 = .ok (.iconst 4, 1) := by decide +kernel
theorem dd_Md_chain_106 : decode (mm_Md_chain).2.1 106 = .ok (.irem, 1) := by decide +kernel
theorem dd_Md_chain_107 : decode (mm_Md_chain).2.1 107 = .ok (.ifCond .eq 11, 3) := by decide +kernel
theorem dd_Md_chain_110 : decode (mm_Md_chain).2.1 110 = .ok (.aload_n 0, 1) := by decide +kernel
theorem dd_Md_chain_111 : decode (mm_Md_chain).2.1 111 = .ok (.iconst 0, 1) := by decide +kernel
theorem dd_Md_chain_112 : decode (mm_Md_chain).2.1 112 = .ok (.invokevirtual 99, 3) := by decide +kernel
theorem dd_Md_chain_115 : decode (mm_Md_chain).2.1 115 = .ok (.goto (-14), 3) := by decide +kernel
theorem dd_Md_chain_118 : decode (mm_Md_chain).2.1 118 = .ok (.iinc 1 1, 3) := by decide +kernel
theorem dd_Md_chain_121 : decode (mm_Md_chain).2.1 121 = .ok (.goto (-119), 3) := by decide +kernel
theorem dd_Md_chain_124 : decode (mm_Md_chain).2.1 124 = .ok (.aload_n 0, 1) := by decide +kernel
theorem dd_Md_chain_125 : decode (mm_Md_chain).2.1 125 = .ok (.bipush 69, 2) := by decide +kernel
theorem dd_Md_chain_127 : decode (mm_Md_chain).2.1 127 = .ok (.invokevirtual 99, 3) := by decide +kernel
theorem dd_Md_chain_130 : decode (mm_Md_chain).2.1 130 = .ok (.return_, 1) := by decide +kernel
theorem dd_Md_squeeze_0 : decode (mm_Md_squeeze).2.1 0 = .ok (.aload_n 0, 1) := by decide +kernel
theorem dd_Md_squeeze_1 : decode (mm_Md_squeeze).2.1 1 = .ok (.iconst 0, 1) := by decide +kernel
theorem dd_Md_squeeze_2 : decode (mm_Md_squeeze).2.1 2 = .ok (.putfield 67, 3) := by decide +kernel
theorem dd_Md_squeeze_5 : decode (mm_Md_squeeze).2.1 5 = .ok (.aload_n 0, 1) := by decide +kernel
theorem dd_Md_squeeze_6 : decode (mm_Md_squeeze).2.1 6 = .ok (.getfield 16, 3) := by decide +kernel
theorem dd_Md_squeeze_9 : decode (mm_Md_squeeze).2.1 9 = .ok (.iload_n 1, 1) := by decide +kernel
theorem dd_Md_squeeze_10 : decode (mm_Md_squeeze).2.1 10 = .ok (.iaload, 1) := by decide +kernel
theorem dd_Md_squeeze_11 : decode (mm_Md_squeeze).2.1 11 = .ok (.iconst 1, 1) := by decide +kernel
theorem dd_Md_squeeze_12 : decode (mm_Md_squeeze).2.1 12 = .ok (.if_icmp .ne 11, 3) := by decide +kernel
theorem dd_Md_squeeze_15 : decode (mm_Md_squeeze).2.1 15 = .ok (.aload_n 0, 1) := by decide +kernel
theorem dd_Md_squeeze_16 : decode (mm_Md_squeeze).2.1 16 = .ok (.iload_n 1, 1) := by decide +kernel
theorem dd_Md_squeeze_17 : decode (mm_Md_squeeze).2.1 17 = .ok (.invokevirtual 86, 3) := by decide +kernel
theorem dd_Md_squeeze_20 : decode (mm_Md_squeeze).2.1 20 = .ok (.goto 49, 3) := by decide +kernel
theorem dd_Md_squeeze_23 : decode (mm_Md_squeeze).2.1 23 = .ok (.aload_n 0, 1) := by decide +kernel
theorem dd_Md_squeeze_24 : decode (mm_Md_squeeze).2.1 24 = .ok (.getfield 16, 3) := by decide +kernel
theorem dd_Md_squeeze_27 : decode (mm_Md_squeeze).2.1 27 = .ok (.iload_n 1, 1) := by decide +kernel
theorem dd_Md_squeeze_28 : decode (mm_Md_squeeze).2.1 28 = .ok (.iaload, 1) := by decide +kernel
theorem dd_Md_squeeze_29 : decode (mm_Md_squeeze).2.1 29 = .ok (.iconst 2, 1) := by decide +kernel
theorem dd_Md_squeeze_30 : decode (mm_Md_squeeze).2.1 30 = .ok (.if_icmp .ne 11, 3) := by decide +kernel
theorem dd_Md_squeeze_33 : decode (mm_Md_squeeze).2.1 33 = .ok (.aload_n 0, 1) := by decide +kernel
theorem dd_Md_squeeze_34 : decode (mm_Md_squeeze).2.1 34 = .ok (.iload_n 1, 1) := by decide +kernel
theorem dd_Md_squeeze_35 : decode (mm_Md_squeeze).2.1 35 = .ok (.invokevirtual 89, 3) := by decide +kernel
theorem dd_Md_squeeze_38 : decode (mm_Md_squeeze).2.1 38 = .ok (.goto 31, 3) := by decide +kernel
theorem dd_Md_squeeze_41 : decode (mm_Md_squeeze).2.1 41 = .ok (.iconst 0, 1) := by decide +kernel
theorem dd_Md_squeeze_42 : decode (mm_Md_squeeze).2.1 42 = .ok (.istore_n 2, 1) := by decide +kernel
theorem dd_Md_squeeze_43 : decode (mm_Md_squeeze).2.1 43 = .ok (.iload_n 2, 1) := by decide +kernel
theorem dd_Md_squeeze_44 : decode (mm_Md_squeeze).2.1 44 = .ok (.aload_n 0, 1) := by decide +kernel
theorem dd_Md_squeeze_45 : decode (mm_Md_squeeze).2.1 45 = .ok (.getfield 25, 3) := by decide +kernel
theorem dd_Md_squeeze_48 : decode (mm_Md_squeeze).2.1 48 = .ok (.iload_n 1, 1) := by decide +kernel
theorem dd_Md_squeeze_49 : decode (mm_Md_squeeze).2.1 49 = .ok (.iaload, 1) := by decide +kernel
theorem dd_Md_squeeze_50 : decode (mm_Md_squeeze).2.1 50 = .ok (.if_icmp .ge 19, 3) := by decide +kernel
theorem dd_Md_squeeze_53 : decode (mm_Md_squeeze).2.1 53 = .ok (.aload_n 0, 1) := by decide +kernel
theorem dd_Md_squeeze_54 : decode (mm_Md_squeeze).2.1 54 = .ok (.aload_n 0, 1) := by decide +kernel
theorem dd_Md_squeeze_55 : decode (mm_Md_squeeze).2.1 55 = .ok (.iload_n 1, 1) := by decide +kernel
theorem dd_Md_squeeze_56 : decode (mm_Md_squeeze).2.1 56 = .ok (.iload_n 2, 1) := by decide +kernel
theorem dd_Md_squeeze_57 : decode (mm_Md_squeeze).2.1 57 = .ok (.invokevirtual 70, 3) := by decide +kernel
theorem dd_Md_squeeze_60 : decode (mm_Md_squeeze).2.1 60 = .ok (.invokevirtual 74, 3) := by decide +kernel
theorem dd_Md_squeeze_63 : decode (mm_Md_squeeze).2.1 63 = .ok (.iinc 2 1, 3) := by decide +kernel
theorem dd_Md_squeeze_66 : decode (mm_Md_squeeze).2.1 66 = .ok (.goto (-23), 3) := by decide +kernel
theorem dd_Md_squeeze_69 : decode (mm_Md_squeeze).2.1 69 = .ok (.return_, 1) := by decide +kernel
theorem dd_Md_runs_0 : decode (mm_Md_runs).2.1 0 = .ok (.iconst 0, 1) := by decide +kernel
theorem dd_Md_runs_1 : decode (mm_Md_runs).2.1 1 = .ok (.istore_n 2, 1) := by decide +kernel
theorem dd_Md_runs_2 : decode (mm_Md_runs).2.1 2 = .ok (.iload_n 2, 1) := by decide +kernel
theorem dd_Md_runs_3 : decode (mm_Md_runs).2.1 3 = .ok (.aload_n 0, 1) := by decide +kernel
theorem dd_Md_runs_4 : decode (mm_Md_runs).2.1 4 = .ok (.getfield 25, 3) := by decide +kernel
theorem dd_Md_runs_7 : decode (mm_Md_runs).2.1 7 = .ok (.iload_n 1, 1) := by decide +kernel
theorem dd_Md_runs_8 : decode (mm_Md_runs).2.1 8 = .ok (.iaload, 1) := by decide +kernel
theorem dd_Md_runs_9 : decode (mm_Md_runs).2.1 9 = .ok (.if_icmp .ge 112, 3) := by decide +kernel
theorem dd_Md_runs_12 : decode (mm_Md_runs).2.1 12 = .ok (.aload_n 0, 1) := by decide +kernel
theorem dd_Md_runs_13 : decode (mm_Md_runs).2.1 13 = .ok (.iload_n 1, 1) := by decide +kernel
theorem dd_Md_runs_14 : decode (mm_Md_runs).2.1 14 = .ok (.iload_n 2, 1) := by decide +kernel
theorem dd_Md_runs_15 : decode (mm_Md_runs).2.1 15 = .ok (.invokevirtual 70, 3) := by decide +kernel
theorem dd_Md_runs_18 : decode (mm_Md_runs).2.1 18 = .ok (.istore_n 3, 1) := by decide +kernel
theorem dd_Md_runs_19 : decode (mm_Md_runs).2.1 19 = .ok (.iconst 1, 1) := by decide +kernel
theorem dd_Md_runs_20 : decode (mm_Md_runs).2.1 20 = .ok (.istore 4, 2) := by decide +kernel
theorem dd_Md_runs_22 : decode (mm_Md_runs).2.1 22 = .ok (.iload 4, 2) := by decide +kernel
theorem dd_Md_runs_24 : decode (mm_Md_runs).2.1 24 = .ok (.bipush 9, 2) := by decide +kernel
theorem dd_Md_runs_26 : decode (mm_Md_runs).2.1 26 = .ok (.if_icmp .ge 22, 3) := by decide +kernel
theorem dd_Md_runs_29 : decode (mm_Md_runs).2.1 29 = .ok (.aload_n 0, 1) := by decide +kernel
theorem dd_Md_runs_30 : decode (mm_Md_runs).2.1 30 = .ok (.iload_n 1, 1) := by decide +kernel
theorem dd_Md_runs_31 : decode (mm_Md_runs).2.1 31 = .ok (.iload_n 2, 1) := by decide +kernel
theorem dd_Md_runs_32 : decode (mm_Md_runs).2.1 32 = .ok (.iload 4, 2) := by decide +kernel
theorem dd_Md_runs_34 : decode (mm_Md_runs).2.1 34 = .ok (.iadd, 1) := by decide +kernel
theorem dd_Md_runs_35 : decode (mm_Md_runs).2.1 35 = .ok (.invokevirtual 70, 3) := by decide +kernel
theorem dd_Md_runs_38 : decode (mm_Md_runs).2.1 38 = .ok (.iload_n 3, 1) := by decide +kernel
theorem dd_Md_runs_39 : decode (mm_Md_runs).2.1 39 = .ok (.if_icmp .ne 9, 3) := by decide +kernel
theorem dd_Md_runs_42 : decode (mm_Md_runs).2.1 42 = .ok (.iinc 4 1, 3) := by decide +kernel
theorem dd_Md_runs_45 : decode (mm_Md_runs).2.1 45 = .ok (.goto (-23), 3) := by decide +kernel
theorem dd_Md_runs_48 : decode (mm_Md_runs).2.1 48 = .ok (.iload 4, 2) := by decide +kernel
theorem dd_Md_runs_50 : decode (mm_Md_runs).2.1 50 = .ok (.iconst 3, 1) := by decide +kernel
theorem dd_Md_runs_51 : decode (mm_Md_runs).2.1 51 = .ok (.if_icmp .ge 14, 3) := by decide +kernel
theorem dd_Md_runs_54 : decode (mm_Md_runs).2.1 54 = .ok (.iload_n 3, 1) := by decide +kernel
theorem dd_Md_runs_55 : decode (mm_Md_runs).2.1 55 = .ok (.sipush 246, 3) := by decide +kernel
theorem dd_Md_runs_58 : decode (mm_Md_runs).2.1 58 = .ok (.if_icmp .ge 7, 3) := by decide +kernel
theorem dd_Md_runs_61 : decode (mm_Md_runs).2.1 61 = .ok (.iconst 1, 1) := by decide +kernel
theorem dd_Md_runs_62 : decode (mm_Md_runs).2.1 62 = .ok (.goto 4, 3) := by decide +kernel
theorem dd_Md_runs_65 : decode (mm_Md_runs).2.1 65 = .ok (.iconst 0, 1) := by decide +kernel
theorem dd_Md_runs_66 : decode (mm_Md_runs).2.1 66 = .ok (.istore 5, 2) := by decide +kernel
theorem dd_Md_runs_68 : decode (mm_Md_runs).2.1 68 = .ok (.iload 5, 2) := by decide +kernel
theorem dd_Md_runs_70 : decode (mm_Md_runs).2.1 70 = .ok (.ifCond .ne 13, 3) := by decide +kernel
theorem dd_Md_runs_73 : decode (mm_Md_runs).2.1 73 = .ok (.aload_n 0, 1) := by decide +kernel
theorem dd_Md_runs_74 : decode (mm_Md_runs).2.1 74 = .ok (.sipush 246, 3) := by decide +kernel
theorem dd_Md_runs_77 : decode (mm_Md_runs).2.1 77 = .ok (.iload 4, 2) := by decide +kernel
theorem dd_Md_runs_79 : decode (mm_Md_runs).2.1 79 = .ok (.iadd, 1) := by decide +kernel
theorem dd_Md_runs_80 : decode (mm_Md_runs).2.1 80 = .ok (.invokevirtual 74, 3) := by decide +kernel
theorem dd_Md_runs_83 : decode (mm_Md_runs).2.1 83 = .ok (.iconst 0, 1) := by decide +kernel
theorem dd_Md_runs_84 : decode (mm_Md_runs).2.1 84 = .ok (.istore 6, 2) := by decide +kernel
theorem dd_Md_runs_86 : decode (mm_Md_runs).2.1 86 = .ok (.iload 6, 2) := by decide +kernel
theorem dd_Md_runs_88 : decode (mm_Md_runs).2.1 88 = .ok (.iload 5, 2) := by decide +kernel
theorem dd_Md_runs_90 : decode (mm_Md_runs).2.1 90 = .ok (.ifCond .eq 8, 3) := by decide +kernel
theorem dd_Md_runs_93 : decode (mm_Md_runs).2.1 93 = .ok (.iload 4, 2) := by decide +kernel
theorem dd_Md_runs_95 : decode (mm_Md_runs).2.1 95 = .ok (.goto 4, 3) := by decide +kernel
theorem dd_Md_runs_98 : decode (mm_Md_runs).2.1 98 = .ok (.iconst 1, 1) := by decide +kernel
theorem dd_Md_runs_99 : decode (mm_Md_runs).2.1 99 = .ok (.if_icmp .ge 14, 3) := by decide +kernel
theorem dd_Md_runs_102 : decode (mm_Md_runs).2.1 102 = .ok (.aload_n 0, 1) := by decide +kernel
theorem dd_Md_runs_103 : decode (mm_Md_runs).2.1 103 = .ok (.iload_n 3, 1) := by decide +kernel
theorem dd_Md_runs_104 : decode (mm_Md_runs).2.1 104 = .ok (.invokevirtual 74, 3) := by decide +kernel
theorem dd_Md_runs_107 : decode (mm_Md_runs).2.1 107 = .ok (.iinc 6 1, 3) := by decide +kernel
theorem dd_Md_runs_110 : decode (mm_Md_runs).2.1 110 = .ok (.goto (-24), 3) := by decide +kernel
theorem dd_Md_runs_113 : decode (mm_Md_runs).2.1 113 = .ok (.iload_n 2, 1) := by decide +kernel
theorem dd_Md_runs_114 : decode (mm_Md_runs).2.1 114 = .ok (.iload 4, 2) := by decide +kernel
theorem dd_Md_runs_116 : decode (mm_Md_runs).2.1 116 = .ok (.iadd, 1) := by decide +kernel
theorem dd_Md_runs_117 : decode (mm_Md_runs).2.1 117 = .ok (.istore_n 2, 1) := by decide +kernel
theorem dd_Md_runs_118 : decode (mm_Md_runs).2.1 118 = .ok (.goto (-116), 3) := by decide +kernel
theorem dd_Md_runs_121 : decode (mm_Md_runs).2.1 121 = .ok (.return_, 1) := by decide +kernel
theorem dd_Md_byteOf_0 : decode (mm_Md_byteOf).2.1 0 = .ok (.iload_n 2, 1) := by decide +kernel
theorem dd_Md_byteOf_1 : decode (mm_Md_byteOf).2.1 1 = .ok (.ifCond .lt 27, 3) := by decide +kernel
theorem dd_Md_byteOf_4 : decode (mm_Md_byteOf).2.1 4 = .ok (.iload_n 2, 1) := by decide +kernel
theorem dd_Md_byteOf_5 : decode (mm_Md_byteOf).2.1 5 = .ok (.aload_n 0, 1) := by decide +kernel
theorem dd_Md_byteOf_6 : decode (mm_Md_byteOf).2.1 6 = .ok (.getfield 25, 3) := by decide +kernel
theorem dd_Md_byteOf_9 : decode (mm_Md_byteOf).2.1 9 = .ok (.iload_n 1, 1) := by decide +kernel
theorem dd_Md_byteOf_10 : decode (mm_Md_byteOf).2.1 10 = .ok (.iaload, 1) := by decide +kernel
theorem dd_Md_byteOf_11 : decode (mm_Md_byteOf).2.1 11 = .ok (.if_icmp .ge 17, 3) := by decide +kernel
theorem dd_Md_byteOf_14 : decode (mm_Md_byteOf).2.1 14 = .ok (.aload_n 0, 1) := by decide +kernel
theorem dd_Md_byteOf_15 : decode (mm_Md_byteOf).2.1 15 = .ok (.getfield 28, 3) := by decide +kernel
theorem dd_Md_byteOf_18 : decode (mm_Md_byteOf).2.1 18 = .ok (.bipush 60, 2) := by decide +kernel
theorem dd_Md_byteOf_20 : decode (mm_Md_byteOf).2.1 20 = .ok (.iload_n 1, 1) := by decide +kernel
theorem dd_Md_byteOf_21 : decode (mm_Md_byteOf).2.1 21 = .ok (.imul, 1) := by decide +kernel
theorem dd_Md_byteOf_22 : decode (mm_Md_byteOf).2.1 22 = .ok (.iload_n 2, 1) := by decide +kernel
theorem dd_Md_byteOf_23 : decode (mm_Md_byteOf).2.1 23 = .ok (.iadd, 1) := by decide +kernel
theorem dd_Md_byteOf_24 : decode (mm_Md_byteOf).2.1 24 = .ok (.iaload, 1) := by decide +kernel
theorem dd_Md_byteOf_25 : decode (mm_Md_byteOf).2.1 25 = .ok (.goto 4, 3) := by decide +kernel
theorem dd_Md_byteOf_28 : decode (mm_Md_byteOf).2.1 28 = .ok (.iconst (-1), 1) := by decide +kernel
theorem dd_Md_byteOf_29 : decode (mm_Md_byteOf).2.1 29 = .ok (.ireturn, 1) := by decide +kernel
theorem dd_Md_push_0 : decode (mm_Md_push).2.1 0 = .ok (.aload_n 0, 1) := by decide +kernel
theorem dd_Md_push_1 : decode (mm_Md_push).2.1 1 = .ok (.getfield 47, 3) := by decide +kernel
theorem dd_Md_push_4 : decode (mm_Md_push).2.1 4 = .ok (.aload_n 0, 1) := by decide +kernel
theorem dd_Md_push_5 : decode (mm_Md_push).2.1 5 = .ok (.getfield 67, 3) := by decide +kernel
theorem dd_Md_push_8 : decode (mm_Md_push).2.1 8 = .ok (.iload_n 1, 1) := by decide +kernel
theorem dd_Md_push_9 : decode (mm_Md_push).2.1 9 = .ok (.iastore, 1) := by decide +kernel
theorem dd_Md_push_10 : decode (mm_Md_push).2.1 10 = .ok (.aload_n 0, 1) := by decide +kernel
theorem dd_Md_push_11 : decode (mm_Md_push).2.1 11 = .ok (.dup, 1) := by decide +kernel
theorem dd_Md_push_12 : decode (mm_Md_push).2.1 12 = .ok (.getfield 67, 3) := by decide +kernel
theorem dd_Md_push_15 : decode (mm_Md_push).2.1 15 = .ok (.iconst 1, 1) := by decide +kernel
theorem dd_Md_push_16 : decode (mm_Md_push).2.1 16 = .ok (.iadd, 1) := by decide +kernel
theorem dd_Md_push_17 : decode (mm_Md_push).2.1 17 = .ok (.putfield 67, 3) := by decide +kernel
theorem dd_Md_push_20 : decode (mm_Md_push).2.1 20 = .ok (.return_, 1) := by decide +kernel
theorem dd_Md_copies_0 : decode (mm_Md_copies).2.1 0 = .ok (.iconst 0, 1) := by decide +kernel
theorem dd_Md_copies_1 : decode (mm_Md_copies).2.1 1 = .ok (.istore_n 2, 1) := by decide +kernel
theorem dd_Md_copies_2 : decode (mm_Md_copies).2.1 2 = .ok (.iconst 0, 1) := by decide +kernel
theorem dd_Md_copies_3 : decode (mm_Md_copies).2.1 3 = .ok (.istore_n 3, 1) := by decide +kernel
theorem dd_Md_copies_4 : decode (mm_Md_copies).2.1 4 = .ok (.iload_n 2, 1) := by decide +kernel
theorem dd_Md_copies_5 : decode (mm_Md_copies).2.1 5 = .ok (.aload_n 0, 1) := by decide +kernel
theorem dd_Md_copies_6 : decode (mm_Md_copies).2.1 6 = .ok (.getfield 25, 3) := by decide +kernel
theorem dd_Md_copies_9 : decode (mm_Md_copies).2.1 9 = .ok (.iload_n 1, 1) := by decide +kernel
theorem dd_Md_copies_10 : decode (mm_Md_copies).2.1 10 = .ok (.iaload, 1) := by decide +kernel
theorem dd_Md_copies_11 : decode (mm_Md_copies).2.1 11 = .ok (.if_icmp .ge 109, 3) := by decide +kernel
theorem dd_Md_copies_14 : decode (mm_Md_copies).2.1 14 = .ok (.iconst 0, 1) := by decide +kernel
theorem dd_Md_copies_15 : decode (mm_Md_copies).2.1 15 = .ok (.istore 4, 2) := by decide +kernel
theorem dd_Md_copies_17 : decode (mm_Md_copies).2.1 17 = .ok (.iconst 1, 1) := by decide +kernel
theorem dd_Md_copies_18 : decode (mm_Md_copies).2.1 18 = .ok (.istore 5, 2) := by decide +kernel
theorem dd_Md_copies_20 : decode (mm_Md_copies).2.1 20 = .ok (.iload 5, 2) := by decide +kernel
theorem dd_Md_copies_22 : decode (mm_Md_copies).2.1 22 = .ok (.bipush 32, 2) := by decide +kernel
theorem dd_Md_copies_24 : decode (mm_Md_copies).2.1 24 = .ok (.if_icmp .gt 41, 3) := by decide +kernel
theorem dd_Md_copies_27 : decode (mm_Md_copies).2.1 27 = .ok (.aload_n 0, 1) := by decide +kernel
theorem dd_Md_copies_28 : decode (mm_Md_copies).2.1 28 = .ok (.iload_n 1, 1) := by decide +kernel
theorem dd_Md_copies_29 : decode (mm_Md_copies).2.1 29 = .ok (.iload_n 2, 1) := by decide +kernel
theorem dd_Md_copies_30 : decode (mm_Md_copies).2.1 30 = .ok (.iload 5, 2) := by decide +kernel
theorem dd_Md_copies_32 : decode (mm_Md_copies).2.1 32 = .ok (.invokevirtual 78, 3) := by decide +kernel
theorem dd_Md_copies_35 : decode (mm_Md_copies).2.1 35 = .ok (.iload 4, 2) := by decide +kernel
theorem dd_Md_copies_37 : decode (mm_Md_copies).2.1 37 = .ok (.ifCond .ne 7, 3) := by decide +kernel
theorem dd_Md_copies_40 : decode (mm_Md_copies).2.1 40 = .ok (.iconst 0, 1) := by decide +kernel
theorem dd_Md_copies_41 : decode (mm_Md_copies).2.1 41 = .ok (.goto 11, 3) := by decide +kernel
theorem dd_Md_copies_44 : decode (mm_Md_copies).2.1 44 = .ok (.aload_n 0, 1) := by decide +kernel
theorem dd_Md_copies_45 : decode (mm_Md_copies).2.1 45 = .ok (.iload_n 1, 1) := by decide +kernel
theorem dd_Md_copies_46 : decode (mm_Md_copies).2.1 46 = .ok (.iload_n 2, 1) := by decide +kernel
theorem dd_Md_copies_47 : decode (mm_Md_copies).2.1 47 = .ok (.iload 4, 2) := by decide +kernel
theorem dd_Md_copies_49 : decode (mm_Md_copies).2.1 49 = .ok (.invokevirtual 78, 3) := by decide +kernel
theorem dd_Md_copies_52 : decode (mm_Md_copies).2.1 52 = .ok (.if_icmp .le 7, 3) := by decide +kernel
theorem dd_Md_copies_55 : decode (mm_Md_copies).2.1 55 = .ok (.iload 5, 2) := by decide +kernel
theorem dd_Md_copies_57 : decode (mm_Md_copies).2.1 57 = .ok (.istore 4, 2) := by decide +kernel
theorem dd_Md_copies_59 : decode (mm_Md_copies).2.1 59 = .ok (.iinc 5 1, 3) := by decide +kernel
theorem dd_Md_copies_62 : decode (mm_Md_copies).2.1 62 = .ok (.goto (-42), 3) := by decide +kernel
theorem dd_Md_copies_65 : decode (mm_Md_copies).2.1 65 = .ok (.iload 4, 2) := by decide +kernel
theorem dd_Md_copies_67 : decode (mm_Md_copies).2.1 67 = .ok (.ifCond .ne 9, 3) := by decide +kernel
theorem dd_Md_copies_70 : decode (mm_Md_copies).2.1 70 = .ok (.iinc 2 1, 3) := by decide +kernel
theorem dd_Md_copies_73 : decode (mm_Md_copies).2.1 73 = .ok (.goto (-69), 3) := by decide +kernel
theorem dd_Md_copies_76 : decode (mm_Md_copies).2.1 76 = .ok (.aload_n 0, 1) := by decide +kernel
theorem dd_Md_copies_77 : decode (mm_Md_copies).2.1 77 = .ok (.iload_n 1, 1) := by decide +kernel
theorem dd_Md_copies_78 : decode (mm_Md_copies).2.1 78 = .ok (.iload_n 2, 1) := by decide +kernel
theorem dd_Md_copies_79 : decode (mm_Md_copies).2.1 79 = .ok (.iload 4, 2) := by decide +kernel
theorem dd_Md_copies_81 : decode (mm_Md_copies).2.1 81 = .ok (.invokevirtual 78, 3) := by decide +kernel
theorem dd_Md_copies_84 : decode (mm_Md_copies).2.1 84 = .ok (.istore 5, 2) := by decide +kernel
theorem dd_Md_copies_86 : decode (mm_Md_copies).2.1 86 = .ok (.aload_n 0, 1) := by decide +kernel
theorem dd_Md_copies_87 : decode (mm_Md_copies).2.1 87 = .ok (.iload_n 1, 1) := by decide +kernel
theorem dd_Md_copies_88 : decode (mm_Md_copies).2.1 88 = .ok (.iload_n 3, 1) := by decide +kernel
theorem dd_Md_copies_89 : decode (mm_Md_copies).2.1 89 = .ok (.iload_n 2, 1) := by decide +kernel
theorem dd_Md_copies_90 : decode (mm_Md_copies).2.1 90 = .ok (.invokevirtual 82, 3) := by decide +kernel
theorem dd_Md_copies_93 : decode (mm_Md_copies).2.1 93 = .ok (.aload_n 0, 1) := by decide +kernel
theorem dd_Md_copies_94 : decode (mm_Md_copies).2.1 94 = .ok (.bipush 29, 2) := by decide +kernel
theorem dd_Md_copies_96 : decode (mm_Md_copies).2.1 96 = .ok (.iload 5, 2) := by decide +kernel
theorem dd_Md_copies_98 : decode (mm_Md_copies).2.1 98 = .ok (.iadd, 1) := by decide +kernel
theorem dd_Md_copies_99 : decode (mm_Md_copies).2.1 99 = .ok (.invokevirtual 74, 3) := by decide +kernel
theorem dd_Md_copies_102 : decode (mm_Md_copies).2.1 102 = .ok (.aload_n 0, 1) := by decide +kernel
theorem dd_Md_copies_103 : decode (mm_Md_copies).2.1 103 = .ok (.iload 4, 2) := by decide +kernel
theorem dd_Md_copies_105 : decode (mm_Md_copies).2.1 105 = .ok (.iconst 1, 1) := by decide +kernel
theorem dd_Md_copies_106 : decode (mm_Md_copies).2.1 106 = .ok (.isub, 1) := by decide +kernel
theorem dd_Md_copies_107 : decode (mm_Md_copies).2.1 107 = .ok (.invokevirtual 74, 3) := by decide +kernel
theorem dd_Md_copies_110 : decode (mm_Md_copies).2.1 110 = .ok (.iload_n 2, 1) := by decide +kernel
theorem dd_Md_copies_111 : decode (mm_Md_copies).2.1 111 = .ok (.iload 5, 2) := by decide +kernel
theorem dd_Md_copies_113 : decode (mm_Md_copies).2.1 113 = .ok (.iadd, 1) := by decide +kernel
theorem dd_Md_copies_114 : decode (mm_Md_copies).2.1 114 = .ok (.istore_n 2, 1) := by decide +kernel
theorem dd_Md_copies_115 : decode (mm_Md_copies).2.1 115 = .ok (.iload_n 2, 1) := by decide +kernel
theorem dd_Md_copies_116 : decode (mm_Md_copies).2.1 116 = .ok (.istore_n 3, 1) := by decide +kernel
theorem dd_Md_copies_117 : decode (mm_Md_copies).2.1 117 = .ok (.goto (-113), 3) := by decide +kernel
theorem dd_Md_copies_120 : decode (mm_Md_copies).2.1 120 = .ok (.aload_n 0, 1) := by decide +kernel
theorem dd_Md_copies_121 : decode (mm_Md_copies).2.1 121 = .ok (.iload_n 1, 1) := by decide +kernel
theorem dd_Md_copies_122 : decode (mm_Md_copies).2.1 122 = .ok (.iload_n 3, 1) := by decide +kernel
theorem dd_Md_copies_123 : decode (mm_Md_copies).2.1 123 = .ok (.iload_n 2, 1) := by decide +kernel
theorem dd_Md_copies_124 : decode (mm_Md_copies).2.1 124 = .ok (.invokevirtual 82, 3) := by decide +kernel
theorem dd_Md_copies_127 : decode (mm_Md_copies).2.1 127 = .ok (.return_, 1) := by decide +kernel
theorem dd_Md_copyLength_0 : decode (mm_Md_copyLength).2.1 0 = .ok (.iconst 0, 1) := by decide +kernel
theorem dd_Md_copyLength_1 : decode (mm_Md_copyLength).2.1 1 = .ok (.istore 4, 2) := by decide +kernel
theorem dd_Md_copyLength_3 : decode (mm_Md_copyLength).2.1 3 = .ok (.iload_n 3, 1) := by decide +kernel
theorem dd_Md_copyLength_4 : decode (mm_Md_copyLength).2.1 4 = .ok (.iload_n 2, 1) := by decide +kernel
theorem dd_Md_copyLength_5 : decode (mm_Md_copyLength).2.1 5 = .ok (.if_icmp .le 5, 3) := by decide +kernel
theorem dd_Md_copyLength_8 : decode (mm_Md_copyLength).2.1 8 = .ok (.iconst 0, 1) := by decide +kernel
theorem dd_Md_copyLength_9 : decode (mm_Md_copyLength).2.1 9 = .ok (.ireturn, 1) := by decide +kernel
theorem dd_Md_copyLength_10 : decode (mm_Md_copyLength).2.1 10 = .ok (.iload 4, 2) := by decide +kernel
theorem dd_Md_copyLength_12 : decode (mm_Md_copyLength).2.1 12 = .ok (.bipush 34, 2) := by decide +kernel
theorem dd_Md_copyLength_14 : decode (mm_Md_copyLength).2.1 14 = .ok (.if_icmp .ge 45, 3) := by decide +kernel
theorem dd_Md_copyLength_17 : decode (mm_Md_copyLength).2.1 17 = .ok (.iload_n 2, 1) := by decide +kernel
theorem dd_Md_copyLength_18 : decode (mm_Md_copyLength).2.1 18 = .ok (.iload 4, 2) := by decide +kernel
theorem dd_Md_copyLength_20 : decode (mm_Md_copyLength).2.1 20 = .ok (.iadd, 1) := by decide +kernel
theorem dd_Md_copyLength_21 : decode (mm_Md_copyLength).2.1 21 = .ok (.aload_n 0, 1) := by decide +kernel
theorem dd_Md_copyLength_22 : decode (mm_Md_copyLength).2.1 22 = .ok (.getfield 25, 3) := by decide +kernel
theorem dd_Md_copyLength_25 : decode (mm_Md_copyLength).2.1 25 = .ok (.iload_n 1, 1) := by decide +kernel
theorem dd_Md_copyLength_26 : decode (mm_Md_copyLength).2.1 26 = .ok (.iaload, 1) := by decide +kernel
theorem dd_Md_copyLength_27 : decode (mm_Md_copyLength).2.1 27 = .ok (.if_icmp .ge 32, 3) := by decide +kernel
theorem dd_Md_copyLength_30 : decode (mm_Md_copyLength).2.1 30 = .ok (.aload_n 0, 1) := by decide +kernel
theorem dd_Md_copyLength_31 : decode (mm_Md_copyLength).2.1 31 = .ok (.iload_n 1, 1) := by decide +kernel
theorem dd_Md_copyLength_32 : decode (mm_Md_copyLength).2.1 32 = .ok (.iload_n 2, 1) := by decide +kernel
theorem dd_Md_copyLength_33 : decode (mm_Md_copyLength).2.1 33 = .ok (.iload 4, 2) := by decide +kernel
theorem dd_Md_copyLength_35 : decode (mm_Md_copyLength).2.1 35 = .ok (.iadd, 1) := by decide +kernel
theorem dd_Md_copyLength_36 : decode (mm_Md_copyLength).2.1 36 = .ok (.invokevirtual 70, 3) := by decide +kernel
theorem dd_Md_copyLength_39 : decode (mm_Md_copyLength).2.1 39 = .ok (.aload_n 0, 1) := by decide +kernel
theorem dd_Md_copyLength_40 : decode (mm_Md_copyLength).2.1 40 = .ok (.iload_n 1, 1) := by decide +kernel
theorem dd_Md_copyLength_41 : decode (mm_Md_copyLength).2.1 41 = .ok (.iload_n 2, 1) := by decide +kernel
theorem dd_Md_copyLength_42 : decode (mm_Md_copyLength).2.1 42 = .ok (.iload 4, 2) := by decide +kernel
theorem dd_Md_copyLength_44 : decode (mm_Md_copyLength).2.1 44 = .ok (.iadd, 1) := by decide +kernel
theorem dd_Md_copyLength_45 : decode (mm_Md_copyLength).2.1 45 = .ok (.iload_n 3, 1) := by decide +kernel
theorem dd_Md_copyLength_46 : decode (mm_Md_copyLength).2.1 46 = .ok (.isub, 1) := by decide +kernel
theorem dd_Md_copyLength_47 : decode (mm_Md_copyLength).2.1 47 = .ok (.invokevirtual 70, 3) := by decide +kernel
theorem dd_Md_copyLength_50 : decode (mm_Md_copyLength).2.1 50 = .ok (.if_icmp .ne 9, 3) := by decide +kernel
theorem dd_Md_copyLength_53 : decode (mm_Md_copyLength).2.1 53 = .ok (.iinc 4 1, 3) := by decide +kernel
theorem dd_Md_copyLength_56 : decode (mm_Md_copyLength).2.1 56 = .ok (.goto (-46), 3) := by decide +kernel
theorem dd_Md_copyLength_59 : decode (mm_Md_copyLength).2.1 59 = .ok (.iload 4, 2) := by decide +kernel
theorem dd_Md_copyLength_61 : decode (mm_Md_copyLength).2.1 61 = .ok (.iconst 3, 1) := by decide +kernel
theorem dd_Md_copyLength_62 : decode (mm_Md_copyLength).2.1 62 = .ok (.if_icmp .ge 7, 3) := by decide +kernel
theorem dd_Md_copyLength_65 : decode (mm_Md_copyLength).2.1 65 = .ok (.iconst 0, 1) := by decide +kernel
theorem dd_Md_copyLength_66 : decode (mm_Md_copyLength).2.1 66 = .ok (.goto 5, 3) := by decide +kernel
theorem dd_Md_copyLength_69 : decode (mm_Md_copyLength).2.1 69 = .ok (.iload 4, 2) := by decide +kernel
theorem dd_Md_copyLength_71 : decode (mm_Md_copyLength).2.1 71 = .ok (.ireturn, 1) := by decide +kernel
theorem dd_Md_literals_0 : decode (mm_Md_literals).2.1 0 = .ok (.iload_n 2, 1) := by decide +kernel
theorem dd_Md_literals_1 : decode (mm_Md_literals).2.1 1 = .ok (.istore 4, 2) := by decide +kernel
theorem dd_Md_literals_3 : decode (mm_Md_literals).2.1 3 = .ok (.iload 4, 2) := by decide +kernel
theorem dd_Md_literals_5 : decode (mm_Md_literals).2.1 5 = .ok (.iload_n 3, 1) := by decide +kernel
theorem dd_Md_literals_6 : decode (mm_Md_literals).2.1 6 = .ok (.if_icmp .ge 54, 3) := by decide +kernel
theorem dd_Md_literals_9 : decode (mm_Md_literals).2.1 9 = .ok (.iload 4, 2) := by decide +kernel
theorem dd_Md_literals_11 : decode (mm_Md_literals).2.1 11 = .ok (.iload_n 2, 1) := by decide +kernel
theorem dd_Md_literals_12 : decode (mm_Md_literals).2.1 12 = .ok (.isub, 1) := by decide +kernel
theorem dd_Md_literals_13 : decode (mm_Md_literals).2.1 13 = .ok (.bipush 32, 2) := by decide +kernel
theorem dd_Md_literals_15 : decode (mm_Md_literals).2.1 15 = .ok (.irem, 1) := by decide +kernel
theorem dd_Md_literals_16 : decode (mm_Md_literals).2.1 16 = .ok (.ifCond .ne 27, 3) := by decide +kernel
theorem dd_Md_literals_19 : decode (mm_Md_literals).2.1 19 = .ok (.aload_n 0, 1) := by decide +kernel
theorem dd_Md_literals_20 : decode (mm_Md_literals).2.1 20 = .ok (.iload_n 3, 1) := by decide +kernel
theorem dd_Md_literals_21 : decode (mm_Md_literals).2.1 21 = .ok (.iload 4, 2) := by decide +kernel
theorem dd_Md_literals_23 : decode (mm_Md_literals).2.1 23 = .ok (.isub, 1) := by decide +kernel
theorem dd_Md_literals_24 : decode (mm_Md_literals).2.1 24 = .ok (.bipush 32, 2) := by decide +kernel
theorem dd_Md_literals_26 : decode (mm_Md_literals).2.1 26 = .ok (.if_icmp .ge 12, 3) := by decide +kernel
theorem dd_Md_literals_29 : decode (mm_Md_literals).2.1 29 = .ok (.iload_n 3, 1) := by decide +kernel
theorem dd_Md_literals_30 : decode (mm_Md_literals).2.1 30 = .ok (.iload 4, 2) := by decide +kernel
theorem dd_Md_literals_32 : decode (mm_Md_literals).2.1 32 = .ok (.isub, 1) := by decide +kernel
theorem dd_Md_literals_33 : decode (mm_Md_literals).2.1 33 = .ok (.iconst 1, 1) := by decide +kernel
theorem dd_Md_literals_34 : decode (mm_Md_literals).2.1 34 = .ok (.isub, 1) := by decide +kernel
theorem dd_Md_literals_35 : decode (mm_Md_literals).2.1 35 = .ok (.goto 5, 3) := by decide +kernel
theorem dd_Md_literals_38 : decode (mm_Md_literals).2.1 38 = .ok (.bipush 31, 2) := by decide +kernel
theorem dd_Md_literals_40 : decode (mm_Md_literals).2.1 40 = .ok (.invokevirtual 74, 3) := by decide +kernel
theorem dd_Md_literals_43 : decode (mm_Md_literals).2.1 43 = .ok (.aload_n 0, 1) := by decide +kernel
theorem dd_Md_literals_44 : decode (mm_Md_literals).2.1 44 = .ok (.aload_n 0, 1) := by decide +kernel
theorem dd_Md_literals_45 : decode (mm_Md_literals).2.1 45 = .ok (.iload_n 1, 1) := by decide +kernel
theorem dd_Md_literals_46 : decode (mm_Md_literals).2.1 46 = .ok (.iload 4, 2) := by decide +kernel
theorem dd_Md_literals_48 : decode (mm_Md_literals).2.1 48 = .ok (.invokevirtual 70, 3) := by decide +kernel
theorem dd_Md_literals_51 : decode (mm_Md_literals).2.1 51 = .ok (.invokevirtual 74, 3) := by decide +kernel
theorem dd_Md_literals_54 : decode (mm_Md_literals).2.1 54 = .ok (.iinc 4 1, 3) := by decide +kernel
theorem dd_Md_literals_57 : decode (mm_Md_literals).2.1 57 = .ok (.goto (-54), 3) := by decide +kernel
theorem dd_Md_literals_60 : decode (mm_Md_literals).2.1 60 = .ok (.return_, 1) := by decide +kernel
theorem dd_Md_say_0 : decode (mm_Md_say).2.1 0 = .ok (.aload_n 0, 1) := by decide +kernel
theorem dd_Md_say_1 : decode (mm_Md_say).2.1 1 = .ok (.getfield 34, 3) := by decide +kernel
theorem dd_Md_say_4 : decode (mm_Md_say).2.1 4 = .ok (.aload_n 0, 1) := by decide +kernel
theorem dd_Md_say_5 : decode (mm_Md_say).2.1 5 = .ok (.getfield 96, 3) := by decide +kernel
theorem dd_Md_say_8 : decode (mm_Md_say).2.1 8 = .ok (.iload_n 1, 1) := by decide +kernel
theorem dd_Md_say_9 : decode (mm_Md_say).2.1 9 = .ok (.iastore, 1) := by decide +kernel
theorem dd_Md_say_10 : decode (mm_Md_say).2.1 10 = .ok (.aload_n 0, 1) := by decide +kernel
theorem dd_Md_say_11 : decode (mm_Md_say).2.1 11 = .ok (.dup, 1) := by decide +kernel
theorem dd_Md_say_12 : decode (mm_Md_say).2.1 12 = .ok (.getfield 96, 3) := by decide +kernel
theorem dd_Md_say_15 : decode (mm_Md_say).2.1 15 = .ok (.iconst 1, 1) := by decide +kernel
theorem dd_Md_say_16 : decode (mm_Md_say).2.1 16 = .ok (.iadd, 1) := by decide +kernel
theorem dd_Md_say_17 : decode (mm_Md_say).2.1 17 = .ok (.putfield 96, 3) := by decide +kernel
theorem dd_Md_say_20 : decode (mm_Md_say).2.1 20 = .ok (.return_, 1) := by decide +kernel
theorem dd_Md_sayHead_0 : decode (mm_Md_sayHead).2.1 0 = .ok (.aload_n 0, 1) := by decide +kernel
theorem dd_Md_sayHead_1 : decode (mm_Md_sayHead).2.1 1 = .ok (.aload_n 0, 1) := by decide +kernel
theorem dd_Md_sayHead_2 : decode (mm_Md_sayHead).2.1 2 = .ok (.getfield 16, 3) := by decide +kernel
theorem dd_Md_sayHead_5 : decode (mm_Md_sayHead).2.1 5 = .ok (.iload_n 1, 1) := by decide +kernel
theorem dd_Md_sayHead_6 : decode (mm_Md_sayHead).2.1 6 = .ok (.iaload, 1) := by decide +kernel
theorem dd_Md_sayHead_7 : decode (mm_Md_sayHead).2.1 7 = .ok (.invokevirtual 99, 3) := by decide +kernel
theorem dd_Md_sayHead_10 : decode (mm_Md_sayHead).2.1 10 = .ok (.aload_n 0, 1) := by decide +kernel
theorem dd_Md_sayHead_11 : decode (mm_Md_sayHead).2.1 11 = .ok (.aload_n 0, 1) := by decide +kernel
theorem dd_Md_sayHead_12 : decode (mm_Md_sayHead).2.1 12 = .ok (.getfield 19, 3) := by decide +kernel
theorem dd_Md_sayHead_15 : decode (mm_Md_sayHead).2.1 15 = .ok (.iload_n 1, 1) := by decide +kernel
theorem dd_Md_sayHead_16 : decode (mm_Md_sayHead).2.1 16 = .ok (.iaload, 1) := by decide +kernel
theorem dd_Md_sayHead_17 : decode (mm_Md_sayHead).2.1 17 = .ok (.invokevirtual 99, 3) := by decide +kernel
theorem dd_Md_sayHead_20 : decode (mm_Md_sayHead).2.1 20 = .ok (.iconst 0, 1) := by decide +kernel
theorem dd_Md_sayHead_21 : decode (mm_Md_sayHead).2.1 21 = .ok (.istore_n 2, 1) := by decide +kernel
theorem dd_Md_sayHead_22 : decode (mm_Md_sayHead).2.1 22 = .ok (.iload_n 2, 1) := by decide +kernel
theorem dd_Md_sayHead_23 : decode (mm_Md_sayHead).2.1 23 = .ok (.aload_n 0, 1) := by decide +kernel
theorem dd_Md_sayHead_24 : decode (mm_Md_sayHead).2.1 24 = .ok (.getfield 19, 3) := by decide +kernel
theorem dd_Md_sayHead_27 : decode (mm_Md_sayHead).2.1 27 = .ok (.iload_n 1, 1) := by decide +kernel
theorem dd_Md_sayHead_28 : decode (mm_Md_sayHead).2.1 28 = .ok (.iaload, 1) := by decide +kernel
theorem dd_Md_sayHead_29 : decode (mm_Md_sayHead).2.1 29 = .ok (.if_icmp .ge 24, 3) := by decide +kernel
theorem dd_Md_sayHead_32 : decode (mm_Md_sayHead).2.1 32 = .ok (.aload_n 0, 1) := by decide +kernel
theorem dd_Md_sayHead_33 : decode (mm_Md_sayHead).2.1 33 = .ok (.aload_n 0, 1) := by decide +kernel
theorem dd_Md_sayHead_34 : decode (mm_Md_sayHead).2.1 34 = .ok (.getfield 22, 3) := by decide +kernel
theorem dd_Md_sayHead_37 : decode (mm_Md_sayHead).2.1 37 = .ok (.bipush 8, 2) := by decide +kernel
theorem dd_Md_sayHead_39 : decode (mm_Md_sayHead).2.1 39 = .ok (.iload_n 1, 1) := by decide +kernel
theorem dd_Md_sayHead_40 : decode (mm_Md_sayHead).2.1 40 = .ok (.imul, 1) := by decide +kernel
theorem dd_Md_sayHead_41 : decode (mm_Md_sayHead).2.1 41 = .ok (.iload_n 2, 1) := by decide +kernel
theorem dd_Md_sayHead_42 : decode (mm_Md_sayHead).2.1 42 = .ok (.iadd, 1) := by decide +kernel
theorem dd_Md_sayHead_43 : decode (mm_Md_sayHead).2.1 43 = .ok (.iaload, 1) := by decide +kernel
theorem dd_Md_sayHead_44 : decode (mm_Md_sayHead).2.1 44 = .ok (.invokevirtual 99, 3) := by decide +kernel
theorem dd_Md_sayHead_47 : decode (mm_Md_sayHead).2.1 47 = .ok (.iinc 2 1, 3) := by decide +kernel
theorem dd_Md_sayHead_50 : decode (mm_Md_sayHead).2.1 50 = .ok (.goto (-28), 3) := by decide +kernel
theorem dd_Md_sayHead_53 : decode (mm_Md_sayHead).2.1 53 = .ok (.return_, 1) := by decide +kernel
theorem dd_Md_checkOf_0 : decode (mm_Md_checkOf).2.1 0 = .ok (.ldc 92, 2) := by decide +kernel
theorem dd_Md_checkOf_2 : decode (mm_Md_checkOf).2.1 2 = .ok (.istore_n 2, 1) := by decide +kernel
theorem dd_Md_checkOf_3 : decode (mm_Md_checkOf).2.1 3 = .ok (.iconst 0, 1) := by decide +kernel
theorem dd_Md_checkOf_4 : decode (mm_Md_checkOf).2.1 4 = .ok (.istore_n 3, 1) := by decide +kernel
theorem dd_Md_checkOf_5 : decode (mm_Md_checkOf).2.1 5 = .ok (.iload_n 3, 1) := by decide +kernel
theorem dd_Md_checkOf_6 : decode (mm_Md_checkOf).2.1 6 = .ok (.aload_n 0, 1) := by decide +kernel
theorem dd_Md_checkOf_7 : decode (mm_Md_checkOf).2.1 7 = .ok (.getfield 25, 3) := by decide +kernel
theorem dd_Md_checkOf_10 : decode (mm_Md_checkOf).2.1 10 = .ok (.iload_n 1, 1) := by decide +kernel
theorem dd_Md_checkOf_11 : decode (mm_Md_checkOf).2.1 11 = .ok (.iaload, 1) := by decide +kernel
theorem dd_Md_checkOf_12 : decode (mm_Md_checkOf).2.1 12 = .ok (.if_icmp .ge 20, 3) := by decide +kernel
theorem dd_Md_checkOf_15 : decode (mm_Md_checkOf).2.1 15 = .ok (.iload_n 2, 1) := by decide +kernel
theorem dd_Md_checkOf_16 : decode (mm_Md_checkOf).2.1 16 = .ok (.aload_n 0, 1) := by decide +kernel
theorem dd_Md_checkOf_17 : decode (mm_Md_checkOf).2.1 17 = .ok (.iload_n 1, 1) := by decide +kernel
theorem dd_Md_checkOf_18 : decode (mm_Md_checkOf).2.1 18 = .ok (.iload_n 3, 1) := by decide +kernel
theorem dd_Md_checkOf_19 : decode (mm_Md_checkOf).2.1 19 = .ok (.invokevirtual 70, 3) := by decide +kernel
theorem dd_Md_checkOf_22 : decode (mm_Md_checkOf).2.1 22 = .ok (.invokestatic 93, 3) := by decide +kernel
theorem dd_Md_checkOf_25 : decode (mm_Md_checkOf).2.1 25 = .ok (.istore_n 2, 1) := by decide +kernel
theorem dd_Md_checkOf_26 : decode (mm_Md_checkOf).2.1 26 = .ok (.iinc 3 1, 3) := by decide +kernel
theorem dd_Md_checkOf_29 : decode (mm_Md_checkOf).2.1 29 = .ok (.goto (-24), 3) := by decide +kernel
theorem dd_Md_checkOf_32 : decode (mm_Md_checkOf).2.1 32 = .ok (.iload_n 2, 1) := by decide +kernel
theorem dd_Md_checkOf_33 : decode (mm_Md_checkOf).2.1 33 = .ok (.ireturn, 1) := by decide +kernel
theorem dd_Md_checked_0 : decode (mm_Md_checked).2.1 0 = .ok (.iload_n 0, 1) := by decide +kernel
end
section
theorem dd_Md_checked_1 : decode (mm_Md_checked).2.1 1 = .ok (.istore_n 2, 1) := by decide +kernel
theorem dd_Md_checked_2 : decode (mm_Md_checked).2.1 2 = .ok (.bipush 7, 2) := by decide +kernel
theorem dd_Md_checked_4 : decode (mm_Md_checked).2.1 4 = .ok (.istore_n 3, 1) := by decide +kernel
theorem dd_Md_checked_5 : decode (mm_Md_checked).2.1 5 = .ok (.iload_n 3, 1) := by decide +kernel
theorem dd_Md_checked_6 : decode (mm_Md_checked).2.1 6 = .ok (.ifCond .lt 40, 3) := by decide +kernel
theorem dd_Md_checked_9 : decode (mm_Md_checked).2.1 9 = .ok (.iload_n 1, 1) := by decide +kernel
theorem dd_Md_checked_10 : decode (mm_Md_checked).2.1 10 = .ok (.iload_n 3, 1) := by decide +kernel
theorem dd_Md_checked_11 : decode (mm_Md_checked).2.1 11 = .ok (.ishr, 1) := by decide +kernel
theorem dd_Md_checked_12 : decode (mm_Md_checked).2.1 12 = .ok (.iload_n 2, 1) := by decide +kernel
theorem dd_Md_checked_13 : decode (mm_Md_checked).2.1 13 = .ok (.bipush 15, 2) := by decide +kernel
theorem dd_Md_checked_15 : decode (mm_Md_checked).2.1 15 = .ok (.ishr, 1) := by decide +kernel
theorem dd_Md_checked_16 : decode (mm_Md_checked).2.1 16 = .ok (.ixor, 1) := by decide +kernel
theorem dd_Md_checked_17 : decode (mm_Md_checked).2.1 17 = .ok (.iconst 1, 1) := by decide +kernel
theorem dd_Md_checked_18 : decode (mm_Md_checked).2.1 18 = .ok (.iand, 1) := by decide +kernel
theorem dd_Md_checked_19 : decode (mm_Md_checked).2.1 19 = .ok (.istore 4, 2) := by decide +kernel
theorem dd_Md_checked_21 : decode (mm_Md_checked).2.1 21 = .ok (.iload_n 2, 1) := by decide +kernel
theorem dd_Md_checked_22 : decode (mm_Md_checked).2.1 22 = .ok (.iconst 2, 1) := by decide +kernel
theorem dd_Md_checked_23 : decode (mm_Md_checked).2.1 23 = .ok (.imul, 1) := by decide +kernel
theorem dd_Md_checked_24 : decode (mm_Md_checked).2.1 24 = .ok (.ldc 92, 2) := by decide +kernel
theorem dd_Md_checked_26 : decode (mm_Md_checked).2.1 26 = .ok (.iand, 1) := by decide +kernel
theorem dd_Md_checked_27 : decode (mm_Md_checked).2.1 27 = .ok (.istore_n 2, 1) := by decide +kernel
theorem dd_Md_checked_28 : decode (mm_Md_checked).2.1 28 = .ok (.iload 4, 2) := by decide +kernel
theorem dd_Md_checked_30 : decode (mm_Md_checked).2.1 30 = .ok (.iconst 1, 1) := by decide +kernel
theorem dd_Md_checked_31 : decode (mm_Md_checked).2.1 31 = .ok (.if_icmp .ne 9, 3) := by decide +kernel
theorem dd_Md_checked_34 : decode (mm_Md_checked).2.1 34 = .ok (.iload_n 2, 1) := by decide +kernel
theorem dd_Md_checked_35 : decode (mm_Md_checked).2.1 35 = .ok (.sipush 4129, 3) := by decide +kernel
theorem dd_Md_checked_38 : decode (mm_Md_checked).2.1 38 = .ok (.ixor, 1) := by decide +kernel
theorem dd_Md_checked_39 : decode (mm_Md_checked).2.1 39 = .ok (.istore_n 2, 1) := by decide +kernel
theorem dd_Md_checked_40 : decode (mm_Md_checked).2.1 40 = .ok (.iinc 3 (-1), 3) := by decide +kernel
theorem dd_Md_checked_43 : decode (mm_Md_checked).2.1 43 = .ok (.goto (-38), 3) := by decide +kernel
theorem dd_Md_checked_46 : decode (mm_Md_checked).2.1 46 = .ok (.iload_n 2, 1) := by decide +kernel
theorem dd_Md_checked_47 : decode (mm_Md_checked).2.1 47 = .ok (.ireturn, 1) := by decide +kernel
theorem dd_Md_sayTwo_0 : decode (mm_Md_sayTwo).2.1 0 = .ok (.aload_n 0, 1) := by decide +kernel
theorem dd_Md_sayTwo_1 : decode (mm_Md_sayTwo).2.1 1 = .ok (.iload_n 1, 1) := by decide +kernel
theorem dd_Md_sayTwo_2 : decode (mm_Md_sayTwo).2.1 2 = .ok (.bipush 8, 2) := by decide +kernel
theorem dd_Md_sayTwo_4 : decode (mm_Md_sayTwo).2.1 4 = .ok (.ishr, 1) := by decide +kernel
theorem dd_Md_sayTwo_5 : decode (mm_Md_sayTwo).2.1 5 = .ok (.invokevirtual 99, 3) := by decide +kernel
theorem dd_Md_sayTwo_8 : decode (mm_Md_sayTwo).2.1 8 = .ok (.aload_n 0, 1) := by decide +kernel
theorem dd_Md_sayTwo_9 : decode (mm_Md_sayTwo).2.1 9 = .ok (.iload_n 1, 1) := by decide +kernel
theorem dd_Md_sayTwo_10 : decode (mm_Md_sayTwo).2.1 10 = .ok (.sipush 255, 3) := by decide +kernel
theorem dd_Md_sayTwo_13 : decode (mm_Md_sayTwo).2.1 13 = .ok (.iand, 1) := by decide +kernel
theorem dd_Md_sayTwo_14 : decode (mm_Md_sayTwo).2.1 14 = .ok (.invokevirtual 99, 3) := by decide +kernel
theorem dd_Md_sayTwo_17 : decode (mm_Md_sayTwo).2.1 17 = .ok (.return_, 1) := by decide +kernel
theorem dd_Md_sayRow_0 : decode (mm_Md_sayRow).2.1 0 = .ok (.iconst 0, 1) := by decide +kernel
theorem dd_Md_sayRow_1 : decode (mm_Md_sayRow).2.1 1 = .ok (.istore_n 1, 1) := by decide +kernel
theorem dd_Md_sayRow_2 : decode (mm_Md_sayRow).2.1 2 = .ok (.iload_n 1, 1) := by decide +kernel
theorem dd_Md_sayRow_3 : decode (mm_Md_sayRow).2.1 3 = .ok (.aload_n 0, 1) := by decide +kernel
theorem dd_Md_sayRow_4 : decode (mm_Md_sayRow).2.1 4 = .ok (.getfield 67, 3) := by decide +kernel
theorem dd_Md_sayRow_7 : decode (mm_Md_sayRow).2.1 7 = .ok (.if_icmp .ge 19, 3) := by decide +kernel
theorem dd_Md_sayRow_10 : decode (mm_Md_sayRow).2.1 10 = .ok (.aload_n 0, 1) := by decide +kernel
theorem dd_Md_sayRow_11 : decode (mm_Md_sayRow).2.1 11 = .ok (.aload_n 0, 1) := by decide +kernel
theorem dd_Md_sayRow_12 : decode (mm_Md_sayRow).2.1 12 = .ok (.getfield 47, 3) := by decide +kernel
theorem dd_Md_sayRow_15 : decode (mm_Md_sayRow).2.1 15 = .ok (.iload_n 1, 1) := by decide +kernel
theorem dd_Md_sayRow_16 : decode (mm_Md_sayRow).2.1 16 = .ok (.iaload, 1) := by decide +kernel
theorem dd_Md_sayRow_17 : decode (mm_Md_sayRow).2.1 17 = .ok (.invokevirtual 99, 3) := by decide +kernel
theorem dd_Md_sayRow_20 : decode (mm_Md_sayRow).2.1 20 = .ok (.iinc 1 1, 3) := by decide +kernel
theorem dd_Md_sayRow_23 : decode (mm_Md_sayRow).2.1 23 = .ok (.goto (-21), 3) := by decide +kernel
theorem dd_Md_sayRow_26 : decode (mm_Md_sayRow).2.1 26 = .ok (.return_, 1) := by decide +kernel
theorem dd_Md_index_0 : decode (mm_Md_index).2.1 0 = .ok (.aload_n 0, 1) := by decide +kernel
theorem dd_Md_index_1 : decode (mm_Md_index).2.1 1 = .ok (.bipush 73, 2) := by decide +kernel
theorem dd_Md_index_3 : decode (mm_Md_index).2.1 3 = .ok (.invokevirtual 99, 3) := by decide +kernel
theorem dd_Md_index_6 : decode (mm_Md_index).2.1 6 = .ok (.iconst 0, 1) := by decide +kernel
theorem dd_Md_index_7 : decode (mm_Md_index).2.1 7 = .ok (.istore_n 1, 1) := by decide +kernel
theorem dd_Md_index_8 : decode (mm_Md_index).2.1 8 = .ok (.iload_n 1, 1) := by decide +kernel
theorem dd_Md_index_9 : decode (mm_Md_index).2.1 9 = .ok (.aload_n 0, 1) := by decide +kernel
theorem dd_Md_index_10 : decode (mm_Md_index).2.1 10 = .ok (.getfield 64, 3) := by decide +kernel
theorem dd_Md_index_13 : decode (mm_Md_index).2.1 13 = .ok (.if_icmp .ge 18, 3) := by decide +kernel
theorem dd_Md_index_16 : decode (mm_Md_index).2.1 16 = .ok (.aload_n 0, 1) := by decide +kernel
theorem dd_Md_index_17 : decode (mm_Md_index).2.1 17 = .ok (.iload_n 1, 1) := by decide +kernel
theorem dd_Md_index_18 : decode (mm_Md_index).2.1 18 = .ok (.invokevirtual 102, 3) := by decide +kernel
theorem dd_Md_index_21 : decode (mm_Md_index).2.1 21 = .ok (.aload_n 0, 1) := by decide +kernel
theorem dd_Md_index_22 : decode (mm_Md_index).2.1 22 = .ok (.invokevirtual 115, 3) := by decide +kernel
theorem dd_Md_index_25 : decode (mm_Md_index).2.1 25 = .ok (.iinc 1 1, 3) := by decide +kernel
theorem dd_Md_index_28 : decode (mm_Md_index).2.1 28 = .ok (.goto (-20), 3) := by decide +kernel
theorem dd_Md_index_31 : decode (mm_Md_index).2.1 31 = .ok (.aload_n 0, 1) := by decide +kernel
theorem dd_Md_index_32 : decode (mm_Md_index).2.1 32 = .ok (.getfield 96, 3) := by decide +kernel
theorem dd_Md_index_35 : decode (mm_Md_index).2.1 35 = .ok (.istore_n 1, 1) := by decide +kernel
theorem dd_Md_index_36 : decode (mm_Md_index).2.1 36 = .ok (.iconst 1, 1) := by decide +kernel
theorem dd_Md_index_37 : decode (mm_Md_index).2.1 37 = .ok (.istore_n 2, 1) := by decide +kernel
theorem dd_Md_index_38 : decode (mm_Md_index).2.1 38 = .ok (.iconst 0, 1) := by decide +kernel
theorem dd_Md_index_39 : decode (mm_Md_index).2.1 39 = .ok (.istore_n 3, 1) := by decide +kernel
theorem dd_Md_index_40 : decode (mm_Md_index).2.1 40 = .ok (.iload_n 3, 1) := by decide +kernel
theorem dd_Md_index_41 : decode (mm_Md_index).2.1 41 = .ok (.aload_n 0, 1) := by decide +kernel
theorem dd_Md_index_42 : decode (mm_Md_index).2.1 42 = .ok (.getfield 64, 3) := by decide +kernel
theorem dd_Md_index_45 : decode (mm_Md_index).2.1 45 = .ok (.if_icmp .ge 58, 3) := by decide +kernel
theorem dd_Md_index_48 : decode (mm_Md_index).2.1 48 = .ok (.aload_n 0, 1) := by decide +kernel
theorem dd_Md_index_49 : decode (mm_Md_index).2.1 49 = .ok (.iload_n 3, 1) := by decide +kernel
theorem dd_Md_index_50 : decode (mm_Md_index).2.1 50 = .ok (.invokevirtual 102, 3) := by decide +kernel
theorem dd_Md_index_53 : decode (mm_Md_index).2.1 53 = .ok (.aload_n 0, 1) := by decide +kernel
theorem dd_Md_index_54 : decode (mm_Md_index).2.1 54 = .ok (.iload_n 3, 1) := by decide +kernel
theorem dd_Md_index_55 : decode (mm_Md_index).2.1 55 = .ok (.invokevirtual 105, 3) := by decide +kernel
theorem dd_Md_index_58 : decode (mm_Md_index).2.1 58 = .ok (.aload_n 0, 1) := by decide +kernel
theorem dd_Md_index_59 : decode (mm_Md_index).2.1 59 = .ok (.iload_n 2, 1) := by decide +kernel
theorem dd_Md_index_60 : decode (mm_Md_index).2.1 60 = .ok (.invokevirtual 112, 3) := by decide +kernel
theorem dd_Md_index_63 : decode (mm_Md_index).2.1 63 = .ok (.aload_n 0, 1) := by decide +kernel
theorem dd_Md_index_64 : decode (mm_Md_index).2.1 64 = .ok (.aload_n 0, 1) := by decide +kernel
theorem dd_Md_index_65 : decode (mm_Md_index).2.1 65 = .ok (.getfield 67, 3) := by decide +kernel
theorem dd_Md_index_68 : decode (mm_Md_index).2.1 68 = .ok (.invokevirtual 99, 3) := by decide +kernel
theorem dd_Md_index_71 : decode (mm_Md_index).2.1 71 = .ok (.aload_n 0, 1) := by decide +kernel
theorem dd_Md_index_72 : decode (mm_Md_index).2.1 72 = .ok (.aload_n 0, 1) := by decide +kernel
theorem dd_Md_index_73 : decode (mm_Md_index).2.1 73 = .ok (.getfield 25, 3) := by decide +kernel
theorem dd_Md_index_76 : decode (mm_Md_index).2.1 76 = .ok (.iload_n 3, 1) := by decide +kernel
theorem dd_Md_index_77 : decode (mm_Md_index).2.1 77 = .ok (.iaload, 1) := by decide +kernel
theorem dd_Md_index_78 : decode (mm_Md_index).2.1 78 = .ok (.invokevirtual 99, 3) := by decide +kernel
theorem dd_Md_index_81 : decode (mm_Md_index).2.1 81 = .ok (.aload_n 0, 1) := by decide +kernel
theorem dd_Md_index_82 : decode (mm_Md_index).2.1 82 = .ok (.aload_n 0, 1) := by decide +kernel
theorem dd_Md_index_83 : decode (mm_Md_index).2.1 83 = .ok (.iload_n 3, 1) := by decide +kernel
theorem dd_Md_index_84 : decode (mm_Md_index).2.1 84 = .ok (.invokevirtual 108, 3) := by decide +kernel
theorem dd_Md_index_87 : decode (mm_Md_index).2.1 87 = .ok (.invokevirtual 112, 3) := by decide +kernel
theorem dd_Md_index_90 : decode (mm_Md_index).2.1 90 = .ok (.iload_n 2, 1) := by decide +kernel
theorem dd_Md_index_91 : decode (mm_Md_index).2.1 91 = .ok (.aload_n 0, 1) := by decide +kernel
theorem dd_Md_index_92 : decode (mm_Md_index).2.1 92 = .ok (.getfield 67, 3) := by decide +kernel
theorem dd_Md_index_95 : decode (mm_Md_index).2.1 95 = .ok (.iadd, 1) := by decide +kernel
theorem dd_Md_index_96 : decode (mm_Md_index).2.1 96 = .ok (.istore_n 2, 1) := by decide +kernel
theorem dd_Md_index_97 : decode (mm_Md_index).2.1 97 = .ok (.iinc 3 1, 3) := by decide +kernel
theorem dd_Md_index_100 : decode (mm_Md_index).2.1 100 = .ok (.goto (-60), 3) := by decide +kernel
theorem dd_Md_index_103 : decode (mm_Md_index).2.1 103 = .ok (.ldc 92, 2) := by decide +kernel
theorem dd_Md_index_105 : decode (mm_Md_index).2.1 105 = .ok (.istore_n 3, 1) := by decide +kernel
theorem dd_Md_index_106 : decode (mm_Md_index).2.1 106 = .ok (.iload_n 1, 1) := by decide +kernel
theorem dd_Md_index_107 : decode (mm_Md_index).2.1 107 = .ok (.istore 4, 2) := by decide +kernel
theorem dd_Md_index_109 : decode (mm_Md_index).2.1 109 = .ok (.iload 4, 2) := by decide +kernel
theorem dd_Md_index_111 : decode (mm_Md_index).2.1 111 = .ok (.aload_n 0, 1) := by decide +kernel
theorem dd_Md_index_112 : decode (mm_Md_index).2.1 112 = .ok (.getfield 96, 3) := by decide +kernel
theorem dd_Md_index_115 : decode (mm_Md_index).2.1 115 = .ok (.if_icmp .ge 21, 3) := by decide +kernel
theorem dd_Md_index_118 : decode (mm_Md_index).2.1 118 = .ok (.iload_n 3, 1) := by decide +kernel
theorem dd_Md_index_119 : decode (mm_Md_index).2.1 119 = .ok (.aload_n 0, 1) := by decide +kernel
theorem dd_Md_index_120 : decode (mm_Md_index).2.1 120 = .ok (.getfield 34, 3) := by decide +kernel
theorem dd_Md_index_123 : decode (mm_Md_index).2.1 123 = .ok (.iload 4, 2) := by decide +kernel
theorem dd_Md_index_125 : decode (mm_Md_index).2.1 125 = .ok (.iaload, 1) := by decide +kernel
theorem dd_Md_index_126 : decode (mm_Md_index).2.1 126 = .ok (.invokestatic 93, 3) := by decide +kernel
theorem dd_Md_index_129 : decode (mm_Md_index).2.1 129 = .ok (.istore_n 3, 1) := by decide +kernel
theorem dd_Md_index_130 : decode (mm_Md_index).2.1 130 = .ok (.iinc 4 1, 3) := by decide +kernel
theorem dd_Md_index_133 : decode (mm_Md_index).2.1 133 = .ok (.goto (-24), 3) := by decide +kernel
theorem dd_Md_index_136 : decode (mm_Md_index).2.1 136 = .ok (.aload_n 0, 1) := by decide +kernel
theorem dd_Md_index_137 : decode (mm_Md_index).2.1 137 = .ok (.bipush 88, 2) := by decide +kernel
theorem dd_Md_index_139 : decode (mm_Md_index).2.1 139 = .ok (.invokevirtual 99, 3) := by decide +kernel
theorem dd_Md_index_142 : decode (mm_Md_index).2.1 142 = .ok (.aload_n 0, 1) := by decide +kernel
theorem dd_Md_index_143 : decode (mm_Md_index).2.1 143 = .ok (.aload_n 0, 1) := by decide +kernel
theorem dd_Md_index_144 : decode (mm_Md_index).2.1 144 = .ok (.getfield 64, 3) := by decide +kernel
theorem dd_Md_index_147 : decode (mm_Md_index).2.1 147 = .ok (.invokevirtual 99, 3) := by decide +kernel
theorem dd_Md_index_150 : decode (mm_Md_index).2.1 150 = .ok (.aload_n 0, 1) := by decide +kernel
theorem dd_Md_index_151 : decode (mm_Md_index).2.1 151 = .ok (.iload_n 1, 1) := by decide +kernel
theorem dd_Md_index_152 : decode (mm_Md_index).2.1 152 = .ok (.invokevirtual 112, 3) := by decide +kernel
theorem dd_Md_index_155 : decode (mm_Md_index).2.1 155 = .ok (.aload_n 0, 1) := by decide +kernel
theorem dd_Md_index_156 : decode (mm_Md_index).2.1 156 = .ok (.iload_n 3, 1) := by decide +kernel
theorem dd_Md_index_157 : decode (mm_Md_index).2.1 157 = .ok (.invokevirtual 112, 3) := by decide +kernel
theorem dd_Md_index_160 : decode (mm_Md_index).2.1 160 = .ok (.return_, 1) := by decide +kernel
theorem dd_Md_put_0 : decode (mm_Md_put).2.1 0 = .ok (.iload_n 1, 1) := by decide +kernel
theorem dd_Md_put_1 : decode (mm_Md_put).2.1 1 = .ok (.iconst 0, 1) := by decide +kernel
theorem dd_Md_put_2 : decode (mm_Md_put).2.1 2 = .ok (.aload_n 0, 1) := by decide +kernel
theorem dd_Md_put_3 : decode (mm_Md_put).2.1 3 = .ok (.getfield 124, 3) := by decide +kernel
theorem dd_Md_put_6 : decode (mm_Md_put).2.1 6 = .ok (.invokestatic 50, 3) := by decide +kernel
theorem dd_Md_put_9 : decode (mm_Md_put).2.1 9 = .ok (.ifCond .eq 14, 3) := by decide +kernel
theorem dd_Md_put_12 : decode (mm_Md_put).2.1 12 = .ok (.iload_n 2, 1) := by decide +kernel
theorem dd_Md_put_13 : decode (mm_Md_put).2.1 13 = .ok (.iconst 0, 1) := by decide +kernel
theorem dd_Md_put_14 : decode (mm_Md_put).2.1 14 = .ok (.sipush 255, 3) := by decide +kernel
theorem dd_Md_put_17 : decode (mm_Md_put).2.1 17 = .ok (.invokestatic 50, 3) := by decide +kernel
theorem dd_Md_put_20 : decode (mm_Md_put).2.1 20 = .ok (.ifCond .ne 5, 3) := by decide +kernel
theorem dd_Md_put_23 : decode (mm_Md_put).2.1 23 = .ok (.iconst (-1), 1) := by decide +kernel
theorem dd_Md_put_24 : decode (mm_Md_put).2.1 24 = .ok (.ireturn, 1) := by decide +kernel
theorem dd_Md_put_25 : decode (mm_Md_put).2.1 25 = .ok (.iload_n 1, 1) := by decide +kernel
theorem dd_Md_put_26 : decode (mm_Md_put).2.1 26 = .ok (.sipush 600, 3) := by decide +kernel
theorem dd_Md_put_29 : decode (mm_Md_put).2.1 29 = .ok (.if_icmp .ne 6, 3) := by decide +kernel
theorem dd_Md_put_32 : decode (mm_Md_put).2.1 32 = .ok (.bipush (-2), 2) := by decide +kernel
theorem dd_Md_put_34 : decode (mm_Md_put).2.1 34 = .ok (.ireturn, 1) := by decide +kernel
theorem dd_Md_put_35 : decode (mm_Md_put).2.1 35 = .ok (.aload_n 0, 1) := by decide +kernel
theorem dd_Md_put_36 : decode (mm_Md_put).2.1 36 = .ok (.getfield 31, 3) := by decide +kernel
theorem dd_Md_put_39 : decode (mm_Md_put).2.1 39 = .ok (.iload_n 1, 1) := by decide +kernel
theorem dd_Md_put_40 : decode (mm_Md_put).2.1 40 = .ok (.iload_n 2, 1) := by decide +kernel
theorem dd_Md_put_41 : decode (mm_Md_put).2.1 41 = .ok (.iastore, 1) := by decide +kernel
theorem dd_Md_put_42 : decode (mm_Md_put).2.1 42 = .ok (.iload_n 1, 1) := by decide +kernel
theorem dd_Md_put_43 : decode (mm_Md_put).2.1 43 = .ok (.aload_n 0, 1) := by decide +kernel
theorem dd_Md_put_44 : decode (mm_Md_put).2.1 44 = .ok (.getfield 124, 3) := by decide +kernel
theorem dd_Md_put_47 : decode (mm_Md_put).2.1 47 = .ok (.if_icmp .ne 13, 3) := by decide +kernel
theorem dd_Md_put_50 : decode (mm_Md_put).2.1 50 = .ok (.aload_n 0, 1) := by decide +kernel
theorem dd_Md_put_51 : decode (mm_Md_put).2.1 51 = .ok (.dup, 1) := by decide +kernel
theorem dd_Md_put_52 : decode (mm_Md_put).2.1 52 = .ok (.getfield 124, 3) := by decide +kernel
theorem dd_Md_put_55 : decode (mm_Md_put).2.1 55 = .ok (.iconst 1, 1) := by decide +kernel
theorem dd_Md_put_56 : decode (mm_Md_put).2.1 56 = .ok (.iadd, 1) := by decide +kernel
theorem dd_Md_put_57 : decode (mm_Md_put).2.1 57 = .ok (.putfield 124, 3) := by decide +kernel
theorem dd_Md_put_60 : decode (mm_Md_put).2.1 60 = .ok (.aload_n 0, 1) := by decide +kernel
theorem dd_Md_put_61 : decode (mm_Md_put).2.1 61 = .ok (.iconst 0, 1) := by decide +kernel
theorem dd_Md_put_62 : decode (mm_Md_put).2.1 62 = .ok (.putfield 127, 3) := by decide +kernel
theorem dd_Md_put_65 : decode (mm_Md_put).2.1 65 = .ok (.aload_n 0, 1) := by decide +kernel
theorem dd_Md_put_66 : decode (mm_Md_put).2.1 66 = .ok (.getfield 124, 3) := by decide +kernel
theorem dd_Md_put_69 : decode (mm_Md_put).2.1 69 = .ok (.ireturn, 1) := by decide +kernel
theorem dd_Md_cut_0 : decode (mm_Md_cut).2.1 0 = .ok (.iload_n 1, 1) := by decide +kernel
theorem dd_Md_cut_1 : decode (mm_Md_cut).2.1 1 = .ok (.iconst 0, 1) := by decide +kernel
theorem dd_Md_cut_2 : decode (mm_Md_cut).2.1 2 = .ok (.aload_n 0, 1) := by decide +kernel
theorem dd_Md_cut_3 : decode (mm_Md_cut).2.1 3 = .ok (.getfield 124, 3) := by decide +kernel
theorem dd_Md_cut_6 : decode (mm_Md_cut).2.1 6 = .ok (.invokestatic 50, 3) := by decide +kernel
theorem dd_Md_cut_9 : decode (mm_Md_cut).2.1 9 = .ok (.ifCond .ne 5, 3) := by decide +kernel
theorem dd_Md_cut_12 : decode (mm_Md_cut).2.1 12 = .ok (.iconst (-1), 1) := by decide +kernel
theorem dd_Md_cut_13 : decode (mm_Md_cut).2.1 13 = .ok (.ireturn, 1) := by decide +kernel
theorem dd_Md_cut_14 : decode (mm_Md_cut).2.1 14 = .ok (.aload_n 0, 1) := by decide +kernel
theorem dd_Md_cut_15 : decode (mm_Md_cut).2.1 15 = .ok (.iload_n 1, 1) := by decide +kernel
theorem dd_Md_cut_16 : decode (mm_Md_cut).2.1 16 = .ok (.putfield 124, 3) := by decide +kernel
theorem dd_Md_cut_19 : decode (mm_Md_cut).2.1 19 = .ok (.aload_n 0, 1) := by decide +kernel
theorem dd_Md_cut_20 : decode (mm_Md_cut).2.1 20 = .ok (.iconst 0, 1) := by decide +kernel
theorem dd_Md_cut_21 : decode (mm_Md_cut).2.1 21 = .ok (.putfield 127, 3) := by decide +kernel
theorem dd_Md_cut_24 : decode (mm_Md_cut).2.1 24 = .ok (.iload_n 1, 1) := by decide +kernel
theorem dd_Md_cut_25 : decode (mm_Md_cut).2.1 25 = .ok (.ireturn, 1) := by decide +kernel
theorem dd_Md_image_0 : decode (mm_Md_image).2.1 0 = .ok (.iload_n 1, 1) := by decide +kernel
theorem dd_Md_image_1 : decode (mm_Md_image).2.1 1 = .ok (.iconst 0, 1) := by decide +kernel
theorem dd_Md_image_2 : decode (mm_Md_image).2.1 2 = .ok (.aload_n 0, 1) := by decide +kernel
theorem dd_Md_image_3 : decode (mm_Md_image).2.1 3 = .ok (.getfield 124, 3) := by decide +kernel
theorem dd_Md_image_6 : decode (mm_Md_image).2.1 6 = .ok (.iconst 1, 1) := by decide +kernel
theorem dd_Md_image_7 : decode (mm_Md_image).2.1 7 = .ok (.isub, 1) := by decide +kernel
theorem dd_Md_image_8 : decode (mm_Md_image).2.1 8 = .ok (.invokestatic 50, 3) := by decide +kernel
theorem dd_Md_image_11 : decode (mm_Md_image).2.1 11 = .ok (.ifCond .eq 12, 3) := by decide +kernel
theorem dd_Md_image_14 : decode (mm_Md_image).2.1 14 = .ok (.aload_n 0, 1) := by decide +kernel
theorem dd_Md_image_15 : decode (mm_Md_image).2.1 15 = .ok (.getfield 31, 3) := by decide +kernel
theorem dd_Md_image_18 : decode (mm_Md_image).2.1 18 = .ok (.iload_n 1, 1) := by decide +kernel
theorem dd_Md_image_19 : decode (mm_Md_image).2.1 19 = .ok (.iaload, 1) := by decide +kernel
theorem dd_Md_image_20 : decode (mm_Md_image).2.1 20 = .ok (.goto 4, 3) := by decide +kernel
theorem dd_Md_image_23 : decode (mm_Md_image).2.1 23 = .ok (.iconst (-1), 1) := by decide +kernel
theorem dd_Md_image_24 : decode (mm_Md_image).2.1 24 = .ok (.ireturn, 1) := by decide +kernel
theorem dd_Md_open_0 : decode (mm_Md_open).2.1 0 = .ok (.aload_n 0, 1) := by decide +kernel
theorem dd_Md_open_1 : decode (mm_Md_open).2.1 1 = .ok (.iconst 0, 1) := by decide +kernel
theorem dd_Md_open_2 : decode (mm_Md_open).2.1 2 = .ok (.putfield 127, 3) := by decide +kernel
theorem dd_Md_open_5 : decode (mm_Md_open).2.1 5 = .ok (.aload_n 0, 1) := by decide +kernel
theorem dd_Md_open_6 : decode (mm_Md_open).2.1 6 = .ok (.iconst (-1), 1) := by decide +kernel
theorem dd_Md_open_7 : decode (mm_Md_open).2.1 7 = .ok (.putfield 40, 3) := by decide +kernel
theorem dd_Md_open_10 : decode (mm_Md_open).2.1 10 = .ok (.aload_n 0, 1) := by decide +kernel
theorem dd_Md_open_11 : decode (mm_Md_open).2.1 11 = .ok (.getfield 124, 3) := by decide +kernel
theorem dd_Md_open_14 : decode (mm_Md_open).2.1 14 = .ok (.ifCond .ne 7, 3) := by decide +kernel
theorem dd_Md_open_17 : decode (mm_Md_open).2.1 17 = .ok (.iconst 0, 1) := by decide +kernel
theorem dd_Md_open_18 : decode (mm_Md_open).2.1 18 = .ok (.goto 9, 3) := by decide +kernel
theorem dd_Md_open_21 : decode (mm_Md_open).2.1 21 = .ok (.aload_n 0, 1) := by decide +kernel
theorem dd_Md_open_22 : decode (mm_Md_open).2.1 22 = .ok (.getfield 31, 3) := by decide +kernel
theorem dd_Md_open_25 : decode (mm_Md_open).2.1 25 = .ok (.iconst 0, 1) := by decide +kernel
theorem dd_Md_open_26 : decode (mm_Md_open).2.1 26 = .ok (.iaload, 1) := by decide +kernel
theorem dd_Md_open_27 : decode (mm_Md_open).2.1 27 = .ok (.istore_n 1, 1) := by decide +kernel
theorem dd_Md_open_28 : decode (mm_Md_open).2.1 28 = .ok (.iload_n 1, 1) := by decide +kernel
theorem dd_Md_open_29 : decode (mm_Md_open).2.1 29 = .ok (.bipush 73, 2) := by decide +kernel
theorem dd_Md_open_31 : decode (mm_Md_open).2.1 31 = .ok (.if_icmp .ne 10, 3) := by decide +kernel
theorem dd_Md_open_34 : decode (mm_Md_open).2.1 34 = .ok (.aload_n 0, 1) := by decide +kernel
theorem dd_Md_open_35 : decode (mm_Md_open).2.1 35 = .ok (.invokevirtual 146, 3) := by decide +kernel
theorem dd_Md_open_38 : decode (mm_Md_open).2.1 38 = .ok (.goto 29, 3) := by decide +kernel
theorem dd_Md_open_41 : decode (mm_Md_open).2.1 41 = .ok (.iload_n 1, 1) := by decide +kernel
theorem dd_Md_open_42 : decode (mm_Md_open).2.1 42 = .ok (.bipush 67, 2) := by decide +kernel
theorem dd_Md_open_44 : decode (mm_Md_open).2.1 44 = .ok (.if_icmp .eq 9, 3) := by decide +kernel
theorem dd_Md_open_47 : decode (mm_Md_open).2.1 47 = .ok (.iload_n 1, 1) := by decide +kernel
theorem dd_Md_open_48 : decode (mm_Md_open).2.1 48 = .ok (.bipush 69, 2) := by decide +kernel
theorem dd_Md_open_50 : decode (mm_Md_open).2.1 50 = .ok (.if_icmp .ne 10, 3) := by decide +kernel
theorem dd_Md_open_53 : decode (mm_Md_open).2.1 53 = .ok (.aload_n 0, 1) := by decide +kernel
theorem dd_Md_open_54 : decode (mm_Md_open).2.1 54 = .ok (.invokevirtual 150, 3) := by decide +kernel
theorem dd_Md_open_57 : decode (mm_Md_open).2.1 57 = .ok (.goto 10, 3) := by decide +kernel
theorem dd_Md_open_60 : decode (mm_Md_open).2.1 60 = .ok (.aload_n 0, 1) := by decide +kernel
theorem dd_Md_open_61 : decode (mm_Md_open).2.1 61 = .ok (.bipush (-4), 2) := by decide +kernel
theorem dd_Md_open_63 : decode (mm_Md_open).2.1 63 = .ok (.iconst 0, 1) := by decide +kernel
theorem dd_Md_open_64 : decode (mm_Md_open).2.1 64 = .ok (.invokevirtual 130, 3) := by decide +kernel
theorem dd_Md_open_67 : decode (mm_Md_open).2.1 67 = .ok (.istore_n 2, 1) := by decide +kernel
theorem dd_Md_open_68 : decode (mm_Md_open).2.1 68 = .ok (.iload_n 2, 1) := by decide +kernel
theorem dd_Md_open_69 : decode (mm_Md_open).2.1 69 = .ok (.ifCond .eq 8, 3) := by decide +kernel
theorem dd_Md_open_72 : decode (mm_Md_open).2.1 72 = .ok (.aload_n 0, 1) := by decide +kernel
theorem dd_Md_open_73 : decode (mm_Md_open).2.1 73 = .ok (.iconst 0, 1) := by decide +kernel
theorem dd_Md_open_74 : decode (mm_Md_open).2.1 74 = .ok (.putfield 127, 3) := by decide +kernel
theorem dd_Md_open_77 : decode (mm_Md_open).2.1 77 = .ok (.iload_n 2, 1) := by decide +kernel
theorem dd_Md_open_78 : decode (mm_Md_open).2.1 78 = .ok (.ifCond .eq 7, 3) := by decide +kernel
theorem dd_Md_open_81 : decode (mm_Md_open).2.1 81 = .ok (.iload_n 2, 1) := by decide +kernel
theorem dd_Md_open_82 : decode (mm_Md_open).2.1 82 = .ok (.goto 7, 3) := by decide +kernel
theorem dd_Md_open_85 : decode (mm_Md_open).2.1 85 = .ok (.aload_n 0, 1) := by decide +kernel
theorem dd_Md_open_86 : decode (mm_Md_open).2.1 86 = .ok (.getfield 127, 3) := by decide +kernel
theorem dd_Md_open_89 : decode (mm_Md_open).2.1 89 = .ok (.ireturn, 1) := by decide +kernel
theorem dd_Md_openIndex_0 : decode (mm_Md_openIndex).2.1 0 = .ok (.aload_n 0, 1) := by decide +kernel
theorem dd_Md_openIndex_1 : decode (mm_Md_openIndex).2.1 1 = .ok (.getfield 124, 3) := by decide +kernel
theorem dd_Md_openIndex_4 : decode (mm_Md_openIndex).2.1 4 = .ok (.bipush 7, 2) := by decide +kernel
theorem dd_Md_openIndex_6 : decode (mm_Md_openIndex).2.1 6 = .ok (.if_icmp .ge 14, 3) := by decide +kernel
theorem dd_Md_openIndex_9 : decode (mm_Md_openIndex).2.1 9 = .ok (.aload_n 0, 1) := by decide +kernel
theorem dd_Md_openIndex_10 : decode (mm_Md_openIndex).2.1 10 = .ok (.bipush (-3), 2) := by decide +kernel
theorem dd_Md_openIndex_12 : decode (mm_Md_openIndex).2.1 12 = .ok (.aload_n 0, 1) := by decide +kernel
theorem dd_Md_openIndex_13 : decode (mm_Md_openIndex).2.1 13 = .ok (.getfield 124, 3) := by decide +kernel
theorem dd_Md_openIndex_16 : decode (mm_Md_openIndex).2.1 16 = .ok (.invokevirtual 130, 3) := by decide +kernel
theorem dd_Md_openIndex_19 : decode (mm_Md_openIndex).2.1 19 = .ok (.ireturn, 1) := by decide +kernel
theorem dd_Md_openIndex_20 : decode (mm_Md_openIndex).2.1 20 = .ok (.aload_n 0, 1) := by decide +kernel
theorem dd_Md_openIndex_21 : decode (mm_Md_openIndex).2.1 21 = .ok (.getfield 124, 3) := by decide +kernel
theorem dd_Md_openIndex_24 : decode (mm_Md_openIndex).2.1 24 = .ok (.bipush 6, 2) := by decide +kernel
theorem dd_Md_openIndex_26 : decode (mm_Md_openIndex).2.1 26 = .ok (.isub, 1) := by decide +kernel
theorem dd_Md_openIndex_27 : decode (mm_Md_openIndex).2.1 27 = .ok (.istore_n 1, 1) := by decide +kernel
theorem dd_Md_openIndex_28 : decode (mm_Md_openIndex).2.1 28 = .ok (.aload_n 0, 1) := by decide +kernel
theorem dd_Md_openIndex_29 : decode (mm_Md_openIndex).2.1 29 = .ok (.getfield 31, 3) := by decide +kernel
theorem dd_Md_openIndex_32 : decode (mm_Md_openIndex).2.1 32 = .ok (.iload_n 1, 1) := by decide +kernel
theorem dd_Md_openIndex_33 : decode (mm_Md_openIndex).2.1 33 = .ok (.iaload, 1) := by decide +kernel
theorem dd_Md_openIndex_34 : decode (mm_Md_openIndex).2.1 34 = .ok (.bipush 88, 2) := by decide +kernel
theorem dd_Md_openIndex_36 : decode (mm_Md_openIndex).2.1 36 = .ok (.if_icmp .eq 11, 3) := by decide +kernel
theorem dd_Md_openIndex_39 : decode (mm_Md_openIndex).2.1 39 = .ok (.aload_n 0, 1) := by decide +kernel
theorem dd_Md_openIndex_40 : decode (mm_Md_openIndex).2.1 40 = .ok (.bipush (-4), 2) := by decide +kernel
theorem dd_Md_openIndex_42 : decode (mm_Md_openIndex).2.1 42 = .ok (.iload_n 1, 1) := by decide +kernel
theorem dd_Md_openIndex_43 : decode (mm_Md_openIndex).2.1 43 = .ok (.invokevirtual 130, 3) := by decide +kernel
theorem dd_Md_openIndex_46 : decode (mm_Md_openIndex).2.1 46 = .ok (.ireturn, 1) := by decide +kernel
theorem dd_Md_openIndex_47 : decode (mm_Md_openIndex).2.1 47 = .ok (.aload_n 0, 1) := by decide +kernel
theorem dd_Md_openIndex_48 : decode (mm_Md_openIndex).2.1 48 = .ok (.getfield 31, 3) := by decide +kernel
theorem dd_Md_openIndex_51 : decode (mm_Md_openIndex).2.1 51 = .ok (.iload_n 1, 1) := by decide +kernel
theorem dd_Md_openIndex_52 : decode (mm_Md_openIndex).2.1 52 = .ok (.iconst 1, 1) := by decide +kernel
theorem dd_Md_openIndex_53 : decode (mm_Md_openIndex).2.1 53 = .ok (.iadd, 1) := by decide +kernel
theorem dd_Md_openIndex_54 : decode (mm_Md_openIndex).2.1 54 = .ok (.iaload, 1) := by decide +kernel
theorem dd_Md_openIndex_55 : decode (mm_Md_openIndex).2.1 55 = .ok (.bipush 6, 2) := by decide +kernel
theorem dd_Md_openIndex_57 : decode (mm_Md_openIndex).2.1 57 = .ok (.if_icmp .le 13, 3) := by decide +kernel
theorem dd_Md_openIndex_60 : decode (mm_Md_openIndex).2.1 60 = .ok (.aload_n 0, 1) := by decide +kernel
theorem dd_Md_openIndex_61 : decode (mm_Md_openIndex).2.1 61 = .ok (.bipush (-4), 2) := by decide +kernel
theorem dd_Md_openIndex_63 : decode (mm_Md_openIndex).2.1 63 = .ok (.iload_n 1, 1) := by decide +kernel
theorem dd_Md_openIndex_64 : decode (mm_Md_openIndex).2.1 64 = .ok (.iconst 1, 1) := by decide +kernel
theorem dd_Md_openIndex_65 : decode (mm_Md_openIndex).2.1 65 = .ok (.iadd, 1) := by decide +kernel
theorem dd_Md_openIndex_66 : decode (mm_Md_openIndex).2.1 66 = .ok (.invokevirtual 130, 3) := by decide +kernel
theorem dd_Md_openIndex_69 : decode (mm_Md_openIndex).2.1 69 = .ok (.ireturn, 1) := by decide +kernel
theorem dd_Md_openIndex_70 : decode (mm_Md_openIndex).2.1 70 = .ok (.aload_n 0, 1) := by decide +kernel
theorem dd_Md_openIndex_71 : decode (mm_Md_openIndex).2.1 71 = .ok (.iload_n 1, 1) := by decide +kernel
theorem dd_Md_openIndex_72 : decode (mm_Md_openIndex).2.1 72 = .ok (.iconst 2, 1) := by decide +kernel
theorem dd_Md_openIndex_73 : decode (mm_Md_openIndex).2.1 73 = .ok (.iadd, 1) := by decide +kernel
theorem dd_Md_openIndex_74 : decode (mm_Md_openIndex).2.1 74 = .ok (.invokevirtual 136, 3) := by decide +kernel
theorem dd_Md_openIndex_77 : decode (mm_Md_openIndex).2.1 77 = .ok (.istore_n 2, 1) := by decide +kernel
theorem dd_Md_openIndex_78 : decode (mm_Md_openIndex).2.1 78 = .ok (.iload_n 2, 1) := by decide +kernel
theorem dd_Md_openIndex_79 : decode (mm_Md_openIndex).2.1 79 = .ok (.iconst 1, 1) := by decide +kernel
theorem dd_Md_openIndex_80 : decode (mm_Md_openIndex).2.1 80 = .ok (.iload_n 1, 1) := by decide +kernel
theorem dd_Md_openIndex_81 : decode (mm_Md_openIndex).2.1 81 = .ok (.invokestatic 50, 3) := by decide +kernel
theorem dd_Md_openIndex_84 : decode (mm_Md_openIndex).2.1 84 = .ok (.ifCond .ne 13, 3) := by decide +kernel
theorem dd_Md_openIndex_87 : decode (mm_Md_openIndex).2.1 87 = .ok (.aload_n 0, 1) := by decide +kernel
theorem dd_Md_openIndex_88 : decode (mm_Md_openIndex).2.1 88 = .ok (.bipush (-4), 2) := by decide +kernel
theorem dd_Md_openIndex_90 : decode (mm_Md_openIndex).2.1 90 = .ok (.iload_n 1, 1) := by decide +kernel
theorem dd_Md_openIndex_91 : decode (mm_Md_openIndex).2.1 91 = .ok (.iconst 2, 1) := by decide +kernel
theorem dd_Md_openIndex_92 : decode (mm_Md_openIndex).2.1 92 = .ok (.iadd, 1) := by decide +kernel
theorem dd_Md_openIndex_93 : decode (mm_Md_openIndex).2.1 93 = .ok (.invokevirtual 130, 3) := by decide +kernel
theorem dd_Md_openIndex_96 : decode (mm_Md_openIndex).2.1 96 = .ok (.ireturn, 1) := by decide +kernel
theorem dd_Md_openIndex_97 : decode (mm_Md_openIndex).2.1 97 = .ok (.ldc 92, 2) := by decide +kernel
theorem dd_Md_openIndex_99 : decode (mm_Md_openIndex).2.1 99 = .ok (.istore_n 3, 1) := by decide +kernel
theorem dd_Md_openIndex_100 : decode (mm_Md_openIndex).2.1 100 = .ok (.iload_n 2, 1) := by decide +kernel
theorem dd_Md_openIndex_101 : decode (mm_Md_openIndex).2.1 101 = .ok (.istore 4, 2) := by decide +kernel
theorem dd_Md_openIndex_103 : decode (mm_Md_openIndex).2.1 103 = .ok (.iload 4, 2) := by decide +kernel
theorem dd_Md_openIndex_105 : decode (mm_Md_openIndex).2.1 105 = .ok (.iload_n 1, 1) := by decide +kernel
theorem dd_Md_openIndex_106 : decode (mm_Md_openIndex).2.1 106 = .ok (.if_icmp .ge 21, 3) := by decide +kernel
theorem dd_Md_openIndex_109 : decode (mm_Md_openIndex).2.1 109 = .ok (.iload_n 3, 1) := by decide +kernel
theorem dd_Md_openIndex_110 : decode (mm_Md_openIndex).2.1 110 = .ok (.aload_n 0, 1) := by decide +kernel
theorem dd_Md_openIndex_111 : decode (mm_Md_openIndex).2.1 111 = .ok (.getfield 31, 3) := by decide +kernel
theorem dd_Md_openIndex_114 : decode (mm_Md_openIndex).2.1 114 = .ok (.iload 4, 2) := by decide +kernel
theorem dd_Md_openIndex_116 : decode (mm_Md_openIndex).2.1 116 = .ok (.iaload, 1) := by decide +kernel
theorem dd_Md_openIndex_117 : decode (mm_Md_openIndex).2.1 117 = .ok (.invokestatic 93, 3) := by decide +kernel
theorem dd_Md_openIndex_120 : decode (mm_Md_openIndex).2.1 120 = .ok (.istore_n 3, 1) := by decide +kernel
theorem dd_Md_openIndex_121 : decode (mm_Md_openIndex).2.1 121 = .ok (.iinc 4 1, 3) := by decide +kernel
theorem dd_Md_openIndex_124 : decode (mm_Md_openIndex).2.1 124 = .ok (.goto (-21), 3) := by decide +kernel
theorem dd_Md_openIndex_127 : decode (mm_Md_openIndex).2.1 127 = .ok (.iload_n 3, 1) := by decide +kernel
theorem dd_Md_openIndex_128 : decode (mm_Md_openIndex).2.1 128 = .ok (.aload_n 0, 1) := by decide +kernel
theorem dd_Md_openIndex_129 : decode (mm_Md_openIndex).2.1 129 = .ok (.iload_n 1, 1) := by decide +kernel
theorem dd_Md_openIndex_130 : decode (mm_Md_openIndex).2.1 130 = .ok (.iconst 4, 1) := by decide +kernel
theorem dd_Md_openIndex_131 : decode (mm_Md_openIndex).2.1 131 = .ok (.iadd, 1) := by decide +kernel
theorem dd_Md_openIndex_132 : decode (mm_Md_openIndex).2.1 132 = .ok (.invokevirtual 136, 3) := by decide +kernel
theorem dd_Md_openIndex_135 : decode (mm_Md_openIndex).2.1 135 = .ok (.if_icmp .eq 13, 3) := by decide +kernel
theorem dd_Md_openIndex_138 : decode (mm_Md_openIndex).2.1 138 = .ok (.aload_n 0, 1) := by decide +kernel
theorem dd_Md_openIndex_139 : decode (mm_Md_openIndex).2.1 139 = .ok (.bipush (-4), 2) := by decide +kernel
theorem dd_Md_openIndex_141 : decode (mm_Md_openIndex).2.1 141 = .ok (.iload_n 1, 1) := by decide +kernel
theorem dd_Md_openIndex_142 : decode (mm_Md_openIndex).2.1 142 = .ok (.iconst 4, 1) := by decide +kernel
theorem dd_Md_openIndex_143 : decode (mm_Md_openIndex).2.1 143 = .ok (.iadd, 1) := by decide +kernel
theorem dd_Md_openIndex_144 : decode (mm_Md_openIndex).2.1 144 = .ok (.invokevirtual 130, 3) := by decide +kernel
theorem dd_Md_openIndex_147 : decode (mm_Md_openIndex).2.1 147 = .ok (.ireturn, 1) := by decide +kernel
theorem dd_Md_openIndex_148 : decode (mm_Md_openIndex).2.1 148 = .ok (.iload_n 2, 1) := by decide +kernel
theorem dd_Md_openIndex_149 : decode (mm_Md_openIndex).2.1 149 = .ok (.istore 4, 2) := by decide +kernel
theorem dd_Md_openIndex_151 : decode (mm_Md_openIndex).2.1 151 = .ok (.iconst 0, 1) := by decide +kernel
theorem dd_Md_openIndex_152 : decode (mm_Md_openIndex).2.1 152 = .ok (.istore 5, 2) := by decide +kernel
theorem dd_Md_openIndex_154 : decode (mm_Md_openIndex).2.1 154 = .ok (.iload 5, 2) := by decide +kernel
theorem dd_Md_openIndex_156 : decode (mm_Md_openIndex).2.1 156 = .ok (.aload_n 0, 1) := by decide +kernel
theorem dd_Md_openIndex_157 : decode (mm_Md_openIndex).2.1 157 = .ok (.getfield 31, 3) := by decide +kernel
theorem dd_Md_openIndex_160 : decode (mm_Md_openIndex).2.1 160 = .ok (.iload_n 1, 1) := by decide +kernel
theorem dd_Md_openIndex_161 : decode (mm_Md_openIndex).2.1 161 = .ok (.iconst 1, 1) := by decide +kernel
theorem dd_Md_openIndex_162 : decode (mm_Md_openIndex).2.1 162 = .ok (.iadd, 1) := by decide +kernel
theorem dd_Md_openIndex_163 : decode (mm_Md_openIndex).2.1 163 = .ok (.iaload, 1) := by decide +kernel
theorem dd_Md_openIndex_164 : decode (mm_Md_openIndex).2.1 164 = .ok (.if_icmp .ge 44, 3) := by decide +kernel
theorem dd_Md_openIndex_167 : decode (mm_Md_openIndex).2.1 167 = .ok (.aload_n 0, 1) := by decide +kernel
theorem dd_Md_openIndex_168 : decode (mm_Md_openIndex).2.1 168 = .ok (.iload 4, 2) := by decide +kernel
theorem dd_Md_openIndex_170 : decode (mm_Md_openIndex).2.1 170 = .ok (.iload_n 2, 1) := by decide +kernel
theorem dd_Md_openIndex_171 : decode (mm_Md_openIndex).2.1 171 = .ok (.iload_n 1, 1) := by decide +kernel
theorem dd_Md_openIndex_172 : decode (mm_Md_openIndex).2.1 172 = .ok (.invokevirtual 143, 3) := by decide +kernel
theorem dd_Md_openIndex_175 : decode (mm_Md_openIndex).2.1 175 = .ok (.istore 6, 2) := by decide +kernel
theorem dd_Md_openIndex_177 : decode (mm_Md_openIndex).2.1 177 = .ok (.iload 6, 2) := by decide +kernel
theorem dd_Md_openIndex_179 : decode (mm_Md_openIndex).2.1 179 = .ok (.ifCond .eq 6, 3) := by decide +kernel
theorem dd_Md_openIndex_182 : decode (mm_Md_openIndex).2.1 182 = .ok (.iload 6, 2) := by decide +kernel
theorem dd_Md_openIndex_184 : decode (mm_Md_openIndex).2.1 184 = .ok (.ireturn, 1) := by decide +kernel
theorem dd_Md_openIndex_185 : decode (mm_Md_openIndex).2.1 185 = .ok (.iload 4, 2) := by decide +kernel
theorem dd_Md_openIndex_187 : decode (mm_Md_openIndex).2.1 187 = .ok (.bipush 8, 2) := by decide +kernel
theorem dd_Md_openIndex_189 : decode (mm_Md_openIndex).2.1 189 = .ok (.aload_n 0, 1) := by decide +kernel
theorem dd_Md_openIndex_190 : decode (mm_Md_openIndex).2.1 190 = .ok (.getfield 31, 3) := by decide +kernel
theorem dd_Md_openIndex_193 : decode (mm_Md_openIndex).2.1 193 = .ok (.iload 4, 2) := by decide +kernel
theorem dd_Md_openIndex_195 : decode (mm_Md_openIndex).2.1 195 = .ok (.iconst 1, 1) := by decide +kernel
theorem dd_Md_openIndex_196 : decode (mm_Md_openIndex).2.1 196 = .ok (.iadd, 1) := by decide +kernel
theorem dd_Md_openIndex_197 : decode (mm_Md_openIndex).2.1 197 = .ok (.iaload, 1) := by decide +kernel
theorem dd_Md_openIndex_198 : decode (mm_Md_openIndex).2.1 198 = .ok (.iadd, 1) := by decide +kernel
theorem dd_Md_openIndex_199 : decode (mm_Md_openIndex).2.1 199 = .ok (.iadd, 1) := by decide +kernel
theorem dd_Md_openIndex_200 : decode (mm_Md_openIndex).2.1 200 = .ok (.istore 4, 2) := by decide +kernel
theorem dd_Md_openIndex_202 : decode (mm_Md_openIndex).2.1 202 = .ok (.iinc 5 1, 3) := by decide +kernel
theorem dd_Md_openIndex_205 : decode (mm_Md_openIndex).2.1 205 = .ok (.goto (-51), 3) := by decide +kernel
theorem dd_Md_openIndex_208 : decode (mm_Md_openIndex).2.1 208 = .ok (.iload 4, 2) := by decide +kernel
theorem dd_Md_openIndex_210 : decode (mm_Md_openIndex).2.1 210 = .ok (.iload_n 1, 1) := by decide +kernel
theorem dd_Md_openIndex_211 : decode (mm_Md_openIndex).2.1 211 = .ok (.if_icmp .ge 14, 3) := by decide +kernel
theorem dd_Md_openIndex_214 : decode (mm_Md_openIndex).2.1 214 = .ok (.aload_n 0, 1) := by decide +kernel
theorem dd_Md_openIndex_215 : decode (mm_Md_openIndex).2.1 215 = .ok (.bipush (-4), 2) := by decide +kernel
theorem dd_Md_openIndex_217 : decode (mm_Md_openIndex).2.1 217 = .ok (.iload 4, 2) := by decide +kernel
theorem dd_Md_openIndex_219 : decode (mm_Md_openIndex).2.1 219 = .ok (.invokevirtual 130, 3) := by decide +kernel
theorem dd_Md_openIndex_222 : decode (mm_Md_openIndex).2.1 222 = .ok (.goto 4, 3) := by decide +kernel
theorem dd_Md_openIndex_225 : decode (mm_Md_openIndex).2.1 225 = .ok (.iconst 0, 1) := by decide +kernel
theorem dd_Md_openIndex_226 : decode (mm_Md_openIndex).2.1 226 = .ok (.ireturn, 1) := by decide +kernel
theorem dd_Md_stop_0 : decode (mm_Md_stop).2.1 0 = .ok (.aload_n 0, 1) := by decide +kernel
theorem dd_Md_stop_1 : decode (mm_Md_stop).2.1 1 = .ok (.iload_n 2, 1) := by decide +kernel
theorem dd_Md_stop_2 : decode (mm_Md_stop).2.1 2 = .ok (.putfield 40, 3) := by decide +kernel
theorem dd_Md_stop_5 : decode (mm_Md_stop).2.1 5 = .ok (.iload_n 1, 1) := by decide +kernel
theorem dd_Md_stop_6 : decode (mm_Md_stop).2.1 6 = .ok (.ireturn, 1) := by decide +kernel
theorem dd_Md_two_0 : decode (mm_Md_two).2.1 0 = .ok (.sipush 256, 3) := by decide +kernel
theorem dd_Md_two_3 : decode (mm_Md_two).2.1 3 = .ok (.aload_n 0, 1) := by decide +kernel
theorem dd_Md_two_4 : decode (mm_Md_two).2.1 4 = .ok (.getfield 31, 3) := by decide +kernel
theorem dd_Md_two_7 : decode (mm_Md_two).2.1 7 = .ok (.iload_n 1, 1) := by decide +kernel
theorem dd_Md_two_8 : decode (mm_Md_two).2.1 8 = .ok (.iaload, 1) := by decide +kernel
theorem dd_Md_two_9 : decode (mm_Md_two).2.1 9 = .ok (.imul, 1) := by decide +kernel
theorem dd_Md_two_10 : decode (mm_Md_two).2.1 10 = .ok (.aload_n 0, 1) := by decide +kernel
theorem dd_Md_two_11 : decode (mm_Md_two).2.1 11 = .ok (.getfield 31, 3) := by decide +kernel
theorem dd_Md_two_14 : decode (mm_Md_two).2.1 14 = .ok (.iload_n 1, 1) := by decide +kernel
theorem dd_Md_two_15 : decode (mm_Md_two).2.1 15 = .ok (.iconst 1, 1) := by decide +kernel
theorem dd_Md_two_16 : decode (mm_Md_two).2.1 16 = .ok (.iadd, 1) := by decide +kernel
theorem dd_Md_two_17 : decode (mm_Md_two).2.1 17 = .ok (.iaload, 1) := by decide +kernel
theorem dd_Md_two_18 : decode (mm_Md_two).2.1 18 = .ok (.iadd, 1) := by decide +kernel
theorem dd_Md_two_19 : decode (mm_Md_two).2.1 19 = .ok (.ireturn, 1) := by decide +kernel
theorem dd_Md_openEntry_0 : decode (mm_Md_openEntry).2.1 0 = .ok (.aload_n 0, 1) := by decide +kernel
theorem dd_Md_openEntry_1 : decode (mm_Md_openEntry).2.1 1 = .ok (.iload_n 1, 1) := by decide +kernel
theorem dd_Md_openEntry_2 : decode (mm_Md_openEntry).2.1 2 = .ok (.iload_n 3, 1) := by decide +kernel
theorem dd_Md_openEntry_3 : decode (mm_Md_openEntry).2.1 3 = .ok (.invokevirtual 133, 3) := by decide +kernel
theorem dd_Md_openEntry_6 : decode (mm_Md_openEntry).2.1 6 = .ok (.istore 4, 2) := by decide +kernel
theorem dd_Md_openEntry_8 : decode (mm_Md_openEntry).2.1 8 = .ok (.iload 4, 2) := by decide +kernel
theorem dd_Md_openEntry_10 : decode (mm_Md_openEntry).2.1 10 = .ok (.ifCond .eq 6, 3) := by decide +kernel
theorem dd_Md_openEntry_13 : decode (mm_Md_openEntry).2.1 13 = .ok (.iload 4, 2) := by decide +kernel
theorem dd_Md_openEntry_15 : decode (mm_Md_openEntry).2.1 15 = .ok (.ireturn, 1) := by decide +kernel
theorem dd_Md_openEntry_16 : decode (mm_Md_openEntry).2.1 16 = .ok (.iload_n 1, 1) := by decide +kernel
theorem dd_Md_openEntry_17 : decode (mm_Md_openEntry).2.1 17 = .ok (.iconst 2, 1) := by decide +kernel
theorem dd_Md_openEntry_18 : decode (mm_Md_openEntry).2.1 18 = .ok (.iadd, 1) := by decide +kernel
theorem dd_Md_openEntry_19 : decode (mm_Md_openEntry).2.1 19 = .ok (.aload_n 0, 1) := by decide +kernel
theorem dd_Md_openEntry_20 : decode (mm_Md_openEntry).2.1 20 = .ok (.getfield 31, 3) := by decide +kernel
theorem dd_Md_openEntry_23 : decode (mm_Md_openEntry).2.1 23 = .ok (.iload_n 1, 1) := by decide +kernel
theorem dd_Md_openEntry_24 : decode (mm_Md_openEntry).2.1 24 = .ok (.iconst 1, 1) := by decide +kernel
theorem dd_Md_openEntry_25 : decode (mm_Md_openEntry).2.1 25 = .ok (.iadd, 1) := by decide +kernel
theorem dd_Md_openEntry_26 : decode (mm_Md_openEntry).2.1 26 = .ok (.iaload, 1) := by decide +kernel
theorem dd_Md_openEntry_27 : decode (mm_Md_openEntry).2.1 27 = .ok (.iadd, 1) := by decide +kernel
theorem dd_Md_openEntry_28 : decode (mm_Md_openEntry).2.1 28 = .ok (.istore 5, 2) := by decide +kernel
theorem dd_Md_openEntry_30 : decode (mm_Md_openEntry).2.1 30 = .ok (.iload 5, 2) := by decide +kernel
theorem dd_Md_openEntry_32 : decode (mm_Md_openEntry).2.1 32 = .ok (.iconst 2, 1) := by decide +kernel
theorem dd_Md_openEntry_33 : decode (mm_Md_openEntry).2.1 33 = .ok (.iadd, 1) := by decide +kernel
theorem dd_Md_openEntry_34 : decode (mm_Md_openEntry).2.1 34 = .ok (.iload_n 3, 1) := by decide +kernel
theorem dd_Md_openEntry_35 : decode (mm_Md_openEntry).2.1 35 = .ok (.if_icmp .ge 42, 3) := by decide +kernel
theorem dd_Md_openEntry_38 : decode (mm_Md_openEntry).2.1 38 = .ok (.aload_n 0, 1) := by decide +kernel
theorem dd_Md_openEntry_39 : decode (mm_Md_openEntry).2.1 39 = .ok (.iload 5, 2) := by decide +kernel
theorem dd_Md_openEntry_41 : decode (mm_Md_openEntry).2.1 41 = .ok (.invokevirtual 136, 3) := by decide +kernel
theorem dd_Md_openEntry_44 : decode (mm_Md_openEntry).2.1 44 = .ok (.iconst 1, 1) := by decide +kernel
theorem dd_Md_openEntry_45 : decode (mm_Md_openEntry).2.1 45 = .ok (.if_icmp .lt 23, 3) := by decide +kernel
theorem dd_Md_openEntry_48 : decode (mm_Md_openEntry).2.1 48 = .ok (.aload_n 0, 1) := by decide +kernel
theorem dd_Md_openEntry_49 : decode (mm_Md_openEntry).2.1 49 = .ok (.iload 5, 2) := by decide +kernel
theorem dd_Md_openEntry_51 : decode (mm_Md_openEntry).2.1 51 = .ok (.invokevirtual 136, 3) := by decide +kernel
theorem dd_Md_openEntry_54 : decode (mm_Md_openEntry).2.1 54 = .ok (.aload_n 0, 1) := by decide +kernel
theorem dd_Md_openEntry_55 : decode (mm_Md_openEntry).2.1 55 = .ok (.getfield 31, 3) := by decide +kernel
theorem dd_Md_openEntry_58 : decode (mm_Md_openEntry).2.1 58 = .ok (.iload 5, 2) := by decide +kernel
theorem dd_Md_openEntry_60 : decode (mm_Md_openEntry).2.1 60 = .ok (.iconst 2, 1) := by decide +kernel
theorem dd_Md_openEntry_61 : decode (mm_Md_openEntry).2.1 61 = .ok (.iadd, 1) := by decide +kernel
theorem dd_Md_openEntry_62 : decode (mm_Md_openEntry).2.1 62 = .ok (.iaload, 1) := by decide +kernel
theorem dd_Md_openEntry_63 : decode (mm_Md_openEntry).2.1 63 = .ok (.iadd, 1) := by decide +kernel
theorem dd_Md_openEntry_64 : decode (mm_Md_openEntry).2.1 64 = .ok (.iload_n 2, 1) := by decide +kernel
theorem dd_Md_openEntry_65 : decode (mm_Md_openEntry).2.1 65 = .ok (.if_icmp .le 12, 3) := by decide +kernel
theorem dd_Md_openEntry_68 : decode (mm_Md_openEntry).2.1 68 = .ok (.aload_n 0, 1) := by decide +kernel
theorem dd_Md_openEntry_69 : decode (mm_Md_openEntry).2.1 69 = .ok (.bipush (-4), 2) := by decide +kernel
theorem dd_Md_openEntry_71 : decode (mm_Md_openEntry).2.1 71 = .ok (.iload 5, 2) := by decide +kernel
theorem dd_Md_openEntry_73 : decode (mm_Md_openEntry).2.1 73 = .ok (.invokevirtual 130, 3) := by decide +kernel
theorem dd_Md_openEntry_76 : decode (mm_Md_openEntry).2.1 76 = .ok (.ireturn, 1) := by decide +kernel
theorem dd_Md_openEntry_77 : decode (mm_Md_openEntry).2.1 77 = .ok (.iload 5, 2) := by decide +kernel
theorem dd_Md_openEntry_79 : decode (mm_Md_openEntry).2.1 79 = .ok (.iconst 3, 1) := by decide +kernel
theorem dd_Md_openEntry_80 : decode (mm_Md_openEntry).2.1 80 = .ok (.iadd, 1) := by decide +kernel
theorem dd_Md_openEntry_81 : decode (mm_Md_openEntry).2.1 81 = .ok (.iload_n 3, 1) := by decide +kernel
theorem dd_Md_openEntry_82 : decode (mm_Md_openEntry).2.1 82 = .ok (.if_icmp .ge 28, 3) := by decide +kernel
theorem dd_Md_openEntry_85 : decode (mm_Md_openEntry).2.1 85 = .ok (.aload_n 0, 1) := by decide +kernel
theorem dd_Md_openEntry_86 : decode (mm_Md_openEntry).2.1 86 = .ok (.getfield 31, 3) := by decide +kernel
theorem dd_Md_openEntry_89 : decode (mm_Md_openEntry).2.1 89 = .ok (.iload 5, 2) := by decide +kernel
theorem dd_Md_openEntry_91 : decode (mm_Md_openEntry).2.1 91 = .ok (.iconst 3, 1) := by decide +kernel
theorem dd_Md_openEntry_92 : decode (mm_Md_openEntry).2.1 92 = .ok (.iadd, 1) := by decide +kernel
theorem dd_Md_openEntry_93 : decode (mm_Md_openEntry).2.1 93 = .ok (.iaload, 1) := by decide +kernel
theorem dd_Md_openEntry_94 : decode (mm_Md_openEntry).2.1 94 = .ok (.bipush 60, 2) := by decide +kernel
theorem dd_Md_openEntry_96 : decode (mm_Md_openEntry).2.1 96 = .ok (.if_icmp .le 14, 3) := by decide +kernel
theorem dd_Md_openEntry_99 : decode (mm_Md_openEntry).2.1 99 = .ok (.aload_n 0, 1) := by decide +kernel
theorem dd_Md_openEntry_100 : decode (mm_Md_openEntry).2.1 100 = .ok (.bipush (-4), 2) := by decide +kernel
theorem dd_Md_openEntry_102 : decode (mm_Md_openEntry).2.1 102 = .ok (.iload 5, 2) := by decide +kernel
theorem dd_Md_openEntry_104 : decode (mm_Md_openEntry).2.1 104 = .ok (.iconst 3, 1) := by decide +kernel
theorem dd_Md_openEntry_105 : decode (mm_Md_openEntry).2.1 105 = .ok (.iadd, 1) := by decide +kernel
theorem dd_Md_openEntry_106 : decode (mm_Md_openEntry).2.1 106 = .ok (.invokevirtual 130, 3) := by decide +kernel
theorem dd_Md_openEntry_109 : decode (mm_Md_openEntry).2.1 109 = .ok (.ireturn, 1) := by decide +kernel
theorem dd_Md_openEntry_110 : decode (mm_Md_openEntry).2.1 110 = .ok (.iload 5, 2) := by decide +kernel
theorem dd_Md_openEntry_112 : decode (mm_Md_openEntry).2.1 112 = .ok (.iconst 5, 1) := by decide +kernel
theorem dd_Md_openEntry_113 : decode (mm_Md_openEntry).2.1 113 = .ok (.iadd, 1) := by decide +kernel
theorem dd_Md_openEntry_114 : decode (mm_Md_openEntry).2.1 114 = .ok (.iload_n 3, 1) := by decide +kernel
theorem dd_Md_openEntry_115 : decode (mm_Md_openEntry).2.1 115 = .ok (.if_icmp .lt 11, 3) := by decide +kernel
theorem dd_Md_openEntry_118 : decode (mm_Md_openEntry).2.1 118 = .ok (.aload_n 0, 1) := by decide +kernel
theorem dd_Md_openEntry_119 : decode (mm_Md_openEntry).2.1 119 = .ok (.bipush (-3), 2) := by decide +kernel
theorem dd_Md_openEntry_121 : decode (mm_Md_openEntry).2.1 121 = .ok (.iload_n 3, 1) := by decide +kernel
theorem dd_Md_openEntry_122 : decode (mm_Md_openEntry).2.1 122 = .ok (.invokevirtual 130, 3) := by decide +kernel
theorem dd_Md_openEntry_125 : decode (mm_Md_openEntry).2.1 125 = .ok (.ireturn, 1) := by decide +kernel
theorem dd_Md_openEntry_126 : decode (mm_Md_openEntry).2.1 126 = .ok (.aload_n 0, 1) := by decide +kernel
theorem dd_Md_openEntry_127 : decode (mm_Md_openEntry).2.1 127 = .ok (.aload_n 0, 1) := by decide +kernel
theorem dd_Md_openEntry_128 : decode (mm_Md_openEntry).2.1 128 = .ok (.iload 5, 2) := by decide +kernel
theorem dd_Md_openEntry_130 : decode (mm_Md_openEntry).2.1 130 = .ok (.invokevirtual 136, 3) := by decide +kernel
theorem dd_Md_openEntry_133 : decode (mm_Md_openEntry).2.1 133 = .ok (.aload_n 0, 1) := by decide +kernel
theorem dd_Md_openEntry_134 : decode (mm_Md_openEntry).2.1 134 = .ok (.getfield 31, 3) := by decide +kernel
theorem dd_Md_openEntry_137 : decode (mm_Md_openEntry).2.1 137 = .ok (.iload 5, 2) := by decide +kernel
theorem dd_Md_openEntry_139 : decode (mm_Md_openEntry).2.1 139 = .ok (.iconst 2, 1) := by decide +kernel
theorem dd_Md_openEntry_140 : decode (mm_Md_openEntry).2.1 140 = .ok (.iadd, 1) := by decide +kernel
theorem dd_Md_openEntry_141 : decode (mm_Md_openEntry).2.1 141 = .ok (.iaload, 1) := by decide +kernel
theorem dd_Md_openEntry_142 : decode (mm_Md_openEntry).2.1 142 = .ok (.aload_n 0, 1) := by decide +kernel
theorem dd_Md_openEntry_143 : decode (mm_Md_openEntry).2.1 143 = .ok (.getfield 31, 3) := by decide +kernel
theorem dd_Md_openEntry_146 : decode (mm_Md_openEntry).2.1 146 = .ok (.iload 5, 2) := by decide +kernel
theorem dd_Md_openEntry_148 : decode (mm_Md_openEntry).2.1 148 = .ok (.iconst 3, 1) := by decide +kernel
theorem dd_Md_openEntry_149 : decode (mm_Md_openEntry).2.1 149 = .ok (.iadd, 1) := by decide +kernel
theorem dd_Md_openEntry_150 : decode (mm_Md_openEntry).2.1 150 = .ok (.iaload, 1) := by decide +kernel
theorem dd_Md_openEntry_151 : decode (mm_Md_openEntry).2.1 151 = .ok (.aload_n 0, 1) := by decide +kernel
theorem dd_Md_openEntry_152 : decode (mm_Md_openEntry).2.1 152 = .ok (.iload 5, 2) := by decide +kernel
theorem dd_Md_openEntry_154 : decode (mm_Md_openEntry).2.1 154 = .ok (.iconst 4, 1) := by decide +kernel
theorem dd_Md_openEntry_155 : decode (mm_Md_openEntry).2.1 155 = .ok (.iadd, 1) := by decide +kernel
theorem dd_Md_openEntry_156 : decode (mm_Md_openEntry).2.1 156 = .ok (.invokevirtual 136, 3) := by decide +kernel
theorem dd_Md_openEntry_159 : decode (mm_Md_openEntry).2.1 159 = .ok (.invokevirtual 139, 3) := by decide +kernel
theorem dd_Md_openEntry_162 : decode (mm_Md_openEntry).2.1 162 = .ok (.iconst 0, 1) := by decide +kernel
theorem dd_Md_openEntry_163 : decode (mm_Md_openEntry).2.1 163 = .ok (.ireturn, 1) := by decide +kernel
theorem dd_Md_head_0 : decode (mm_Md_head).2.1 0 = .ok (.bipush 14, 2) := by decide +kernel
theorem dd_Md_head_2 : decode (mm_Md_head).2.1 2 = .ok (.aload_n 0, 1) := by decide +kernel
theorem dd_Md_head_3 : decode (mm_Md_head).2.1 3 = .ok (.getfield 127, 3) := by decide +kernel
theorem dd_Md_head_6 : decode (mm_Md_head).2.1 6 = .ok (.bipush 6, 2) := by decide +kernel
theorem dd_Md_head_8 : decode (mm_Md_head).2.1 8 = .ok (.if_icmp .ge 10, 3) := by decide +kernel
theorem dd_Md_head_11 : decode (mm_Md_head).2.1 11 = .ok (.aload_n 0, 1) := by decide +kernel
theorem dd_Md_head_12 : decode (mm_Md_head).2.1 12 = .ok (.getfield 127, 3) := by decide +kernel
theorem dd_Md_head_15 : decode (mm_Md_head).2.1 15 = .ok (.goto 4, 3) := by decide +kernel
theorem dd_Md_head_18 : decode (mm_Md_head).2.1 18 = .ok (.iconst 5, 1) := by decide +kernel
theorem dd_Md_head_19 : decode (mm_Md_head).2.1 19 = .ok (.imul, 1) := by decide +kernel
theorem dd_Md_head_20 : decode (mm_Md_head).2.1 20 = .ok (.istore_n 3, 1) := by decide +kernel
theorem dd_Md_head_21 : decode (mm_Md_head).2.1 21 = .ok (.iconst 0, 1) := by decide +kernel
theorem dd_Md_head_22 : decode (mm_Md_head).2.1 22 = .ok (.istore 4, 2) := by decide +kernel
theorem dd_Md_head_24 : decode (mm_Md_head).2.1 24 = .ok (.iload 4, 2) := by decide +kernel
theorem dd_Md_head_26 : decode (mm_Md_head).2.1 26 = .ok (.iconst 2, 1) := by decide +kernel
theorem dd_Md_head_27 : decode (mm_Md_head).2.1 27 = .ok (.if_icmp .lt 18, 3) := by decide +kernel
theorem dd_Md_head_30 : decode (mm_Md_head).2.1 30 = .ok (.iload 4, 2) := by decide +kernel
theorem dd_Md_head_32 : decode (mm_Md_head).2.1 32 = .ok (.iconst 2, 1) := by decide +kernel
theorem dd_Md_head_33 : decode (mm_Md_head).2.1 33 = .ok (.aload_n 0, 1) := by decide +kernel
theorem dd_Md_head_34 : decode (mm_Md_head).2.1 34 = .ok (.getfield 31, 3) := by decide +kernel
theorem dd_Md_head_37 : decode (mm_Md_head).2.1 37 = .ok (.iload_n 1, 1) := by decide +kernel
theorem dd_Md_head_38 : decode (mm_Md_head).2.1 38 = .ok (.iconst 1, 1) := by decide +kernel
theorem dd_Md_head_39 : decode (mm_Md_head).2.1 39 = .ok (.iadd, 1) := by decide +kernel
theorem dd_Md_head_40 : decode (mm_Md_head).2.1 40 = .ok (.iaload, 1) := by decide +kernel
theorem dd_Md_head_41 : decode (mm_Md_head).2.1 41 = .ok (.iadd, 1) := by decide +kernel
theorem dd_Md_head_42 : decode (mm_Md_head).2.1 42 = .ok (.if_icmp .ge 128, 3) := by decide +kernel
theorem dd_Md_head_45 : decode (mm_Md_head).2.1 45 = .ok (.iload_n 1, 1) := by decide +kernel
theorem dd_Md_head_46 : decode (mm_Md_head).2.1 46 = .ok (.iload 4, 2) := by decide +kernel
theorem dd_Md_head_48 : decode (mm_Md_head).2.1 48 = .ok (.iadd, 1) := by decide +kernel
theorem dd_Md_head_49 : decode (mm_Md_head).2.1 49 = .ok (.iload_n 2, 1) := by decide +kernel
theorem dd_Md_head_50 : decode (mm_Md_head).2.1 50 = .ok (.if_icmp .lt 11, 3) := by decide +kernel
theorem dd_Md_head_53 : decode (mm_Md_head).2.1 53 = .ok (.aload_n 0, 1) := by decide +kernel
theorem dd_Md_head_54 : decode (mm_Md_head).2.1 54 = .ok (.bipush (-3), 2) := by decide +kernel
theorem dd_Md_head_56 : decode (mm_Md_head).2.1 56 = .ok (.iload_n 2, 1) := by decide +kernel
theorem dd_Md_head_57 : decode (mm_Md_head).2.1 57 = .ok (.invokevirtual 130, 3) := by decide +kernel
theorem dd_Md_head_60 : decode (mm_Md_head).2.1 60 = .ok (.ireturn, 1) := by decide +kernel
theorem dd_Md_head_61 : decode (mm_Md_head).2.1 61 = .ok (.aload_n 0, 1) := by decide +kernel
theorem dd_Md_head_62 : decode (mm_Md_head).2.1 62 = .ok (.getfield 31, 3) := by decide +kernel
theorem dd_Md_head_65 : decode (mm_Md_head).2.1 65 = .ok (.iload_n 1, 1) := by decide +kernel
theorem dd_Md_head_66 : decode (mm_Md_head).2.1 66 = .ok (.iload 4, 2) := by decide +kernel
theorem dd_Md_head_68 : decode (mm_Md_head).2.1 68 = .ok (.iadd, 1) := by decide +kernel
theorem dd_Md_head_69 : decode (mm_Md_head).2.1 69 = .ok (.iaload, 1) := by decide +kernel
theorem dd_Md_head_70 : decode (mm_Md_head).2.1 70 = .ok (.istore 5, 2) := by decide +kernel
theorem dd_Md_head_72 : decode (mm_Md_head).2.1 72 = .ok (.iload 4, 2) := by decide +kernel
theorem dd_Md_head_74 : decode (mm_Md_head).2.1 74 = .ok (.ifCond .ne 17, 3) := by decide +kernel
theorem dd_Md_head_77 : decode (mm_Md_head).2.1 77 = .ok (.iload 5, 2) := by decide +kernel
theorem dd_Md_head_79 : decode (mm_Md_head).2.1 79 = .ok (.iconst 3, 1) := by decide +kernel
theorem dd_Md_head_80 : decode (mm_Md_head).2.1 80 = .ok (.if_icmp .ge 7, 3) := by decide +kernel
theorem dd_Md_head_83 : decode (mm_Md_head).2.1 83 = .ok (.iconst 1, 1) := by decide +kernel
theorem dd_Md_head_84 : decode (mm_Md_head).2.1 84 = .ok (.goto 29, 3) := by decide +kernel
theorem dd_Md_head_87 : decode (mm_Md_head).2.1 87 = .ok (.iconst 0, 1) := by decide +kernel
theorem dd_Md_head_88 : decode (mm_Md_head).2.1 88 = .ok (.goto 25, 3) := by decide +kernel
theorem dd_Md_head_91 : decode (mm_Md_head).2.1 91 = .ok (.iload 4, 2) := by decide +kernel
theorem dd_Md_head_93 : decode (mm_Md_head).2.1 93 = .ok (.iconst 1, 1) := by decide +kernel
theorem dd_Md_head_94 : decode (mm_Md_head).2.1 94 = .ok (.if_icmp .ne 14, 3) := by decide +kernel
theorem dd_Md_head_97 : decode (mm_Md_head).2.1 97 = .ok (.iload 5, 2) := by decide +kernel
theorem dd_Md_head_99 : decode (mm_Md_head).2.1 99 = .ok (.iconst 1, 1) := by decide +kernel
theorem dd_Md_head_100 : decode (mm_Md_head).2.1 100 = .ok (.bipush 8, 2) := by decide +kernel
theorem dd_Md_head_102 : decode (mm_Md_head).2.1 102 = .ok (.invokestatic 50, 3) := by decide +kernel
theorem dd_Md_head_105 : decode (mm_Md_head).2.1 105 = .ok (.goto 8, 3) := by decide +kernel
theorem dd_Md_head_108 : decode (mm_Md_head).2.1 108 = .ok (.iload 5, 2) := by decide +kernel
theorem dd_Md_head_110 : decode (mm_Md_head).2.1 110 = .ok (.invokestatic 54, 3) := by decide +kernel
theorem dd_Md_head_113 : decode (mm_Md_head).2.1 113 = .ok (.istore 6, 2) := by decide +kernel
theorem dd_Md_head_115 : decode (mm_Md_head).2.1 115 = .ok (.iload 6, 2) := by decide +kernel
theorem dd_Md_head_117 : decode (mm_Md_head).2.1 117 = .ok (.ifCond .ne 14, 3) := by decide +kernel
theorem dd_Md_head_120 : decode (mm_Md_head).2.1 120 = .ok (.aload_n 0, 1) := by decide +kernel
theorem dd_Md_head_121 : decode (mm_Md_head).2.1 121 = .ok (.bipush (-4), 2) := by decide +kernel
theorem dd_Md_head_123 : decode (mm_Md_head).2.1 123 = .ok (.iload_n 1, 1) := by decide +kernel
theorem dd_Md_head_124 : decode (mm_Md_head).2.1 124 = .ok (.iload 4, 2) := by decide +kernel
theorem dd_Md_head_126 : decode (mm_Md_head).2.1 126 = .ok (.iadd, 1) := by decide +kernel
theorem dd_Md_head_127 : decode (mm_Md_head).2.1 127 = .ok (.invokevirtual 130, 3) := by decide +kernel
theorem dd_Md_head_130 : decode (mm_Md_head).2.1 130 = .ok (.ireturn, 1) := by decide +kernel
theorem dd_Md_head_131 : decode (mm_Md_head).2.1 131 = .ok (.aload_n 0, 1) := by decide +kernel
theorem dd_Md_head_132 : decode (mm_Md_head).2.1 132 = .ok (.getfield 127, 3) := by decide +kernel
theorem dd_Md_head_135 : decode (mm_Md_head).2.1 135 = .ok (.bipush 6, 2) := by decide +kernel
theorem dd_Md_head_137 : decode (mm_Md_head).2.1 137 = .ok (.if_icmp .ge 27, 3) := by decide +kernel
theorem dd_Md_head_140 : decode (mm_Md_head).2.1 140 = .ok (.aload_n 0, 1) := by decide +kernel
theorem dd_Md_head_141 : decode (mm_Md_head).2.1 141 = .ok (.getfield 37, 3) := by decide +kernel
theorem dd_Md_head_144 : decode (mm_Md_head).2.1 144 = .ok (.iload_n 3, 1) := by decide +kernel
theorem dd_Md_head_145 : decode (mm_Md_head).2.1 145 = .ok (.iload 4, 2) := by decide +kernel
theorem dd_Md_head_147 : decode (mm_Md_head).2.1 147 = .ok (.iconst 2, 1) := by decide +kernel
theorem dd_Md_head_148 : decode (mm_Md_head).2.1 148 = .ok (.if_icmp .ge 8, 3) := by decide +kernel
theorem dd_Md_head_151 : decode (mm_Md_head).2.1 151 = .ok (.iload 4, 2) := by decide +kernel
theorem dd_Md_head_153 : decode (mm_Md_head).2.1 153 = .ok (.goto 7, 3) := by decide +kernel
theorem dd_Md_head_156 : decode (mm_Md_head).2.1 156 = .ok (.iconst 4, 1) := by decide +kernel
theorem dd_Md_head_157 : decode (mm_Md_head).2.1 157 = .ok (.iload 4, 2) := by decide +kernel
theorem dd_Md_head_159 : decode (mm_Md_head).2.1 159 = .ok (.iadd, 1) := by decide +kernel
theorem dd_Md_head_160 : decode (mm_Md_head).2.1 160 = .ok (.iadd, 1) := by decide +kernel
theorem dd_Md_head_161 : decode (mm_Md_head).2.1 161 = .ok (.iload 5, 2) := by decide +kernel
theorem dd_Md_head_163 : decode (mm_Md_head).2.1 163 = .ok (.iastore, 1) := by decide +kernel
theorem dd_Md_head_164 : decode (mm_Md_head).2.1 164 = .ok (.iinc 4 1, 3) := by decide +kernel
theorem dd_Md_head_167 : decode (mm_Md_head).2.1 167 = .ok (.goto (-143), 3) := by decide +kernel
theorem dd_Md_head_170 : decode (mm_Md_head).2.1 170 = .ok (.iconst 0, 1) := by decide +kernel
theorem dd_Md_head_171 : decode (mm_Md_head).2.1 171 = .ok (.ireturn, 1) := by decide +kernel
theorem dd_Md_note_0 : decode (mm_Md_note).2.1 0 = .ok (.bipush 14, 2) := by decide +kernel
theorem dd_Md_note_2 : decode (mm_Md_note).2.1 2 = .ok (.aload_n 0, 1) := by decide +kernel
theorem dd_Md_note_3 : decode (mm_Md_note).2.1 3 = .ok (.getfield 127, 3) := by decide +kernel
theorem dd_Md_note_6 : decode (mm_Md_note).2.1 6 = .ok (.imul, 1) := by decide +kernel
theorem dd_Md_note_7 : decode (mm_Md_note).2.1 7 = .ok (.istore 5, 2) := by decide +kernel
theorem dd_Md_note_9 : decode (mm_Md_note).2.1 9 = .ok (.aload_n 0, 1) := by decide +kernel
theorem dd_Md_note_10 : decode (mm_Md_note).2.1 10 = .ok (.getfield 37, 3) := by decide +kernel
theorem dd_Md_note_13 : decode (mm_Md_note).2.1 13 = .ok (.iload 5, 2) := by decide +kernel
theorem dd_Md_note_15 : decode (mm_Md_note).2.1 15 = .ok (.iconst 2, 1) := by decide +kernel
theorem dd_Md_note_16 : decode (mm_Md_note).2.1 16 = .ok (.iadd, 1) := by decide +kernel
theorem dd_Md_note_17 : decode (mm_Md_note).2.1 17 = .ok (.iload_n 1, 1) := by decide +kernel
theorem dd_Md_note_18 : decode (mm_Md_note).2.1 18 = .ok (.iastore, 1) := by decide +kernel
theorem dd_Md_note_19 : decode (mm_Md_note).2.1 19 = .ok (.aload_n 0, 1) := by decide +kernel
theorem dd_Md_note_20 : decode (mm_Md_note).2.1 20 = .ok (.getfield 37, 3) := by decide +kernel
theorem dd_Md_note_23 : decode (mm_Md_note).2.1 23 = .ok (.iload 5, 2) := by decide +kernel
theorem dd_Md_note_25 : decode (mm_Md_note).2.1 25 = .ok (.iconst 3, 1) := by decide +kernel
theorem dd_Md_note_26 : decode (mm_Md_note).2.1 26 = .ok (.iadd, 1) := by decide +kernel
theorem dd_Md_note_27 : decode (mm_Md_note).2.1 27 = .ok (.iload_n 2, 1) := by decide +kernel
theorem dd_Md_note_28 : decode (mm_Md_note).2.1 28 = .ok (.iastore, 1) := by decide +kernel
theorem dd_Md_note_29 : decode (mm_Md_note).2.1 29 = .ok (.aload_n 0, 1) := by decide +kernel
theorem dd_Md_note_30 : decode (mm_Md_note).2.1 30 = .ok (.getfield 37, 3) := by decide +kernel
theorem dd_Md_note_33 : decode (mm_Md_note).2.1 33 = .ok (.iload 5, 2) := by decide +kernel
theorem dd_Md_note_35 : decode (mm_Md_note).2.1 35 = .ok (.iconst 4, 1) := by decide +kernel
theorem dd_Md_note_36 : decode (mm_Md_note).2.1 36 = .ok (.iadd, 1) := by decide +kernel
theorem dd_Md_note_37 : decode (mm_Md_note).2.1 37 = .ok (.iload_n 3, 1) := by decide +kernel
theorem dd_Md_note_38 : decode (mm_Md_note).2.1 38 = .ok (.iastore, 1) := by decide +kernel
theorem dd_Md_note_39 : decode (mm_Md_note).2.1 39 = .ok (.aload_n 0, 1) := by decide +kernel
theorem dd_Md_note_40 : decode (mm_Md_note).2.1 40 = .ok (.getfield 37, 3) := by decide +kernel
theorem dd_Md_note_43 : decode (mm_Md_note).2.1 43 = .ok (.iload 5, 2) := by decide +kernel
theorem dd_Md_note_45 : decode (mm_Md_note).2.1 45 = .ok (.iconst 5, 1) := by decide +kernel
theorem dd_Md_note_46 : decode (mm_Md_note).2.1 46 = .ok (.iadd, 1) := by decide +kernel
theorem dd_Md_note_47 : decode (mm_Md_note).2.1 47 = .ok (.iload 4, 2) := by decide +kernel
theorem dd_Md_note_49 : decode (mm_Md_note).2.1 49 = .ok (.iastore, 1) := by decide +kernel
theorem dd_Md_note_50 : decode (mm_Md_note).2.1 50 = .ok (.aload_n 0, 1) := by decide +kernel
theorem dd_Md_note_51 : decode (mm_Md_note).2.1 51 = .ok (.dup, 1) := by decide +kernel
theorem dd_Md_note_52 : decode (mm_Md_note).2.1 52 = .ok (.getfield 127, 3) := by decide +kernel
theorem dd_Md_note_55 : decode (mm_Md_note).2.1 55 = .ok (.iconst 1, 1) := by decide +kernel
theorem dd_Md_note_56 : decode (mm_Md_note).2.1 56 = .ok (.iadd, 1) := by decide +kernel
theorem dd_Md_note_57 : decode (mm_Md_note).2.1 57 = .ok (.putfield 127, 3) := by decide +kernel
theorem dd_Md_note_60 : decode (mm_Md_note).2.1 60 = .ok (.return_, 1) := by decide +kernel
theorem dd_Md_openChain_0 : decode (mm_Md_openChain).2.1 0 = .ok (.iconst 0, 1) := by decide +kernel
theorem dd_Md_openChain_1 : decode (mm_Md_openChain).2.1 1 = .ok (.istore_n 1, 1) := by decide +kernel
theorem dd_Md_openChain_2 : decode (mm_Md_openChain).2.1 2 = .ok (.iload_n 1, 1) := by decide +kernel
theorem dd_Md_openChain_3 : decode (mm_Md_openChain).2.1 3 = .ok (.aload_n 0, 1) := by decide +kernel
theorem dd_Md_openChain_4 : decode (mm_Md_openChain).2.1 4 = .ok (.getfield 124, 3) := by decide +kernel
theorem dd_Md_openChain_7 : decode (mm_Md_openChain).2.1 7 = .ok (.if_icmp .ge 316, 3) := by decide +kernel
theorem dd_Md_openChain_10 : decode (mm_Md_openChain).2.1 10 = .ok (.aload_n 0, 1) := by decide +kernel
theorem dd_Md_openChain_11 : decode (mm_Md_openChain).2.1 11 = .ok (.getfield 31, 3) := by decide +kernel
theorem dd_Md_openChain_14 : decode (mm_Md_openChain).2.1 14 = .ok (.iload_n 1, 1) := by decide +kernel
theorem dd_Md_openChain_15 : decode (mm_Md_openChain).2.1 15 = .ok (.iaload, 1) := by decide +kernel
theorem dd_Md_openChain_16 : decode (mm_Md_openChain).2.1 16 = .ok (.bipush 69, 2) := by decide +kernel
theorem dd_Md_openChain_18 : decode (mm_Md_openChain).2.1 18 = .ok (.if_icmp .eq 305, 3) := by decide +kernel
theorem dd_Md_openChain_21 : decode (mm_Md_openChain).2.1 21 = .ok (.aload_n 0, 1) := by decide +kernel
theorem dd_Md_openChain_22 : decode (mm_Md_openChain).2.1 22 = .ok (.getfield 31, 3) := by decide +kernel
theorem dd_Md_openChain_25 : decode (mm_Md_openChain).2.1 25 = .ok (.iload_n 1, 1) := by decide +kernel
theorem dd_Md_openChain_26 : decode (mm_Md_openChain).2.1 26 = .ok (.iaload, 1) := by decide +kernel
theorem dd_Md_openChain_27 : decode (mm_Md_openChain).2.1 27 = .ok (.bipush 67, 2) := by decide +kernel
theorem dd_Md_openChain_29 : decode (mm_Md_openChain).2.1 29 = .ok (.if_icmp .eq 11, 3) := by decide +kernel
theorem dd_Md_openChain_32 : decode (mm_Md_openChain).2.1 32 = .ok (.aload_n 0, 1) := by decide +kernel
theorem dd_Md_openChain_33 : decode (mm_Md_openChain).2.1 33 = .ok (.bipush (-4), 2) := by decide +kernel
theorem dd_Md_openChain_35 : decode (mm_Md_openChain).2.1 35 = .ok (.iload_n 1, 1) := by decide +kernel
theorem dd_Md_openChain_36 : decode (mm_Md_openChain).2.1 36 = .ok (.invokevirtual 130, 3) := by decide +kernel
theorem dd_Md_openChain_39 : decode (mm_Md_openChain).2.1 39 = .ok (.ireturn, 1) := by decide +kernel
theorem dd_Md_openChain_40 : decode (mm_Md_openChain).2.1 40 = .ok (.iload_n 1, 1) := by decide +kernel
theorem dd_Md_openChain_41 : decode (mm_Md_openChain).2.1 41 = .ok (.istore_n 2, 1) := by decide +kernel
theorem dd_Md_openChain_42 : decode (mm_Md_openChain).2.1 42 = .ok (.aload_n 0, 1) := by decide +kernel
theorem dd_Md_openChain_43 : decode (mm_Md_openChain).2.1 43 = .ok (.iload_n 1, 1) := by decide +kernel
theorem dd_Md_openChain_44 : decode (mm_Md_openChain).2.1 44 = .ok (.iconst 1, 1) := by decide +kernel
theorem dd_Md_openChain_45 : decode (mm_Md_openChain).2.1 45 = .ok (.iadd, 1) := by decide +kernel
theorem dd_Md_openChain_46 : decode (mm_Md_openChain).2.1 46 = .ok (.aload_n 0, 1) := by decide +kernel
theorem dd_Md_openChain_47 : decode (mm_Md_openChain).2.1 47 = .ok (.getfield 124, 3) := by decide +kernel
theorem dd_Md_openChain_50 : decode (mm_Md_openChain).2.1 50 = .ok (.invokevirtual 133, 3) := by decide +kernel
theorem dd_Md_openChain_53 : decode (mm_Md_openChain).2.1 53 = .ok (.istore_n 3, 1) := by decide +kernel
theorem dd_Md_openChain_54 : decode (mm_Md_openChain).2.1 54 = .ok (.iload_n 3, 1) := by decide +kernel
theorem dd_Md_openChain_55 : decode (mm_Md_openChain).2.1 55 = .ok (.ifCond .eq 5, 3) := by decide +kernel
theorem dd_Md_openChain_58 : decode (mm_Md_openChain).2.1 58 = .ok (.iload_n 3, 1) := by decide +kernel
theorem dd_Md_openChain_59 : decode (mm_Md_openChain).2.1 59 = .ok (.ireturn, 1) := by decide +kernel
theorem dd_Md_openChain_60 : decode (mm_Md_openChain).2.1 60 = .ok (.iload_n 1, 1) := by decide +kernel
theorem dd_Md_openChain_61 : decode (mm_Md_openChain).2.1 61 = .ok (.iconst 3, 1) := by decide +kernel
theorem dd_Md_openChain_62 : decode (mm_Md_openChain).2.1 62 = .ok (.iadd, 1) := by decide +kernel
theorem dd_Md_openChain_63 : decode (mm_Md_openChain).2.1 63 = .ok (.aload_n 0, 1) := by decide +kernel
theorem dd_Md_openChain_64 : decode (mm_Md_openChain).2.1 64 = .ok (.getfield 31, 3) := by decide +kernel
theorem dd_Md_openChain_67 : decode (mm_Md_openChain).2.1 67 = .ok (.iload_n 1, 1) := by decide +kernel
theorem dd_Md_openChain_68 : decode (mm_Md_openChain).2.1 68 = .ok (.iconst 2, 1) := by decide +kernel
theorem dd_Md_openChain_69 : decode (mm_Md_openChain).2.1 69 = .ok (.iadd, 1) := by decide +kernel
theorem dd_Md_openChain_70 : decode (mm_Md_openChain).2.1 70 = .ok (.iaload, 1) := by decide +kernel
theorem dd_Md_openChain_71 : decode (mm_Md_openChain).2.1 71 = .ok (.iadd, 1) := by decide +kernel
end
section
theorem dd_Md_openChain_72 : decode (mm_Md_openChain).2.1 72 = .ok (.istore 4, 2) := by decide +kernel
theorem dd_Md_openChain_74 : decode (mm_Md_openChain).2.1 74 = .ok (.iload 4, 2) := by decide +kernel
theorem dd_Md_openChain_76 : decode (mm_Md_openChain).2.1 76 = .ok (.iconst 1, 1) := by decide +kernel
theorem dd_Md_openChain_77 : decode (mm_Md_openChain).2.1 77 = .ok (.iadd, 1) := by decide +kernel
theorem dd_Md_openChain_78 : decode (mm_Md_openChain).2.1 78 = .ok (.aload_n 0, 1) := by decide +kernel
theorem dd_Md_openChain_79 : decode (mm_Md_openChain).2.1 79 = .ok (.getfield 124, 3) := by decide +kernel
theorem dd_Md_openChain_82 : decode (mm_Md_openChain).2.1 82 = .ok (.if_icmp .ge 28, 3) := by decide +kernel
theorem dd_Md_openChain_85 : decode (mm_Md_openChain).2.1 85 = .ok (.aload_n 0, 1) := by decide +kernel
theorem dd_Md_openChain_86 : decode (mm_Md_openChain).2.1 86 = .ok (.getfield 31, 3) := by decide +kernel
theorem dd_Md_openChain_89 : decode (mm_Md_openChain).2.1 89 = .ok (.iload 4, 2) := by decide +kernel
theorem dd_Md_openChain_91 : decode (mm_Md_openChain).2.1 91 = .ok (.iconst 1, 1) := by decide +kernel
theorem dd_Md_openChain_92 : decode (mm_Md_openChain).2.1 92 = .ok (.iadd, 1) := by decide +kernel
theorem dd_Md_openChain_93 : decode (mm_Md_openChain).2.1 93 = .ok (.iaload, 1) := by decide +kernel
theorem dd_Md_openChain_94 : decode (mm_Md_openChain).2.1 94 = .ok (.bipush 60, 2) := by decide +kernel
theorem dd_Md_openChain_96 : decode (mm_Md_openChain).2.1 96 = .ok (.if_icmp .le 14, 3) := by decide +kernel
theorem dd_Md_openChain_99 : decode (mm_Md_openChain).2.1 99 = .ok (.aload_n 0, 1) := by decide +kernel
theorem dd_Md_openChain_100 : decode (mm_Md_openChain).2.1 100 = .ok (.bipush (-4), 2) := by decide +kernel
theorem dd_Md_openChain_102 : decode (mm_Md_openChain).2.1 102 = .ok (.iload 4, 2) := by decide +kernel
theorem dd_Md_openChain_104 : decode (mm_Md_openChain).2.1 104 = .ok (.iconst 1, 1) := by decide +kernel
theorem dd_Md_openChain_105 : decode (mm_Md_openChain).2.1 105 = .ok (.iadd, 1) := by decide +kernel
theorem dd_Md_openChain_106 : decode (mm_Md_openChain).2.1 106 = .ok (.invokevirtual 130, 3) := by decide +kernel
theorem dd_Md_openChain_109 : decode (mm_Md_openChain).2.1 109 = .ok (.ireturn, 1) := by decide +kernel
theorem dd_Md_openChain_110 : decode (mm_Md_openChain).2.1 110 = .ok (.iload 4, 2) := by decide +kernel
theorem dd_Md_openChain_112 : decode (mm_Md_openChain).2.1 112 = .ok (.iconst 4, 1) := by decide +kernel
theorem dd_Md_openChain_113 : decode (mm_Md_openChain).2.1 113 = .ok (.iadd, 1) := by decide +kernel
theorem dd_Md_openChain_114 : decode (mm_Md_openChain).2.1 114 = .ok (.aload_n 0, 1) := by decide +kernel
theorem dd_Md_openChain_115 : decode (mm_Md_openChain).2.1 115 = .ok (.getfield 124, 3) := by decide +kernel
theorem dd_Md_openChain_118 : decode (mm_Md_openChain).2.1 118 = .ok (.if_icmp .lt 14, 3) := by decide +kernel
theorem dd_Md_openChain_121 : decode (mm_Md_openChain).2.1 121 = .ok (.aload_n 0, 1) := by decide +kernel
theorem dd_Md_openChain_122 : decode (mm_Md_openChain).2.1 122 = .ok (.bipush (-3), 2) := by decide +kernel
theorem dd_Md_openChain_124 : decode (mm_Md_openChain).2.1 124 = .ok (.aload_n 0, 1) := by decide +kernel
theorem dd_Md_openChain_125 : decode (mm_Md_openChain).2.1 125 = .ok (.getfield 124, 3) := by decide +kernel
theorem dd_Md_openChain_128 : decode (mm_Md_openChain).2.1 128 = .ok (.invokevirtual 130, 3) := by decide +kernel
theorem dd_Md_openChain_131 : decode (mm_Md_openChain).2.1 131 = .ok (.ireturn, 1) := by decide +kernel
theorem dd_Md_openChain_132 : decode (mm_Md_openChain).2.1 132 = .ok (.iconst 0, 1) := by decide +kernel
theorem dd_Md_openChain_133 : decode (mm_Md_openChain).2.1 133 = .ok (.istore 5, 2) := by decide +kernel
theorem dd_Md_openChain_135 : decode (mm_Md_openChain).2.1 135 = .ok (.iload_n 1, 1) := by decide +kernel
theorem dd_Md_openChain_136 : decode (mm_Md_openChain).2.1 136 = .ok (.istore 6, 2) := by decide +kernel
theorem dd_Md_openChain_138 : decode (mm_Md_openChain).2.1 138 = .ok (.iload 6, 2) := by decide +kernel
theorem dd_Md_openChain_140 : decode (mm_Md_openChain).2.1 140 = .ok (.iload 4, 2) := by decide +kernel
theorem dd_Md_openChain_142 : decode (mm_Md_openChain).2.1 142 = .ok (.iconst 4, 1) := by decide +kernel
theorem dd_Md_openChain_143 : decode (mm_Md_openChain).2.1 143 = .ok (.iadd, 1) := by decide +kernel
theorem dd_Md_openChain_144 : decode (mm_Md_openChain).2.1 144 = .ok (.if_icmp .ge 21, 3) := by decide +kernel
theorem dd_Md_openChain_147 : decode (mm_Md_openChain).2.1 147 = .ok (.iload 5, 2) := by decide +kernel
theorem dd_Md_openChain_149 : decode (mm_Md_openChain).2.1 149 = .ok (.aload_n 0, 1) := by decide +kernel
theorem dd_Md_openChain_150 : decode (mm_Md_openChain).2.1 150 = .ok (.getfield 31, 3) := by decide +kernel
theorem dd_Md_openChain_153 : decode (mm_Md_openChain).2.1 153 = .ok (.iload 6, 2) := by decide +kernel
theorem dd_Md_openChain_155 : decode (mm_Md_openChain).2.1 155 = .ok (.iaload, 1) := by decide +kernel
theorem dd_Md_openChain_156 : decode (mm_Md_openChain).2.1 156 = .ok (.iadd, 1) := by decide +kernel
theorem dd_Md_openChain_157 : decode (mm_Md_openChain).2.1 157 = .ok (.istore 5, 2) := by decide +kernel
theorem dd_Md_openChain_159 : decode (mm_Md_openChain).2.1 159 = .ok (.iinc 6 1, 3) := by decide +kernel
theorem dd_Md_openChain_162 : decode (mm_Md_openChain).2.1 162 = .ok (.goto (-24), 3) := by decide +kernel
theorem dd_Md_openChain_165 : decode (mm_Md_openChain).2.1 165 = .ok (.iload 5, 2) := by decide +kernel
theorem dd_Md_openChain_167 : decode (mm_Md_openChain).2.1 167 = .ok (.sipush 255, 3) := by decide +kernel
theorem dd_Md_openChain_170 : decode (mm_Md_openChain).2.1 170 = .ok (.iand, 1) := by decide +kernel
theorem dd_Md_openChain_171 : decode (mm_Md_openChain).2.1 171 = .ok (.aload_n 0, 1) := by decide +kernel
theorem dd_Md_openChain_172 : decode (mm_Md_openChain).2.1 172 = .ok (.getfield 31, 3) := by decide +kernel
theorem dd_Md_openChain_175 : decode (mm_Md_openChain).2.1 175 = .ok (.iload 4, 2) := by decide +kernel
theorem dd_Md_openChain_177 : decode (mm_Md_openChain).2.1 177 = .ok (.iconst 4, 1) := by decide +kernel
theorem dd_Md_openChain_178 : decode (mm_Md_openChain).2.1 178 = .ok (.iadd, 1) := by decide +kernel
theorem dd_Md_openChain_179 : decode (mm_Md_openChain).2.1 179 = .ok (.iaload, 1) := by decide +kernel
theorem dd_Md_openChain_180 : decode (mm_Md_openChain).2.1 180 = .ok (.if_icmp .eq 14, 3) := by decide +kernel
theorem dd_Md_openChain_183 : decode (mm_Md_openChain).2.1 183 = .ok (.aload_n 0, 1) := by decide +kernel
theorem dd_Md_openChain_184 : decode (mm_Md_openChain).2.1 184 = .ok (.bipush (-4), 2) := by decide +kernel
theorem dd_Md_openChain_186 : decode (mm_Md_openChain).2.1 186 = .ok (.iload 4, 2) := by decide +kernel
theorem dd_Md_openChain_188 : decode (mm_Md_openChain).2.1 188 = .ok (.iconst 4, 1) := by decide +kernel
theorem dd_Md_openChain_189 : decode (mm_Md_openChain).2.1 189 = .ok (.iadd, 1) := by decide +kernel
theorem dd_Md_openChain_190 : decode (mm_Md_openChain).2.1 190 = .ok (.invokevirtual 130, 3) := by decide +kernel
theorem dd_Md_openChain_193 : decode (mm_Md_openChain).2.1 193 = .ok (.ireturn, 1) := by decide +kernel
theorem dd_Md_openChain_194 : decode (mm_Md_openChain).2.1 194 = .ok (.aload_n 0, 1) := by decide +kernel
theorem dd_Md_openChain_195 : decode (mm_Md_openChain).2.1 195 = .ok (.getfield 127, 3) := by decide +kernel
theorem dd_Md_openChain_198 : decode (mm_Md_openChain).2.1 198 = .ok (.bipush 6, 2) := by decide +kernel
theorem dd_Md_openChain_200 : decode (mm_Md_openChain).2.1 200 = .ok (.if_icmp .ne 11, 3) := by decide +kernel
theorem dd_Md_openChain_203 : decode (mm_Md_openChain).2.1 203 = .ok (.aload_n 0, 1) := by decide +kernel
theorem dd_Md_openChain_204 : decode (mm_Md_openChain).2.1 204 = .ok (.bipush (-2), 2) := by decide +kernel
theorem dd_Md_openChain_206 : decode (mm_Md_openChain).2.1 206 = .ok (.iload_n 2, 1) := by decide +kernel
theorem dd_Md_openChain_207 : decode (mm_Md_openChain).2.1 207 = .ok (.invokevirtual 130, 3) := by decide +kernel
theorem dd_Md_openChain_210 : decode (mm_Md_openChain).2.1 210 = .ok (.ireturn, 1) := by decide +kernel
theorem dd_Md_openChain_211 : decode (mm_Md_openChain).2.1 211 = .ok (.iload 4, 2) := by decide +kernel
theorem dd_Md_openChain_213 : decode (mm_Md_openChain).2.1 213 = .ok (.iconst 5, 1) := by decide +kernel
theorem dd_Md_openChain_214 : decode (mm_Md_openChain).2.1 214 = .ok (.iadd, 1) := by decide +kernel
theorem dd_Md_openChain_215 : decode (mm_Md_openChain).2.1 215 = .ok (.aload_n 0, 1) := by decide +kernel
theorem dd_Md_openChain_216 : decode (mm_Md_openChain).2.1 216 = .ok (.getfield 31, 3) := by decide +kernel
theorem dd_Md_openChain_219 : decode (mm_Md_openChain).2.1 219 = .ok (.iload 4, 2) := by decide +kernel
theorem dd_Md_openChain_221 : decode (mm_Md_openChain).2.1 221 = .ok (.iaload, 1) := by decide +kernel
theorem dd_Md_openChain_222 : decode (mm_Md_openChain).2.1 222 = .ok (.iadd, 1) := by decide +kernel
theorem dd_Md_openChain_223 : decode (mm_Md_openChain).2.1 223 = .ok (.istore 6, 2) := by decide +kernel
theorem dd_Md_openChain_225 : decode (mm_Md_openChain).2.1 225 = .ok (.iload 6, 2) := by decide +kernel
theorem dd_Md_openChain_227 : decode (mm_Md_openChain).2.1 227 = .ok (.iconst 3, 1) := by decide +kernel
theorem dd_Md_openChain_228 : decode (mm_Md_openChain).2.1 228 = .ok (.iadd, 1) := by decide +kernel
theorem dd_Md_openChain_229 : decode (mm_Md_openChain).2.1 229 = .ok (.iconst 4, 1) := by decide +kernel
theorem dd_Md_openChain_230 : decode (mm_Md_openChain).2.1 230 = .ok (.idiv, 1) := by decide +kernel
theorem dd_Md_openChain_231 : decode (mm_Md_openChain).2.1 231 = .ok (.iconst 4, 1) := by decide +kernel
theorem dd_Md_openChain_232 : decode (mm_Md_openChain).2.1 232 = .ok (.imul, 1) := by decide +kernel
theorem dd_Md_openChain_233 : decode (mm_Md_openChain).2.1 233 = .ok (.istore_n 1, 1) := by decide +kernel
theorem dd_Md_openChain_234 : decode (mm_Md_openChain).2.1 234 = .ok (.iload_n 1, 1) := by decide +kernel
theorem dd_Md_openChain_235 : decode (mm_Md_openChain).2.1 235 = .ok (.aload_n 0, 1) := by decide +kernel
theorem dd_Md_openChain_236 : decode (mm_Md_openChain).2.1 236 = .ok (.getfield 124, 3) := by decide +kernel
theorem dd_Md_openChain_239 : decode (mm_Md_openChain).2.1 239 = .ok (.if_icmp .le 14, 3) := by decide +kernel
theorem dd_Md_openChain_242 : decode (mm_Md_openChain).2.1 242 = .ok (.aload_n 0, 1) := by decide +kernel
theorem dd_Md_openChain_243 : decode (mm_Md_openChain).2.1 243 = .ok (.bipush (-3), 2) := by decide +kernel
theorem dd_Md_openChain_245 : decode (mm_Md_openChain).2.1 245 = .ok (.aload_n 0, 1) := by decide +kernel
theorem dd_Md_openChain_246 : decode (mm_Md_openChain).2.1 246 = .ok (.getfield 124, 3) := by decide +kernel
theorem dd_Md_openChain_249 : decode (mm_Md_openChain).2.1 249 = .ok (.invokevirtual 130, 3) := by decide +kernel
theorem dd_Md_openChain_252 : decode (mm_Md_openChain).2.1 252 = .ok (.ireturn, 1) := by decide +kernel
theorem dd_Md_openChain_253 : decode (mm_Md_openChain).2.1 253 = .ok (.iload 6, 2) := by decide +kernel
theorem dd_Md_openChain_255 : decode (mm_Md_openChain).2.1 255 = .ok (.istore 7, 2) := by decide +kernel
theorem dd_Md_openChain_257 : decode (mm_Md_openChain).2.1 257 = .ok (.iload 7, 2) := by decide +kernel
theorem dd_Md_openChain_259 : decode (mm_Md_openChain).2.1 259 = .ok (.iload_n 1, 1) := by decide +kernel
theorem dd_Md_openChain_260 : decode (mm_Md_openChain).2.1 260 = .ok (.if_icmp .ge 28, 3) := by decide +kernel
theorem dd_Md_openChain_263 : decode (mm_Md_openChain).2.1 263 = .ok (.aload_n 0, 1) := by decide +kernel
theorem dd_Md_openChain_264 : decode (mm_Md_openChain).2.1 264 = .ok (.getfield 31, 3) := by decide +kernel
theorem dd_Md_openChain_267 : decode (mm_Md_openChain).2.1 267 = .ok (.iload 7, 2) := by decide +kernel
theorem dd_Md_openChain_269 : decode (mm_Md_openChain).2.1 269 = .ok (.iaload, 1) := by decide +kernel
theorem dd_Md_openChain_270 : decode (mm_Md_openChain).2.1 270 = .ok (.ifCond .eq 12, 3) := by decide +kernel
theorem dd_Md_openChain_273 : decode (mm_Md_openChain).2.1 273 = .ok (.aload_n 0, 1) := by decide +kernel
theorem dd_Md_openChain_274 : decode (mm_Md_openChain).2.1 274 = .ok (.bipush (-4), 2) := by decide +kernel
theorem dd_Md_openChain_276 : decode (mm_Md_openChain).2.1 276 = .ok (.iload 7, 2) := by decide +kernel
theorem dd_Md_openChain_278 : decode (mm_Md_openChain).2.1 278 = .ok (.invokevirtual 130, 3) := by decide +kernel
theorem dd_Md_openChain_281 : decode (mm_Md_openChain).2.1 281 = .ok (.ireturn, 1) := by decide +kernel
theorem dd_Md_openChain_282 : decode (mm_Md_openChain).2.1 282 = .ok (.iinc 7 1, 3) := by decide +kernel
theorem dd_Md_openChain_285 : decode (mm_Md_openChain).2.1 285 = .ok (.goto (-28), 3) := by decide +kernel
theorem dd_Md_openChain_288 : decode (mm_Md_openChain).2.1 288 = .ok (.aload_n 0, 1) := by decide +kernel
theorem dd_Md_openChain_289 : decode (mm_Md_openChain).2.1 289 = .ok (.iload 4, 2) := by decide +kernel
theorem dd_Md_openChain_291 : decode (mm_Md_openChain).2.1 291 = .ok (.iconst 5, 1) := by decide +kernel
theorem dd_Md_openChain_292 : decode (mm_Md_openChain).2.1 292 = .ok (.iadd, 1) := by decide +kernel
theorem dd_Md_openChain_293 : decode (mm_Md_openChain).2.1 293 = .ok (.aload_n 0, 1) := by decide +kernel
theorem dd_Md_openChain_294 : decode (mm_Md_openChain).2.1 294 = .ok (.getfield 31, 3) := by decide +kernel
theorem dd_Md_openChain_297 : decode (mm_Md_openChain).2.1 297 = .ok (.iload 4, 2) := by decide +kernel
theorem dd_Md_openChain_299 : decode (mm_Md_openChain).2.1 299 = .ok (.iaload, 1) := by decide +kernel
theorem dd_Md_openChain_300 : decode (mm_Md_openChain).2.1 300 = .ok (.aload_n 0, 1) := by decide +kernel
theorem dd_Md_openChain_301 : decode (mm_Md_openChain).2.1 301 = .ok (.getfield 31, 3) := by decide +kernel
theorem dd_Md_openChain_304 : decode (mm_Md_openChain).2.1 304 = .ok (.iload 4, 2) := by decide +kernel
theorem dd_Md_openChain_306 : decode (mm_Md_openChain).2.1 306 = .ok (.iconst 1, 1) := by decide +kernel
theorem dd_Md_openChain_307 : decode (mm_Md_openChain).2.1 307 = .ok (.iadd, 1) := by decide +kernel
theorem dd_Md_openChain_308 : decode (mm_Md_openChain).2.1 308 = .ok (.iaload, 1) := by decide +kernel
theorem dd_Md_openChain_309 : decode (mm_Md_openChain).2.1 309 = .ok (.aload_n 0, 1) := by decide +kernel
theorem dd_Md_openChain_310 : decode (mm_Md_openChain).2.1 310 = .ok (.iload 4, 2) := by decide +kernel
theorem dd_Md_openChain_312 : decode (mm_Md_openChain).2.1 312 = .ok (.iconst 2, 1) := by decide +kernel
theorem dd_Md_openChain_313 : decode (mm_Md_openChain).2.1 313 = .ok (.iadd, 1) := by decide +kernel
theorem dd_Md_openChain_314 : decode (mm_Md_openChain).2.1 314 = .ok (.invokevirtual 136, 3) := by decide +kernel
theorem dd_Md_openChain_317 : decode (mm_Md_openChain).2.1 317 = .ok (.invokevirtual 139, 3) := by decide +kernel
theorem dd_Md_openChain_320 : decode (mm_Md_openChain).2.1 320 = .ok (.goto (-318), 3) := by decide +kernel
theorem dd_Md_openChain_323 : decode (mm_Md_openChain).2.1 323 = .ok (.iload_n 1, 1) := by decide +kernel
theorem dd_Md_openChain_324 : decode (mm_Md_openChain).2.1 324 = .ok (.aload_n 0, 1) := by decide +kernel
theorem dd_Md_openChain_325 : decode (mm_Md_openChain).2.1 325 = .ok (.getfield 124, 3) := by decide +kernel
theorem dd_Md_openChain_328 : decode (mm_Md_openChain).2.1 328 = .ok (.if_icmp .ge 7, 3) := by decide +kernel
theorem dd_Md_openChain_331 : decode (mm_Md_openChain).2.1 331 = .ok (.iconst 0, 1) := by decide +kernel
theorem dd_Md_openChain_332 : decode (mm_Md_openChain).2.1 332 = .ok (.goto 13, 3) := by decide +kernel
theorem dd_Md_openChain_335 : decode (mm_Md_openChain).2.1 335 = .ok (.aload_n 0, 1) := by decide +kernel
theorem dd_Md_openChain_336 : decode (mm_Md_openChain).2.1 336 = .ok (.bipush (-3), 2) := by decide +kernel
theorem dd_Md_openChain_338 : decode (mm_Md_openChain).2.1 338 = .ok (.aload_n 0, 1) := by decide +kernel
theorem dd_Md_openChain_339 : decode (mm_Md_openChain).2.1 339 = .ok (.getfield 124, 3) := by decide +kernel
theorem dd_Md_openChain_342 : decode (mm_Md_openChain).2.1 342 = .ok (.invokevirtual 130, 3) := by decide +kernel
theorem dd_Md_openChain_345 : decode (mm_Md_openChain).2.1 345 = .ok (.ireturn, 1) := by decide +kernel
theorem dd_Md_place_0 : decode (mm_Md_place).2.1 0 = .ok (.aload_n 0, 1) := by decide +kernel
theorem dd_Md_place_1 : decode (mm_Md_place).2.1 1 = .ok (.getfield 40, 3) := by decide +kernel
theorem dd_Md_place_4 : decode (mm_Md_place).2.1 4 = .ok (.ireturn, 1) := by decide +kernel
theorem dd_Md_take_0 : decode (mm_Md_take).2.1 0 = .ok (.iload_n 1, 1) := by decide +kernel
theorem dd_Md_take_1 : decode (mm_Md_take).2.1 1 = .ok (.iconst 0, 1) := by decide +kernel
theorem dd_Md_take_2 : decode (mm_Md_take).2.1 2 = .ok (.aload_n 0, 1) := by decide +kernel
theorem dd_Md_take_3 : decode (mm_Md_take).2.1 3 = .ok (.getfield 127, 3) := by decide +kernel
theorem dd_Md_take_6 : decode (mm_Md_take).2.1 6 = .ok (.iconst 1, 1) := by decide +kernel
theorem dd_Md_take_7 : decode (mm_Md_take).2.1 7 = .ok (.isub, 1) := by decide +kernel
theorem dd_Md_take_8 : decode (mm_Md_take).2.1 8 = .ok (.invokestatic 50, 3) := by decide +kernel
theorem dd_Md_take_11 : decode (mm_Md_take).2.1 11 = .ok (.ifCond .ne 5, 3) := by decide +kernel
theorem dd_Md_take_14 : decode (mm_Md_take).2.1 14 = .ok (.iconst (-1), 1) := by decide +kernel
theorem dd_Md_take_15 : decode (mm_Md_take).2.1 15 = .ok (.ireturn, 1) := by decide +kernel
theorem dd_Md_take_16 : decode (mm_Md_take).2.1 16 = .ok (.aload_n 0, 1) := by decide +kernel
theorem dd_Md_take_17 : decode (mm_Md_take).2.1 17 = .ok (.iload_n 1, 1) := by decide +kernel
theorem dd_Md_take_18 : decode (mm_Md_take).2.1 18 = .ok (.invokevirtual 166, 3) := by decide +kernel
theorem dd_Md_take_21 : decode (mm_Md_take).2.1 21 = .ok (.ifCond .ne 6, 3) := by decide +kernel
theorem dd_Md_take_24 : decode (mm_Md_take).2.1 24 = .ok (.bipush (-6), 2) := by decide +kernel
theorem dd_Md_take_26 : decode (mm_Md_take).2.1 26 = .ok (.ireturn, 1) := by decide +kernel
theorem dd_Md_take_27 : decode (mm_Md_take).2.1 27 = .ok (.iconst 0, 1) := by decide +kernel
theorem dd_Md_take_28 : decode (mm_Md_take).2.1 28 = .ok (.istore_n 2, 1) := by decide +kernel
theorem dd_Md_take_29 : decode (mm_Md_take).2.1 29 = .ok (.iload_n 2, 1) := by decide +kernel
theorem dd_Md_take_30 : decode (mm_Md_take).2.1 30 = .ok (.iload_n 1, 1) := by decide +kernel
theorem dd_Md_take_31 : decode (mm_Md_take).2.1 31 = .ok (.if_icmp .ge 21, 3) := by decide +kernel
theorem dd_Md_take_34 : decode (mm_Md_take).2.1 34 = .ok (.aload_n 0, 1) := by decide +kernel
theorem dd_Md_take_35 : decode (mm_Md_take).2.1 35 = .ok (.iload_n 1, 1) := by decide +kernel
theorem dd_Md_take_36 : decode (mm_Md_take).2.1 36 = .ok (.iload_n 2, 1) := by decide +kernel
theorem dd_Md_take_37 : decode (mm_Md_take).2.1 37 = .ok (.invokevirtual 169, 3) := by decide +kernel
theorem dd_Md_take_40 : decode (mm_Md_take).2.1 40 = .ok (.ifCond .eq 6, 3) := by decide +kernel
theorem dd_Md_take_43 : decode (mm_Md_take).2.1 43 = .ok (.bipush (-8), 2) := by decide +kernel
theorem dd_Md_take_45 : decode (mm_Md_take).2.1 45 = .ok (.ireturn, 1) := by decide +kernel
theorem dd_Md_take_46 : decode (mm_Md_take).2.1 46 = .ok (.iinc 2 1, 3) := by decide +kernel
theorem dd_Md_take_49 : decode (mm_Md_take).2.1 49 = .ok (.goto (-20), 3) := by decide +kernel
theorem dd_Md_take_52 : decode (mm_Md_take).2.1 52 = .ok (.aload_n 0, 1) := by decide +kernel
theorem dd_Md_take_53 : decode (mm_Md_take).2.1 53 = .ok (.iload_n 1, 1) := by decide +kernel
theorem dd_Md_take_54 : decode (mm_Md_take).2.1 54 = .ok (.invokevirtual 172, 3) := by decide +kernel
theorem dd_Md_take_57 : decode (mm_Md_take).2.1 57 = .ok (.ifCond .ne 6, 3) := by decide +kernel
theorem dd_Md_take_60 : decode (mm_Md_take).2.1 60 = .ok (.bipush (-5), 2) := by decide +kernel
theorem dd_Md_take_62 : decode (mm_Md_take).2.1 62 = .ok (.ireturn, 1) := by decide +kernel
theorem dd_Md_take_63 : decode (mm_Md_take).2.1 63 = .ok (.ldc 92, 2) := by decide +kernel
theorem dd_Md_take_65 : decode (mm_Md_take).2.1 65 = .ok (.istore_n 2, 1) := by decide +kernel
theorem dd_Md_take_66 : decode (mm_Md_take).2.1 66 = .ok (.iconst 0, 1) := by decide +kernel
theorem dd_Md_take_67 : decode (mm_Md_take).2.1 67 = .ok (.istore_n 3, 1) := by decide +kernel
theorem dd_Md_take_68 : decode (mm_Md_take).2.1 68 = .ok (.iload_n 3, 1) := by decide +kernel
theorem dd_Md_take_69 : decode (mm_Md_take).2.1 69 = .ok (.aload_n 0, 1) := by decide +kernel
theorem dd_Md_take_70 : decode (mm_Md_take).2.1 70 = .ok (.getfield 67, 3) := by decide +kernel
theorem dd_Md_take_73 : decode (mm_Md_take).2.1 73 = .ok (.if_icmp .ge 20, 3) := by decide +kernel
theorem dd_Md_take_76 : decode (mm_Md_take).2.1 76 = .ok (.iload_n 2, 1) := by decide +kernel
theorem dd_Md_take_77 : decode (mm_Md_take).2.1 77 = .ok (.aload_n 0, 1) := by decide +kernel
theorem dd_Md_take_78 : decode (mm_Md_take).2.1 78 = .ok (.getfield 47, 3) := by decide +kernel
theorem dd_Md_take_81 : decode (mm_Md_take).2.1 81 = .ok (.iload_n 3, 1) := by decide +kernel
theorem dd_Md_take_82 : decode (mm_Md_take).2.1 82 = .ok (.iaload, 1) := by decide +kernel
theorem dd_Md_take_83 : decode (mm_Md_take).2.1 83 = .ok (.invokestatic 93, 3) := by decide +kernel
theorem dd_Md_take_86 : decode (mm_Md_take).2.1 86 = .ok (.istore_n 2, 1) := by decide +kernel
theorem dd_Md_take_87 : decode (mm_Md_take).2.1 87 = .ok (.iinc 3 1, 3) := by decide +kernel
theorem dd_Md_take_90 : decode (mm_Md_take).2.1 90 = .ok (.goto (-22), 3) := by decide +kernel
theorem dd_Md_take_93 : decode (mm_Md_take).2.1 93 = .ok (.iload_n 2, 1) := by decide +kernel
theorem dd_Md_take_94 : decode (mm_Md_take).2.1 94 = .ok (.aload_n 0, 1) := by decide +kernel
theorem dd_Md_take_95 : decode (mm_Md_take).2.1 95 = .ok (.iload_n 1, 1) := by decide +kernel
theorem dd_Md_take_96 : decode (mm_Md_take).2.1 96 = .ok (.iconst 5, 1) := by decide +kernel
theorem dd_Md_take_97 : decode (mm_Md_take).2.1 97 = .ok (.invokevirtual 153, 3) := by decide +kernel
theorem dd_Md_take_100 : decode (mm_Md_take).2.1 100 = .ok (.if_icmp .eq 6, 3) := by decide +kernel
theorem dd_Md_take_103 : decode (mm_Md_take).2.1 103 = .ok (.bipush (-7), 2) := by decide +kernel
theorem dd_Md_take_105 : decode (mm_Md_take).2.1 105 = .ok (.ireturn, 1) := by decide +kernel
theorem dd_Md_take_106 : decode (mm_Md_take).2.1 106 = .ok (.aload_n 0, 1) := by decide +kernel
theorem dd_Md_take_107 : decode (mm_Md_take).2.1 107 = .ok (.aload_n 0, 1) := by decide +kernel
theorem dd_Md_take_108 : decode (mm_Md_take).2.1 108 = .ok (.getfield 67, 3) := by decide +kernel
theorem dd_Md_take_111 : decode (mm_Md_take).2.1 111 = .ok (.putfield 175, 3) := by decide +kernel
theorem dd_Md_take_114 : decode (mm_Md_take).2.1 114 = .ok (.iconst 0, 1) := by decide +kernel
theorem dd_Md_take_115 : decode (mm_Md_take).2.1 115 = .ok (.istore_n 3, 1) := by decide +kernel
theorem dd_Md_take_116 : decode (mm_Md_take).2.1 116 = .ok (.iload_n 3, 1) := by decide +kernel
theorem dd_Md_take_117 : decode (mm_Md_take).2.1 117 = .ok (.aload_n 0, 1) := by decide +kernel
theorem dd_Md_take_118 : decode (mm_Md_take).2.1 118 = .ok (.getfield 67, 3) := by decide +kernel
theorem dd_Md_take_121 : decode (mm_Md_take).2.1 121 = .ok (.if_icmp .ge 21, 3) := by decide +kernel
theorem dd_Md_take_124 : decode (mm_Md_take).2.1 124 = .ok (.aload_n 0, 1) := by decide +kernel
theorem dd_Md_take_125 : decode (mm_Md_take).2.1 125 = .ok (.getfield 44, 3) := by decide +kernel
theorem dd_Md_take_128 : decode (mm_Md_take).2.1 128 = .ok (.iload_n 3, 1) := by decide +kernel
theorem dd_Md_take_129 : decode (mm_Md_take).2.1 129 = .ok (.aload_n 0, 1) := by decide +kernel
theorem dd_Md_take_130 : decode (mm_Md_take).2.1 130 = .ok (.getfield 47, 3) := by decide +kernel
theorem dd_Md_take_133 : decode (mm_Md_take).2.1 133 = .ok (.iload_n 3, 1) := by decide +kernel
theorem dd_Md_take_134 : decode (mm_Md_take).2.1 134 = .ok (.iaload, 1) := by decide +kernel
theorem dd_Md_take_135 : decode (mm_Md_take).2.1 135 = .ok (.iastore, 1) := by decide +kernel
theorem dd_Md_take_136 : decode (mm_Md_take).2.1 136 = .ok (.iinc 3 1, 3) := by decide +kernel
theorem dd_Md_take_139 : decode (mm_Md_take).2.1 139 = .ok (.goto (-23), 3) := by decide +kernel
theorem dd_Md_take_142 : decode (mm_Md_take).2.1 142 = .ok (.aload_n 0, 1) := by decide +kernel
theorem dd_Md_take_143 : decode (mm_Md_take).2.1 143 = .ok (.getfield 175, 3) := by decide +kernel
theorem dd_Md_take_146 : decode (mm_Md_take).2.1 146 = .ok (.ireturn, 1) := by decide +kernel
theorem dd_Md_safe_0 : decode (mm_Md_safe).2.1 0 = .ok (.iconst 0, 1) := by decide +kernel
theorem dd_Md_safe_1 : decode (mm_Md_safe).2.1 1 = .ok (.istore_n 2, 1) := by decide +kernel
theorem dd_Md_safe_2 : decode (mm_Md_safe).2.1 2 = .ok (.iconst 0, 1) := by decide +kernel
theorem dd_Md_safe_3 : decode (mm_Md_safe).2.1 3 = .ok (.istore_n 3, 1) := by decide +kernel
theorem dd_Md_safe_4 : decode (mm_Md_safe).2.1 4 = .ok (.iconst 0, 1) := by decide +kernel
theorem dd_Md_safe_5 : decode (mm_Md_safe).2.1 5 = .ok (.istore 4, 2) := by decide +kernel
theorem dd_Md_safe_7 : decode (mm_Md_safe).2.1 7 = .ok (.iload 4, 2) := by decide +kernel
theorem dd_Md_safe_9 : decode (mm_Md_safe).2.1 9 = .ok (.aload_n 0, 1) := by decide +kernel
theorem dd_Md_safe_10 : decode (mm_Md_safe).2.1 10 = .ok (.iload_n 1, 1) := by decide +kernel
theorem dd_Md_safe_11 : decode (mm_Md_safe).2.1 11 = .ok (.iconst 1, 1) := by decide +kernel
theorem dd_Md_safe_12 : decode (mm_Md_safe).2.1 12 = .ok (.invokevirtual 153, 3) := by decide +kernel
theorem dd_Md_safe_15 : decode (mm_Md_safe).2.1 15 = .ok (.if_icmp .gt 82, 3) := by decide +kernel
theorem dd_Md_safe_18 : decode (mm_Md_safe).2.1 18 = .ok (.aload_n 0, 1) := by decide +kernel
theorem dd_Md_safe_19 : decode (mm_Md_safe).2.1 19 = .ok (.iload_n 1, 1) := by decide +kernel
theorem dd_Md_safe_20 : decode (mm_Md_safe).2.1 20 = .ok (.iload 4, 2) := by decide +kernel
theorem dd_Md_safe_22 : decode (mm_Md_safe).2.1 22 = .ok (.invokevirtual 156, 3) := by decide +kernel
theorem dd_Md_safe_25 : decode (mm_Md_safe).2.1 25 = .ok (.istore 5, 2) := by decide +kernel
theorem dd_Md_safe_27 : decode (mm_Md_safe).2.1 27 = .ok (.iload 5, 2) := by decide +kernel
theorem dd_Md_safe_29 : decode (mm_Md_safe).2.1 29 = .ok (.bipush 47, 2) := by decide +kernel
theorem dd_Md_safe_31 : decode (mm_Md_safe).2.1 31 = .ok (.if_icmp .ne 19, 3) := by decide +kernel
theorem dd_Md_safe_34 : decode (mm_Md_safe).2.1 34 = .ok (.iload_n 2, 1) := by decide +kernel
theorem dd_Md_safe_35 : decode (mm_Md_safe).2.1 35 = .ok (.ifCond .eq 13, 3) := by decide +kernel
theorem dd_Md_safe_38 : decode (mm_Md_safe).2.1 38 = .ok (.iload_n 2, 1) := by decide +kernel
theorem dd_Md_safe_39 : decode (mm_Md_safe).2.1 39 = .ok (.iconst 2, 1) := by decide +kernel
theorem dd_Md_safe_40 : decode (mm_Md_safe).2.1 40 = .ok (.if_icmp .ne 10, 3) := by decide +kernel
theorem dd_Md_safe_43 : decode (mm_Md_safe).2.1 43 = .ok (.iload_n 3, 1) := by decide +kernel
theorem dd_Md_safe_44 : decode (mm_Md_safe).2.1 44 = .ok (.iconst 2, 1) := by decide +kernel
theorem dd_Md_safe_45 : decode (mm_Md_safe).2.1 45 = .ok (.if_icmp .ne 5, 3) := by decide +kernel
theorem dd_Md_safe_48 : decode (mm_Md_safe).2.1 48 = .ok (.iconst 0, 1) := by decide +kernel
theorem dd_Md_safe_49 : decode (mm_Md_safe).2.1 49 = .ok (.ireturn, 1) := by decide +kernel
theorem dd_Md_safe_50 : decode (mm_Md_safe).2.1 50 = .ok (.iload 5, 2) := by decide +kernel
theorem dd_Md_safe_52 : decode (mm_Md_safe).2.1 52 = .ok (.bipush 47, 2) := by decide +kernel
theorem dd_Md_safe_54 : decode (mm_Md_safe).2.1 54 = .ok (.if_icmp .ne 7, 3) := by decide +kernel
theorem dd_Md_safe_57 : decode (mm_Md_safe).2.1 57 = .ok (.iconst 0, 1) := by decide +kernel
theorem dd_Md_safe_58 : decode (mm_Md_safe).2.1 58 = .ok (.goto 17, 3) := by decide +kernel
theorem dd_Md_safe_61 : decode (mm_Md_safe).2.1 61 = .ok (.iload 5, 2) := by decide +kernel
theorem dd_Md_safe_63 : decode (mm_Md_safe).2.1 63 = .ok (.bipush 46, 2) := by decide +kernel
theorem dd_Md_safe_65 : decode (mm_Md_safe).2.1 65 = .ok (.if_icmp .ne 9, 3) := by decide +kernel
theorem dd_Md_safe_68 : decode (mm_Md_safe).2.1 68 = .ok (.iload_n 3, 1) := by decide +kernel
theorem dd_Md_safe_69 : decode (mm_Md_safe).2.1 69 = .ok (.iconst 1, 1) := by decide +kernel
theorem dd_Md_safe_70 : decode (mm_Md_safe).2.1 70 = .ok (.iadd, 1) := by decide +kernel
theorem dd_Md_safe_71 : decode (mm_Md_safe).2.1 71 = .ok (.goto 4, 3) := by decide +kernel
theorem dd_Md_safe_74 : decode (mm_Md_safe).2.1 74 = .ok (.iload_n 3, 1) := by decide +kernel
theorem dd_Md_safe_75 : decode (mm_Md_safe).2.1 75 = .ok (.istore_n 3, 1) := by decide +kernel
theorem dd_Md_safe_76 : decode (mm_Md_safe).2.1 76 = .ok (.iload 5, 2) := by decide +kernel
theorem dd_Md_safe_78 : decode (mm_Md_safe).2.1 78 = .ok (.bipush 47, 2) := by decide +kernel
theorem dd_Md_safe_80 : decode (mm_Md_safe).2.1 80 = .ok (.if_icmp .ne 7, 3) := by decide +kernel
theorem dd_Md_safe_83 : decode (mm_Md_safe).2.1 83 = .ok (.iconst 0, 1) := by decide +kernel
theorem dd_Md_safe_84 : decode (mm_Md_safe).2.1 84 = .ok (.goto 6, 3) := by decide +kernel
theorem dd_Md_safe_87 : decode (mm_Md_safe).2.1 87 = .ok (.iload_n 2, 1) := by decide +kernel
theorem dd_Md_safe_88 : decode (mm_Md_safe).2.1 88 = .ok (.iconst 1, 1) := by decide +kernel
theorem dd_Md_safe_89 : decode (mm_Md_safe).2.1 89 = .ok (.iadd, 1) := by decide +kernel
theorem dd_Md_safe_90 : decode (mm_Md_safe).2.1 90 = .ok (.istore_n 2, 1) := by decide +kernel
theorem dd_Md_safe_91 : decode (mm_Md_safe).2.1 91 = .ok (.iinc 4 1, 3) := by decide +kernel
theorem dd_Md_safe_94 : decode (mm_Md_safe).2.1 94 = .ok (.goto (-87), 3) := by decide +kernel
theorem dd_Md_safe_97 : decode (mm_Md_safe).2.1 97 = .ok (.iconst 1, 1) := by decide +kernel
theorem dd_Md_safe_98 : decode (mm_Md_safe).2.1 98 = .ok (.ireturn, 1) := by decide +kernel
theorem dd_Md_of_0 : decode (mm_Md_of).2.1 0 = .ok (.aload_n 0, 1) := by decide +kernel
theorem dd_Md_of_1 : decode (mm_Md_of).2.1 1 = .ok (.getfield 37, 3) := by decide +kernel
theorem dd_Md_of_4 : decode (mm_Md_of).2.1 4 = .ok (.bipush 14, 2) := by decide +kernel
theorem dd_Md_of_6 : decode (mm_Md_of).2.1 6 = .ok (.iload_n 1, 1) := by decide +kernel
theorem dd_Md_of_7 : decode (mm_Md_of).2.1 7 = .ok (.imul, 1) := by decide +kernel
theorem dd_Md_of_8 : decode (mm_Md_of).2.1 8 = .ok (.iload_n 2, 1) := by decide +kernel
theorem dd_Md_of_9 : decode (mm_Md_of).2.1 9 = .ok (.iadd, 1) := by decide +kernel
theorem dd_Md_of_10 : decode (mm_Md_of).2.1 10 = .ok (.iaload, 1) := by decide +kernel
theorem dd_Md_of_11 : decode (mm_Md_of).2.1 11 = .ok (.ireturn, 1) := by decide +kernel
theorem dd_Md_nameAt_0 : decode (mm_Md_nameAt).2.1 0 = .ok (.iload_n 2, 1) := by decide +kernel
theorem dd_Md_nameAt_1 : decode (mm_Md_nameAt).2.1 1 = .ok (.aload_n 0, 1) := by decide +kernel
theorem dd_Md_nameAt_2 : decode (mm_Md_nameAt).2.1 2 = .ok (.iload_n 1, 1) := by decide +kernel
theorem dd_Md_nameAt_3 : decode (mm_Md_nameAt).2.1 3 = .ok (.iconst 1, 1) := by decide +kernel
theorem dd_Md_nameAt_4 : decode (mm_Md_nameAt).2.1 4 = .ok (.invokevirtual 153, 3) := by decide +kernel
theorem dd_Md_nameAt_7 : decode (mm_Md_nameAt).2.1 7 = .ok (.if_icmp .ge 15, 3) := by decide +kernel
theorem dd_Md_nameAt_10 : decode (mm_Md_nameAt).2.1 10 = .ok (.aload_n 0, 1) := by decide +kernel
theorem dd_Md_nameAt_11 : decode (mm_Md_nameAt).2.1 11 = .ok (.iload_n 1, 1) := by decide +kernel
theorem dd_Md_nameAt_12 : decode (mm_Md_nameAt).2.1 12 = .ok (.bipush 6, 2) := by decide +kernel
theorem dd_Md_nameAt_14 : decode (mm_Md_nameAt).2.1 14 = .ok (.iload_n 2, 1) := by decide +kernel
theorem dd_Md_nameAt_15 : decode (mm_Md_nameAt).2.1 15 = .ok (.iadd, 1) := by decide +kernel
theorem dd_Md_nameAt_16 : decode (mm_Md_nameAt).2.1 16 = .ok (.invokevirtual 153, 3) := by decide +kernel
theorem dd_Md_nameAt_19 : decode (mm_Md_nameAt).2.1 19 = .ok (.goto 5, 3) := by decide +kernel
theorem dd_Md_nameAt_22 : decode (mm_Md_nameAt).2.1 22 = .ok (.bipush 47, 2) := by decide +kernel
theorem dd_Md_nameAt_24 : decode (mm_Md_nameAt).2.1 24 = .ok (.ireturn, 1) := by decide +kernel
theorem dd_Md_sameName_0 : decode (mm_Md_sameName).2.1 0 = .ok (.aload_n 0, 1) := by decide +kernel
theorem dd_Md_sameName_1 : decode (mm_Md_sameName).2.1 1 = .ok (.iload_n 1, 1) := by decide +kernel
theorem dd_Md_sameName_2 : decode (mm_Md_sameName).2.1 2 = .ok (.iconst 1, 1) := by decide +kernel
theorem dd_Md_sameName_3 : decode (mm_Md_sameName).2.1 3 = .ok (.invokevirtual 153, 3) := by decide +kernel
theorem dd_Md_sameName_6 : decode (mm_Md_sameName).2.1 6 = .ok (.aload_n 0, 1) := by decide +kernel
theorem dd_Md_sameName_7 : decode (mm_Md_sameName).2.1 7 = .ok (.iload_n 2, 1) := by decide +kernel
theorem dd_Md_sameName_8 : decode (mm_Md_sameName).2.1 8 = .ok (.iconst 1, 1) := by decide +kernel
theorem dd_Md_sameName_9 : decode (mm_Md_sameName).2.1 9 = .ok (.invokevirtual 153, 3) := by decide +kernel
theorem dd_Md_sameName_12 : decode (mm_Md_sameName).2.1 12 = .ok (.if_icmp .eq 5, 3) := by decide +kernel
theorem dd_Md_sameName_15 : decode (mm_Md_sameName).2.1 15 = .ok (.iconst 0, 1) := by decide +kernel
theorem dd_Md_sameName_16 : decode (mm_Md_sameName).2.1 16 = .ok (.ireturn, 1) := by decide +kernel
theorem dd_Md_sameName_17 : decode (mm_Md_sameName).2.1 17 = .ok (.iconst 0, 1) := by decide +kernel
theorem dd_Md_sameName_18 : decode (mm_Md_sameName).2.1 18 = .ok (.istore_n 3, 1) := by decide +kernel
theorem dd_Md_sameName_19 : decode (mm_Md_sameName).2.1 19 = .ok (.iload_n 3, 1) := by decide +kernel
theorem dd_Md_sameName_20 : decode (mm_Md_sameName).2.1 20 = .ok (.aload_n 0, 1) := by decide +kernel
theorem dd_Md_sameName_21 : decode (mm_Md_sameName).2.1 21 = .ok (.iload_n 1, 1) := by decide +kernel
theorem dd_Md_sameName_22 : decode (mm_Md_sameName).2.1 22 = .ok (.iconst 1, 1) := by decide +kernel
theorem dd_Md_sameName_23 : decode (mm_Md_sameName).2.1 23 = .ok (.invokevirtual 153, 3) := by decide +kernel
theorem dd_Md_sameName_26 : decode (mm_Md_sameName).2.1 26 = .ok (.if_icmp .ge 26, 3) := by decide +kernel
theorem dd_Md_sameName_29 : decode (mm_Md_sameName).2.1 29 = .ok (.aload_n 0, 1) := by decide +kernel
theorem dd_Md_sameName_30 : decode (mm_Md_sameName).2.1 30 = .ok (.iload_n 1, 1) := by decide +kernel
theorem dd_Md_sameName_31 : decode (mm_Md_sameName).2.1 31 = .ok (.iload_n 3, 1) := by decide +kernel
theorem dd_Md_sameName_32 : decode (mm_Md_sameName).2.1 32 = .ok (.invokevirtual 156, 3) := by decide +kernel
theorem dd_Md_sameName_35 : decode (mm_Md_sameName).2.1 35 = .ok (.aload_n 0, 1) := by decide +kernel
theorem dd_Md_sameName_36 : decode (mm_Md_sameName).2.1 36 = .ok (.iload_n 2, 1) := by decide +kernel
theorem dd_Md_sameName_37 : decode (mm_Md_sameName).2.1 37 = .ok (.iload_n 3, 1) := by decide +kernel
theorem dd_Md_sameName_38 : decode (mm_Md_sameName).2.1 38 = .ok (.invokevirtual 156, 3) := by decide +kernel
theorem dd_Md_sameName_41 : decode (mm_Md_sameName).2.1 41 = .ok (.if_icmp .eq 5, 3) := by decide +kernel
theorem dd_Md_sameName_44 : decode (mm_Md_sameName).2.1 44 = .ok (.iconst 0, 1) := by decide +kernel
theorem dd_Md_sameName_45 : decode (mm_Md_sameName).2.1 45 = .ok (.ireturn, 1) := by decide +kernel
theorem dd_Md_sameName_46 : decode (mm_Md_sameName).2.1 46 = .ok (.iinc 3 1, 3) := by decide +kernel
theorem dd_Md_sameName_49 : decode (mm_Md_sameName).2.1 49 = .ok (.goto (-30), 3) := by decide +kernel
theorem dd_Md_sameName_52 : decode (mm_Md_sameName).2.1 52 = .ok (.iconst 1, 1) := by decide +kernel
theorem dd_Md_sameName_53 : decode (mm_Md_sameName).2.1 53 = .ok (.ireturn, 1) := by decide +kernel
theorem dd_Md_unsqueeze_0 : decode (mm_Md_unsqueeze).2.1 0 = .ok (.aload_n 0, 1) := by decide +kernel
theorem dd_Md_unsqueeze_1 : decode (mm_Md_unsqueeze).2.1 1 = .ok (.iconst 0, 1) := by decide +kernel
theorem dd_Md_unsqueeze_2 : decode (mm_Md_unsqueeze).2.1 2 = .ok (.putfield 67, 3) := by decide +kernel
theorem dd_Md_unsqueeze_5 : decode (mm_Md_unsqueeze).2.1 5 = .ok (.aload_n 0, 1) := by decide +kernel
theorem dd_Md_unsqueeze_6 : decode (mm_Md_unsqueeze).2.1 6 = .ok (.iload_n 1, 1) := by decide +kernel
theorem dd_Md_unsqueeze_7 : decode (mm_Md_unsqueeze).2.1 7 = .ok (.iconst 2, 1) := by decide +kernel
theorem dd_Md_unsqueeze_8 : decode (mm_Md_unsqueeze).2.1 8 = .ok (.invokevirtual 153, 3) := by decide +kernel
theorem dd_Md_unsqueeze_11 : decode (mm_Md_unsqueeze).2.1 11 = .ok (.istore_n 2, 1) := by decide +kernel
theorem dd_Md_unsqueeze_12 : decode (mm_Md_unsqueeze).2.1 12 = .ok (.iload_n 2, 1) := by decide +kernel
theorem dd_Md_unsqueeze_13 : decode (mm_Md_unsqueeze).2.1 13 = .ok (.aload_n 0, 1) := by decide +kernel
theorem dd_Md_unsqueeze_14 : decode (mm_Md_unsqueeze).2.1 14 = .ok (.iload_n 1, 1) := by decide +kernel
theorem dd_Md_unsqueeze_15 : decode (mm_Md_unsqueeze).2.1 15 = .ok (.iconst 3, 1) := by decide +kernel
theorem dd_Md_unsqueeze_16 : decode (mm_Md_unsqueeze).2.1 16 = .ok (.invokevirtual 153, 3) := by decide +kernel
theorem dd_Md_unsqueeze_19 : decode (mm_Md_unsqueeze).2.1 19 = .ok (.iadd, 1) := by decide +kernel
theorem dd_Md_unsqueeze_20 : decode (mm_Md_unsqueeze).2.1 20 = .ok (.istore_n 3, 1) := by decide +kernel
theorem dd_Md_unsqueeze_21 : decode (mm_Md_unsqueeze).2.1 21 = .ok (.iload_n 2, 1) := by decide +kernel
theorem dd_Md_unsqueeze_22 : decode (mm_Md_unsqueeze).2.1 22 = .ok (.iload_n 3, 1) := by decide +kernel
theorem dd_Md_unsqueeze_23 : decode (mm_Md_unsqueeze).2.1 23 = .ok (.if_icmp .ge 27, 3) := by decide +kernel
theorem dd_Md_unsqueeze_26 : decode (mm_Md_unsqueeze).2.1 26 = .ok (.aload_n 0, 1) := by decide +kernel
theorem dd_Md_unsqueeze_27 : decode (mm_Md_unsqueeze).2.1 27 = .ok (.iload_n 1, 1) := by decide +kernel
theorem dd_Md_unsqueeze_28 : decode (mm_Md_unsqueeze).2.1 28 = .ok (.iload_n 2, 1) := by decide +kernel
theorem dd_Md_unsqueeze_29 : decode (mm_Md_unsqueeze).2.1 29 = .ok (.iload_n 3, 1) := by decide +kernel
theorem dd_Md_unsqueeze_30 : decode (mm_Md_unsqueeze).2.1 30 = .ok (.invokevirtual 163, 3) := by decide +kernel
theorem dd_Md_unsqueeze_33 : decode (mm_Md_unsqueeze).2.1 33 = .ok (.istore 4, 2) := by decide +kernel
theorem dd_Md_unsqueeze_35 : decode (mm_Md_unsqueeze).2.1 35 = .ok (.iload 4, 2) := by decide +kernel
theorem dd_Md_unsqueeze_37 : decode (mm_Md_unsqueeze).2.1 37 = .ok (.ifCond .ne 5, 3) := by decide +kernel
theorem dd_Md_unsqueeze_40 : decode (mm_Md_unsqueeze).2.1 40 = .ok (.iconst 0, 1) := by decide +kernel
theorem dd_Md_unsqueeze_41 : decode (mm_Md_unsqueeze).2.1 41 = .ok (.ireturn, 1) := by decide +kernel
theorem dd_Md_unsqueeze_42 : decode (mm_Md_unsqueeze).2.1 42 = .ok (.iload_n 2, 1) := by decide +kernel
theorem dd_Md_unsqueeze_43 : decode (mm_Md_unsqueeze).2.1 43 = .ok (.iload 4, 2) := by decide +kernel
theorem dd_Md_unsqueeze_45 : decode (mm_Md_unsqueeze).2.1 45 = .ok (.iadd, 1) := by decide +kernel
theorem dd_Md_unsqueeze_46 : decode (mm_Md_unsqueeze).2.1 46 = .ok (.istore_n 2, 1) := by decide +kernel
theorem dd_Md_unsqueeze_47 : decode (mm_Md_unsqueeze).2.1 47 = .ok (.goto (-26), 3) := by decide +kernel
theorem dd_Md_unsqueeze_50 : decode (mm_Md_unsqueeze).2.1 50 = .ok (.aload_n 0, 1) := by decide +kernel
theorem dd_Md_unsqueeze_51 : decode (mm_Md_unsqueeze).2.1 51 = .ok (.getfield 67, 3) := by decide +kernel
theorem dd_Md_unsqueeze_54 : decode (mm_Md_unsqueeze).2.1 54 = .ok (.aload_n 0, 1) := by decide +kernel
theorem dd_Md_unsqueeze_55 : decode (mm_Md_unsqueeze).2.1 55 = .ok (.iload_n 1, 1) := by decide +kernel
theorem dd_Md_unsqueeze_56 : decode (mm_Md_unsqueeze).2.1 56 = .ok (.iconst 4, 1) := by decide +kernel
theorem dd_Md_unsqueeze_57 : decode (mm_Md_unsqueeze).2.1 57 = .ok (.invokevirtual 153, 3) := by decide +kernel
theorem dd_Md_unsqueeze_60 : decode (mm_Md_unsqueeze).2.1 60 = .ok (.if_icmp .ne 7, 3) := by decide +kernel
theorem dd_Md_unsqueeze_63 : decode (mm_Md_unsqueeze).2.1 63 = .ok (.iconst 1, 1) := by decide +kernel
theorem dd_Md_unsqueeze_64 : decode (mm_Md_unsqueeze).2.1 64 = .ok (.goto 4, 3) := by decide +kernel
theorem dd_Md_unsqueeze_67 : decode (mm_Md_unsqueeze).2.1 67 = .ok (.iconst 0, 1) := by decide +kernel
theorem dd_Md_unsqueeze_68 : decode (mm_Md_unsqueeze).2.1 68 = .ok (.ireturn, 1) := by decide +kernel
theorem dd_Md_piece_0 : decode (mm_Md_piece).2.1 0 = .ok (.aload_n 0, 1) := by decide +kernel
theorem dd_Md_piece_1 : decode (mm_Md_piece).2.1 1 = .ok (.getfield 31, 3) := by decide +kernel
theorem dd_Md_piece_4 : decode (mm_Md_piece).2.1 4 = .ok (.iload_n 2, 1) := by decide +kernel
theorem dd_Md_piece_5 : decode (mm_Md_piece).2.1 5 = .ok (.iaload, 1) := by decide +kernel
theorem dd_Md_piece_6 : decode (mm_Md_piece).2.1 6 = .ok (.istore 4, 2) := by decide +kernel
theorem dd_Md_piece_8 : decode (mm_Md_piece).2.1 8 = .ok (.aload_n 0, 1) := by decide +kernel
theorem dd_Md_piece_9 : decode (mm_Md_piece).2.1 9 = .ok (.iload_n 1, 1) := by decide +kernel
theorem dd_Md_piece_10 : decode (mm_Md_piece).2.1 10 = .ok (.iconst 0, 1) := by decide +kernel
theorem dd_Md_piece_11 : decode (mm_Md_piece).2.1 11 = .ok (.invokevirtual 153, 3) := by decide +kernel
theorem dd_Md_piece_14 : decode (mm_Md_piece).2.1 14 = .ok (.istore 5, 2) := by decide +kernel
theorem dd_Md_piece_16 : decode (mm_Md_piece).2.1 16 = .ok (.iload 5, 2) := by decide +kernel
theorem dd_Md_piece_18 : decode (mm_Md_piece).2.1 18 = .ok (.ifCond .eq 17, 3) := by decide +kernel
theorem dd_Md_piece_21 : decode (mm_Md_piece).2.1 21 = .ok (.iload 5, 2) := by decide +kernel
theorem dd_Md_piece_23 : decode (mm_Md_piece).2.1 23 = .ok (.iconst 1, 1) := by decide +kernel
theorem dd_Md_piece_24 : decode (mm_Md_piece).2.1 24 = .ok (.if_icmp .ne 27, 3) := by decide +kernel
theorem dd_Md_piece_27 : decode (mm_Md_piece).2.1 27 = .ok (.iload 4, 2) := by decide +kernel
theorem dd_Md_piece_29 : decode (mm_Md_piece).2.1 29 = .ok (.sipush 246, 3) := by decide +kernel
theorem dd_Md_piece_32 : decode (mm_Md_piece).2.1 32 = .ok (.if_icmp .ge 19, 3) := by decide +kernel
theorem dd_Md_piece_35 : decode (mm_Md_piece).2.1 35 = .ok (.aload_n 0, 1) := by decide +kernel
theorem dd_Md_piece_36 : decode (mm_Md_piece).2.1 36 = .ok (.iload_n 1, 1) := by decide +kernel
theorem dd_Md_piece_37 : decode (mm_Md_piece).2.1 37 = .ok (.iload 4, 2) := by decide +kernel
theorem dd_Md_piece_39 : decode (mm_Md_piece).2.1 39 = .ok (.invokevirtual 159, 3) := by decide +kernel
theorem dd_Md_piece_42 : decode (mm_Md_piece).2.1 42 = .ok (.ifCond .eq 7, 3) := by decide +kernel
theorem dd_Md_piece_45 : decode (mm_Md_piece).2.1 45 = .ok (.iconst 1, 1) := by decide +kernel
theorem dd_Md_piece_46 : decode (mm_Md_piece).2.1 46 = .ok (.goto 4, 3) := by decide +kernel
theorem dd_Md_piece_49 : decode (mm_Md_piece).2.1 49 = .ok (.iconst 0, 1) := by decide +kernel
theorem dd_Md_piece_50 : decode (mm_Md_piece).2.1 50 = .ok (.ireturn, 1) := by decide +kernel
theorem dd_Md_piece_51 : decode (mm_Md_piece).2.1 51 = .ok (.iload_n 2, 1) := by decide +kernel
theorem dd_Md_piece_52 : decode (mm_Md_piece).2.1 52 = .ok (.iconst 1, 1) := by decide +kernel
theorem dd_Md_piece_53 : decode (mm_Md_piece).2.1 53 = .ok (.iadd, 1) := by decide +kernel
theorem dd_Md_piece_54 : decode (mm_Md_piece).2.1 54 = .ok (.iload_n 3, 1) := by decide +kernel
theorem dd_Md_piece_55 : decode (mm_Md_piece).2.1 55 = .ok (.if_icmp .lt 5, 3) := by decide +kernel
theorem dd_Md_piece_58 : decode (mm_Md_piece).2.1 58 = .ok (.iconst 0, 1) := by decide +kernel
theorem dd_Md_piece_59 : decode (mm_Md_piece).2.1 59 = .ok (.ireturn, 1) := by decide +kernel
theorem dd_Md_piece_60 : decode (mm_Md_piece).2.1 60 = .ok (.aload_n 0, 1) := by decide +kernel
theorem dd_Md_piece_61 : decode (mm_Md_piece).2.1 61 = .ok (.getfield 31, 3) := by decide +kernel
theorem dd_Md_piece_64 : decode (mm_Md_piece).2.1 64 = .ok (.iload_n 2, 1) := by decide +kernel
theorem dd_Md_piece_65 : decode (mm_Md_piece).2.1 65 = .ok (.iconst 1, 1) := by decide +kernel
theorem dd_Md_piece_66 : decode (mm_Md_piece).2.1 66 = .ok (.iadd, 1) := by decide +kernel
theorem dd_Md_piece_67 : decode (mm_Md_piece).2.1 67 = .ok (.iaload, 1) := by decide +kernel
theorem dd_Md_piece_68 : decode (mm_Md_piece).2.1 68 = .ok (.istore 6, 2) := by decide +kernel
theorem dd_Md_piece_70 : decode (mm_Md_piece).2.1 70 = .ok (.iload 5, 2) := by decide +kernel
theorem dd_Md_piece_72 : decode (mm_Md_piece).2.1 72 = .ok (.iconst 1, 1) := by decide +kernel
theorem dd_Md_piece_73 : decode (mm_Md_piece).2.1 73 = .ok (.if_icmp .ne 47, 3) := by decide +kernel
theorem dd_Md_piece_76 : decode (mm_Md_piece).2.1 76 = .ok (.sipush 246, 3) := by decide +kernel
theorem dd_Md_piece_79 : decode (mm_Md_piece).2.1 79 = .ok (.istore 7, 2) := by decide +kernel
theorem dd_Md_piece_81 : decode (mm_Md_piece).2.1 81 = .ok (.iload 7, 2) := by decide +kernel
theorem dd_Md_piece_83 : decode (mm_Md_piece).2.1 83 = .ok (.iload 4, 2) := by decide +kernel
theorem dd_Md_piece_85 : decode (mm_Md_piece).2.1 85 = .ok (.if_icmp .ge 21, 3) := by decide +kernel
theorem dd_Md_piece_88 : decode (mm_Md_piece).2.1 88 = .ok (.aload_n 0, 1) := by decide +kernel
theorem dd_Md_piece_89 : decode (mm_Md_piece).2.1 89 = .ok (.iload_n 1, 1) := by decide +kernel
theorem dd_Md_piece_90 : decode (mm_Md_piece).2.1 90 = .ok (.iload 6, 2) := by decide +kernel
theorem dd_Md_piece_92 : decode (mm_Md_piece).2.1 92 = .ok (.invokevirtual 159, 3) := by decide +kernel
theorem dd_Md_piece_95 : decode (mm_Md_piece).2.1 95 = .ok (.ifCond .ne 5, 3) := by decide +kernel
theorem dd_Md_piece_98 : decode (mm_Md_piece).2.1 98 = .ok (.iconst 0, 1) := by decide +kernel
theorem dd_Md_piece_99 : decode (mm_Md_piece).2.1 99 = .ok (.ireturn, 1) := by decide +kernel
theorem dd_Md_piece_100 : decode (mm_Md_piece).2.1 100 = .ok (.iinc 7 1, 3) := by decide +kernel
theorem dd_Md_piece_103 : decode (mm_Md_piece).2.1 103 = .ok (.goto (-22), 3) := by decide +kernel
theorem dd_Md_piece_106 : decode (mm_Md_piece).2.1 106 = .ok (.iload 4, 2) := by decide +kernel
theorem dd_Md_piece_108 : decode (mm_Md_piece).2.1 108 = .ok (.sipush 246, 3) := by decide +kernel
theorem dd_Md_piece_111 : decode (mm_Md_piece).2.1 111 = .ok (.if_icmp .ne 7, 3) := by decide +kernel
theorem dd_Md_piece_114 : decode (mm_Md_piece).2.1 114 = .ok (.iconst 0, 1) := by decide +kernel
theorem dd_Md_piece_115 : decode (mm_Md_piece).2.1 115 = .ok (.goto 4, 3) := by decide +kernel
theorem dd_Md_piece_118 : decode (mm_Md_piece).2.1 118 = .ok (.iconst 2, 1) := by decide +kernel
theorem dd_Md_piece_119 : decode (mm_Md_piece).2.1 119 = .ok (.ireturn, 1) := by decide +kernel
theorem dd_Md_piece_120 : decode (mm_Md_piece).2.1 120 = .ok (.iload 4, 2) := by decide +kernel
theorem dd_Md_piece_122 : decode (mm_Md_piece).2.1 122 = .ok (.bipush 32, 2) := by decide +kernel
theorem dd_Md_piece_124 : decode (mm_Md_piece).2.1 124 = .ok (.if_icmp .ge 57, 3) := by decide +kernel
theorem dd_Md_piece_127 : decode (mm_Md_piece).2.1 127 = .ok (.iload_n 2, 1) := by decide +kernel
theorem dd_Md_piece_128 : decode (mm_Md_piece).2.1 128 = .ok (.iconst 1, 1) := by decide +kernel
theorem dd_Md_piece_129 : decode (mm_Md_piece).2.1 129 = .ok (.iadd, 1) := by decide +kernel
theorem dd_Md_piece_130 : decode (mm_Md_piece).2.1 130 = .ok (.iload 4, 2) := by decide +kernel
theorem dd_Md_piece_132 : decode (mm_Md_piece).2.1 132 = .ok (.iadd, 1) := by decide +kernel
theorem dd_Md_piece_133 : decode (mm_Md_piece).2.1 133 = .ok (.iload_n 3, 1) := by decide +kernel
theorem dd_Md_piece_134 : decode (mm_Md_piece).2.1 134 = .ok (.if_icmp .lt 5, 3) := by decide +kernel
theorem dd_Md_piece_137 : decode (mm_Md_piece).2.1 137 = .ok (.iconst 0, 1) := by decide +kernel
theorem dd_Md_piece_138 : decode (mm_Md_piece).2.1 138 = .ok (.ireturn, 1) := by decide +kernel
theorem dd_Md_piece_139 : decode (mm_Md_piece).2.1 139 = .ok (.iconst 0, 1) := by decide +kernel
theorem dd_Md_piece_140 : decode (mm_Md_piece).2.1 140 = .ok (.istore 7, 2) := by decide +kernel
theorem dd_Md_piece_142 : decode (mm_Md_piece).2.1 142 = .ok (.iload 7, 2) := by decide +kernel
theorem dd_Md_piece_144 : decode (mm_Md_piece).2.1 144 = .ok (.iload 4, 2) := by decide +kernel
theorem dd_Md_piece_146 : decode (mm_Md_piece).2.1 146 = .ok (.if_icmp .gt 30, 3) := by decide +kernel
theorem dd_Md_piece_149 : decode (mm_Md_piece).2.1 149 = .ok (.aload_n 0, 1) := by decide +kernel
theorem dd_Md_piece_150 : decode (mm_Md_piece).2.1 150 = .ok (.iload_n 1, 1) := by decide +kernel
theorem dd_Md_piece_151 : decode (mm_Md_piece).2.1 151 = .ok (.aload_n 0, 1) := by decide +kernel
theorem dd_Md_piece_152 : decode (mm_Md_piece).2.1 152 = .ok (.getfield 31, 3) := by decide +kernel
theorem dd_Md_piece_155 : decode (mm_Md_piece).2.1 155 = .ok (.iload_n 2, 1) := by decide +kernel
theorem dd_Md_piece_156 : decode (mm_Md_piece).2.1 156 = .ok (.iconst 1, 1) := by decide +kernel
theorem dd_Md_piece_157 : decode (mm_Md_piece).2.1 157 = .ok (.iadd, 1) := by decide +kernel
theorem dd_Md_piece_158 : decode (mm_Md_piece).2.1 158 = .ok (.iload 7, 2) := by decide +kernel
theorem dd_Md_piece_160 : decode (mm_Md_piece).2.1 160 = .ok (.iadd, 1) := by decide +kernel
theorem dd_Md_piece_161 : decode (mm_Md_piece).2.1 161 = .ok (.iaload, 1) := by decide +kernel
theorem dd_Md_piece_162 : decode (mm_Md_piece).2.1 162 = .ok (.invokevirtual 159, 3) := by decide +kernel
theorem dd_Md_piece_165 : decode (mm_Md_piece).2.1 165 = .ok (.ifCond .ne 5, 3) := by decide +kernel
theorem dd_Md_piece_168 : decode (mm_Md_piece).2.1 168 = .ok (.iconst 0, 1) := by decide +kernel
theorem dd_Md_piece_169 : decode (mm_Md_piece).2.1 169 = .ok (.ireturn, 1) := by decide +kernel
theorem dd_Md_piece_170 : decode (mm_Md_piece).2.1 170 = .ok (.iinc 7 1, 3) := by decide +kernel
theorem dd_Md_piece_173 : decode (mm_Md_piece).2.1 173 = .ok (.goto (-31), 3) := by decide +kernel
theorem dd_Md_piece_176 : decode (mm_Md_piece).2.1 176 = .ok (.iload 4, 2) := by decide +kernel
theorem dd_Md_piece_178 : decode (mm_Md_piece).2.1 178 = .ok (.iconst 2, 1) := by decide +kernel
theorem dd_Md_piece_179 : decode (mm_Md_piece).2.1 179 = .ok (.iadd, 1) := by decide +kernel
theorem dd_Md_piece_180 : decode (mm_Md_piece).2.1 180 = .ok (.ireturn, 1) := by decide +kernel
theorem dd_Md_piece_181 : decode (mm_Md_piece).2.1 181 = .ok (.iload 4, 2) := by decide +kernel
theorem dd_Md_piece_183 : decode (mm_Md_piece).2.1 183 = .ok (.bipush 63, 2) := by decide +kernel
theorem dd_Md_piece_185 : decode (mm_Md_piece).2.1 185 = .ok (.if_icmp .gt 19, 3) := by decide +kernel
theorem dd_Md_piece_188 : decode (mm_Md_piece).2.1 188 = .ok (.iload 6, 2) := by decide +kernel
theorem dd_Md_piece_190 : decode (mm_Md_piece).2.1 190 = .ok (.bipush 31, 2) := by decide +kernel
theorem dd_Md_piece_192 : decode (mm_Md_piece).2.1 192 = .ok (.if_icmp .gt 12, 3) := by decide +kernel
theorem dd_Md_piece_195 : decode (mm_Md_piece).2.1 195 = .ok (.iload 6, 2) := by decide +kernel
theorem dd_Md_piece_197 : decode (mm_Md_piece).2.1 197 = .ok (.aload_n 0, 1) := by decide +kernel
theorem dd_Md_piece_198 : decode (mm_Md_piece).2.1 198 = .ok (.getfield 67, 3) := by decide +kernel
theorem dd_Md_piece_201 : decode (mm_Md_piece).2.1 201 = .ok (.if_icmp .lt 5, 3) := by decide +kernel
theorem dd_Md_piece_204 : decode (mm_Md_piece).2.1 204 = .ok (.iconst 0, 1) := by decide +kernel
theorem dd_Md_piece_205 : decode (mm_Md_piece).2.1 205 = .ok (.ireturn, 1) := by decide +kernel
theorem dd_Md_piece_206 : decode (mm_Md_piece).2.1 206 = .ok (.bipush 32, 2) := by decide +kernel
theorem dd_Md_piece_208 : decode (mm_Md_piece).2.1 208 = .ok (.istore 7, 2) := by decide +kernel
theorem dd_Md_piece_210 : decode (mm_Md_piece).2.1 210 = .ok (.iload 7, 2) := by decide +kernel
theorem dd_Md_piece_212 : decode (mm_Md_piece).2.1 212 = .ok (.iload 4, 2) := by decide +kernel
theorem dd_Md_piece_214 : decode (mm_Md_piece).2.1 214 = .ok (.iconst 3, 1) := by decide +kernel
theorem dd_Md_piece_215 : decode (mm_Md_piece).2.1 215 = .ok (.iadd, 1) := by decide +kernel
theorem dd_Md_piece_216 : decode (mm_Md_piece).2.1 216 = .ok (.if_icmp .ge 33, 3) := by decide +kernel
theorem dd_Md_piece_219 : decode (mm_Md_piece).2.1 219 = .ok (.aload_n 0, 1) := by decide +kernel
theorem dd_Md_piece_220 : decode (mm_Md_piece).2.1 220 = .ok (.iload_n 1, 1) := by decide +kernel
theorem dd_Md_piece_221 : decode (mm_Md_piece).2.1 221 = .ok (.aload_n 0, 1) := by decide +kernel
theorem dd_Md_piece_222 : decode (mm_Md_piece).2.1 222 = .ok (.getfield 47, 3) := by decide +kernel
theorem dd_Md_piece_225 : decode (mm_Md_piece).2.1 225 = .ok (.aload_n 0, 1) := by decide +kernel
theorem dd_Md_piece_226 : decode (mm_Md_piece).2.1 226 = .ok (.getfield 67, 3) := by decide +kernel
theorem dd_Md_piece_229 : decode (mm_Md_piece).2.1 229 = .ok (.iconst 1, 1) := by decide +kernel
theorem dd_Md_piece_230 : decode (mm_Md_piece).2.1 230 = .ok (.isub, 1) := by decide +kernel
theorem dd_Md_piece_231 : decode (mm_Md_piece).2.1 231 = .ok (.iload 6, 2) := by decide +kernel
theorem dd_Md_piece_233 : decode (mm_Md_piece).2.1 233 = .ok (.isub, 1) := by decide +kernel
theorem dd_Md_piece_234 : decode (mm_Md_piece).2.1 234 = .ok (.iaload, 1) := by decide +kernel
theorem dd_Md_piece_235 : decode (mm_Md_piece).2.1 235 = .ok (.invokevirtual 159, 3) := by decide +kernel
theorem dd_Md_piece_238 : decode (mm_Md_piece).2.1 238 = .ok (.ifCond .ne 5, 3) := by decide +kernel
theorem dd_Md_piece_241 : decode (mm_Md_piece).2.1 241 = .ok (.iconst 0, 1) := by decide +kernel
theorem dd_Md_piece_242 : decode (mm_Md_piece).2.1 242 = .ok (.ireturn, 1) := by decide +kernel
theorem dd_Md_piece_243 : decode (mm_Md_piece).2.1 243 = .ok (.iinc 7 1, 3) := by decide +kernel
theorem dd_Md_piece_246 : decode (mm_Md_piece).2.1 246 = .ok (.goto (-36), 3) := by decide +kernel
theorem dd_Md_piece_249 : decode (mm_Md_piece).2.1 249 = .ok (.iconst 2, 1) := by decide +kernel
theorem dd_Md_piece_250 : decode (mm_Md_piece).2.1 250 = .ok (.ireturn, 1) := by decide +kernel
theorem dd_Md_make_0 : decode (mm_Md_make).2.1 0 = .ok (.aload_n 0, 1) := by decide +kernel
theorem dd_Md_make_1 : decode (mm_Md_make).2.1 1 = .ok (.getfield 67, 3) := by decide +kernel
theorem dd_Md_make_4 : decode (mm_Md_make).2.1 4 = .ok (.aload_n 0, 1) := by decide +kernel
theorem dd_Md_make_5 : decode (mm_Md_make).2.1 5 = .ok (.iload_n 1, 1) := by decide +kernel
theorem dd_Md_make_6 : decode (mm_Md_make).2.1 6 = .ok (.iconst 4, 1) := by decide +kernel
theorem dd_Md_make_7 : decode (mm_Md_make).2.1 7 = .ok (.invokevirtual 153, 3) := by decide +kernel
theorem dd_Md_make_10 : decode (mm_Md_make).2.1 10 = .ok (.if_icmp .ne 5, 3) := by decide +kernel
theorem dd_Md_make_13 : decode (mm_Md_make).2.1 13 = .ok (.iconst 0, 1) := by decide +kernel
theorem dd_Md_make_14 : decode (mm_Md_make).2.1 14 = .ok (.ireturn, 1) := by decide +kernel
theorem dd_Md_make_15 : decode (mm_Md_make).2.1 15 = .ok (.aload_n 0, 1) := by decide +kernel
theorem dd_Md_make_16 : decode (mm_Md_make).2.1 16 = .ok (.iload_n 2, 1) := by decide +kernel
theorem dd_Md_make_17 : decode (mm_Md_make).2.1 17 = .ok (.invokevirtual 74, 3) := by decide +kernel
theorem dd_Md_make_20 : decode (mm_Md_make).2.1 20 = .ok (.iconst 1, 1) := by decide +kernel
theorem dd_Md_make_21 : decode (mm_Md_make).2.1 21 = .ok (.ireturn, 1) := by decide +kernel
theorem dd_Md_taken_0 : decode (mm_Md_taken).2.1 0 = .ok (.iload_n 1, 1) := by decide +kernel
theorem dd_Md_taken_1 : decode (mm_Md_taken).2.1 1 = .ok (.iconst 0, 1) := by decide +kernel
theorem dd_Md_taken_2 : decode (mm_Md_taken).2.1 2 = .ok (.aload_n 0, 1) := by decide +kernel
theorem dd_Md_taken_3 : decode (mm_Md_taken).2.1 3 = .ok (.getfield 175, 3) := by decide +kernel
theorem dd_Md_taken_6 : decode (mm_Md_taken).2.1 6 = .ok (.iconst 1, 1) := by decide +kernel
theorem dd_Md_taken_7 : decode (mm_Md_taken).2.1 7 = .ok (.isub, 1) := by decide +kernel
theorem dd_Md_taken_8 : decode (mm_Md_taken).2.1 8 = .ok (.invokestatic 50, 3) := by decide +kernel
theorem dd_Md_taken_11 : decode (mm_Md_taken).2.1 11 = .ok (.ifCond .eq 12, 3) := by decide +kernel
theorem dd_Md_taken_14 : decode (mm_Md_taken).2.1 14 = .ok (.aload_n 0, 1) := by decide +kernel
theorem dd_Md_taken_15 : decode (mm_Md_taken).2.1 15 = .ok (.getfield 44, 3) := by decide +kernel
theorem dd_Md_taken_18 : decode (mm_Md_taken).2.1 18 = .ok (.iload_n 1, 1) := by decide +kernel
theorem dd_Md_taken_19 : decode (mm_Md_taken).2.1 19 = .ok (.iaload, 1) := by decide +kernel
theorem dd_Md_taken_20 : decode (mm_Md_taken).2.1 20 = .ok (.goto 4, 3) := by decide +kernel
theorem dd_Md_taken_23 : decode (mm_Md_taken).2.1 23 = .ok (.iconst (-1), 1) := by decide +kernel
theorem dd_Md_taken_24 : decode (mm_Md_taken).2.1 24 = .ok (.ireturn, 1) := by decide +kernel
theorem dd_Md_file_0 : decode (mm_Md_file).2.1 0 = .ok (.iload_n 1, 1) := by decide +kernel
theorem dd_Md_file_1 : decode (mm_Md_file).2.1 1 = .ok (.iconst 0, 1) := by decide +kernel
theorem dd_Md_file_2 : decode (mm_Md_file).2.1 2 = .ok (.aload_n 0, 1) := by decide +kernel
theorem dd_Md_file_3 : decode (mm_Md_file).2.1 3 = .ok (.getfield 127, 3) := by decide +kernel
theorem dd_Md_file_6 : decode (mm_Md_file).2.1 6 = .ok (.iconst 1, 1) := by decide +kernel
theorem dd_Md_file_7 : decode (mm_Md_file).2.1 7 = .ok (.isub, 1) := by decide +kernel
theorem dd_Md_file_8 : decode (mm_Md_file).2.1 8 = .ok (.invokestatic 50, 3) := by decide +kernel
theorem dd_Md_file_11 : decode (mm_Md_file).2.1 11 = .ok (.ifCond .ne 5, 3) := by decide +kernel
theorem dd_Md_file_14 : decode (mm_Md_file).2.1 14 = .ok (.iconst (-1), 1) := by decide +kernel
theorem dd_Md_file_15 : decode (mm_Md_file).2.1 15 = .ok (.ireturn, 1) := by decide +kernel
theorem dd_Md_file_16 : decode (mm_Md_file).2.1 16 = .ok (.iload_n 2, 1) := by decide +kernel
theorem dd_Md_file_17 : decode (mm_Md_file).2.1 17 = .ok (.iconst 0, 1) := by decide +kernel
theorem dd_Md_file_18 : decode (mm_Md_file).2.1 18 = .ok (.iconst 5, 1) := by decide +kernel
theorem dd_Md_file_19 : decode (mm_Md_file).2.1 19 = .ok (.invokestatic 50, 3) := by decide +kernel
theorem dd_Md_file_22 : decode (mm_Md_file).2.1 22 = .ok (.ifCond .eq 10, 3) := by decide +kernel
theorem dd_Md_file_25 : decode (mm_Md_file).2.1 25 = .ok (.aload_n 0, 1) := by decide +kernel
theorem dd_Md_file_26 : decode (mm_Md_file).2.1 26 = .ok (.iload_n 1, 1) := by decide +kernel
theorem dd_Md_file_27 : decode (mm_Md_file).2.1 27 = .ok (.iload_n 2, 1) := by decide +kernel
theorem dd_Md_file_28 : decode (mm_Md_file).2.1 28 = .ok (.invokevirtual 153, 3) := by decide +kernel
theorem dd_Md_file_31 : decode (mm_Md_file).2.1 31 = .ok (.ireturn, 1) := by decide +kernel
theorem dd_Md_file_32 : decode (mm_Md_file).2.1 32 = .ok (.iload_n 2, 1) := by decide +kernel
theorem dd_Md_file_33 : decode (mm_Md_file).2.1 33 = .ok (.bipush 16, 2) := by decide +kernel
theorem dd_Md_file_35 : decode (mm_Md_file).2.1 35 = .ok (.if_icmp .lt 28, 3) := by decide +kernel
theorem dd_Md_file_38 : decode (mm_Md_file).2.1 38 = .ok (.iload_n 2, 1) := by decide +kernel
theorem dd_Md_file_39 : decode (mm_Md_file).2.1 39 = .ok (.bipush 16, 2) := by decide +kernel
theorem dd_Md_file_41 : decode (mm_Md_file).2.1 41 = .ok (.isub, 1) := by decide +kernel
theorem dd_Md_file_42 : decode (mm_Md_file).2.1 42 = .ok (.aload_n 0, 1) := by decide +kernel
theorem dd_Md_file_43 : decode (mm_Md_file).2.1 43 = .ok (.iload_n 1, 1) := by decide +kernel
theorem dd_Md_file_44 : decode (mm_Md_file).2.1 44 = .ok (.iconst 1, 1) := by decide +kernel
theorem dd_Md_file_45 : decode (mm_Md_file).2.1 45 = .ok (.invokevirtual 153, 3) := by decide +kernel
theorem dd_Md_file_48 : decode (mm_Md_file).2.1 48 = .ok (.if_icmp .ge 15, 3) := by decide +kernel
theorem dd_Md_file_51 : decode (mm_Md_file).2.1 51 = .ok (.aload_n 0, 1) := by decide +kernel
theorem dd_Md_file_52 : decode (mm_Md_file).2.1 52 = .ok (.iload_n 1, 1) := by decide +kernel
theorem dd_Md_file_53 : decode (mm_Md_file).2.1 53 = .ok (.iload_n 2, 1) := by decide +kernel
theorem dd_Md_file_54 : decode (mm_Md_file).2.1 54 = .ok (.bipush 10, 2) := by decide +kernel
theorem dd_Md_file_56 : decode (mm_Md_file).2.1 56 = .ok (.isub, 1) := by decide +kernel
theorem dd_Md_file_57 : decode (mm_Md_file).2.1 57 = .ok (.invokevirtual 153, 3) := by decide +kernel
theorem dd_Md_file_60 : decode (mm_Md_file).2.1 60 = .ok (.goto 4, 3) := by decide +kernel
theorem dd_Md_file_63 : decode (mm_Md_file).2.1 63 = .ok (.iconst (-1), 1) := by decide +kernel
theorem dd_Md_file_64 : decode (mm_Md_file).2.1 64 = .ok (.ireturn, 1) := by decide +kernel
theorem dd_Md_count_0 : decode (mm_Md_count).2.1 0 = .ok (.iload_n 1, 1) := by decide +kernel
theorem dd_Md_count_1 : decode (mm_Md_count).2.1 1 = .ok (.tableswitch 69 0 5 #[39, 44, 49, 54, 59, 64], 39) := by decide +kernel
theorem dd_Md_count_40 : decode (mm_Md_count).2.1 40 = .ok (.aload_n 0, 1) := by decide +kernel
theorem dd_Md_count_41 : decode (mm_Md_count).2.1 41 = .ok (.getfield 64, 3) := by decide +kernel
theorem dd_Md_count_44 : decode (mm_Md_count).2.1 44 = .ok (.ireturn, 1) := by decide +kernel
theorem dd_Md_count_45 : decode (mm_Md_count).2.1 45 = .ok (.aload_n 0, 1) := by decide +kernel
theorem dd_Md_count_46 : decode (mm_Md_count).2.1 46 = .ok (.getfield 124, 3) := by decide +kernel
theorem dd_Md_count_49 : decode (mm_Md_count).2.1 49 = .ok (.ireturn, 1) := by decide +kernel
theorem dd_Md_count_50 : decode (mm_Md_count).2.1 50 = .ok (.aload_n 0, 1) := by decide +kernel
theorem dd_Md_count_51 : decode (mm_Md_count).2.1 51 = .ok (.getfield 127, 3) := by decide +kernel
theorem dd_Md_count_54 : decode (mm_Md_count).2.1 54 = .ok (.ireturn, 1) := by decide +kernel
theorem dd_Md_count_55 : decode (mm_Md_count).2.1 55 = .ok (.aload_n 0, 1) := by decide +kernel
theorem dd_Md_count_56 : decode (mm_Md_count).2.1 56 = .ok (.getfield 58, 3) := by decide +kernel
theorem dd_Md_count_59 : decode (mm_Md_count).2.1 59 = .ok (.ireturn, 1) := by decide +kernel
theorem dd_Md_count_60 : decode (mm_Md_count).2.1 60 = .ok (.aload_n 0, 1) := by decide +kernel
theorem dd_Md_count_61 : decode (mm_Md_count).2.1 61 = .ok (.getfield 61, 3) := by decide +kernel
theorem dd_Md_count_64 : decode (mm_Md_count).2.1 64 = .ok (.ireturn, 1) := by decide +kernel
theorem dd_Md_count_65 : decode (mm_Md_count).2.1 65 = .ok (.aload_n 0, 1) := by decide +kernel
theorem dd_Md_count_66 : decode (mm_Md_count).2.1 66 = .ok (.getfield 175, 3) := by decide +kernel
theorem dd_Md_count_69 : decode (mm_Md_count).2.1 69 = .ok (.ireturn, 1) := by decide +kernel
theorem dd_Md_count_70 : decode (mm_Md_count).2.1 70 = .ok (.iconst (-1), 1) := by decide +kernel
theorem dd_Md_count_71 : decode (mm_Md_count).2.1 71 = .ok (.ireturn, 1) := by decide +kernel
theorem dd_Lw_law_0 : decode (mm_Lw_law).2.1 0 = .ok (.new 7, 3) := by decide +kernel
theorem dd_Lw_law_3 : decode (mm_Lw_law).2.1 3 = .ok (.dup, 1) := by decide +kernel
theorem dd_Lw_law_4 : decode (mm_Lw_law).2.1 4 = .ok (.invokespecial 9, 3) := by decide +kernel
theorem dd_Lw_law_7 : decode (mm_Lw_law).2.1 7 = .ok (.astore_n 1, 1) := by decide +kernel
theorem dd_Lw_law_8 : decode (mm_Lw_law).2.1 8 = .ok (.new 10, 3) := by decide +kernel
theorem dd_Lw_law_11 : decode (mm_Lw_law).2.1 11 = .ok (.dup, 1) := by decide +kernel
theorem dd_Lw_law_12 : decode (mm_Lw_law).2.1 12 = .ok (.invokespecial 12, 3) := by decide +kernel
theorem dd_Lw_law_15 : decode (mm_Lw_law).2.1 15 = .ok (.astore_n 2, 1) := by decide +kernel
theorem dd_Lw_law_16 : decode (mm_Lw_law).2.1 16 = .ok (.iconst 0, 1) := by decide +kernel
theorem dd_Lw_law_17 : decode (mm_Lw_law).2.1 17 = .ok (.istore_n 3, 1) := by decide +kernel
theorem dd_Lw_law_18 : decode (mm_Lw_law).2.1 18 = .ok (.iload_n 3, 1) := by decide +kernel
theorem dd_Lw_law_19 : decode (mm_Lw_law).2.1 19 = .ok (.aload_n 0, 1) := by decide +kernel
theorem dd_Lw_law_20 : decode (mm_Lw_law).2.1 20 = .ok (.arraylength, 1) := by decide +kernel
theorem dd_Lw_law_21 : decode (mm_Lw_law).2.1 21 = .ok (.iconst 3, 1) := by decide +kernel
theorem dd_Lw_law_22 : decode (mm_Lw_law).2.1 22 = .ok (.isub, 1) := by decide +kernel
theorem dd_Lw_law_23 : decode (mm_Lw_law).2.1 23 = .ok (.if_icmp .gt 392, 3) := by decide +kernel
theorem dd_Lw_law_26 : decode (mm_Lw_law).2.1 26 = .ok (.aload_n 0, 1) := by decide +kernel
theorem dd_Lw_law_27 : decode (mm_Lw_law).2.1 27 = .ok (.iload_n 3, 1) := by decide +kernel
theorem dd_Lw_law_28 : decode (mm_Lw_law).2.1 28 = .ok (.iaload, 1) := by decide +kernel
theorem dd_Lw_law_29 : decode (mm_Lw_law).2.1 29 = .ok (.bipush 15, 2) := by decide +kernel
theorem dd_Lw_law_31 : decode (mm_Lw_law).2.1 31 = .ok (.iand, 1) := by decide +kernel
theorem dd_Lw_law_32 : decode (mm_Lw_law).2.1 32 = .ok (.tableswitch 377 0 12 #[68, 91, 124, 147, 170, 203, 226, 249, 262, 275, 298, 321, 354], 68) := by decide +kernel
theorem dd_Lw_law_100 : decode (mm_Lw_law).2.1 100 = .ok (.aload_n 1, 1) := by decide +kernel
theorem dd_Lw_law_101 : decode (mm_Lw_law).2.1 101 = .ok (.aload_n 0, 1) := by decide +kernel
theorem dd_Lw_law_102 : decode (mm_Lw_law).2.1 102 = .ok (.iload_n 3, 1) := by decide +kernel
theorem dd_Lw_law_103 : decode (mm_Lw_law).2.1 103 = .ok (.iconst 1, 1) := by decide +kernel
theorem dd_Lw_law_104 : decode (mm_Lw_law).2.1 104 = .ok (.iadd, 1) := by decide +kernel
theorem dd_Lw_law_105 : decode (mm_Lw_law).2.1 105 = .ok (.iaload, 1) := by decide +kernel
theorem dd_Lw_law_106 : decode (mm_Lw_law).2.1 106 = .ok (.invokevirtual 13, 3) := by decide +kernel
theorem dd_Lw_law_109 : decode (mm_Lw_law).2.1 109 = .ok (.aload_n 2, 1) := by decide +kernel
theorem dd_Lw_law_110 : decode (mm_Lw_law).2.1 110 = .ok (.aload_n 0, 1) := by decide +kernel
theorem dd_Lw_law_111 : decode (mm_Lw_law).2.1 111 = .ok (.iload_n 3, 1) := by decide +kernel
theorem dd_Lw_law_112 : decode (mm_Lw_law).2.1 112 = .ok (.iconst 1, 1) := by decide +kernel
theorem dd_Lw_law_113 : decode (mm_Lw_law).2.1 113 = .ok (.iadd, 1) := by decide +kernel
theorem dd_Lw_law_114 : decode (mm_Lw_law).2.1 114 = .ok (.iaload, 1) := by decide +kernel
theorem dd_Lw_law_115 : decode (mm_Lw_law).2.1 115 = .ok (.invokevirtual 17, 3) := by decide +kernel
theorem dd_Lw_law_118 : decode (mm_Lw_law).2.1 118 = .ok (.if_icmp .eq 291, 3) := by decide +kernel
theorem dd_Lw_law_121 : decode (mm_Lw_law).2.1 121 = .ok (.iconst 0, 1) := by decide +kernel
theorem dd_Lw_law_122 : decode (mm_Lw_law).2.1 122 = .ok (.ireturn, 1) := by decide +kernel
theorem dd_Lw_law_123 : decode (mm_Lw_law).2.1 123 = .ok (.aload_n 1, 1) := by decide +kernel
theorem dd_Lw_law_124 : decode (mm_Lw_law).2.1 124 = .ok (.aload_n 0, 1) := by decide +kernel
theorem dd_Lw_law_125 : decode (mm_Lw_law).2.1 125 = .ok (.iload_n 3, 1) := by decide +kernel
theorem dd_Lw_law_126 : decode (mm_Lw_law).2.1 126 = .ok (.iconst 1, 1) := by decide +kernel
theorem dd_Lw_law_127 : decode (mm_Lw_law).2.1 127 = .ok (.iadd, 1) := by decide +kernel
theorem dd_Lw_law_128 : decode (mm_Lw_law).2.1 128 = .ok (.iaload, 1) := by decide +kernel
theorem dd_Lw_law_129 : decode (mm_Lw_law).2.1 129 = .ok (.aload_n 0, 1) := by decide +kernel
theorem dd_Lw_law_130 : decode (mm_Lw_law).2.1 130 = .ok (.iload_n 3, 1) := by decide +kernel
theorem dd_Lw_law_131 : decode (mm_Lw_law).2.1 131 = .ok (.iconst 2, 1) := by decide +kernel
theorem dd_Lw_law_132 : decode (mm_Lw_law).2.1 132 = .ok (.iadd, 1) := by decide +kernel
theorem dd_Lw_law_133 : decode (mm_Lw_law).2.1 133 = .ok (.iaload, 1) := by decide +kernel
theorem dd_Lw_law_134 : decode (mm_Lw_law).2.1 134 = .ok (.invokevirtual 18, 3) := by decide +kernel
theorem dd_Lw_law_137 : decode (mm_Lw_law).2.1 137 = .ok (.aload_n 2, 1) := by decide +kernel
theorem dd_Lw_law_138 : decode (mm_Lw_law).2.1 138 = .ok (.aload_n 0, 1) := by decide +kernel
theorem dd_Lw_law_139 : decode (mm_Lw_law).2.1 139 = .ok (.iload_n 3, 1) := by decide +kernel
theorem dd_Lw_law_140 : decode (mm_Lw_law).2.1 140 = .ok (.iconst 1, 1) := by decide +kernel
theorem dd_Lw_law_141 : decode (mm_Lw_law).2.1 141 = .ok (.iadd, 1) := by decide +kernel
theorem dd_Lw_law_142 : decode (mm_Lw_law).2.1 142 = .ok (.iaload, 1) := by decide +kernel
theorem dd_Lw_law_143 : decode (mm_Lw_law).2.1 143 = .ok (.aload_n 0, 1) := by decide +kernel
theorem dd_Lw_law_144 : decode (mm_Lw_law).2.1 144 = .ok (.iload_n 3, 1) := by decide +kernel
theorem dd_Lw_law_145 : decode (mm_Lw_law).2.1 145 = .ok (.iconst 2, 1) := by decide +kernel
theorem dd_Lw_law_146 : decode (mm_Lw_law).2.1 146 = .ok (.iadd, 1) := by decide +kernel
theorem dd_Lw_law_147 : decode (mm_Lw_law).2.1 147 = .ok (.iaload, 1) := by decide +kernel
theorem dd_Lw_law_148 : decode (mm_Lw_law).2.1 148 = .ok (.invokevirtual 22, 3) := by decide +kernel
theorem dd_Lw_law_151 : decode (mm_Lw_law).2.1 151 = .ok (.if_icmp .eq 258, 3) := by decide +kernel
theorem dd_Lw_law_154 : decode (mm_Lw_law).2.1 154 = .ok (.iconst 0, 1) := by decide +kernel
theorem dd_Lw_law_155 : decode (mm_Lw_law).2.1 155 = .ok (.ireturn, 1) := by decide +kernel
theorem dd_Lw_law_156 : decode (mm_Lw_law).2.1 156 = .ok (.aload_n 1, 1) := by decide +kernel
theorem dd_Lw_law_157 : decode (mm_Lw_law).2.1 157 = .ok (.aload_n 0, 1) := by decide +kernel
end
section
theorem dd_Lw_law_158 : decode (mm_Lw_law).2.1 158 = .ok (.iload_n 3, 1) := by decide +kernel
theorem dd_Lw_law_159 : decode (mm_Lw_law).2.1 159 = .ok (.iconst 1, 1) := by decide +kernel
theorem dd_Lw_law_160 : decode (mm_Lw_law).2.1 160 = .ok (.iadd, 1) := by decide +kernel
theorem dd_Lw_law_161 : decode (mm_Lw_law).2.1 161 = .ok (.iaload, 1) := by decide +kernel
theorem dd_Lw_law_162 : decode (mm_Lw_law).2.1 162 = .ok (.invokevirtual 23, 3) := by decide +kernel
theorem dd_Lw_law_165 : decode (mm_Lw_law).2.1 165 = .ok (.aload_n 2, 1) := by decide +kernel
theorem dd_Lw_law_166 : decode (mm_Lw_law).2.1 166 = .ok (.aload_n 0, 1) := by decide +kernel
theorem dd_Lw_law_167 : decode (mm_Lw_law).2.1 167 = .ok (.iload_n 3, 1) := by decide +kernel
theorem dd_Lw_law_168 : decode (mm_Lw_law).2.1 168 = .ok (.iconst 1, 1) := by decide +kernel
theorem dd_Lw_law_169 : decode (mm_Lw_law).2.1 169 = .ok (.iadd, 1) := by decide +kernel
theorem dd_Lw_law_170 : decode (mm_Lw_law).2.1 170 = .ok (.iaload, 1) := by decide +kernel
theorem dd_Lw_law_171 : decode (mm_Lw_law).2.1 171 = .ok (.invokevirtual 26, 3) := by decide +kernel
theorem dd_Lw_law_174 : decode (mm_Lw_law).2.1 174 = .ok (.if_icmp .eq 235, 3) := by decide +kernel
theorem dd_Lw_law_177 : decode (mm_Lw_law).2.1 177 = .ok (.iconst 0, 1) := by decide +kernel
theorem dd_Lw_law_178 : decode (mm_Lw_law).2.1 178 = .ok (.ireturn, 1) := by decide +kernel
theorem dd_Lw_law_179 : decode (mm_Lw_law).2.1 179 = .ok (.aload_n 1, 1) := by decide +kernel
theorem dd_Lw_law_180 : decode (mm_Lw_law).2.1 180 = .ok (.aload_n 0, 1) := by decide +kernel
theorem dd_Lw_law_181 : decode (mm_Lw_law).2.1 181 = .ok (.iload_n 3, 1) := by decide +kernel
theorem dd_Lw_law_182 : decode (mm_Lw_law).2.1 182 = .ok (.iconst 1, 1) := by decide +kernel
theorem dd_Lw_law_183 : decode (mm_Lw_law).2.1 183 = .ok (.iadd, 1) := by decide +kernel
theorem dd_Lw_law_184 : decode (mm_Lw_law).2.1 184 = .ok (.iaload, 1) := by decide +kernel
theorem dd_Lw_law_185 : decode (mm_Lw_law).2.1 185 = .ok (.invokevirtual 27, 3) := by decide +kernel
theorem dd_Lw_law_188 : decode (mm_Lw_law).2.1 188 = .ok (.aload_n 2, 1) := by decide +kernel
theorem dd_Lw_law_189 : decode (mm_Lw_law).2.1 189 = .ok (.aload_n 0, 1) := by decide +kernel
theorem dd_Lw_law_190 : decode (mm_Lw_law).2.1 190 = .ok (.iload_n 3, 1) := by decide +kernel
theorem dd_Lw_law_191 : decode (mm_Lw_law).2.1 191 = .ok (.iconst 1, 1) := by decide +kernel
theorem dd_Lw_law_192 : decode (mm_Lw_law).2.1 192 = .ok (.iadd, 1) := by decide +kernel
theorem dd_Lw_law_193 : decode (mm_Lw_law).2.1 193 = .ok (.iaload, 1) := by decide +kernel
theorem dd_Lw_law_194 : decode (mm_Lw_law).2.1 194 = .ok (.invokevirtual 30, 3) := by decide +kernel
theorem dd_Lw_law_197 : decode (mm_Lw_law).2.1 197 = .ok (.if_icmp .eq 212, 3) := by decide +kernel
theorem dd_Lw_law_200 : decode (mm_Lw_law).2.1 200 = .ok (.iconst 0, 1) := by decide +kernel
theorem dd_Lw_law_201 : decode (mm_Lw_law).2.1 201 = .ok (.ireturn, 1) := by decide +kernel
theorem dd_Lw_law_202 : decode (mm_Lw_law).2.1 202 = .ok (.aload_n 1, 1) := by decide +kernel
theorem dd_Lw_law_203 : decode (mm_Lw_law).2.1 203 = .ok (.aload_n 0, 1) := by decide +kernel
theorem dd_Lw_law_204 : decode (mm_Lw_law).2.1 204 = .ok (.iload_n 3, 1) := by decide +kernel
theorem dd_Lw_law_205 : decode (mm_Lw_law).2.1 205 = .ok (.iconst 1, 1) := by decide +kernel
theorem dd_Lw_law_206 : decode (mm_Lw_law).2.1 206 = .ok (.iadd, 1) := by decide +kernel
theorem dd_Lw_law_207 : decode (mm_Lw_law).2.1 207 = .ok (.iaload, 1) := by decide +kernel
theorem dd_Lw_law_208 : decode (mm_Lw_law).2.1 208 = .ok (.aload_n 0, 1) := by decide +kernel
theorem dd_Lw_law_209 : decode (mm_Lw_law).2.1 209 = .ok (.iload_n 3, 1) := by decide +kernel
theorem dd_Lw_law_210 : decode (mm_Lw_law).2.1 210 = .ok (.iconst 2, 1) := by decide +kernel
theorem dd_Lw_law_211 : decode (mm_Lw_law).2.1 211 = .ok (.iadd, 1) := by decide +kernel
theorem dd_Lw_law_212 : decode (mm_Lw_law).2.1 212 = .ok (.iaload, 1) := by decide +kernel
theorem dd_Lw_law_213 : decode (mm_Lw_law).2.1 213 = .ok (.invokevirtual 31, 3) := by decide +kernel
theorem dd_Lw_law_216 : decode (mm_Lw_law).2.1 216 = .ok (.aload_n 2, 1) := by decide +kernel
theorem dd_Lw_law_217 : decode (mm_Lw_law).2.1 217 = .ok (.aload_n 0, 1) := by decide +kernel
theorem dd_Lw_law_218 : decode (mm_Lw_law).2.1 218 = .ok (.iload_n 3, 1) := by decide +kernel
theorem dd_Lw_law_219 : decode (mm_Lw_law).2.1 219 = .ok (.iconst 1, 1) := by decide +kernel
theorem dd_Lw_law_220 : decode (mm_Lw_law).2.1 220 = .ok (.iadd, 1) := by decide +kernel
theorem dd_Lw_law_221 : decode (mm_Lw_law).2.1 221 = .ok (.iaload, 1) := by decide +kernel
theorem dd_Lw_law_222 : decode (mm_Lw_law).2.1 222 = .ok (.aload_n 0, 1) := by decide +kernel
theorem dd_Lw_law_223 : decode (mm_Lw_law).2.1 223 = .ok (.iload_n 3, 1) := by decide +kernel
theorem dd_Lw_law_224 : decode (mm_Lw_law).2.1 224 = .ok (.iconst 2, 1) := by decide +kernel
theorem dd_Lw_law_225 : decode (mm_Lw_law).2.1 225 = .ok (.iadd, 1) := by decide +kernel
theorem dd_Lw_law_226 : decode (mm_Lw_law).2.1 226 = .ok (.iaload, 1) := by decide +kernel
theorem dd_Lw_law_227 : decode (mm_Lw_law).2.1 227 = .ok (.invokevirtual 34, 3) := by decide +kernel
theorem dd_Lw_law_230 : decode (mm_Lw_law).2.1 230 = .ok (.if_icmp .eq 179, 3) := by decide +kernel
theorem dd_Lw_law_233 : decode (mm_Lw_law).2.1 233 = .ok (.iconst 0, 1) := by decide +kernel
theorem dd_Lw_law_234 : decode (mm_Lw_law).2.1 234 = .ok (.ireturn, 1) := by decide +kernel
theorem dd_Lw_law_235 : decode (mm_Lw_law).2.1 235 = .ok (.aload_n 1, 1) := by decide +kernel
theorem dd_Lw_law_236 : decode (mm_Lw_law).2.1 236 = .ok (.aload_n 0, 1) := by decide +kernel
theorem dd_Lw_law_237 : decode (mm_Lw_law).2.1 237 = .ok (.iload_n 3, 1) := by decide +kernel
theorem dd_Lw_law_238 : decode (mm_Lw_law).2.1 238 = .ok (.iconst 1, 1) := by decide +kernel
theorem dd_Lw_law_239 : decode (mm_Lw_law).2.1 239 = .ok (.iadd, 1) := by decide +kernel
theorem dd_Lw_law_240 : decode (mm_Lw_law).2.1 240 = .ok (.iaload, 1) := by decide +kernel
theorem dd_Lw_law_241 : decode (mm_Lw_law).2.1 241 = .ok (.invokevirtual 35, 3) := by decide +kernel
theorem dd_Lw_law_244 : decode (mm_Lw_law).2.1 244 = .ok (.aload_n 2, 1) := by decide +kernel
theorem dd_Lw_law_245 : decode (mm_Lw_law).2.1 245 = .ok (.aload_n 0, 1) := by decide +kernel
theorem dd_Lw_law_246 : decode (mm_Lw_law).2.1 246 = .ok (.iload_n 3, 1) := by decide +kernel
theorem dd_Lw_law_247 : decode (mm_Lw_law).2.1 247 = .ok (.iconst 1, 1) := by decide +kernel
theorem dd_Lw_law_248 : decode (mm_Lw_law).2.1 248 = .ok (.iadd, 1) := by decide +kernel
theorem dd_Lw_law_249 : decode (mm_Lw_law).2.1 249 = .ok (.iaload, 1) := by decide +kernel
theorem dd_Lw_law_250 : decode (mm_Lw_law).2.1 250 = .ok (.invokevirtual 38, 3) := by decide +kernel
theorem dd_Lw_law_253 : decode (mm_Lw_law).2.1 253 = .ok (.if_icmp .eq 156, 3) := by decide +kernel
theorem dd_Lw_law_256 : decode (mm_Lw_law).2.1 256 = .ok (.iconst 0, 1) := by decide +kernel
theorem dd_Lw_law_257 : decode (mm_Lw_law).2.1 257 = .ok (.ireturn, 1) := by decide +kernel
theorem dd_Lw_law_258 : decode (mm_Lw_law).2.1 258 = .ok (.aload_n 1, 1) := by decide +kernel
theorem dd_Lw_law_259 : decode (mm_Lw_law).2.1 259 = .ok (.aload_n 0, 1) := by decide +kernel
theorem dd_Lw_law_260 : decode (mm_Lw_law).2.1 260 = .ok (.iload_n 3, 1) := by decide +kernel
theorem dd_Lw_law_261 : decode (mm_Lw_law).2.1 261 = .ok (.iconst 1, 1) := by decide +kernel
theorem dd_Lw_law_262 : decode (mm_Lw_law).2.1 262 = .ok (.iadd, 1) := by decide +kernel
theorem dd_Lw_law_263 : decode (mm_Lw_law).2.1 263 = .ok (.iaload, 1) := by decide +kernel
theorem dd_Lw_law_264 : decode (mm_Lw_law).2.1 264 = .ok (.invokevirtual 39, 3) := by decide +kernel
theorem dd_Lw_law_267 : decode (mm_Lw_law).2.1 267 = .ok (.aload_n 2, 1) := by decide +kernel
theorem dd_Lw_law_268 : decode (mm_Lw_law).2.1 268 = .ok (.aload_n 0, 1) := by decide +kernel
theorem dd_Lw_law_269 : decode (mm_Lw_law).2.1 269 = .ok (.iload_n 3, 1) := by decide +kernel
theorem dd_Lw_law_270 : decode (mm_Lw_law).2.1 270 = .ok (.iconst 1, 1) := by decide +kernel
theorem dd_Lw_law_271 : decode (mm_Lw_law).2.1 271 = .ok (.iadd, 1) := by decide +kernel
theorem dd_Lw_law_272 : decode (mm_Lw_law).2.1 272 = .ok (.iaload, 1) := by decide +kernel
theorem dd_Lw_law_273 : decode (mm_Lw_law).2.1 273 = .ok (.invokevirtual 42, 3) := by decide +kernel
theorem dd_Lw_law_276 : decode (mm_Lw_law).2.1 276 = .ok (.if_icmp .eq 133, 3) := by decide +kernel
theorem dd_Lw_law_279 : decode (mm_Lw_law).2.1 279 = .ok (.iconst 0, 1) := by decide +kernel
theorem dd_Lw_law_280 : decode (mm_Lw_law).2.1 280 = .ok (.ireturn, 1) := by decide +kernel
theorem dd_Lw_law_281 : decode (mm_Lw_law).2.1 281 = .ok (.aload_n 1, 1) := by decide +kernel
theorem dd_Lw_law_282 : decode (mm_Lw_law).2.1 282 = .ok (.invokevirtual 43, 3) := by decide +kernel
theorem dd_Lw_law_285 : decode (mm_Lw_law).2.1 285 = .ok (.aload_n 2, 1) := by decide +kernel
theorem dd_Lw_law_286 : decode (mm_Lw_law).2.1 286 = .ok (.invokevirtual 47, 3) := by decide +kernel
theorem dd_Lw_law_289 : decode (mm_Lw_law).2.1 289 = .ok (.if_icmp .eq 120, 3) := by decide +kernel
theorem dd_Lw_law_292 : decode (mm_Lw_law).2.1 292 = .ok (.iconst 0, 1) := by decide +kernel
theorem dd_Lw_law_293 : decode (mm_Lw_law).2.1 293 = .ok (.ireturn, 1) := by decide +kernel
theorem dd_Lw_law_294 : decode (mm_Lw_law).2.1 294 = .ok (.aload_n 1, 1) := by decide +kernel
theorem dd_Lw_law_295 : decode (mm_Lw_law).2.1 295 = .ok (.invokevirtual 48, 3) := by decide +kernel
theorem dd_Lw_law_298 : decode (mm_Lw_law).2.1 298 = .ok (.aload_n 2, 1) := by decide +kernel
theorem dd_Lw_law_299 : decode (mm_Lw_law).2.1 299 = .ok (.invokevirtual 51, 3) := by decide +kernel
theorem dd_Lw_law_302 : decode (mm_Lw_law).2.1 302 = .ok (.if_icmp .eq 107, 3) := by decide +kernel
theorem dd_Lw_law_305 : decode (mm_Lw_law).2.1 305 = .ok (.iconst 0, 1) := by decide +kernel
theorem dd_Lw_law_306 : decode (mm_Lw_law).2.1 306 = .ok (.ireturn, 1) := by decide +kernel
theorem dd_Lw_law_307 : decode (mm_Lw_law).2.1 307 = .ok (.aload_n 1, 1) := by decide +kernel
theorem dd_Lw_law_308 : decode (mm_Lw_law).2.1 308 = .ok (.aload_n 0, 1) := by decide +kernel
theorem dd_Lw_law_309 : decode (mm_Lw_law).2.1 309 = .ok (.iload_n 3, 1) := by decide +kernel
theorem dd_Lw_law_310 : decode (mm_Lw_law).2.1 310 = .ok (.iconst 1, 1) := by decide +kernel
theorem dd_Lw_law_311 : decode (mm_Lw_law).2.1 311 = .ok (.iadd, 1) := by decide +kernel
theorem dd_Lw_law_312 : decode (mm_Lw_law).2.1 312 = .ok (.iaload, 1) := by decide +kernel
theorem dd_Lw_law_313 : decode (mm_Lw_law).2.1 313 = .ok (.invokevirtual 52, 3) := by decide +kernel
theorem dd_Lw_law_316 : decode (mm_Lw_law).2.1 316 = .ok (.aload_n 2, 1) := by decide +kernel
theorem dd_Lw_law_317 : decode (mm_Lw_law).2.1 317 = .ok (.aload_n 0, 1) := by decide +kernel
theorem dd_Lw_law_318 : decode (mm_Lw_law).2.1 318 = .ok (.iload_n 3, 1) := by decide +kernel
theorem dd_Lw_law_319 : decode (mm_Lw_law).2.1 319 = .ok (.iconst 1, 1) := by decide +kernel
theorem dd_Lw_law_320 : decode (mm_Lw_law).2.1 320 = .ok (.iadd, 1) := by decide +kernel
theorem dd_Lw_law_321 : decode (mm_Lw_law).2.1 321 = .ok (.iaload, 1) := by decide +kernel
theorem dd_Lw_law_322 : decode (mm_Lw_law).2.1 322 = .ok (.invokevirtual 55, 3) := by decide +kernel
theorem dd_Lw_law_325 : decode (mm_Lw_law).2.1 325 = .ok (.if_icmp .eq 84, 3) := by decide +kernel
theorem dd_Lw_law_328 : decode (mm_Lw_law).2.1 328 = .ok (.iconst 0, 1) := by decide +kernel
theorem dd_Lw_law_329 : decode (mm_Lw_law).2.1 329 = .ok (.ireturn, 1) := by decide +kernel
theorem dd_Lw_law_330 : decode (mm_Lw_law).2.1 330 = .ok (.aload_n 1, 1) := by decide +kernel
theorem dd_Lw_law_331 : decode (mm_Lw_law).2.1 331 = .ok (.aload_n 0, 1) := by decide +kernel
theorem dd_Lw_law_332 : decode (mm_Lw_law).2.1 332 = .ok (.iload_n 3, 1) := by decide +kernel
theorem dd_Lw_law_333 : decode (mm_Lw_law).2.1 333 = .ok (.iconst 1, 1) := by decide +kernel
theorem dd_Lw_law_334 : decode (mm_Lw_law).2.1 334 = .ok (.iadd, 1) := by decide +kernel
theorem dd_Lw_law_335 : decode (mm_Lw_law).2.1 335 = .ok (.iaload, 1) := by decide +kernel
theorem dd_Lw_law_336 : decode (mm_Lw_law).2.1 336 = .ok (.invokevirtual 56, 3) := by decide +kernel
theorem dd_Lw_law_339 : decode (mm_Lw_law).2.1 339 = .ok (.aload_n 2, 1) := by decide +kernel
theorem dd_Lw_law_340 : decode (mm_Lw_law).2.1 340 = .ok (.aload_n 0, 1) := by decide +kernel
theorem dd_Lw_law_341 : decode (mm_Lw_law).2.1 341 = .ok (.iload_n 3, 1) := by decide +kernel
theorem dd_Lw_law_342 : decode (mm_Lw_law).2.1 342 = .ok (.iconst 1, 1) := by decide +kernel
theorem dd_Lw_law_343 : decode (mm_Lw_law).2.1 343 = .ok (.iadd, 1) := by decide +kernel
theorem dd_Lw_law_344 : decode (mm_Lw_law).2.1 344 = .ok (.iaload, 1) := by decide +kernel
theorem dd_Lw_law_345 : decode (mm_Lw_law).2.1 345 = .ok (.invokevirtual 59, 3) := by decide +kernel
theorem dd_Lw_law_348 : decode (mm_Lw_law).2.1 348 = .ok (.if_icmp .eq 61, 3) := by decide +kernel
theorem dd_Lw_law_351 : decode (mm_Lw_law).2.1 351 = .ok (.iconst 0, 1) := by decide +kernel
theorem dd_Lw_law_352 : decode (mm_Lw_law).2.1 352 = .ok (.ireturn, 1) := by decide +kernel
theorem dd_Lw_law_353 : decode (mm_Lw_law).2.1 353 = .ok (.aload_n 1, 1) := by decide +kernel
theorem dd_Lw_law_354 : decode (mm_Lw_law).2.1 354 = .ok (.aload_n 0, 1) := by decide +kernel
theorem dd_Lw_law_355 : decode (mm_Lw_law).2.1 355 = .ok (.iload_n 3, 1) := by decide +kernel
theorem dd_Lw_law_356 : decode (mm_Lw_law).2.1 356 = .ok (.iconst 1, 1) := by decide +kernel
theorem dd_Lw_law_357 : decode (mm_Lw_law).2.1 357 = .ok (.iadd, 1) := by decide +kernel
theorem dd_Lw_law_358 : decode (mm_Lw_law).2.1 358 = .ok (.iaload, 1) := by decide +kernel
theorem dd_Lw_law_359 : decode (mm_Lw_law).2.1 359 = .ok (.aload_n 0, 1) := by decide +kernel
theorem dd_Lw_law_360 : decode (mm_Lw_law).2.1 360 = .ok (.iload_n 3, 1) := by decide +kernel
theorem dd_Lw_law_361 : decode (mm_Lw_law).2.1 361 = .ok (.iconst 2, 1) := by decide +kernel
theorem dd_Lw_law_362 : decode (mm_Lw_law).2.1 362 = .ok (.iadd, 1) := by decide +kernel
theorem dd_Lw_law_363 : decode (mm_Lw_law).2.1 363 = .ok (.iaload, 1) := by decide +kernel
theorem dd_Lw_law_364 : decode (mm_Lw_law).2.1 364 = .ok (.invokevirtual 60, 3) := by decide +kernel
theorem dd_Lw_law_367 : decode (mm_Lw_law).2.1 367 = .ok (.aload_n 2, 1) := by decide +kernel
theorem dd_Lw_law_368 : decode (mm_Lw_law).2.1 368 = .ok (.aload_n 0, 1) := by decide +kernel
theorem dd_Lw_law_369 : decode (mm_Lw_law).2.1 369 = .ok (.iload_n 3, 1) := by decide +kernel
theorem dd_Lw_law_370 : decode (mm_Lw_law).2.1 370 = .ok (.iconst 1, 1) := by decide +kernel
theorem dd_Lw_law_371 : decode (mm_Lw_law).2.1 371 = .ok (.iadd, 1) := by decide +kernel
theorem dd_Lw_law_372 : decode (mm_Lw_law).2.1 372 = .ok (.iaload, 1) := by decide +kernel
theorem dd_Lw_law_373 : decode (mm_Lw_law).2.1 373 = .ok (.aload_n 0, 1) := by decide +kernel
theorem dd_Lw_law_374 : decode (mm_Lw_law).2.1 374 = .ok (.iload_n 3, 1) := by decide +kernel
theorem dd_Lw_law_375 : decode (mm_Lw_law).2.1 375 = .ok (.iconst 2, 1) := by decide +kernel
theorem dd_Lw_law_376 : decode (mm_Lw_law).2.1 376 = .ok (.iadd, 1) := by decide +kernel
theorem dd_Lw_law_377 : decode (mm_Lw_law).2.1 377 = .ok (.iaload, 1) := by decide +kernel
theorem dd_Lw_law_378 : decode (mm_Lw_law).2.1 378 = .ok (.invokevirtual 63, 3) := by decide +kernel
theorem dd_Lw_law_381 : decode (mm_Lw_law).2.1 381 = .ok (.if_icmp .eq 28, 3) := by decide +kernel
theorem dd_Lw_law_384 : decode (mm_Lw_law).2.1 384 = .ok (.iconst 0, 1) := by decide +kernel
theorem dd_Lw_law_385 : decode (mm_Lw_law).2.1 385 = .ok (.ireturn, 1) := by decide +kernel
theorem dd_Lw_law_386 : decode (mm_Lw_law).2.1 386 = .ok (.aload_n 1, 1) := by decide +kernel
theorem dd_Lw_law_387 : decode (mm_Lw_law).2.1 387 = .ok (.aload_n 0, 1) := by decide +kernel
theorem dd_Lw_law_388 : decode (mm_Lw_law).2.1 388 = .ok (.iload_n 3, 1) := by decide +kernel
theorem dd_Lw_law_389 : decode (mm_Lw_law).2.1 389 = .ok (.iconst 1, 1) := by decide +kernel
theorem dd_Lw_law_390 : decode (mm_Lw_law).2.1 390 = .ok (.iadd, 1) := by decide +kernel
theorem dd_Lw_law_391 : decode (mm_Lw_law).2.1 391 = .ok (.iaload, 1) := by decide +kernel
theorem dd_Lw_law_392 : decode (mm_Lw_law).2.1 392 = .ok (.invokevirtual 64, 3) := by decide +kernel
theorem dd_Lw_law_395 : decode (mm_Lw_law).2.1 395 = .ok (.aload_n 2, 1) := by decide +kernel
theorem dd_Lw_law_396 : decode (mm_Lw_law).2.1 396 = .ok (.aload_n 0, 1) := by decide +kernel
theorem dd_Lw_law_397 : decode (mm_Lw_law).2.1 397 = .ok (.iload_n 3, 1) := by decide +kernel
theorem dd_Lw_law_398 : decode (mm_Lw_law).2.1 398 = .ok (.iconst 1, 1) := by decide +kernel
theorem dd_Lw_law_399 : decode (mm_Lw_law).2.1 399 = .ok (.iadd, 1) := by decide +kernel
theorem dd_Lw_law_400 : decode (mm_Lw_law).2.1 400 = .ok (.iaload, 1) := by decide +kernel
theorem dd_Lw_law_401 : decode (mm_Lw_law).2.1 401 = .ok (.invokevirtual 67, 3) := by decide +kernel
theorem dd_Lw_law_404 : decode (mm_Lw_law).2.1 404 = .ok (.if_icmp .eq 5, 3) := by decide +kernel
theorem dd_Lw_law_407 : decode (mm_Lw_law).2.1 407 = .ok (.iconst 0, 1) := by decide +kernel
theorem dd_Lw_law_408 : decode (mm_Lw_law).2.1 408 = .ok (.ireturn, 1) := by decide +kernel
theorem dd_Lw_law_409 : decode (mm_Lw_law).2.1 409 = .ok (.iinc 3 3, 3) := by decide +kernel
theorem dd_Lw_law_412 : decode (mm_Lw_law).2.1 412 = .ok (.goto (-394), 3) := by decide +kernel
theorem dd_Lw_law_415 : decode (mm_Lw_law).2.1 415 = .ok (.iconst 1, 1) := by decide +kernel
theorem dd_Lw_law_416 : decode (mm_Lw_law).2.1 416 = .ok (.ireturn, 1) := by decide +kernel
end
section
theorem kc_AB : ab_cl 0 R_AB T_AB 6 t_AB := ⟨rfl, by decide +kernel, by decide +kernel, by decide +kernel⟩
theorem kc_Row : ab_cl 1 R_Row T_Row 2 t_Row := ⟨rfl, by decide +kernel, by decide +kernel, by decide +kernel⟩
theorem kc_Pk : ab_cl 2 R_Pk T_Pk 3 t_Pk := ⟨rfl, by decide +kernel, by decide +kernel, by decide +kernel⟩
theorem kc_WF : ab_cl 3 R_WF T_WF 6 t_WF := ⟨rfl, by decide +kernel, by decide +kernel, by decide +kernel⟩
theorem kc_Ar : ab_cl 4 R_Ar T_Ar 6 t_Ar := ⟨rfl, by decide +kernel, by decide +kernel, by decide +kernel⟩
theorem kc_OF : ab_cl 5 R_OF T_OF 6 t_OF := ⟨rfl, by decide +kernel, by decide +kernel, by decide +kernel⟩
theorem kc_Md : ab_cl 6 R_Md T_Md 21 t_Md := ⟨rfl, by decide +kernel, by decide +kernel, by decide +kernel⟩
theorem ww_26 : Cond.fieldLink "ArchiveBench$Row" 9 "ArchiveBench$Row" "cells" "[I" ∈ ab_T := ab_T_in (List.mem_append_right _ (List.mem_of_getElem? (i := 26) (by decide +kernel))) (by decide +kernel)
theorem kf_Row_9 : ab_fl "ArchiveBench$Row" 9 1 0 (.array .int) true := ⟨R_Row, T_Row, 2, t_Row, kc_Row, by decide, ww_26, rfl, rfl, rfl⟩
theorem ww_27 : Cond.fieldLink "ArchiveBench$Row" 15 "ArchiveBench$Row" "length" "I" ∈ ab_T := ab_T_in (List.mem_append_right _ (List.mem_of_getElem? (i := 27) (by decide +kernel))) (by decide +kernel)
theorem kf_Row_15 : ab_fl "ArchiveBench$Row" 15 1 1 .int false := ⟨R_Row, T_Row, 2, t_Row, kc_Row, by decide, ww_27, rfl, rfl, rfl⟩
theorem ww_28 : Cond.fieldLink "ArchiveBench" 48 "ArchiveBench$Row" "length" "I" ∈ ab_T := ab_T_in (List.mem_append_right _ (List.mem_of_getElem? (i := 28) (by decide +kernel))) (by decide +kernel)
theorem kf_AB_48 : ab_fl "ArchiveBench" 48 1 1 .int false := ⟨R_Row, T_Row, 2, t_Row, kc_Row, by decide, ww_28, rfl, rfl, rfl⟩
theorem ww_29 : Cond.fieldLink "ArchiveBench$WaitingFile" 37 "ArchiveBench$Row" "length" "I" ∈ ab_T := ab_T_in (List.mem_append_right _ (List.mem_of_getElem? (i := 29) (by decide +kernel))) (by decide +kernel)
theorem kf_WF_37 : ab_fl "ArchiveBench$WaitingFile" 37 1 1 .int false := ⟨R_Row, T_Row, 2, t_Row, kc_Row, by decide, ww_29, rfl, rfl, rfl⟩
theorem ww_30 : Cond.fieldLink "ArchiveBench$OpenFile" 24 "ArchiveBench$Row" "length" "I" ∈ ab_T := ab_T_in (List.mem_append_right _ (List.mem_of_getElem? (i := 30) (by decide +kernel))) (by decide +kernel)
theorem kf_OF_24 : ab_fl "ArchiveBench$OpenFile" 24 1 1 .int false := ⟨R_Row, T_Row, 2, t_Row, kc_Row, by decide, ww_30, rfl, rfl, rfl⟩
theorem ww_31 : Cond.fieldLink "ArchiveBench$Unsqueezing" 40 "ArchiveBench$Row" "length" "I" ∈ ab_T := ab_T_in (List.mem_append_right _ (List.mem_of_getElem? (i := 31) (by decide +kernel))) (by decide +kernel)
theorem kf_Un_40 : ab_fl "ArchiveBench$Unsqueezing" 40 1 1 .int false := ⟨R_Row, T_Row, 2, t_Row, kc_Row, by decide, ww_31, rfl, rfl, rfl⟩
theorem ww_32 : Cond.fieldLink "ArchiveBench$Squeezing" 28 "ArchiveBench$Row" "length" "I" ∈ ab_T := ab_T_in (List.mem_append_right _ (List.mem_of_getElem? (i := 32) (by decide +kernel))) (by decide +kernel)
theorem kf_Sq_28 : ab_fl "ArchiveBench$Squeezing" 28 1 1 .int false := ⟨R_Row, T_Row, 2, t_Row, kc_Row, by decide, ww_32, rfl, rfl, rfl⟩
theorem ww_33 : Cond.fieldLink "ArchiveBench$Packer" 42 "ArchiveBench$Row" "length" "I" ∈ ab_T := ab_T_in (List.mem_append_right _ (List.mem_of_getElem? (i := 33) (by decide +kernel))) (by decide +kernel)
theorem kf_Pk_42 : ab_fl "ArchiveBench$Packer" 42 1 1 .int false := ⟨R_Row, T_Row, 2, t_Row, kc_Row, by decide, ww_33, rfl, rfl, rfl⟩
theorem ww_34 : Cond.fieldLink "ArchiveBench$Archive" 47 "ArchiveBench$Row" "length" "I" ∈ ab_T := ab_T_in (List.mem_append_right _ (List.mem_of_getElem? (i := 34) (by decide +kernel))) (by decide +kernel)
theorem kf_Ar_47 : ab_fl "ArchiveBench$Archive" 47 1 1 .int false := ⟨R_Row, T_Row, 2, t_Row, kc_Row, by decide, ww_34, rfl, rfl, rfl⟩
theorem ww_56 : Cond.fieldLink "ArchiveBench$WaitingFile" 14 "ArchiveBench$WaitingFile" "ownName" "LArchiveBench$Row;" ∈ ab_T := ab_T_in (List.mem_append_right _ (List.mem_of_getElem? (i := 56) (by decide +kernel))) (by decide +kernel)
theorem kf_WF_14 : ab_fl "ArchiveBench$WaitingFile" 14 3 0 (.object "ArchiveBench$Row") true := ⟨R_WF, T_WF, 6, t_WF, kc_WF, by decide, ww_56, rfl, rfl, rfl⟩
theorem ww_57 : Cond.fieldLink "ArchiveBench$WaitingFile" 20 "ArchiveBench$WaitingFile" "squeezed" "LArchiveBench$Row;" ∈ ab_T := ab_T_in (List.mem_append_right _ (List.mem_of_getElem? (i := 57) (by decide +kernel))) (by decide +kernel)
theorem kf_WF_20 : ab_fl "ArchiveBench$WaitingFile" 20 3 1 (.object "ArchiveBench$Row") true := ⟨R_WF, T_WF, 6, t_WF, kc_WF, by decide, ww_57, rfl, rfl, rfl⟩
theorem ww_58 : Cond.fieldLink "ArchiveBench$Packer" 56 "ArchiveBench$WaitingFile" "squeezed" "LArchiveBench$Row;" ∈ ab_T := ab_T_in (List.mem_append_right _ (List.mem_of_getElem? (i := 58) (by decide +kernel))) (by decide +kernel)
theorem kf_Pk_56 : ab_fl "ArchiveBench$Packer" 56 3 1 (.object "ArchiveBench$Row") true := ⟨R_WF, T_WF, 6, t_WF, kc_WF, by decide, ww_58, rfl, rfl, rfl⟩
theorem ww_59 : Cond.fieldLink "ArchiveBench$WaitingFile" 33 "ArchiveBench$WaitingFile" "method" "I" ∈ ab_T := ab_T_in (List.mem_append_right _ (List.mem_of_getElem? (i := 59) (by decide +kernel))) (by decide +kernel)
theorem kf_WF_33 : ab_fl "ArchiveBench$WaitingFile" 33 3 2 .int false := ⟨R_WF, T_WF, 6, t_WF, kc_WF, by decide, ww_59, rfl, rfl, rfl⟩
theorem ww_60 : Cond.fieldLink "ArchiveBench$WaitingFile" 40 "ArchiveBench$WaitingFile" "length" "I" ∈ ab_T := ab_T_in (List.mem_append_right _ (List.mem_of_getElem? (i := 60) (by decide +kernel))) (by decide +kernel)
theorem kf_WF_40 : ab_fl "ArchiveBench$WaitingFile" 40 3 3 .int false := ⟨R_WF, T_WF, 6, t_WF, kc_WF, by decide, ww_60, rfl, rfl, rfl⟩
theorem ww_61 : Cond.fieldLink "ArchiveBench$WaitingFile" 45 "ArchiveBench$WaitingFile" "check" "I" ∈ ab_T := ab_T_in (List.mem_append_right _ (List.mem_of_getElem? (i := 61) (by decide +kernel))) (by decide +kernel)
theorem kf_WF_45 : ab_fl "ArchiveBench$WaitingFile" 45 3 4 .int false := ⟨R_WF, T_WF, 6, t_WF, kc_WF, by decide, ww_61, rfl, rfl, rfl⟩
theorem ww_62 : Cond.fieldLink "ArchiveBench$Packer" 70 "ArchiveBench$WaitingFile" "squeezedAt" "I" ∈ ab_T := ab_T_in (List.mem_append_right _ (List.mem_of_getElem? (i := 62) (by decide +kernel))) (by decide +kernel)
theorem kf_Pk_70 : ab_fl "ArchiveBench$Packer" 70 3 5 .int false := ⟨R_WF, T_WF, 6, t_WF, kc_WF, by decide, ww_62, rfl, rfl, rfl⟩
theorem ww_78 : Cond.fieldLink "ArchiveBench$Packer" 11 "ArchiveBench$Packer" "waiting" "[LArchiveBench$WaitingFile;" ∈ ab_T := ab_T_in (List.mem_append_right _ (List.mem_of_getElem? (i := 78) (by decide +kernel))) (by decide +kernel)
theorem kf_Pk_11 : ab_fl "ArchiveBench$Packer" 11 2 0 (.array (.object "ArchiveBench$WaitingFile")) true := ⟨R_Pk, T_Pk, 3, t_Pk, kc_Pk, by decide, ww_78, rfl, rfl, rfl⟩
theorem ww_79 : Cond.fieldLink "ArchiveBench" 62 "ArchiveBench$Packer" "waiting" "[LArchiveBench$WaitingFile;" ∈ ab_T := ab_T_in (List.mem_append_right _ (List.mem_of_getElem? (i := 79) (by decide +kernel))) (by decide +kernel)
theorem kf_AB_62 : ab_fl "ArchiveBench" 62 2 0 (.array (.object "ArchiveBench$WaitingFile")) true := ⟨R_Pk, T_Pk, 3, t_Pk, kc_Pk, by decide, ww_79, rfl, rfl, rfl⟩
theorem ww_80 : Cond.fieldLink "ArchiveBench$Packer" 18 "ArchiveBench$Packer" "files" "I" ∈ ab_T := ab_T_in (List.mem_append_right _ (List.mem_of_getElem? (i := 80) (by decide +kernel))) (by decide +kernel)
theorem kf_Pk_18 : ab_fl "ArchiveBench$Packer" 18 2 1 .int false := ⟨R_Pk, T_Pk, 3, t_Pk, kc_Pk, by decide, ww_80, rfl, rfl, rfl⟩
theorem ww_81 : Cond.fieldLink "ArchiveBench" 59 "ArchiveBench$Packer" "files" "I" ∈ ab_T := ab_T_in (List.mem_append_right _ (List.mem_of_getElem? (i := 81) (by decide +kernel))) (by decide +kernel)
theorem kf_AB_59 : ab_fl "ArchiveBench" 59 2 1 .int false := ⟨R_Pk, T_Pk, 3, t_Pk, kc_Pk, by decide, ww_81, rfl, rfl, rfl⟩
theorem ww_82 : Cond.fieldLink "ArchiveBench$Packer" 27 "ArchiveBench$Packer" "draft" "LArchiveBench$Row;" ∈ ab_T := ab_T_in (List.mem_append_right _ (List.mem_of_getElem? (i := 82) (by decide +kernel))) (by decide +kernel)
theorem kf_Pk_27 : ab_fl "ArchiveBench$Packer" 27 2 2 (.object "ArchiveBench$Row") true := ⟨R_Pk, T_Pk, 3, t_Pk, kc_Pk, by decide, ww_82, rfl, rfl, rfl⟩
theorem ww_83 : Cond.fieldLink "ArchiveBench" 81 "ArchiveBench$Packer" "draft" "LArchiveBench$Row;" ∈ ab_T := ab_T_in (List.mem_append_right _ (List.mem_of_getElem? (i := 83) (by decide +kernel))) (by decide +kernel)
theorem kf_AB_81 : ab_fl "ArchiveBench" 81 2 2 (.object "ArchiveBench$Row") true := ⟨R_Pk, T_Pk, 3, t_Pk, kc_Pk, by decide, ww_83, rfl, rfl, rfl⟩
theorem ww_108 : Cond.fieldLink "ArchiveBench$OpenFile" 14 "ArchiveBench$OpenFile" "ownName" "LArchiveBench$Row;" ∈ ab_T := ab_T_in (List.mem_append_right _ (List.mem_of_getElem? (i := 108) (by decide +kernel))) (by decide +kernel)
theorem kf_OF_14 : ab_fl "ArchiveBench$OpenFile" 14 5 0 (.object "ArchiveBench$Row") true := ⟨R_OF, T_OF, 6, t_OF, kc_OF, by decide, ww_108, rfl, rfl, rfl⟩
theorem ww_109 : Cond.fieldLink "ArchiveBench$Archive" 34 "ArchiveBench$OpenFile" "ownName" "LArchiveBench$Row;" ∈ ab_T := ab_T_in (List.mem_append_right _ (List.mem_of_getElem? (i := 109) (by decide +kernel))) (by decide +kernel)
theorem kf_Ar_34 : ab_fl "ArchiveBench$Archive" 34 5 0 (.object "ArchiveBench$Row") true := ⟨R_OF, T_OF, 6, t_OF, kc_OF, by decide, ww_109, rfl, rfl, rfl⟩
theorem ww_110 : Cond.fieldLink "ArchiveBench$Unsqueezing" 24 "ArchiveBench$OpenFile" "method" "I" ∈ ab_T := ab_T_in (List.mem_append_right _ (List.mem_of_getElem? (i := 110) (by decide +kernel))) (by decide +kernel)
theorem kf_Un_24 : ab_fl "ArchiveBench$Unsqueezing" 24 5 1 .int false := ⟨R_OF, T_OF, 6, t_OF, kc_OF, by decide, ww_110, rfl, rfl, rfl⟩
theorem ww_111 : Cond.fieldLink "ArchiveBench$OpenFile" 20 "ArchiveBench$OpenFile" "method" "I" ∈ ab_T := ab_T_in (List.mem_append_right _ (List.mem_of_getElem? (i := 111) (by decide +kernel))) (by decide +kernel)
theorem kf_OF_20 : ab_fl "ArchiveBench$OpenFile" 20 5 1 .int false := ⟨R_OF, T_OF, 6, t_OF, kc_OF, by decide, ww_111, rfl, rfl, rfl⟩
theorem ww_112 : Cond.fieldLink "ArchiveBench$Archive" 112 "ArchiveBench$OpenFile" "method" "I" ∈ ab_T := ab_T_in (List.mem_append_right _ (List.mem_of_getElem? (i := 112) (by decide +kernel))) (by decide +kernel)
theorem kf_Ar_112 : ab_fl "ArchiveBench$Archive" 112 5 1 .int false := ⟨R_OF, T_OF, 6, t_OF, kc_OF, by decide, ww_112, rfl, rfl, rfl⟩
theorem ww_113 : Cond.fieldLink "ArchiveBench$Unsqueezing" 9 "ArchiveBench$OpenFile" "squeezedAt" "I" ∈ ab_T := ab_T_in (List.mem_append_right _ (List.mem_of_getElem? (i := 113) (by decide +kernel))) (by decide +kernel)
theorem kf_Un_9 : ab_fl "ArchiveBench$Unsqueezing" 9 5 2 .int false := ⟨R_OF, T_OF, 6, t_OF, kc_OF, by decide, ww_113, rfl, rfl, rfl⟩
theorem ww_114 : Cond.fieldLink "ArchiveBench$OpenFile" 27 "ArchiveBench$OpenFile" "squeezedAt" "I" ∈ ab_T := ab_T_in (List.mem_append_right _ (List.mem_of_getElem? (i := 114) (by decide +kernel))) (by decide +kernel)
theorem kf_OF_27 : ab_fl "ArchiveBench$OpenFile" 27 5 2 .int false := ⟨R_OF, T_OF, 6, t_OF, kc_OF, by decide, ww_114, rfl, rfl, rfl⟩
theorem ww_115 : Cond.fieldLink "ArchiveBench$Archive" 85 "ArchiveBench$OpenFile" "squeezedAt" "I" ∈ ab_T := ab_T_in (List.mem_append_right _ (List.mem_of_getElem? (i := 115) (by decide +kernel))) (by decide +kernel)
theorem kf_Ar_85 : ab_fl "ArchiveBench$Archive" 85 5 2 .int false := ⟨R_OF, T_OF, 6, t_OF, kc_OF, by decide, ww_115, rfl, rfl, rfl⟩
theorem ww_116 : Cond.fieldLink "ArchiveBench$Unsqueezing" 15 "ArchiveBench$OpenFile" "squeezedLength" "I" ∈ ab_T := ab_T_in (List.mem_append_right _ (List.mem_of_getElem? (i := 116) (by decide +kernel))) (by decide +kernel)
theorem kf_Un_15 : ab_fl "ArchiveBench$Unsqueezing" 15 5 3 .int false := ⟨R_OF, T_OF, 6, t_OF, kc_OF, by decide, ww_116, rfl, rfl, rfl⟩
theorem ww_117 : Cond.fieldLink "ArchiveBench$OpenFile" 30 "ArchiveBench$OpenFile" "squeezedLength" "I" ∈ ab_T := ab_T_in (List.mem_append_right _ (List.mem_of_getElem? (i := 117) (by decide +kernel))) (by decide +kernel)
theorem kf_OF_30 : ab_fl "ArchiveBench$OpenFile" 30 5 3 .int false := ⟨R_OF, T_OF, 6, t_OF, kc_OF, by decide, ww_117, rfl, rfl, rfl⟩
theorem ww_118 : Cond.fieldLink "ArchiveBench$Archive" 73 "ArchiveBench$OpenFile" "squeezedLength" "I" ∈ ab_T := ab_T_in (List.mem_append_right _ (List.mem_of_getElem? (i := 118) (by decide +kernel))) (by decide +kernel)
theorem kf_Ar_73 : ab_fl "ArchiveBench$Archive" 73 5 3 .int false := ⟨R_OF, T_OF, 6, t_OF, kc_OF, by decide, ww_118, rfl, rfl, rfl⟩
theorem ww_119 : Cond.fieldLink "ArchiveBench$OpenFile" 33 "ArchiveBench$OpenFile" "length" "I" ∈ ab_T := ab_T_in (List.mem_append_right _ (List.mem_of_getElem? (i := 119) (by decide +kernel))) (by decide +kernel)
theorem kf_OF_33 : ab_fl "ArchiveBench$OpenFile" 33 5 4 .int false := ⟨R_OF, T_OF, 6, t_OF, kc_OF, by decide, ww_119, rfl, rfl, rfl⟩
theorem ww_120 : Cond.fieldLink "ArchiveBench$Unsqueezing" 43 "ArchiveBench$OpenFile" "length" "I" ∈ ab_T := ab_T_in (List.mem_append_right _ (List.mem_of_getElem? (i := 120) (by decide +kernel))) (by decide +kernel)
theorem kf_Un_43 : ab_fl "ArchiveBench$Unsqueezing" 43 5 4 .int false := ⟨R_OF, T_OF, 6, t_OF, kc_OF, by decide, ww_120, rfl, rfl, rfl⟩
theorem ww_121 : Cond.fieldLink "ArchiveBench$Archive" 125 "ArchiveBench$OpenFile" "length" "I" ∈ ab_T := ab_T_in (List.mem_append_right _ (List.mem_of_getElem? (i := 121) (by decide +kernel))) (by decide +kernel)
theorem kf_Ar_125 : ab_fl "ArchiveBench$Archive" 125 5 4 .int false := ⟨R_OF, T_OF, 6, t_OF, kc_OF, by decide, ww_121, rfl, rfl, rfl⟩
theorem ww_122 : Cond.fieldLink "ArchiveBench$OpenFile" 34 "ArchiveBench$OpenFile" "check" "I" ∈ ab_T := ab_T_in (List.mem_append_right _ (List.mem_of_getElem? (i := 122) (by decide +kernel))) (by decide +kernel)
theorem kf_OF_34 : ab_fl "ArchiveBench$OpenFile" 34 5 5 .int false := ⟨R_OF, T_OF, 6, t_OF, kc_OF, by decide, ww_122, rfl, rfl, rfl⟩
theorem ww_123 : Cond.fieldLink "ArchiveBench" 139 "ArchiveBench$OpenFile" "check" "I" ∈ ab_T := ab_T_in (List.mem_append_right _ (List.mem_of_getElem? (i := 123) (by decide +kernel))) (by decide +kernel)
theorem kf_AB_139 : ab_fl "ArchiveBench" 139 5 5 .int false := ⟨R_OF, T_OF, 6, t_OF, kc_OF, by decide, ww_123, rfl, rfl, rfl⟩
theorem ww_124 : Cond.fieldLink "ArchiveBench$Archive" 126 "ArchiveBench$OpenFile" "check" "I" ∈ ab_T := ab_T_in (List.mem_append_right _ (List.mem_of_getElem? (i := 124) (by decide +kernel))) (by decide +kernel)
theorem kf_Ar_126 : ab_fl "ArchiveBench$Archive" 126 5 5 .int false := ⟨R_OF, T_OF, 6, t_OF, kc_OF, by decide, ww_124, rfl, rfl, rfl⟩
theorem ww_138 : Cond.fieldLink "ArchiveBench$Archive" 14 "ArchiveBench$Archive" "row" "LArchiveBench$Row;" ∈ ab_T := ab_T_in (List.mem_append_right _ (List.mem_of_getElem? (i := 138) (by decide +kernel))) (by decide +kernel)
theorem kf_Ar_14 : ab_fl "ArchiveBench$Archive" 14 4 0 (.object "ArchiveBench$Row") true := ⟨R_Ar, T_Ar, 6, t_Ar, kc_Ar, by decide, ww_138, rfl, rfl, rfl⟩
theorem ww_139 : Cond.fieldLink "ArchiveBench" 84 "ArchiveBench$Archive" "row" "LArchiveBench$Row;" ∈ ab_T := ab_T_in (List.mem_append_right _ (List.mem_of_getElem? (i := 139) (by decide +kernel))) (by decide +kernel)
theorem kf_AB_84 : ab_fl "ArchiveBench" 84 4 0 (.object "ArchiveBench$Row") true := ⟨R_Ar, T_Ar, 6, t_Ar, kc_Ar, by decide, ww_139, rfl, rfl, rfl⟩
theorem ww_140 : Cond.fieldLink "ArchiveBench$Archive" 22 "ArchiveBench$Archive" "files" "[LArchiveBench$OpenFile;" ∈ ab_T := ab_T_in (List.mem_append_right _ (List.mem_of_getElem? (i := 140) (by decide +kernel))) (by decide +kernel)
theorem kf_Ar_22 : ab_fl "ArchiveBench$Archive" 22 4 1 (.array (.object "ArchiveBench$OpenFile")) true := ⟨R_Ar, T_Ar, 6, t_Ar, kc_Ar, by decide, ww_140, rfl, rfl, rfl⟩
theorem ww_141 : Cond.fieldLink "ArchiveBench" 118 "ArchiveBench$Archive" "files" "[LArchiveBench$OpenFile;" ∈ ab_T := ab_T_in (List.mem_append_right _ (List.mem_of_getElem? (i := 141) (by decide +kernel))) (by decide +kernel)
theorem kf_AB_118 : ab_fl "ArchiveBench" 118 4 1 (.array (.object "ArchiveBench$OpenFile")) true := ⟨R_Ar, T_Ar, 6, t_Ar, kc_Ar, by decide, ww_141, rfl, rfl, rfl⟩
theorem ww_142 : Cond.fieldLink "ArchiveBench$Archive" 27 "ArchiveBench$Archive" "opened" "I" ∈ ab_T := ab_T_in (List.mem_append_right _ (List.mem_of_getElem? (i := 142) (by decide +kernel))) (by decide +kernel)
theorem kf_Ar_27 : ab_fl "ArchiveBench$Archive" 27 4 2 .int false := ⟨R_Ar, T_Ar, 6, t_Ar, kc_Ar, by decide, ww_142, rfl, rfl, rfl⟩
theorem ww_143 : Cond.fieldLink "ArchiveBench" 144 "ArchiveBench$Archive" "opened" "I" ∈ ab_T := ab_T_in (List.mem_append_right _ (List.mem_of_getElem? (i := 143) (by decide +kernel))) (by decide +kernel)
theorem kf_AB_144 : ab_fl "ArchiveBench" 144 4 2 .int false := ⟨R_Ar, T_Ar, 6, t_Ar, kc_Ar, by decide, ww_143, rfl, rfl, rfl⟩
theorem ww_144 : Cond.fieldLink "ArchiveBench$Archive" 31 "ArchiveBench$Archive" "endedAt" "I" ∈ ab_T := ab_T_in (List.mem_append_right _ (List.mem_of_getElem? (i := 144) (by decide +kernel))) (by decide +kernel)
theorem kf_Ar_31 : ab_fl "ArchiveBench$Archive" 31 4 3 .int false := ⟨R_Ar, T_Ar, 6, t_Ar, kc_Ar, by decide, ww_144, rfl, rfl, rfl⟩
theorem ww_145 : Cond.fieldLink "ArchiveBench" 112 "ArchiveBench$Archive" "endedAt" "I" ∈ ab_T := ab_T_in (List.mem_append_right _ (List.mem_of_getElem? (i := 145) (by decide +kernel))) (by decide +kernel)
theorem kf_AB_112 : ab_fl "ArchiveBench" 112 4 3 .int false := ⟨R_Ar, T_Ar, 6, t_Ar, kc_Ar, by decide, ww_145, rfl, rfl, rfl⟩
theorem ww_146 : Cond.fieldLink "ArchiveBench$Archive" 41 "ArchiveBench$Archive" "cursor" "I" ∈ ab_T := ab_T_in (List.mem_append_right _ (List.mem_of_getElem? (i := 146) (by decide +kernel))) (by decide +kernel)
theorem kf_Ar_41 : ab_fl "ArchiveBench$Archive" 41 4 4 .int false := ⟨R_Ar, T_Ar, 6, t_Ar, kc_Ar, by decide, ww_146, rfl, rfl, rfl⟩
theorem ww_147 : Cond.fieldLink "ArchiveBench$Archive" 44 "ArchiveBench$Archive" "limit" "I" ∈ ab_T := ab_T_in (List.mem_append_right _ (List.mem_of_getElem? (i := 147) (by decide +kernel))) (by decide +kernel)
theorem kf_Ar_44 : ab_fl "ArchiveBench$Archive" 44 4 5 .int false := ⟨R_Ar, T_Ar, 6, t_Ar, kc_Ar, by decide, ww_147, rfl, rfl, rfl⟩
theorem ww_161 : Cond.fieldLink "ArchiveBench" 14 "ArchiveBench" "writtenName" "LArchiveBench$Row;" ∈ ab_T := ab_T_in (List.mem_append_right _ (List.mem_of_getElem? (i := 161) (by decide +kernel))) (by decide +kernel)
theorem kf_AB_14 : ab_fl "ArchiveBench" 14 0 0 (.object "ArchiveBench$Row") true := ⟨R_AB, T_AB, 6, t_AB, kc_AB, by decide, ww_161, rfl, rfl, rfl⟩
theorem ww_162 : Cond.fieldLink "ArchiveBench" 18 "ArchiveBench" "writtenBytes" "LArchiveBench$Row;" ∈ ab_T := ab_T_in (List.mem_append_right _ (List.mem_of_getElem? (i := 162) (by decide +kernel))) (by decide +kernel)
theorem kf_AB_18 : ab_fl "ArchiveBench" 18 0 1 (.object "ArchiveBench$Row") true := ⟨R_AB, T_AB, 6, t_AB, kc_AB, by decide, ww_162, rfl, rfl, rfl⟩
theorem ww_163 : Cond.fieldLink "ArchiveBench" 24 "ArchiveBench" "packer" "LArchiveBench$Packer;" ∈ ab_T := ab_T_in (List.mem_append_right _ (List.mem_of_getElem? (i := 163) (by decide +kernel))) (by decide +kernel)
theorem kf_AB_24 : ab_fl "ArchiveBench" 24 0 2 (.object "ArchiveBench$Packer") true := ⟨R_AB, T_AB, 6, t_AB, kc_AB, by decide, ww_163, rfl, rfl, rfl⟩
theorem ww_164 : Cond.fieldLink "ArchiveBench" 31 "ArchiveBench" "archive" "LArchiveBench$Archive;" ∈ ab_T := ab_T_in (List.mem_append_right _ (List.mem_of_getElem? (i := 164) (by decide +kernel))) (by decide +kernel)
theorem kf_AB_31 : ab_fl "ArchiveBench" 31 0 3 (.object "ArchiveBench$Archive") true := ⟨R_AB, T_AB, 6, t_AB, kc_AB, by decide, ww_164, rfl, rfl, rfl⟩
theorem ww_165 : Cond.fieldLink "ArchiveBench" 35 "ArchiveBench" "made" "LArchiveBench$Row;" ∈ ab_T := ab_T_in (List.mem_append_right _ (List.mem_of_getElem? (i := 165) (by decide +kernel))) (by decide +kernel)
theorem kf_AB_35 : ab_fl "ArchiveBench" 35 0 4 (.object "ArchiveBench$Row") true := ⟨R_AB, T_AB, 6, t_AB, kc_AB, by decide, ww_165, rfl, rfl, rfl⟩
theorem ww_166 : Cond.fieldLink "ArchiveBench" 38 "ArchiveBench" "takenBytes" "LArchiveBench$Row;" ∈ ab_T := ab_T_in (List.mem_append_right _ (List.mem_of_getElem? (i := 166) (by decide +kernel))) (by decide +kernel)
theorem kf_AB_38 : ab_fl "ArchiveBench" 38 0 5 (.object "ArchiveBench$Row") true := ⟨R_AB, T_AB, 6, t_AB, kc_AB, by decide, ww_166, rfl, rfl, rfl⟩
theorem ww_476 : Cond.fieldLink "ArchiveBenchModel" 58 "ArchiveBenchModel" "nameLength" "I" ∈ ab_T := ab_T_in (List.mem_append_right _ (List.mem_of_getElem? (i := 476) (by decide +kernel))) (by decide +kernel)
theorem kf_Md_58 : ab_fl "ArchiveBenchModel" 58 6 0 .int false := ⟨R_Md, T_Md, 21, t_Md, kc_Md, by decide, ww_476, rfl, rfl, rfl⟩
theorem ww_477 : Cond.fieldLink "ArchiveBenchModel" 7 "ArchiveBenchModel" "name" "[I" ∈ ab_T := ab_T_in (List.mem_append_right _ (List.mem_of_getElem? (i := 477) (by decide +kernel))) (by decide +kernel)
theorem kf_Md_7 : ab_fl "ArchiveBenchModel" 7 6 1 (.array .int) true := ⟨R_Md, T_Md, 21, t_Md, kc_Md, by decide, ww_477, rfl, rfl, rfl⟩
theorem ww_478 : Cond.fieldLink "ArchiveBenchModel" 61 "ArchiveBenchModel" "dataLength" "I" ∈ ab_T := ab_T_in (List.mem_append_right _ (List.mem_of_getElem? (i := 478) (by decide +kernel))) (by decide +kernel)
theorem kf_Md_61 : ab_fl "ArchiveBenchModel" 61 6 2 .int false := ⟨R_Md, T_Md, 21, t_Md, kc_Md, by decide, ww_478, rfl, rfl, rfl⟩
theorem ww_479 : Cond.fieldLink "ArchiveBenchModel" 13 "ArchiveBenchModel" "data" "[I" ∈ ab_T := ab_T_in (List.mem_append_right _ (List.mem_of_getElem? (i := 479) (by decide +kernel))) (by decide +kernel)
theorem kf_Md_13 : ab_fl "ArchiveBenchModel" 13 6 3 (.array .int) true := ⟨R_Md, T_Md, 21, t_Md, kc_Md, by decide, ww_479, rfl, rfl, rfl⟩
theorem ww_480 : Cond.fieldLink "ArchiveBenchModel" 64 "ArchiveBenchModel" "files" "I" ∈ ab_T := ab_T_in (List.mem_append_right _ (List.mem_of_getElem? (i := 480) (by decide +kernel))) (by decide +kernel)
theorem kf_Md_64 : ab_fl "ArchiveBenchModel" 64 6 4 .int false := ⟨R_Md, T_Md, 21, t_Md, kc_Md, by decide, ww_480, rfl, rfl, rfl⟩
theorem ww_481 : Cond.fieldLink "ArchiveBenchModel" 16 "ArchiveBenchModel" "fMethod" "[I" ∈ ab_T := ab_T_in (List.mem_append_right _ (List.mem_of_getElem? (i := 481) (by decide +kernel))) (by decide +kernel)
theorem kf_Md_16 : ab_fl "ArchiveBenchModel" 16 6 5 (.array .int) true := ⟨R_Md, T_Md, 21, t_Md, kc_Md, by decide, ww_481, rfl, rfl, rfl⟩
theorem ww_482 : Cond.fieldLink "ArchiveBenchModel" 19 "ArchiveBenchModel" "fNames" "[I" ∈ ab_T := ab_T_in (List.mem_append_right _ (List.mem_of_getElem? (i := 482) (by decide +kernel))) (by decide +kernel)
theorem kf_Md_19 : ab_fl "ArchiveBenchModel" 19 6 6 (.array .int) true := ⟨R_Md, T_Md, 21, t_Md, kc_Md, by decide, ww_482, rfl, rfl, rfl⟩
theorem ww_483 : Cond.fieldLink "ArchiveBenchModel" 22 "ArchiveBenchModel" "fName" "[I" ∈ ab_T := ab_T_in (List.mem_append_right _ (List.mem_of_getElem? (i := 483) (by decide +kernel))) (by decide +kernel)
theorem kf_Md_22 : ab_fl "ArchiveBenchModel" 22 6 7 (.array .int) true := ⟨R_Md, T_Md, 21, t_Md, kc_Md, by decide, ww_483, rfl, rfl, rfl⟩
theorem ww_484 : Cond.fieldLink "ArchiveBenchModel" 25 "ArchiveBenchModel" "fBytes" "[I" ∈ ab_T := ab_T_in (List.mem_append_right _ (List.mem_of_getElem? (i := 484) (by decide +kernel))) (by decide +kernel)
theorem kf_Md_25 : ab_fl "ArchiveBenchModel" 25 6 8 (.array .int) true := ⟨R_Md, T_Md, 21, t_Md, kc_Md, by decide, ww_484, rfl, rfl, rfl⟩
theorem ww_485 : Cond.fieldLink "ArchiveBenchModel" 28 "ArchiveBenchModel" "fData" "[I" ∈ ab_T := ab_T_in (List.mem_append_right _ (List.mem_of_getElem? (i := 485) (by decide +kernel))) (by decide +kernel)
theorem kf_Md_28 : ab_fl "ArchiveBenchModel" 28 6 9 (.array .int) true := ⟨R_Md, T_Md, 21, t_Md, kc_Md, by decide, ww_485, rfl, rfl, rfl⟩
theorem ww_486 : Cond.fieldLink "ArchiveBenchModel" 124 "ArchiveBenchModel" "length" "I" ∈ ab_T := ab_T_in (List.mem_append_right _ (List.mem_of_getElem? (i := 486) (by decide +kernel))) (by decide +kernel)
theorem kf_Md_124 : ab_fl "ArchiveBenchModel" 124 6 10 .int false := ⟨R_Md, T_Md, 21, t_Md, kc_Md, by decide, ww_486, rfl, rfl, rfl⟩
theorem ww_487 : Cond.fieldLink "ArchiveBenchModel" 31 "ArchiveBenchModel" "image" "[I" ∈ ab_T := ab_T_in (List.mem_append_right _ (List.mem_of_getElem? (i := 487) (by decide +kernel))) (by decide +kernel)
theorem kf_Md_31 : ab_fl "ArchiveBenchModel" 31 6 11 (.array .int) true := ⟨R_Md, T_Md, 21, t_Md, kc_Md, by decide, ww_487, rfl, rfl, rfl⟩
theorem ww_488 : Cond.fieldLink "ArchiveBenchModel" 96 "ArchiveBenchModel" "made" "I" ∈ ab_T := ab_T_in (List.mem_append_right _ (List.mem_of_getElem? (i := 488) (by decide +kernel))) (by decide +kernel)
theorem kf_Md_96 : ab_fl "ArchiveBenchModel" 96 6 12 .int false := ⟨R_Md, T_Md, 21, t_Md, kc_Md, by decide, ww_488, rfl, rfl, rfl⟩
theorem ww_489 : Cond.fieldLink "ArchiveBenchModel" 34 "ArchiveBenchModel" "draft" "[I" ∈ ab_T := ab_T_in (List.mem_append_right _ (List.mem_of_getElem? (i := 489) (by decide +kernel))) (by decide +kernel)
theorem kf_Md_34 : ab_fl "ArchiveBenchModel" 34 6 13 (.array .int) true := ⟨R_Md, T_Md, 21, t_Md, kc_Md, by decide, ww_489, rfl, rfl, rfl⟩
theorem ww_490 : Cond.fieldLink "ArchiveBenchModel" 127 "ArchiveBenchModel" "open" "I" ∈ ab_T := ab_T_in (List.mem_append_right _ (List.mem_of_getElem? (i := 490) (by decide +kernel))) (by decide +kernel)
theorem kf_Md_127 : ab_fl "ArchiveBenchModel" 127 6 14 .int false := ⟨R_Md, T_Md, 21, t_Md, kc_Md, by decide, ww_490, rfl, rfl, rfl⟩
theorem ww_491 : Cond.fieldLink "ArchiveBenchModel" 37 "ArchiveBenchModel" "file" "[I" ∈ ab_T := ab_T_in (List.mem_append_right _ (List.mem_of_getElem? (i := 491) (by decide +kernel))) (by decide +kernel)
theorem kf_Md_37 : ab_fl "ArchiveBenchModel" 37 6 15 (.array .int) true := ⟨R_Md, T_Md, 21, t_Md, kc_Md, by decide, ww_491, rfl, rfl, rfl⟩
theorem ww_492 : Cond.fieldLink "ArchiveBenchModel" 40 "ArchiveBenchModel" "place" "I" ∈ ab_T := ab_T_in (List.mem_append_right _ (List.mem_of_getElem? (i := 492) (by decide +kernel))) (by decide +kernel)
theorem kf_Md_40 : ab_fl "ArchiveBenchModel" 40 6 16 .int false := ⟨R_Md, T_Md, 21, t_Md, kc_Md, by decide, ww_492, rfl, rfl, rfl⟩
theorem ww_493 : Cond.fieldLink "ArchiveBenchModel" 175 "ArchiveBenchModel" "takenLength" "I" ∈ ab_T := ab_T_in (List.mem_append_right _ (List.mem_of_getElem? (i := 493) (by decide +kernel))) (by decide +kernel)
theorem kf_Md_175 : ab_fl "ArchiveBenchModel" 175 6 17 .int false := ⟨R_Md, T_Md, 21, t_Md, kc_Md, by decide, ww_493, rfl, rfl, rfl⟩
theorem ww_494 : Cond.fieldLink "ArchiveBenchModel" 44 "ArchiveBenchModel" "taken" "[I" ∈ ab_T := ab_T_in (List.mem_append_right _ (List.mem_of_getElem? (i := 494) (by decide +kernel))) (by decide +kernel)
theorem kf_Md_44 : ab_fl "ArchiveBenchModel" 44 6 18 (.array .int) true := ⟨R_Md, T_Md, 21, t_Md, kc_Md, by decide, ww_494, rfl, rfl, rfl⟩
theorem ww_495 : Cond.fieldLink "ArchiveBenchModel" 67 "ArchiveBenchModel" "rowLength" "I" ∈ ab_T := ab_T_in (List.mem_append_right _ (List.mem_of_getElem? (i := 495) (by decide +kernel))) (by decide +kernel)
theorem kf_Md_67 : ab_fl "ArchiveBenchModel" 67 6 19 .int false := ⟨R_Md, T_Md, 21, t_Md, kc_Md, by decide, ww_495, rfl, rfl, rfl⟩
theorem ww_496 : Cond.fieldLink "ArchiveBenchModel" 47 "ArchiveBenchModel" "row" "[I" ∈ ab_T := ab_T_in (List.mem_append_right _ (List.mem_of_getElem? (i := 496) (by decide +kernel))) (by decide +kernel)
theorem kf_Md_47 : ab_fl "ArchiveBenchModel" 47 6 20 (.array .int) true := ⟨R_Md, T_Md, 21, t_Md, kc_Md, by decide, ww_496, rfl, rfl, rfl⟩
theorem ww_12 : Cond.classLink "ArchiveBenchLaw" 7 "ArchiveBench" ∈ ab_T := ab_T_in (List.mem_append_right _ (List.mem_of_getElem? (i := 12) (by decide +kernel))) (by decide +kernel)
theorem ww_13 : Cond.instantiable "ArchiveBench" 6 ∈ ab_T := ab_T_in (List.mem_append_right _ (List.mem_of_getElem? (i := 13) (by decide +kernel))) (by decide +kernel)
theorem ww_1 : Cond.initialized "ArchiveBench" ∈ ab_T := ab_T_in (List.mem_append_right _ (List.mem_of_getElem? (i := 1) (by decide +kernel))) (by decide +kernel)
theorem kn_Lw_7 : ab_nw "ArchiveBenchLaw" 7 0 [.null, .null, .null, .null, .null, .null] := ⟨R_AB, T_AB, 6, t_AB, kc_AB, ww_12, ww_13, ww_1, rfl, by decide +kernel⟩
theorem ww_20 : Cond.classLink "ArchiveBench" 9 "ArchiveBench$Row" ∈ ab_T := ab_T_in (List.mem_append_right _ (List.mem_of_getElem? (i := 20) (by decide +kernel))) (by decide +kernel)
theorem ww_21 : Cond.instantiable "ArchiveBench$Row" 2 ∈ ab_T := ab_T_in (List.mem_append_right _ (List.mem_of_getElem? (i := 21) (by decide +kernel))) (by decide +kernel)
theorem ww_2 : Cond.initialized "ArchiveBench$Row" ∈ ab_T := ab_T_in (List.mem_append_right _ (List.mem_of_getElem? (i := 2) (by decide +kernel))) (by decide +kernel)
theorem kn_AB_9 : ab_nw "ArchiveBench" 9 1 [.null, .int 0] := ⟨R_Row, T_Row, 2, t_Row, kc_Row, ww_20, ww_21, ww_2, rfl, by decide +kernel⟩
theorem ww_41 : Cond.classLink "ArchiveBench" 21 "ArchiveBench$Packer" ∈ ab_T := ab_T_in (List.mem_append_right _ (List.mem_of_getElem? (i := 41) (by decide +kernel))) (by decide +kernel)
theorem ww_42 : Cond.instantiable "ArchiveBench$Packer" 3 ∈ ab_T := ab_T_in (List.mem_append_right _ (List.mem_of_getElem? (i := 42) (by decide +kernel))) (by decide +kernel)
theorem ww_3 : Cond.initialized "ArchiveBench$Packer" ∈ ab_T := ab_T_in (List.mem_append_right _ (List.mem_of_getElem? (i := 3) (by decide +kernel))) (by decide +kernel)
theorem kn_AB_21 : ab_nw "ArchiveBench" 21 2 [.null, .int 0, .null] := ⟨R_Pk, T_Pk, 3, t_Pk, kc_Pk, ww_41, ww_42, ww_3, rfl, by decide +kernel⟩
theorem ww_47 : Cond.classLink "ArchiveBench$Packer" 9 "ArchiveBench$WaitingFile" ∈ ab_T := ab_T_in (List.mem_append_right _ (List.mem_of_getElem? (i := 47) (by decide +kernel))) (by decide +kernel)
theorem ww_49 : Cond.instantiable "ArchiveBench$WaitingFile" 6 ∈ ab_T := ab_T_in (List.mem_append_right _ (List.mem_of_getElem? (i := 49) (by decide +kernel))) (by decide +kernel)
theorem ww_4 : Cond.initialized "ArchiveBench$WaitingFile" ∈ ab_T := ab_T_in (List.mem_append_right _ (List.mem_of_getElem? (i := 4) (by decide +kernel))) (by decide +kernel)
theorem kn_Pk_9 : ab_nw "ArchiveBench$Packer" 9 3 [.null, .null, .int 0, .int 0, .int 0, .int 0] := ⟨R_WF, T_WF, 6, t_WF, kc_WF, ww_47, ww_49, ww_4, rfl, by decide +kernel⟩
theorem ww_54 : Cond.classLink "ArchiveBench$WaitingFile" 9 "ArchiveBench$Row" ∈ ab_T := ab_T_in (List.mem_append_right _ (List.mem_of_getElem? (i := 54) (by decide +kernel))) (by decide +kernel)
theorem kn_WF_9 : ab_nw "ArchiveBench$WaitingFile" 9 1 [.null, .int 0] := ⟨R_Row, T_Row, 2, t_Row, kc_Row, ww_54, ww_21, ww_2, rfl, by decide +kernel⟩
theorem ww_76 : Cond.classLink "ArchiveBench$Packer" 22 "ArchiveBench$Row" ∈ ab_T := ab_T_in (List.mem_append_right _ (List.mem_of_getElem? (i := 76) (by decide +kernel))) (by decide +kernel)
theorem kn_Pk_22 : ab_nw "ArchiveBench$Packer" 22 1 [.null, .int 0] := ⟨R_Row, T_Row, 2, t_Row, kc_Row, ww_76, ww_21, ww_2, rfl, by decide +kernel⟩
theorem ww_91 : Cond.classLink "ArchiveBench" 28 "ArchiveBench$Archive" ∈ ab_T := ab_T_in (List.mem_append_right _ (List.mem_of_getElem? (i := 91) (by decide +kernel))) (by decide +kernel)
theorem ww_92 : Cond.instantiable "ArchiveBench$Archive" 6 ∈ ab_T := ab_T_in (List.mem_append_right _ (List.mem_of_getElem? (i := 92) (by decide +kernel))) (by decide +kernel)
theorem ww_5 : Cond.initialized "ArchiveBench$Archive" ∈ ab_T := ab_T_in (List.mem_append_right _ (List.mem_of_getElem? (i := 5) (by decide +kernel))) (by decide +kernel)
theorem kn_AB_28 : ab_nw "ArchiveBench" 28 4 [.null, .null, .int 0, .int 0, .int 0, .int 0] := ⟨R_Ar, T_Ar, 6, t_Ar, kc_Ar, ww_91, ww_92, ww_5, rfl, by decide +kernel⟩
theorem ww_97 : Cond.classLink "ArchiveBench$Archive" 9 "ArchiveBench$Row" ∈ ab_T := ab_T_in (List.mem_append_right _ (List.mem_of_getElem? (i := 97) (by decide +kernel))) (by decide +kernel)
theorem kn_Ar_9 : ab_nw "ArchiveBench$Archive" 9 1 [.null, .int 0] := ⟨R_Row, T_Row, 2, t_Row, kc_Row, ww_97, ww_21, ww_2, rfl, by decide +kernel⟩
theorem ww_99 : Cond.classLink "ArchiveBench$Archive" 20 "ArchiveBench$OpenFile" ∈ ab_T := ab_T_in (List.mem_append_right _ (List.mem_of_getElem? (i := 99) (by decide +kernel))) (by decide +kernel)
theorem ww_101 : Cond.instantiable "ArchiveBench$OpenFile" 6 ∈ ab_T := ab_T_in (List.mem_append_right _ (List.mem_of_getElem? (i := 101) (by decide +kernel))) (by decide +kernel)
theorem ww_6 : Cond.initialized "ArchiveBench$OpenFile" ∈ ab_T := ab_T_in (List.mem_append_right _ (List.mem_of_getElem? (i := 6) (by decide +kernel))) (by decide +kernel)
theorem kn_Ar_20 : ab_nw "ArchiveBench$Archive" 20 5 [.null, .int 0, .int 0, .int 0, .int 0, .int 0] := ⟨R_OF, T_OF, 6, t_OF, kc_OF, ww_99, ww_101, ww_6, rfl, by decide +kernel⟩
theorem ww_106 : Cond.classLink "ArchiveBench$OpenFile" 9 "ArchiveBench$Row" ∈ ab_T := ab_T_in (List.mem_append_right _ (List.mem_of_getElem? (i := 106) (by decide +kernel))) (by decide +kernel)
theorem kn_OF_9 : ab_nw "ArchiveBench$OpenFile" 9 1 [.null, .int 0] := ⟨R_Row, T_Row, 2, t_Row, kc_Row, ww_106, ww_21, ww_2, rfl, by decide +kernel⟩
theorem ww_470 : Cond.classLink "ArchiveBenchLaw" 10 "ArchiveBenchModel" ∈ ab_T := ab_T_in (List.mem_append_right _ (List.mem_of_getElem? (i := 470) (by decide +kernel))) (by decide +kernel)
theorem ww_471 : Cond.instantiable "ArchiveBenchModel" 21 ∈ ab_T := ab_T_in (List.mem_append_right _ (List.mem_of_getElem? (i := 471) (by decide +kernel))) (by decide +kernel)
theorem ww_7 : Cond.initialized "ArchiveBenchModel" ∈ ab_T := ab_T_in (List.mem_append_right _ (List.mem_of_getElem? (i := 7) (by decide +kernel))) (by decide +kernel)
theorem kn_Lw_10 : ab_nw "ArchiveBenchLaw" 10 6 [.int 0, .null, .int 0, .null, .int 0, .null, .null, .null, .null, .null, .int 0, .null, .int 0, .null, .int 0, .null, .int 0, .int 0, .null, .int 0, .null] := ⟨R_Md, T_Md, 21, t_Md, kc_Md, ww_470, ww_471, ww_7, rfl, by decide +kernel⟩
theorem ww_263 : Cond.constant "ArchiveBench$Row" 45 65535 ∈ ab_T := ab_T_in (List.mem_append_right _ (List.mem_of_getElem? (i := 263) (by decide +kernel))) (by decide +kernel)
theorem ww_606 : Cond.constant "ArchiveBenchModel" 92 65535 ∈ ab_T := ab_T_in (List.mem_append_right _ (List.mem_of_getElem? (i := 606) (by decide +kernel))) (by decide +kernel)
theorem ww_17 : Cond.methodLink "ArchiveBench" 3 ⟨"java/lang/Object", "<init>", "()V"⟩ ∈ ab_T := ab_T_in (List.mem_append_right _ (List.mem_of_getElem? (i := 17) (by decide +kernel))) (by decide +kernel)
theorem ww_18 : Cond.instanceMethod ⟨"java/lang/Object", "<init>", "()V"⟩ ∈ ab_T := ab_T_in (List.mem_append_right _ (List.mem_of_getElem? (i := 18) (by decide +kernel))) (by decide +kernel)
theorem ww_19 : Cond.code ⟨"java/lang/Object", "<init>", "()V"⟩ object_method_1_code 1 none ∈ ab_T := ab_T_in (List.mem_append_right _ (List.mem_of_getElem? (i := 19) (by decide +kernel))) (by decide +kernel)
theorem km_AB_3 : Cond.methodLink "ArchiveBench" 3 objectInit ∈ ab_T ∧ Cond.instanceMethod objectInit ∈ ab_T ∧ Cond.code objectInit ⟨#[0xb1]⟩ 1 none ∈ ab_T := ⟨ww_17, ww_18, ww_19⟩
theorem ww_22 : Cond.methodLink "ArchiveBench" 11 ⟨"ArchiveBench$Row", "<init>", "(I)V"⟩ ∈ ab_T := ab_T_in (List.mem_append_right _ (List.mem_of_getElem? (i := 22) (by decide +kernel))) (by decide +kernel)
theorem ww_24 : Cond.code ⟨"ArchiveBench$Row", "<init>", "(I)V"⟩ prog_5_method_1_code 2 none ∈ ab_T := ab_T_in (List.mem_append_right _ (List.mem_of_getElem? (i := 24) (by decide +kernel))) (by decide +kernel)
theorem ww_23 : Cond.instanceMethod ⟨"ArchiveBench$Row", "<init>", "(I)V"⟩ ∈ ab_T := ab_T_in (List.mem_append_right _ (List.mem_of_getElem? (i := 23) (by decide +kernel))) (by decide +kernel)
theorem km_AB_11 : ab_kI "ArchiveBench" 11 mm_Row_init 1 := ⟨⟨by decide +kernel, ww_24, ww_22, ww_2, ⟨by decide, by decide, by decide +kernel⟩⟩, rfl, ww_23⟩
theorem ww_43 : Cond.methodLink "ArchiveBench" 23 ⟨"ArchiveBench$Packer", "<init>", "()V"⟩ ∈ ab_T := ab_T_in (List.mem_append_right _ (List.mem_of_getElem? (i := 43) (by decide +kernel))) (by decide +kernel)
theorem ww_45 : Cond.code ⟨"ArchiveBench$Packer", "<init>", "()V"⟩ prog_4_method_1_code 2 none ∈ ab_T := ab_T_in (List.mem_append_right _ (List.mem_of_getElem? (i := 45) (by decide +kernel))) (by decide +kernel)
theorem ww_44 : Cond.instanceMethod ⟨"ArchiveBench$Packer", "<init>", "()V"⟩ ∈ ab_T := ab_T_in (List.mem_append_right _ (List.mem_of_getElem? (i := 44) (by decide +kernel))) (by decide +kernel)
theorem km_AB_23 : ab_kI "ArchiveBench" 23 mm_Pk_init 0 := ⟨⟨by decide +kernel, ww_45, ww_43, ww_3, ⟨by decide, by decide, by decide +kernel⟩⟩, rfl, ww_44⟩
theorem ww_93 : Cond.methodLink "ArchiveBench" 30 ⟨"ArchiveBench$Archive", "<init>", "()V"⟩ ∈ ab_T := ab_T_in (List.mem_append_right _ (List.mem_of_getElem? (i := 93) (by decide +kernel))) (by decide +kernel)
theorem ww_95 : Cond.code ⟨"ArchiveBench$Archive", "<init>", "()V"⟩ prog_2_method_1_code 2 none ∈ ab_T := ab_T_in (List.mem_append_right _ (List.mem_of_getElem? (i := 95) (by decide +kernel))) (by decide +kernel)
theorem ww_94 : Cond.instanceMethod ⟨"ArchiveBench$Archive", "<init>", "()V"⟩ ∈ ab_T := ab_T_in (List.mem_append_right _ (List.mem_of_getElem? (i := 94) (by decide +kernel))) (by decide +kernel)
theorem km_AB_30 : ab_kI "ArchiveBench" 30 mm_Ar_init 0 := ⟨⟨by decide +kernel, ww_95, ww_93, ww_5, ⟨by decide, by decide, by decide +kernel⟩⟩, rfl, ww_94⟩
theorem ww_25 : Cond.methodLink "ArchiveBench$Row" 3 ⟨"java/lang/Object", "<init>", "()V"⟩ ∈ ab_T := ab_T_in (List.mem_append_right _ (List.mem_of_getElem? (i := 25) (by decide +kernel))) (by decide +kernel)
theorem km_Row_3 : Cond.methodLink "ArchiveBench$Row" 3 objectInit ∈ ab_T ∧ Cond.instanceMethod objectInit ∈ ab_T ∧ Cond.code objectInit ⟨#[0xb1]⟩ 1 none ∈ ab_T := ⟨ww_25, ww_18, ww_19⟩
theorem ww_46 : Cond.methodLink "ArchiveBench$Packer" 3 ⟨"java/lang/Object", "<init>", "()V"⟩ ∈ ab_T := ab_T_in (List.mem_append_right _ (List.mem_of_getElem? (i := 46) (by decide +kernel))) (by decide +kernel)
theorem km_Pk_3 : Cond.methodLink "ArchiveBench$Packer" 3 objectInit ∈ ab_T ∧ Cond.instanceMethod objectInit ∈ ab_T ∧ Cond.code objectInit ⟨#[0xb1]⟩ 1 none ∈ ab_T := ⟨ww_46, ww_18, ww_19⟩
theorem ww_50 : Cond.methodLink "ArchiveBench$Packer" 17 ⟨"ArchiveBench$WaitingFile", "<init>", "()V"⟩ ∈ ab_T := ab_T_in (List.mem_append_right _ (List.mem_of_getElem? (i := 50) (by decide +kernel))) (by decide +kernel)
theorem ww_52 : Cond.code ⟨"ArchiveBench$WaitingFile", "<init>", "()V"⟩ prog_8_method_1_code 1 none ∈ ab_T := ab_T_in (List.mem_append_right _ (List.mem_of_getElem? (i := 52) (by decide +kernel))) (by decide +kernel)
theorem ww_51 : Cond.instanceMethod ⟨"ArchiveBench$WaitingFile", "<init>", "()V"⟩ ∈ ab_T := ab_T_in (List.mem_append_right _ (List.mem_of_getElem? (i := 51) (by decide +kernel))) (by decide +kernel)
theorem km_Pk_17 : ab_kI "ArchiveBench$Packer" 17 mm_WF_init 0 := ⟨⟨by decide +kernel, ww_52, ww_50, ww_4, ⟨by decide, by decide, by decide +kernel⟩⟩, rfl, ww_51⟩
theorem ww_77 : Cond.methodLink "ArchiveBench$Packer" 24 ⟨"ArchiveBench$Row", "<init>", "(I)V"⟩ ∈ ab_T := ab_T_in (List.mem_append_right _ (List.mem_of_getElem? (i := 77) (by decide +kernel))) (by decide +kernel)
theorem km_Pk_24 : ab_kI "ArchiveBench$Packer" 24 mm_Row_init 1 := ⟨⟨by decide +kernel, ww_24, ww_77, ww_2, ⟨by decide, by decide, by decide +kernel⟩⟩, rfl, ww_23⟩
theorem ww_53 : Cond.methodLink "ArchiveBench$WaitingFile" 3 ⟨"java/lang/Object", "<init>", "()V"⟩ ∈ ab_T := ab_T_in (List.mem_append_right _ (List.mem_of_getElem? (i := 53) (by decide +kernel))) (by decide +kernel)
theorem km_WF_3 : Cond.methodLink "ArchiveBench$WaitingFile" 3 objectInit ∈ ab_T ∧ Cond.instanceMethod objectInit ∈ ab_T ∧ Cond.code objectInit ⟨#[0xb1]⟩ 1 none ∈ ab_T := ⟨ww_53, ww_18, ww_19⟩
theorem ww_55 : Cond.methodLink "ArchiveBench$WaitingFile" 11 ⟨"ArchiveBench$Row", "<init>", "(I)V"⟩ ∈ ab_T := ab_T_in (List.mem_append_right _ (List.mem_of_getElem? (i := 55) (by decide +kernel))) (by decide +kernel)
theorem km_WF_11 : ab_kI "ArchiveBench$WaitingFile" 11 mm_Row_init 1 := ⟨⟨by decide +kernel, ww_24, ww_55, ww_2, ⟨by decide, by decide, by decide +kernel⟩⟩, rfl, ww_23⟩
theorem ww_96 : Cond.methodLink "ArchiveBench$Archive" 3 ⟨"java/lang/Object", "<init>", "()V"⟩ ∈ ab_T := ab_T_in (List.mem_append_right _ (List.mem_of_getElem? (i := 96) (by decide +kernel))) (by decide +kernel)
theorem km_Ar_3 : Cond.methodLink "ArchiveBench$Archive" 3 objectInit ∈ ab_T ∧ Cond.instanceMethod objectInit ∈ ab_T ∧ Cond.code objectInit ⟨#[0xb1]⟩ 1 none ∈ ab_T := ⟨ww_96, ww_18, ww_19⟩
theorem ww_98 : Cond.methodLink "ArchiveBench$Archive" 11 ⟨"ArchiveBench$Row", "<init>", "(I)V"⟩ ∈ ab_T := ab_T_in (List.mem_append_right _ (List.mem_of_getElem? (i := 98) (by decide +kernel))) (by decide +kernel)
theorem km_Ar_11 : ab_kI "ArchiveBench$Archive" 11 mm_Row_init 1 := ⟨⟨by decide +kernel, ww_24, ww_98, ww_2, ⟨by decide, by decide, by decide +kernel⟩⟩, rfl, ww_23⟩
theorem ww_102 : Cond.methodLink "ArchiveBench$Archive" 26 ⟨"ArchiveBench$OpenFile", "<init>", "()V"⟩ ∈ ab_T := ab_T_in (List.mem_append_right _ (List.mem_of_getElem? (i := 102) (by decide +kernel))) (by decide +kernel)
theorem ww_104 : Cond.code ⟨"ArchiveBench$OpenFile", "<init>", "()V"⟩ prog_3_method_1_code 1 none ∈ ab_T := ab_T_in (List.mem_append_right _ (List.mem_of_getElem? (i := 104) (by decide +kernel))) (by decide +kernel)
theorem ww_103 : Cond.instanceMethod ⟨"ArchiveBench$OpenFile", "<init>", "()V"⟩ ∈ ab_T := ab_T_in (List.mem_append_right _ (List.mem_of_getElem? (i := 103) (by decide +kernel))) (by decide +kernel)
theorem km_Ar_26 : ab_kI "ArchiveBench$Archive" 26 mm_OF_init 0 := ⟨⟨by decide +kernel, ww_104, ww_102, ww_6, ⟨by decide, by decide, by decide +kernel⟩⟩, rfl, ww_103⟩
theorem ww_105 : Cond.methodLink "ArchiveBench$OpenFile" 3 ⟨"java/lang/Object", "<init>", "()V"⟩ ∈ ab_T := ab_T_in (List.mem_append_right _ (List.mem_of_getElem? (i := 105) (by decide +kernel))) (by decide +kernel)
theorem km_OF_3 : Cond.methodLink "ArchiveBench$OpenFile" 3 objectInit ∈ ab_T ∧ Cond.instanceMethod objectInit ∈ ab_T ∧ Cond.code objectInit ⟨#[0xb1]⟩ 1 none ∈ ab_T := ⟨ww_105, ww_18, ww_19⟩
theorem ww_107 : Cond.methodLink "ArchiveBench$OpenFile" 11 ⟨"ArchiveBench$Row", "<init>", "(I)V"⟩ ∈ ab_T := ab_T_in (List.mem_append_right _ (List.mem_of_getElem? (i := 107) (by decide +kernel))) (by decide +kernel)
theorem km_OF_11 : ab_kI "ArchiveBench$OpenFile" 11 mm_Row_init 1 := ⟨⟨by decide +kernel, ww_24, ww_107, ww_2, ⟨by decide, by decide, by decide +kernel⟩⟩, rfl, ww_23⟩
theorem ww_184 : Cond.methodLink "ArchiveBench" 41 ⟨"ArchiveBench", "isNameCharacter", "(I)Z"⟩ ∈ ab_T := ab_T_in (List.mem_append_right _ (List.mem_of_getElem? (i := 184) (by decide +kernel))) (by decide +kernel)
theorem ww_186 : Cond.code ⟨"ArchiveBench", "isNameCharacter", "(I)Z"⟩ prog_1_method_16_code 1 (some FieldType.boolean) ∈ ab_T := ab_T_in (List.mem_append_right _ (List.mem_of_getElem? (i := 186) (by decide +kernel))) (by decide +kernel)
theorem ww_185 : Cond.static ⟨"ArchiveBench", "isNameCharacter", "(I)Z"⟩ ∈ ab_T := ab_T_in (List.mem_append_right _ (List.mem_of_getElem? (i := 185) (by decide +kernel))) (by decide +kernel)
theorem km_AB_41 : ab_kS "ArchiveBench" 41 mm_AB_isNameCharacter 1 := ⟨⟨by decide +kernel, ww_186, ww_184, ww_1, ⟨by decide, by decide, by decide +kernel⟩⟩, ww_185⟩
theorem ww_187 : Cond.methodLink "ArchiveBench" 45 ⟨"ArchiveBench$Row", "append", "(I)Z"⟩ ∈ ab_T := ab_T_in (List.mem_append_right _ (List.mem_of_getElem? (i := 187) (by decide +kernel))) (by decide +kernel)
theorem ww_190 : Cond.code ⟨"ArchiveBench$Row", "append", "(I)Z"⟩ prog_5_method_6_code 2 (some FieldType.boolean) ∈ ab_T := ab_T_in (List.mem_append_right _ (List.mem_of_getElem? (i := 190) (by decide +kernel))) (by decide +kernel)
theorem ww_188 : Cond.instanceMethod ⟨"ArchiveBench$Row", "append", "(I)Z"⟩ ∈ ab_T := ab_T_in (List.mem_append_right _ (List.mem_of_getElem? (i := 188) (by decide +kernel))) (by decide +kernel)
theorem ww_189 : Cond.selects "ArchiveBench$Row" ⟨"ArchiveBench$Row", "append", "(I)Z"⟩ ⟨"ArchiveBench$Row", "append", "(I)Z"⟩ ∈ ab_T := ab_T_in (List.mem_append_right _ (List.mem_of_getElem? (i := 189) (by decide +kernel))) (by decide +kernel)
theorem km_AB_45 : ab_kV "ArchiveBench" 45 mm_Row_append 1 := ⟨⟨by decide +kernel, ww_190, ww_187, ww_2, ⟨by decide, by decide, by decide +kernel⟩⟩, ww_188, ww_189⟩
theorem ww_195 : Cond.methodLink "ArchiveBench" 52 ⟨"ArchiveBench", "isByte", "(I)Z"⟩ ∈ ab_T := ab_T_in (List.mem_append_right _ (List.mem_of_getElem? (i := 195) (by decide +kernel))) (by decide +kernel)
theorem ww_197 : Cond.code ⟨"ArchiveBench", "isByte", "(I)Z"⟩ prog_1_method_15_code 1 (some FieldType.boolean) ∈ ab_T := ab_T_in (List.mem_append_right _ (List.mem_of_getElem? (i := 197) (by decide +kernel))) (by decide +kernel)
theorem ww_196 : Cond.static ⟨"ArchiveBench", "isByte", "(I)Z"⟩ ∈ ab_T := ab_T_in (List.mem_append_right _ (List.mem_of_getElem? (i := 196) (by decide +kernel))) (by decide +kernel)
theorem km_AB_52 : ab_kS "ArchiveBench" 52 mm_AB_isByte 1 := ⟨⟨by decide +kernel, ww_197, ww_195, ww_1, ⟨by decide, by decide, by decide +kernel⟩⟩, ww_196⟩
theorem ww_198 : Cond.methodLink "ArchiveBench" 55 ⟨"ArchiveBench$Row", "appendTimes", "(II)Z"⟩ ∈ ab_T := ab_T_in (List.mem_append_right _ (List.mem_of_getElem? (i := 198) (by decide +kernel))) (by decide +kernel)
theorem ww_201 : Cond.code ⟨"ArchiveBench$Row", "appendTimes", "(II)Z"⟩ prog_5_method_7_code 4 (some FieldType.boolean) ∈ ab_T := ab_T_in (List.mem_append_right _ (List.mem_of_getElem? (i := 201) (by decide +kernel))) (by decide +kernel)
theorem ww_199 : Cond.instanceMethod ⟨"ArchiveBench$Row", "appendTimes", "(II)Z"⟩ ∈ ab_T := ab_T_in (List.mem_append_right _ (List.mem_of_getElem? (i := 199) (by decide +kernel))) (by decide +kernel)
theorem ww_200 : Cond.selects "ArchiveBench$Row" ⟨"ArchiveBench$Row", "appendTimes", "(II)Z"⟩ ⟨"ArchiveBench$Row", "appendTimes", "(II)Z"⟩ ∈ ab_T := ab_T_in (List.mem_append_right _ (List.mem_of_getElem? (i := 200) (by decide +kernel))) (by decide +kernel)
theorem km_AB_55 : ab_kV "ArchiveBench" 55 mm_Row_appendTimes 2 := ⟨⟨by decide +kernel, ww_201, ww_198, ww_2, ⟨by decide, by decide, by decide +kernel⟩⟩, ww_199, ww_200⟩
theorem ww_206 : Cond.methodLink "ArchiveBench" 66 ⟨"ArchiveBench$WaitingFile", "become", "(LArchiveBench$Row;LArchiveBench$Row;I)V"⟩ ∈ ab_T := ab_T_in (List.mem_append_right _ (List.mem_of_getElem? (i := 206) (by decide +kernel))) (by decide +kernel)
theorem ww_209 : Cond.code ⟨"ArchiveBench$WaitingFile", "become", "(LArchiveBench$Row;LArchiveBench$Row;I)V"⟩ prog_8_method_2_code 4 none ∈ ab_T := ab_T_in (List.mem_append_right _ (List.mem_of_getElem? (i := 209) (by decide +kernel))) (by decide +kernel)
theorem ww_207 : Cond.instanceMethod ⟨"ArchiveBench$WaitingFile", "become", "(LArchiveBench$Row;LArchiveBench$Row;I)V"⟩ ∈ ab_T := ab_T_in (List.mem_append_right _ (List.mem_of_getElem? (i := 207) (by decide +kernel))) (by decide +kernel)
theorem ww_208 : Cond.selects "ArchiveBench$WaitingFile" ⟨"ArchiveBench$WaitingFile", "become", "(LArchiveBench$Row;LArchiveBench$Row;I)V"⟩ ⟨"ArchiveBench$WaitingFile", "become", "(LArchiveBench$Row;LArchiveBench$Row;I)V"⟩ ∈ ab_T := ab_T_in (List.mem_append_right _ (List.mem_of_getElem? (i := 208) (by decide +kernel))) (by decide +kernel)
theorem km_AB_66 : ab_kV "ArchiveBench" 66 mm_WF_become 3 := ⟨⟨by decide +kernel, ww_209, ww_206, ww_4, ⟨by decide, by decide, by decide +kernel⟩⟩, ww_207, ww_208⟩
theorem ww_268 : Cond.methodLink "ArchiveBench" 72 ⟨"ArchiveBench$Row", "cutTo", "(I)V"⟩ ∈ ab_T := ab_T_in (List.mem_append_right _ (List.mem_of_getElem? (i := 268) (by decide +kernel))) (by decide +kernel)
theorem ww_217 : Cond.code ⟨"ArchiveBench$Row", "cutTo", "(I)V"⟩ prog_5_method_5_code 2 none ∈ ab_T := ab_T_in (List.mem_append_right _ (List.mem_of_getElem? (i := 217) (by decide +kernel))) (by decide +kernel)
theorem ww_215 : Cond.instanceMethod ⟨"ArchiveBench$Row", "cutTo", "(I)V"⟩ ∈ ab_T := ab_T_in (List.mem_append_right _ (List.mem_of_getElem? (i := 215) (by decide +kernel))) (by decide +kernel)
theorem ww_216 : Cond.selects "ArchiveBench$Row" ⟨"ArchiveBench$Row", "cutTo", "(I)V"⟩ ⟨"ArchiveBench$Row", "cutTo", "(I)V"⟩ ∈ ab_T := ab_T_in (List.mem_append_right _ (List.mem_of_getElem? (i := 216) (by decide +kernel))) (by decide +kernel)
theorem km_AB_72 : ab_kV "ArchiveBench" 72 mm_Row_cutTo 1 := ⟨⟨by decide +kernel, ww_217, ww_268, ww_2, ⟨by decide, by decide, by decide +kernel⟩⟩, ww_215, ww_216⟩
theorem ww_210 : Cond.methodLink "ArchiveBench$WaitingFile" 23 ⟨"ArchiveBench$Row", "become", "(LArchiveBench$Row;)V"⟩ ∈ ab_T := ab_T_in (List.mem_append_right _ (List.mem_of_getElem? (i := 210) (by decide +kernel))) (by decide +kernel)
theorem ww_213 : Cond.code ⟨"ArchiveBench$Row", "become", "(LArchiveBench$Row;)V"⟩ prog_5_method_11_code 2 none ∈ ab_T := ab_T_in (List.mem_append_right _ (List.mem_of_getElem? (i := 213) (by decide +kernel))) (by decide +kernel)
theorem ww_211 : Cond.instanceMethod ⟨"ArchiveBench$Row", "become", "(LArchiveBench$Row;)V"⟩ ∈ ab_T := ab_T_in (List.mem_append_right _ (List.mem_of_getElem? (i := 211) (by decide +kernel))) (by decide +kernel)
theorem ww_212 : Cond.selects "ArchiveBench$Row" ⟨"ArchiveBench$Row", "become", "(LArchiveBench$Row;)V"⟩ ⟨"ArchiveBench$Row", "become", "(LArchiveBench$Row;)V"⟩ ∈ ab_T := ab_T_in (List.mem_append_right _ (List.mem_of_getElem? (i := 212) (by decide +kernel))) (by decide +kernel)
theorem km_WF_23 : ab_kV "ArchiveBench$WaitingFile" 23 mm_Row_become 1 := ⟨⟨by decide +kernel, ww_213, ww_210, ww_2, ⟨by decide, by decide, by decide +kernel⟩⟩, ww_211, ww_212⟩
theorem ww_229 : Cond.methodLink "ArchiveBench$WaitingFile" 27 ⟨"ArchiveBench$Squeezing", "squeeze", "(ILArchiveBench$Row;LArchiveBench$Row;)V"⟩ ∈ ab_T := ab_T_in (List.mem_append_right _ (List.mem_of_getElem? (i := 229) (by decide +kernel))) (by decide +kernel)
theorem ww_231 : Cond.code ⟨"ArchiveBench$Squeezing", "squeeze", "(ILArchiveBench$Row;LArchiveBench$Row;)V"⟩ prog_6_method_2_code 3 none ∈ ab_T := ab_T_in (List.mem_append_right _ (List.mem_of_getElem? (i := 231) (by decide +kernel))) (by decide +kernel)
theorem ww_9 : Cond.initialized "ArchiveBench$Squeezing" ∈ ab_T := ab_T_in (List.mem_append_right _ (List.mem_of_getElem? (i := 9) (by decide +kernel))) (by decide +kernel)
theorem ww_230 : Cond.static ⟨"ArchiveBench$Squeezing", "squeeze", "(ILArchiveBench$Row;LArchiveBench$Row;)V"⟩ ∈ ab_T := ab_T_in (List.mem_append_right _ (List.mem_of_getElem? (i := 230) (by decide +kernel))) (by decide +kernel)
theorem km_WF_27 : ab_kS "ArchiveBench$WaitingFile" 27 mm_Sq_squeeze 3 := ⟨⟨by decide +kernel, ww_231, ww_229, ww_9, ⟨by decide, by decide, by decide +kernel⟩⟩, ww_230⟩
theorem ww_259 : Cond.methodLink "ArchiveBench$WaitingFile" 41 ⟨"ArchiveBench$Row", "check", "(II)I"⟩ ∈ ab_T := ab_T_in (List.mem_append_right _ (List.mem_of_getElem? (i := 259) (by decide +kernel))) (by decide +kernel)
theorem ww_262 : Cond.code ⟨"ArchiveBench$Row", "check", "(II)I"⟩ prog_5_method_14_code 5 (some FieldType.int) ∈ ab_T := ab_T_in (List.mem_append_right _ (List.mem_of_getElem? (i := 262) (by decide +kernel))) (by decide +kernel)
theorem ww_260 : Cond.instanceMethod ⟨"ArchiveBench$Row", "check", "(II)I"⟩ ∈ ab_T := ab_T_in (List.mem_append_right _ (List.mem_of_getElem? (i := 260) (by decide +kernel))) (by decide +kernel)
theorem ww_261 : Cond.selects "ArchiveBench$Row" ⟨"ArchiveBench$Row", "check", "(II)I"⟩ ⟨"ArchiveBench$Row", "check", "(II)I"⟩ ∈ ab_T := ab_T_in (List.mem_append_right _ (List.mem_of_getElem? (i := 261) (by decide +kernel))) (by decide +kernel)
theorem km_WF_41 : ab_kV "ArchiveBench$WaitingFile" 41 mm_Row_check 2 := ⟨⟨by decide +kernel, ww_262, ww_259, ww_2, ⟨by decide, by decide, by decide +kernel⟩⟩, ww_260, ww_261⟩
theorem ww_214 : Cond.methodLink "ArchiveBench$Row" 37 ⟨"ArchiveBench$Row", "cutTo", "(I)V"⟩ ∈ ab_T := ab_T_in (List.mem_append_right _ (List.mem_of_getElem? (i := 214) (by decide +kernel))) (by decide +kernel)
theorem km_Row_37 : ab_kV "ArchiveBench$Row" 37 mm_Row_cutTo 1 := ⟨⟨by decide +kernel, ww_217, ww_214, ww_2, ⟨by decide, by decide, by decide +kernel⟩⟩, ww_215, ww_216⟩
theorem ww_218 : Cond.methodLink "ArchiveBench$Row" 41 ⟨"ArchiveBench$Row", "appendAll", "(LArchiveBench$Row;)V"⟩ ∈ ab_T := ab_T_in (List.mem_append_right _ (List.mem_of_getElem? (i := 218) (by decide +kernel))) (by decide +kernel)
theorem ww_221 : Cond.code ⟨"ArchiveBench$Row", "appendAll", "(LArchiveBench$Row;)V"⟩ prog_5_method_10_code 2 none ∈ ab_T := ab_T_in (List.mem_append_right _ (List.mem_of_getElem? (i := 221) (by decide +kernel))) (by decide +kernel)
theorem ww_219 : Cond.instanceMethod ⟨"ArchiveBench$Row", "appendAll", "(LArchiveBench$Row;)V"⟩ ∈ ab_T := ab_T_in (List.mem_append_right _ (List.mem_of_getElem? (i := 219) (by decide +kernel))) (by decide +kernel)
theorem ww_220 : Cond.selects "ArchiveBench$Row" ⟨"ArchiveBench$Row", "appendAll", "(LArchiveBench$Row;)V"⟩ ⟨"ArchiveBench$Row", "appendAll", "(LArchiveBench$Row;)V"⟩ ∈ ab_T := ab_T_in (List.mem_append_right _ (List.mem_of_getElem? (i := 220) (by decide +kernel))) (by decide +kernel)
theorem km_Row_41 : ab_kV "ArchiveBench$Row" 41 mm_Row_appendAll 1 := ⟨⟨by decide +kernel, ww_221, ww_218, ww_2, ⟨by decide, by decide, by decide +kernel⟩⟩, ww_219, ww_220⟩
theorem ww_222 : Cond.methodLink "ArchiveBench$Row" 33 ⟨"ArchiveBench$Row", "appendPart", "(LArchiveBench$Row;II)Z"⟩ ∈ ab_T := ab_T_in (List.mem_append_right _ (List.mem_of_getElem? (i := 222) (by decide +kernel))) (by decide +kernel)
theorem ww_225 : Cond.code ⟨"ArchiveBench$Row", "appendPart", "(LArchiveBench$Row;II)Z"⟩ prog_5_method_9_code 4 (some FieldType.boolean) ∈ ab_T := ab_T_in (List.mem_append_right _ (List.mem_of_getElem? (i := 225) (by decide +kernel))) (by decide +kernel)
theorem ww_223 : Cond.instanceMethod ⟨"ArchiveBench$Row", "appendPart", "(LArchiveBench$Row;II)Z"⟩ ∈ ab_T := ab_T_in (List.mem_append_right _ (List.mem_of_getElem? (i := 223) (by decide +kernel))) (by decide +kernel)
theorem ww_224 : Cond.selects "ArchiveBench$Row" ⟨"ArchiveBench$Row", "appendPart", "(LArchiveBench$Row;II)Z"⟩ ⟨"ArchiveBench$Row", "appendPart", "(LArchiveBench$Row;II)Z"⟩ ∈ ab_T := ab_T_in (List.mem_append_right _ (List.mem_of_getElem? (i := 224) (by decide +kernel))) (by decide +kernel)
theorem km_Row_33 : ab_kV "ArchiveBench$Row" 33 mm_Row_appendPart 3 := ⟨⟨by decide +kernel, ww_225, ww_222, ww_2, ⟨by decide, by decide, by decide +kernel⟩⟩, ww_223, ww_224⟩
theorem ww_226 : Cond.methodLink "ArchiveBench$Row" 27 ⟨"java/lang/System", "arraycopy", "(Ljava/lang/Object;ILjava/lang/Object;II)V"⟩ ∈ ab_T := ab_T_in (List.mem_append_right _ (List.mem_of_getElem? (i := 226) (by decide +kernel))) (by decide +kernel)
theorem ww_228 : Cond.native ⟨"java/lang/System", "arraycopy", "(Ljava/lang/Object;ILjava/lang/Object;II)V"⟩ ∈ ab_T := ab_T_in (List.mem_append_right _ (List.mem_of_getElem? (i := 228) (by decide +kernel))) (by decide +kernel)
theorem ww_227 : Cond.static ⟨"java/lang/System", "arraycopy", "(Ljava/lang/Object;ILjava/lang/Object;II)V"⟩ ∈ ab_T := ab_T_in (List.mem_append_right _ (List.mem_of_getElem? (i := 227) (by decide +kernel))) (by decide +kernel)
theorem ww_8 : Cond.initialized "java/lang/System" ∈ ab_T := ab_T_in (List.mem_append_right _ (List.mem_of_getElem? (i := 8) (by decide +kernel))) (by decide +kernel)
theorem km_Row_27 : Cond.methodLink "ArchiveBench$Row" 27 arraycopyName ∈ ab_T ∧ Cond.native arraycopyName ∈ ab_T ∧ Cond.static arraycopyName ∈ ab_T ∧ Cond.initialized "java/lang/System" ∈ ab_T := ⟨ww_226, ww_228, ww_227, ww_8⟩
theorem ww_232 : Cond.methodLink "ArchiveBench$Squeezing" 9 ⟨"ArchiveBench$Row", "cutTo", "(I)V"⟩ ∈ ab_T := ab_T_in (List.mem_append_right _ (List.mem_of_getElem? (i := 232) (by decide +kernel))) (by decide +kernel)
theorem km_Sq_9 : ab_kV "ArchiveBench$Squeezing" 9 mm_Row_cutTo 1 := ⟨⟨by decide +kernel, ww_217, ww_232, ww_2, ⟨by decide, by decide, by decide +kernel⟩⟩, ww_215, ww_216⟩
theorem ww_233 : Cond.methodLink "ArchiveBench$Squeezing" 15 ⟨"ArchiveBench$Squeezing", "squeezeRuns", "(LArchiveBench$Row;LArchiveBench$Row;)V"⟩ ∈ ab_T := ab_T_in (List.mem_append_right _ (List.mem_of_getElem? (i := 233) (by decide +kernel))) (by decide +kernel)
theorem ww_235 : Cond.code ⟨"ArchiveBench$Squeezing", "squeezeRuns", "(LArchiveBench$Row;LArchiveBench$Row;)V"⟩ prog_6_method_3_code 5 none ∈ ab_T := ab_T_in (List.mem_append_right _ (List.mem_of_getElem? (i := 235) (by decide +kernel))) (by decide +kernel)
theorem ww_234 : Cond.static ⟨"ArchiveBench$Squeezing", "squeezeRuns", "(LArchiveBench$Row;LArchiveBench$Row;)V"⟩ ∈ ab_T := ab_T_in (List.mem_append_right _ (List.mem_of_getElem? (i := 234) (by decide +kernel))) (by decide +kernel)
theorem km_Sq_15 : ab_kS "ArchiveBench$Squeezing" 15 mm_Sq_squeezeRuns 2 := ⟨⟨by decide +kernel, ww_235, ww_233, ww_9, ⟨by decide, by decide, by decide +kernel⟩⟩, ww_234⟩
theorem ww_242 : Cond.methodLink "ArchiveBench$Squeezing" 21 ⟨"ArchiveBench$Squeezing", "squeezeCopies", "(LArchiveBench$Row;LArchiveBench$Row;)V"⟩ ∈ ab_T := ab_T_in (List.mem_append_right _ (List.mem_of_getElem? (i := 242) (by decide +kernel))) (by decide +kernel)
theorem ww_244 : Cond.code ⟨"ArchiveBench$Squeezing", "squeezeCopies", "(LArchiveBench$Row;LArchiveBench$Row;)V"⟩ prog_6_method_4_code 6 none ∈ ab_T := ab_T_in (List.mem_append_right _ (List.mem_of_getElem? (i := 244) (by decide +kernel))) (by decide +kernel)
theorem ww_243 : Cond.static ⟨"ArchiveBench$Squeezing", "squeezeCopies", "(LArchiveBench$Row;LArchiveBench$Row;)V"⟩ ∈ ab_T := ab_T_in (List.mem_append_right _ (List.mem_of_getElem? (i := 243) (by decide +kernel))) (by decide +kernel)
theorem km_Sq_21 : ab_kS "ArchiveBench$Squeezing" 21 mm_Sq_squeezeCopies 2 := ⟨⟨by decide +kernel, ww_244, ww_242, ww_9, ⟨by decide, by decide, by decide +kernel⟩⟩, ww_243⟩
theorem ww_258 : Cond.methodLink "ArchiveBench$Squeezing" 24 ⟨"ArchiveBench$Row", "appendAll", "(LArchiveBench$Row;)V"⟩ ∈ ab_T := ab_T_in (List.mem_append_right _ (List.mem_of_getElem? (i := 258) (by decide +kernel))) (by decide +kernel)
theorem km_Sq_24 : ab_kV "ArchiveBench$Squeezing" 24 mm_Row_appendAll 1 := ⟨⟨by decide +kernel, ww_221, ww_258, ww_2, ⟨by decide, by decide, by decide +kernel⟩⟩, ww_219, ww_220⟩
theorem ww_236 : Cond.methodLink "ArchiveBench$Squeezing" 32 ⟨"ArchiveBench$Row", "at", "(I)I"⟩ ∈ ab_T := ab_T_in (List.mem_append_right _ (List.mem_of_getElem? (i := 236) (by decide +kernel))) (by decide +kernel)
theorem ww_239 : Cond.code ⟨"ArchiveBench$Row", "at", "(I)I"⟩ prog_5_method_2_code 2 (some FieldType.int) ∈ ab_T := ab_T_in (List.mem_append_right _ (List.mem_of_getElem? (i := 239) (by decide +kernel))) (by decide +kernel)
theorem ww_237 : Cond.instanceMethod ⟨"ArchiveBench$Row", "at", "(I)I"⟩ ∈ ab_T := ab_T_in (List.mem_append_right _ (List.mem_of_getElem? (i := 237) (by decide +kernel))) (by decide +kernel)
theorem ww_238 : Cond.selects "ArchiveBench$Row" ⟨"ArchiveBench$Row", "at", "(I)I"⟩ ⟨"ArchiveBench$Row", "at", "(I)I"⟩ ∈ ab_T := ab_T_in (List.mem_append_right _ (List.mem_of_getElem? (i := 238) (by decide +kernel))) (by decide +kernel)
theorem km_Sq_32 : ab_kV "ArchiveBench$Squeezing" 32 mm_Row_at 1 := ⟨⟨by decide +kernel, ww_239, ww_236, ww_2, ⟨by decide, by decide, by decide +kernel⟩⟩, ww_237, ww_238⟩
theorem ww_240 : Cond.methodLink "ArchiveBench$Squeezing" 36 ⟨"ArchiveBench$Row", "appendTimes", "(II)Z"⟩ ∈ ab_T := ab_T_in (List.mem_append_right _ (List.mem_of_getElem? (i := 240) (by decide +kernel))) (by decide +kernel)
theorem km_Sq_36 : ab_kV "ArchiveBench$Squeezing" 36 mm_Row_appendTimes 2 := ⟨⟨by decide +kernel, ww_201, ww_240, ww_2, ⟨by decide, by decide, by decide +kernel⟩⟩, ww_199, ww_200⟩
theorem ww_241 : Cond.methodLink "ArchiveBench$Squeezing" 40 ⟨"ArchiveBench$Row", "append", "(I)Z"⟩ ∈ ab_T := ab_T_in (List.mem_append_right _ (List.mem_of_getElem? (i := 241) (by decide +kernel))) (by decide +kernel)
theorem km_Sq_40 : ab_kV "ArchiveBench$Squeezing" 40 mm_Row_append 1 := ⟨⟨by decide +kernel, ww_190, ww_241, ww_2, ⟨by decide, by decide, by decide +kernel⟩⟩, ww_188, ww_189⟩
theorem ww_245 : Cond.methodLink "ArchiveBench$Squeezing" 44 ⟨"ArchiveBench$Squeezing", "bestDistance", "(LArchiveBench$Row;I)I"⟩ ∈ ab_T := ab_T_in (List.mem_append_right _ (List.mem_of_getElem? (i := 245) (by decide +kernel))) (by decide +kernel)
theorem ww_247 : Cond.code ⟨"ArchiveBench$Squeezing", "bestDistance", "(LArchiveBench$Row;I)I"⟩ prog_6_method_5_code 6 (some FieldType.int) ∈ ab_T := ab_T_in (List.mem_append_right _ (List.mem_of_getElem? (i := 247) (by decide +kernel))) (by decide +kernel)
theorem ww_246 : Cond.static ⟨"ArchiveBench$Squeezing", "bestDistance", "(LArchiveBench$Row;I)I"⟩ ∈ ab_T := ab_T_in (List.mem_append_right _ (List.mem_of_getElem? (i := 246) (by decide +kernel))) (by decide +kernel)
theorem km_Sq_44 : ab_kS "ArchiveBench$Squeezing" 44 mm_Sq_bestDistance 2 := ⟨⟨by decide +kernel, ww_247, ww_245, ww_9, ⟨by decide, by decide, by decide +kernel⟩⟩, ww_246⟩
theorem ww_248 : Cond.methodLink "ArchiveBench$Squeezing" 48 ⟨"ArchiveBench$Squeezing", "copyLength", "(LArchiveBench$Row;II)I"⟩ ∈ ab_T := ab_T_in (List.mem_append_right _ (List.mem_of_getElem? (i := 248) (by decide +kernel))) (by decide +kernel)
theorem ww_250 : Cond.code ⟨"ArchiveBench$Squeezing", "copyLength", "(LArchiveBench$Row;II)I"⟩ prog_6_method_6_code 4 (some FieldType.int) ∈ ab_T := ab_T_in (List.mem_append_right _ (List.mem_of_getElem? (i := 250) (by decide +kernel))) (by decide +kernel)
theorem ww_249 : Cond.static ⟨"ArchiveBench$Squeezing", "copyLength", "(LArchiveBench$Row;II)I"⟩ ∈ ab_T := ab_T_in (List.mem_append_right _ (List.mem_of_getElem? (i := 249) (by decide +kernel))) (by decide +kernel)
theorem km_Sq_48 : ab_kS "ArchiveBench$Squeezing" 48 mm_Sq_copyLength 3 := ⟨⟨by decide +kernel, ww_250, ww_248, ww_9, ⟨by decide, by decide, by decide +kernel⟩⟩, ww_249⟩
theorem ww_251 : Cond.methodLink "ArchiveBench$Squeezing" 52 ⟨"ArchiveBench$Squeezing", "appendLiterals", "(LArchiveBench$Row;IILArchiveBench$Row;)V"⟩ ∈ ab_T := ab_T_in (List.mem_append_right _ (List.mem_of_getElem? (i := 251) (by decide +kernel))) (by decide +kernel)
theorem ww_253 : Cond.code ⟨"ArchiveBench$Squeezing", "appendLiterals", "(LArchiveBench$Row;IILArchiveBench$Row;)V"⟩ prog_6_method_7_code 6 none ∈ ab_T := ab_T_in (List.mem_append_right _ (List.mem_of_getElem? (i := 253) (by decide +kernel))) (by decide +kernel)
theorem ww_252 : Cond.static ⟨"ArchiveBench$Squeezing", "appendLiterals", "(LArchiveBench$Row;IILArchiveBench$Row;)V"⟩ ∈ ab_T := ab_T_in (List.mem_append_right _ (List.mem_of_getElem? (i := 252) (by decide +kernel))) (by decide +kernel)
theorem km_Sq_52 : ab_kS "ArchiveBench$Squeezing" 52 mm_Sq_appendLiterals 4 := ⟨⟨by decide +kernel, ww_253, ww_251, ww_9, ⟨by decide, by decide, by decide +kernel⟩⟩, ww_252⟩
theorem ww_254 : Cond.methodLink "ArchiveBench$Squeezing" 56 ⟨"java/lang/Math", "min", "(II)I"⟩ ∈ ab_T := ab_T_in (List.mem_append_right _ (List.mem_of_getElem? (i := 254) (by decide +kernel))) (by decide +kernel)
theorem ww_255 : Cond.static ⟨"java/lang/Math", "min", "(II)I"⟩ ∈ ab_T := ab_T_in (List.mem_append_right _ (List.mem_of_getElem? (i := 255) (by decide +kernel))) (by decide +kernel)
theorem ww_10 : Cond.initialized "java/lang/Math" ∈ ab_T := ab_T_in (List.mem_append_right _ (List.mem_of_getElem? (i := 10) (by decide +kernel))) (by decide +kernel)
theorem ww_256 : Cond.code ⟨"java/lang/Math", "min", "(II)I"⟩ prog_11_method_69_code 2 (some FieldType.int) ∈ ab_T := ab_T_in (List.mem_append_right _ (List.mem_of_getElem? (i := 256) (by decide +kernel))) (by decide +kernel)
theorem km_Sq_56 : Cond.methodLink "ArchiveBench$Squeezing" 56 Lib.Math.min.name ∈ ab_T ∧ Cond.static Lib.Math.min.name ∈ ab_T ∧ Cond.initialized "java/lang/Math" ∈ ab_T ∧ Cond.code Lib.Math.min.name Lib.Math.min.code 2 (some .int) ∈ ab_T := ⟨ww_254, ww_255, ww_10, ww_256⟩
theorem ww_257 : Cond.methodLink "ArchiveBench$Squeezing" 62 ⟨"ArchiveBench$Row", "appendPart", "(LArchiveBench$Row;II)Z"⟩ ∈ ab_T := ab_T_in (List.mem_append_right _ (List.mem_of_getElem? (i := 257) (by decide +kernel))) (by decide +kernel)
theorem km_Sq_62 : ab_kV "ArchiveBench$Squeezing" 62 mm_Row_appendPart 3 := ⟨⟨by decide +kernel, ww_225, ww_257, ww_2, ⟨by decide, by decide, by decide +kernel⟩⟩, ww_223, ww_224⟩
theorem ww_264 : Cond.methodLink "ArchiveBench$Row" 19 ⟨"ArchiveBench$Row", "at", "(I)I"⟩ ∈ ab_T := ab_T_in (List.mem_append_right _ (List.mem_of_getElem? (i := 264) (by decide +kernel))) (by decide +kernel)
theorem km_Row_19 : ab_kV "ArchiveBench$Row" 19 mm_Row_at 1 := ⟨⟨by decide +kernel, ww_239, ww_264, ww_2, ⟨by decide, by decide, by decide +kernel⟩⟩, ww_237, ww_238⟩
theorem ww_265 : Cond.methodLink "ArchiveBench$Row" 46 ⟨"ArchiveBench$Row", "checkWith", "(II)I"⟩ ∈ ab_T := ab_T_in (List.mem_append_right _ (List.mem_of_getElem? (i := 265) (by decide +kernel))) (by decide +kernel)
theorem ww_267 : Cond.code ⟨"ArchiveBench$Row", "checkWith", "(II)I"⟩ prog_5_method_15_code 5 (some FieldType.int) ∈ ab_T := ab_T_in (List.mem_append_right _ (List.mem_of_getElem? (i := 267) (by decide +kernel))) (by decide +kernel)
theorem ww_266 : Cond.static ⟨"ArchiveBench$Row", "checkWith", "(II)I"⟩ ∈ ab_T := ab_T_in (List.mem_append_right _ (List.mem_of_getElem? (i := 266) (by decide +kernel))) (by decide +kernel)
theorem km_Row_46 : ab_kS "ArchiveBench$Row" 46 mm_Row_checkWith 2 := ⟨⟨by decide +kernel, ww_267, ww_265, ww_2, ⟨by decide, by decide, by decide +kernel⟩⟩, ww_266⟩
theorem ww_273 : Cond.methodLink "ArchiveBench" 75 ⟨"ArchiveBench$Packer", "draftChain", "()V"⟩ ∈ ab_T := ab_T_in (List.mem_append_right _ (List.mem_of_getElem? (i := 273) (by decide +kernel))) (by decide +kernel)
theorem ww_276 : Cond.code ⟨"ArchiveBench$Packer", "draftChain", "()V"⟩ prog_4_method_2_code 2 none ∈ ab_T := ab_T_in (List.mem_append_right _ (List.mem_of_getElem? (i := 276) (by decide +kernel))) (by decide +kernel)
theorem ww_274 : Cond.instanceMethod ⟨"ArchiveBench$Packer", "draftChain", "()V"⟩ ∈ ab_T := ab_T_in (List.mem_append_right _ (List.mem_of_getElem? (i := 274) (by decide +kernel))) (by decide +kernel)
theorem ww_275 : Cond.selects "ArchiveBench$Packer" ⟨"ArchiveBench$Packer", "draftChain", "()V"⟩ ⟨"ArchiveBench$Packer", "draftChain", "()V"⟩ ∈ ab_T := ab_T_in (List.mem_append_right _ (List.mem_of_getElem? (i := 275) (by decide +kernel))) (by decide +kernel)
theorem km_AB_75 : ab_kV "ArchiveBench" 75 mm_Pk_draftChain 0 := ⟨⟨by decide +kernel, ww_276, ww_273, ww_3, ⟨by decide, by decide, by decide +kernel⟩⟩, ww_274, ww_275⟩
theorem ww_307 : Cond.methodLink "ArchiveBench" 78 ⟨"ArchiveBench$Packer", "draftIndex", "()V"⟩ ∈ ab_T := ab_T_in (List.mem_append_right _ (List.mem_of_getElem? (i := 307) (by decide +kernel))) (by decide +kernel)
theorem ww_310 : Cond.code ⟨"ArchiveBench$Packer", "draftIndex", "()V"⟩ prog_4_method_4_code 3 none ∈ ab_T := ab_T_in (List.mem_append_right _ (List.mem_of_getElem? (i := 310) (by decide +kernel))) (by decide +kernel)
theorem ww_308 : Cond.instanceMethod ⟨"ArchiveBench$Packer", "draftIndex", "()V"⟩ ∈ ab_T := ab_T_in (List.mem_append_right _ (List.mem_of_getElem? (i := 308) (by decide +kernel))) (by decide +kernel)
theorem ww_309 : Cond.selects "ArchiveBench$Packer" ⟨"ArchiveBench$Packer", "draftIndex", "()V"⟩ ⟨"ArchiveBench$Packer", "draftIndex", "()V"⟩ ∈ ab_T := ab_T_in (List.mem_append_right _ (List.mem_of_getElem? (i := 309) (by decide +kernel))) (by decide +kernel)
theorem km_AB_78 : ab_kV "ArchiveBench" 78 mm_Pk_draftIndex 0 := ⟨⟨by decide +kernel, ww_310, ww_307, ww_3, ⟨by decide, by decide, by decide +kernel⟩⟩, ww_308, ww_309⟩
theorem ww_317 : Cond.methodLink "ArchiveBench" 87 ⟨"ArchiveBench$Row", "become", "(LArchiveBench$Row;)V"⟩ ∈ ab_T := ab_T_in (List.mem_append_right _ (List.mem_of_getElem? (i := 317) (by decide +kernel))) (by decide +kernel)
theorem km_AB_87 : ab_kV "ArchiveBench" 87 mm_Row_become 1 := ⟨⟨by decide +kernel, ww_213, ww_317, ww_2, ⟨by decide, by decide, by decide +kernel⟩⟩, ww_211, ww_212⟩
theorem ww_318 : Cond.methodLink "ArchiveBench" 90 ⟨"ArchiveBench$Archive", "close", "()V"⟩ ∈ ab_T := ab_T_in (List.mem_append_right _ (List.mem_of_getElem? (i := 318) (by decide +kernel))) (by decide +kernel)
theorem ww_321 : Cond.code ⟨"ArchiveBench$Archive", "close", "()V"⟩ prog_2_method_2_code 1 none ∈ ab_T := ab_T_in (List.mem_append_right _ (List.mem_of_getElem? (i := 321) (by decide +kernel))) (by decide +kernel)
theorem ww_319 : Cond.instanceMethod ⟨"ArchiveBench$Archive", "close", "()V"⟩ ∈ ab_T := ab_T_in (List.mem_append_right _ (List.mem_of_getElem? (i := 319) (by decide +kernel))) (by decide +kernel)
theorem ww_320 : Cond.selects "ArchiveBench$Archive" ⟨"ArchiveBench$Archive", "close", "()V"⟩ ⟨"ArchiveBench$Archive", "close", "()V"⟩ ∈ ab_T := ab_T_in (List.mem_append_right _ (List.mem_of_getElem? (i := 320) (by decide +kernel))) (by decide +kernel)
theorem km_AB_90 : ab_kV "ArchiveBench" 90 mm_Ar_close 0 := ⟨⟨by decide +kernel, ww_321, ww_318, ww_5, ⟨by decide, by decide, by decide +kernel⟩⟩, ww_319, ww_320⟩
theorem ww_277 : Cond.methodLink "ArchiveBench$Packer" 31 ⟨"ArchiveBench$Row", "cutTo", "(I)V"⟩ ∈ ab_T := ab_T_in (List.mem_append_right _ (List.mem_of_getElem? (i := 277) (by decide +kernel))) (by decide +kernel)
theorem km_Pk_31 : ab_kV "ArchiveBench$Packer" 31 mm_Row_cutTo 1 := ⟨⟨by decide +kernel, ww_217, ww_277, ww_2, ⟨by decide, by decide, by decide +kernel⟩⟩, ww_215, ww_216⟩
theorem ww_278 : Cond.methodLink "ArchiveBench$Packer" 34 ⟨"ArchiveBench$Packer", "appendRecord", "(LArchiveBench$WaitingFile;)V"⟩ ∈ ab_T := ab_T_in (List.mem_append_right _ (List.mem_of_getElem? (i := 278) (by decide +kernel))) (by decide +kernel)
theorem ww_281 : Cond.code ⟨"ArchiveBench$Packer", "appendRecord", "(LArchiveBench$WaitingFile;)V"⟩ prog_4_method_3_code 3 none ∈ ab_T := ab_T_in (List.mem_append_right _ (List.mem_of_getElem? (i := 281) (by decide +kernel))) (by decide +kernel)
theorem ww_280 : Cond.instanceMethod ⟨"ArchiveBench$Packer", "appendRecord", "(LArchiveBench$WaitingFile;)V"⟩ ∈ ab_T := ab_T_in (List.mem_append_right _ (List.mem_of_getElem? (i := 280) (by decide +kernel))) (by decide +kernel)
theorem wp_0 : Cond.selects "ArchiveBench$Packer" ⟨"ArchiveBench$Packer", "appendRecord", "(LArchiveBench$WaitingFile;)V"⟩ ⟨"ArchiveBench$Packer", "appendRecord", "(LArchiveBench$WaitingFile;)V"⟩ ∈ ab_T := ab_T_in (List.mem_append_left _ (List.mem_of_getElem? (i := 0) (by decide +kernel))) (by decide +kernel)
theorem km_Pk_34 : ab_kV "ArchiveBench$Packer" 34 mm_Pk_appendRecord 1 := ⟨⟨by decide +kernel, ww_281, ww_278, ww_3, ⟨by decide, by decide, by decide +kernel⟩⟩, ww_280, wp_0⟩
theorem ww_282 : Cond.methodLink "ArchiveBench$Packer" 38 ⟨"ArchiveBench$Row", "append", "(I)Z"⟩ ∈ ab_T := ab_T_in (List.mem_append_right _ (List.mem_of_getElem? (i := 282) (by decide +kernel))) (by decide +kernel)
theorem km_Pk_38 : ab_kV "ArchiveBench$Packer" 38 mm_Row_append 1 := ⟨⟨by decide +kernel, ww_190, ww_282, ww_2, ⟨by decide, by decide, by decide +kernel⟩⟩, ww_188, ww_189⟩
theorem ww_283 : Cond.methodLink "ArchiveBench$Packer" 45 ⟨"ArchiveBench$WaitingFile", "appendMethodAndName", "(LArchiveBench$Row;)V"⟩ ∈ ab_T := ab_T_in (List.mem_append_right _ (List.mem_of_getElem? (i := 283) (by decide +kernel))) (by decide +kernel)
theorem ww_286 : Cond.code ⟨"ArchiveBench$WaitingFile", "appendMethodAndName", "(LArchiveBench$Row;)V"⟩ prog_8_method_3_code 2 none ∈ ab_T := ab_T_in (List.mem_append_right _ (List.mem_of_getElem? (i := 286) (by decide +kernel))) (by decide +kernel)
theorem ww_284 : Cond.instanceMethod ⟨"ArchiveBench$WaitingFile", "appendMethodAndName", "(LArchiveBench$Row;)V"⟩ ∈ ab_T := ab_T_in (List.mem_append_right _ (List.mem_of_getElem? (i := 284) (by decide +kernel))) (by decide +kernel)
theorem ww_285 : Cond.selects "ArchiveBench$WaitingFile" ⟨"ArchiveBench$WaitingFile", "appendMethodAndName", "(LArchiveBench$Row;)V"⟩ ⟨"ArchiveBench$WaitingFile", "appendMethodAndName", "(LArchiveBench$Row;)V"⟩ ∈ ab_T := ab_T_in (List.mem_append_right _ (List.mem_of_getElem? (i := 285) (by decide +kernel))) (by decide +kernel)
theorem km_Pk_45 : ab_kV "ArchiveBench$Packer" 45 mm_WF_appendMethodAndName 1 := ⟨⟨by decide +kernel, ww_286, ww_283, ww_4, ⟨by decide, by decide, by decide +kernel⟩⟩, ww_284, ww_285⟩
theorem ww_289 : Cond.methodLink "ArchiveBench$Packer" 49 ⟨"ArchiveBench$WaitingFile", "appendLengthsAndCheck", "(LArchiveBench$Row;)V"⟩ ∈ ab_T := ab_T_in (List.mem_append_right _ (List.mem_of_getElem? (i := 289) (by decide +kernel))) (by decide +kernel)
theorem ww_292 : Cond.code ⟨"ArchiveBench$WaitingFile", "appendLengthsAndCheck", "(LArchiveBench$Row;)V"⟩ prog_8_method_4_code 2 none ∈ ab_T := ab_T_in (List.mem_append_right _ (List.mem_of_getElem? (i := 292) (by decide +kernel))) (by decide +kernel)
theorem ww_290 : Cond.instanceMethod ⟨"ArchiveBench$WaitingFile", "appendLengthsAndCheck", "(LArchiveBench$Row;)V"⟩ ∈ ab_T := ab_T_in (List.mem_append_right _ (List.mem_of_getElem? (i := 290) (by decide +kernel))) (by decide +kernel)
theorem ww_291 : Cond.selects "ArchiveBench$WaitingFile" ⟨"ArchiveBench$WaitingFile", "appendLengthsAndCheck", "(LArchiveBench$Row;)V"⟩ ⟨"ArchiveBench$WaitingFile", "appendLengthsAndCheck", "(LArchiveBench$Row;)V"⟩ ∈ ab_T := ab_T_in (List.mem_append_right _ (List.mem_of_getElem? (i := 291) (by decide +kernel))) (by decide +kernel)
theorem km_Pk_49 : ab_kV "ArchiveBench$Packer" 49 mm_WF_appendLengthsAndCheck 1 := ⟨⟨by decide +kernel, ww_292, ww_289, ww_4, ⟨by decide, by decide, by decide +kernel⟩⟩, ww_290, ww_291⟩
theorem ww_298 : Cond.methodLink "ArchiveBench$Packer" 52 ⟨"ArchiveBench$Row", "sum", "(II)I"⟩ ∈ ab_T := ab_T_in (List.mem_append_right _ (List.mem_of_getElem? (i := 298) (by decide +kernel))) (by decide +kernel)
theorem ww_301 : Cond.code ⟨"ArchiveBench$Row", "sum", "(II)I"⟩ prog_5_method_13_code 5 (some FieldType.int) ∈ ab_T := ab_T_in (List.mem_append_right _ (List.mem_of_getElem? (i := 301) (by decide +kernel))) (by decide +kernel)
theorem ww_299 : Cond.instanceMethod ⟨"ArchiveBench$Row", "sum", "(II)I"⟩ ∈ ab_T := ab_T_in (List.mem_append_right _ (List.mem_of_getElem? (i := 299) (by decide +kernel))) (by decide +kernel)
theorem ww_300 : Cond.selects "ArchiveBench$Row" ⟨"ArchiveBench$Row", "sum", "(II)I"⟩ ⟨"ArchiveBench$Row", "sum", "(II)I"⟩ ∈ ab_T := ab_T_in (List.mem_append_right _ (List.mem_of_getElem? (i := 300) (by decide +kernel))) (by decide +kernel)
theorem km_Pk_52 : ab_kV "ArchiveBench$Packer" 52 mm_Row_sum 2 := ⟨⟨by decide +kernel, ww_301, ww_298, ww_2, ⟨by decide, by decide, by decide +kernel⟩⟩, ww_299, ww_300⟩
theorem ww_302 : Cond.methodLink "ArchiveBench$Packer" 59 ⟨"ArchiveBench$Row", "appendAll", "(LArchiveBench$Row;)V"⟩ ∈ ab_T := ab_T_in (List.mem_append_right _ (List.mem_of_getElem? (i := 302) (by decide +kernel))) (by decide +kernel)
theorem km_Pk_59 : ab_kV "ArchiveBench$Packer" 59 mm_Row_appendAll 1 := ⟨⟨by decide +kernel, ww_221, ww_302, ww_2, ⟨by decide, by decide, by decide +kernel⟩⟩, ww_219, ww_220⟩
theorem ww_303 : Cond.methodLink "ArchiveBench$Packer" 62 ⟨"ArchiveBench$Packer", "zerosBehind", "(I)I"⟩ ∈ ab_T := ab_T_in (List.mem_append_right _ (List.mem_of_getElem? (i := 303) (by decide +kernel))) (by decide +kernel)
theorem ww_305 : Cond.code ⟨"ArchiveBench$Packer", "zerosBehind", "(I)I"⟩ prog_4_method_6_code 1 (some FieldType.int) ∈ ab_T := ab_T_in (List.mem_append_right _ (List.mem_of_getElem? (i := 305) (by decide +kernel))) (by decide +kernel)
theorem ww_304 : Cond.static ⟨"ArchiveBench$Packer", "zerosBehind", "(I)I"⟩ ∈ ab_T := ab_T_in (List.mem_append_right _ (List.mem_of_getElem? (i := 304) (by decide +kernel))) (by decide +kernel)
theorem km_Pk_62 : ab_kS "ArchiveBench$Packer" 62 mm_Pk_zerosBehind 1 := ⟨⟨by decide +kernel, ww_305, ww_303, ww_3, ⟨by decide, by decide, by decide +kernel⟩⟩, ww_304⟩
theorem ww_306 : Cond.methodLink "ArchiveBench$Packer" 66 ⟨"ArchiveBench$Row", "appendTimes", "(II)Z"⟩ ∈ ab_T := ab_T_in (List.mem_append_right _ (List.mem_of_getElem? (i := 306) (by decide +kernel))) (by decide +kernel)
theorem km_Pk_66 : ab_kV "ArchiveBench$Packer" 66 mm_Row_appendTimes 2 := ⟨⟨by decide +kernel, ww_201, ww_306, ww_2, ⟨by decide, by decide, by decide +kernel⟩⟩, ww_199, ww_200⟩
theorem ww_287 : Cond.methodLink "ArchiveBench$WaitingFile" 47 ⟨"ArchiveBench$Row", "append", "(I)Z"⟩ ∈ ab_T := ab_T_in (List.mem_append_right _ (List.mem_of_getElem? (i := 287) (by decide +kernel))) (by decide +kernel)
theorem km_WF_47 : ab_kV "ArchiveBench$WaitingFile" 47 mm_Row_append 1 := ⟨⟨by decide +kernel, ww_190, ww_287, ww_2, ⟨by decide, by decide, by decide +kernel⟩⟩, ww_188, ww_189⟩
theorem ww_288 : Cond.methodLink "ArchiveBench$WaitingFile" 51 ⟨"ArchiveBench$Row", "appendAll", "(LArchiveBench$Row;)V"⟩ ∈ ab_T := ab_T_in (List.mem_append_right _ (List.mem_of_getElem? (i := 288) (by decide +kernel))) (by decide +kernel)
theorem km_WF_51 : ab_kV "ArchiveBench$WaitingFile" 51 mm_Row_appendAll 1 := ⟨⟨by decide +kernel, ww_221, ww_288, ww_2, ⟨by decide, by decide, by decide +kernel⟩⟩, ww_219, ww_220⟩
theorem ww_293 : Cond.methodLink "ArchiveBench$WaitingFile" 54 ⟨"ArchiveBench$Row", "appendNumber", "(I)V"⟩ ∈ ab_T := ab_T_in (List.mem_append_right _ (List.mem_of_getElem? (i := 293) (by decide +kernel))) (by decide +kernel)
theorem ww_296 : Cond.code ⟨"ArchiveBench$Row", "appendNumber", "(I)V"⟩ prog_5_method_8_code 2 none ∈ ab_T := ab_T_in (List.mem_append_right _ (List.mem_of_getElem? (i := 296) (by decide +kernel))) (by decide +kernel)
theorem ww_294 : Cond.instanceMethod ⟨"ArchiveBench$Row", "appendNumber", "(I)V"⟩ ∈ ab_T := ab_T_in (List.mem_append_right _ (List.mem_of_getElem? (i := 294) (by decide +kernel))) (by decide +kernel)
theorem ww_295 : Cond.selects "ArchiveBench$Row" ⟨"ArchiveBench$Row", "appendNumber", "(I)V"⟩ ⟨"ArchiveBench$Row", "appendNumber", "(I)V"⟩ ∈ ab_T := ab_T_in (List.mem_append_right _ (List.mem_of_getElem? (i := 295) (by decide +kernel))) (by decide +kernel)
theorem km_WF_54 : ab_kV "ArchiveBench$WaitingFile" 54 mm_Row_appendNumber 1 := ⟨⟨by decide +kernel, ww_296, ww_293, ww_2, ⟨by decide, by decide, by decide +kernel⟩⟩, ww_294, ww_295⟩
theorem ww_297 : Cond.methodLink "ArchiveBench$Row" 23 ⟨"ArchiveBench$Row", "append", "(I)Z"⟩ ∈ ab_T := ab_T_in (List.mem_append_right _ (List.mem_of_getElem? (i := 297) (by decide +kernel))) (by decide +kernel)
theorem km_Row_23 : ab_kV "ArchiveBench$Row" 23 mm_Row_append 1 := ⟨⟨by decide +kernel, ww_190, ww_297, ww_2, ⟨by decide, by decide, by decide +kernel⟩⟩, ww_188, ww_189⟩
theorem ww_311 : Cond.methodLink "ArchiveBench$Packer" 73 ⟨"ArchiveBench$Packer", "appendEntry", "(LArchiveBench$WaitingFile;)V"⟩ ∈ ab_T := ab_T_in (List.mem_append_right _ (List.mem_of_getElem? (i := 311) (by decide +kernel))) (by decide +kernel)
theorem ww_314 : Cond.code ⟨"ArchiveBench$Packer", "appendEntry", "(LArchiveBench$WaitingFile;)V"⟩ prog_4_method_5_code 2 none ∈ ab_T := ab_T_in (List.mem_append_right _ (List.mem_of_getElem? (i := 314) (by decide +kernel))) (by decide +kernel)
theorem ww_313 : Cond.instanceMethod ⟨"ArchiveBench$Packer", "appendEntry", "(LArchiveBench$WaitingFile;)V"⟩ ∈ ab_T := ab_T_in (List.mem_append_right _ (List.mem_of_getElem? (i := 313) (by decide +kernel))) (by decide +kernel)
theorem wp_1 : Cond.selects "ArchiveBench$Packer" ⟨"ArchiveBench$Packer", "appendEntry", "(LArchiveBench$WaitingFile;)V"⟩ ⟨"ArchiveBench$Packer", "appendEntry", "(LArchiveBench$WaitingFile;)V"⟩ ∈ ab_T := ab_T_in (List.mem_append_left _ (List.mem_of_getElem? (i := 1) (by decide +kernel))) (by decide +kernel)
theorem km_Pk_73 : ab_kV "ArchiveBench$Packer" 73 mm_Pk_appendEntry 1 := ⟨⟨by decide +kernel, ww_314, ww_311, ww_3, ⟨by decide, by decide, by decide +kernel⟩⟩, ww_313, wp_1⟩
theorem ww_316 : Cond.methodLink "ArchiveBench$Packer" 76 ⟨"ArchiveBench$Row", "check", "(II)I"⟩ ∈ ab_T := ab_T_in (List.mem_append_right _ (List.mem_of_getElem? (i := 316) (by decide +kernel))) (by decide +kernel)
theorem km_Pk_76 : ab_kV "ArchiveBench$Packer" 76 mm_Row_check 2 := ⟨⟨by decide +kernel, ww_262, ww_316, ww_2, ⟨by decide, by decide, by decide +kernel⟩⟩, ww_260, ww_261⟩
theorem ww_315 : Cond.methodLink "ArchiveBench$Packer" 79 ⟨"ArchiveBench$Row", "appendNumber", "(I)V"⟩ ∈ ab_T := ab_T_in (List.mem_append_right _ (List.mem_of_getElem? (i := 315) (by decide +kernel))) (by decide +kernel)
theorem km_Pk_79 : ab_kV "ArchiveBench$Packer" 79 mm_Row_appendNumber 1 := ⟨⟨by decide +kernel, ww_296, ww_315, ww_2, ⟨by decide, by decide, by decide +kernel⟩⟩, ww_294, ww_295⟩
theorem ww_326 : Cond.methodLink "ArchiveBench" 93 ⟨"ArchiveBench$Row", "set", "(II)V"⟩ ∈ ab_T := ab_T_in (List.mem_append_right _ (List.mem_of_getElem? (i := 326) (by decide +kernel))) (by decide +kernel)
theorem ww_329 : Cond.code ⟨"ArchiveBench$Row", "set", "(II)V"⟩ prog_5_method_4_code 3 none ∈ ab_T := ab_T_in (List.mem_append_right _ (List.mem_of_getElem? (i := 329) (by decide +kernel))) (by decide +kernel)
theorem ww_327 : Cond.instanceMethod ⟨"ArchiveBench$Row", "set", "(II)V"⟩ ∈ ab_T := ab_T_in (List.mem_append_right _ (List.mem_of_getElem? (i := 327) (by decide +kernel))) (by decide +kernel)
theorem ww_328 : Cond.selects "ArchiveBench$Row" ⟨"ArchiveBench$Row", "set", "(II)V"⟩ ⟨"ArchiveBench$Row", "set", "(II)V"⟩ ∈ ab_T := ab_T_in (List.mem_append_right _ (List.mem_of_getElem? (i := 328) (by decide +kernel))) (by decide +kernel)
theorem km_AB_93 : ab_kV "ArchiveBench" 93 mm_Row_set 2 := ⟨⟨by decide +kernel, ww_329, ww_326, ww_2, ⟨by decide, by decide, by decide +kernel⟩⟩, ww_327, ww_328⟩
theorem ww_338 : Cond.methodLink "ArchiveBench" 97 ⟨"ArchiveBench$Row", "at", "(I)I"⟩ ∈ ab_T := ab_T_in (List.mem_append_right _ (List.mem_of_getElem? (i := 338) (by decide +kernel))) (by decide +kernel)
theorem km_AB_97 : ab_kV "ArchiveBench" 97 mm_Row_at 1 := ⟨⟨by decide +kernel, ww_239, ww_338, ww_2, ⟨by decide, by decide, by decide +kernel⟩⟩, ww_237, ww_238⟩
theorem ww_343 : Cond.methodLink "ArchiveBench" 101 ⟨"ArchiveBench$Archive", "openChain", "()I"⟩ ∈ ab_T := ab_T_in (List.mem_append_right _ (List.mem_of_getElem? (i := 343) (by decide +kernel))) (by decide +kernel)
theorem ww_346 : Cond.code ⟨"ArchiveBench$Archive", "openChain", "()I"⟩ prog_2_method_7_code 5 (some FieldType.int) ∈ ab_T := ab_T_in (List.mem_append_right _ (List.mem_of_getElem? (i := 346) (by decide +kernel))) (by decide +kernel)
theorem ww_344 : Cond.instanceMethod ⟨"ArchiveBench$Archive", "openChain", "()I"⟩ ∈ ab_T := ab_T_in (List.mem_append_right _ (List.mem_of_getElem? (i := 344) (by decide +kernel))) (by decide +kernel)
theorem ww_345 : Cond.selects "ArchiveBench$Archive" ⟨"ArchiveBench$Archive", "openChain", "()I"⟩ ⟨"ArchiveBench$Archive", "openChain", "()I"⟩ ∈ ab_T := ab_T_in (List.mem_append_right _ (List.mem_of_getElem? (i := 345) (by decide +kernel))) (by decide +kernel)
theorem km_AB_101 : ab_kV "ArchiveBench" 101 mm_Ar_openChain 0 := ⟨⟨by decide +kernel, ww_346, ww_343, ww_5, ⟨by decide, by decide, by decide +kernel⟩⟩, ww_344, ww_345⟩
theorem ww_389 : Cond.methodLink "ArchiveBench" 105 ⟨"ArchiveBench$Archive", "openIndex", "()I"⟩ ∈ ab_T := ab_T_in (List.mem_append_right _ (List.mem_of_getElem? (i := 389) (by decide +kernel))) (by decide +kernel)
theorem ww_392 : Cond.code ⟨"ArchiveBench$Archive", "openIndex", "()I"⟩ prog_2_method_10_code 6 (some FieldType.int) ∈ ab_T := ab_T_in (List.mem_append_right _ (List.mem_of_getElem? (i := 392) (by decide +kernel))) (by decide +kernel)
theorem ww_390 : Cond.instanceMethod ⟨"ArchiveBench$Archive", "openIndex", "()I"⟩ ∈ ab_T := ab_T_in (List.mem_append_right _ (List.mem_of_getElem? (i := 390) (by decide +kernel))) (by decide +kernel)
theorem ww_391 : Cond.selects "ArchiveBench$Archive" ⟨"ArchiveBench$Archive", "openIndex", "()I"⟩ ⟨"ArchiveBench$Archive", "openIndex", "()I"⟩ ∈ ab_T := ab_T_in (List.mem_append_right _ (List.mem_of_getElem? (i := 391) (by decide +kernel))) (by decide +kernel)
theorem km_AB_105 : ab_kV "ArchiveBench" 105 mm_Ar_openIndex 0 := ⟨⟨by decide +kernel, ww_392, ww_389, ww_5, ⟨by decide, by decide, by decide +kernel⟩⟩, ww_390, ww_391⟩
theorem ww_406 : Cond.methodLink "ArchiveBench" 108 ⟨"ArchiveBench$Archive", "stop", "(II)I"⟩ ∈ ab_T := ab_T_in (List.mem_append_right _ (List.mem_of_getElem? (i := 406) (by decide +kernel))) (by decide +kernel)
theorem ww_358 : Cond.code ⟨"ArchiveBench$Archive", "stop", "(II)I"⟩ prog_2_method_5_code 3 (some FieldType.int) ∈ ab_T := ab_T_in (List.mem_append_right _ (List.mem_of_getElem? (i := 358) (by decide +kernel))) (by decide +kernel)
theorem ww_356 : Cond.instanceMethod ⟨"ArchiveBench$Archive", "stop", "(II)I"⟩ ∈ ab_T := ab_T_in (List.mem_append_right _ (List.mem_of_getElem? (i := 356) (by decide +kernel))) (by decide +kernel)
theorem ww_357 : Cond.selects "ArchiveBench$Archive" ⟨"ArchiveBench$Archive", "stop", "(II)I"⟩ ⟨"ArchiveBench$Archive", "stop", "(II)I"⟩ ∈ ab_T := ab_T_in (List.mem_append_right _ (List.mem_of_getElem? (i := 357) (by decide +kernel))) (by decide +kernel)
theorem km_AB_108 : ab_kV "ArchiveBench" 108 mm_Ar_stop 2 := ⟨⟨by decide +kernel, ww_358, ww_406, ww_5, ⟨by decide, by decide, by decide +kernel⟩⟩, ww_356, ww_357⟩
theorem ww_347 : Cond.methodLink "ArchiveBench$Archive" 50 ⟨"ArchiveBench$Archive", "start", "(II)V"⟩ ∈ ab_T := ab_T_in (List.mem_append_right _ (List.mem_of_getElem? (i := 347) (by decide +kernel))) (by decide +kernel)
theorem ww_350 : Cond.code ⟨"ArchiveBench$Archive", "start", "(II)V"⟩ prog_2_method_6_code 3 none ∈ ab_T := ab_T_in (List.mem_append_right _ (List.mem_of_getElem? (i := 350) (by decide +kernel))) (by decide +kernel)
theorem ww_349 : Cond.instanceMethod ⟨"ArchiveBench$Archive", "start", "(II)V"⟩ ∈ ab_T := ab_T_in (List.mem_append_right _ (List.mem_of_getElem? (i := 349) (by decide +kernel))) (by decide +kernel)
theorem wp_2 : Cond.selects "ArchiveBench$Archive" ⟨"ArchiveBench$Archive", "start", "(II)V"⟩ ⟨"ArchiveBench$Archive", "start", "(II)V"⟩ ∈ ab_T := ab_T_in (List.mem_append_left _ (List.mem_of_getElem? (i := 2) (by decide +kernel))) (by decide +kernel)
theorem km_Ar_50 : ab_kV "ArchiveBench$Archive" 50 mm_Ar_start 2 := ⟨⟨by decide +kernel, ww_350, ww_347, ww_5, ⟨by decide, by decide, by decide +kernel⟩⟩, ww_349, wp_2⟩
theorem ww_351 : Cond.methodLink "ArchiveBench$Archive" 54 ⟨"ArchiveBench$Archive", "readByte", "()I"⟩ ∈ ab_T := ab_T_in (List.mem_append_right _ (List.mem_of_getElem? (i := 351) (by decide +kernel))) (by decide +kernel)
theorem ww_354 : Cond.code ⟨"ArchiveBench$Archive", "readByte", "()I"⟩ prog_2_method_17_code 2 (some FieldType.int) ∈ ab_T := ab_T_in (List.mem_append_right _ (List.mem_of_getElem? (i := 354) (by decide +kernel))) (by decide +kernel)
theorem ww_353 : Cond.instanceMethod ⟨"ArchiveBench$Archive", "readByte", "()I"⟩ ∈ ab_T := ab_T_in (List.mem_append_right _ (List.mem_of_getElem? (i := 353) (by decide +kernel))) (by decide +kernel)
theorem wp_3 : Cond.selects "ArchiveBench$Archive" ⟨"ArchiveBench$Archive", "readByte", "()I"⟩ ⟨"ArchiveBench$Archive", "readByte", "()I"⟩ ∈ ab_T := ab_T_in (List.mem_append_left _ (List.mem_of_getElem? (i := 3) (by decide +kernel))) (by decide +kernel)
theorem km_Ar_54 : ab_kV "ArchiveBench$Archive" 54 mm_Ar_readByte 0 := ⟨⟨by decide +kernel, ww_354, ww_351, ww_5, ⟨by decide, by decide, by decide +kernel⟩⟩, ww_353, wp_3⟩
theorem ww_355 : Cond.methodLink "ArchiveBench$Archive" 58 ⟨"ArchiveBench$Archive", "stop", "(II)I"⟩ ∈ ab_T := ab_T_in (List.mem_append_right _ (List.mem_of_getElem? (i := 355) (by decide +kernel))) (by decide +kernel)
theorem km_Ar_58 : ab_kV "ArchiveBench$Archive" 58 mm_Ar_stop 2 := ⟨⟨by decide +kernel, ww_358, ww_355, ww_5, ⟨by decide, by decide, by decide +kernel⟩⟩, ww_356, ww_357⟩
theorem ww_360 : Cond.methodLink "ArchiveBench$Archive" 62 ⟨"ArchiveBench$Archive", "readRecordHead", "(LArchiveBench$OpenFile;I)I"⟩ ∈ ab_T := ab_T_in (List.mem_append_right _ (List.mem_of_getElem? (i := 360) (by decide +kernel))) (by decide +kernel)
theorem ww_363 : Cond.code ⟨"ArchiveBench$Archive", "readRecordHead", "(LArchiveBench$OpenFile;I)I"⟩ prog_2_method_8_code 5 (some FieldType.int) ∈ ab_T := ab_T_in (List.mem_append_right _ (List.mem_of_getElem? (i := 363) (by decide +kernel))) (by decide +kernel)
theorem ww_362 : Cond.instanceMethod ⟨"ArchiveBench$Archive", "readRecordHead", "(LArchiveBench$OpenFile;I)I"⟩ ∈ ab_T := ab_T_in (List.mem_append_right _ (List.mem_of_getElem? (i := 362) (by decide +kernel))) (by decide +kernel)
theorem wp_4 : Cond.selects "ArchiveBench$Archive" ⟨"ArchiveBench$Archive", "readRecordHead", "(LArchiveBench$OpenFile;I)I"⟩ ⟨"ArchiveBench$Archive", "readRecordHead", "(LArchiveBench$OpenFile;I)I"⟩ ∈ ab_T := ab_T_in (List.mem_append_left _ (List.mem_of_getElem? (i := 4) (by decide +kernel))) (by decide +kernel)
theorem km_Ar_62 : ab_kV "ArchiveBench$Archive" 62 mm_Ar_readRecordHead 2 := ⟨⟨by decide +kernel, ww_363, ww_360, ww_5, ⟨by decide, by decide, by decide +kernel⟩⟩, ww_362, wp_4⟩
theorem ww_384 : Cond.methodLink "ArchiveBench$Archive" 66 ⟨"ArchiveBench$Archive", "passSqueezed", "(LArchiveBench$OpenFile;)I"⟩ ∈ ab_T := ab_T_in (List.mem_append_right _ (List.mem_of_getElem? (i := 384) (by decide +kernel))) (by decide +kernel)
theorem ww_387 : Cond.code ⟨"ArchiveBench$Archive", "passSqueezed", "(LArchiveBench$OpenFile;)I"⟩ prog_2_method_9_code 5 (some FieldType.int) ∈ ab_T := ab_T_in (List.mem_append_right _ (List.mem_of_getElem? (i := 387) (by decide +kernel))) (by decide +kernel)
theorem ww_386 : Cond.instanceMethod ⟨"ArchiveBench$Archive", "passSqueezed", "(LArchiveBench$OpenFile;)I"⟩ ∈ ab_T := ab_T_in (List.mem_append_right _ (List.mem_of_getElem? (i := 386) (by decide +kernel))) (by decide +kernel)
theorem wp_9 : Cond.selects "ArchiveBench$Archive" ⟨"ArchiveBench$Archive", "passSqueezed", "(LArchiveBench$OpenFile;)I"⟩ ⟨"ArchiveBench$Archive", "passSqueezed", "(LArchiveBench$OpenFile;)I"⟩ ∈ ab_T := ab_T_in (List.mem_append_left _ (List.mem_of_getElem? (i := 9) (by decide +kernel))) (by decide +kernel)
theorem km_Ar_66 : ab_kV "ArchiveBench$Archive" 66 mm_Ar_passSqueezed 1 := ⟨⟨by decide +kernel, ww_387, ww_384, ww_5, ⟨by decide, by decide, by decide +kernel⟩⟩, ww_386, wp_9⟩
theorem ww_359 : Cond.methodLink "ArchiveBench$Archive" 94 ⟨"ArchiveBench$Row", "at", "(I)I"⟩ ∈ ab_T := ab_T_in (List.mem_append_right _ (List.mem_of_getElem? (i := 359) (by decide +kernel))) (by decide +kernel)
theorem km_Ar_94 : ab_kV "ArchiveBench$Archive" 94 mm_Row_at 1 := ⟨⟨by decide +kernel, ww_239, ww_359, ww_2, ⟨by decide, by decide, by decide +kernel⟩⟩, ww_237, ww_238⟩
theorem ww_364 : Cond.methodLink "ArchiveBench$Archive" 70 ⟨"ArchiveBench$Archive", "readMethodAndName", "(LArchiveBench$OpenFile;)I"⟩ ∈ ab_T := ab_T_in (List.mem_append_right _ (List.mem_of_getElem? (i := 364) (by decide +kernel))) (by decide +kernel)
theorem ww_367 : Cond.code ⟨"ArchiveBench$Archive", "readMethodAndName", "(LArchiveBench$OpenFile;)I"⟩ prog_2_method_13_code 5 (some FieldType.int) ∈ ab_T := ab_T_in (List.mem_append_right _ (List.mem_of_getElem? (i := 367) (by decide +kernel))) (by decide +kernel)
theorem ww_366 : Cond.instanceMethod ⟨"ArchiveBench$Archive", "readMethodAndName", "(LArchiveBench$OpenFile;)I"⟩ ∈ ab_T := ab_T_in (List.mem_append_right _ (List.mem_of_getElem? (i := 366) (by decide +kernel))) (by decide +kernel)
theorem wp_5 : Cond.selects "ArchiveBench$Archive" ⟨"ArchiveBench$Archive", "readMethodAndName", "(LArchiveBench$OpenFile;)I"⟩ ⟨"ArchiveBench$Archive", "readMethodAndName", "(LArchiveBench$OpenFile;)I"⟩ ∈ ab_T := ab_T_in (List.mem_append_left _ (List.mem_of_getElem? (i := 5) (by decide +kernel))) (by decide +kernel)
theorem km_Ar_70 : ab_kV "ArchiveBench$Archive" 70 mm_Ar_readMethodAndName 1 := ⟨⟨by decide +kernel, ww_367, ww_364, ww_5, ⟨by decide, by decide, by decide +kernel⟩⟩, ww_366, wp_5⟩
theorem ww_375 : Cond.methodLink "ArchiveBench$Archive" 76 ⟨"ArchiveBench$Archive", "readLengthAndCheck", "(LArchiveBench$OpenFile;)I"⟩ ∈ ab_T := ab_T_in (List.mem_append_right _ (List.mem_of_getElem? (i := 375) (by decide +kernel))) (by decide +kernel)
theorem ww_378 : Cond.code ⟨"ArchiveBench$Archive", "readLengthAndCheck", "(LArchiveBench$OpenFile;)I"⟩ prog_2_method_14_code 2 (some FieldType.int) ∈ ab_T := ab_T_in (List.mem_append_right _ (List.mem_of_getElem? (i := 378) (by decide +kernel))) (by decide +kernel)
theorem ww_377 : Cond.instanceMethod ⟨"ArchiveBench$Archive", "readLengthAndCheck", "(LArchiveBench$OpenFile;)I"⟩ ∈ ab_T := ab_T_in (List.mem_append_right _ (List.mem_of_getElem? (i := 377) (by decide +kernel))) (by decide +kernel)
theorem wp_7 : Cond.selects "ArchiveBench$Archive" ⟨"ArchiveBench$Archive", "readLengthAndCheck", "(LArchiveBench$OpenFile;)I"⟩ ⟨"ArchiveBench$Archive", "readLengthAndCheck", "(LArchiveBench$OpenFile;)I"⟩ ∈ ab_T := ab_T_in (List.mem_append_left _ (List.mem_of_getElem? (i := 7) (by decide +kernel))) (by decide +kernel)
theorem km_Ar_76 : ab_kV "ArchiveBench$Archive" 76 mm_Ar_readLengthAndCheck 1 := ⟨⟨by decide +kernel, ww_378, ww_375, ww_5, ⟨by decide, by decide, by decide +kernel⟩⟩, ww_377, wp_7⟩
theorem ww_383 : Cond.methodLink "ArchiveBench$Archive" 79 ⟨"ArchiveBench$Row", "sum", "(II)I"⟩ ∈ ab_T := ab_T_in (List.mem_append_right _ (List.mem_of_getElem? (i := 383) (by decide +kernel))) (by decide +kernel)
theorem km_Ar_79 : ab_kV "ArchiveBench$Archive" 79 mm_Row_sum 2 := ⟨⟨by decide +kernel, ww_301, ww_383, ww_2, ⟨by decide, by decide, by decide +kernel⟩⟩, ww_299, ww_300⟩
theorem ww_368 : Cond.methodLink "ArchiveBench$Archive" 82 ⟨"ArchiveBench$Archive", "readBetween", "(II)I"⟩ ∈ ab_T := ab_T_in (List.mem_append_right _ (List.mem_of_getElem? (i := 368) (by decide +kernel))) (by decide +kernel)
theorem ww_371 : Cond.code ⟨"ArchiveBench$Archive", "readBetween", "(II)I"⟩ prog_2_method_16_code 4 (some FieldType.int) ∈ ab_T := ab_T_in (List.mem_append_right _ (List.mem_of_getElem? (i := 371) (by decide +kernel))) (by decide +kernel)
theorem ww_370 : Cond.instanceMethod ⟨"ArchiveBench$Archive", "readBetween", "(II)I"⟩ ∈ ab_T := ab_T_in (List.mem_append_right _ (List.mem_of_getElem? (i := 370) (by decide +kernel))) (by decide +kernel)
theorem wp_6 : Cond.selects "ArchiveBench$Archive" ⟨"ArchiveBench$Archive", "readBetween", "(II)I"⟩ ⟨"ArchiveBench$Archive", "readBetween", "(II)I"⟩ ∈ ab_T := ab_T_in (List.mem_append_left _ (List.mem_of_getElem? (i := 6) (by decide +kernel))) (by decide +kernel)
theorem km_Ar_82 : ab_kV "ArchiveBench$Archive" 82 mm_Ar_readBetween 2 := ⟨⟨by decide +kernel, ww_371, ww_368, ww_5, ⟨by decide, by decide, by decide +kernel⟩⟩, ww_370, wp_6⟩
theorem ww_372 : Cond.methodLink "ArchiveBench$Archive" 115 ⟨"ArchiveBench$Row", "cutTo", "(I)V"⟩ ∈ ab_T := ab_T_in (List.mem_append_right _ (List.mem_of_getElem? (i := 372) (by decide +kernel))) (by decide +kernel)
theorem km_Ar_115 : ab_kV "ArchiveBench$Archive" 115 mm_Row_cutTo 1 := ⟨⟨by decide +kernel, ww_217, ww_372, ww_2, ⟨by decide, by decide, by decide +kernel⟩⟩, ww_215, ww_216⟩
theorem km_Ar_118 : ab_kN "ArchiveBench$Archive" 118 mm_AB_isNameCharacter 1 "ArchiveBench" := ⟨by decide +kernel, ww_186, List.mem_of_getElem? (i := 0) rfl, ww_1, ⟨by decide, by decide, by decide +kernel⟩, ww_185⟩
theorem ww_374 : Cond.methodLink "ArchiveBench$Archive" 122 ⟨"ArchiveBench$Row", "append", "(I)Z"⟩ ∈ ab_T := ab_T_in (List.mem_append_right _ (List.mem_of_getElem? (i := 374) (by decide +kernel))) (by decide +kernel)
theorem km_Ar_122 : ab_kV "ArchiveBench$Archive" 122 mm_Row_append 1 := ⟨⟨by decide +kernel, ww_190, ww_374, ww_2, ⟨by decide, by decide, by decide +kernel⟩⟩, ww_188, ww_189⟩
theorem ww_379 : Cond.methodLink "ArchiveBench$Archive" 109 ⟨"ArchiveBench$Archive", "readNumber", "()I"⟩ ∈ ab_T := ab_T_in (List.mem_append_right _ (List.mem_of_getElem? (i := 379) (by decide +kernel))) (by decide +kernel)
theorem ww_382 : Cond.code ⟨"ArchiveBench$Archive", "readNumber", "()I"⟩ prog_2_method_15_code 3 (some FieldType.int) ∈ ab_T := ab_T_in (List.mem_append_right _ (List.mem_of_getElem? (i := 382) (by decide +kernel))) (by decide +kernel)
theorem ww_381 : Cond.instanceMethod ⟨"ArchiveBench$Archive", "readNumber", "()I"⟩ ∈ ab_T := ab_T_in (List.mem_append_right _ (List.mem_of_getElem? (i := 381) (by decide +kernel))) (by decide +kernel)
theorem wp_8 : Cond.selects "ArchiveBench$Archive" ⟨"ArchiveBench$Archive", "readNumber", "()I"⟩ ⟨"ArchiveBench$Archive", "readNumber", "()I"⟩ ∈ ab_T := ab_T_in (List.mem_append_left _ (List.mem_of_getElem? (i := 8) (by decide +kernel))) (by decide +kernel)
theorem km_Ar_109 : ab_kV "ArchiveBench$Archive" 109 mm_Ar_readNumber 0 := ⟨⟨by decide +kernel, ww_382, ww_379, ww_5, ⟨by decide, by decide, by decide +kernel⟩⟩, ww_381, wp_8⟩
theorem ww_388 : Cond.methodLink "ArchiveBench$Archive" 88 ⟨"ArchiveBench$Packer", "zerosBehind", "(I)I"⟩ ∈ ab_T := ab_T_in (List.mem_append_right _ (List.mem_of_getElem? (i := 388) (by decide +kernel))) (by decide +kernel)
theorem km_Ar_88 : ab_kS "ArchiveBench$Archive" 88 mm_Pk_zerosBehind 1 := ⟨⟨by decide +kernel, ww_305, ww_388, ww_3, ⟨by decide, by decide, by decide +kernel⟩⟩, ww_304⟩
theorem ww_393 : Cond.methodLink "ArchiveBench$Archive" 97 ⟨"ArchiveBench$Archive", "testTail", "(I)I"⟩ ∈ ab_T := ab_T_in (List.mem_append_right _ (List.mem_of_getElem? (i := 393) (by decide +kernel))) (by decide +kernel)
theorem ww_396 : Cond.code ⟨"ArchiveBench$Archive", "testTail", "(I)I"⟩ prog_2_method_11_code 3 (some FieldType.int) ∈ ab_T := ab_T_in (List.mem_append_right _ (List.mem_of_getElem? (i := 396) (by decide +kernel))) (by decide +kernel)
theorem ww_395 : Cond.instanceMethod ⟨"ArchiveBench$Archive", "testTail", "(I)I"⟩ ∈ ab_T := ab_T_in (List.mem_append_right _ (List.mem_of_getElem? (i := 395) (by decide +kernel))) (by decide +kernel)
theorem wp_10 : Cond.selects "ArchiveBench$Archive" ⟨"ArchiveBench$Archive", "testTail", "(I)I"⟩ ⟨"ArchiveBench$Archive", "testTail", "(I)I"⟩ ∈ ab_T := ab_T_in (List.mem_append_left _ (List.mem_of_getElem? (i := 10) (by decide +kernel))) (by decide +kernel)
theorem km_Ar_97 : ab_kV "ArchiveBench$Archive" 97 mm_Ar_testTail 1 := ⟨⟨by decide +kernel, ww_396, ww_393, ww_5, ⟨by decide, by decide, by decide +kernel⟩⟩, ww_395, wp_10⟩
theorem ww_397 : Cond.methodLink "ArchiveBench$Archive" 100 ⟨"ArchiveBench$Row", "numberAt", "(I)I"⟩ ∈ ab_T := ab_T_in (List.mem_append_right _ (List.mem_of_getElem? (i := 397) (by decide +kernel))) (by decide +kernel)
theorem ww_400 : Cond.code ⟨"ArchiveBench$Row", "numberAt", "(I)I"⟩ prog_5_method_3_code 2 (some FieldType.int) ∈ ab_T := ab_T_in (List.mem_append_right _ (List.mem_of_getElem? (i := 400) (by decide +kernel))) (by decide +kernel)
theorem ww_398 : Cond.instanceMethod ⟨"ArchiveBench$Row", "numberAt", "(I)I"⟩ ∈ ab_T := ab_T_in (List.mem_append_right _ (List.mem_of_getElem? (i := 398) (by decide +kernel))) (by decide +kernel)
theorem ww_399 : Cond.selects "ArchiveBench$Row" ⟨"ArchiveBench$Row", "numberAt", "(I)I"⟩ ⟨"ArchiveBench$Row", "numberAt", "(I)I"⟩ ∈ ab_T := ab_T_in (List.mem_append_right _ (List.mem_of_getElem? (i := 399) (by decide +kernel))) (by decide +kernel)
theorem km_Ar_100 : ab_kV "ArchiveBench$Archive" 100 mm_Row_numberAt 1 := ⟨⟨by decide +kernel, ww_400, ww_397, ww_2, ⟨by decide, by decide, by decide +kernel⟩⟩, ww_398, ww_399⟩
theorem ww_402 : Cond.methodLink "ArchiveBench$Archive" 103 ⟨"ArchiveBench$Archive", "readEntry", "(LArchiveBench$OpenFile;I)I"⟩ ∈ ab_T := ab_T_in (List.mem_append_right _ (List.mem_of_getElem? (i := 402) (by decide +kernel))) (by decide +kernel)
theorem ww_405 : Cond.code ⟨"ArchiveBench$Archive", "readEntry", "(LArchiveBench$OpenFile;I)I"⟩ prog_2_method_12_code 5 (some FieldType.int) ∈ ab_T := ab_T_in (List.mem_append_right _ (List.mem_of_getElem? (i := 405) (by decide +kernel))) (by decide +kernel)
theorem ww_404 : Cond.instanceMethod ⟨"ArchiveBench$Archive", "readEntry", "(LArchiveBench$OpenFile;I)I"⟩ ∈ ab_T := ab_T_in (List.mem_append_right _ (List.mem_of_getElem? (i := 404) (by decide +kernel))) (by decide +kernel)
theorem wp_11 : Cond.selects "ArchiveBench$Archive" ⟨"ArchiveBench$Archive", "readEntry", "(LArchiveBench$OpenFile;I)I"⟩ ⟨"ArchiveBench$Archive", "readEntry", "(LArchiveBench$OpenFile;I)I"⟩ ∈ ab_T := ab_T_in (List.mem_append_left _ (List.mem_of_getElem? (i := 11) (by decide +kernel))) (by decide +kernel)
theorem km_Ar_103 : ab_kV "ArchiveBench$Archive" 103 mm_Ar_readEntry 2 := ⟨⟨by decide +kernel, ww_405, ww_402, ww_5, ⟨by decide, by decide, by decide +kernel⟩⟩, ww_404, wp_11⟩
theorem ww_401 : Cond.methodLink "ArchiveBench$Archive" 106 ⟨"ArchiveBench$Row", "check", "(II)I"⟩ ∈ ab_T := ab_T_in (List.mem_append_right _ (List.mem_of_getElem? (i := 401) (by decide +kernel))) (by decide +kernel)
theorem km_Ar_106 : ab_kV "ArchiveBench$Archive" 106 mm_Row_check 2 := ⟨⟨by decide +kernel, ww_262, ww_401, ww_2, ⟨by decide, by decide, by decide +kernel⟩⟩, ww_260, ww_261⟩
theorem ww_415 : Cond.methodLink "ArchiveBench" 115 ⟨"ArchiveBench$Archive", "has", "(I)Z"⟩ ∈ ab_T := ab_T_in (List.mem_append_right _ (List.mem_of_getElem? (i := 415) (by decide +kernel))) (by decide +kernel)
theorem ww_418 : Cond.code ⟨"ArchiveBench$Archive", "has", "(I)Z"⟩ prog_2_method_3_code 2 (some FieldType.boolean) ∈ ab_T := ab_T_in (List.mem_append_right _ (List.mem_of_getElem? (i := 418) (by decide +kernel))) (by decide +kernel)
theorem ww_416 : Cond.instanceMethod ⟨"ArchiveBench$Archive", "has", "(I)Z"⟩ ∈ ab_T := ab_T_in (List.mem_append_right _ (List.mem_of_getElem? (i := 416) (by decide +kernel))) (by decide +kernel)
theorem ww_417 : Cond.selects "ArchiveBench$Archive" ⟨"ArchiveBench$Archive", "has", "(I)Z"⟩ ⟨"ArchiveBench$Archive", "has", "(I)Z"⟩ ∈ ab_T := ab_T_in (List.mem_append_right _ (List.mem_of_getElem? (i := 417) (by decide +kernel))) (by decide +kernel)
theorem km_AB_115 : ab_kV "ArchiveBench" 115 mm_Ar_has 1 := ⟨⟨by decide +kernel, ww_418, ww_415, ww_5, ⟨by decide, by decide, by decide +kernel⟩⟩, ww_416, ww_417⟩
theorem ww_419 : Cond.methodLink "ArchiveBench" 121 ⟨"ArchiveBench$OpenFile", "hasSafeName", "()Z"⟩ ∈ ab_T := ab_T_in (List.mem_append_right _ (List.mem_of_getElem? (i := 419) (by decide +kernel))) (by decide +kernel)
theorem ww_422 : Cond.code ⟨"ArchiveBench$OpenFile", "hasSafeName", "()Z"⟩ prog_3_method_3_code 3 (some FieldType.boolean) ∈ ab_T := ab_T_in (List.mem_append_right _ (List.mem_of_getElem? (i := 422) (by decide +kernel))) (by decide +kernel)
theorem ww_420 : Cond.instanceMethod ⟨"ArchiveBench$OpenFile", "hasSafeName", "()Z"⟩ ∈ ab_T := ab_T_in (List.mem_append_right _ (List.mem_of_getElem? (i := 420) (by decide +kernel))) (by decide +kernel)
theorem ww_421 : Cond.selects "ArchiveBench$OpenFile" ⟨"ArchiveBench$OpenFile", "hasSafeName", "()Z"⟩ ⟨"ArchiveBench$OpenFile", "hasSafeName", "()Z"⟩ ∈ ab_T := ab_T_in (List.mem_append_right _ (List.mem_of_getElem? (i := 421) (by decide +kernel))) (by decide +kernel)
theorem km_AB_121 : ab_kV "ArchiveBench" 121 mm_OF_hasSafeName 0 := ⟨⟨by decide +kernel, ww_422, ww_419, ww_6, ⟨by decide, by decide, by decide +kernel⟩⟩, ww_420, ww_421⟩
theorem ww_428 : Cond.methodLink "ArchiveBench" 127 ⟨"ArchiveBench$Archive", "hasNameBefore", "(I)Z"⟩ ∈ ab_T := ab_T_in (List.mem_append_right _ (List.mem_of_getElem? (i := 428) (by decide +kernel))) (by decide +kernel)
theorem ww_431 : Cond.code ⟨"ArchiveBench$Archive", "hasNameBefore", "(I)Z"⟩ prog_2_method_4_code 3 (some FieldType.boolean) ∈ ab_T := ab_T_in (List.mem_append_right _ (List.mem_of_getElem? (i := 431) (by decide +kernel))) (by decide +kernel)
theorem ww_429 : Cond.instanceMethod ⟨"ArchiveBench$Archive", "hasNameBefore", "(I)Z"⟩ ∈ ab_T := ab_T_in (List.mem_append_right _ (List.mem_of_getElem? (i := 429) (by decide +kernel))) (by decide +kernel)
theorem ww_430 : Cond.selects "ArchiveBench$Archive" ⟨"ArchiveBench$Archive", "hasNameBefore", "(I)Z"⟩ ⟨"ArchiveBench$Archive", "hasNameBefore", "(I)Z"⟩ ∈ ab_T := ab_T_in (List.mem_append_right _ (List.mem_of_getElem? (i := 430) (by decide +kernel))) (by decide +kernel)
theorem km_AB_127 : ab_kV "ArchiveBench" 127 mm_Ar_hasNameBefore 1 := ⟨⟨by decide +kernel, ww_431, ww_428, ww_5, ⟨by decide, by decide, by decide +kernel⟩⟩, ww_429, ww_430⟩
theorem ww_436 : Cond.methodLink "ArchiveBench" 130 ⟨"ArchiveBench$Unsqueezing", "unsqueeze", "(LArchiveBench$Row;LArchiveBench$OpenFile;LArchiveBench$Row;)Z"⟩ ∈ ab_T := ab_T_in (List.mem_append_right _ (List.mem_of_getElem? (i := 436) (by decide +kernel))) (by decide +kernel)
theorem ww_438 : Cond.code ⟨"ArchiveBench$Unsqueezing", "unsqueeze", "(LArchiveBench$Row;LArchiveBench$OpenFile;LArchiveBench$Row;)Z"⟩ prog_7_method_2_code 6 (some FieldType.boolean) ∈ ab_T := ab_T_in (List.mem_append_right _ (List.mem_of_getElem? (i := 438) (by decide +kernel))) (by decide +kernel)
theorem ww_11 : Cond.initialized "ArchiveBench$Unsqueezing" ∈ ab_T := ab_T_in (List.mem_append_right _ (List.mem_of_getElem? (i := 11) (by decide +kernel))) (by decide +kernel)
theorem ww_437 : Cond.static ⟨"ArchiveBench$Unsqueezing", "unsqueeze", "(LArchiveBench$Row;LArchiveBench$OpenFile;LArchiveBench$Row;)Z"⟩ ∈ ab_T := ab_T_in (List.mem_append_right _ (List.mem_of_getElem? (i := 437) (by decide +kernel))) (by decide +kernel)
theorem km_AB_130 : ab_kS "ArchiveBench" 130 mm_Un_unsqueeze 3 := ⟨⟨by decide +kernel, ww_438, ww_436, ww_11, ⟨by decide, by decide, by decide +kernel⟩⟩, ww_437⟩
theorem ww_453 : Cond.methodLink "ArchiveBench" 136 ⟨"ArchiveBench$Row", "check", "(II)I"⟩ ∈ ab_T := ab_T_in (List.mem_append_right _ (List.mem_of_getElem? (i := 453) (by decide +kernel))) (by decide +kernel)
theorem km_AB_136 : ab_kV "ArchiveBench" 136 mm_Row_check 2 := ⟨⟨by decide +kernel, ww_262, ww_453, ww_2, ⟨by decide, by decide, by decide +kernel⟩⟩, ww_260, ww_261⟩
theorem ww_423 : Cond.methodLink "ArchiveBench$OpenFile" 37 ⟨"ArchiveBench$Row", "at", "(I)I"⟩ ∈ ab_T := ab_T_in (List.mem_append_right _ (List.mem_of_getElem? (i := 423) (by decide +kernel))) (by decide +kernel)
theorem km_OF_37 : ab_kV "ArchiveBench$OpenFile" 37 mm_Row_at 1 := ⟨⟨by decide +kernel, ww_239, ww_423, ww_2, ⟨by decide, by decide, by decide +kernel⟩⟩, ww_237, ww_238⟩
theorem ww_424 : Cond.methodLink "ArchiveBench$OpenFile" 41 ⟨"ArchiveBench$OpenFile", "isSafePart", "(II)Z"⟩ ∈ ab_T := ab_T_in (List.mem_append_right _ (List.mem_of_getElem? (i := 424) (by decide +kernel))) (by decide +kernel)
theorem ww_427 : Cond.code ⟨"ArchiveBench$OpenFile", "isSafePart", "(II)Z"⟩ prog_3_method_4_code 4 (some FieldType.boolean) ∈ ab_T := ab_T_in (List.mem_append_right _ (List.mem_of_getElem? (i := 427) (by decide +kernel))) (by decide +kernel)
theorem ww_426 : Cond.instanceMethod ⟨"ArchiveBench$OpenFile", "isSafePart", "(II)Z"⟩ ∈ ab_T := ab_T_in (List.mem_append_right _ (List.mem_of_getElem? (i := 426) (by decide +kernel))) (by decide +kernel)
theorem wp_12 : Cond.selects "ArchiveBench$OpenFile" ⟨"ArchiveBench$OpenFile", "isSafePart", "(II)Z"⟩ ⟨"ArchiveBench$OpenFile", "isSafePart", "(II)Z"⟩ ∈ ab_T := ab_T_in (List.mem_append_left _ (List.mem_of_getElem? (i := 12) (by decide +kernel))) (by decide +kernel)
theorem km_OF_41 : ab_kV "ArchiveBench$OpenFile" 41 mm_OF_isSafePart 2 := ⟨⟨by decide +kernel, ww_427, ww_424, ww_6, ⟨by decide, by decide, by decide +kernel⟩⟩, ww_426, wp_12⟩
theorem ww_432 : Cond.methodLink "ArchiveBench$Archive" 37 ⟨"ArchiveBench$Row", "isSameAs", "(LArchiveBench$Row;)Z"⟩ ∈ ab_T := ab_T_in (List.mem_append_right _ (List.mem_of_getElem? (i := 432) (by decide +kernel))) (by decide +kernel)
theorem ww_435 : Cond.code ⟨"ArchiveBench$Row", "isSameAs", "(LArchiveBench$Row;)Z"⟩ prog_5_method_12_code 3 (some FieldType.boolean) ∈ ab_T := ab_T_in (List.mem_append_right _ (List.mem_of_getElem? (i := 435) (by decide +kernel))) (by decide +kernel)
theorem ww_433 : Cond.instanceMethod ⟨"ArchiveBench$Row", "isSameAs", "(LArchiveBench$Row;)Z"⟩ ∈ ab_T := ab_T_in (List.mem_append_right _ (List.mem_of_getElem? (i := 433) (by decide +kernel))) (by decide +kernel)
theorem ww_434 : Cond.selects "ArchiveBench$Row" ⟨"ArchiveBench$Row", "isSameAs", "(LArchiveBench$Row;)Z"⟩ ⟨"ArchiveBench$Row", "isSameAs", "(LArchiveBench$Row;)Z"⟩ ∈ ab_T := ab_T_in (List.mem_append_right _ (List.mem_of_getElem? (i := 434) (by decide +kernel))) (by decide +kernel)
theorem km_Ar_37 : ab_kV "ArchiveBench$Archive" 37 mm_Row_isSameAs 1 := ⟨⟨by decide +kernel, ww_435, ww_432, ww_2, ⟨by decide, by decide, by decide +kernel⟩⟩, ww_433, ww_434⟩
theorem ww_439 : Cond.methodLink "ArchiveBench$Unsqueezing" 18 ⟨"ArchiveBench$Row", "cutTo", "(I)V"⟩ ∈ ab_T := ab_T_in (List.mem_append_right _ (List.mem_of_getElem? (i := 439) (by decide +kernel))) (by decide +kernel)
theorem km_Un_18 : ab_kV "ArchiveBench$Unsqueezing" 18 mm_Row_cutTo 1 := ⟨⟨by decide +kernel, ww_217, ww_439, ww_2, ⟨by decide, by decide, by decide +kernel⟩⟩, ww_215, ww_216⟩
theorem ww_440 : Cond.methodLink "ArchiveBench$Unsqueezing" 27 ⟨"ArchiveBench$Unsqueezing", "unsqueezeRuns", "(LArchiveBench$Row;IILArchiveBench$Row;)Z"⟩ ∈ ab_T := ab_T_in (List.mem_append_right _ (List.mem_of_getElem? (i := 440) (by decide +kernel))) (by decide +kernel)
theorem ww_442 : Cond.code ⟨"ArchiveBench$Unsqueezing", "unsqueezeRuns", "(LArchiveBench$Row;IILArchiveBench$Row;)Z"⟩ prog_7_method_3_code 8 (some FieldType.boolean) ∈ ab_T := ab_T_in (List.mem_append_right _ (List.mem_of_getElem? (i := 442) (by decide +kernel))) (by decide +kernel)
theorem ww_441 : Cond.static ⟨"ArchiveBench$Unsqueezing", "unsqueezeRuns", "(LArchiveBench$Row;IILArchiveBench$Row;)Z"⟩ ∈ ab_T := ab_T_in (List.mem_append_right _ (List.mem_of_getElem? (i := 441) (by decide +kernel))) (by decide +kernel)
theorem km_Un_27 : ab_kS "ArchiveBench$Unsqueezing" 27 mm_Un_unsqueezeRuns 4 := ⟨⟨by decide +kernel, ww_442, ww_440, ww_11, ⟨by decide, by decide, by decide +kernel⟩⟩, ww_441⟩
theorem ww_446 : Cond.methodLink "ArchiveBench$Unsqueezing" 33 ⟨"ArchiveBench$Unsqueezing", "unsqueezeCopies", "(LArchiveBench$Row;IILArchiveBench$Row;)Z"⟩ ∈ ab_T := ab_T_in (List.mem_append_right _ (List.mem_of_getElem? (i := 446) (by decide +kernel))) (by decide +kernel)
theorem ww_448 : Cond.code ⟨"ArchiveBench$Unsqueezing", "unsqueezeCopies", "(LArchiveBench$Row;IILArchiveBench$Row;)Z"⟩ prog_7_method_4_code 9 (some FieldType.boolean) ∈ ab_T := ab_T_in (List.mem_append_right _ (List.mem_of_getElem? (i := 448) (by decide +kernel))) (by decide +kernel)
theorem ww_447 : Cond.static ⟨"ArchiveBench$Unsqueezing", "unsqueezeCopies", "(LArchiveBench$Row;IILArchiveBench$Row;)Z"⟩ ∈ ab_T := ab_T_in (List.mem_append_right _ (List.mem_of_getElem? (i := 447) (by decide +kernel))) (by decide +kernel)
theorem km_Un_33 : ab_kS "ArchiveBench$Unsqueezing" 33 mm_Un_unsqueezeCopies 4 := ⟨⟨by decide +kernel, ww_448, ww_446, ww_11, ⟨by decide, by decide, by decide +kernel⟩⟩, ww_447⟩
theorem ww_452 : Cond.methodLink "ArchiveBench$Unsqueezing" 36 ⟨"ArchiveBench$Row", "appendPart", "(LArchiveBench$Row;II)Z"⟩ ∈ ab_T := ab_T_in (List.mem_append_right _ (List.mem_of_getElem? (i := 452) (by decide +kernel))) (by decide +kernel)
theorem km_Un_36 : ab_kV "ArchiveBench$Unsqueezing" 36 mm_Row_appendPart 3 := ⟨⟨by decide +kernel, ww_225, ww_452, ww_2, ⟨by decide, by decide, by decide +kernel⟩⟩, ww_223, ww_224⟩
theorem ww_443 : Cond.methodLink "ArchiveBench$Unsqueezing" 44 ⟨"ArchiveBench$Row", "at", "(I)I"⟩ ∈ ab_T := ab_T_in (List.mem_append_right _ (List.mem_of_getElem? (i := 443) (by decide +kernel))) (by decide +kernel)
theorem km_Un_44 : ab_kV "ArchiveBench$Unsqueezing" 44 mm_Row_at 1 := ⟨⟨by decide +kernel, ww_239, ww_443, ww_2, ⟨by decide, by decide, by decide +kernel⟩⟩, ww_237, ww_238⟩
theorem ww_444 : Cond.methodLink "ArchiveBench$Unsqueezing" 48 ⟨"ArchiveBench$Row", "appendTimes", "(II)Z"⟩ ∈ ab_T := ab_T_in (List.mem_append_right _ (List.mem_of_getElem? (i := 444) (by decide +kernel))) (by decide +kernel)
theorem km_Un_48 : ab_kV "ArchiveBench$Unsqueezing" 48 mm_Row_appendTimes 2 := ⟨⟨by decide +kernel, ww_201, ww_444, ww_2, ⟨by decide, by decide, by decide +kernel⟩⟩, ww_199, ww_200⟩
theorem ww_445 : Cond.methodLink "ArchiveBench$Unsqueezing" 52 ⟨"ArchiveBench$Row", "append", "(I)Z"⟩ ∈ ab_T := ab_T_in (List.mem_append_right _ (List.mem_of_getElem? (i := 445) (by decide +kernel))) (by decide +kernel)
theorem km_Un_52 : ab_kV "ArchiveBench$Unsqueezing" 52 mm_Row_append 1 := ⟨⟨by decide +kernel, ww_190, ww_445, ww_2, ⟨by decide, by decide, by decide +kernel⟩⟩, ww_188, ww_189⟩
theorem ww_449 : Cond.methodLink "ArchiveBench$Unsqueezing" 56 ⟨"ArchiveBench$Unsqueezing", "copyBack", "(LArchiveBench$Row;II)Z"⟩ ∈ ab_T := ab_T_in (List.mem_append_right _ (List.mem_of_getElem? (i := 449) (by decide +kernel))) (by decide +kernel)
theorem ww_451 : Cond.code ⟨"ArchiveBench$Unsqueezing", "copyBack", "(LArchiveBench$Row;II)Z"⟩ prog_7_method_5_code 4 (some FieldType.boolean) ∈ ab_T := ab_T_in (List.mem_append_right _ (List.mem_of_getElem? (i := 451) (by decide +kernel))) (by decide +kernel)
theorem ww_450 : Cond.static ⟨"ArchiveBench$Unsqueezing", "copyBack", "(LArchiveBench$Row;II)Z"⟩ ∈ ab_T := ab_T_in (List.mem_append_right _ (List.mem_of_getElem? (i := 450) (by decide +kernel))) (by decide +kernel)
theorem km_Un_56 : ab_kS "ArchiveBench$Unsqueezing" 56 mm_Un_copyBack 3 := ⟨⟨by decide +kernel, ww_451, ww_449, ww_11, ⟨by decide, by decide, by decide +kernel⟩⟩, ww_450⟩
theorem ww_462 : Cond.methodLink "ArchiveBench" 141 ⟨"ArchiveBench$OpenFile", "tell", "(I)I"⟩ ∈ ab_T := ab_T_in (List.mem_append_right _ (List.mem_of_getElem? (i := 462) (by decide +kernel))) (by decide +kernel)
theorem ww_465 : Cond.code ⟨"ArchiveBench$OpenFile", "tell", "(I)I"⟩ prog_3_method_2_code 2 (some FieldType.int) ∈ ab_T := ab_T_in (List.mem_append_right _ (List.mem_of_getElem? (i := 465) (by decide +kernel))) (by decide +kernel)
theorem ww_463 : Cond.instanceMethod ⟨"ArchiveBench$OpenFile", "tell", "(I)I"⟩ ∈ ab_T := ab_T_in (List.mem_append_right _ (List.mem_of_getElem? (i := 463) (by decide +kernel))) (by decide +kernel)
theorem ww_464 : Cond.selects "ArchiveBench$OpenFile" ⟨"ArchiveBench$OpenFile", "tell", "(I)I"⟩ ⟨"ArchiveBench$OpenFile", "tell", "(I)I"⟩ ∈ ab_T := ab_T_in (List.mem_append_right _ (List.mem_of_getElem? (i := 464) (by decide +kernel))) (by decide +kernel)
theorem km_AB_141 : ab_kV "ArchiveBench" 141 mm_OF_tell 1 := ⟨⟨by decide +kernel, ww_465, ww_462, ww_6, ⟨by decide, by decide, by decide +kernel⟩⟩, ww_463, ww_464⟩
theorem ww_475 : Cond.methodLink "ArchiveBenchModel" 1 ⟨"java/lang/Object", "<init>", "()V"⟩ ∈ ab_T := ab_T_in (List.mem_append_right _ (List.mem_of_getElem? (i := 475) (by decide +kernel))) (by decide +kernel)
theorem km_Md_1 : Cond.methodLink "ArchiveBenchModel" 1 objectInit ∈ ab_T ∧ Cond.instanceMethod objectInit ∈ ab_T ∧ Cond.code objectInit ⟨#[0xb1]⟩ 1 none ∈ ab_T := ⟨ww_475, ww_18, ww_19⟩
theorem ww_544 : Cond.methodLink "ArchiveBenchModel" 54 ⟨"ArchiveBenchModel", "sign", "(I)Z"⟩ ∈ ab_T := ab_T_in (List.mem_append_right _ (List.mem_of_getElem? (i := 544) (by decide +kernel))) (by decide +kernel)
theorem ww_546 : Cond.code ⟨"ArchiveBenchModel", "sign", "(I)Z"⟩ prog_10_method_3_code 1 (some FieldType.boolean) ∈ ab_T := ab_T_in (List.mem_append_right _ (List.mem_of_getElem? (i := 546) (by decide +kernel))) (by decide +kernel)
theorem ww_545 : Cond.static ⟨"ArchiveBenchModel", "sign", "(I)Z"⟩ ∈ ab_T := ab_T_in (List.mem_append_right _ (List.mem_of_getElem? (i := 545) (by decide +kernel))) (by decide +kernel)
theorem km_Md_54 : ab_kS "ArchiveBenchModel" 54 mm_Md_sign 1 := ⟨⟨by decide +kernel, ww_546, ww_544, ww_7, ⟨by decide, by decide, by decide +kernel⟩⟩, ww_545⟩
theorem ww_547 : Cond.methodLink "ArchiveBenchModel" 50 ⟨"ArchiveBenchModel", "in", "(III)Z"⟩ ∈ ab_T := ab_T_in (List.mem_append_right _ (List.mem_of_getElem? (i := 547) (by decide +kernel))) (by decide +kernel)
theorem ww_549 : Cond.code ⟨"ArchiveBenchModel", "in", "(III)Z"⟩ prog_10_method_2_code 3 (some FieldType.boolean) ∈ ab_T := ab_T_in (List.mem_append_right _ (List.mem_of_getElem? (i := 549) (by decide +kernel))) (by decide +kernel)
theorem ww_548 : Cond.static ⟨"ArchiveBenchModel", "in", "(III)Z"⟩ ∈ ab_T := ab_T_in (List.mem_append_right _ (List.mem_of_getElem? (i := 548) (by decide +kernel))) (by decide +kernel)
theorem km_Md_50 : ab_kS "ArchiveBenchModel" 50 mm_Md_in 3 := ⟨⟨by decide +kernel, ww_549, ww_547, ww_7, ⟨by decide, by decide, by decide +kernel⟩⟩, ww_548⟩
theorem ww_562 : Cond.methodLink "ArchiveBenchModel" 118 ⟨"ArchiveBenchModel", "chain", "()V"⟩ ∈ ab_T := ab_T_in (List.mem_append_right _ (List.mem_of_getElem? (i := 562) (by decide +kernel))) (by decide +kernel)
theorem ww_565 : Cond.code ⟨"ArchiveBenchModel", "chain", "()V"⟩ prog_10_method_20_code 5 none ∈ ab_T := ab_T_in (List.mem_append_right _ (List.mem_of_getElem? (i := 565) (by decide +kernel))) (by decide +kernel)
theorem ww_564 : Cond.instanceMethod ⟨"ArchiveBenchModel", "chain", "()V"⟩ ∈ ab_T := ab_T_in (List.mem_append_right _ (List.mem_of_getElem? (i := 564) (by decide +kernel))) (by decide +kernel)
theorem wp_13 : Cond.selects "ArchiveBenchModel" ⟨"ArchiveBenchModel", "chain", "()V"⟩ ⟨"ArchiveBenchModel", "chain", "()V"⟩ ∈ ab_T := ab_T_in (List.mem_append_left _ (List.mem_of_getElem? (i := 13) (by decide +kernel))) (by decide +kernel)
theorem km_Md_118 : ab_kV "ArchiveBenchModel" 118 mm_Md_chain 0 := ⟨⟨by decide +kernel, ww_565, ww_562, ww_7, ⟨by decide, by decide, by decide +kernel⟩⟩, ww_564, wp_13⟩
theorem ww_618 : Cond.methodLink "ArchiveBenchModel" 121 ⟨"ArchiveBenchModel", "index", "()V"⟩ ∈ ab_T := ab_T_in (List.mem_append_right _ (List.mem_of_getElem? (i := 618) (by decide +kernel))) (by decide +kernel)
theorem ww_621 : Cond.code ⟨"ArchiveBenchModel", "index", "()V"⟩ prog_10_method_21_code 5 none ∈ ab_T := ab_T_in (List.mem_append_right _ (List.mem_of_getElem? (i := 621) (by decide +kernel))) (by decide +kernel)
theorem ww_620 : Cond.instanceMethod ⟨"ArchiveBenchModel", "index", "()V"⟩ ∈ ab_T := ab_T_in (List.mem_append_right _ (List.mem_of_getElem? (i := 620) (by decide +kernel))) (by decide +kernel)
theorem wp_26 : Cond.selects "ArchiveBenchModel" ⟨"ArchiveBenchModel", "index", "()V"⟩ ⟨"ArchiveBenchModel", "index", "()V"⟩ ∈ ab_T := ab_T_in (List.mem_append_left _ (List.mem_of_getElem? (i := 26) (by decide +kernel))) (by decide +kernel)
theorem km_Md_121 : ab_kV "ArchiveBenchModel" 121 mm_Md_index 0 := ⟨⟨by decide +kernel, ww_621, ww_618, ww_7, ⟨by decide, by decide, by decide +kernel⟩⟩, ww_620, wp_26⟩
theorem ww_566 : Cond.methodLink "ArchiveBenchModel" 102 ⟨"ArchiveBenchModel", "squeeze", "(I)V"⟩ ∈ ab_T := ab_T_in (List.mem_append_right _ (List.mem_of_getElem? (i := 566) (by decide +kernel))) (by decide +kernel)
theorem ww_569 : Cond.code ⟨"ArchiveBenchModel", "squeeze", "(I)V"⟩ prog_10_method_13_code 3 none ∈ ab_T := ab_T_in (List.mem_append_right _ (List.mem_of_getElem? (i := 569) (by decide +kernel))) (by decide +kernel)
theorem ww_568 : Cond.instanceMethod ⟨"ArchiveBenchModel", "squeeze", "(I)V"⟩ ∈ ab_T := ab_T_in (List.mem_append_right _ (List.mem_of_getElem? (i := 568) (by decide +kernel))) (by decide +kernel)
theorem wp_14 : Cond.selects "ArchiveBenchModel" ⟨"ArchiveBenchModel", "squeeze", "(I)V"⟩ ⟨"ArchiveBenchModel", "squeeze", "(I)V"⟩ ∈ ab_T := ab_T_in (List.mem_append_left _ (List.mem_of_getElem? (i := 14) (by decide +kernel))) (by decide +kernel)
theorem km_Md_102 : ab_kV "ArchiveBenchModel" 102 mm_Md_squeeze 1 := ⟨⟨by decide +kernel, ww_569, ww_566, ww_7, ⟨by decide, by decide, by decide +kernel⟩⟩, ww_568, wp_14⟩
theorem ww_594 : Cond.methodLink "ArchiveBenchModel" 99 ⟨"ArchiveBenchModel", "say", "(I)V"⟩ ∈ ab_T := ab_T_in (List.mem_append_right _ (List.mem_of_getElem? (i := 594) (by decide +kernel))) (by decide +kernel)
theorem ww_597 : Cond.code ⟨"ArchiveBenchModel", "say", "(I)V"⟩ prog_10_method_16_code 2 none ∈ ab_T := ab_T_in (List.mem_append_right _ (List.mem_of_getElem? (i := 597) (by decide +kernel))) (by decide +kernel)
theorem ww_596 : Cond.instanceMethod ⟨"ArchiveBenchModel", "say", "(I)V"⟩ ∈ ab_T := ab_T_in (List.mem_append_right _ (List.mem_of_getElem? (i := 596) (by decide +kernel))) (by decide +kernel)
theorem wp_21 : Cond.selects "ArchiveBenchModel" ⟨"ArchiveBenchModel", "say", "(I)V"⟩ ⟨"ArchiveBenchModel", "say", "(I)V"⟩ ∈ ab_T := ab_T_in (List.mem_append_left _ (List.mem_of_getElem? (i := 21) (by decide +kernel))) (by decide +kernel)
theorem km_Md_99 : ab_kV "ArchiveBenchModel" 99 mm_Md_say 1 := ⟨⟨by decide +kernel, ww_597, ww_594, ww_7, ⟨by decide, by decide, by decide +kernel⟩⟩, ww_596, wp_21⟩
theorem ww_598 : Cond.methodLink "ArchiveBenchModel" 105 ⟨"ArchiveBenchModel", "sayHead", "(I)V"⟩ ∈ ab_T := ab_T_in (List.mem_append_right _ (List.mem_of_getElem? (i := 598) (by decide +kernel))) (by decide +kernel)
theorem ww_601 : Cond.code ⟨"ArchiveBenchModel", "sayHead", "(I)V"⟩ prog_10_method_19_code 3 none ∈ ab_T := ab_T_in (List.mem_append_right _ (List.mem_of_getElem? (i := 601) (by decide +kernel))) (by decide +kernel)
theorem ww_600 : Cond.instanceMethod ⟨"ArchiveBenchModel", "sayHead", "(I)V"⟩ ∈ ab_T := ab_T_in (List.mem_append_right _ (List.mem_of_getElem? (i := 600) (by decide +kernel))) (by decide +kernel)
theorem wp_22 : Cond.selects "ArchiveBenchModel" ⟨"ArchiveBenchModel", "sayHead", "(I)V"⟩ ⟨"ArchiveBenchModel", "sayHead", "(I)V"⟩ ∈ ab_T := ab_T_in (List.mem_append_left _ (List.mem_of_getElem? (i := 22) (by decide +kernel))) (by decide +kernel)
theorem km_Md_105 : ab_kV "ArchiveBenchModel" 105 mm_Md_sayHead 1 := ⟨⟨by decide +kernel, ww_601, ww_598, ww_7, ⟨by decide, by decide, by decide +kernel⟩⟩, ww_600, wp_22⟩
theorem ww_602 : Cond.methodLink "ArchiveBenchModel" 108 ⟨"ArchiveBenchModel", "checkOf", "(I)I"⟩ ∈ ab_T := ab_T_in (List.mem_append_right _ (List.mem_of_getElem? (i := 602) (by decide +kernel))) (by decide +kernel)
theorem ww_605 : Cond.code ⟨"ArchiveBenchModel", "checkOf", "(I)I"⟩ prog_10_method_15_code 4 (some FieldType.int) ∈ ab_T := ab_T_in (List.mem_append_right _ (List.mem_of_getElem? (i := 605) (by decide +kernel))) (by decide +kernel)
theorem ww_604 : Cond.instanceMethod ⟨"ArchiveBenchModel", "checkOf", "(I)I"⟩ ∈ ab_T := ab_T_in (List.mem_append_right _ (List.mem_of_getElem? (i := 604) (by decide +kernel))) (by decide +kernel)
theorem wp_23 : Cond.selects "ArchiveBenchModel" ⟨"ArchiveBenchModel", "checkOf", "(I)I"⟩ ⟨"ArchiveBenchModel", "checkOf", "(I)I"⟩ ∈ ab_T := ab_T_in (List.mem_append_left _ (List.mem_of_getElem? (i := 23) (by decide +kernel))) (by decide +kernel)
theorem km_Md_108 : ab_kV "ArchiveBenchModel" 108 mm_Md_checkOf 1 := ⟨⟨by decide +kernel, ww_605, ww_602, ww_7, ⟨by decide, by decide, by decide +kernel⟩⟩, ww_604, wp_23⟩
theorem ww_610 : Cond.methodLink "ArchiveBenchModel" 112 ⟨"ArchiveBenchModel", "sayTwo", "(I)V"⟩ ∈ ab_T := ab_T_in (List.mem_append_right _ (List.mem_of_getElem? (i := 610) (by decide +kernel))) (by decide +kernel)
theorem ww_613 : Cond.code ⟨"ArchiveBenchModel", "sayTwo", "(I)V"⟩ prog_10_method_17_code 2 none ∈ ab_T := ab_T_in (List.mem_append_right _ (List.mem_of_getElem? (i := 613) (by decide +kernel))) (by decide +kernel)
theorem ww_612 : Cond.instanceMethod ⟨"ArchiveBenchModel", "sayTwo", "(I)V"⟩ ∈ ab_T := ab_T_in (List.mem_append_right _ (List.mem_of_getElem? (i := 612) (by decide +kernel))) (by decide +kernel)
theorem wp_24 : Cond.selects "ArchiveBenchModel" ⟨"ArchiveBenchModel", "sayTwo", "(I)V"⟩ ⟨"ArchiveBenchModel", "sayTwo", "(I)V"⟩ ∈ ab_T := ab_T_in (List.mem_append_left _ (List.mem_of_getElem? (i := 24) (by decide +kernel))) (by decide +kernel)
theorem km_Md_112 : ab_kV "ArchiveBenchModel" 112 mm_Md_sayTwo 1 := ⟨⟨by decide +kernel, ww_613, ww_610, ww_7, ⟨by decide, by decide, by decide +kernel⟩⟩, ww_612, wp_24⟩
theorem ww_614 : Cond.methodLink "ArchiveBenchModel" 115 ⟨"ArchiveBenchModel", "sayRow", "()V"⟩ ∈ ab_T := ab_T_in (List.mem_append_right _ (List.mem_of_getElem? (i := 614) (by decide +kernel))) (by decide +kernel)
theorem ww_617 : Cond.code ⟨"ArchiveBenchModel", "sayRow", "()V"⟩ prog_10_method_18_code 2 none ∈ ab_T := ab_T_in (List.mem_append_right _ (List.mem_of_getElem? (i := 617) (by decide +kernel))) (by decide +kernel)
theorem ww_616 : Cond.instanceMethod ⟨"ArchiveBenchModel", "sayRow", "()V"⟩ ∈ ab_T := ab_T_in (List.mem_append_right _ (List.mem_of_getElem? (i := 616) (by decide +kernel))) (by decide +kernel)
theorem wp_25 : Cond.selects "ArchiveBenchModel" ⟨"ArchiveBenchModel", "sayRow", "()V"⟩ ⟨"ArchiveBenchModel", "sayRow", "()V"⟩ ∈ ab_T := ab_T_in (List.mem_append_left _ (List.mem_of_getElem? (i := 25) (by decide +kernel))) (by decide +kernel)
theorem km_Md_115 : ab_kV "ArchiveBenchModel" 115 mm_Md_sayRow 0 := ⟨⟨by decide +kernel, ww_617, ww_614, ww_7, ⟨by decide, by decide, by decide +kernel⟩⟩, ww_616, wp_25⟩
theorem ww_570 : Cond.methodLink "ArchiveBenchModel" 86 ⟨"ArchiveBenchModel", "runs", "(I)V"⟩ ∈ ab_T := ab_T_in (List.mem_append_right _ (List.mem_of_getElem? (i := 570) (by decide +kernel))) (by decide +kernel)
theorem ww_573 : Cond.code ⟨"ArchiveBenchModel", "runs", "(I)V"⟩ prog_10_method_9_code 7 none ∈ ab_T := ab_T_in (List.mem_append_right _ (List.mem_of_getElem? (i := 573) (by decide +kernel))) (by decide +kernel)
theorem ww_572 : Cond.instanceMethod ⟨"ArchiveBenchModel", "runs", "(I)V"⟩ ∈ ab_T := ab_T_in (List.mem_append_right _ (List.mem_of_getElem? (i := 572) (by decide +kernel))) (by decide +kernel)
theorem wp_15 : Cond.selects "ArchiveBenchModel" ⟨"ArchiveBenchModel", "runs", "(I)V"⟩ ⟨"ArchiveBenchModel", "runs", "(I)V"⟩ ∈ ab_T := ab_T_in (List.mem_append_left _ (List.mem_of_getElem? (i := 15) (by decide +kernel))) (by decide +kernel)
theorem km_Md_86 : ab_kV "ArchiveBenchModel" 86 mm_Md_runs 1 := ⟨⟨by decide +kernel, ww_573, ww_570, ww_7, ⟨by decide, by decide, by decide +kernel⟩⟩, ww_572, wp_15⟩
theorem ww_582 : Cond.methodLink "ArchiveBenchModel" 89 ⟨"ArchiveBenchModel", "copies", "(I)V"⟩ ∈ ab_T := ab_T_in (List.mem_append_right _ (List.mem_of_getElem? (i := 582) (by decide +kernel))) (by decide +kernel)
theorem ww_585 : Cond.code ⟨"ArchiveBenchModel", "copies", "(I)V"⟩ prog_10_method_12_code 6 none ∈ ab_T := ab_T_in (List.mem_append_right _ (List.mem_of_getElem? (i := 585) (by decide +kernel))) (by decide +kernel)
theorem ww_584 : Cond.instanceMethod ⟨"ArchiveBenchModel", "copies", "(I)V"⟩ ∈ ab_T := ab_T_in (List.mem_append_right _ (List.mem_of_getElem? (i := 584) (by decide +kernel))) (by decide +kernel)
theorem wp_18 : Cond.selects "ArchiveBenchModel" ⟨"ArchiveBenchModel", "copies", "(I)V"⟩ ⟨"ArchiveBenchModel", "copies", "(I)V"⟩ ∈ ab_T := ab_T_in (List.mem_append_left _ (List.mem_of_getElem? (i := 18) (by decide +kernel))) (by decide +kernel)
theorem km_Md_89 : ab_kV "ArchiveBenchModel" 89 mm_Md_copies 1 := ⟨⟨by decide +kernel, ww_585, ww_582, ww_7, ⟨by decide, by decide, by decide +kernel⟩⟩, ww_584, wp_18⟩
theorem ww_574 : Cond.methodLink "ArchiveBenchModel" 70 ⟨"ArchiveBenchModel", "byteOf", "(II)I"⟩ ∈ ab_T := ab_T_in (List.mem_append_right _ (List.mem_of_getElem? (i := 574) (by decide +kernel))) (by decide +kernel)
theorem ww_577 : Cond.code ⟨"ArchiveBenchModel", "byteOf", "(II)I"⟩ prog_10_method_8_code 3 (some FieldType.int) ∈ ab_T := ab_T_in (List.mem_append_right _ (List.mem_of_getElem? (i := 577) (by decide +kernel))) (by decide +kernel)
theorem ww_576 : Cond.instanceMethod ⟨"ArchiveBenchModel", "byteOf", "(II)I"⟩ ∈ ab_T := ab_T_in (List.mem_append_right _ (List.mem_of_getElem? (i := 576) (by decide +kernel))) (by decide +kernel)
theorem wp_16 : Cond.selects "ArchiveBenchModel" ⟨"ArchiveBenchModel", "byteOf", "(II)I"⟩ ⟨"ArchiveBenchModel", "byteOf", "(II)I"⟩ ∈ ab_T := ab_T_in (List.mem_append_left _ (List.mem_of_getElem? (i := 16) (by decide +kernel))) (by decide +kernel)
theorem km_Md_70 : ab_kV "ArchiveBenchModel" 70 mm_Md_byteOf 2 := ⟨⟨by decide +kernel, ww_577, ww_574, ww_7, ⟨by decide, by decide, by decide +kernel⟩⟩, ww_576, wp_16⟩
theorem ww_578 : Cond.methodLink "ArchiveBenchModel" 74 ⟨"ArchiveBenchModel", "push", "(I)V"⟩ ∈ ab_T := ab_T_in (List.mem_append_right _ (List.mem_of_getElem? (i := 578) (by decide +kernel))) (by decide +kernel)
theorem ww_581 : Cond.code ⟨"ArchiveBenchModel", "push", "(I)V"⟩ prog_10_method_7_code 2 none ∈ ab_T := ab_T_in (List.mem_append_right _ (List.mem_of_getElem? (i := 581) (by decide +kernel))) (by decide +kernel)
theorem ww_580 : Cond.instanceMethod ⟨"ArchiveBenchModel", "push", "(I)V"⟩ ∈ ab_T := ab_T_in (List.mem_append_right _ (List.mem_of_getElem? (i := 580) (by decide +kernel))) (by decide +kernel)
theorem wp_17 : Cond.selects "ArchiveBenchModel" ⟨"ArchiveBenchModel", "push", "(I)V"⟩ ⟨"ArchiveBenchModel", "push", "(I)V"⟩ ∈ ab_T := ab_T_in (List.mem_append_left _ (List.mem_of_getElem? (i := 17) (by decide +kernel))) (by decide +kernel)
theorem km_Md_74 : ab_kV "ArchiveBenchModel" 74 mm_Md_push 1 := ⟨⟨by decide +kernel, ww_581, ww_578, ww_7, ⟨by decide, by decide, by decide +kernel⟩⟩, ww_580, wp_17⟩
theorem ww_586 : Cond.methodLink "ArchiveBenchModel" 78 ⟨"ArchiveBenchModel", "copyLength", "(III)I"⟩ ∈ ab_T := ab_T_in (List.mem_append_right _ (List.mem_of_getElem? (i := 586) (by decide +kernel))) (by decide +kernel)
theorem ww_589 : Cond.code ⟨"ArchiveBenchModel", "copyLength", "(III)I"⟩ prog_10_method_10_code 5 (some FieldType.int) ∈ ab_T := ab_T_in (List.mem_append_right _ (List.mem_of_getElem? (i := 589) (by decide +kernel))) (by decide +kernel)
theorem ww_588 : Cond.instanceMethod ⟨"ArchiveBenchModel", "copyLength", "(III)I"⟩ ∈ ab_T := ab_T_in (List.mem_append_right _ (List.mem_of_getElem? (i := 588) (by decide +kernel))) (by decide +kernel)
theorem wp_19 : Cond.selects "ArchiveBenchModel" ⟨"ArchiveBenchModel", "copyLength", "(III)I"⟩ ⟨"ArchiveBenchModel", "copyLength", "(III)I"⟩ ∈ ab_T := ab_T_in (List.mem_append_left _ (List.mem_of_getElem? (i := 19) (by decide +kernel))) (by decide +kernel)
theorem km_Md_78 : ab_kV "ArchiveBenchModel" 78 mm_Md_copyLength 3 := ⟨⟨by decide +kernel, ww_589, ww_586, ww_7, ⟨by decide, by decide, by decide +kernel⟩⟩, ww_588, wp_19⟩
theorem ww_590 : Cond.methodLink "ArchiveBenchModel" 82 ⟨"ArchiveBenchModel", "literals", "(III)V"⟩ ∈ ab_T := ab_T_in (List.mem_append_right _ (List.mem_of_getElem? (i := 590) (by decide +kernel))) (by decide +kernel)
theorem ww_593 : Cond.code ⟨"ArchiveBenchModel", "literals", "(III)V"⟩ prog_10_method_11_code 5 none ∈ ab_T := ab_T_in (List.mem_append_right _ (List.mem_of_getElem? (i := 593) (by decide +kernel))) (by decide +kernel)
theorem ww_592 : Cond.instanceMethod ⟨"ArchiveBenchModel", "literals", "(III)V"⟩ ∈ ab_T := ab_T_in (List.mem_append_right _ (List.mem_of_getElem? (i := 592) (by decide +kernel))) (by decide +kernel)
theorem wp_20 : Cond.selects "ArchiveBenchModel" ⟨"ArchiveBenchModel", "literals", "(III)V"⟩ ⟨"ArchiveBenchModel", "literals", "(III)V"⟩ ∈ ab_T := ab_T_in (List.mem_append_left _ (List.mem_of_getElem? (i := 20) (by decide +kernel))) (by decide +kernel)
theorem km_Md_82 : ab_kV "ArchiveBenchModel" 82 mm_Md_literals 3 := ⟨⟨by decide +kernel, ww_593, ww_590, ww_7, ⟨by decide, by decide, by decide +kernel⟩⟩, ww_592, wp_20⟩
theorem ww_607 : Cond.methodLink "ArchiveBenchModel" 93 ⟨"ArchiveBenchModel", "checked", "(II)I"⟩ ∈ ab_T := ab_T_in (List.mem_append_right _ (List.mem_of_getElem? (i := 607) (by decide +kernel))) (by decide +kernel)
theorem ww_609 : Cond.code ⟨"ArchiveBenchModel", "checked", "(II)I"⟩ prog_10_method_14_code 5 (some FieldType.int) ∈ ab_T := ab_T_in (List.mem_append_right _ (List.mem_of_getElem? (i := 609) (by decide +kernel))) (by decide +kernel)
theorem ww_608 : Cond.static ⟨"ArchiveBenchModel", "checked", "(II)I"⟩ ∈ ab_T := ab_T_in (List.mem_append_right _ (List.mem_of_getElem? (i := 608) (by decide +kernel))) (by decide +kernel)
theorem km_Md_93 : ab_kS "ArchiveBenchModel" 93 mm_Md_checked 2 := ⟨⟨by decide +kernel, ww_609, ww_607, ww_7, ⟨by decide, by decide, by decide +kernel⟩⟩, ww_608⟩
theorem ww_638 : Cond.methodLink "ArchiveBenchModel" 146 ⟨"ArchiveBenchModel", "openIndex", "()I"⟩ ∈ ab_T := ab_T_in (List.mem_append_right _ (List.mem_of_getElem? (i := 638) (by decide +kernel))) (by decide +kernel)
theorem ww_641 : Cond.code ⟨"ArchiveBenchModel", "openIndex", "()I"⟩ prog_10_method_32_code 7 (some FieldType.int) ∈ ab_T := ab_T_in (List.mem_append_right _ (List.mem_of_getElem? (i := 641) (by decide +kernel))) (by decide +kernel)
theorem ww_640 : Cond.instanceMethod ⟨"ArchiveBenchModel", "openIndex", "()I"⟩ ∈ ab_T := ab_T_in (List.mem_append_right _ (List.mem_of_getElem? (i := 640) (by decide +kernel))) (by decide +kernel)
theorem wp_27 : Cond.selects "ArchiveBenchModel" ⟨"ArchiveBenchModel", "openIndex", "()I"⟩ ⟨"ArchiveBenchModel", "openIndex", "()I"⟩ ∈ ab_T := ab_T_in (List.mem_append_left _ (List.mem_of_getElem? (i := 27) (by decide +kernel))) (by decide +kernel)
theorem km_Md_146 : ab_kV "ArchiveBenchModel" 146 mm_Md_openIndex 0 := ⟨⟨by decide +kernel, ww_641, ww_638, ww_7, ⟨by decide, by decide, by decide +kernel⟩⟩, ww_640, wp_27⟩
theorem ww_662 : Cond.methodLink "ArchiveBenchModel" 150 ⟨"ArchiveBenchModel", "openChain", "()I"⟩ ∈ ab_T := ab_T_in (List.mem_append_right _ (List.mem_of_getElem? (i := 662) (by decide +kernel))) (by decide +kernel)
theorem ww_665 : Cond.code ⟨"ArchiveBenchModel", "openChain", "()I"⟩ prog_10_method_30_code 8 (some FieldType.int) ∈ ab_T := ab_T_in (List.mem_append_right _ (List.mem_of_getElem? (i := 665) (by decide +kernel))) (by decide +kernel)
theorem ww_664 : Cond.instanceMethod ⟨"ArchiveBenchModel", "openChain", "()I"⟩ ∈ ab_T := ab_T_in (List.mem_append_right _ (List.mem_of_getElem? (i := 664) (by decide +kernel))) (by decide +kernel)
theorem wp_33 : Cond.selects "ArchiveBenchModel" ⟨"ArchiveBenchModel", "openChain", "()I"⟩ ⟨"ArchiveBenchModel", "openChain", "()I"⟩ ∈ ab_T := ab_T_in (List.mem_append_left _ (List.mem_of_getElem? (i := 33) (by decide +kernel))) (by decide +kernel)
theorem km_Md_150 : ab_kV "ArchiveBenchModel" 150 mm_Md_openChain 0 := ⟨⟨by decide +kernel, ww_665, ww_662, ww_7, ⟨by decide, by decide, by decide +kernel⟩⟩, ww_664, wp_33⟩
theorem ww_642 : Cond.methodLink "ArchiveBenchModel" 130 ⟨"ArchiveBenchModel", "stop", "(II)I"⟩ ∈ ab_T := ab_T_in (List.mem_append_right _ (List.mem_of_getElem? (i := 642) (by decide +kernel))) (by decide +kernel)
theorem ww_645 : Cond.code ⟨"ArchiveBenchModel", "stop", "(II)I"⟩ prog_10_method_26_code 3 (some FieldType.int) ∈ ab_T := ab_T_in (List.mem_append_right _ (List.mem_of_getElem? (i := 645) (by decide +kernel))) (by decide +kernel)
theorem ww_644 : Cond.instanceMethod ⟨"ArchiveBenchModel", "stop", "(II)I"⟩ ∈ ab_T := ab_T_in (List.mem_append_right _ (List.mem_of_getElem? (i := 644) (by decide +kernel))) (by decide +kernel)
theorem wp_28 : Cond.selects "ArchiveBenchModel" ⟨"ArchiveBenchModel", "stop", "(II)I"⟩ ⟨"ArchiveBenchModel", "stop", "(II)I"⟩ ∈ ab_T := ab_T_in (List.mem_append_left _ (List.mem_of_getElem? (i := 28) (by decide +kernel))) (by decide +kernel)
theorem km_Md_130 : ab_kV "ArchiveBenchModel" 130 mm_Md_stop 2 := ⟨⟨by decide +kernel, ww_645, ww_642, ww_7, ⟨by decide, by decide, by decide +kernel⟩⟩, ww_644, wp_28⟩
theorem ww_646 : Cond.methodLink "ArchiveBenchModel" 136 ⟨"ArchiveBenchModel", "two", "(I)I"⟩ ∈ ab_T := ab_T_in (List.mem_append_right _ (List.mem_of_getElem? (i := 646) (by decide +kernel))) (by decide +kernel)
theorem ww_649 : Cond.code ⟨"ArchiveBenchModel", "two", "(I)I"⟩ prog_10_method_27_code 2 (some FieldType.int) ∈ ab_T := ab_T_in (List.mem_append_right _ (List.mem_of_getElem? (i := 649) (by decide +kernel))) (by decide +kernel)
theorem ww_648 : Cond.instanceMethod ⟨"ArchiveBenchModel", "two", "(I)I"⟩ ∈ ab_T := ab_T_in (List.mem_append_right _ (List.mem_of_getElem? (i := 648) (by decide +kernel))) (by decide +kernel)
theorem wp_29 : Cond.selects "ArchiveBenchModel" ⟨"ArchiveBenchModel", "two", "(I)I"⟩ ⟨"ArchiveBenchModel", "two", "(I)I"⟩ ∈ ab_T := ab_T_in (List.mem_append_left _ (List.mem_of_getElem? (i := 29) (by decide +kernel))) (by decide +kernel)
theorem km_Md_136 : ab_kV "ArchiveBenchModel" 136 mm_Md_two 1 := ⟨⟨by decide +kernel, ww_649, ww_646, ww_7, ⟨by decide, by decide, by decide +kernel⟩⟩, ww_648, wp_29⟩
theorem ww_650 : Cond.methodLink "ArchiveBenchModel" 143 ⟨"ArchiveBenchModel", "openEntry", "(III)I"⟩ ∈ ab_T := ab_T_in (List.mem_append_right _ (List.mem_of_getElem? (i := 650) (by decide +kernel))) (by decide +kernel)
theorem ww_653 : Cond.code ⟨"ArchiveBenchModel", "openEntry", "(III)I"⟩ prog_10_method_31_code 6 (some FieldType.int) ∈ ab_T := ab_T_in (List.mem_append_right _ (List.mem_of_getElem? (i := 653) (by decide +kernel))) (by decide +kernel)
theorem ww_652 : Cond.instanceMethod ⟨"ArchiveBenchModel", "openEntry", "(III)I"⟩ ∈ ab_T := ab_T_in (List.mem_append_right _ (List.mem_of_getElem? (i := 652) (by decide +kernel))) (by decide +kernel)
theorem wp_30 : Cond.selects "ArchiveBenchModel" ⟨"ArchiveBenchModel", "openEntry", "(III)I"⟩ ⟨"ArchiveBenchModel", "openEntry", "(III)I"⟩ ∈ ab_T := ab_T_in (List.mem_append_left _ (List.mem_of_getElem? (i := 30) (by decide +kernel))) (by decide +kernel)
theorem km_Md_143 : ab_kV "ArchiveBenchModel" 143 mm_Md_openEntry 3 := ⟨⟨by decide +kernel, ww_653, ww_650, ww_7, ⟨by decide, by decide, by decide +kernel⟩⟩, ww_652, wp_30⟩
theorem ww_654 : Cond.methodLink "ArchiveBenchModel" 133 ⟨"ArchiveBenchModel", "head", "(II)I"⟩ ∈ ab_T := ab_T_in (List.mem_append_right _ (List.mem_of_getElem? (i := 654) (by decide +kernel))) (by decide +kernel)
theorem ww_657 : Cond.code ⟨"ArchiveBenchModel", "head", "(II)I"⟩ prog_10_method_28_code 7 (some FieldType.int) ∈ ab_T := ab_T_in (List.mem_append_right _ (List.mem_of_getElem? (i := 657) (by decide +kernel))) (by decide +kernel)
theorem ww_656 : Cond.instanceMethod ⟨"ArchiveBenchModel", "head", "(II)I"⟩ ∈ ab_T := ab_T_in (List.mem_append_right _ (List.mem_of_getElem? (i := 656) (by decide +kernel))) (by decide +kernel)
theorem wp_31 : Cond.selects "ArchiveBenchModel" ⟨"ArchiveBenchModel", "head", "(II)I"⟩ ⟨"ArchiveBenchModel", "head", "(II)I"⟩ ∈ ab_T := ab_T_in (List.mem_append_left _ (List.mem_of_getElem? (i := 31) (by decide +kernel))) (by decide +kernel)
theorem km_Md_133 : ab_kV "ArchiveBenchModel" 133 mm_Md_head 2 := ⟨⟨by decide +kernel, ww_657, ww_654, ww_7, ⟨by decide, by decide, by decide +kernel⟩⟩, ww_656, wp_31⟩
theorem ww_658 : Cond.methodLink "ArchiveBenchModel" 139 ⟨"ArchiveBenchModel", "note", "(IIII)V"⟩ ∈ ab_T := ab_T_in (List.mem_append_right _ (List.mem_of_getElem? (i := 658) (by decide +kernel))) (by decide +kernel)
theorem ww_661 : Cond.code ⟨"ArchiveBenchModel", "note", "(IIII)V"⟩ prog_10_method_29_code 6 none ∈ ab_T := ab_T_in (List.mem_append_right _ (List.mem_of_getElem? (i := 661) (by decide +kernel))) (by decide +kernel)
theorem ww_660 : Cond.instanceMethod ⟨"ArchiveBenchModel", "note", "(IIII)V"⟩ ∈ ab_T := ab_T_in (List.mem_append_right _ (List.mem_of_getElem? (i := 660) (by decide +kernel))) (by decide +kernel)
theorem wp_32 : Cond.selects "ArchiveBenchModel" ⟨"ArchiveBenchModel", "note", "(IIII)V"⟩ ⟨"ArchiveBenchModel", "note", "(IIII)V"⟩ ∈ ab_T := ab_T_in (List.mem_append_left _ (List.mem_of_getElem? (i := 32) (by decide +kernel))) (by decide +kernel)
theorem km_Md_139 : ab_kV "ArchiveBenchModel" 139 mm_Md_note 4 := ⟨⟨by decide +kernel, ww_661, ww_658, ww_7, ⟨by decide, by decide, by decide +kernel⟩⟩, ww_660, wp_32⟩
theorem ww_674 : Cond.methodLink "ArchiveBenchModel" 166 ⟨"ArchiveBenchModel", "safe", "(I)Z"⟩ ∈ ab_T := ab_T_in (List.mem_append_right _ (List.mem_of_getElem? (i := 674) (by decide +kernel))) (by decide +kernel)
theorem ww_677 : Cond.code ⟨"ArchiveBenchModel", "safe", "(I)Z"⟩ prog_10_method_37_code 6 (some FieldType.boolean) ∈ ab_T := ab_T_in (List.mem_append_right _ (List.mem_of_getElem? (i := 677) (by decide +kernel))) (by decide +kernel)
theorem ww_676 : Cond.instanceMethod ⟨"ArchiveBenchModel", "safe", "(I)Z"⟩ ∈ ab_T := ab_T_in (List.mem_append_right _ (List.mem_of_getElem? (i := 676) (by decide +kernel))) (by decide +kernel)
theorem wp_34 : Cond.selects "ArchiveBenchModel" ⟨"ArchiveBenchModel", "safe", "(I)Z"⟩ ⟨"ArchiveBenchModel", "safe", "(I)Z"⟩ ∈ ab_T := ab_T_in (List.mem_append_left _ (List.mem_of_getElem? (i := 34) (by decide +kernel))) (by decide +kernel)
theorem km_Md_166 : ab_kV "ArchiveBenchModel" 166 mm_Md_safe 1 := ⟨⟨by decide +kernel, ww_677, ww_674, ww_7, ⟨by decide, by decide, by decide +kernel⟩⟩, ww_676, wp_34⟩
theorem ww_686 : Cond.methodLink "ArchiveBenchModel" 169 ⟨"ArchiveBenchModel", "sameName", "(II)Z"⟩ ∈ ab_T := ab_T_in (List.mem_append_right _ (List.mem_of_getElem? (i := 686) (by decide +kernel))) (by decide +kernel)
theorem ww_689 : Cond.code ⟨"ArchiveBenchModel", "sameName", "(II)Z"⟩ prog_10_method_38_code 4 (some FieldType.boolean) ∈ ab_T := ab_T_in (List.mem_append_right _ (List.mem_of_getElem? (i := 689) (by decide +kernel))) (by decide +kernel)
theorem ww_688 : Cond.instanceMethod ⟨"ArchiveBenchModel", "sameName", "(II)Z"⟩ ∈ ab_T := ab_T_in (List.mem_append_right _ (List.mem_of_getElem? (i := 688) (by decide +kernel))) (by decide +kernel)
theorem wp_37 : Cond.selects "ArchiveBenchModel" ⟨"ArchiveBenchModel", "sameName", "(II)Z"⟩ ⟨"ArchiveBenchModel", "sameName", "(II)Z"⟩ ∈ ab_T := ab_T_in (List.mem_append_left _ (List.mem_of_getElem? (i := 37) (by decide +kernel))) (by decide +kernel)
theorem km_Md_169 : ab_kV "ArchiveBenchModel" 169 mm_Md_sameName 2 := ⟨⟨by decide +kernel, ww_689, ww_686, ww_7, ⟨by decide, by decide, by decide +kernel⟩⟩, ww_688, wp_37⟩
theorem ww_690 : Cond.methodLink "ArchiveBenchModel" 172 ⟨"ArchiveBenchModel", "unsqueeze", "(I)Z"⟩ ∈ ab_T := ab_T_in (List.mem_append_right _ (List.mem_of_getElem? (i := 690) (by decide +kernel))) (by decide +kernel)
theorem ww_693 : Cond.code ⟨"ArchiveBenchModel", "unsqueeze", "(I)Z"⟩ prog_10_method_41_code 5 (some FieldType.boolean) ∈ ab_T := ab_T_in (List.mem_append_right _ (List.mem_of_getElem? (i := 693) (by decide +kernel))) (by decide +kernel)
theorem ww_692 : Cond.instanceMethod ⟨"ArchiveBenchModel", "unsqueeze", "(I)Z"⟩ ∈ ab_T := ab_T_in (List.mem_append_right _ (List.mem_of_getElem? (i := 692) (by decide +kernel))) (by decide +kernel)
theorem wp_38 : Cond.selects "ArchiveBenchModel" ⟨"ArchiveBenchModel", "unsqueeze", "(I)Z"⟩ ⟨"ArchiveBenchModel", "unsqueeze", "(I)Z"⟩ ∈ ab_T := ab_T_in (List.mem_append_left _ (List.mem_of_getElem? (i := 38) (by decide +kernel))) (by decide +kernel)
theorem km_Md_172 : ab_kV "ArchiveBenchModel" 172 mm_Md_unsqueeze 1 := ⟨⟨by decide +kernel, ww_693, ww_690, ww_7, ⟨by decide, by decide, by decide +kernel⟩⟩, ww_692, wp_38⟩
theorem ww_678 : Cond.methodLink "ArchiveBenchModel" 153 ⟨"ArchiveBenchModel", "of", "(II)I"⟩ ∈ ab_T := ab_T_in (List.mem_append_right _ (List.mem_of_getElem? (i := 678) (by decide +kernel))) (by decide +kernel)
theorem ww_681 : Cond.code ⟨"ArchiveBenchModel", "of", "(II)I"⟩ prog_10_method_35_code 3 (some FieldType.int) ∈ ab_T := ab_T_in (List.mem_append_right _ (List.mem_of_getElem? (i := 681) (by decide +kernel))) (by decide +kernel)
theorem ww_680 : Cond.instanceMethod ⟨"ArchiveBenchModel", "of", "(II)I"⟩ ∈ ab_T := ab_T_in (List.mem_append_right _ (List.mem_of_getElem? (i := 680) (by decide +kernel))) (by decide +kernel)
theorem wp_35 : Cond.selects "ArchiveBenchModel" ⟨"ArchiveBenchModel", "of", "(II)I"⟩ ⟨"ArchiveBenchModel", "of", "(II)I"⟩ ∈ ab_T := ab_T_in (List.mem_append_left _ (List.mem_of_getElem? (i := 35) (by decide +kernel))) (by decide +kernel)
theorem km_Md_153 : ab_kV "ArchiveBenchModel" 153 mm_Md_of 2 := ⟨⟨by decide +kernel, ww_681, ww_678, ww_7, ⟨by decide, by decide, by decide +kernel⟩⟩, ww_680, wp_35⟩
theorem ww_682 : Cond.methodLink "ArchiveBenchModel" 156 ⟨"ArchiveBenchModel", "nameAt", "(II)I"⟩ ∈ ab_T := ab_T_in (List.mem_append_right _ (List.mem_of_getElem? (i := 682) (by decide +kernel))) (by decide +kernel)
theorem ww_685 : Cond.code ⟨"ArchiveBenchModel", "nameAt", "(II)I"⟩ prog_10_method_36_code 3 (some FieldType.int) ∈ ab_T := ab_T_in (List.mem_append_right _ (List.mem_of_getElem? (i := 685) (by decide +kernel))) (by decide +kernel)
theorem ww_684 : Cond.instanceMethod ⟨"ArchiveBenchModel", "nameAt", "(II)I"⟩ ∈ ab_T := ab_T_in (List.mem_append_right _ (List.mem_of_getElem? (i := 684) (by decide +kernel))) (by decide +kernel)
theorem wp_36 : Cond.selects "ArchiveBenchModel" ⟨"ArchiveBenchModel", "nameAt", "(II)I"⟩ ⟨"ArchiveBenchModel", "nameAt", "(II)I"⟩ ∈ ab_T := ab_T_in (List.mem_append_left _ (List.mem_of_getElem? (i := 36) (by decide +kernel))) (by decide +kernel)
theorem km_Md_156 : ab_kV "ArchiveBenchModel" 156 mm_Md_nameAt 2 := ⟨⟨by decide +kernel, ww_685, ww_682, ww_7, ⟨by decide, by decide, by decide +kernel⟩⟩, ww_684, wp_36⟩
theorem ww_694 : Cond.methodLink "ArchiveBenchModel" 163 ⟨"ArchiveBenchModel", "piece", "(III)I"⟩ ∈ ab_T := ab_T_in (List.mem_append_right _ (List.mem_of_getElem? (i := 694) (by decide +kernel))) (by decide +kernel)
theorem ww_697 : Cond.code ⟨"ArchiveBenchModel", "piece", "(III)I"⟩ prog_10_method_40_code 8 (some FieldType.int) ∈ ab_T := ab_T_in (List.mem_append_right _ (List.mem_of_getElem? (i := 697) (by decide +kernel))) (by decide +kernel)
theorem ww_696 : Cond.instanceMethod ⟨"ArchiveBenchModel", "piece", "(III)I"⟩ ∈ ab_T := ab_T_in (List.mem_append_right _ (List.mem_of_getElem? (i := 696) (by decide +kernel))) (by decide +kernel)
theorem wp_39 : Cond.selects "ArchiveBenchModel" ⟨"ArchiveBenchModel", "piece", "(III)I"⟩ ⟨"ArchiveBenchModel", "piece", "(III)I"⟩ ∈ ab_T := ab_T_in (List.mem_append_left _ (List.mem_of_getElem? (i := 39) (by decide +kernel))) (by decide +kernel)
theorem km_Md_163 : ab_kV "ArchiveBenchModel" 163 mm_Md_piece 3 := ⟨⟨by decide +kernel, ww_697, ww_694, ww_7, ⟨by decide, by decide, by decide +kernel⟩⟩, ww_696, wp_39⟩
theorem ww_698 : Cond.methodLink "ArchiveBenchModel" 159 ⟨"ArchiveBenchModel", "make", "(II)Z"⟩ ∈ ab_T := ab_T_in (List.mem_append_right _ (List.mem_of_getElem? (i := 698) (by decide +kernel))) (by decide +kernel)
theorem ww_701 : Cond.code ⟨"ArchiveBenchModel", "make", "(II)Z"⟩ prog_10_method_39_code 3 (some FieldType.boolean) ∈ ab_T := ab_T_in (List.mem_append_right _ (List.mem_of_getElem? (i := 701) (by decide +kernel))) (by decide +kernel)
theorem ww_700 : Cond.instanceMethod ⟨"ArchiveBenchModel", "make", "(II)Z"⟩ ∈ ab_T := ab_T_in (List.mem_append_right _ (List.mem_of_getElem? (i := 700) (by decide +kernel))) (by decide +kernel)
theorem wp_40 : Cond.selects "ArchiveBenchModel" ⟨"ArchiveBenchModel", "make", "(II)Z"⟩ ⟨"ArchiveBenchModel", "make", "(II)Z"⟩ ∈ ab_T := ab_T_in (List.mem_append_left _ (List.mem_of_getElem? (i := 40) (by decide +kernel))) (by decide +kernel)
theorem km_Md_159 : ab_kV "ArchiveBenchModel" 159 mm_Md_make 2 := ⟨⟨by decide +kernel, ww_701, ww_698, ww_7, ⟨by decide, by decide, by decide +kernel⟩⟩, ww_700, wp_40⟩
theorem ww_14 : Cond.methodLink "ArchiveBenchLaw" 9 ⟨"ArchiveBench", "<init>", "()V"⟩ ∈ ab_T := ab_T_in (List.mem_append_right _ (List.mem_of_getElem? (i := 14) (by decide +kernel))) (by decide +kernel)
theorem ww_16 : Cond.code ⟨"ArchiveBench", "<init>", "()V"⟩ prog_1_method_1_code 1 none ∈ ab_T := ab_T_in (List.mem_append_right _ (List.mem_of_getElem? (i := 16) (by decide +kernel))) (by decide +kernel)
theorem ww_15 : Cond.instanceMethod ⟨"ArchiveBench", "<init>", "()V"⟩ ∈ ab_T := ab_T_in (List.mem_append_right _ (List.mem_of_getElem? (i := 15) (by decide +kernel))) (by decide +kernel)
theorem km_Lw_9 : ab_kI "ArchiveBenchLaw" 9 mm_AB_init 0 := ⟨⟨by decide +kernel, ww_16, ww_14, ww_1, ⟨by decide, by decide, by decide +kernel⟩⟩, rfl, ww_15⟩
theorem ww_472 : Cond.methodLink "ArchiveBenchLaw" 12 ⟨"ArchiveBenchModel", "<init>", "()V"⟩ ∈ ab_T := ab_T_in (List.mem_append_right _ (List.mem_of_getElem? (i := 472) (by decide +kernel))) (by decide +kernel)
theorem ww_474 : Cond.code ⟨"ArchiveBenchModel", "<init>", "()V"⟩ prog_10_method_1_code 1 none ∈ ab_T := ab_T_in (List.mem_append_right _ (List.mem_of_getElem? (i := 474) (by decide +kernel))) (by decide +kernel)
theorem ww_473 : Cond.instanceMethod ⟨"ArchiveBenchModel", "<init>", "()V"⟩ ∈ ab_T := ab_T_in (List.mem_append_right _ (List.mem_of_getElem? (i := 473) (by decide +kernel))) (by decide +kernel)
theorem km_Lw_12 : ab_kI "ArchiveBenchLaw" 12 mm_Md_init 0 := ⟨⟨by decide +kernel, ww_474, ww_472, ww_7, ⟨by decide, by decide, by decide +kernel⟩⟩, rfl, ww_473⟩
theorem ww_180 : Cond.methodLink "ArchiveBenchLaw" 13 ⟨"ArchiveBench", "name", "(I)I"⟩ ∈ ab_T := ab_T_in (List.mem_append_right _ (List.mem_of_getElem? (i := 180) (by decide +kernel))) (by decide +kernel)
theorem ww_183 : Cond.code ⟨"ArchiveBench", "name", "(I)I"⟩ prog_1_method_2_code 2 (some FieldType.int) ∈ ab_T := ab_T_in (List.mem_append_right _ (List.mem_of_getElem? (i := 183) (by decide +kernel))) (by decide +kernel)
theorem ww_181 : Cond.instanceMethod ⟨"ArchiveBench", "name", "(I)I"⟩ ∈ ab_T := ab_T_in (List.mem_append_right _ (List.mem_of_getElem? (i := 181) (by decide +kernel))) (by decide +kernel)
theorem ww_182 : Cond.selects "ArchiveBench" ⟨"ArchiveBench", "name", "(I)I"⟩ ⟨"ArchiveBench", "name", "(I)I"⟩ ∈ ab_T := ab_T_in (List.mem_append_right _ (List.mem_of_getElem? (i := 182) (by decide +kernel))) (by decide +kernel)
theorem km_Lw_13 : ab_kV "ArchiveBenchLaw" 13 mm_AB_name 1 := ⟨⟨by decide +kernel, ww_183, ww_180, ww_1, ⟨by decide, by decide, by decide +kernel⟩⟩, ww_181, ww_182⟩
theorem ww_540 : Cond.methodLink "ArchiveBenchLaw" 17 ⟨"ArchiveBenchModel", "name", "(I)I"⟩ ∈ ab_T := ab_T_in (List.mem_append_right _ (List.mem_of_getElem? (i := 540) (by decide +kernel))) (by decide +kernel)
theorem ww_543 : Cond.code ⟨"ArchiveBenchModel", "name", "(I)I"⟩ prog_10_method_4_code 2 (some FieldType.int) ∈ ab_T := ab_T_in (List.mem_append_right _ (List.mem_of_getElem? (i := 543) (by decide +kernel))) (by decide +kernel)
theorem ww_541 : Cond.instanceMethod ⟨"ArchiveBenchModel", "name", "(I)I"⟩ ∈ ab_T := ab_T_in (List.mem_append_right _ (List.mem_of_getElem? (i := 541) (by decide +kernel))) (by decide +kernel)
theorem ww_542 : Cond.selects "ArchiveBenchModel" ⟨"ArchiveBenchModel", "name", "(I)I"⟩ ⟨"ArchiveBenchModel", "name", "(I)I"⟩ ∈ ab_T := ab_T_in (List.mem_append_right _ (List.mem_of_getElem? (i := 542) (by decide +kernel))) (by decide +kernel)
theorem km_Lw_17 : ab_kV "ArchiveBenchLaw" 17 mm_Md_name 1 := ⟨⟨by decide +kernel, ww_543, ww_540, ww_7, ⟨by decide, by decide, by decide +kernel⟩⟩, ww_541, ww_542⟩
theorem ww_191 : Cond.methodLink "ArchiveBenchLaw" 18 ⟨"ArchiveBench", "data", "(II)I"⟩ ∈ ab_T := ab_T_in (List.mem_append_right _ (List.mem_of_getElem? (i := 191) (by decide +kernel))) (by decide +kernel)
theorem ww_194 : Cond.code ⟨"ArchiveBench", "data", "(II)I"⟩ prog_1_method_3_code 3 (some FieldType.int) ∈ ab_T := ab_T_in (List.mem_append_right _ (List.mem_of_getElem? (i := 194) (by decide +kernel))) (by decide +kernel)
theorem ww_192 : Cond.instanceMethod ⟨"ArchiveBench", "data", "(II)I"⟩ ∈ ab_T := ab_T_in (List.mem_append_right _ (List.mem_of_getElem? (i := 192) (by decide +kernel))) (by decide +kernel)
theorem ww_193 : Cond.selects "ArchiveBench" ⟨"ArchiveBench", "data", "(II)I"⟩ ⟨"ArchiveBench", "data", "(II)I"⟩ ∈ ab_T := ab_T_in (List.mem_append_right _ (List.mem_of_getElem? (i := 193) (by decide +kernel))) (by decide +kernel)
theorem km_Lw_18 : ab_kV "ArchiveBenchLaw" 18 mm_AB_data 2 := ⟨⟨by decide +kernel, ww_194, ww_191, ww_1, ⟨by decide, by decide, by decide +kernel⟩⟩, ww_192, ww_193⟩
theorem ww_550 : Cond.methodLink "ArchiveBenchLaw" 22 ⟨"ArchiveBenchModel", "data", "(II)I"⟩ ∈ ab_T := ab_T_in (List.mem_append_right _ (List.mem_of_getElem? (i := 550) (by decide +kernel))) (by decide +kernel)
theorem ww_553 : Cond.code ⟨"ArchiveBenchModel", "data", "(II)I"⟩ prog_10_method_5_code 4 (some FieldType.int) ∈ ab_T := ab_T_in (List.mem_append_right _ (List.mem_of_getElem? (i := 553) (by decide +kernel))) (by decide +kernel)
theorem ww_551 : Cond.instanceMethod ⟨"ArchiveBenchModel", "data", "(II)I"⟩ ∈ ab_T := ab_T_in (List.mem_append_right _ (List.mem_of_getElem? (i := 551) (by decide +kernel))) (by decide +kernel)
theorem ww_552 : Cond.selects "ArchiveBenchModel" ⟨"ArchiveBenchModel", "data", "(II)I"⟩ ⟨"ArchiveBenchModel", "data", "(II)I"⟩ ∈ ab_T := ab_T_in (List.mem_append_right _ (List.mem_of_getElem? (i := 552) (by decide +kernel))) (by decide +kernel)
theorem km_Lw_22 : ab_kV "ArchiveBenchLaw" 22 mm_Md_data 2 := ⟨⟨by decide +kernel, ww_553, ww_550, ww_7, ⟨by decide, by decide, by decide +kernel⟩⟩, ww_551, ww_552⟩
theorem ww_202 : Cond.methodLink "ArchiveBenchLaw" 23 ⟨"ArchiveBench", "add", "(I)I"⟩ ∈ ab_T := ab_T_in (List.mem_append_right _ (List.mem_of_getElem? (i := 202) (by decide +kernel))) (by decide +kernel)
theorem ww_205 : Cond.code ⟨"ArchiveBench", "add", "(I)I"⟩ prog_1_method_4_code 3 (some FieldType.int) ∈ ab_T := ab_T_in (List.mem_append_right _ (List.mem_of_getElem? (i := 205) (by decide +kernel))) (by decide +kernel)
theorem ww_203 : Cond.instanceMethod ⟨"ArchiveBench", "add", "(I)I"⟩ ∈ ab_T := ab_T_in (List.mem_append_right _ (List.mem_of_getElem? (i := 203) (by decide +kernel))) (by decide +kernel)
theorem ww_204 : Cond.selects "ArchiveBench" ⟨"ArchiveBench", "add", "(I)I"⟩ ⟨"ArchiveBench", "add", "(I)I"⟩ ∈ ab_T := ab_T_in (List.mem_append_right _ (List.mem_of_getElem? (i := 204) (by decide +kernel))) (by decide +kernel)
theorem km_Lw_23 : ab_kV "ArchiveBenchLaw" 23 mm_AB_add 1 := ⟨⟨by decide +kernel, ww_205, ww_202, ww_1, ⟨by decide, by decide, by decide +kernel⟩⟩, ww_203, ww_204⟩
theorem ww_554 : Cond.methodLink "ArchiveBenchLaw" 26 ⟨"ArchiveBenchModel", "add", "(I)I"⟩ ∈ ab_T := ab_T_in (List.mem_append_right _ (List.mem_of_getElem? (i := 554) (by decide +kernel))) (by decide +kernel)
theorem ww_557 : Cond.code ⟨"ArchiveBenchModel", "add", "(I)I"⟩ prog_10_method_6_code 3 (some FieldType.int) ∈ ab_T := ab_T_in (List.mem_append_right _ (List.mem_of_getElem? (i := 557) (by decide +kernel))) (by decide +kernel)
theorem ww_555 : Cond.instanceMethod ⟨"ArchiveBenchModel", "add", "(I)I"⟩ ∈ ab_T := ab_T_in (List.mem_append_right _ (List.mem_of_getElem? (i := 555) (by decide +kernel))) (by decide +kernel)
theorem ww_556 : Cond.selects "ArchiveBenchModel" ⟨"ArchiveBenchModel", "add", "(I)I"⟩ ⟨"ArchiveBenchModel", "add", "(I)I"⟩ ∈ ab_T := ab_T_in (List.mem_append_right _ (List.mem_of_getElem? (i := 556) (by decide +kernel))) (by decide +kernel)
theorem km_Lw_26 : ab_kV "ArchiveBenchLaw" 26 mm_Md_add 1 := ⟨⟨by decide +kernel, ww_557, ww_554, ww_7, ⟨by decide, by decide, by decide +kernel⟩⟩, ww_555, ww_556⟩
theorem ww_269 : Cond.methodLink "ArchiveBenchLaw" 27 ⟨"ArchiveBench", "pack", "(I)I"⟩ ∈ ab_T := ab_T_in (List.mem_append_right _ (List.mem_of_getElem? (i := 269) (by decide +kernel))) (by decide +kernel)
theorem ww_272 : Cond.code ⟨"ArchiveBench", "pack", "(I)I"⟩ prog_1_method_5_code 2 (some FieldType.int) ∈ ab_T := ab_T_in (List.mem_append_right _ (List.mem_of_getElem? (i := 272) (by decide +kernel))) (by decide +kernel)
theorem ww_270 : Cond.instanceMethod ⟨"ArchiveBench", "pack", "(I)I"⟩ ∈ ab_T := ab_T_in (List.mem_append_right _ (List.mem_of_getElem? (i := 270) (by decide +kernel))) (by decide +kernel)
theorem ww_271 : Cond.selects "ArchiveBench" ⟨"ArchiveBench", "pack", "(I)I"⟩ ⟨"ArchiveBench", "pack", "(I)I"⟩ ∈ ab_T := ab_T_in (List.mem_append_right _ (List.mem_of_getElem? (i := 271) (by decide +kernel))) (by decide +kernel)
theorem km_Lw_27 : ab_kV "ArchiveBenchLaw" 27 mm_AB_pack 1 := ⟨⟨by decide +kernel, ww_272, ww_269, ww_1, ⟨by decide, by decide, by decide +kernel⟩⟩, ww_270, ww_271⟩
theorem ww_558 : Cond.methodLink "ArchiveBenchLaw" 30 ⟨"ArchiveBenchModel", "pack", "(I)I"⟩ ∈ ab_T := ab_T_in (List.mem_append_right _ (List.mem_of_getElem? (i := 558) (by decide +kernel))) (by decide +kernel)
theorem ww_561 : Cond.code ⟨"ArchiveBenchModel", "pack", "(I)I"⟩ prog_10_method_22_code 3 (some FieldType.int) ∈ ab_T := ab_T_in (List.mem_append_right _ (List.mem_of_getElem? (i := 561) (by decide +kernel))) (by decide +kernel)
theorem ww_559 : Cond.instanceMethod ⟨"ArchiveBenchModel", "pack", "(I)I"⟩ ∈ ab_T := ab_T_in (List.mem_append_right _ (List.mem_of_getElem? (i := 559) (by decide +kernel))) (by decide +kernel)
theorem ww_560 : Cond.selects "ArchiveBenchModel" ⟨"ArchiveBenchModel", "pack", "(I)I"⟩ ⟨"ArchiveBenchModel", "pack", "(I)I"⟩ ∈ ab_T := ab_T_in (List.mem_append_right _ (List.mem_of_getElem? (i := 560) (by decide +kernel))) (by decide +kernel)
theorem km_Lw_30 : ab_kV "ArchiveBenchLaw" 30 mm_Md_pack 1 := ⟨⟨by decide +kernel, ww_561, ww_558, ww_7, ⟨by decide, by decide, by decide +kernel⟩⟩, ww_559, ww_560⟩
theorem ww_322 : Cond.methodLink "ArchiveBenchLaw" 31 ⟨"ArchiveBench", "put", "(II)I"⟩ ∈ ab_T := ab_T_in (List.mem_append_right _ (List.mem_of_getElem? (i := 322) (by decide +kernel))) (by decide +kernel)
theorem ww_325 : Cond.code ⟨"ArchiveBench", "put", "(II)I"⟩ prog_1_method_6_code 3 (some FieldType.int) ∈ ab_T := ab_T_in (List.mem_append_right _ (List.mem_of_getElem? (i := 325) (by decide +kernel))) (by decide +kernel)
theorem ww_323 : Cond.instanceMethod ⟨"ArchiveBench", "put", "(II)I"⟩ ∈ ab_T := ab_T_in (List.mem_append_right _ (List.mem_of_getElem? (i := 323) (by decide +kernel))) (by decide +kernel)
theorem ww_324 : Cond.selects "ArchiveBench" ⟨"ArchiveBench", "put", "(II)I"⟩ ⟨"ArchiveBench", "put", "(II)I"⟩ ∈ ab_T := ab_T_in (List.mem_append_right _ (List.mem_of_getElem? (i := 324) (by decide +kernel))) (by decide +kernel)
theorem km_Lw_31 : ab_kV "ArchiveBenchLaw" 31 mm_AB_put 2 := ⟨⟨by decide +kernel, ww_325, ww_322, ww_1, ⟨by decide, by decide, by decide +kernel⟩⟩, ww_323, ww_324⟩
theorem ww_622 : Cond.methodLink "ArchiveBenchLaw" 34 ⟨"ArchiveBenchModel", "put", "(II)I"⟩ ∈ ab_T := ab_T_in (List.mem_append_right _ (List.mem_of_getElem? (i := 622) (by decide +kernel))) (by decide +kernel)
theorem ww_625 : Cond.code ⟨"ArchiveBenchModel", "put", "(II)I"⟩ prog_10_method_23_code 3 (some FieldType.int) ∈ ab_T := ab_T_in (List.mem_append_right _ (List.mem_of_getElem? (i := 625) (by decide +kernel))) (by decide +kernel)
theorem ww_623 : Cond.instanceMethod ⟨"ArchiveBenchModel", "put", "(II)I"⟩ ∈ ab_T := ab_T_in (List.mem_append_right _ (List.mem_of_getElem? (i := 623) (by decide +kernel))) (by decide +kernel)
theorem ww_624 : Cond.selects "ArchiveBenchModel" ⟨"ArchiveBenchModel", "put", "(II)I"⟩ ⟨"ArchiveBenchModel", "put", "(II)I"⟩ ∈ ab_T := ab_T_in (List.mem_append_right _ (List.mem_of_getElem? (i := 624) (by decide +kernel))) (by decide +kernel)
theorem km_Lw_34 : ab_kV "ArchiveBenchLaw" 34 mm_Md_put 2 := ⟨⟨by decide +kernel, ww_625, ww_622, ww_7, ⟨by decide, by decide, by decide +kernel⟩⟩, ww_623, ww_624⟩
theorem ww_330 : Cond.methodLink "ArchiveBenchLaw" 35 ⟨"ArchiveBench", "cut", "(I)I"⟩ ∈ ab_T := ab_T_in (List.mem_append_right _ (List.mem_of_getElem? (i := 330) (by decide +kernel))) (by decide +kernel)
theorem ww_333 : Cond.code ⟨"ArchiveBench", "cut", "(I)I"⟩ prog_1_method_7_code 2 (some FieldType.int) ∈ ab_T := ab_T_in (List.mem_append_right _ (List.mem_of_getElem? (i := 333) (by decide +kernel))) (by decide +kernel)
theorem ww_331 : Cond.instanceMethod ⟨"ArchiveBench", "cut", "(I)I"⟩ ∈ ab_T := ab_T_in (List.mem_append_right _ (List.mem_of_getElem? (i := 331) (by decide +kernel))) (by decide +kernel)
theorem ww_332 : Cond.selects "ArchiveBench" ⟨"ArchiveBench", "cut", "(I)I"⟩ ⟨"ArchiveBench", "cut", "(I)I"⟩ ∈ ab_T := ab_T_in (List.mem_append_right _ (List.mem_of_getElem? (i := 332) (by decide +kernel))) (by decide +kernel)
theorem km_Lw_35 : ab_kV "ArchiveBenchLaw" 35 mm_AB_cut 1 := ⟨⟨by decide +kernel, ww_333, ww_330, ww_1, ⟨by decide, by decide, by decide +kernel⟩⟩, ww_331, ww_332⟩
theorem ww_626 : Cond.methodLink "ArchiveBenchLaw" 38 ⟨"ArchiveBenchModel", "cut", "(I)I"⟩ ∈ ab_T := ab_T_in (List.mem_append_right _ (List.mem_of_getElem? (i := 626) (by decide +kernel))) (by decide +kernel)
theorem ww_629 : Cond.code ⟨"ArchiveBenchModel", "cut", "(I)I"⟩ prog_10_method_24_code 2 (some FieldType.int) ∈ ab_T := ab_T_in (List.mem_append_right _ (List.mem_of_getElem? (i := 629) (by decide +kernel))) (by decide +kernel)
theorem ww_627 : Cond.instanceMethod ⟨"ArchiveBenchModel", "cut", "(I)I"⟩ ∈ ab_T := ab_T_in (List.mem_append_right _ (List.mem_of_getElem? (i := 627) (by decide +kernel))) (by decide +kernel)
theorem ww_628 : Cond.selects "ArchiveBenchModel" ⟨"ArchiveBenchModel", "cut", "(I)I"⟩ ⟨"ArchiveBenchModel", "cut", "(I)I"⟩ ∈ ab_T := ab_T_in (List.mem_append_right _ (List.mem_of_getElem? (i := 628) (by decide +kernel))) (by decide +kernel)
theorem km_Lw_38 : ab_kV "ArchiveBenchLaw" 38 mm_Md_cut 1 := ⟨⟨by decide +kernel, ww_629, ww_626, ww_7, ⟨by decide, by decide, by decide +kernel⟩⟩, ww_627, ww_628⟩
theorem ww_334 : Cond.methodLink "ArchiveBenchLaw" 39 ⟨"ArchiveBench", "image", "(I)I"⟩ ∈ ab_T := ab_T_in (List.mem_append_right _ (List.mem_of_getElem? (i := 334) (by decide +kernel))) (by decide +kernel)
theorem ww_337 : Cond.code ⟨"ArchiveBench", "image", "(I)I"⟩ prog_1_method_8_code 2 (some FieldType.int) ∈ ab_T := ab_T_in (List.mem_append_right _ (List.mem_of_getElem? (i := 337) (by decide +kernel))) (by decide +kernel)
theorem ww_335 : Cond.instanceMethod ⟨"ArchiveBench", "image", "(I)I"⟩ ∈ ab_T := ab_T_in (List.mem_append_right _ (List.mem_of_getElem? (i := 335) (by decide +kernel))) (by decide +kernel)
theorem ww_336 : Cond.selects "ArchiveBench" ⟨"ArchiveBench", "image", "(I)I"⟩ ⟨"ArchiveBench", "image", "(I)I"⟩ ∈ ab_T := ab_T_in (List.mem_append_right _ (List.mem_of_getElem? (i := 336) (by decide +kernel))) (by decide +kernel)
theorem km_Lw_39 : ab_kV "ArchiveBenchLaw" 39 mm_AB_image 1 := ⟨⟨by decide +kernel, ww_337, ww_334, ww_1, ⟨by decide, by decide, by decide +kernel⟩⟩, ww_335, ww_336⟩
theorem ww_630 : Cond.methodLink "ArchiveBenchLaw" 42 ⟨"ArchiveBenchModel", "image", "(I)I"⟩ ∈ ab_T := ab_T_in (List.mem_append_right _ (List.mem_of_getElem? (i := 630) (by decide +kernel))) (by decide +kernel)
theorem ww_633 : Cond.code ⟨"ArchiveBenchModel", "image", "(I)I"⟩ prog_10_method_25_code 2 (some FieldType.int) ∈ ab_T := ab_T_in (List.mem_append_right _ (List.mem_of_getElem? (i := 633) (by decide +kernel))) (by decide +kernel)
theorem ww_631 : Cond.instanceMethod ⟨"ArchiveBenchModel", "image", "(I)I"⟩ ∈ ab_T := ab_T_in (List.mem_append_right _ (List.mem_of_getElem? (i := 631) (by decide +kernel))) (by decide +kernel)
theorem ww_632 : Cond.selects "ArchiveBenchModel" ⟨"ArchiveBenchModel", "image", "(I)I"⟩ ⟨"ArchiveBenchModel", "image", "(I)I"⟩ ∈ ab_T := ab_T_in (List.mem_append_right _ (List.mem_of_getElem? (i := 632) (by decide +kernel))) (by decide +kernel)
theorem km_Lw_42 : ab_kV "ArchiveBenchLaw" 42 mm_Md_image 1 := ⟨⟨by decide +kernel, ww_633, ww_630, ww_7, ⟨by decide, by decide, by decide +kernel⟩⟩, ww_631, ww_632⟩
theorem ww_339 : Cond.methodLink "ArchiveBenchLaw" 43 ⟨"ArchiveBench", "open", "()I"⟩ ∈ ab_T := ab_T_in (List.mem_append_right _ (List.mem_of_getElem? (i := 339) (by decide +kernel))) (by decide +kernel)
theorem ww_342 : Cond.code ⟨"ArchiveBench", "open", "()I"⟩ prog_1_method_9_code 1 (some FieldType.int) ∈ ab_T := ab_T_in (List.mem_append_right _ (List.mem_of_getElem? (i := 342) (by decide +kernel))) (by decide +kernel)
theorem ww_340 : Cond.instanceMethod ⟨"ArchiveBench", "open", "()I"⟩ ∈ ab_T := ab_T_in (List.mem_append_right _ (List.mem_of_getElem? (i := 340) (by decide +kernel))) (by decide +kernel)
theorem ww_341 : Cond.selects "ArchiveBench" ⟨"ArchiveBench", "open", "()I"⟩ ⟨"ArchiveBench", "open", "()I"⟩ ∈ ab_T := ab_T_in (List.mem_append_right _ (List.mem_of_getElem? (i := 341) (by decide +kernel))) (by decide +kernel)
theorem km_Lw_43 : ab_kV "ArchiveBenchLaw" 43 mm_AB_open 0 := ⟨⟨by decide +kernel, ww_342, ww_339, ww_1, ⟨by decide, by decide, by decide +kernel⟩⟩, ww_340, ww_341⟩
theorem ww_634 : Cond.methodLink "ArchiveBenchLaw" 47 ⟨"ArchiveBenchModel", "open", "()I"⟩ ∈ ab_T := ab_T_in (List.mem_append_right _ (List.mem_of_getElem? (i := 634) (by decide +kernel))) (by decide +kernel)
theorem ww_637 : Cond.code ⟨"ArchiveBenchModel", "open", "()I"⟩ prog_10_method_33_code 3 (some FieldType.int) ∈ ab_T := ab_T_in (List.mem_append_right _ (List.mem_of_getElem? (i := 637) (by decide +kernel))) (by decide +kernel)
theorem ww_635 : Cond.instanceMethod ⟨"ArchiveBenchModel", "open", "()I"⟩ ∈ ab_T := ab_T_in (List.mem_append_right _ (List.mem_of_getElem? (i := 635) (by decide +kernel))) (by decide +kernel)
theorem ww_636 : Cond.selects "ArchiveBenchModel" ⟨"ArchiveBenchModel", "open", "()I"⟩ ⟨"ArchiveBenchModel", "open", "()I"⟩ ∈ ab_T := ab_T_in (List.mem_append_right _ (List.mem_of_getElem? (i := 636) (by decide +kernel))) (by decide +kernel)
theorem km_Lw_47 : ab_kV "ArchiveBenchLaw" 47 mm_Md_open 0 := ⟨⟨by decide +kernel, ww_637, ww_634, ww_7, ⟨by decide, by decide, by decide +kernel⟩⟩, ww_635, ww_636⟩
theorem ww_407 : Cond.methodLink "ArchiveBenchLaw" 48 ⟨"ArchiveBench", "place", "()I"⟩ ∈ ab_T := ab_T_in (List.mem_append_right _ (List.mem_of_getElem? (i := 407) (by decide +kernel))) (by decide +kernel)
theorem ww_410 : Cond.code ⟨"ArchiveBench", "place", "()I"⟩ prog_1_method_10_code 1 (some FieldType.int) ∈ ab_T := ab_T_in (List.mem_append_right _ (List.mem_of_getElem? (i := 410) (by decide +kernel))) (by decide +kernel)
theorem ww_408 : Cond.instanceMethod ⟨"ArchiveBench", "place", "()I"⟩ ∈ ab_T := ab_T_in (List.mem_append_right _ (List.mem_of_getElem? (i := 408) (by decide +kernel))) (by decide +kernel)
theorem ww_409 : Cond.selects "ArchiveBench" ⟨"ArchiveBench", "place", "()I"⟩ ⟨"ArchiveBench", "place", "()I"⟩ ∈ ab_T := ab_T_in (List.mem_append_right _ (List.mem_of_getElem? (i := 409) (by decide +kernel))) (by decide +kernel)
theorem km_Lw_48 : ab_kV "ArchiveBenchLaw" 48 mm_AB_place 0 := ⟨⟨by decide +kernel, ww_410, ww_407, ww_1, ⟨by decide, by decide, by decide +kernel⟩⟩, ww_408, ww_409⟩
theorem ww_666 : Cond.methodLink "ArchiveBenchLaw" 51 ⟨"ArchiveBenchModel", "place", "()I"⟩ ∈ ab_T := ab_T_in (List.mem_append_right _ (List.mem_of_getElem? (i := 666) (by decide +kernel))) (by decide +kernel)
theorem ww_669 : Cond.code ⟨"ArchiveBenchModel", "place", "()I"⟩ prog_10_method_34_code 1 (some FieldType.int) ∈ ab_T := ab_T_in (List.mem_append_right _ (List.mem_of_getElem? (i := 669) (by decide +kernel))) (by decide +kernel)
theorem ww_667 : Cond.instanceMethod ⟨"ArchiveBenchModel", "place", "()I"⟩ ∈ ab_T := ab_T_in (List.mem_append_right _ (List.mem_of_getElem? (i := 667) (by decide +kernel))) (by decide +kernel)
theorem ww_668 : Cond.selects "ArchiveBenchModel" ⟨"ArchiveBenchModel", "place", "()I"⟩ ⟨"ArchiveBenchModel", "place", "()I"⟩ ∈ ab_T := ab_T_in (List.mem_append_right _ (List.mem_of_getElem? (i := 668) (by decide +kernel))) (by decide +kernel)
theorem km_Lw_51 : ab_kV "ArchiveBenchLaw" 51 mm_Md_place 0 := ⟨⟨by decide +kernel, ww_669, ww_666, ww_7, ⟨by decide, by decide, by decide +kernel⟩⟩, ww_667, ww_668⟩
theorem ww_411 : Cond.methodLink "ArchiveBenchLaw" 52 ⟨"ArchiveBench", "take", "(I)I"⟩ ∈ ab_T := ab_T_in (List.mem_append_right _ (List.mem_of_getElem? (i := 411) (by decide +kernel))) (by decide +kernel)
theorem ww_414 : Cond.code ⟨"ArchiveBench", "take", "(I)I"⟩ prog_1_method_11_code 3 (some FieldType.int) ∈ ab_T := ab_T_in (List.mem_append_right _ (List.mem_of_getElem? (i := 414) (by decide +kernel))) (by decide +kernel)
theorem ww_412 : Cond.instanceMethod ⟨"ArchiveBench", "take", "(I)I"⟩ ∈ ab_T := ab_T_in (List.mem_append_right _ (List.mem_of_getElem? (i := 412) (by decide +kernel))) (by decide +kernel)
theorem ww_413 : Cond.selects "ArchiveBench" ⟨"ArchiveBench", "take", "(I)I"⟩ ⟨"ArchiveBench", "take", "(I)I"⟩ ∈ ab_T := ab_T_in (List.mem_append_right _ (List.mem_of_getElem? (i := 413) (by decide +kernel))) (by decide +kernel)
theorem km_Lw_52 : ab_kV "ArchiveBenchLaw" 52 mm_AB_take 1 := ⟨⟨by decide +kernel, ww_414, ww_411, ww_1, ⟨by decide, by decide, by decide +kernel⟩⟩, ww_412, ww_413⟩
theorem ww_670 : Cond.methodLink "ArchiveBenchLaw" 55 ⟨"ArchiveBenchModel", "take", "(I)I"⟩ ∈ ab_T := ab_T_in (List.mem_append_right _ (List.mem_of_getElem? (i := 670) (by decide +kernel))) (by decide +kernel)
theorem ww_673 : Cond.code ⟨"ArchiveBenchModel", "take", "(I)I"⟩ prog_10_method_42_code 4 (some FieldType.int) ∈ ab_T := ab_T_in (List.mem_append_right _ (List.mem_of_getElem? (i := 673) (by decide +kernel))) (by decide +kernel)
theorem ww_671 : Cond.instanceMethod ⟨"ArchiveBenchModel", "take", "(I)I"⟩ ∈ ab_T := ab_T_in (List.mem_append_right _ (List.mem_of_getElem? (i := 671) (by decide +kernel))) (by decide +kernel)
theorem ww_672 : Cond.selects "ArchiveBenchModel" ⟨"ArchiveBenchModel", "take", "(I)I"⟩ ⟨"ArchiveBenchModel", "take", "(I)I"⟩ ∈ ab_T := ab_T_in (List.mem_append_right _ (List.mem_of_getElem? (i := 672) (by decide +kernel))) (by decide +kernel)
theorem km_Lw_55 : ab_kV "ArchiveBenchLaw" 55 mm_Md_take 1 := ⟨⟨by decide +kernel, ww_673, ww_670, ww_7, ⟨by decide, by decide, by decide +kernel⟩⟩, ww_671, ww_672⟩
theorem ww_454 : Cond.methodLink "ArchiveBenchLaw" 56 ⟨"ArchiveBench", "taken", "(I)I"⟩ ∈ ab_T := ab_T_in (List.mem_append_right _ (List.mem_of_getElem? (i := 454) (by decide +kernel))) (by decide +kernel)
theorem ww_457 : Cond.code ⟨"ArchiveBench", "taken", "(I)I"⟩ prog_1_method_12_code 2 (some FieldType.int) ∈ ab_T := ab_T_in (List.mem_append_right _ (List.mem_of_getElem? (i := 457) (by decide +kernel))) (by decide +kernel)
theorem ww_455 : Cond.instanceMethod ⟨"ArchiveBench", "taken", "(I)I"⟩ ∈ ab_T := ab_T_in (List.mem_append_right _ (List.mem_of_getElem? (i := 455) (by decide +kernel))) (by decide +kernel)
theorem ww_456 : Cond.selects "ArchiveBench" ⟨"ArchiveBench", "taken", "(I)I"⟩ ⟨"ArchiveBench", "taken", "(I)I"⟩ ∈ ab_T := ab_T_in (List.mem_append_right _ (List.mem_of_getElem? (i := 456) (by decide +kernel))) (by decide +kernel)
theorem km_Lw_56 : ab_kV "ArchiveBenchLaw" 56 mm_AB_taken 1 := ⟨⟨by decide +kernel, ww_457, ww_454, ww_1, ⟨by decide, by decide, by decide +kernel⟩⟩, ww_455, ww_456⟩
theorem ww_702 : Cond.methodLink "ArchiveBenchLaw" 59 ⟨"ArchiveBenchModel", "taken", "(I)I"⟩ ∈ ab_T := ab_T_in (List.mem_append_right _ (List.mem_of_getElem? (i := 702) (by decide +kernel))) (by decide +kernel)
theorem ww_705 : Cond.code ⟨"ArchiveBenchModel", "taken", "(I)I"⟩ prog_10_method_43_code 2 (some FieldType.int) ∈ ab_T := ab_T_in (List.mem_append_right _ (List.mem_of_getElem? (i := 705) (by decide +kernel))) (by decide +kernel)
theorem ww_703 : Cond.instanceMethod ⟨"ArchiveBenchModel", "taken", "(I)I"⟩ ∈ ab_T := ab_T_in (List.mem_append_right _ (List.mem_of_getElem? (i := 703) (by decide +kernel))) (by decide +kernel)
theorem ww_704 : Cond.selects "ArchiveBenchModel" ⟨"ArchiveBenchModel", "taken", "(I)I"⟩ ⟨"ArchiveBenchModel", "taken", "(I)I"⟩ ∈ ab_T := ab_T_in (List.mem_append_right _ (List.mem_of_getElem? (i := 704) (by decide +kernel))) (by decide +kernel)
theorem km_Lw_59 : ab_kV "ArchiveBenchLaw" 59 mm_Md_taken 1 := ⟨⟨by decide +kernel, ww_705, ww_702, ww_7, ⟨by decide, by decide, by decide +kernel⟩⟩, ww_703, ww_704⟩
theorem ww_458 : Cond.methodLink "ArchiveBenchLaw" 60 ⟨"ArchiveBench", "file", "(II)I"⟩ ∈ ab_T := ab_T_in (List.mem_append_right _ (List.mem_of_getElem? (i := 458) (by decide +kernel))) (by decide +kernel)
theorem ww_461 : Cond.code ⟨"ArchiveBench", "file", "(II)I"⟩ prog_1_method_13_code 3 (some FieldType.int) ∈ ab_T := ab_T_in (List.mem_append_right _ (List.mem_of_getElem? (i := 461) (by decide +kernel))) (by decide +kernel)
theorem ww_459 : Cond.instanceMethod ⟨"ArchiveBench", "file", "(II)I"⟩ ∈ ab_T := ab_T_in (List.mem_append_right _ (List.mem_of_getElem? (i := 459) (by decide +kernel))) (by decide +kernel)
theorem ww_460 : Cond.selects "ArchiveBench" ⟨"ArchiveBench", "file", "(II)I"⟩ ⟨"ArchiveBench", "file", "(II)I"⟩ ∈ ab_T := ab_T_in (List.mem_append_right _ (List.mem_of_getElem? (i := 460) (by decide +kernel))) (by decide +kernel)
theorem km_Lw_60 : ab_kV "ArchiveBenchLaw" 60 mm_AB_file 2 := ⟨⟨by decide +kernel, ww_461, ww_458, ww_1, ⟨by decide, by decide, by decide +kernel⟩⟩, ww_459, ww_460⟩
theorem ww_706 : Cond.methodLink "ArchiveBenchLaw" 63 ⟨"ArchiveBenchModel", "file", "(II)I"⟩ ∈ ab_T := ab_T_in (List.mem_append_right _ (List.mem_of_getElem? (i := 706) (by decide +kernel))) (by decide +kernel)
theorem ww_709 : Cond.code ⟨"ArchiveBenchModel", "file", "(II)I"⟩ prog_10_method_44_code 3 (some FieldType.int) ∈ ab_T := ab_T_in (List.mem_append_right _ (List.mem_of_getElem? (i := 709) (by decide +kernel))) (by decide +kernel)
theorem ww_707 : Cond.instanceMethod ⟨"ArchiveBenchModel", "file", "(II)I"⟩ ∈ ab_T := ab_T_in (List.mem_append_right _ (List.mem_of_getElem? (i := 707) (by decide +kernel))) (by decide +kernel)
theorem ww_708 : Cond.selects "ArchiveBenchModel" ⟨"ArchiveBenchModel", "file", "(II)I"⟩ ⟨"ArchiveBenchModel", "file", "(II)I"⟩ ∈ ab_T := ab_T_in (List.mem_append_right _ (List.mem_of_getElem? (i := 708) (by decide +kernel))) (by decide +kernel)
theorem km_Lw_63 : ab_kV "ArchiveBenchLaw" 63 mm_Md_file 2 := ⟨⟨by decide +kernel, ww_709, ww_706, ww_7, ⟨by decide, by decide, by decide +kernel⟩⟩, ww_707, ww_708⟩
theorem ww_466 : Cond.methodLink "ArchiveBenchLaw" 64 ⟨"ArchiveBench", "count", "(I)I"⟩ ∈ ab_T := ab_T_in (List.mem_append_right _ (List.mem_of_getElem? (i := 466) (by decide +kernel))) (by decide +kernel)
theorem ww_469 : Cond.code ⟨"ArchiveBench", "count", "(I)I"⟩ prog_1_method_14_code 2 (some FieldType.int) ∈ ab_T := ab_T_in (List.mem_append_right _ (List.mem_of_getElem? (i := 469) (by decide +kernel))) (by decide +kernel)
theorem ww_467 : Cond.instanceMethod ⟨"ArchiveBench", "count", "(I)I"⟩ ∈ ab_T := ab_T_in (List.mem_append_right _ (List.mem_of_getElem? (i := 467) (by decide +kernel))) (by decide +kernel)
theorem ww_468 : Cond.selects "ArchiveBench" ⟨"ArchiveBench", "count", "(I)I"⟩ ⟨"ArchiveBench", "count", "(I)I"⟩ ∈ ab_T := ab_T_in (List.mem_append_right _ (List.mem_of_getElem? (i := 468) (by decide +kernel))) (by decide +kernel)
theorem km_Lw_64 : ab_kV "ArchiveBenchLaw" 64 mm_AB_count 1 := ⟨⟨by decide +kernel, ww_469, ww_466, ww_1, ⟨by decide, by decide, by decide +kernel⟩⟩, ww_467, ww_468⟩
theorem ww_710 : Cond.methodLink "ArchiveBenchLaw" 67 ⟨"ArchiveBenchModel", "count", "(I)I"⟩ ∈ ab_T := ab_T_in (List.mem_append_right _ (List.mem_of_getElem? (i := 710) (by decide +kernel))) (by decide +kernel)
theorem ww_713 : Cond.code ⟨"ArchiveBenchModel", "count", "(I)I"⟩ prog_10_method_45_code 2 (some FieldType.int) ∈ ab_T := ab_T_in (List.mem_append_right _ (List.mem_of_getElem? (i := 713) (by decide +kernel))) (by decide +kernel)
theorem ww_711 : Cond.instanceMethod ⟨"ArchiveBenchModel", "count", "(I)I"⟩ ∈ ab_T := ab_T_in (List.mem_append_right _ (List.mem_of_getElem? (i := 711) (by decide +kernel))) (by decide +kernel)
theorem ww_712 : Cond.selects "ArchiveBenchModel" ⟨"ArchiveBenchModel", "count", "(I)I"⟩ ⟨"ArchiveBenchModel", "count", "(I)I"⟩ ∈ ab_T := ab_T_in (List.mem_append_right _ (List.mem_of_getElem? (i := 712) (by decide +kernel))) (by decide +kernel)
theorem km_Lw_67 : ab_kV "ArchiveBenchLaw" 67 mm_Md_count 1 := ⟨⟨by decide +kernel, ww_713, ww_710, ww_7, ⟨by decide, by decide, by decide +kernel⟩⟩, ww_711, ww_712⟩
theorem ww_40 : Cond.arrayClass FieldType.int ∈ ab_T := ab_T_in (List.mem_append_right _ (List.mem_of_getElem? (i := 40) (by decide +kernel))) (by decide +kernel)
end
section
/-! Rows over natural numbers, truth values, and calls by what they come to. -/
def bI (b : Bool) : Int32 := if b then 1 else 0
theorem bI_01 (b : Bool) : bI b = 0 ∨ bI b = 1 := by cases b <;> simp [bI]
theorem bI_eq0 {b : Bool} : bI b = 0 ↔ b = false := by cases b <;> simp [bI]
theorem nI_gt0 {a : Nat} (h : a < 2 ^ 31) : 0 < nI a ↔ 0 < a := by
  rw [← nI_0]; exact nI_ltI (by decide) h
theorem nI_lit (n : Nat) : Int32.ofNat n = nI n := rfl
theorem nI_zero {a : Nat} (h : a < 2 ^ 31) : nI a = 0 ↔ a = 0 := by
  rw [← nI_0]; exact nI_eq h (by decide)
section AB
variable {G : ab_G} {M M1 : ab_M} {d d1 : Nat × Nat} {pc idx : Nat} {lv lv1 : List (Nat × Value)} {st stk As : List Value} {w : ab_W} {P : Option Value → ab_W → Prop}
theorem e_iconst_n {n : Int} (k : Nat) (hd : decode M.2.1 pc = .ok (.iconst n, 1)) (hv : Int32.ofInt n = nI k) (kk : ab_E G M d (pc + 1) lv (.int (nI k) :: st) w P) : ab_E G M d pc lv st w P := e_iconst hd hv kk
theorem e_bipush_n {n : Int} (k : Nat) (hd : decode M.2.1 pc = .ok (.bipush n, 2)) (hv : (Int8.ofInt n).toInt32 = nI k) (kk : ab_E G M d (pc + 2) lv (.int (nI k) :: st) w P) : ab_E G M d pc lv st w P := e_bipush hd hv kk
theorem e_sipush_n {n : Int} (k : Nat) (hd : decode M.2.1 pc = .ok (.sipush n, 3)) (hv : (Int16.ofInt n).toInt32 = nI k) (kk : ab_E G M d (pc + 3) lv (.int (nI k) :: st) w P) : ab_E G M d pc lv st w P := e_sipush hd hv kk
theorem e_iadd_n {a b : Nat} (hd : decode M.2.1 pc = .ok (.iadd, 1)) (kk : ab_E G M d (pc + 1) lv (.int (nI (a + b)) :: st) w P) : ab_E G M d pc lv (.int (nI b) :: .int (nI a) :: st) w P := e_iadd hd (e_top (nI_add a b) kk)
theorem e_isub_n {a b : Nat} (hd : decode M.2.1 pc = .ok (.isub, 1)) (h : b ≤ a) (kk : ab_E G M d (pc + 1) lv (.int (nI (a - b)) :: st) w P) : ab_E G M d pc lv (.int (nI b) :: .int (nI a) :: st) w P := e_isub hd (e_top (pk_sub h) kk)
theorem e_imul_n {a b : Nat} (hd : decode M.2.1 pc = .ok (.imul, 1)) (kk : ab_E G M d (pc + 1) lv (.int (nI (a * b)) :: st) w P) : ab_E G M d pc lv (.int (nI b) :: .int (nI a) :: st) w P := e_imul hd (e_top (pk_mul a b) kk)
theorem e_idiv_n {a b : Nat} (hd : decode M.2.1 pc = .ok (.idiv, 1)) (ha : a < 2 ^ 31) (h0 : 0 < b) (hb : b < 2 ^ 31) (kk : ab_E G M d (pc + 1) lv (.int (nI (a / b)) :: st) w P) : ab_E G M d pc lv (.int (nI b) :: .int (nI a) :: st) w P := e_idiv hd (nI_ne0 h0 hb) (e_top (pk_div ha h0 hb) kk)
theorem e_irem_n {a b : Nat} (hd : decode M.2.1 pc = .ok (.irem, 1)) (ha : a < 2 ^ 31) (h0 : 0 < b) (hb : b < 2 ^ 31) (kk : ab_E G M d (pc + 1) lv (.int (nI (a % b)) :: st) w P) : ab_E G M d pc lv (.int (nI b) :: .int (nI a) :: st) w P := e_irem hd (nI_ne0 h0 hb) (e_top (pk_rem ha h0 hb) kk)
theorem e_iinc_n {i a k : Nat} {n : Int} {lv1 : List (Nat × Value)} (hd : decode M.2.1 pc = .ok (.iinc i n, 3)) (hx : ab_at lv i = some (.int (nI a))) (hi : i < M.2.2.1) (hk : Int32.ofInt n = nI k) (hl1 : ab_st lv i (.int (nI (a + k))) = lv1) (kk : ab_E G M d (pc + 3) lv1 st w P) : ab_E G M d pc lv st w P := e_iinc hd hx hi (by rw [hk]; exact nI_add a k) hl1 kk
theorem e_iand_n {a m : Nat} (k : Nat) (hd : decode M.2.1 pc = .ok (.iand, 1)) (ha : a < 2 ^ 32) (hm : (nI m).toBitVec.toNat = 2 ^ k - 1) (kk : ab_E G M d (pc + 1) lv (.int (nI (a % 2 ^ k)) :: st) w P) : ab_E G M d pc lv (.int (nI m) :: .int (nI a) :: st) w P := e_iand hd (e_top (pk_andN ha k hm) kk)
theorem e_ishr_n {a s : Nat} (hd : decode M.2.1 pc = .ok (.ishr, 1)) (ha : a < 2 ^ 31) (hs : ((nI s &&& 31).toBitVec.smod 32).toNat = s) (kk : ab_E G M d (pc + 1) lv (.int (nI (a / 2 ^ s)) :: st) w P) : ab_E G M d pc lv (.int (nI s) :: .int (nI a) :: st) w P := e_ishr hd (e_top (pk_shrN ha _ s hs) kk)

theorem e_icmp_eq_n {a b : Nat} {off : Int} {tgt : Nat} (hd : decode M.2.1 pc = .ok (.if_icmp .eq off, 3)) (ht : (pc : Int) + off = (tgt : Int)) (ha : a < 2 ^ 31) (hb : b < 2 ^ 31) (kt : a = b → ab_E G M d tgt lv st w P) (kf : a ≠ b → ab_E G M d (pc + 3) lv st w P) : ab_E G M d pc lv (.int (nI b) :: .int (nI a) :: st) w P := e_icmp_eq hd ht (fun h => kt ((nI_eq ha hb).mp h)) (fun h => kf (fun e => h ((nI_eq ha hb).mpr e)))
theorem e_icmp_ne_n {a b : Nat} {off : Int} {tgt : Nat} (hd : decode M.2.1 pc = .ok (.if_icmp .ne off, 3)) (ht : (pc : Int) + off = (tgt : Int)) (ha : a < 2 ^ 31) (hb : b < 2 ^ 31) (kt : a ≠ b → ab_E G M d tgt lv st w P) (kf : a = b → ab_E G M d (pc + 3) lv st w P) : ab_E G M d pc lv (.int (nI b) :: .int (nI a) :: st) w P := e_icmp_ne hd ht (fun h => kt (fun e => h ((nI_eq ha hb).mpr e))) (fun h => kf ((nI_eq ha hb).mp h))
theorem e_icmp_lt_n {a b : Nat} {off : Int} {tgt : Nat} (hd : decode M.2.1 pc = .ok (.if_icmp .lt off, 3)) (ht : (pc : Int) + off = (tgt : Int)) (ha : a < 2 ^ 31) (hb : b < 2 ^ 31) (kt : a < b → ab_E G M d tgt lv st w P) (kf : b ≤ a → ab_E G M d (pc + 3) lv st w P) : ab_E G M d pc lv (.int (nI b) :: .int (nI a) :: st) w P := e_icmp_lt hd ht (fun h => kt ((nI_ltI ha hb).mp h)) (fun h => kf (by have h2 := mt (nI_ltI ha hb).mpr h; omega))
theorem e_icmp_ge_n {a b : Nat} {off : Int} {tgt : Nat} (hd : decode M.2.1 pc = .ok (.if_icmp .ge off, 3)) (ht : (pc : Int) + off = (tgt : Int)) (ha : a < 2 ^ 31) (hb : b < 2 ^ 31) (kt : b ≤ a → ab_E G M d tgt lv st w P) (kf : a < b → ab_E G M d (pc + 3) lv st w P) : ab_E G M d pc lv (.int (nI b) :: .int (nI a) :: st) w P := e_icmp_ge hd ht (fun h => kt ((nI_leI hb ha).mp h)) (fun h => kf (by have h2 := mt (nI_leI hb ha).mpr h; omega))
theorem e_icmp_gt_n {a b : Nat} {off : Int} {tgt : Nat} (hd : decode M.2.1 pc = .ok (.if_icmp .gt off, 3)) (ht : (pc : Int) + off = (tgt : Int)) (ha : a < 2 ^ 31) (hb : b < 2 ^ 31) (kt : b < a → ab_E G M d tgt lv st w P) (kf : a ≤ b → ab_E G M d (pc + 3) lv st w P) : ab_E G M d pc lv (.int (nI b) :: .int (nI a) :: st) w P := e_icmp_gt hd ht (fun h => kt ((nI_ltI hb ha).mp h)) (fun h => kf (by have h2 := mt (nI_ltI hb ha).mpr h; omega))
theorem e_icmp_le_n {a b : Nat} {off : Int} {tgt : Nat} (hd : decode M.2.1 pc = .ok (.if_icmp .le off, 3)) (ht : (pc : Int) + off = (tgt : Int)) (ha : a < 2 ^ 31) (hb : b < 2 ^ 31) (kt : a ≤ b → ab_E G M d tgt lv st w P) (kf : b < a → ab_E G M d (pc + 3) lv st w P) : ab_E G M d pc lv (.int (nI b) :: .int (nI a) :: st) w P := e_icmp_le hd ht (fun h => kt ((nI_leI ha hb).mp h)) (fun h => kf (by have h2 := mt (nI_leI ha hb).mpr h; omega))
theorem e_if_eq_n {a : Nat} {off : Int} {tgt : Nat} (hd : decode M.2.1 pc = .ok (.ifCond .eq off, 3)) (ht : (pc : Int) + off = (tgt : Int)) (ha : a < 2 ^ 31) (kt : a = 0 → ab_E G M d tgt lv st w P) (kf : 0 < a → ab_E G M d (pc + 3) lv st w P) : ab_E G M d pc lv (.int (nI a) :: st) w P := e_if_eq hd ht (fun h => kt ((nI_zero ha).mp h)) (fun h => kf (by have h2 := mt (nI_zero ha).mpr h; omega))
theorem e_if_ne_n {a : Nat} {off : Int} {tgt : Nat} (hd : decode M.2.1 pc = .ok (.ifCond .ne off, 3)) (ht : (pc : Int) + off = (tgt : Int)) (ha : a < 2 ^ 31) (kt : 0 < a → ab_E G M d tgt lv st w P) (kf : a = 0 → ab_E G M d (pc + 3) lv st w P) : ab_E G M d pc lv (.int (nI a) :: st) w P := e_if_ne hd ht (fun h => kt (by have h2 := mt (nI_zero ha).mpr h; omega)) (fun h => kf ((nI_zero ha).mp h))
theorem e_if_lt_n {a : Nat} {off : Int} {tgt : Nat} (hd : decode M.2.1 pc = .ok (.ifCond .lt off, 3)) (ht : (pc : Int) + off = (tgt : Int)) (ha : a < 2 ^ 31) (kf : ab_E G M d (pc + 3) lv st w P) : ab_E G M d pc lv (.int (nI a) :: st) w P := e_if_lt hd ht (fun h => absurd h (nI_pos ha)) (fun _ => kf)
theorem e_if_ge_n {a : Nat} {off : Int} {tgt : Nat} (hd : decode M.2.1 pc = .ok (.ifCond .ge off, 3)) (ht : (pc : Int) + off = (tgt : Int)) (ha : a < 2 ^ 31) (kt : ab_E G M d tgt lv st w P) : ab_E G M d pc lv (.int (nI a) :: st) w P := e_if_ge hd ht (fun _ => kt) (fun h => absurd (nI_pos' ha) h)
theorem e_if_gt_n {a : Nat} {off : Int} {tgt : Nat} (hd : decode M.2.1 pc = .ok (.ifCond .gt off, 3)) (ht : (pc : Int) + off = (tgt : Int)) (ha : a < 2 ^ 31) (kt : 0 < a → ab_E G M d tgt lv st w P) (kf : a = 0 → ab_E G M d (pc + 3) lv st w P) : ab_E G M d pc lv (.int (nI a) :: st) w P := e_if_gt hd ht (fun h => kt ((nI_gt0 ha).mp h)) (fun h => kf (by have h2 := mt (nI_gt0 ha).mpr h; omega))
theorem e_if_le_n {a : Nat} {off : Int} {tgt : Nat} (hd : decode M.2.1 pc = .ok (.ifCond .le off, 3)) (ht : (pc : Int) + off = (tgt : Int)) (ha : a < 2 ^ 31) (kt : a = 0 → ab_E G M d tgt lv st w P) (kf : 0 < a → ab_E G M d (pc + 3) lv st w P) : ab_E G M d pc lv (.int (nI a) :: st) w P := e_if_le hd ht (fun h => kt (by
  rcases Nat.eq_zero_or_pos a with e | e
  · exact e
  · exact absurd h (nI_nle e ha))) (fun h => kf (by
  rcases Nat.eq_zero_or_pos a with e | e
  · subst e
    rw [nI_0] at h
    exact absurd (by decide) h
  · exact e))
theorem e_if_eq_b {b : Bool} {off : Int} {tgt : Nat} (hd : decode M.2.1 pc = .ok (.ifCond .eq off, 3)) (ht : (pc : Int) + off = (tgt : Int)) (kt : b = false → ab_E G M d tgt lv st w P) (kf : b = true → ab_E G M d (pc + 3) lv st w P) : ab_E G M d pc lv (.int (bI b) :: st) w P := e_if_eq hd ht (fun h => kt (bI_eq0.mp h)) (fun h => kf (by have h2 := mt bI_eq0.mpr h; simpa using h2))
theorem e_if_ne_b {b : Bool} {off : Int} {tgt : Nat} (hd : decode M.2.1 pc = .ok (.ifCond .ne off, 3)) (ht : (pc : Int) + off = (tgt : Int)) (kt : b = true → ab_E G M d tgt lv st w P) (kf : b = false → ab_E G M d (pc + 3) lv st w P) : ab_E G M d pc lv (.int (bI b) :: st) w P := e_if_ne hd ht (fun h => kt (by have h2 := mt bI_eq0.mpr h; simpa using h2)) (fun h => kf (bI_eq0.mp h))
theorem e_bret {b : Bool} (hd : decode M.2.1 pc = .ok (.ireturn, 1)) (hr : M.2.2.2 = some .boolean) (hP : P (some (.int (bI b))) w) : ab_E G M d pc lv [.int (bI b)] w P := e_zret hd hr (bI_01 b) hP
/-- a post over an int answer and a world; over a world alone; an answer alone -/
def pI (x : Int32) (Q : ab_W → Prop) : Option Value → ab_W → Prop := fun v w => v = some (.int x) ∧ Q w
def pV (Q : ab_W → Prop) : Option Value → ab_W → Prop := fun v w => v = none ∧ Q w
def pP (x : Int32) (w0 : ab_W) : Option Value → ab_W → Prop := fun v w => v = some (.int x) ∧ w = w0
theorem ab_allcat {As : List Value} (h : (As.all fun v => v.category == 1) = true) : ∀ v ∈ As, v.category = 1 := fun v hv => by
  have h1 := List.all_eq_true.mp h v hv
  simpa using h1

theorem e_callVp {x : Int32} {a ci : Nat} {fs : List Value} (hd : decode M.2.1 pc = .ok (.invokevirtual idx, 3)) (hk : ab_kV M.1.cls idx M1 As.length) (ha : w.1 a = some (.inr (ci, fs))) (hci : (vwCl[ci]?).map (fun q => q.1) = some M1.1.cls) (hd1 : d1.1 + 1 ≤ d.1 ∧ 8 + (M1.2.2.1 + 11) + d1.2 ≤ d.2) (hstk : stk = As.reverse ++ .ref a :: st) (hst : (st.map fun v => v.category).sum ≤ 8) (hlen : As.length + 1 ≤ M1.2.2.1) (hcat : (As.all fun v => v.category == 1) = true) (hlv : lv_args 0 (.ref a :: As) = lv1) (hs : ab_E G M1 d1 0 lv1 [] w (pP x w)) (kk : ab_E G M d (pc + 3) lv (.int x :: st) w P) : ab_E G M d pc lv stk w P :=
  e_callV hd hk ha hci hd1 hstk hst hlen (ab_allcat hcat) hlv hs (fun r1 w1 h => by rw [h.1, h.2]; exact kk)
theorem e_callVi {x : Int32} {Q : ab_W → Prop} {a ci : Nat} {fs : List Value} (hd : decode M.2.1 pc = .ok (.invokevirtual idx, 3)) (hk : ab_kV M.1.cls idx M1 As.length) (ha : w.1 a = some (.inr (ci, fs))) (hci : (vwCl[ci]?).map (fun q => q.1) = some M1.1.cls) (hd1 : d1.1 + 1 ≤ d.1 ∧ 8 + (M1.2.2.1 + 11) + d1.2 ≤ d.2) (hstk : stk = As.reverse ++ .ref a :: st) (hst : (st.map fun v => v.category).sum ≤ 8) (hlen : As.length + 1 ≤ M1.2.2.1) (hcat : (As.all fun v => v.category == 1) = true) (hlv : lv_args 0 (.ref a :: As) = lv1) (hs : ab_E G M1 d1 0 lv1 [] w (pI x Q)) (kk : ∀ w1, Q w1 → ab_E G M d (pc + 3) lv (.int x :: st) w1 P) : ab_E G M d pc lv stk w P :=
  e_callV hd hk ha hci hd1 hstk hst hlen (ab_allcat hcat) hlv hs (fun r1 w1 h => by rw [h.1]; exact kk w1 h.2)
theorem e_callVv {Q : ab_W → Prop} {a ci : Nat} {fs : List Value} (hd : decode M.2.1 pc = .ok (.invokevirtual idx, 3)) (hk : ab_kV M.1.cls idx M1 As.length) (ha : w.1 a = some (.inr (ci, fs))) (hci : (vwCl[ci]?).map (fun q => q.1) = some M1.1.cls) (hd1 : d1.1 + 1 ≤ d.1 ∧ 8 + (M1.2.2.1 + 11) + d1.2 ≤ d.2) (hstk : stk = As.reverse ++ .ref a :: st) (hst : (st.map fun v => v.category).sum ≤ 8) (hlen : As.length + 1 ≤ M1.2.2.1) (hcat : (As.all fun v => v.category == 1) = true) (hlv : lv_args 0 (.ref a :: As) = lv1) (hs : ab_E G M1 d1 0 lv1 [] w (pV Q)) (kk : ∀ w1, Q w1 → ab_E G M d (pc + 3) lv st w1 P) : ab_E G M d pc lv stk w P :=
  e_callV hd hk ha hci hd1 hstk hst hlen (ab_allcat hcat) hlv hs (fun r1 w1 h => by rw [h.1]; exact kk w1 h.2)
theorem e_callSp {x : Int32} (hd : decode M.2.1 pc = .ok (.invokestatic idx, 3)) (hk : ab_kS M.1.cls idx M1 As.length) (hd1 : d1.1 + 1 ≤ d.1 ∧ 8 + (M1.2.2.1 + 11) + d1.2 ≤ d.2) (hstk : stk = As.reverse ++ st) (hst : (st.map fun v => v.category).sum ≤ 8) (hlen : As.length ≤ M1.2.2.1) (hcat : (As.all fun v => v.category == 1) = true) (hlv : lv_args 0 As = lv1) (hs : ab_E G M1 d1 0 lv1 [] w (pP x w)) (kk : ab_E G M d (pc + 3) lv (.int x :: st) w P) : ab_E G M d pc lv stk w P :=
  e_callS hd hk hd1 hstk hst hlen (ab_allcat hcat) hlv hs (fun r1 w1 h => by rw [h.1, h.2]; exact kk)
theorem e_callSi {x : Int32} {Q : ab_W → Prop} (hd : decode M.2.1 pc = .ok (.invokestatic idx, 3)) (hk : ab_kS M.1.cls idx M1 As.length) (hd1 : d1.1 + 1 ≤ d.1 ∧ 8 + (M1.2.2.1 + 11) + d1.2 ≤ d.2) (hstk : stk = As.reverse ++ st) (hst : (st.map fun v => v.category).sum ≤ 8) (hlen : As.length ≤ M1.2.2.1) (hcat : (As.all fun v => v.category == 1) = true) (hlv : lv_args 0 As = lv1) (hs : ab_E G M1 d1 0 lv1 [] w (pI x Q)) (kk : ∀ w1, Q w1 → ab_E G M d (pc + 3) lv (.int x :: st) w1 P) : ab_E G M d pc lv stk w P :=
  e_callS hd hk hd1 hstk hst hlen (ab_allcat hcat) hlv hs (fun r1 w1 h => by rw [h.1]; exact kk w1 h.2)
theorem e_callSv {Q : ab_W → Prop} (hd : decode M.2.1 pc = .ok (.invokestatic idx, 3)) (hk : ab_kS M.1.cls idx M1 As.length) (hd1 : d1.1 + 1 ≤ d.1 ∧ 8 + (M1.2.2.1 + 11) + d1.2 ≤ d.2) (hstk : stk = As.reverse ++ st) (hst : (st.map fun v => v.category).sum ≤ 8) (hlen : As.length ≤ M1.2.2.1) (hcat : (As.all fun v => v.category == 1) = true) (hlv : lv_args 0 As = lv1) (hs : ab_E G M1 d1 0 lv1 [] w (pV Q)) (kk : ∀ w1, Q w1 → ab_E G M d (pc + 3) lv st w1 P) : ab_E G M d pc lv stk w P :=
  e_callS hd hk hd1 hstk hst hlen (ab_allcat hcat) hlv hs (fun r1 w1 h => by rw [h.1]; exact kk w1 h.2)
theorem e_callNp {x : Int32} {host : String} (hd : decode M.2.1 pc = .ok (.invokestatic idx, 3)) (hk : ab_kN M.1.cls idx M1 As.length host) (hd1 : d1.1 + 1 ≤ d.1 ∧ 8 + (M1.2.2.1 + 11) + d1.2 ≤ d.2) (hstk : stk = As.reverse ++ st) (hst : (st.map fun v => v.category).sum ≤ 8) (hlen : As.length ≤ M1.2.2.1) (hcat : (As.all fun v => v.category == 1) = true) (hlv : lv_args 0 As = lv1) (hs : ab_E G M1 d1 0 lv1 [] w (pP x w)) (kk : ab_E G M d (pc + 3) lv (.int x :: st) w P) : ab_E G M d pc lv stk w P :=
  e_callN hd hk hd1 hstk hst hlen (ab_allcat hcat) hlv hs (fun r1 w1 h => by rw [h.1, h.2]; exact kk)
theorem e_callNi {x : Int32} {Q : ab_W → Prop} {host : String} (hd : decode M.2.1 pc = .ok (.invokestatic idx, 3)) (hk : ab_kN M.1.cls idx M1 As.length host) (hd1 : d1.1 + 1 ≤ d.1 ∧ 8 + (M1.2.2.1 + 11) + d1.2 ≤ d.2) (hstk : stk = As.reverse ++ st) (hst : (st.map fun v => v.category).sum ≤ 8) (hlen : As.length ≤ M1.2.2.1) (hcat : (As.all fun v => v.category == 1) = true) (hlv : lv_args 0 As = lv1) (hs : ab_E G M1 d1 0 lv1 [] w (pI x Q)) (kk : ∀ w1, Q w1 → ab_E G M d (pc + 3) lv (.int x :: st) w1 P) : ab_E G M d pc lv stk w P :=
  e_callN hd hk hd1 hstk hst hlen (ab_allcat hcat) hlv hs (fun r1 w1 h => by rw [h.1]; exact kk w1 h.2)
theorem e_callNv {Q : ab_W → Prop} {host : String} (hd : decode M.2.1 pc = .ok (.invokestatic idx, 3)) (hk : ab_kN M.1.cls idx M1 As.length host) (hd1 : d1.1 + 1 ≤ d.1 ∧ 8 + (M1.2.2.1 + 11) + d1.2 ≤ d.2) (hstk : stk = As.reverse ++ st) (hst : (st.map fun v => v.category).sum ≤ 8) (hlen : As.length ≤ M1.2.2.1) (hcat : (As.all fun v => v.category == 1) = true) (hlv : lv_args 0 As = lv1) (hs : ab_E G M1 d1 0 lv1 [] w (pV Q)) (kk : ∀ w1, Q w1 → ab_E G M d (pc + 3) lv st w1 P) : ab_E G M d pc lv stk w P :=
  e_callN hd hk hd1 hstk hst hlen (ab_allcat hcat) hlv hs (fun r1 w1 h => by rw [h.1]; exact kk w1 h.2)
theorem e_callIv {Q : ab_W → Prop} {a : Nat} (hd : decode M.2.1 pc = .ok (.invokespecial idx, 3)) (hk : ab_kI M.1.cls idx M1 As.length) (hret : M1.2.2.2 = none) (hd1 : d1.1 + 1 ≤ d.1 ∧ 8 + (M1.2.2.1 + 11) + d1.2 ≤ d.2) (hstk : stk = As.reverse ++ .ref a :: st) (hst : (st.map fun v => v.category).sum ≤ 8) (hlen : As.length + 1 ≤ M1.2.2.1) (hcat : (As.all fun v => v.category == 1) = true) (hlv : lv_args 0 (.ref a :: As) = lv1) (hs : ab_E G M1 d1 0 lv1 [] w (pV Q)) (kk : ∀ w1, Q w1 → ab_E G M d (pc + 3) lv st w1 P) : ab_E G M d pc lv stk w P :=
  e_callI hd hk hret hd1 hstk hst hlen (ab_allcat hcat) hlv hs (fun r1 w1 h => by rw [h.1]; exact kk w1 h.2)
end AB
end
section
/-! ArchiveBench$Row: a row of bytes xs at r, its cells at a, with room cap. -/
def cR (w : ab_W) (r a cap : Nat) (xs : List Nat) : Prop := w.1 r = some (.inr (1, [.ref a, .int (nI xs.length)])) ∧ xs.length ≤ cap ∧ cap < 100000 ∧ r ≠ a ∧ (∀ x ∈ xs, x < 256) ∧ ∃ f, w.1 a = some (.inl (0, cap, .inl f)) ∧ ∀ j, j < xs.length → f j = nI (xs.getD j 0)
/-- what a row's method leaves alone -/
def rS (w w2 : ab_W) (r a : Nat) : Prop := w2.2 = w.2 ∧ ∀ i, i ≠ r → i ≠ a → w2.1 i = w.1 i
theorem rS.rf {w : ab_W} {r a : Nat} : rS w w r a := ⟨rfl, fun _ _ _ => rfl⟩
theorem rS.tr {w w1 w2 : ab_W} {r a : Nat} (h1 : rS w w1 r a) (h2 : rS w1 w2 r a) : rS w w2 r a := ⟨h2.1.trans h1.1, fun i hr ha => (h2.2 i hr ha).trans (h1.2 i hr ha)⟩
theorem cR.keep {w w2 : ab_W} {r a cap : Nat} {xs : List Nat} (h : cR w r a cap xs) (hr : w2.1 r = w.1 r) (ha : w2.1 a = w.1 a) : cR w2 r a cap xs := by
  obtain ⟨h1, h2, h3, h4, h5, f, h6, h7⟩ := h
  exact ⟨hr.trans h1, h2, h3, h4, h5, f, ha.trans h6, h7⟩
/-- the byte at a place, or -1 -/
def rb (xs : List Nat) (j : Nat) : Int32 := if j < xs.length then nI (xs.getD j 0) else -1
def rbI (xs : List Nat) (i : Int32) : Int32 := if i < 0 then -1 else rb xs i.toNatClampNeg
theorem rb_in {xs : List Nat} {j : Nat} (h : j < xs.length) : rb xs j = nI (xs.getD j 0) := if_pos h
theorem rb_out {xs : List Nat} {j : Nat} (h : xs.length ≤ j) : rb xs j = -1 := if_neg (by omega)
theorem rbI_n {xs : List Nat} {j : Nat} (h : j < 2 ^ 31) : rbI xs (nI j) = rb xs j := by
  rw [rbI, if_neg (nI_pos h), nI_clamp h]
theorem getD_lt {xs : List Nat} {j : Nat} {b : Nat} (hb : ∀ x ∈ xs, x < b) (h : j < xs.length) : xs.getD j 0 < b := by
  rw [List.getD_eq_getElem?_getD, List.getElem?_eq_getElem h]
  exact hb _ (List.getElem_mem h)
theorem pP_of {x y : Int32} {w : ab_W} (e : y = x) : pP x w (some (.int y)) w := ⟨by rw [e], rfl⟩
theorem pI_of {x y : Int32} {w : ab_W} {Q : ab_W → Prop} (e : y = x) (h : Q w) : pI x Q (some (.int y)) w := ⟨by rw [e], h⟩
theorem pV_of {w : ab_W} {Q : ab_W → Prop} (h : Q w) : pV Q none w := ⟨rfl, h⟩
theorem bI_t {b : Bool} (h : b = true) : nI 1 = bI b := by rw [h]; rfl
theorem bI_f {b : Bool} (h : b = false) : nI 0 = bI b := by rw [h]; rfl
section ROW
variable {G : ab_G} {w : ab_W} {r a cap : Nat} {xs : List Nat}
theorem c_Row_at (h : cR w r a cap xs) (i : Int32) : ab_E G mm_Row_at rr_Row_at 0 [(0, .ref r), (1, .int i)] [] w (pP (rbI xs i) w) := by
  obtain ⟨hr, hle, hcap, hne, hby, f, ha, hf⟩ := h
  by_cases hi : i < 0
  · refine e_iload_n dd_Row_at_0 rfl ?_
    refine e_if_lt (tgt := 21) dd_Row_at_1 (by decide) (fun _ => ?_) (fun h9 => absurd h9 (fun h8 => h8 hi))
    refine e_iconst (v := -1) dd_Row_at_21 (by decide) ?_
    exact e_iret dd_Row_at_22 rfl (pP_of (by rw [rbI, if_pos hi]))
  · obtain ⟨j, hj, rfl⟩ := nI_of hi
    refine e_iload_n dd_Row_at_0 rfl ?_
    refine e_if_lt_n (tgt := 21) dd_Row_at_1 (by decide) (by omega) ?_
    refine e_iload_n dd_Row_at_4 rfl ?_
    refine e_aload_n dd_Row_at_5 rfl ?_
    refine e_get dd_Row_at_6 kf_Row_15 hr rfl ?_
    refine e_icmp_ge_n (tgt := 21) dd_Row_at_9 (by decide) (by omega) (by omega) (fun c9 => ?_) (fun c9 => ?_)
    · refine e_iconst (v := -1) dd_Row_at_21 (by decide) ?_
      exact e_iret dd_Row_at_22 rfl (pP_of (by rw [rbI_n hj, rb_out c9]))
    · refine e_aload_n dd_Row_at_12 rfl ?_
      refine e_get dd_Row_at_13 kf_Row_9 hr rfl ?_
      refine e_iload_n dd_Row_at_16 rfl ?_
      refine e_iald dd_Row_at_17 ha rfl rfl (by omega) (by omega) ?_
      refine e_top (y := rbI xs (nI j)) (by rw [rbI_n hj, rb_in c9]; exact hf j c9) ?_
      refine e_goto (tgt := 22) dd_Row_at_18 (by decide) ?_
      exact e_iret dd_Row_at_22 rfl (pP_of rfl)
theorem c_Row_atn (h : cR w r a cap xs) {j : Nat} (hj : j < 2 ^ 31) : ab_E G mm_Row_at rr_Row_at 0 [(0, .ref r), (1, .int (nI j))] [] w (pP (rb xs j) w) := by
  rw [← rbI_n hj]
  exact c_Row_at h (nI j)
theorem c_Row_ati (h : cR w r a cap xs) {j : Nat} (hj : j < xs.length) : ab_E G mm_Row_at rr_Row_at 0 [(0, .ref r), (1, .int (nI j))] [] w (pP (nI (xs.getD j 0)) w) := by
  have h2 := h.2.1
  have h3 := h.2.2.1
  rw [← rb_in hj]
  exact c_Row_atn h (by omega)
theorem cR.obj (h : cR w r a cap xs) : w.1 r = some (.inr (1, [.ref a, .int (nI xs.length)])) := h.1
theorem cR.lt (h : cR w r a cap xs) : xs.length < 100000 := by
  have h2 := h.2.1
  have h3 := h.2.2.1
  omega
theorem c_Row_numberAt (h : cR w r a cap xs) {j : Nat} (hj : j + 1 < xs.length) : ab_E G mm_Row_numberAt rr_Row_numberAt 0 [(0, .ref r), (1, .int (nI j))] [] w (pP (nI (xs.getD j 0 * 256 + xs.getD (j + 1) 0)) w) := by
  have hr := h.obj
  refine e_aload_n dd_Row_numberAt_0 rfl ?_
  refine e_iload_n dd_Row_numberAt_1 rfl ?_
  refine e_callVp (d1 := rr_Row_at) (As := [.int (nI j)]) (st := []) dd_Row_numberAt_2 km_Row_19 hr rfl (by decide) rfl (Nat.le_of_ble_eq_true rfl) (Nat.le_of_ble_eq_true rfl) rfl rfl (c_Row_ati h (by omega)) ?_
  refine e_sipush_n 256 dd_Row_numberAt_5 (by decide) ?_
  refine e_imul_n dd_Row_numberAt_8 ?_
  refine e_aload_n dd_Row_numberAt_9 rfl ?_
  refine e_iload_n dd_Row_numberAt_10 rfl ?_
  refine e_iconst_n 1 dd_Row_numberAt_11 (by decide) ?_
  refine e_iadd_n dd_Row_numberAt_12 ?_
  refine e_callVp (d1 := rr_Row_at) (As := [.int (nI (j + 1))]) (st := [.int (nI ((xs.getD j 0) * 256))]) dd_Row_numberAt_13 km_Row_19 hr rfl (by decide) rfl (Nat.le_of_ble_eq_true rfl) (Nat.le_of_ble_eq_true rfl) rfl rfl (c_Row_ati h hj) ?_
  refine e_iadd_n dd_Row_numberAt_16 ?_
  exact e_iret dd_Row_numberAt_17 rfl (pP_of rfl)
theorem c_Row_set (h : cR w r a cap xs) {j b : Nat} (hj : j < xs.length) (hb : b < 256) : ab_E G mm_Row_set rr_Row_set 0 [(0, .ref r), (1, .int (nI j)), (2, .int (nI b))] [] w (pV fun w2 => rS w w2 r a ∧ cR w2 r a cap (xs.set j b)) := by
  obtain ⟨hr, hle, hcap, hne, hby, f, ha, hf⟩ := h
  refine e_iload_n dd_Row_set_0 rfl ?_
  refine e_if_lt_n (tgt := 19) dd_Row_set_1 (by decide) (by omega) ?_
  refine e_iload_n dd_Row_set_4 rfl ?_
  refine e_aload_n dd_Row_set_5 rfl ?_
  refine e_get dd_Row_set_6 kf_Row_15 hr rfl ?_
  refine e_icmp_ge_n (tgt := 19) dd_Row_set_9 (by decide) (by omega) (by omega) (fun h9 => absurd h9 (by omega)) (fun _ => ?_)
  refine e_aload_n dd_Row_set_12 rfl ?_
  refine e_get dd_Row_set_13 kf_Row_9 hr rfl ?_
  refine e_iload_n dd_Row_set_16 rfl ?_
  refine e_iload_n dd_Row_set_17 rfl ?_
  refine e_iastx dd_Row_set_18 ha rfl rfl (by omega) (by omega) (fun w1 h2n h2v h2f => ?_)
  refine e_vret dd_Row_set_19 rfl (pV_of ⟨⟨h2n, fun i h8 h9 => h2f i h9⟩, ?_⟩)
  refine ⟨by rw [List.length_set]; exact (h2f _ hne).trans hr, by rw [List.length_set]; exact hle, hcap, hne, fun x hx => ?_, _, h2v, fun k hk => ?_⟩
  · rcases List.mem_or_eq_of_mem_set hx with h8 | h8
    · exact hby x h8
    · rw [h8]; exact hb
  · rw [List.length_set] at hk
    by_cases e : k = j
    · subst e
      simp [upd, hk, List.getD_eq_getElem?_getD]
    · rw [pk_un e, hf k hk]
      simp [List.getD_eq_getElem?_getD, List.getElem?_set, Ne.symm e]
theorem c_Row_cutTo (h : cR w r a cap xs) {k : Nat} (hk : k < 2 ^ 31) : ab_E G mm_Row_cutTo rr_Row_cutTo 0 [(0, .ref r), (1, .int (nI k))] [] w (pV fun w2 => rS w w2 r a ∧ cR w2 r a cap (xs.take k)) := by
  have h0 := h
  obtain ⟨hr, hle, hcap, hne, hby, f, ha, hf⟩ := h
  refine e_iload_n dd_Row_cutTo_0 rfl ?_
  refine e_if_lt_n (tgt := 17) dd_Row_cutTo_1 (by decide) (by omega) ?_
  refine e_iload_n dd_Row_cutTo_4 rfl ?_
  refine e_aload_n dd_Row_cutTo_5 rfl ?_
  refine e_get dd_Row_cutTo_6 kf_Row_15 hr rfl ?_
  refine e_icmp_ge_n (tgt := 17) dd_Row_cutTo_9 (by decide) (by omega) (by omega) (fun c9 => ?_) (fun c9 => ?_)
  · exact e_vret dd_Row_cutTo_17 rfl (pV_of ⟨rS.rf, by rw [List.take_of_length_le c9]; exact h0⟩)
  · refine e_aload_n dd_Row_cutTo_12 rfl ?_
    refine e_iload_n dd_Row_cutTo_13 rfl ?_
    refine e_putx (fs1 := [.ref a, .int (nI k)]) dd_Row_cutTo_14 kf_Row_15 hr (Nat.le_of_ble_eq_true rfl) rfl rfl rfl (fun w1 h2n h2v h2f => ?_)
    have e1 : (xs.take k).length = k := by rw [List.length_take]; omega
    refine e_vret dd_Row_cutTo_17 rfl (pV_of ⟨⟨h2n, fun i h8 h9 => h2f i h8⟩, ?_⟩)
    refine ⟨by rw [e1]; exact h2v, by omega, hcap, hne, fun x hx => hby x (List.mem_of_mem_take hx), f, (h2f _ hne.symm).trans ha, fun j hj => ?_⟩
    rw [e1] at hj
    rw [hf j (by omega)]
    simp [List.getD_eq_getElem?_getD, List.getElem?_take, hj]
theorem getD_snoc {xs : List Nat} {b k : Nat} : (xs ++ [b]).getD k 0 = if k = xs.length then b else xs.getD k 0 := by
  rw [List.getD_eq_getElem?_getD, List.getD_eq_getElem?_getD]
  by_cases h : k = xs.length
  · subst h; simp
  · rw [if_neg h]
    by_cases h2 : k < xs.length
    · rw [List.getElem?_append_left h2]
    · rw [List.getElem?_eq_none (by simp; omega), List.getElem?_eq_none (by omega)]
/-- one byte more -/
theorem cR.snoc {w2 : ab_W} {b : Nat} {f : Nat → Int32} (h : cR w r a cap xs) (hb : b < 256) (hl : xs.length < cap) (hr2 : w2.1 r = some (.inr (1, [.ref a, .int (nI (xs.length + 1))]))) (ha2 : w2.1 a = some (.inl (0, cap, .inl (upd f xs.length (nI b))))) (hf : ∀ j, j < xs.length → f j = nI (xs.getD j 0)) : cR w2 r a cap (xs ++ [b]) := by
  obtain ⟨-, -, hcap, hne, hby, -⟩ := h
  refine ⟨by rw [List.length_append]; exact hr2, by rw [List.length_append]; exact hl, hcap, hne, fun x hx => ?_, _, ha2, fun k hk => ?_⟩
  · rcases List.mem_append.mp hx with h | h
    · exact hby x h
    · rw [List.mem_singleton.mp h]; exact hb
  · rw [List.length_append] at hk
    rw [getD_snoc]
    by_cases e : k = xs.length
    · rw [if_pos e, e]; exact pk_us
    · rw [if_neg e, pk_un e]
      exact hf k (by simp at hk; omega)
theorem c_Row_append (h : cR w r a cap xs) {b : Nat} (hb : b < 256) : ab_E G mm_Row_append rr_Row_append 0 [(0, .ref r), (1, .int (nI b))] [] w (pI (bI (decide (xs.length < cap))) fun w2 => rS w w2 r a ∧ cR w2 r a cap (if xs.length < cap then xs ++ [b] else xs)) := by
  have h0 := h
  obtain ⟨hr, hle, hcap, hne, hby, f, ha, hf⟩ := h
  refine e_aload_n dd_Row_append_0 rfl ?_
  refine e_get dd_Row_append_1 kf_Row_15 hr rfl ?_
  refine e_aload_n dd_Row_append_4 rfl ?_
  refine e_get dd_Row_append_5 kf_Row_9 hr rfl ?_
  refine e_alen dd_Row_append_8 ha rfl ?_
  refine e_icmp_lt_n (tgt := 14) dd_Row_append_9 (by decide) (by omega) (by omega) (fun c9 => ?_) (fun c9 => ?_)
  · refine e_aload_n dd_Row_append_14 rfl ?_
    refine e_get dd_Row_append_15 kf_Row_9 hr rfl ?_
    refine e_aload_n dd_Row_append_18 rfl ?_
    refine e_get dd_Row_append_19 kf_Row_15 hr rfl ?_
    refine e_iload_n dd_Row_append_22 rfl ?_
    refine e_iastx dd_Row_append_23 ha rfl rfl (by omega) (by omega) (fun w1 h2n h2v h2f => ?_)
    refine e_aload_n dd_Row_append_24 rfl ?_
    refine e_dup dd_Row_append_25 rfl ?_
    refine e_get dd_Row_append_26 kf_Row_15 ((h2f _ hne).trans hr) rfl ?_
    refine e_iconst_n 1 dd_Row_append_29 (by decide) ?_
    refine e_iadd_n dd_Row_append_30 ?_
    refine e_putx (fs1 := [.ref a, .int (nI (xs.length + 1))]) dd_Row_append_31 kf_Row_15 ((h2f _ hne).trans hr) (Nat.le_of_ble_eq_true rfl) rfl rfl rfl (fun w3 h4n h4v h4f => ?_)
    refine e_iconst_n 1 dd_Row_append_34 (by decide) ?_
    refine e_zret dd_Row_append_35 rfl (by decide) (pI_of (bI_t (by simpa using c9)) ⟨⟨h4n.trans h2n, fun i h8 h9 => (h4f i h8).trans (h2f i h9)⟩, ?_⟩)
    rw [if_pos c9]
    exact h0.snoc hb c9 h4v ((h4f _ hne.symm).trans h2v) hf
  · refine e_iconst_n 0 dd_Row_append_12 (by decide) ?_
    exact e_zret dd_Row_append_13 rfl (by decide) (pI_of (bI_f (by simp; omega)) ⟨rS.rf, by rw [if_neg (by omega)]; exact h0⟩)
/-- where there is room -/
theorem c_Row_app (h : cR w r a cap xs) {b : Nat} (hb : b < 256) (hl : xs.length < cap) : ab_E G mm_Row_append rr_Row_append 0 [(0, .ref r), (1, .int (nI b))] [] w (pI (nI 1) fun w2 => rS w w2 r a ∧ cR w2 r a cap (xs ++ [b])) :=
  (c_Row_append h hb).mono (fun v w2 h2 => by
    obtain ⟨h3, h4, h5⟩ := h2
    rw [if_pos hl] at h5
    exact ⟨by rw [h3, show bI (decide (xs.length < cap)) = nI 1 by rw [decide_eq_true hl]; rfl], h4, h5⟩)
end ROW
end
section
/-! More of the row: many bytes, parts of other rows, sums, CHECK. -/
theorem e_rm {G : ab_G} {M : ab_M} {d : Nat × Nat} {pc : Nat} {lv lv1 : List (Nat × Value)} {st : List Value} {w : ab_W} {P : Option Value → ab_W → Prop} (k : Nat) (h : ab_rm lv k = lv1) (kk : ab_E G M d pc lv1 st w P) : ab_E G M d pc lv st w P :=
  ab_go (fun p e R s m args below meth c H locs cells slots ls Q C I hc hs hl k0 => k0 ls ⟨⟨hl.1.1, hl.1.2.1, fun q hq => by
    obtain ⟨q0, h1, rfl⟩ := List.mem_map.mp hq
    rw [← h] at h1
    exact hl.1.2.2 _ (List.mem_map.mpr ⟨q0, (ab_rm_mem h1).1, rfl⟩)⟩, fun q hq => by
    rw [← h] at hq
    exact hl.2 q (ab_rm_mem hq).1⟩) kk
theorem nx_xor (a b : Nat) : nI a ^^^ nI b = nI (a ^^^ b) := by
  apply Int32.toBitVec_inj.1
  show BitVec.ofNat 32 a ^^^ BitVec.ofNat 32 b = BitVec.ofNat 32 (a ^^^ b)
  apply BitVec.eq_of_getLsbD_eq
  intro i hi
  simp [hi]
theorem s_l : ∀ n, n < 32 → ((nI n &&& 31).toBitVec.smod 32).toNat = n := by decide +kernel
section ROW
variable {G : ab_G} {w : ab_W} {r a cap : Nat} {xs : List Nat}
theorem l_Row_appendTimes {b t : Nat} (hb : b < 256) (ht : xs.length + t ≤ cap) : ∀ (n i : Nat) (w1 : ab_W) (ys : List Nat), i + n = t → ys = xs ++ List.replicate i b → cR w1 r a cap ys → rS w w1 r a → ab_E G mm_Row_appendTimes rr_Row_appendTimes 18 [(0, .ref r), (1, .int (nI b)), (2, .int (nI t)), (3, .int (nI i))] [] w1 (pI (nI 1) fun w2 => rS w w2 r a ∧ cR w2 r a cap (xs ++ List.replicate t b)) := by
  intro n
  induction n with
  | zero =>
    intro i w1 ys hi hys h hS
    have hcap := h.2.2.1
    have e0 : i = t := by omega
    subst e0
    refine e_iload_n dd_Row_appendTimes_18 rfl ?_
    refine e_iload_n dd_Row_appendTimes_19 rfl ?_
    refine e_icmp_ge_n (tgt := 49) dd_Row_appendTimes_20 (by decide) (by omega) (by omega) (fun _ => ?_) (fun h9 => absurd h9 (by omega))
    refine e_iconst_n 1 dd_Row_appendTimes_49 (by decide) ?_
    exact e_zret dd_Row_appendTimes_50 rfl (by decide) (pI_of rfl ⟨hS, by rw [← hys]; exact h⟩)
  | succ n ih =>
    intro i w1 ys hi hys h hS
    have h0 := h
    have hyl : ys.length = xs.length + i := by rw [hys]; simp
    obtain ⟨hr, hle, hcap, hne, hby, f, ha, hf⟩ := h
    refine e_iload_n dd_Row_appendTimes_18 rfl ?_
    refine e_iload_n dd_Row_appendTimes_19 rfl ?_
    refine e_icmp_ge_n (tgt := 49) dd_Row_appendTimes_20 (by decide) (by omega) (by omega) (fun h9 => absurd h9 (by omega)) (fun _ => ?_)
    refine e_aload_n dd_Row_appendTimes_23 rfl ?_
    refine e_get dd_Row_appendTimes_24 kf_Row_9 hr rfl ?_
    refine e_aload_n dd_Row_appendTimes_27 rfl ?_
    refine e_get dd_Row_appendTimes_28 kf_Row_15 hr rfl ?_
    refine e_iload_n dd_Row_appendTimes_31 rfl ?_
    refine e_iastx dd_Row_appendTimes_32 ha rfl rfl (by omega) (by omega) (fun w11 h12n h12v h12f => ?_)
    refine e_aload_n dd_Row_appendTimes_33 rfl ?_
    refine e_dup dd_Row_appendTimes_34 rfl ?_
    refine e_get dd_Row_appendTimes_35 kf_Row_15 ((h12f _ hne).trans hr) rfl ?_
    refine e_iconst_n 1 dd_Row_appendTimes_38 (by decide) ?_
    refine e_iadd_n dd_Row_appendTimes_39 ?_
    refine e_putx (fs1 := [.ref a, .int (nI (ys.length + 1))]) dd_Row_appendTimes_40 kf_Row_15 ((h12f _ hne).trans hr) (Nat.le_of_ble_eq_true rfl) rfl rfl rfl (fun w13 h14n h14v h14f => ?_)
    refine e_iinc_n (a := i) (k := 1) (lv1 := [(0, .ref r), (1, .int (nI b)), (2, .int (nI t)), (3, .int (nI (i + 1)))]) dd_Row_appendTimes_43 rfl (by decide) (by decide) rfl ?_
    refine e_goto (tgt := 18) dd_Row_appendTimes_46 (by decide) ?_
    exact ih (i + 1) w13 (ys ++ [b]) (by omega) (by rw [hys, List.replicate_succ', List.append_assoc]) (h0.snoc hb (by omega) h14v ((h14f _ hne.symm).trans h12v) hf) (hS.tr ⟨h14n.trans h12n, fun i h8 h9 => (h14f i h8).trans (h12f i h9)⟩)
theorem c_Row_appendTimes (h : cR w r a cap xs) {b t : Nat} (hb : b < 256) (ht : t < 2 ^ 31) : ab_E G mm_Row_appendTimes rr_Row_appendTimes 0 [(0, .ref r), (1, .int (nI b)), (2, .int (nI t))] [] w (pI (bI (decide (xs.length + t ≤ cap))) fun w2 => rS w w2 r a ∧ cR w2 r a cap (if xs.length + t ≤ cap then xs ++ List.replicate t b else xs)) := by
  have h0 := h
  obtain ⟨hr, hle, hcap, hne, hby, f, ha, hf⟩ := h
  refine e_iload_n dd_Row_appendTimes_0 rfl ?_
  refine e_aload_n dd_Row_appendTimes_1 rfl ?_
  refine e_get dd_Row_appendTimes_2 kf_Row_9 hr rfl ?_
  refine e_alen dd_Row_appendTimes_5 ha rfl ?_
  refine e_aload_n dd_Row_appendTimes_6 rfl ?_
  refine e_get dd_Row_appendTimes_7 kf_Row_15 hr rfl ?_
  refine e_isub_n dd_Row_appendTimes_10 (by omega) ?_
  refine e_icmp_le_n (tgt := 16) dd_Row_appendTimes_11 (by decide) (by omega) (by omega) (fun c9 => ?_) (fun c9 => ?_)
  · refine e_iconst_n 0 dd_Row_appendTimes_16 (by decide) ?_
    refine e_istore_n (lv1 := [(0, .ref r), (1, .int (nI b)), (2, .int (nI t)), (3, .int (nI 0))]) dd_Row_appendTimes_17 (by decide) rfl ?_
    have e1 : xs.length + t ≤ cap := by omega
    rw [decide_eq_true e1, if_pos e1]
    exact l_Row_appendTimes hb e1 t 0 w xs (by omega) (by simp) h0 rS.rf
  · refine e_iconst_n 0 dd_Row_appendTimes_14 (by decide) ?_
    exact e_zret dd_Row_appendTimes_15 rfl (by decide) (pI_of (bI_f (by simp; omega)) ⟨rS.rf, by rw [if_neg (by omega)]; exact h0⟩)
theorem c_Row_appendNumber (h : cR w r a cap xs) {v : Nat} (hv : v < 65536) (hl : xs.length + 2 ≤ cap) : ab_E G mm_Row_appendNumber rr_Row_appendNumber 0 [(0, .ref r), (1, .int (nI v))] [] w (pV fun w2 => rS w w2 r a ∧ cR w2 r a cap (xs ++ [v / 256, v % 256])) := by
  have hr := h.obj
  refine e_aload_n dd_Row_appendNumber_0 rfl ?_
  refine e_iload_n dd_Row_appendNumber_1 rfl ?_
  refine e_sipush_n 256 dd_Row_appendNumber_2 (by decide) ?_
  refine e_idiv_n dd_Row_appendNumber_5 (by omega) (by decide) (by decide) ?_
  refine e_callVi (d1 := rr_Row_append) (As := [.int (nI (v / 256))]) (st := []) dd_Row_appendNumber_6 km_Row_23 hr rfl (by decide) rfl (Nat.le_of_ble_eq_true rfl) (Nat.le_of_ble_eq_true rfl) rfl rfl (c_Row_app h (by omega) (by omega)) (fun w1 h1 => ?_)
  have hr := h1.2.obj
  have e1 : (xs ++ [v / 256]).length = xs.length + 1 := by simp
  refine e_pop dd_Row_appendNumber_9 rfl ?_
  refine e_aload_n dd_Row_appendNumber_10 rfl ?_
  refine e_iload_n dd_Row_appendNumber_11 rfl ?_
  refine e_sipush_n 256 dd_Row_appendNumber_12 (by decide) ?_
  refine e_irem_n dd_Row_appendNumber_15 (by omega) (by decide) (by decide) ?_
  refine e_callVi (d1 := rr_Row_append) (As := [.int (nI (v % 256))]) (st := []) dd_Row_appendNumber_16 km_Row_23 hr rfl (by decide) rfl (Nat.le_of_ble_eq_true rfl) (Nat.le_of_ble_eq_true rfl) rfl rfl (c_Row_app h1.2 (by omega) (by omega)) (fun w2 h2 => ?_)
  refine e_pop dd_Row_appendNumber_19 rfl ?_
  exact e_vret dd_Row_appendNumber_20 rfl (pV_of ⟨h1.1.tr h2.1, by have h3 := h2.2; rw [List.append_assoc] at h3; exact h3⟩)
theorem cR.ne_oa {r2 a2 cap2 : Nat} {ys : List Nat} (h : cR w r a cap xs) (h2 : cR w r2 a2 cap2 ys) : r ≠ a2 := by
  intro e
  obtain ⟨h1, -⟩ := h
  obtain ⟨-, -, -, -, -, f, h3, -⟩ := h2
  rw [e, h3] at h1
  cases h1
theorem getD_app {xs ys : List Nat} {k : Nat} : (xs ++ ys).getD k 0 = if k < xs.length then xs.getD k 0 else ys.getD (k - xs.length) 0 := by
  simp only [List.getD_eq_getElem?_getD]
  by_cases h : k < xs.length
  · rw [if_pos h, List.getElem?_append_left h]
  · rw [if_neg h, List.getElem?_append_right (by omega)]
theorem getD_part {ys : List Nat} {b n k : Nat} (hk : k < n) : ((ys.drop b).take n).getD k 0 = ys.getD (b + k) 0 := by
  simp only [List.getD_eq_getElem?_getD, List.getElem?_take, List.getElem?_drop, if_pos hk]
theorem c_Row_appendPart {r2 a2 cap2 : Nat} {ys : List Nat} (h : cR w r a cap xs) (h2 : cR w r2 a2 cap2 ys) (n1 : r ≠ r2) (n2 : a ≠ a2) {b e : Nat} (hb : b < 2 ^ 31) (he : e < 2 ^ 31) : ab_E G mm_Row_appendPart rr_Row_appendPart 0 [(0, .ref r), (1, .ref r2), (2, .int (nI b)), (3, .int (nI e))] [] w (pI (bI (decide (b ≤ e ∧ e ≤ ys.length ∧ e - b ≤ cap - xs.length))) fun w2 => rS w w2 r a ∧ cR w2 r a cap (if b ≤ e ∧ e ≤ ys.length ∧ e - b ≤ cap - xs.length then xs ++ (ys.drop b).take (e - b) else xs)) := by
  have h0 := h
  have h20 := h2
  have n3 := h.ne_oa h2
  have n4 := h2.ne_oa h
  obtain ⟨hr, hle, hcap, hne, hby, f, ha, hf⟩ := h
  obtain ⟨hr2, hle2, hcap2, hne2, hby2, f2, ha2, hf2⟩ := h2
  refine e_iload_n dd_Row_appendPart_0 rfl ?_
  refine e_if_lt_n (tgt := 33) dd_Row_appendPart_1 (by decide) (by omega) ?_
  refine e_iload_n dd_Row_appendPart_4 rfl ?_
  refine e_iload_n dd_Row_appendPart_5 rfl ?_
  refine e_icmp_gt_n (tgt := 33) dd_Row_appendPart_6 (by decide) (by omega) (by omega) (fun c6 => ?_) (fun c6 => ?_)
  · refine e_iconst_n 0 dd_Row_appendPart_33 (by decide) ?_
    exact e_zret dd_Row_appendPart_34 rfl (by decide) (pI_of (bI_f (decide_eq_false (by omega))) ⟨rS.rf, by rw [if_neg (by omega)]; exact h0⟩)
  · refine e_iload_n dd_Row_appendPart_9 rfl ?_
    refine e_aload_n dd_Row_appendPart_10 rfl ?_
    refine e_get dd_Row_appendPart_11 kf_Row_15 hr2 rfl ?_
    refine e_icmp_gt_n (tgt := 33) dd_Row_appendPart_14 (by decide) (by omega) (by omega) (fun c14 => ?_) (fun c14 => ?_)
    · refine e_iconst_n 0 dd_Row_appendPart_33 (by decide) ?_
      exact e_zret dd_Row_appendPart_34 rfl (by decide) (pI_of (bI_f (decide_eq_false (by omega))) ⟨rS.rf, by rw [if_neg (by omega)]; exact h0⟩)
    · refine e_iload_n dd_Row_appendPart_17 rfl ?_
      refine e_iload_n dd_Row_appendPart_18 rfl ?_
      refine e_isub_n dd_Row_appendPart_19 (by omega) ?_
      refine e_aload_n dd_Row_appendPart_20 rfl ?_
      refine e_get dd_Row_appendPart_21 kf_Row_9 hr rfl ?_
      refine e_alen dd_Row_appendPart_24 ha rfl ?_
      refine e_aload_n dd_Row_appendPart_25 rfl ?_
      refine e_get dd_Row_appendPart_26 kf_Row_15 hr rfl ?_
      refine e_isub_n dd_Row_appendPart_29 (by omega) ?_
      refine e_icmp_le_n (tgt := 35) dd_Row_appendPart_30 (by decide) (by omega) (by omega) (fun c30 => ?_) (fun c30 => ?_)
      · refine e_aload_n dd_Row_appendPart_35 rfl ?_
        refine e_get dd_Row_appendPart_36 kf_Row_9 hr2 rfl ?_
        refine e_iload_n dd_Row_appendPart_39 rfl ?_
        refine e_aload_n dd_Row_appendPart_40 rfl ?_
        refine e_get dd_Row_appendPart_41 kf_Row_9 hr rfl ?_
        refine e_aload_n dd_Row_appendPart_44 rfl ?_
        refine e_get dd_Row_appendPart_45 kf_Row_15 hr rfl ?_
        refine e_iload_n dd_Row_appendPart_48 rfl ?_
        refine e_iload_n dd_Row_appendPart_49 rfl ?_
        refine e_isub_n dd_Row_appendPart_50 (by omega) ?_
        refine e_copyx dd_Row_appendPart_51 km_Row_27 ha2 ha rfl rfl rfl rfl (by omega) (by omega) (by omega) (by omega) (by decide) (fun w1 h2n h2v h2f => ?_)
        refine e_aload_n dd_Row_appendPart_54 rfl ?_
        refine e_dup dd_Row_appendPart_55 rfl ?_
        refine e_get dd_Row_appendPart_56 kf_Row_15 ((h2f _ hne).trans hr) rfl ?_
        refine e_iload_n dd_Row_appendPart_59 rfl ?_
        refine e_iload_n dd_Row_appendPart_60 rfl ?_
        refine e_isub_n dd_Row_appendPart_61 (by omega) ?_
        refine e_iadd_n dd_Row_appendPart_62 ?_
        refine e_putx (fs1 := [.ref a, .int (nI (xs.length + (e - b)))]) dd_Row_appendPart_63 kf_Row_15 ((h2f _ hne).trans hr) (Nat.le_of_ble_eq_true rfl) rfl rfl rfl (fun w3 h4n h4v h4f => ?_)
        refine e_iconst_n 1 dd_Row_appendPart_66 (by decide) ?_
        have e9 : b ≤ e ∧ e ≤ ys.length ∧ e - b ≤ cap - xs.length := by omega
        refine e_zret dd_Row_appendPart_67 rfl (by decide) (pI_of (bI_t (decide_eq_true e9)) ⟨⟨h4n.trans h2n, fun i h8 h9 => (h4f i h8).trans (h2f i h9)⟩, ?_⟩)
        rw [if_pos e9]
        have e8 : ((ys.drop b).take (e - b)).length = e - b := by rw [List.length_take, List.length_drop]; omega
        refine ⟨by rw [List.length_append, e8]; exact h4v, by rw [List.length_append, e8]; omega, hcap, hne, fun x hx => ?_, _, (h4f _ hne.symm).trans h2v, fun k hk => ?_⟩
        · rcases List.mem_append.mp hx with h8 | h8
          · exact hby x h8
          · exact hby2 x (List.mem_of_mem_drop (List.mem_of_mem_take h8))
        · rw [List.length_append, e8] at hk
          rw [getD_app]
          by_cases h8 : k < xs.length
          · rw [if_pos h8, pk_cpy_out (Or.inl h8)]; exact hf k h8
          · rw [if_neg h8, pk_cpy_in (by omega) (by omega), getD_part (by omega)]
            exact hf2 _ (by omega)
      · refine e_iconst_n 0 dd_Row_appendPart_33 (by decide) ?_
        exact e_zret dd_Row_appendPart_34 rfl (by decide) (pI_of (bI_f (decide_eq_false (by omega))) ⟨rS.rf, by rw [if_neg (by omega)]; exact h0⟩)
/-- a part that is there and fits -/
theorem c_Row_part {r2 a2 cap2 : Nat} {ys : List Nat} (h : cR w r a cap xs) (h2 : cR w r2 a2 cap2 ys) (n1 : r ≠ r2) (n2 : a ≠ a2) {b e : Nat} (hb : b ≤ e) (he : e ≤ ys.length) (hl : xs.length + (e - b) ≤ cap) : ab_E G mm_Row_appendPart rr_Row_appendPart 0 [(0, .ref r), (1, .ref r2), (2, .int (nI b)), (3, .int (nI e))] [] w (pI (nI 1) fun w2 => rS w w2 r a ∧ cR w2 r a cap (xs ++ (ys.drop b).take (e - b))) := by
  have h3 := h2.lt
  have e9 : b ≤ e ∧ e ≤ ys.length ∧ e - b ≤ cap - xs.length := by omega
  have h4 := c_Row_appendPart (G := G) h h2 n1 n2 (b := b) (e := e) (by omega) (by omega)
  rw [if_pos e9, decide_eq_true e9] at h4
  exact h4
theorem c_Row_appendAll {r2 a2 cap2 : Nat} {ys : List Nat} (h : cR w r a cap xs) (h2 : cR w r2 a2 cap2 ys) (n1 : r ≠ r2) (n2 : a ≠ a2) (hl : xs.length + ys.length ≤ cap) : ab_E G mm_Row_appendAll rr_Row_appendAll 0 [(0, .ref r), (1, .ref r2)] [] w (pV fun w2 => rS w w2 r a ∧ cR w2 r a cap (xs ++ ys)) := by
  have hr := h.obj
  have hr2 := h2.obj
  have h3 := h2.lt
  refine e_aload_n dd_Row_appendAll_0 rfl ?_
  refine e_aload_n dd_Row_appendAll_1 rfl ?_
  refine e_iconst_n 0 dd_Row_appendAll_2 (by decide) ?_
  refine e_aload_n dd_Row_appendAll_3 rfl ?_
  refine e_get dd_Row_appendAll_4 kf_Row_15 hr2 rfl ?_
  refine e_callVi (d1 := rr_Row_appendPart) (As := [.ref r2, .int (nI 0), .int (nI ys.length)]) (st := []) dd_Row_appendAll_7 km_Row_33 hr rfl (by decide) rfl (Nat.le_of_ble_eq_true rfl) (Nat.le_of_ble_eq_true rfl) rfl rfl (c_Row_part h h2 n1 n2 (Nat.zero_le _) (Nat.le_refl _) (by omega)) (fun w1 h4 => ?_)
  refine e_pop dd_Row_appendAll_10 rfl ?_
  exact e_vret dd_Row_appendAll_11 rfl (pV_of ⟨h4.1, by have h5 := h4.2; simpa using h5⟩)
theorem c_Row_become {r2 a2 cap2 : Nat} {ys : List Nat} (h : cR w r a cap xs) (h2 : cR w r2 a2 cap2 ys) (n1 : r ≠ r2) (n2 : a ≠ a2) (hl : ys.length ≤ cap) : ab_E G mm_Row_become rr_Row_become 0 [(0, .ref r), (1, .ref r2)] [] w (pV fun w2 => rS w w2 r a ∧ cR w2 r a cap ys) := by
  have hr := h.obj
  have n3 := h.ne_oa h2
  have n4 := h2.ne_oa h
  refine e_aload_n dd_Row_become_0 rfl ?_
  refine e_iconst_n 0 dd_Row_become_1 (by decide) ?_
  refine e_callVv (d1 := rr_Row_cutTo) (As := [.int (nI 0)]) (st := []) dd_Row_become_2 km_Row_37 hr rfl (by decide) rfl (Nat.le_of_ble_eq_true rfl) (Nat.le_of_ble_eq_true rfl) rfl rfl (c_Row_cutTo h (k := 0) (by decide)) (fun w1 h3 => ?_)
  have h4 := h3.2
  rw [List.take_zero] at h4
  have hr := h4.obj
  have h5 := h2.keep (h3.1.2 r2 n1.symm n4) (h3.1.2 a2 n3.symm n2.symm)
  refine e_aload_n dd_Row_become_5 rfl ?_
  refine e_aload_n dd_Row_become_6 rfl ?_
  refine e_callVv (d1 := rr_Row_appendAll) (As := [.ref r2]) (st := []) dd_Row_become_7 km_Row_41 hr rfl (by decide) rfl (Nat.le_of_ble_eq_true rfl) (Nat.le_of_ble_eq_true rfl) rfl rfl (c_Row_appendAll h4 h5 n1 n2 (by simpa using hl)) (fun w2 h6 => ?_)
  exact e_vret dd_Row_become_10 rfl (pV_of ⟨h3.1.tr h6.1, by simpa using h6.2⟩)
end ROW
end
section
/-! The row's sums, CHECK, and whether two rows are the same. -/
/-- one bit of CHECK; the last n bits of a byte; a byte; n bytes from a place on -/
def cb (c b k : Nat) : Nat := (c * 2 % 65536) ^^^ (if (b / 2 ^ k % 2) ^^^ (c / 2 ^ 15 % 2) = 1 then 4129 else 0)
def c8 (c b : Nat) : Nat → Nat
  | 0 => c
  | n + 1 => c8 (cb c b n) b n
def c1 (c b : Nat) : Nat := c8 c b 8
def cN (xs : List Nat) (c i : Nat) : Nat → Nat
  | 0 => c
  | n + 1 => cN xs (c1 c (xs.getD i 0)) (i + 1) n
theorem cb_lt (c b k : Nat) : cb c b k < 65536 := by
  unfold cb
  have h1 : c * 2 % 65536 < 2 ^ 16 := Nat.mod_lt _ (by decide)
  split
  · exact Nat.xor_lt_two_pow h1 (by decide)
  · exact Nat.xor_lt_two_pow h1 (by decide)
theorem c8_lt {b : Nat} : ∀ (n c : Nat), c < 65536 → c8 c b n < 65536
  | 0, _, h => h
  | n + 1, c, _ => c8_lt n _ (cb_lt c b n)
theorem c1_lt {c b : Nat} (h : c < 65536) : c1 c b < 65536 := c8_lt 8 c h
theorem cN_lt {xs : List Nat} : ∀ (n c i : Nat), c < 65536 → cN xs c i n < 65536
  | 0, _, _, h => h
  | n + 1, c, i, h => cN_lt n _ _ (c1_lt h)
/-- CHECK of a row -/
def crc (xs : List Nat) : Nat := xs.foldl c1 65535
theorem cN_fold (xs : List Nat) : ∀ (n c i : Nat), i + n ≤ xs.length → cN xs c i n = ((xs.drop i).take n).foldl c1 c
  | 0, c, i, h => by simp [cN]
  | n + 1, c, i, h => by
    have h1 : xs.drop i = xs.getD i 0 :: xs.drop (i + 1) := by
      rw [List.drop_eq_getElem_cons (by omega), List.getD_eq_getElem?_getD, List.getElem?_eq_getElem (by omega)]
      rfl
    rw [cN, cN_fold xs n _ _ (by omega), h1, List.take_succ_cons, List.foldl_cons]
theorem crc_N (xs : List Nat) : cN xs 65535 0 xs.length = crc xs := by
  rw [cN_fold xs _ _ _ (by omega), List.drop_zero, List.take_length]
  rfl
theorem crc_lt (xs : List Nat) : crc xs < 65536 := by
  rw [← crc_N]; exact cN_lt _ _ _ (by decide)
def sN (xs : List Nat) (s i : Nat) : Nat → Nat
  | 0 => s
  | n + 1 => sN xs (s + xs.getD i 0) (i + 1) n
theorem sN_sum (xs : List Nat) : ∀ (n s i : Nat), i + n ≤ xs.length → sN xs s i n = s + ((xs.drop i).take n).sum
  | 0, s, i, h => by simp [sN]
  | n + 1, s, i, h => by
    have h1 : xs.drop i = xs.getD i 0 :: xs.drop (i + 1) := by
      rw [List.drop_eq_getElem_cons (by omega), List.getD_eq_getElem?_getD, List.getElem?_eq_getElem (by omega)]
      rfl
    rw [sN, sN_sum xs n _ _ (by omega), h1, List.take_succ_cons, List.sum_cons]
    omega
section ROW
variable {G : ab_G} {w : ab_W} {r a cap : Nat} {xs : List Nat}
theorem bit_lt (b k : Nat) : b / 2 ^ k % 2 < 2 := Nat.mod_lt _ (by decide)
theorem xor_bits {x y : Nat} (hx : x < 2) (hy : y < 2) : x ^^^ y < 2 := Nat.xor_lt_two_pow (n := 1) hx hy
theorem l_Row_checkWith {b : Nat} {c0 : Int32} (hb : b < 256) : ∀ (n c : Nat), n ≤ 8 → c < 65536 → ab_E G mm_Row_checkWith rr_Row_checkWith 5 [(0, .int c0), (1, .int (nI b)), (2, .int (nI c)), (3, .int (nI n + (-1)))] [] w (pP (nI (c8 c b n)) w) := by
  intro n
  induction n with
  | zero =>
    intro c hn hc
    refine e_iload_n dd_Row_checkWith_5 rfl ?_
    refine e_if_lt (tgt := 48) dd_Row_checkWith_6 (by decide) (fun _ => ?_) (fun h9 => absurd h9 (by decide))
    refine e_iload_n dd_Row_checkWith_48 rfl ?_
    exact e_iret dd_Row_checkWith_49 rfl (pP_of rfl)
  | succ n ih =>
    intro c hn hc
    rw [pk_m1]
    have hbt := bit_lt b n
    have hct := bit_lt c 15
    have hxl := xor_bits hbt hct
    have hcb := cb_lt c b n
    refine e_iload_n dd_Row_checkWith_5 rfl ?_
    refine e_if_lt_n (tgt := 48) dd_Row_checkWith_6 (by decide) (by first | omega | exact Nat.lt_of_le_of_lt (Nat.div_le_self _ _) (by omega)) ?_
    refine e_iload_n dd_Row_checkWith_9 rfl ?_
    refine e_iload_n dd_Row_checkWith_10 rfl ?_
    refine e_ishr dd_Row_checkWith_11 ?_
    refine e_top (y := nI (b / 2 ^ n)) (pk_shrN (by omega) _ n (s_l n (by omega))) ?_
    refine e_iconst_n 1 dd_Row_checkWith_12 (by decide) ?_
    refine e_iand_n 1 dd_Row_checkWith_13 (by first | omega | exact Nat.lt_of_le_of_lt (Nat.div_le_self _ _) (by omega)) (by decide) ?_
    refine e_iload_n dd_Row_checkWith_14 rfl ?_
    refine e_bipush_n 15 dd_Row_checkWith_15 (by decide) ?_
    refine e_ishr_n dd_Row_checkWith_17 (by first | omega | exact Nat.lt_of_le_of_lt (Nat.div_le_self _ _) (by omega)) (by decide) ?_
    refine e_iconst_n 1 dd_Row_checkWith_18 (by decide) ?_
    refine e_iand_n 1 dd_Row_checkWith_19 (by first | omega | exact Nat.lt_of_le_of_lt (Nat.div_le_self _ _) (by omega)) (by decide) ?_
    refine e_ixor dd_Row_checkWith_20 ?_
    refine e_top (y := nI ((b / 2 ^ n % 2) ^^^ (c / 2 ^ 15 % 2))) (nx_xor _ _) ?_
    refine e_istore (lv1 := [(0, .int c0), (1, .int (nI b)), (2, .int (nI c)), (3, .int (nI n)), (4, .int (nI ((b / 2 ^ n % 2) ^^^ (c / 2 ^ 15 % 2))))]) dd_Row_checkWith_21 (by decide) rfl ?_
    refine e_iload_n dd_Row_checkWith_23 rfl ?_
    refine e_iconst_n 2 dd_Row_checkWith_24 (by decide) ?_
    refine e_imul_n dd_Row_checkWith_25 ?_
    refine e_ldc (v := 65535) dd_Row_checkWith_26 ww_263 ?_
    refine e_top (y := nI 65535) (by decide) ?_
    refine e_iand_n 16 dd_Row_checkWith_28 (by first | omega | exact Nat.lt_of_le_of_lt (Nat.div_le_self _ _) (by omega)) (by decide) ?_
    refine e_istore_n (lv1 := [(0, .int c0), (1, .int (nI b)), (2, .int (nI ((c * 2) % 2 ^ 16))), (3, .int (nI n)), (4, .int (nI ((b / 2 ^ n % 2) ^^^ (c / 2 ^ 15 % 2))))]) dd_Row_checkWith_29 (by decide) rfl ?_
    refine e_iload dd_Row_checkWith_30 rfl ?_
    refine e_iconst_n 1 dd_Row_checkWith_32 (by decide) ?_
    refine e_icmp_ne_n (tgt := 42) dd_Row_checkWith_33 (by decide) (by first | omega | exact Nat.lt_of_le_of_lt (Nat.div_le_self _ _) (by omega)) (by first | omega | exact Nat.lt_of_le_of_lt (Nat.div_le_self _ _) (by omega)) (fun c33 => ?_) (fun c33 => ?_)
    · refine e_iinc (v := nI n + (-1)) (lv1 := [(0, .int c0), (1, .int (nI b)), (2, .int (nI ((c * 2) % 2 ^ 16))), (3, .int (nI n + (-1))), (4, .int (nI ((b / 2 ^ n % 2) ^^^ (c / 2 ^ 15 % 2))))]) dd_Row_checkWith_42 rfl (by decide) rfl rfl ?_
      refine e_goto (tgt := 5) dd_Row_checkWith_45 (by decide) ?_
      refine e_rm (lv1 := [(0, .int c0), (1, .int (nI b)), (2, .int (nI ((c * 2) % 2 ^ 16))), (3, .int (nI n + (-1)))]) 4 rfl ?_
      have e : c * 2 % 2 ^ 16 = cb c b n := by rw [cb, if_neg c33]; simp
      rw [e]
      exact ih (cb c b n) (by omega) hcb
    · refine e_iload_n dd_Row_checkWith_36 rfl ?_
      refine e_sipush_n 4129 dd_Row_checkWith_37 (by decide) ?_
      refine e_ixor dd_Row_checkWith_40 ?_
      refine e_top (y := nI ((c * 2 % 2 ^ 16) ^^^ 4129)) (nx_xor _ _) ?_
      refine e_istore_n (lv1 := [(0, .int c0), (1, .int (nI b)), (2, .int (nI ((c * 2 % 2 ^ 16) ^^^ 4129))), (3, .int (nI n)), (4, .int (nI ((b / 2 ^ n % 2) ^^^ (c / 2 ^ 15 % 2))))]) dd_Row_checkWith_41 (by decide) rfl ?_
      refine e_iinc (v := nI n + (-1)) (lv1 := [(0, .int c0), (1, .int (nI b)), (2, .int (nI ((c * 2 % 2 ^ 16) ^^^ 4129))), (3, .int (nI n + (-1))), (4, .int (nI ((b / 2 ^ n % 2) ^^^ (c / 2 ^ 15 % 2))))]) dd_Row_checkWith_42 rfl (by decide) rfl rfl ?_
      refine e_goto (tgt := 5) dd_Row_checkWith_45 (by decide) ?_
      refine e_rm (lv1 := [(0, .int c0), (1, .int (nI b)), (2, .int (nI ((c * 2 % 2 ^ 16) ^^^ 4129))), (3, .int (nI n + (-1)))]) 4 rfl ?_
      have e : (c * 2 % 2 ^ 16) ^^^ 4129 = cb c b n := by rw [cb, if_pos c33]
      rw [e]
      exact ih (cb c b n) (by omega) hcb
theorem c_Row_checkWith {c b : Nat} (hc : c < 65536) (hb : b < 256) : ab_E G mm_Row_checkWith rr_Row_checkWith 0 [(0, .int (nI c)), (1, .int (nI b))] [] w (pP (nI (c1 c b)) w) := by
  refine e_iload_n dd_Row_checkWith_0 rfl ?_
  refine e_istore_n (lv1 := [(0, .int (nI c)), (1, .int (nI b)), (2, .int (nI c))]) dd_Row_checkWith_1 (by decide) rfl ?_
  refine e_bipush_n 7 dd_Row_checkWith_2 (by decide) ?_
  refine e_istore_n (lv1 := [(0, .int (nI c)), (1, .int (nI b)), (2, .int (nI c)), (3, .int (nI 7))]) dd_Row_checkWith_4 (by decide) rfl ?_
  exact l_Row_checkWith hb 8 c (by decide) hc
theorem l_Row_check (h : cR w r a cap xs) {b e : Nat} (he : e ≤ xs.length) : ∀ (n i c : Nat), i + n = e → c < 65536 → ab_E G mm_Row_check rr_Row_check 6 [(0, .ref r), (1, .int (nI b)), (2, .int (nI e)), (3, .int (nI c)), (4, .int (nI i))] [] w (pP (nI (cN xs c i n)) w) := by
  have hlt := h.lt
  have hr := h.obj
  have hby := h.2.2.2.2.1
  intro n
  induction n with
  | zero =>
    intro i c hi hc
    refine e_iload dd_Row_check_6 rfl ?_
    refine e_iload_n dd_Row_check_8 rfl ?_
    refine e_icmp_ge_n (tgt := 29) dd_Row_check_9 (by decide) (by omega) (by omega) (fun _ => ?_) (fun h9 => absurd h9 (by omega))
    refine e_iload_n dd_Row_check_29 rfl ?_
    exact e_iret dd_Row_check_30 rfl (pP_of rfl)
  | succ n ih =>
    intro i c hi hc
    refine e_iload dd_Row_check_6 rfl ?_
    refine e_iload_n dd_Row_check_8 rfl ?_
    refine e_icmp_ge_n (tgt := 29) dd_Row_check_9 (by decide) (by omega) (by omega) (fun h9 => absurd h9 (by omega)) (fun _ => ?_)
    refine e_iload_n dd_Row_check_12 rfl ?_
    refine e_aload_n dd_Row_check_13 rfl ?_
    refine e_iload dd_Row_check_14 rfl ?_
    refine e_callVp (d1 := rr_Row_at) (As := [.int (nI i)]) (st := [.int (nI c)]) dd_Row_check_16 km_Row_19 hr rfl (by decide) rfl (Nat.le_of_ble_eq_true rfl) (Nat.le_of_ble_eq_true rfl) rfl rfl (c_Row_ati h (by omega)) ?_
    refine e_callSp (d1 := rr_Row_checkWith) (As := [.int (nI c), .int (nI (xs.getD i 0))]) (st := []) dd_Row_check_19 km_Row_46 (by decide) rfl (Nat.le_of_ble_eq_true rfl) (Nat.le_of_ble_eq_true rfl) rfl rfl (c_Row_checkWith hc (getD_lt hby (by omega))) ?_
    refine e_istore_n (lv1 := [(0, .ref r), (1, .int (nI b)), (2, .int (nI e)), (3, .int (nI (c1 c (xs.getD i 0)))), (4, .int (nI i))]) dd_Row_check_22 (by decide) rfl ?_
    refine e_iinc_n (a := i) (k := 1) (lv1 := [(0, .ref r), (1, .int (nI b)), (2, .int (nI e)), (3, .int (nI (c1 c (xs.getD i 0)))), (4, .int (nI (i + 1)))]) dd_Row_check_23 rfl (by decide) (by decide) rfl ?_
    refine e_goto (tgt := 6) dd_Row_check_26 (by decide) ?_
    exact ih (i + 1) _ (by omega) (c1_lt hc)
theorem c_Row_check (h : cR w r a cap xs) {b e : Nat} (hb : b ≤ e) (he : e ≤ xs.length) : ab_E G mm_Row_check rr_Row_check 0 [(0, .ref r), (1, .int (nI b)), (2, .int (nI e))] [] w (pP (nI (crc ((xs.drop b).take (e - b)))) w) := by
  have e1 : crc ((xs.drop b).take (e - b)) = cN xs 65535 b (e - b) := (cN_fold xs _ _ _ (by omega)).symm
  rw [e1]
  refine e_ldc (v := 65535) dd_Row_check_0 ww_263 ?_
  refine e_top (y := nI 65535) (by decide) ?_
  refine e_istore_n (lv1 := [(0, .ref r), (1, .int (nI b)), (2, .int (nI e)), (3, .int (nI 65535))]) dd_Row_check_2 (by decide) rfl ?_
  refine e_iload_n dd_Row_check_3 rfl ?_
  refine e_istore (lv1 := [(0, .ref r), (1, .int (nI b)), (2, .int (nI e)), (3, .int (nI 65535)), (4, .int (nI b))]) dd_Row_check_4 (by decide) rfl ?_
  exact l_Row_check h he (e - b) b 65535 (by omega) (by decide)
theorem sN_le {xs : List Nat} (hby : ∀ x ∈ xs, x < 256) : ∀ (n s i : Nat), i + n ≤ xs.length → sN xs s i n ≤ s + 256 * n
  | 0, s, i, _ => by simp [sN]
  | n + 1, s, i, h => by
    have h1 := sN_le hby n (s + xs.getD i 0) (i + 1) (by omega)
    have h2 := getD_lt hby (j := i) (by omega)
    rw [sN]
    omega
theorem l_Row_sum (h : cR w r a cap xs) {b e : Nat} (he : e ≤ xs.length) : ∀ (n i c : Nat), i + n = e → c ≤ 256 * i → ab_E G mm_Row_sum rr_Row_sum 5 [(0, .ref r), (1, .int (nI b)), (2, .int (nI e)), (3, .int (nI c)), (4, .int (nI i))] [] w (pP (nI (sN xs c i n % 256)) w) := by
  have hlt := h.lt
  have hr := h.obj
  have hby := h.2.2.2.2.1
  intro n
  induction n with
  | zero =>
    intro i c hi hc
    refine e_iload dd_Row_sum_5 rfl ?_
    refine e_iload_n dd_Row_sum_7 rfl ?_
    refine e_icmp_ge_n (tgt := 26) dd_Row_sum_8 (by decide) (by omega) (by omega) (fun _ => ?_) (fun h9 => absurd h9 (by omega))
    refine e_iload_n dd_Row_sum_26 rfl ?_
    refine e_sipush_n 255 dd_Row_sum_27 (by decide) ?_
    refine e_iand_n 8 dd_Row_sum_30 (by omega) (by decide) ?_
    exact e_iret dd_Row_sum_31 rfl (pP_of rfl)
  | succ n ih =>
    intro i c hi hc
    have h2 := getD_lt hby (j := i) (by omega)
    refine e_iload dd_Row_sum_5 rfl ?_
    refine e_iload_n dd_Row_sum_7 rfl ?_
    refine e_icmp_ge_n (tgt := 26) dd_Row_sum_8 (by decide) (by omega) (by omega) (fun h9 => absurd h9 (by omega)) (fun _ => ?_)
    refine e_iload_n dd_Row_sum_11 rfl ?_
    refine e_aload_n dd_Row_sum_12 rfl ?_
    refine e_iload dd_Row_sum_13 rfl ?_
    refine e_callVp (d1 := rr_Row_at) (As := [.int (nI i)]) (st := [.int (nI c)]) dd_Row_sum_15 km_Row_19 hr rfl (by decide) rfl (Nat.le_of_ble_eq_true rfl) (Nat.le_of_ble_eq_true rfl) rfl rfl (c_Row_ati h (by omega)) ?_
    refine e_iadd_n dd_Row_sum_18 ?_
    refine e_istore_n (lv1 := [(0, .ref r), (1, .int (nI b)), (2, .int (nI e)), (3, .int (nI (c + (xs.getD i 0)))), (4, .int (nI i))]) dd_Row_sum_19 (by decide) rfl ?_
    refine e_iinc_n (a := i) (k := 1) (lv1 := [(0, .ref r), (1, .int (nI b)), (2, .int (nI e)), (3, .int (nI (c + (xs.getD i 0)))), (4, .int (nI (i + 1)))]) dd_Row_sum_20 rfl (by decide) (by decide) rfl ?_
    refine e_goto (tgt := 5) dd_Row_sum_23 (by decide) ?_
    exact ih (i + 1) _ (by omega) (by omega)
theorem c_Row_sum (h : cR w r a cap xs) {b e : Nat} (hb : b ≤ e) (he : e ≤ xs.length) : ab_E G mm_Row_sum rr_Row_sum 0 [(0, .ref r), (1, .int (nI b)), (2, .int (nI e))] [] w (pP (nI (((xs.drop b).take (e - b)).sum % 256)) w) := by
  have e1 := sN_sum xs (e - b) 0 b (by omega)
  rw [Nat.zero_add] at e1
  rw [← e1]
  refine e_iconst_n 0 dd_Row_sum_0 (by decide) ?_
  refine e_istore_n (lv1 := [(0, .ref r), (1, .int (nI b)), (2, .int (nI e)), (3, .int (nI 0))]) dd_Row_sum_1 (by decide) rfl ?_
  refine e_iload_n dd_Row_sum_2 rfl ?_
  refine e_istore (lv1 := [(0, .ref r), (1, .int (nI b)), (2, .int (nI e)), (3, .int (nI 0)), (4, .int (nI b))]) dd_Row_sum_3 (by decide) rfl ?_
  exact l_Row_sum h he (e - b) b 0 (by omega) (by omega)
theorem getD_ext {xs ys : List Nat} (hl : xs.length = ys.length) (h : ∀ j, j < xs.length → xs.getD j 0 = ys.getD j 0) : xs = ys := by
  apply List.ext_getElem hl
  intro j h1 h2
  have h3 := h j h1
  simpa [List.getD_eq_getElem?_getD, h1, h2] using h3
theorem l_Row_isSameAs {r2 a2 cap2 : Nat} {ys : List Nat} (h : cR w r a cap xs) (h2 : cR w r2 a2 cap2 ys) (hl : xs.length = ys.length) : ∀ (n i : Nat), i + n = xs.length → (∀ j, j < i → xs.getD j 0 = ys.getD j 0) → ab_E G mm_Row_isSameAs rr_Row_isSameAs 15 [(0, .ref r), (1, .ref r2), (2, .int (nI i))] [] w (pP (bI (decide (xs = ys))) w) := by
  have hlt := h.lt
  have hr := h.obj
  have hr2 := h2.obj
  have hby := h.2.2.2.2.1
  have hby2 := h2.2.2.2.2.1
  intro n
  induction n with
  | zero =>
    intro i hi hj
    refine e_iload_n dd_Row_isSameAs_15 rfl ?_
    refine e_aload_n dd_Row_isSameAs_16 rfl ?_
    refine e_get dd_Row_isSameAs_17 kf_Row_15 hr rfl ?_
    refine e_icmp_ge_n (tgt := 44) dd_Row_isSameAs_20 (by decide) (by omega) (by omega) (fun _ => ?_) (fun h9 => absurd h9 (by omega))
    refine e_iconst_n 1 dd_Row_isSameAs_44 (by decide) ?_
    exact e_zret dd_Row_isSameAs_45 rfl (by decide) (pP_of (bI_t (decide_eq_true (getD_ext hl (fun j h9 => hj j (by omega))))))
  | succ n ih =>
    intro i hi hj
    have g1 := getD_lt hby (j := i) (by omega)
    have g2 := getD_lt hby2 (j := i) (by omega)
    refine e_iload_n dd_Row_isSameAs_15 rfl ?_
    refine e_aload_n dd_Row_isSameAs_16 rfl ?_
    refine e_get dd_Row_isSameAs_17 kf_Row_15 hr rfl ?_
    refine e_icmp_ge_n (tgt := 44) dd_Row_isSameAs_20 (by decide) (by omega) (by omega) (fun h9 => absurd h9 (by omega)) (fun _ => ?_)
    refine e_aload_n dd_Row_isSameAs_23 rfl ?_
    refine e_iload_n dd_Row_isSameAs_24 rfl ?_
    refine e_callVp (d1 := rr_Row_at) (As := [.int (nI i)]) (st := []) dd_Row_isSameAs_25 km_Row_19 hr rfl (by decide) rfl (Nat.le_of_ble_eq_true rfl) (Nat.le_of_ble_eq_true rfl) rfl rfl (c_Row_ati h (by omega)) ?_
    refine e_aload_n dd_Row_isSameAs_28 rfl ?_
    refine e_iload_n dd_Row_isSameAs_29 rfl ?_
    refine e_callVp (d1 := rr_Row_at) (As := [.int (nI i)]) (st := [.int (nI (xs.getD i 0))]) dd_Row_isSameAs_30 km_Row_19 hr2 rfl (by decide) rfl (Nat.le_of_ble_eq_true rfl) (Nat.le_of_ble_eq_true rfl) rfl rfl (c_Row_ati h2 (by omega)) ?_
    refine e_icmp_eq_n (tgt := 38) dd_Row_isSameAs_33 (by decide) (by omega) (by omega) (fun c33 => ?_) (fun c33 => ?_)
    · refine e_iinc_n (a := i) (k := 1) (lv1 := [(0, .ref r), (1, .ref r2), (2, .int (nI (i + 1)))]) dd_Row_isSameAs_38 rfl (by decide) (by decide) rfl ?_
      refine e_goto (tgt := 15) dd_Row_isSameAs_41 (by decide) ?_
      exact ih (i + 1) (by omega) (fun j h9 => by
        by_cases e : j = i
        · rw [e]; exact c33
        · exact hj j (by omega))
    · refine e_iconst_n 0 dd_Row_isSameAs_36 (by decide) ?_
      exact e_zret dd_Row_isSameAs_37 rfl (by decide) (pP_of (bI_f (decide_eq_false (fun e => c33 (by rw [e])))))
theorem c_Row_isSameAs {r2 a2 cap2 : Nat} {ys : List Nat} (h : cR w r a cap xs) (h2 : cR w r2 a2 cap2 ys) : ab_E G mm_Row_isSameAs rr_Row_isSameAs 0 [(0, .ref r), (1, .ref r2)] [] w (pP (bI (decide (xs = ys))) w) := by
  have hlt := h.lt
  have hlt2 := h2.lt
  have hr := h.obj
  have hr2 := h2.obj
  refine e_aload_n dd_Row_isSameAs_0 rfl ?_
  refine e_get dd_Row_isSameAs_1 kf_Row_15 hr rfl ?_
  refine e_aload_n dd_Row_isSameAs_4 rfl ?_
  refine e_get dd_Row_isSameAs_5 kf_Row_15 hr2 rfl ?_
  refine e_icmp_eq_n (tgt := 13) dd_Row_isSameAs_8 (by decide) (by omega) (by omega) (fun c8 => ?_) (fun c8 => ?_)
  · refine e_iconst_n 0 dd_Row_isSameAs_13 (by decide) ?_
    refine e_istore_n (lv1 := [(0, .ref r), (1, .ref r2), (2, .int (nI 0))]) dd_Row_isSameAs_14 (by decide) rfl ?_
    exact l_Row_isSameAs h h2 c8 xs.length 0 (by omega) (fun j h9 => absurd h9 (by omega))
  · refine e_iconst_n 0 dd_Row_isSameAs_11 (by decide) ?_
    exact e_zret dd_Row_isSameAs_12 rfl (by decide) (pP_of (bI_f (decide_eq_false (fun e => c8 (by rw [e])))))
end ROW
end
section
/-! Squeezing by runs. -/
theorem cR.fr {w w1 : ab_W} {r a cap r2 a2 : Nat} {xs : List Nat} (h : cR w r a cap xs) (hS : rS w w1 r2 a2) (n1 : r ≠ r2) (n2 : r ≠ a2) (n3 : a ≠ r2) (n4 : a ≠ a2) : cR w1 r a cap xs := h.keep (hS.2 r n1 n2) (hS.2 a n3 n4)
/-- how long a run is -/
def rl (xs : List Nat) (p v : Nat) : Nat → Nat → Nat
  | 0, n => n
  | k + 1, n => if p + n < xs.length ∧ xs.getD (p + n) 0 = v then rl xs p v k (n + 1) else n
theorem rl_le (xs : List Nat) (p v : Nat) : ∀ k n, n ≤ rl xs p v k n ∧ rl xs p v k n ≤ n + k ∧ (p + n ≤ xs.length → p + rl xs p v k n ≤ xs.length)
  | 0, n => ⟨Nat.le_refl _, Nat.le_refl _, id⟩
  | k + 1, n => by
    unfold rl
    split
    · rename_i h
      obtain ⟨h1, h2, h3⟩ := rl_le xs p v k (n + 1)
      exact ⟨by omega, by omega, fun _ => h3 (by omega)⟩
    · exact ⟨by omega, by omega, id⟩
def rn1 (n v : Nat) : List Nat := if n ≤ 2 ∧ v < 246 then List.replicate n v else [246 + n, v]
def rnF (xs : List Nat) : Nat → Nat → List Nat
  | 0, _ => []
  | k + 1, p => if p < xs.length then rn1 (rl xs p (xs.getD p 0) 8 1) (xs.getD p 0) ++ rnF xs k (p + rl xs p (xs.getD p 0) 8 1) else []
def runs (xs : List Nat) : List Nat := rnF xs xs.length 0
theorem rn1_len {n : Nat} (v : Nat) (h : 1 ≤ n) : (rn1 n v).length ≤ 2 * n := by
  unfold rn1
  split
  · rw [List.length_replicate]; omega
  · show 2 ≤ 2 * n; omega
theorem rnF_len (xs : List Nat) : ∀ k p, p ≤ xs.length → (rnF xs k p).length ≤ 2 * (xs.length - p)
  | 0, p, _ => by simp [rnF]
  | k + 1, p, hp => by
    unfold rnF
    split
    · rename_i h
      obtain ⟨h1, h2, h3⟩ := rl_le xs p (xs.getD p 0) 8 1
      have h4 := h3 (by omega)
      have h5 := rnF_len xs k _ h4
      have h6 := rn1_len (xs.getD p 0) h1
      rw [List.length_append]
      omega
    · simp
theorem runs_len (xs : List Nat) : (runs xs).length ≤ 2 * xs.length := rnF_len xs xs.length 0 (Nat.zero_le _)
theorem rn1_byte {n v : Nat} (hn : n ≤ 9) (hv : v < 256) : ∀ x ∈ rn1 n v, x < 256 := by
  intro x hx
  unfold rn1 at hx
  split at hx
  · rw [(List.mem_replicate.mp hx).2]; exact hv
  · rcases List.mem_cons.mp hx with h | h
    · omega
    · rw [List.mem_singleton.mp h]; exact hv
theorem rnF_byte {xs : List Nat} (hb : ∀ x ∈ xs, x < 256) : ∀ k p, ∀ x ∈ rnF xs k p, x < 256
  | 0, p, x, hx => by simp [rnF] at hx
  | k + 1, p, x, hx => by
    unfold rnF at hx
    split at hx
    · rename_i h
      obtain ⟨h1, h2, h3⟩ := rl_le xs p (xs.getD p 0) 8 1
      rcases List.mem_append.mp hx with h4 | h4
      · exact rn1_byte (by omega) (getD_lt hb h) x h4
      · exact rnF_byte hb k _ x h4
    · simp at hx
theorem neg1_ne {v : Nat} (h : v < 2 ^ 31) : ¬ (-1 : Int32) = nI v := by
  intro e
  have h2 := nI_pos h
  rw [← e] at h2
  exact h2 (by decide)
section SQ
variable {G : ab_G} {w : ab_W} {r a cap r2 a2 cap2 : Nat} {xs : List Nat}
/-- the inner loop: n grows to the run's length -/
theorem l_Sq_run {p v : Nat} {P : Option Value → ab_W → Prop} (h : cR w r a cap xs) (hv : v < 256) (hp : p < 100000) (R : Nat) (K : ab_E G mm_Sq_squeezeRuns rr_Sq_squeezeRuns 44 [(0, .ref r), (1, .ref r2), (2, .int (nI p)), (3, .int (nI v)), (4, .int (nI R))] [] w P) : ∀ k n, n + k = 9 → rl xs p v k n = R → ab_E G mm_Sq_squeezeRuns rr_Sq_squeezeRuns 19 [(0, .ref r), (1, .ref r2), (2, .int (nI p)), (3, .int (nI v)), (4, .int (nI n))] [] w P := by
  have hr := h.obj
  have hby := h.2.2.2.2.1
  have hlt := h.lt
  intro k
  induction k with
  | zero =>
    intro n hn hR
    have e0 : n = R := hR
    subst e0
    refine e_iload dd_Sq_squeezeRuns_19 rfl ?_
    refine e_bipush_n 9 dd_Sq_squeezeRuns_21 (by decide) ?_
    refine e_icmp_ge_n (tgt := 44) dd_Sq_squeezeRuns_23 (by decide) (by omega) (by omega) (fun _ => ?_) (fun h9 => absurd h9 (by omega))
    exact K
  | succ k ih =>
    intro n hn hR
    refine e_iload dd_Sq_squeezeRuns_19 rfl ?_
    refine e_bipush_n 9 dd_Sq_squeezeRuns_21 (by decide) ?_
    refine e_icmp_ge_n (tgt := 44) dd_Sq_squeezeRuns_23 (by decide) (by omega) (by omega) (fun h9 => absurd h9 (by omega)) (fun _ => ?_)
    refine e_aload_n dd_Sq_squeezeRuns_26 rfl ?_
    refine e_iload_n dd_Sq_squeezeRuns_27 rfl ?_
    refine e_iload dd_Sq_squeezeRuns_28 rfl ?_
    refine e_iadd_n dd_Sq_squeezeRuns_30 ?_
    refine e_callVp (d1 := rr_Row_at) (As := [.int (nI (p + n))]) (st := []) dd_Sq_squeezeRuns_31 km_Sq_32 hr rfl (by decide) rfl (Nat.le_of_ble_eq_true rfl) (Nat.le_of_ble_eq_true rfl) rfl rfl (c_Row_atn h (by omega)) ?_
    refine e_iload_n dd_Sq_squeezeRuns_34 rfl ?_
    unfold rl at hR
    by_cases e1 : p + n < xs.length
    · rw [rb_in e1]
      have g1 := getD_lt hby e1
      refine e_icmp_ne_n (tgt := 44) dd_Sq_squeezeRuns_35 (by decide) (by omega) (by omega) (fun c35 => ?_) (fun c35 => ?_)
      · rw [if_neg (fun e => c35 e.2)] at hR
        rw [hR]
        exact K
      · refine e_iinc_n (a := n) (k := 1) (lv1 := [(0, .ref r), (1, .ref r2), (2, .int (nI p)), (3, .int (nI v)), (4, .int (nI (n + 1)))]) dd_Sq_squeezeRuns_38 rfl (by decide) (by decide) rfl ?_
        refine e_goto (tgt := 19) dd_Sq_squeezeRuns_41 (by decide) ?_
        rw [if_pos ⟨e1, c35⟩] at hR
        exact ih (n + 1) (by omega) hR
    · rw [rb_out (by omega)]
      refine e_icmp_ne (tgt := 44) dd_Sq_squeezeRuns_35 (by decide) (fun _ => ?_) (fun h9 => absurd h9 (fun h8 => absurd h8 (neg1_ne (by omega))))
      rw [if_neg (fun e => e1 e.1)] at hR
      rw [hR]
      exact K
theorem l_Sq_runs (h : cR w r a cap xs) (n1 : r ≠ r2) (n2 : r ≠ a2) (n3 : a ≠ r2) (n4 : a ≠ a2) (tot : List Nat) (htot : tot.length ≤ cap2) : ∀ (k p : Nat) (w1 : ab_W) (acc : List Nat) (lv : List (Nat × Value)), xs.length ≤ p + k → acc ++ rnF xs k p = tot → p ≤ xs.length → rS w w1 r2 a2 → cR w1 r2 a2 cap2 acc → ab_E G mm_Sq_squeezeRuns rr_Sq_squeezeRuns 2 [(0, .ref r), (1, .ref r2), (2, .int (nI p))] [] w1 (pV fun w2 => rS w w2 r2 a2 ∧ cR w2 r2 a2 cap2 tot) := by
  have hby := h.2.2.2.2.1
  have hlt := h.lt
  intro k
  induction k with
  | zero =>
    intro p w1 acc lv hk ht hp hS h2
    have hr := (h.fr hS n1 n2 n3 n4).obj
    refine e_iload_n dd_Sq_squeezeRuns_2 rfl ?_
    refine e_aload_n dd_Sq_squeezeRuns_3 rfl ?_
    refine e_get dd_Sq_squeezeRuns_4 kf_Sq_28 hr rfl ?_
    refine e_icmp_ge_n (tgt := 93) dd_Sq_squeezeRuns_7 (by decide) (by omega) (by omega) (fun _ => ?_) (fun h9 => absurd h9 (by omega))
    exact e_vret dd_Sq_squeezeRuns_93 rfl (pV_of ⟨hS, by rw [← ht, rnF, List.append_nil]; exact h2⟩)
  | succ k ih =>
    intro p w1 acc lv hk ht hp hS h2
    have h1 := h.fr hS n1 n2 n3 n4
    have hr := h1.obj
    have hr2 := h2.obj
    unfold rnF at ht
    refine e_iload_n dd_Sq_squeezeRuns_2 rfl ?_
    refine e_aload_n dd_Sq_squeezeRuns_3 rfl ?_
    refine e_get dd_Sq_squeezeRuns_4 kf_Sq_28 hr rfl ?_
    refine e_icmp_ge_n (tgt := 93) dd_Sq_squeezeRuns_7 (by decide) (by omega) (by omega) (fun c7 => ?_) (fun c7 => ?_)
    · exact e_vret dd_Sq_squeezeRuns_93 rfl (pV_of ⟨hS, by rw [← ht, if_neg (by omega), List.append_nil]; exact h2⟩)
    · rw [if_pos c7] at ht
      have hv := getD_lt hby c7
      refine e_aload_n dd_Sq_squeezeRuns_10 rfl ?_
      refine e_iload_n dd_Sq_squeezeRuns_11 rfl ?_
      refine e_callVp (d1 := rr_Row_at) (As := [.int (nI p)]) (st := []) dd_Sq_squeezeRuns_12 km_Sq_32 hr rfl (by decide) rfl (Nat.le_of_ble_eq_true rfl) (Nat.le_of_ble_eq_true rfl) rfl rfl (c_Row_ati h1 c7) ?_
      generalize hve : xs.getD p 0 = v at ht hv ⊢
      obtain ⟨g1, g2, g3⟩ := rl_le xs p v 8 1
      refine e_istore_n (lv1 := [(0, .ref r), (1, .ref r2), (2, .int (nI p)), (3, .int (nI v))]) dd_Sq_squeezeRuns_15 (by decide) rfl ?_
      refine e_iconst_n 1 dd_Sq_squeezeRuns_16 (by decide) ?_
      refine e_istore (lv1 := [(0, .ref r), (1, .ref r2), (2, .int (nI p)), (3, .int (nI v)), (4, .int (nI 1))]) dd_Sq_squeezeRuns_17 (by decide) rfl ?_
      generalize hne : rl xs p v 8 1 = n at ht g1 g2 g3
      refine l_Sq_run h1 hv (by omega) n ?_ 8 1 (by decide) hne
      have hpn := g3 (by omega)
      refine e_iload dd_Sq_squeezeRuns_44 rfl ?_
      refine e_iconst_n 2 dd_Sq_squeezeRuns_46 (by decide) ?_
      refine e_icmp_gt_n (tgt := 68) dd_Sq_squeezeRuns_47 (by decide) (by omega) (by omega) (fun c47 => ?_) (fun c47 => ?_)
      · have e8 : rn1 n v = [246 + n, v] := if_neg (by omega)
        rw [e8] at ht
        have e7 := congrArg List.length ht
        rw [List.length_append, List.length_append] at e7
        have e6 : ([246 + n, v] : List Nat).length = 2 := rfl
        refine e_aload_n dd_Sq_squeezeRuns_68 rfl ?_
        refine e_sipush_n 246 dd_Sq_squeezeRuns_69 (by decide) ?_
        refine e_iload dd_Sq_squeezeRuns_72 rfl ?_
        refine e_iadd_n dd_Sq_squeezeRuns_74 ?_
        refine e_callVi (d1 := rr_Row_append) (As := [.int (nI (246 + n))]) (st := []) dd_Sq_squeezeRuns_75 km_Sq_40 hr2 rfl (by decide) rfl (Nat.le_of_ble_eq_true rfl) (Nat.le_of_ble_eq_true rfl) rfl rfl (c_Row_app h2 (by omega) (by omega)) (fun w5 h5 => ?_)
        have hr2 := h5.2.obj
        have e5 : (acc ++ [246 + n]).length = acc.length + 1 := by simp
        refine e_pop dd_Sq_squeezeRuns_78 rfl ?_
        refine e_aload_n dd_Sq_squeezeRuns_79 rfl ?_
        refine e_iload_n dd_Sq_squeezeRuns_80 rfl ?_
        refine e_callVi (d1 := rr_Row_append) (As := [.int (nI v)]) (st := []) dd_Sq_squeezeRuns_81 km_Sq_40 hr2 rfl (by decide) rfl (Nat.le_of_ble_eq_true rfl) (Nat.le_of_ble_eq_true rfl) rfl rfl (c_Row_app h5.2 hv (by omega)) (fun w6 h6 => ?_)
        have h7 := h6.2
        rw [List.append_assoc] at h7
        refine e_pop dd_Sq_squeezeRuns_84 rfl ?_
        refine e_iload_n dd_Sq_squeezeRuns_85 rfl ?_
        refine e_iload dd_Sq_squeezeRuns_86 rfl ?_
        refine e_iadd_n dd_Sq_squeezeRuns_88 ?_
        refine e_istore_n (lv1 := [(0, .ref r), (1, .ref r2), (2, .int (nI (p + n))), (3, .int (nI v)), (4, .int (nI n))]) dd_Sq_squeezeRuns_89 (by decide) rfl ?_
        refine e_goto (tgt := 2) dd_Sq_squeezeRuns_90 (by decide) ?_
        refine e_rm (lv1 := [(0, .ref r), (1, .ref r2), (2, .int (nI (p + n))), (4, .int (nI n))]) 3 rfl ?_
        refine e_rm (lv1 := [(0, .ref r), (1, .ref r2), (2, .int (nI (p + n)))]) 4 rfl ?_
        exact ih (p + n) _ (acc ++ ([246 + n] ++ [v])) [] (by omega) (by rw [← ht]; simp) hpn (hS.tr (h5.1.tr h6.1)) h7
      · refine e_iload_n dd_Sq_squeezeRuns_50 rfl ?_
        refine e_sipush_n 246 dd_Sq_squeezeRuns_51 (by decide) ?_
        refine e_icmp_ge_n (tgt := 68) dd_Sq_squeezeRuns_54 (by decide) (by omega) (by omega) (fun c54 => ?_) (fun c54 => ?_)
        · have e8 : rn1 n v = [246 + n, v] := if_neg (by omega)
          rw [e8] at ht
          have e7 := congrArg List.length ht
          rw [List.length_append, List.length_append] at e7
          have e6 : ([246 + n, v] : List Nat).length = 2 := rfl
          refine e_aload_n dd_Sq_squeezeRuns_68 rfl ?_
          refine e_sipush_n 246 dd_Sq_squeezeRuns_69 (by decide) ?_
          refine e_iload dd_Sq_squeezeRuns_72 rfl ?_
          refine e_iadd_n dd_Sq_squeezeRuns_74 ?_
          refine e_callVi (d1 := rr_Row_append) (As := [.int (nI (246 + n))]) (st := []) dd_Sq_squeezeRuns_75 km_Sq_40 hr2 rfl (by decide) rfl (Nat.le_of_ble_eq_true rfl) (Nat.le_of_ble_eq_true rfl) rfl rfl (c_Row_app h2 (by omega) (by omega)) (fun w5 h5 => ?_)
          have hr2 := h5.2.obj
          have e5 : (acc ++ [246 + n]).length = acc.length + 1 := by simp
          refine e_pop dd_Sq_squeezeRuns_78 rfl ?_
          refine e_aload_n dd_Sq_squeezeRuns_79 rfl ?_
          refine e_iload_n dd_Sq_squeezeRuns_80 rfl ?_
          refine e_callVi (d1 := rr_Row_append) (As := [.int (nI v)]) (st := []) dd_Sq_squeezeRuns_81 km_Sq_40 hr2 rfl (by decide) rfl (Nat.le_of_ble_eq_true rfl) (Nat.le_of_ble_eq_true rfl) rfl rfl (c_Row_app h5.2 hv (by omega)) (fun w6 h6 => ?_)
          have h7 := h6.2
          rw [List.append_assoc] at h7
          refine e_pop dd_Sq_squeezeRuns_84 rfl ?_
          refine e_iload_n dd_Sq_squeezeRuns_85 rfl ?_
          refine e_iload dd_Sq_squeezeRuns_86 rfl ?_
          refine e_iadd_n dd_Sq_squeezeRuns_88 ?_
          refine e_istore_n (lv1 := [(0, .ref r), (1, .ref r2), (2, .int (nI (p + n))), (3, .int (nI v)), (4, .int (nI n))]) dd_Sq_squeezeRuns_89 (by decide) rfl ?_
          refine e_goto (tgt := 2) dd_Sq_squeezeRuns_90 (by decide) ?_
          refine e_rm (lv1 := [(0, .ref r), (1, .ref r2), (2, .int (nI (p + n))), (4, .int (nI n))]) 3 rfl ?_
          refine e_rm (lv1 := [(0, .ref r), (1, .ref r2), (2, .int (nI (p + n)))]) 4 rfl ?_
          exact ih (p + n) _ (acc ++ ([246 + n] ++ [v])) [] (by omega) (by rw [← ht]; simp) hpn (hS.tr (h5.1.tr h6.1)) h7
        · have e8 : rn1 n v = List.replicate n v := if_pos (by omega)
          rw [e8] at ht
          have e7 := congrArg List.length ht
          rw [List.length_append, List.length_append, List.length_replicate] at e7
          have e6 : acc.length + n ≤ cap2 := by omega
          have h4 := c_Row_appendTimes (G := G) h2 hv (t := n) (by omega)
          rw [if_pos e6, decide_eq_true e6] at h4
          refine e_aload_n dd_Sq_squeezeRuns_57 rfl ?_
          refine e_iload_n dd_Sq_squeezeRuns_58 rfl ?_
          refine e_iload dd_Sq_squeezeRuns_59 rfl ?_
          refine e_callVi (d1 := rr_Row_appendTimes) (As := [.int (nI v), .int (nI n)]) (st := []) dd_Sq_squeezeRuns_61 km_Sq_36 hr2 rfl (by decide) rfl (Nat.le_of_ble_eq_true rfl) (Nat.le_of_ble_eq_true rfl) rfl rfl (h4) (fun w5 h5 => ?_)
          refine e_pop dd_Sq_squeezeRuns_64 rfl ?_
          refine e_goto (tgt := 85) dd_Sq_squeezeRuns_65 (by decide) ?_
          refine e_iload_n dd_Sq_squeezeRuns_85 rfl ?_
          refine e_iload dd_Sq_squeezeRuns_86 rfl ?_
          refine e_iadd_n dd_Sq_squeezeRuns_88 ?_
          refine e_istore_n (lv1 := [(0, .ref r), (1, .ref r2), (2, .int (nI (p + n))), (3, .int (nI v)), (4, .int (nI n))]) dd_Sq_squeezeRuns_89 (by decide) rfl ?_
          refine e_goto (tgt := 2) dd_Sq_squeezeRuns_90 (by decide) ?_
          refine e_rm (lv1 := [(0, .ref r), (1, .ref r2), (2, .int (nI (p + n))), (4, .int (nI n))]) 3 rfl ?_
          refine e_rm (lv1 := [(0, .ref r), (1, .ref r2), (2, .int (nI (p + n)))]) 4 rfl ?_
          exact ih (p + n) _ (acc ++ List.replicate n v) [] (by omega) (by rw [← ht]; simp) hpn (hS.tr h5.1) h5.2
theorem c_Sq_squeezeRuns (h : cR w r a cap xs) (h2 : cR w r2 a2 cap2 []) (n1 : r ≠ r2) (n4 : a ≠ a2) (hl : (runs xs).length ≤ cap2) : ab_E G mm_Sq_squeezeRuns rr_Sq_squeezeRuns 0 [(0, .ref r), (1, .ref r2)] [] w (pV fun w2 => rS w w2 r2 a2 ∧ cR w2 r2 a2 cap2 (runs xs)) := by
  have n2 := h.ne_oa h2
  have n3 := (h2.ne_oa h).symm
  refine e_iconst_n 0 dd_Sq_squeezeRuns_0 (by decide) ?_
  refine e_istore_n (lv1 := [(0, .ref r), (1, .ref r2), (2, .int (nI 0))]) dd_Sq_squeezeRuns_1 (by decide) rfl ?_
  exact l_Sq_runs h n1 n2 n3 n4 (runs xs) hl xs.length 0 w [] [] (by omega) (by simp [runs]) (Nat.zero_le _) rS.rf h2
end SQ
end
section
/-! Squeezing by copies. -/
/-- how long a copy at p over a distance d is -/
def cl (xs : List Nat) (p d : Nat) : Nat → Nat → Nat
  | 0, n => n
  | k + 1, n => if p + n < xs.length ∧ d ≤ p + n ∧ xs.getD (p + n) 0 = xs.getD (p + n - d) 0 then cl xs p d k (n + 1) else n
def clen (xs : List Nat) (p d : Nat) : Nat := cl xs p d 34 0
theorem cl_le (xs : List Nat) (p d : Nat) : ∀ k n, n ≤ cl xs p d k n ∧ cl xs p d k n ≤ n + k ∧ (p + n ≤ xs.length → p + cl xs p d k n ≤ xs.length)
  | 0, n => ⟨Nat.le_refl _, Nat.le_refl _, id⟩
  | k + 1, n => by
    unfold cl
    split
    · rename_i h
      obtain ⟨h1, h2, h3⟩ := cl_le xs p d k (n + 1)
      exact ⟨by omega, by omega, fun _ => h3 (by omega)⟩
    · exact ⟨by omega, by omega, id⟩
/-- the least distance of the longest copies, from distance d on -/
def bd (xs : List Nat) (p : Nat) : Nat → Nat → Nat → Nat → Nat
  | 0, _, b, _ => b
  | k + 1, d, b, l => if d ≤ p then (if l < clen xs p d then bd xs p k (d + 1) d (clen xs p d) else bd xs p k (d + 1) b l) else b
def best (xs : List Nat) (p : Nat) : Nat := bd xs p 32 1 1 0
theorem bd_in (xs : List Nat) (p : Nat) : ∀ k d b l, 1 ≤ b → b ≤ 32 → 1 ≤ d → d + k = 33 → 1 ≤ bd xs p k d b l ∧ bd xs p k d b l ≤ 32
  | 0, d, b, l, h1, h2, _, _ => ⟨h1, h2⟩
  | k + 1, d, b, l, h1, h2, h3, h4 => by
    unfold bd
    split
    · split
      · exact bd_in xs p k (d + 1) d _ h3 (by omega) (by omega) (by omega)
      · exact bd_in xs p k (d + 1) b l h1 h2 (by omega) (by omega)
    · exact ⟨h1, h2⟩
theorem best_in (xs : List Nat) (p : Nat) : 1 ≤ best xs p ∧ best xs p ≤ 32 := bd_in xs p 32 1 1 0 (by decide) (by decide) (by decide) (by decide)
/-- literals from place i up to e -/
def ltP (xs : List Nat) (e : Nat) : Nat → Nat → List Nat
  | 0, _ => []
  | k + 1, i => if i < e then (min 32 (e - i) - 1) :: ((xs.drop i).take (min 32 (e - i)) ++ ltP xs e k (i + 32)) else []
def lits (xs : List Nat) (f e : Nat) : List Nat := ltP xs e (e - f) f
theorem ltP_len (xs : List Nat) (e : Nat) : ∀ k i, (ltP xs e k i).length ≤ 2 * (e - i)
  | 0, i => by simp [ltP]
  | k + 1, i => by
    unfold ltP
    split
    · rename_i h
      have h1 := ltP_len xs e k (i + 32)
      have h2 : ((xs.drop i).take (min 32 (e - i))).length ≤ min 32 (e - i) := by rw [List.length_take]; omega
      rw [List.length_cons, List.length_append]
      omega
    · simp
/-- from place p on, literals waiting from place f on -/
def cpF (xs : List Nat) : Nat → Nat → Nat → List Nat
  | 0, p, f => lits xs f p
  | k + 1, p, f => if p < xs.length then (if 3 ≤ clen xs p (best xs p) then lits xs f p ++ ([29 + clen xs p (best xs p), best xs p - 1] ++ cpF xs k (p + clen xs p (best xs p)) (p + clen xs p (best xs p))) else cpF xs k (p + 1) f) else lits xs f p
def copies (xs : List Nat) : List Nat := cpF xs xs.length 0 0
theorem cpF_len (xs : List Nat) : ∀ k p f, f ≤ p → p ≤ xs.length → (cpF xs k p f).length ≤ 2 * (xs.length - f)
  | 0, p, f, h1, h2 => by
    have h3 := ltP_len xs p (p - f) f
    show (lits xs f p).length ≤ _
    unfold lits
    omega
  | k + 1, p, f, h1, h2 => by
    have h3 := ltP_len xs p (p - f) f
    unfold cpF
    split
    · split
      · obtain ⟨g1, g2, g3⟩ := cl_le xs p (best xs p) 34 0
        have g4 := g3 (by omega)
        rename_i h4 h5
        have g5 := cpF_len xs k (p + clen xs p (best xs p)) (p + clen xs p (best xs p)) (Nat.le_refl _) g4
        rw [List.length_append, List.length_append]
        have g6 : ([29 + clen xs p (best xs p), best xs p - 1] : List Nat).length = 2 := rfl
        have g7 : p + clen xs p (best xs p) ≤ xs.length := g4
        show (ltP xs p (p - f) f).length + _ ≤ _
        omega
      · exact cpF_len xs k (p + 1) f (by omega) (by omega)
    · show (lits xs f p).length ≤ _
      unfold lits
      omega
theorem copies_len (xs : List Nat) : (copies xs).length ≤ 2 * xs.length := cpF_len xs xs.length 0 0 (Nat.le_refl _) (Nat.zero_le _)
section SQ
variable {G : ab_G} {w : ab_W} {r a cap r2 a2 cap2 : Nat} {xs : List Nat}
theorem rbI_neg {i : Int32} (h : i < 0) : rbI xs i = -1 := if_pos h
theorem l_Sq_copyLength (h : cR w r a cap xs) {p d : Nat} (hp : p ≤ xs.length) (hd : d ≤ 32) : ∀ k n, n + k = 34 → ab_E G mm_Sq_copyLength rr_Sq_copyLength 2 [(0, .ref r), (1, .int (nI p)), (2, .int (nI d)), (3, .int (nI n))] [] w (pP (nI (cl xs p d k n)) w) := by
  have hr := h.obj
  have hby := h.2.2.2.2.1
  have hlt := h.lt
  intro k
  induction k with
  | zero =>
    intro n hn
    refine e_iload_n dd_Sq_copyLength_2 rfl ?_
    refine e_bipush_n 34 dd_Sq_copyLength_3 (by decide) ?_
    refine e_icmp_ge_n (tgt := 43) dd_Sq_copyLength_5 (by decide) (by omega) (by omega) (fun _ => ?_) (fun h9 => absurd h9 (by omega))
    refine e_iload_n dd_Sq_copyLength_43 rfl ?_
    exact e_iret dd_Sq_copyLength_44 rfl (pP_of rfl)
  | succ k ih =>
    intro n hn
    unfold cl
    refine e_iload_n dd_Sq_copyLength_2 rfl ?_
    refine e_bipush_n 34 dd_Sq_copyLength_3 (by decide) ?_
    refine e_icmp_ge_n (tgt := 43) dd_Sq_copyLength_5 (by decide) (by omega) (by omega) (fun h9 => absurd h9 (by omega)) (fun _ => ?_)
    refine e_iload_n dd_Sq_copyLength_8 rfl ?_
    refine e_iload_n dd_Sq_copyLength_9 rfl ?_
    refine e_iadd_n dd_Sq_copyLength_10 ?_
    refine e_aload_n dd_Sq_copyLength_11 rfl ?_
    refine e_get dd_Sq_copyLength_12 kf_Sq_28 hr rfl ?_
    refine e_icmp_ge_n (tgt := 43) dd_Sq_copyLength_15 (by decide) (by omega) (by omega) (fun c15 => ?_) (fun c15 => ?_)
    · refine e_iload_n dd_Sq_copyLength_43 rfl ?_
      exact e_iret dd_Sq_copyLength_44 rfl (pP_of (by rw [if_neg (by omega)]))
    · refine e_aload_n dd_Sq_copyLength_18 rfl ?_
      refine e_iload_n dd_Sq_copyLength_19 rfl ?_
      refine e_iload_n dd_Sq_copyLength_20 rfl ?_
      refine e_iadd_n dd_Sq_copyLength_21 ?_
      refine e_callVp (d1 := rr_Row_at) (As := [.int (nI (p + n))]) (st := []) dd_Sq_copyLength_22 km_Sq_32 hr rfl (by decide) rfl (Nat.le_of_ble_eq_true rfl) (Nat.le_of_ble_eq_true rfl) rfl rfl (c_Row_ati h c15) ?_
      refine e_aload_n dd_Sq_copyLength_25 rfl ?_
      refine e_iload_n dd_Sq_copyLength_26 rfl ?_
      refine e_iload_n dd_Sq_copyLength_27 rfl ?_
      refine e_iadd_n dd_Sq_copyLength_28 ?_
      refine e_iload_n dd_Sq_copyLength_29 rfl ?_
      refine e_isub dd_Sq_copyLength_30 ?_
      refine e_callVp (d1 := rr_Row_at) (As := [.int ((nI (p + n)) - (nI d))]) (st := [.int (nI (xs.getD (p + n) 0))]) dd_Sq_copyLength_31 km_Sq_32 hr rfl (by decide) rfl (Nat.le_of_ble_eq_true rfl) (Nat.le_of_ble_eq_true rfl) rfl rfl (c_Row_at h (nI (p + n) - nI d)) ?_
      have g1 := getD_lt hby c15
      by_cases e1 : d ≤ p + n
      · rw [pk_sub e1, rbI_n (by omega), rb_in (by omega)]
        have g2 := getD_lt hby (j := p + n - d) (by omega)
        refine e_icmp_ne_n (tgt := 43) dd_Sq_copyLength_34 (by decide) (by omega) (by omega) (fun c34 => ?_) (fun c34 => ?_)
        · refine e_iload_n dd_Sq_copyLength_43 rfl ?_
          exact e_iret dd_Sq_copyLength_44 rfl (pP_of (by rw [if_neg (fun e => c34 e.2.2)]))
        · refine e_iinc_n (a := n) (k := 1) (lv1 := [(0, .ref r), (1, .int (nI p)), (2, .int (nI d)), (3, .int (nI (n + 1)))]) dd_Sq_copyLength_37 rfl (by decide) (by decide) rfl ?_
          refine e_goto (tgt := 2) dd_Sq_copyLength_40 (by decide) ?_
          rw [if_pos ⟨c15, e1, c34⟩]
          exact ih (n + 1) (by omega)
      · rw [rbI_neg (pk_sneg (by omega) (by omega))]
        refine e_icmp_ne (tgt := 43) dd_Sq_copyLength_34 (by decide) (fun _ => ?_) (fun h9 => absurd h9 (fun h8 => neg1_ne (by omega) h8.symm))
        refine e_iload_n dd_Sq_copyLength_43 rfl ?_
        exact e_iret dd_Sq_copyLength_44 rfl (pP_of (by rw [if_neg (fun e => e1 e.2.1)]))
theorem c_Sq_copyLength (h : cR w r a cap xs) {p d : Nat} (hp : p ≤ xs.length) (hd : d ≤ 32) : ab_E G mm_Sq_copyLength rr_Sq_copyLength 0 [(0, .ref r), (1, .int (nI p)), (2, .int (nI d))] [] w (pP (nI (clen xs p d)) w) := by
  refine e_iconst_n 0 dd_Sq_copyLength_0 (by decide) ?_
  refine e_istore_n (lv1 := [(0, .ref r), (1, .int (nI p)), (2, .int (nI d)), (3, .int (nI 0))]) dd_Sq_copyLength_1 (by decide) rfl ?_
  exact l_Sq_copyLength h hp hd 34 0 (by decide)
theorem l_Sq_bestDistance (h : cR w r a cap xs) {p : Nat} (hp : p ≤ xs.length) : ∀ k d b l, d + k = 33 → b ≤ 32 → l ≤ 34 → ab_E G mm_Sq_bestDistance rr_Sq_bestDistance 7 [(0, .ref r), (1, .int (nI p)), (2, .int (nI b)), (3, .int (nI l)), (4, .int (nI d))] [] w (pP (nI (bd xs p k d b l)) w) := by
  have hr := h.obj
  have hlt := h.lt
  intro k
  induction k with
  | zero =>
    intro d b l hd hb hl
    refine e_iload dd_Sq_bestDistance_7 rfl ?_
    refine e_bipush_n 32 dd_Sq_bestDistance_9 (by decide) ?_
    refine e_icmp_gt_n (tgt := 47) dd_Sq_bestDistance_11 (by decide) (by omega) (by omega) (fun _ => ?_) (fun h9 => absurd h9 (by omega))
    refine e_iload_n dd_Sq_bestDistance_47 rfl ?_
    exact e_iret dd_Sq_bestDistance_48 rfl (pP_of rfl)
  | succ k ih =>
    intro d b l hd hb hl
    unfold bd
    have g1 := cl_le xs p d 34 0
    refine e_iload dd_Sq_bestDistance_7 rfl ?_
    refine e_bipush_n 32 dd_Sq_bestDistance_9 (by decide) ?_
    refine e_icmp_gt_n (tgt := 47) dd_Sq_bestDistance_11 (by decide) (by omega) (by omega) (fun h9 => absurd h9 (by omega)) (fun _ => ?_)
    refine e_iload dd_Sq_bestDistance_14 rfl ?_
    refine e_iload_n dd_Sq_bestDistance_16 rfl ?_
    refine e_icmp_gt_n (tgt := 47) dd_Sq_bestDistance_17 (by decide) (by omega) (by omega) (fun c17 => ?_) (fun c17 => ?_)
    · refine e_iload_n dd_Sq_bestDistance_47 rfl ?_
      exact e_iret dd_Sq_bestDistance_48 rfl (pP_of (by rw [if_neg (by omega)]))
    · rw [if_pos c17]
      have g2 : clen xs p d ≤ 34 := by have := g1.2.1; unfold clen; omega
      refine e_aload_n dd_Sq_bestDistance_20 rfl ?_
      refine e_iload_n dd_Sq_bestDistance_21 rfl ?_
      refine e_iload dd_Sq_bestDistance_22 rfl ?_
      refine e_callSp (d1 := rr_Sq_copyLength) (As := [.ref r, .int (nI p), .int (nI d)]) (st := []) dd_Sq_bestDistance_24 km_Sq_48 (by decide) rfl (Nat.le_of_ble_eq_true rfl) (Nat.le_of_ble_eq_true rfl) rfl rfl (c_Sq_copyLength h hp (by omega)) ?_
      refine e_istore (lv1 := [(0, .ref r), (1, .int (nI p)), (2, .int (nI b)), (3, .int (nI l)), (4, .int (nI d)), (5, .int (nI (clen xs p d)))]) dd_Sq_bestDistance_27 (by decide) rfl ?_
      refine e_iload dd_Sq_bestDistance_29 rfl ?_
      refine e_iload_n dd_Sq_bestDistance_31 rfl ?_
      refine e_icmp_le_n (tgt := 41) dd_Sq_bestDistance_32 (by decide) (by omega) (by omega) (fun c32 => ?_) (fun c32 => ?_)
      · refine e_iinc_n (a := d) (k := 1) (lv1 := [(0, .ref r), (1, .int (nI p)), (2, .int (nI b)), (3, .int (nI l)), (4, .int (nI (d + 1))), (5, .int (nI (clen xs p d)))]) dd_Sq_bestDistance_41 rfl (by decide) (by decide) rfl ?_
        refine e_goto (tgt := 7) dd_Sq_bestDistance_44 (by decide) ?_
        refine e_rm (lv1 := [(0, .ref r), (1, .int (nI p)), (2, .int (nI b)), (3, .int (nI l)), (4, .int (nI (d + 1)))]) 5 rfl ?_
        rw [if_neg (by omega)]
        exact ih (d + 1) b l (by omega) hb hl
      · refine e_iload dd_Sq_bestDistance_35 rfl ?_
        refine e_istore_n (lv1 := [(0, .ref r), (1, .int (nI p)), (2, .int (nI b)), (3, .int (nI (clen xs p d))), (4, .int (nI d)), (5, .int (nI (clen xs p d)))]) dd_Sq_bestDistance_37 (by decide) rfl ?_
        refine e_iload dd_Sq_bestDistance_38 rfl ?_
        refine e_istore_n (lv1 := [(0, .ref r), (1, .int (nI p)), (2, .int (nI d)), (3, .int (nI (clen xs p d))), (4, .int (nI d)), (5, .int (nI (clen xs p d)))]) dd_Sq_bestDistance_40 (by decide) rfl ?_
        refine e_iinc_n (a := d) (k := 1) (lv1 := [(0, .ref r), (1, .int (nI p)), (2, .int (nI d)), (3, .int (nI (clen xs p d))), (4, .int (nI (d + 1))), (5, .int (nI (clen xs p d)))]) dd_Sq_bestDistance_41 rfl (by decide) (by decide) rfl ?_
        refine e_goto (tgt := 7) dd_Sq_bestDistance_44 (by decide) ?_
        refine e_rm (lv1 := [(0, .ref r), (1, .int (nI p)), (2, .int (nI d)), (3, .int (nI (clen xs p d))), (4, .int (nI (d + 1)))]) 5 rfl ?_
        rw [if_pos c32]
        exact ih (d + 1) d (clen xs p d) (by omega) (by omega) g2
theorem c_Sq_bestDistance (h : cR w r a cap xs) {p : Nat} (hp : p ≤ xs.length) : ab_E G mm_Sq_bestDistance rr_Sq_bestDistance 0 [(0, .ref r), (1, .int (nI p))] [] w (pP (nI (best xs p)) w) := by
  refine e_iconst_n 1 dd_Sq_bestDistance_0 (by decide) ?_
  refine e_istore_n (lv1 := [(0, .ref r), (1, .int (nI p)), (2, .int (nI 1))]) dd_Sq_bestDistance_1 (by decide) rfl ?_
  refine e_iconst_n 0 dd_Sq_bestDistance_2 (by decide) ?_
  refine e_istore_n (lv1 := [(0, .ref r), (1, .int (nI p)), (2, .int (nI 1)), (3, .int (nI 0))]) dd_Sq_bestDistance_3 (by decide) rfl ?_
  refine e_iconst_n 1 dd_Sq_bestDistance_4 (by decide) ?_
  refine e_istore (lv1 := [(0, .ref r), (1, .int (nI p)), (2, .int (nI 1)), (3, .int (nI 0)), (4, .int (nI 1))]) dd_Sq_bestDistance_5 (by decide) rfl ?_
  exact l_Sq_bestDistance h hp 32 1 1 0 (by decide) (by decide) (by decide)
theorem nI_min {x y : Nat} (hx : x < 2 ^ 31) (hy : y < 2 ^ 31) : (if nI y < nI x then nI y else nI x) = nI (min x y) := by
  by_cases h : y < x
  · rw [if_pos (nI_lt h hx)]; congr 1; omega
  · rw [if_neg (nI_nlt (by omega) hy)]; congr 1; omega
theorem l_Sq_appendLiterals (h : cR w r a cap xs) (n1 : r ≠ r2) (n2 : r ≠ a2) (n3 : a ≠ r2) (n4 : a ≠ a2) {b e : Nat} (he : e ≤ xs.length) (tot : List Nat) (htot : tot.length ≤ cap2) : ∀ (k i : Nat) (w1 : ab_W) (acc : List Nat), e ≤ i + 32 * k → i ≤ 200000 → acc ++ ltP xs e k i = tot → rS w w1 r2 a2 → cR w1 r2 a2 cap2 acc → ab_E G mm_Sq_appendLiterals rr_Sq_appendLiterals 3 [(0, .ref r), (1, .int (nI b)), (2, .int (nI e)), (3, .ref r2), (4, .int (nI i))] [] w1 (pV fun w2 => rS w w2 r2 a2 ∧ cR w2 r2 a2 cap2 tot) := by
  have hlt := h.lt
  intro k
  induction k with
  | zero =>
    intro i w1 acc hk hi ht hS h2
    refine e_iload dd_Sq_appendLiterals_3 rfl ?_
    refine e_iload_n dd_Sq_appendLiterals_5 rfl ?_
    refine e_icmp_ge_n (tgt := 48) dd_Sq_appendLiterals_6 (by decide) (by omega) (by omega) (fun _ => ?_) (fun h9 => absurd h9 (by omega))
    exact e_vret dd_Sq_appendLiterals_48 rfl (pV_of ⟨hS, by rw [← ht, ltP, List.append_nil]; exact h2⟩)
  | succ k ih =>
    intro i w1 acc hk hi ht hS h2
    have h1 := h.fr hS n1 n2 n3 n4
    have hr2 := h2.obj
    unfold ltP at ht
    refine e_iload dd_Sq_appendLiterals_3 rfl ?_
    refine e_iload_n dd_Sq_appendLiterals_5 rfl ?_
    refine e_icmp_ge_n (tgt := 48) dd_Sq_appendLiterals_6 (by decide) (by omega) (by omega) (fun c6 => ?_) (fun c6 => ?_)
    · exact e_vret dd_Sq_appendLiterals_48 rfl (pV_of ⟨hS, by rw [← ht, if_neg (by omega), List.append_nil]; exact h2⟩)
    · rw [if_pos c6] at ht
      have e0 : ((xs.drop i).take (min 32 (e - i))).length = min 32 (e - i) := by rw [List.length_take, List.length_drop]; omega
      have e7 := congrArg List.length ht
      rw [List.length_append, List.length_cons, List.length_append, e0] at e7
      refine e_bipush_n 32 dd_Sq_appendLiterals_9 (by decide) ?_
      refine e_iload_n dd_Sq_appendLiterals_11 rfl ?_
      refine e_iload dd_Sq_appendLiterals_12 rfl ?_
      refine e_isub_n dd_Sq_appendLiterals_14 (by omega) ?_
      refine e_mmin dd_Sq_appendLiterals_15 km_Sq_56 ⟨by decide, Nat.le_of_ble_eq_true rfl⟩ ?_
      refine e_top (y := nI (min 32 (e - i))) (nI_min (by decide) (by omega)) ?_
      generalize hme : min 32 (e - i) = m at ht e0 e7 ⊢
      have hm : 1 ≤ m ∧ m ≤ 32 ∧ m ≤ e - i := by omega
      refine e_istore (lv1 := [(0, .ref r), (1, .int (nI b)), (2, .int (nI e)), (3, .ref r2), (4, .int (nI i)), (5, .int (nI m))]) dd_Sq_appendLiterals_18 (by decide) rfl ?_
      refine e_aload_n dd_Sq_appendLiterals_20 rfl ?_
      refine e_iload dd_Sq_appendLiterals_21 rfl ?_
      refine e_iconst_n 1 dd_Sq_appendLiterals_23 (by decide) ?_
      refine e_isub_n dd_Sq_appendLiterals_24 (by omega) ?_
      refine e_callVi (d1 := rr_Row_append) (As := [.int (nI (m - 1))]) (st := []) dd_Sq_appendLiterals_25 km_Sq_40 hr2 rfl (by decide) rfl (Nat.le_of_ble_eq_true rfl) (Nat.le_of_ble_eq_true rfl) rfl rfl (c_Row_app h2 (by omega) (by omega)) (fun w5 h5 => ?_)
      have hr2 := h5.2.obj
      have h6 := h1.fr h5.1 n1 n2 n3 n4
      have e5 : (acc ++ [m - 1]).length = acc.length + 1 := by simp
      refine e_pop dd_Sq_appendLiterals_28 rfl ?_
      refine e_aload_n dd_Sq_appendLiterals_29 rfl ?_
      refine e_aload_n dd_Sq_appendLiterals_30 rfl ?_
      refine e_iload dd_Sq_appendLiterals_31 rfl ?_
      refine e_iload dd_Sq_appendLiterals_33 rfl ?_
      refine e_iload dd_Sq_appendLiterals_35 rfl ?_
      refine e_iadd_n dd_Sq_appendLiterals_37 ?_
      refine e_callVi (d1 := rr_Row_appendPart) (As := [.ref r, .int (nI i), .int (nI (i + m))]) (st := []) dd_Sq_appendLiterals_38 km_Sq_62 hr2 rfl (by decide) rfl (Nat.le_of_ble_eq_true rfl) (Nat.le_of_ble_eq_true rfl) rfl rfl (c_Row_part h5.2 h6 n1.symm n4.symm (by omega) (by omega) (by omega)) (fun w6 h7 => ?_)
      have h8 := h7.2
      rw [show i + m - i = m by omega] at h8
      refine e_pop dd_Sq_appendLiterals_41 rfl ?_
      refine e_iinc_n (a := i) (k := 32) (lv1 := [(0, .ref r), (1, .int (nI b)), (2, .int (nI e)), (3, .ref r2), (4, .int (nI (i + 32))), (5, .int (nI m))]) dd_Sq_appendLiterals_42 rfl (by decide) (by decide) rfl ?_
      refine e_goto (tgt := 3) dd_Sq_appendLiterals_45 (by decide) ?_
      refine e_rm (lv1 := [(0, .ref r), (1, .int (nI b)), (2, .int (nI e)), (3, .ref r2), (4, .int (nI (i + 32)))]) 5 rfl ?_
      exact ih (i + 32) _ _ (by omega) (by omega) (by rw [← ht]; simp) (hS.tr (h5.1.tr h7.1)) h8
theorem c_Sq_appendLiterals {acc : List Nat} (h : cR w r a cap xs) (h2 : cR w r2 a2 cap2 acc) (n1 : r ≠ r2) (n4 : a ≠ a2) {b e : Nat} (hb : b ≤ e) (he : e ≤ xs.length) (hl : (acc ++ lits xs b e).length ≤ cap2) : ab_E G mm_Sq_appendLiterals rr_Sq_appendLiterals 0 [(0, .ref r), (1, .int (nI b)), (2, .int (nI e)), (3, .ref r2)] [] w (pV fun w2 => rS w w2 r2 a2 ∧ cR w2 r2 a2 cap2 (acc ++ lits xs b e)) := by
  have n2 := h.ne_oa h2
  have n3 := (h2.ne_oa h).symm
  have hlt := h.lt
  refine e_iload_n dd_Sq_appendLiterals_0 rfl ?_
  refine e_istore (lv1 := [(0, .ref r), (1, .int (nI b)), (2, .int (nI e)), (3, .ref r2), (4, .int (nI b))]) dd_Sq_appendLiterals_1 (by decide) rfl ?_
  exact l_Sq_appendLiterals h n1 n2 n3 n4 he _ hl (e - b) b w acc (by omega) (by omega) rfl rS.rf h2
theorem l_Sq_copies (h : cR w r a cap xs) (n1 : r ≠ r2) (n2 : r ≠ a2) (n3 : a ≠ r2) (n4 : a ≠ a2) (tot : List Nat) (htot : tot.length ≤ cap2) : ∀ (k p f : Nat) (w1 : ab_W) (acc : List Nat), xs.length ≤ p + k → f ≤ p → p ≤ xs.length → acc ++ cpF xs k p f = tot → rS w w1 r2 a2 → cR w1 r2 a2 cap2 acc → ab_E G mm_Sq_squeezeCopies rr_Sq_squeezeCopies 4 [(0, .ref r), (1, .ref r2), (2, .int (nI (p - f))), (3, .int (nI p))] [] w1 (pV fun w2 => rS w w2 r2 a2 ∧ cR w2 r2 a2 cap2 tot) := by
  have hlt := h.lt
  have fin : ∀ (p f : Nat) (w1 : ab_W) (acc : List Nat), f ≤ p → p ≤ xs.length → acc ++ lits xs f p = tot → rS w w1 r2 a2 → cR w1 r2 a2 cap2 acc → ab_E G mm_Sq_squeezeCopies rr_Sq_squeezeCopies 83 [(0, .ref r), (1, .ref r2), (2, .int (nI (p - f))), (3, .int (nI p))] [] w1 (pV fun w2 => rS w w2 r2 a2 ∧ cR w2 r2 a2 cap2 tot) := by
    intro p f w1 acc hf hp ht hS h2
    have h1 := h.fr hS n1 n2 n3 n4
    refine e_aload_n dd_Sq_squeezeCopies_83 rfl ?_
    refine e_iload_n dd_Sq_squeezeCopies_84 rfl ?_
    refine e_iload_n dd_Sq_squeezeCopies_85 rfl ?_
    refine e_isub_n dd_Sq_squeezeCopies_86 (by omega) ?_
    refine e_top (y := nI f) (by congr 1; omega) ?_
    refine e_iload_n dd_Sq_squeezeCopies_87 rfl ?_
    refine e_aload_n dd_Sq_squeezeCopies_88 rfl ?_
    refine e_callSv (d1 := rr_Sq_appendLiterals) (As := [.ref r, .int (nI f), .int (nI p), .ref r2]) (st := []) dd_Sq_squeezeCopies_89 km_Sq_52 (by decide) rfl (Nat.le_of_ble_eq_true rfl) (Nat.le_of_ble_eq_true rfl) rfl rfl (c_Sq_appendLiterals h1 h2 n1 n4 hf hp (by rw [ht]; exact htot)) (fun w5 h5 => ?_)
    exact e_vret dd_Sq_squeezeCopies_92 rfl (pV_of ⟨hS.tr h5.1, by rw [← ht]; exact h5.2⟩)
  intro k
  induction k with
  | zero =>
    intro p f w1 acc hk hf hp ht hS h2
    have hr := (h.fr hS n1 n2 n3 n4).obj
    refine e_iload_n dd_Sq_squeezeCopies_4 rfl ?_
    refine e_aload_n dd_Sq_squeezeCopies_5 rfl ?_
    refine e_get dd_Sq_squeezeCopies_6 kf_Sq_28 hr rfl ?_
    refine e_icmp_ge_n (tgt := 83) dd_Sq_squeezeCopies_9 (by decide) (by omega) (by omega) (fun _ => ?_) (fun h9 => absurd h9 (by omega))
    exact fin p f w1 acc hf hp ht hS h2
  | succ k ih =>
    intro p f w1 acc hk hf hp ht hS h2
    have h1 := h.fr hS n1 n2 n3 n4
    have hr := h1.obj
    unfold cpF at ht
    refine e_iload_n dd_Sq_squeezeCopies_4 rfl ?_
    refine e_aload_n dd_Sq_squeezeCopies_5 rfl ?_
    refine e_get dd_Sq_squeezeCopies_6 kf_Sq_28 hr rfl ?_
    refine e_icmp_ge_n (tgt := 83) dd_Sq_squeezeCopies_9 (by decide) (by omega) (by omega) (fun c9 => ?_) (fun c9 => ?_)
    · rw [if_neg (by omega)] at ht
      exact fin p f w1 acc hf hp ht hS h2
    · rw [if_pos c9] at ht
      obtain ⟨b1, b2⟩ := best_in xs p
      obtain ⟨g1, g2, g3⟩ := cl_le xs p (best xs p) 34 0
      have g4 := g3 (by omega)
      rw [show cl xs p (best xs p) 34 0 = clen xs p (best xs p) from rfl] at g2 g4
      refine e_aload_n dd_Sq_squeezeCopies_12 rfl ?_
      refine e_iload_n dd_Sq_squeezeCopies_13 rfl ?_
      refine e_callSp (d1 := rr_Sq_bestDistance) (As := [.ref r, .int (nI p)]) (st := []) dd_Sq_squeezeCopies_14 km_Sq_44 (by decide) rfl (Nat.le_of_ble_eq_true rfl) (Nat.le_of_ble_eq_true rfl) rfl rfl (c_Sq_bestDistance h1 hp) ?_
      refine e_istore (lv1 := [(0, .ref r), (1, .ref r2), (2, .int (nI (p - f))), (3, .int (nI p)), (4, .int (nI (best xs p)))]) dd_Sq_squeezeCopies_17 (by decide) rfl ?_
      refine e_aload_n dd_Sq_squeezeCopies_19 rfl ?_
      refine e_iload_n dd_Sq_squeezeCopies_20 rfl ?_
      refine e_iload dd_Sq_squeezeCopies_21 rfl ?_
      refine e_callSp (d1 := rr_Sq_copyLength) (As := [.ref r, .int (nI p), .int (nI (best xs p))]) (st := []) dd_Sq_squeezeCopies_23 km_Sq_48 (by decide) rfl (Nat.le_of_ble_eq_true rfl) (Nat.le_of_ble_eq_true rfl) rfl rfl (c_Sq_copyLength h1 hp b2) ?_
      generalize hn : clen xs p (best xs p) = n at ht g2 g4 ⊢
      generalize hbe : best xs p = b at ht b1 b2 ⊢
      refine e_istore (lv1 := [(0, .ref r), (1, .ref r2), (2, .int (nI (p - f))), (3, .int (nI p)), (4, .int (nI b)), (5, .int (nI n))]) dd_Sq_squeezeCopies_26 (by decide) rfl ?_
      refine e_iload dd_Sq_squeezeCopies_28 rfl ?_
      refine e_iconst_n 3 dd_Sq_squeezeCopies_30 (by decide) ?_
      refine e_icmp_lt_n (tgt := 74) dd_Sq_squeezeCopies_31 (by decide) (by omega) (by omega) (fun c31 => ?_) (fun c31 => ?_)
      · refine e_iinc (v := nI (p + 1 - f)) (lv1 := [(0, .ref r), (1, .ref r2), (2, .int (nI (p + 1 - f))), (3, .int (nI p)), (4, .int (nI b)), (5, .int (nI n))]) dd_Sq_squeezeCopies_74 rfl (by decide) (by rw [show Int32.ofInt 1 = nI 1 by decide, nI_add]; congr 1; omega) rfl ?_
        refine e_iinc_n (a := p) (k := 1) (lv1 := [(0, .ref r), (1, .ref r2), (2, .int (nI (p + 1 - f))), (3, .int (nI (p + 1))), (4, .int (nI b)), (5, .int (nI n))]) dd_Sq_squeezeCopies_77 rfl (by decide) (by decide) rfl ?_
        refine e_goto (tgt := 4) dd_Sq_squeezeCopies_80 (by decide) ?_
        refine e_rm (lv1 := [(0, .ref r), (1, .ref r2), (2, .int (nI (p + 1 - f))), (3, .int (nI (p + 1))), (5, .int (nI n))]) 4 rfl ?_
        refine e_rm (lv1 := [(0, .ref r), (1, .ref r2), (2, .int (nI (p + 1 - f))), (3, .int (nI (p + 1)))]) 5 rfl ?_
        rw [if_neg (by omega)] at ht
        exact ih (p + 1) f w1 acc (by omega) (by omega) (by omega) ht hS h2
      · rw [if_pos c31] at ht
        have e7 := congrArg List.length ht
        rw [List.length_append, List.length_append, List.length_append] at e7
        have e6 : ([29 + n, b - 1] : List Nat).length = 2 := rfl
        refine e_aload_n dd_Sq_squeezeCopies_34 rfl ?_
        refine e_iload_n dd_Sq_squeezeCopies_35 rfl ?_
        refine e_iload_n dd_Sq_squeezeCopies_36 rfl ?_
        refine e_isub_n dd_Sq_squeezeCopies_37 (by omega) ?_
        refine e_top (y := nI f) (by congr 1; omega) ?_
        refine e_iload_n dd_Sq_squeezeCopies_38 rfl ?_
        refine e_aload_n dd_Sq_squeezeCopies_39 rfl ?_
        refine e_callSv (d1 := rr_Sq_appendLiterals) (As := [.ref r, .int (nI f), .int (nI p), .ref r2]) (st := []) dd_Sq_squeezeCopies_40 km_Sq_52 (by decide) rfl (Nat.le_of_ble_eq_true rfl) (Nat.le_of_ble_eq_true rfl) rfl rfl (c_Sq_appendLiterals h1 h2 n1 n4 hf hp (by rw [List.length_append]; omega)) (fun w5 h5 => ?_)
        have hr2 := h5.2.obj
        have e5 : (acc ++ lits xs f p).length = acc.length + (lits xs f p).length := by simp
        generalize hacc : acc ++ lits xs f p = ac2 at h5 hr2 e5
        refine e_iconst_n 0 dd_Sq_squeezeCopies_43 (by decide) ?_
        refine e_istore_n (lv1 := [(0, .ref r), (1, .ref r2), (2, .int (nI 0)), (3, .int (nI p)), (4, .int (nI b)), (5, .int (nI n))]) dd_Sq_squeezeCopies_44 (by decide) rfl ?_
        refine e_aload_n dd_Sq_squeezeCopies_45 rfl ?_
        refine e_bipush_n 32 dd_Sq_squeezeCopies_46 (by decide) ?_
        refine e_iload dd_Sq_squeezeCopies_48 rfl ?_
        refine e_iadd_n dd_Sq_squeezeCopies_50 ?_
        refine e_iconst_n 3 dd_Sq_squeezeCopies_51 (by decide) ?_
        refine e_isub_n dd_Sq_squeezeCopies_52 (by omega) ?_
        refine e_top (y := nI (29 + n)) (by congr 1; omega) ?_
        refine e_callVi (d1 := rr_Row_append) (As := [.int (nI (29 + n))]) (st := []) dd_Sq_squeezeCopies_53 km_Sq_40 hr2 rfl (by decide) rfl (Nat.le_of_ble_eq_true rfl) (Nat.le_of_ble_eq_true rfl) rfl rfl (c_Row_app h5.2 (by omega) (by omega)) (fun w6 h6 => ?_)
        have hr2 := h6.2.obj
        have e4 : (ac2 ++ [29 + n]).length = ac2.length + 1 := by simp
        refine e_pop dd_Sq_squeezeCopies_56 rfl ?_
        refine e_aload_n dd_Sq_squeezeCopies_57 rfl ?_
        refine e_iload dd_Sq_squeezeCopies_58 rfl ?_
        refine e_iconst_n 1 dd_Sq_squeezeCopies_60 (by decide) ?_
        refine e_isub_n dd_Sq_squeezeCopies_61 (by omega) ?_
        refine e_callVi (d1 := rr_Row_append) (As := [.int (nI (b - 1))]) (st := []) dd_Sq_squeezeCopies_62 km_Sq_40 hr2 rfl (by decide) rfl (Nat.le_of_ble_eq_true rfl) (Nat.le_of_ble_eq_true rfl) rfl rfl (c_Row_app h6.2 (by omega) (by omega)) (fun w7 h7 => ?_)
        refine e_pop dd_Sq_squeezeCopies_65 rfl ?_
        refine e_iload_n dd_Sq_squeezeCopies_66 rfl ?_
        refine e_iload dd_Sq_squeezeCopies_67 rfl ?_
        refine e_iadd_n dd_Sq_squeezeCopies_69 ?_
        refine e_istore_n (lv1 := [(0, .ref r), (1, .ref r2), (2, .int (nI 0)), (3, .int (nI (p + n))), (4, .int (nI b)), (5, .int (nI n))]) dd_Sq_squeezeCopies_70 (by decide) rfl ?_
        refine e_goto (tgt := 80) dd_Sq_squeezeCopies_71 (by decide) ?_
        refine e_goto (tgt := 4) dd_Sq_squeezeCopies_80 (by decide) ?_
        refine e_rm (lv1 := [(0, .ref r), (1, .ref r2), (2, .int (nI 0)), (3, .int (nI (p + n))), (5, .int (nI n))]) 4 rfl ?_
        refine e_rm (lv1 := [(0, .ref r), (1, .ref r2), (2, .int (nI 0)), (3, .int (nI (p + n)))]) 5 rfl ?_
        have K := ih (p + n) (p + n) _ _ (by omega) (Nat.le_refl _) g4 (by rw [← ht, ← hacc]; simp) (hS.tr (h5.1.tr (h6.1.tr h7.1))) h7.2
        rw [Nat.sub_self] at K
        exact K
theorem c_Sq_squeezeCopies (h : cR w r a cap xs) (h2 : cR w r2 a2 cap2 []) (n1 : r ≠ r2) (n4 : a ≠ a2) (hl : (copies xs).length ≤ cap2) : ab_E G mm_Sq_squeezeCopies rr_Sq_squeezeCopies 0 [(0, .ref r), (1, .ref r2)] [] w (pV fun w2 => rS w w2 r2 a2 ∧ cR w2 r2 a2 cap2 (copies xs)) := by
  have n2 := h.ne_oa h2
  have n3 := (h2.ne_oa h).symm
  refine e_iconst_n 0 dd_Sq_squeezeCopies_0 (by decide) ?_
  refine e_istore_n (lv1 := [(0, .ref r), (1, .ref r2), (2, .int (nI 0))]) dd_Sq_squeezeCopies_1 (by decide) rfl ?_
  refine e_iconst_n 0 dd_Sq_squeezeCopies_2 (by decide) ?_
  refine e_istore_n (lv1 := [(0, .ref r), (1, .ref r2), (2, .int (nI 0)), (3, .int (nI 0))]) dd_Sq_squeezeCopies_3 (by decide) rfl ?_
  exact l_Sq_copies h n1 n2 n3 n4 (copies xs) hl xs.length 0 0 w [] (by omega) (Nat.le_refl _) (Nat.zero_le _) rfl rS.rf h2
/-- a row squeezed by a method -/
def sqz (m : Nat) (xs : List Nat) : List Nat := if m = 1 then runs xs else if m = 2 then copies xs else xs
theorem sqz_len (m : Nat) (xs : List Nat) : (sqz m xs).length ≤ 2 * xs.length := by
  unfold sqz
  split
  · exact runs_len xs
  · split
    · exact copies_len xs
    · omega
theorem c_Sq_squeeze {ys : List Nat} {m : Nat} (hm : m < 100) (h : cR w r a cap xs) (h2 : cR w r2 a2 cap2 ys) (n1 : r ≠ r2) (n4 : a ≠ a2) (hl : 2 * xs.length ≤ cap2) : ab_E G mm_Sq_squeeze rr_Sq_squeeze 0 [(0, .int (nI m)), (1, .ref r), (2, .ref r2)] [] w (pV fun w2 => rS w w2 r2 a2 ∧ cR w2 r2 a2 cap2 (sqz m xs)) := by
  have n2 := h.ne_oa h2
  have n3 := (h2.ne_oa h).symm
  have hr2 := h2.obj
  have hz := sqz_len m xs
  refine e_aload_n dd_Sq_squeeze_0 rfl ?_
  refine e_iconst_n 0 dd_Sq_squeeze_1 (by decide) ?_
  refine e_callVv (d1 := rr_Row_cutTo) (As := [.int (nI 0)]) (st := []) dd_Sq_squeeze_2 km_Sq_9 hr2 rfl (by decide) rfl (Nat.le_of_ble_eq_true rfl) (Nat.le_of_ble_eq_true rfl) rfl rfl (c_Row_cutTo h2 (k := 0) (by decide)) (fun w1 h3 => ?_)
  have h4 := h3.2
  rw [List.take_zero] at h4
  have hr2 := h4.obj
  have h1 := h.fr h3.1 n1 n2 n3 n4
  refine e_iload_n dd_Sq_squeeze_5 rfl ?_
  refine e_iconst_n 1 dd_Sq_squeeze_6 (by decide) ?_
  refine e_icmp_ne_n (tgt := 18) dd_Sq_squeeze_7 (by decide) (by omega) (by omega) (fun c7 => ?_) (fun c7 => ?_)
  · refine e_iload_n dd_Sq_squeeze_18 rfl ?_
    refine e_iconst_n 2 dd_Sq_squeeze_19 (by decide) ?_
    refine e_icmp_ne_n (tgt := 31) dd_Sq_squeeze_20 (by decide) (by omega) (by omega) (fun c20 => ?_) (fun c20 => ?_)
    · refine e_aload_n dd_Sq_squeeze_31 rfl ?_
      refine e_aload_n dd_Sq_squeeze_32 rfl ?_
      refine e_callVv (d1 := rr_Row_appendAll) (As := [.ref r]) (st := []) dd_Sq_squeeze_33 km_Sq_24 hr2 rfl (by decide) rfl (Nat.le_of_ble_eq_true rfl) (Nat.le_of_ble_eq_true rfl) rfl rfl (c_Row_appendAll h4 h1 n1.symm n4.symm (by simp; omega)) (fun w2 h5 => ?_)
      exact e_vret dd_Sq_squeeze_36 rfl (pV_of ⟨h3.1.tr h5.1, by rw [sqz, if_neg c7, if_neg c20]; exact h5.2⟩)
    · rw [sqz, if_neg c7, if_pos c20] at hz
      refine e_aload_n dd_Sq_squeeze_23 rfl ?_
      refine e_aload_n dd_Sq_squeeze_24 rfl ?_
      refine e_callSv (d1 := rr_Sq_squeezeCopies) (As := [.ref r, .ref r2]) (st := []) dd_Sq_squeeze_25 km_Sq_21 (by decide) rfl (Nat.le_of_ble_eq_true rfl) (Nat.le_of_ble_eq_true rfl) rfl rfl (c_Sq_squeezeCopies h1 h4 n1 n4 (by omega)) (fun w2 h5 => ?_)
      refine e_goto (tgt := 36) dd_Sq_squeeze_28 (by decide) ?_
      exact e_vret dd_Sq_squeeze_36 rfl (pV_of ⟨h3.1.tr h5.1, by rw [sqz, if_neg c7, if_pos c20]; exact h5.2⟩)
  · rw [sqz, if_pos c7] at hz
    refine e_aload_n dd_Sq_squeeze_10 rfl ?_
    refine e_aload_n dd_Sq_squeeze_11 rfl ?_
    refine e_callSv (d1 := rr_Sq_squeezeRuns) (As := [.ref r, .ref r2]) (st := []) dd_Sq_squeeze_12 km_Sq_15 (by decide) rfl (Nat.le_of_ble_eq_true rfl) (Nat.le_of_ble_eq_true rfl) rfl rfl (c_Sq_squeezeRuns h1 h4 n1 n4 (by omega)) (fun w2 h5 => ?_)
    refine e_goto (tgt := 36) dd_Sq_squeeze_15 (by decide) ?_
    exact e_vret dd_Sq_squeeze_36 rfl (pV_of ⟨h3.1.tr h5.1, by rw [sqz, if_pos c7]; exact h5.2⟩)
end SQ
end
section
/-! Unsqueezing. What the bytes p .. e - 1 of the image stand for, whatever its length; none: they are not made of pieces. -/
def uR (im : List Nat) (e : Nat) : Nat → Nat → List Nat → Option (List Nat)
  | 0, _, acc => some acc
  | k + 1, p, acc => if p < e then (if 246 ≤ im.getD p 0 then (if im.getD p 0 = 246 ∨ e ≤ p + 1 then none else uR im e k (p + 2) (acc ++ List.replicate (im.getD p 0 - 246) (im.getD (p + 1) 0))) else uR im e k (p + 1) (acc ++ [im.getD p 0])) else some acc
def cpB (w : Nat) : Nat → List Nat → List Nat
  | 0, acc => acc
  | n + 1, acc => cpB w n (acc ++ [acc.getD (acc.length - (w + 1)) 0])
def uC (im : List Nat) (e : Nat) : Nat → Nat → List Nat → Option (List Nat)
  | 0, _, acc => some acc
  | k + 1, p, acc => if p < e then (if 64 ≤ im.getD p 0 then none else if 32 ≤ im.getD p 0 then (if e ≤ p + 1 then none else if 32 < im.getD (p + 1) 0 + 1 ∨ acc.length < im.getD (p + 1) 0 + 1 then none else uC im e k (p + 2) (cpB (im.getD (p + 1) 0) (im.getD p 0 - 32 + 3) acc)) else (if e ≤ p + (im.getD p 0 + 1) then none else uC im e k (p + (1 + (im.getD p 0 + 1))) (acc ++ (im.drop (p + 1)).take (im.getD p 0 + 1)))) else some acc
def unsq (m : Nat) (im : List Nat) (p e : Nat) : Option (List Nat) := if m = 1 then uR im e (e - p) p [] else if m = 2 then uC im e (e - p) p [] else some ((im.drop p).take (e - p))
def uOK (cap : Nat) (o : Option (List Nat)) : Bool := match o with
  | some ys => decide (ys.length ≤ cap)
  | none => false
theorem uR_mono (im : List Nat) (e : Nat) : ∀ k p acc ys, uR im e k p acc = some ys → acc.length ≤ ys.length
  | 0, p, acc, ys, h => by
    cases h
    exact Nat.le_refl _
  | k + 1, p, acc, ys, h => by
    unfold uR at h
    split at h
    · split at h
      · split at h
        · cases h
        · have := uR_mono im e k _ _ ys h
          rw [List.length_append] at this
          omega
      · have := uR_mono im e k _ _ ys h
        rw [List.length_append] at this
        omega
    · cases h
      exact Nat.le_refl _
theorem cpB_len (w : Nat) : ∀ n acc, (cpB w n acc).length = acc.length + n
  | 0, acc => rfl
  | n + 1, acc => by
    rw [cpB, cpB_len w n, List.length_append]
    simp
    omega
theorem uC_mono (im : List Nat) (e : Nat) : ∀ k p acc ys, uC im e k p acc = some ys → acc.length ≤ ys.length
  | 0, p, acc, ys, h => by
    cases h
    exact Nat.le_refl _
  | k + 1, p, acc, ys, h => by
    unfold uC at h
    split at h
    · split at h
      · cases h
      · split at h
        · split at h
          · cases h
          · split at h
            · cases h
            · have := uC_mono im e k _ _ ys h
              rw [cpB_len] at this
              omega
        · split at h
          · cases h
          · have := uC_mono im e k _ _ ys h
            rw [List.length_append] at this
            omega
    · cases h
      exact Nat.le_refl _
theorem uOK_f {cap n : Nat} {o : Option (List Nat)} (h : ∀ ys, o = some ys → n ≤ ys.length) (hn : cap < n) : uOK cap o = false := by
  cases o with
  | none => rfl
  | some ys =>
    have := h ys rfl
    simp [uOK]
    omega
theorem uOK_t {cap : Nat} {ys : List Nat} (h : ys.length ≤ cap) : uOK cap (some ys) = true := by simp [uOK, h]
def uQ (w : ab_W) (r2 a2 cap2 : Nat) (o : Option (List Nat)) : ab_W → Prop := fun w2 => rS w w2 r2 a2 ∧ ∃ zs, cR w2 r2 a2 cap2 zs ∧ (uOK cap2 o = true → o = some zs)
section UN
variable {G : ab_G} {w : ab_W} {r a cap r2 a2 cap2 : Nat} {im : List Nat}
set_option maxRecDepth 100000 in
set_option maxHeartbeats 4000000 in
theorem l_Un_runs (h : cR w r a cap im) (n1 : r ≠ r2) (n2 : r ≠ a2) (n3 : a ≠ r2) (n4 : a ≠ a2) {b e : Nat} (he : e ≤ im.length) : ∀ (k p : Nat) (w1 : ab_W) (acc : List Nat), e ≤ p + k → p ≤ 200000 → rS w w1 r2 a2 → cR w1 r2 a2 cap2 acc → ab_E G mm_Un_unsqueezeRuns rr_Un_unsqueezeRuns 3 [(0, .ref r), (1, .int (nI b)), (2, .int (nI e)), (3, .ref r2), (4, .int (nI p))] [] w1 (pI (bI (uOK cap2 (uR im e k p acc))) (uQ w r2 a2 cap2 (uR im e k p acc))) := by
  have hlt := h.lt
  have hby := h.2.2.2.2.1
  intro k
  induction k with
  | zero =>
    intro p w1 acc hk hp hS h2
    have hle := h2.2.1
    refine e_iload dd_Un_unsqueezeRuns_3 rfl ?_
    refine e_iload_n dd_Un_unsqueezeRuns_5 rfl ?_
    refine e_icmp_ge_n (tgt := 114) dd_Un_unsqueezeRuns_6 (by decide) (by omega) (by omega) (fun _ => ?_) (fun h9 => absurd h9 (by omega))
    refine e_iconst_n 1 dd_Un_unsqueezeRuns_114 (by decide) ?_
    exact e_zret dd_Un_unsqueezeRuns_115 rfl (by decide) (pI_of (bI_t (uOK_t hle)) ⟨hS, acc, h2, fun _ => rfl⟩)
  | succ k ih =>
    intro p w1 acc hk hp hS h2
    have hle := h2.2.1
    have h1 := h.fr hS n1 n2 n3 n4
    have hr := h1.obj
    have hr2 := h2.obj
    unfold uR
    refine e_iload dd_Un_unsqueezeRuns_3 rfl ?_
    refine e_iload_n dd_Un_unsqueezeRuns_5 rfl ?_
    refine e_icmp_ge_n (tgt := 114) dd_Un_unsqueezeRuns_6 (by decide) (by omega) (by omega) (fun c6 => ?_) (fun c6 => ?_)
    · rw [if_neg (by omega)]
      refine e_iconst_n 1 dd_Un_unsqueezeRuns_114 (by decide) ?_
      exact e_zret dd_Un_unsqueezeRuns_115 rfl (by decide) (pI_of (bI_t (uOK_t hle)) ⟨hS, acc, h2, fun _ => rfl⟩)
    · rw [if_pos c6]
      have hv := getD_lt hby (j := p) (by omega)
      refine e_aload_n dd_Un_unsqueezeRuns_9 rfl ?_
      refine e_iload dd_Un_unsqueezeRuns_10 rfl ?_
      refine e_callVp (d1 := rr_Row_at) (As := [.int (nI p)]) (st := []) dd_Un_unsqueezeRuns_12 km_Un_44 hr rfl (by decide) rfl (Nat.le_of_ble_eq_true rfl) (Nat.le_of_ble_eq_true rfl) rfl rfl (c_Row_ati h1 (by omega)) ?_
      generalize hve : im.getD p 0 = v at hv ⊢
      refine e_istore (lv1 := [(0, .ref r), (1, .int (nI b)), (2, .int (nI e)), (3, .ref r2), (4, .int (nI p)), (5, .int (nI v))]) dd_Un_unsqueezeRuns_15 (by decide) rfl ?_
      refine e_iload dd_Un_unsqueezeRuns_17 rfl ?_
      refine e_sipush_n 246 dd_Un_unsqueezeRuns_19 (by decide) ?_
      refine e_icmp_lt_n (tgt := 29) dd_Un_unsqueezeRuns_22 (by decide) (by omega) (by omega) (fun c22 => ?_) (fun c22 => ?_)
      · rw [if_neg (by omega)]
        refine e_iconst_n 0 dd_Un_unsqueezeRuns_29 (by decide) ?_
        refine e_istore (lv1 := [(0, .ref r), (1, .int (nI b)), (2, .int (nI e)), (3, .ref r2), (4, .int (nI p)), (5, .int (nI v)), (6, .int (nI 0))]) dd_Un_unsqueezeRuns_30 (by decide) rfl ?_
        refine e_iload dd_Un_unsqueezeRuns_32 rfl ?_
        refine e_if_eq_n (tgt := 55) dd_Un_unsqueezeRuns_34 (by decide) (by omega) (fun _ => ?_) (fun h9 => absurd h9 (by decide))
        refine e_iload dd_Un_unsqueezeRuns_55 rfl ?_
        refine e_if_eq_n (tgt := 81) dd_Un_unsqueezeRuns_57 (by decide) (by omega) (fun _ => ?_) (fun h9 => absurd h9 (by decide))
        refine e_aload_n dd_Un_unsqueezeRuns_81 rfl ?_
        refine e_iload dd_Un_unsqueezeRuns_82 rfl ?_
        have h4 := c_Row_append (G := G) h2 hv
        by_cases e6 : acc.length < cap2
        · rw [if_pos e6, decide_eq_true e6] at h4
          refine e_callVi (d1 := rr_Row_append) (As := [.int (nI v)]) (st := []) dd_Un_unsqueezeRuns_84 km_Un_52 hr2 rfl (by decide) rfl (Nat.le_of_ble_eq_true rfl) (Nat.le_of_ble_eq_true rfl) rfl rfl (h4) (fun w5 h5 => ?_)
          refine e_istore (lv1 := [(0, .ref r), (1, .int (nI b)), (2, .int (nI e)), (3, .ref r2), (4, .int (nI p)), (5, .int (nI v)), (6, .int (nI 0)), (7, .int (bI true))]) dd_Un_unsqueezeRuns_87 (by decide) rfl ?_
          refine e_iload dd_Un_unsqueezeRuns_89 rfl ?_
          refine e_if_ne_b (tgt := 96) dd_Un_unsqueezeRuns_91 (by decide) (fun _ => ?_) (fun h9 => absurd h9 (by decide))
          refine e_iload dd_Un_unsqueezeRuns_96 rfl ?_
          refine e_iload dd_Un_unsqueezeRuns_98 rfl ?_
          refine e_if_eq_n (tgt := 107) dd_Un_unsqueezeRuns_100 (by decide) (by omega) (fun _ => ?_) (fun h9 => absurd h9 (by decide))
          refine e_iconst_n 1 dd_Un_unsqueezeRuns_107 (by decide) ?_
          refine e_iadd_n dd_Un_unsqueezeRuns_108 ?_
          refine e_istore (lv1 := [(0, .ref r), (1, .int (nI b)), (2, .int (nI e)), (3, .ref r2), (4, .int (nI (p + 1))), (5, .int (nI v)), (6, .int (nI 0)), (7, .int (bI true))]) dd_Un_unsqueezeRuns_109 (by decide) rfl ?_
          refine e_goto (tgt := 3) dd_Un_unsqueezeRuns_111 (by decide) ?_
          refine e_rm (lv1 := [(0, .ref r), (1, .int (nI b)), (2, .int (nI e)), (3, .ref r2), (4, .int (nI (p + 1))), (6, .int (nI 0)), (7, .int (bI true))]) 5 rfl ?_
          refine e_rm (lv1 := [(0, .ref r), (1, .int (nI b)), (2, .int (nI e)), (3, .ref r2), (4, .int (nI (p + 1))), (7, .int (bI true))]) 6 rfl ?_
          refine e_rm (lv1 := [(0, .ref r), (1, .int (nI b)), (2, .int (nI e)), (3, .ref r2), (4, .int (nI (p + 1)))]) 7 rfl ?_
          exact ih (p + 1) _ (acc ++ [v]) (by omega) (by omega) (hS.tr h5.1) h5.2
        · rw [if_neg e6, decide_eq_false e6] at h4
          refine e_callVi (d1 := rr_Row_append) (As := [.int (nI v)]) (st := []) dd_Un_unsqueezeRuns_84 km_Un_52 hr2 rfl (by decide) rfl (Nat.le_of_ble_eq_true rfl) (Nat.le_of_ble_eq_true rfl) rfl rfl (h4) (fun w5 h5 => ?_)
          refine e_istore (lv1 := [(0, .ref r), (1, .int (nI b)), (2, .int (nI e)), (3, .ref r2), (4, .int (nI p)), (5, .int (nI v)), (6, .int (nI 0)), (7, .int (bI false))]) dd_Un_unsqueezeRuns_87 (by decide) rfl ?_
          refine e_iload dd_Un_unsqueezeRuns_89 rfl ?_
          refine e_if_ne_b (tgt := 96) dd_Un_unsqueezeRuns_91 (by decide) (fun h9 => absurd h9 (by decide)) (fun _ => ?_)
          refine e_iconst_n 0 dd_Un_unsqueezeRuns_94 (by decide) ?_
          have e8 : uOK cap2 (uR im e k (p + 1) (acc ++ [v])) = false := uOK_f (uR_mono im e k _ _) (by simp; omega)
          exact e_zret dd_Un_unsqueezeRuns_95 rfl (by decide) (pI_of (bI_f e8) ⟨hS.tr h5.1, acc, h5.2, fun h9 => absurd h9 (by rw [e8]; decide)⟩)
      · rw [if_pos c22]
        refine e_iconst_n 1 dd_Un_unsqueezeRuns_25 (by decide) ?_
        refine e_goto (tgt := 30) dd_Un_unsqueezeRuns_26 (by decide) ?_
        refine e_istore (lv1 := [(0, .ref r), (1, .int (nI b)), (2, .int (nI e)), (3, .ref r2), (4, .int (nI p)), (5, .int (nI v)), (6, .int (nI 1))]) dd_Un_unsqueezeRuns_30 (by decide) rfl ?_
        refine e_iload dd_Un_unsqueezeRuns_32 rfl ?_
        refine e_if_eq_n (tgt := 55) dd_Un_unsqueezeRuns_34 (by decide) (by omega) (fun h9 => absurd h9 (by decide)) (fun _ => ?_)
        refine e_iload dd_Un_unsqueezeRuns_37 rfl ?_
        refine e_sipush_n 246 dd_Un_unsqueezeRuns_39 (by decide) ?_
        refine e_icmp_eq_n (tgt := 53) dd_Un_unsqueezeRuns_42 (by decide) (by omega) (by omega) (fun c42 => ?_) (fun c42 => ?_)
        · rw [if_pos (Or.inl c42)]
          refine e_iconst_n 0 dd_Un_unsqueezeRuns_53 (by decide) ?_
          exact e_zret dd_Un_unsqueezeRuns_54 rfl (by decide) (pI_of rfl ⟨hS, acc, h2, fun h9 => absurd h9 Bool.false_ne_true⟩)
        · refine e_iload dd_Un_unsqueezeRuns_45 rfl ?_
          refine e_iconst_n 1 dd_Un_unsqueezeRuns_47 (by decide) ?_
          refine e_iadd_n dd_Un_unsqueezeRuns_48 ?_
          refine e_iload_n dd_Un_unsqueezeRuns_49 rfl ?_
          refine e_icmp_lt_n (tgt := 55) dd_Un_unsqueezeRuns_50 (by decide) (by omega) (by omega) (fun c50 => ?_) (fun c50 => ?_)
          · rw [if_neg (by omega)]
            have hv2 := getD_lt hby (j := p + 1) (by omega)
            refine e_iload dd_Un_unsqueezeRuns_55 rfl ?_
            refine e_if_eq_n (tgt := 81) dd_Un_unsqueezeRuns_57 (by decide) (by omega) (fun h9 => absurd h9 (by decide)) (fun _ => ?_)
            refine e_aload_n dd_Un_unsqueezeRuns_60 rfl ?_
            refine e_aload_n dd_Un_unsqueezeRuns_61 rfl ?_
            refine e_iload dd_Un_unsqueezeRuns_62 rfl ?_
            refine e_iconst_n 1 dd_Un_unsqueezeRuns_64 (by decide) ?_
            refine e_iadd_n dd_Un_unsqueezeRuns_65 ?_
            refine e_callVp (d1 := rr_Row_at) (As := [.int (nI (p + 1))]) (st := [.ref r2]) dd_Un_unsqueezeRuns_66 km_Un_44 hr rfl (by decide) rfl (Nat.le_of_ble_eq_true rfl) (Nat.le_of_ble_eq_true rfl) rfl rfl (c_Row_ati h1 (by omega)) ?_
            generalize hue : im.getD (p + 1) 0 = u at hv2 ⊢
            refine e_iload dd_Un_unsqueezeRuns_69 rfl ?_
            refine e_sipush_n 246 dd_Un_unsqueezeRuns_71 (by decide) ?_
            refine e_isub_n dd_Un_unsqueezeRuns_74 (by omega) ?_
            have h4 := c_Row_appendTimes (G := G) h2 hv2 (t := v - 246) (by omega)
            by_cases e6 : acc.length + (v - 246) ≤ cap2
            · rw [if_pos e6, decide_eq_true e6] at h4
              refine e_callVi (d1 := rr_Row_appendTimes) (As := [.int (nI u), .int (nI (v - 246))]) (st := []) dd_Un_unsqueezeRuns_75 km_Un_48 hr2 rfl (by decide) rfl (Nat.le_of_ble_eq_true rfl) (Nat.le_of_ble_eq_true rfl) rfl rfl (h4) (fun w5 h5 => ?_)
              refine e_goto (tgt := 87) dd_Un_unsqueezeRuns_78 (by decide) ?_
              refine e_istore (lv1 := [(0, .ref r), (1, .int (nI b)), (2, .int (nI e)), (3, .ref r2), (4, .int (nI p)), (5, .int (nI v)), (6, .int (nI 1)), (7, .int (bI true))]) dd_Un_unsqueezeRuns_87 (by decide) rfl ?_
              refine e_iload dd_Un_unsqueezeRuns_89 rfl ?_
              refine e_if_ne_b (tgt := 96) dd_Un_unsqueezeRuns_91 (by decide) (fun _ => ?_) (fun h9 => absurd h9 (by decide))
              refine e_iload dd_Un_unsqueezeRuns_96 rfl ?_
              refine e_iload dd_Un_unsqueezeRuns_98 rfl ?_
              refine e_if_eq_n (tgt := 107) dd_Un_unsqueezeRuns_100 (by decide) (by omega) (fun h9 => absurd h9 (by decide)) (fun _ => ?_)
              refine e_iconst_n 2 dd_Un_unsqueezeRuns_103 (by decide) ?_
              refine e_goto (tgt := 108) dd_Un_unsqueezeRuns_104 (by decide) ?_
              refine e_iadd_n dd_Un_unsqueezeRuns_108 ?_
              refine e_istore (lv1 := [(0, .ref r), (1, .int (nI b)), (2, .int (nI e)), (3, .ref r2), (4, .int (nI (p + 2))), (5, .int (nI v)), (6, .int (nI 1)), (7, .int (bI true))]) dd_Un_unsqueezeRuns_109 (by decide) rfl ?_
              refine e_goto (tgt := 3) dd_Un_unsqueezeRuns_111 (by decide) ?_
              refine e_rm (lv1 := [(0, .ref r), (1, .int (nI b)), (2, .int (nI e)), (3, .ref r2), (4, .int (nI (p + 2))), (6, .int (nI 1)), (7, .int (bI true))]) 5 rfl ?_
              refine e_rm (lv1 := [(0, .ref r), (1, .int (nI b)), (2, .int (nI e)), (3, .ref r2), (4, .int (nI (p + 2))), (7, .int (bI true))]) 6 rfl ?_
              refine e_rm (lv1 := [(0, .ref r), (1, .int (nI b)), (2, .int (nI e)), (3, .ref r2), (4, .int (nI (p + 2)))]) 7 rfl ?_
              exact ih (p + 2) _ (acc ++ List.replicate (v - 246) u) (by omega) (by omega) (hS.tr h5.1) h5.2
            · rw [if_neg e6, decide_eq_false e6] at h4
              refine e_callVi (d1 := rr_Row_appendTimes) (As := [.int (nI u), .int (nI (v - 246))]) (st := []) dd_Un_unsqueezeRuns_75 km_Un_48 hr2 rfl (by decide) rfl (Nat.le_of_ble_eq_true rfl) (Nat.le_of_ble_eq_true rfl) rfl rfl (h4) (fun w5 h5 => ?_)
              refine e_goto (tgt := 87) dd_Un_unsqueezeRuns_78 (by decide) ?_
              refine e_istore (lv1 := [(0, .ref r), (1, .int (nI b)), (2, .int (nI e)), (3, .ref r2), (4, .int (nI p)), (5, .int (nI v)), (6, .int (nI 1)), (7, .int (bI false))]) dd_Un_unsqueezeRuns_87 (by decide) rfl ?_
              refine e_iload dd_Un_unsqueezeRuns_89 rfl ?_
              refine e_if_ne_b (tgt := 96) dd_Un_unsqueezeRuns_91 (by decide) (fun h9 => absurd h9 (by decide)) (fun _ => ?_)
              refine e_iconst_n 0 dd_Un_unsqueezeRuns_94 (by decide) ?_
              have e8 : uOK cap2 (uR im e k (p + 2) (acc ++ List.replicate (v - 246) u)) = false := uOK_f (uR_mono im e k _ _) (by simp; omega)
              exact e_zret dd_Un_unsqueezeRuns_95 rfl (by decide) (pI_of (bI_f e8) ⟨hS.tr h5.1, acc, h5.2, fun h9 => absurd h9 (by rw [e8]; decide)⟩)
          · rw [if_pos (Or.inr c50)]
            refine e_iconst_n 0 dd_Un_unsqueezeRuns_53 (by decide) ?_
            exact e_zret dd_Un_unsqueezeRuns_54 rfl (by decide) (pI_of rfl ⟨hS, acc, h2, fun h9 => absurd h9 Bool.false_ne_true⟩)
set_option maxRecDepth 100000 in
set_option maxHeartbeats 4000000 in
theorem c_Un_unsqueezeRuns (h : cR w r a cap im) (h2 : cR w r2 a2 cap2 []) (n1 : r ≠ r2) (n4 : a ≠ a2) {b e : Nat} (he : e ≤ im.length) (hb : b ≤ 100000) : ab_E G mm_Un_unsqueezeRuns rr_Un_unsqueezeRuns 0 [(0, .ref r), (1, .int (nI b)), (2, .int (nI e)), (3, .ref r2)] [] w (pI (bI (uOK cap2 (uR im e (e - b) b []))) (uQ w r2 a2 cap2 (uR im e (e - b) b []))) := by
  have n2 := h.ne_oa h2
  have n3 := (h2.ne_oa h).symm
  refine e_iload_n dd_Un_unsqueezeRuns_0 rfl ?_
  refine e_istore (lv1 := [(0, .ref r), (1, .int (nI b)), (2, .int (nI e)), (3, .ref r2), (4, .int (nI b))]) dd_Un_unsqueezeRuns_1 (by decide) rfl ?_
  exact l_Un_runs h n1 n2 n3 n4 he (e - b) b w [] (by omega) (by omega) rS.rf h2
set_option maxRecDepth 100000 in
set_option maxHeartbeats 4000000 in
theorem l_Un_copyBack {n d : Nat} (hn : n ≤ 1000) (hd : d < 32) {cap : Nat} : ∀ (k i : Nat) (w1 : ab_W) (acc : List Nat), i + k = n → d + 1 ≤ acc.length → rS w w1 r a → cR w1 r a cap acc → ab_E G mm_Un_copyBack rr_Un_copyBack 18 [(0, .ref r), (1, .int (nI n)), (2, .int (nI (d + 1))), (3, .int (nI i))] [] w1 (pI (bI (decide (acc.length + k ≤ cap))) fun w2 => rS w w2 r a ∧ ∃ zs, cR w2 r a cap zs ∧ (acc.length + k ≤ cap → zs = cpB d k acc)) := by
  intro k
  induction k with
  | zero =>
    intro i w1 acc hi ha hS h
    have hle := h.2.1
    refine e_iload_n dd_Un_copyBack_18 rfl ?_
    refine e_iload_n dd_Un_copyBack_19 rfl ?_
    refine e_icmp_ge_n (tgt := 48) dd_Un_copyBack_20 (by decide) (by omega) (by omega) (fun _ => ?_) (fun h9 => absurd h9 (by omega))
    refine e_iconst_n 1 dd_Un_copyBack_48 (by decide) ?_
    exact e_zret dd_Un_copyBack_49 rfl (by decide) (pI_of (bI_t (by simpa using hle)) ⟨hS, acc, h, fun _ => rfl⟩)
  | succ k ih =>
    intro i w1 acc hi ha hS h
    have hlt := h.lt
    have hle := h.2.1
    have hr := h.obj
    have hby := h.2.2.2.2.1
    refine e_iload_n dd_Un_copyBack_18 rfl ?_
    refine e_iload_n dd_Un_copyBack_19 rfl ?_
    refine e_icmp_ge_n (tgt := 48) dd_Un_copyBack_20 (by decide) (by omega) (by omega) (fun h9 => absurd h9 (by omega)) (fun _ => ?_)
    refine e_aload_n dd_Un_copyBack_23 rfl ?_
    refine e_aload_n dd_Un_copyBack_24 rfl ?_
    refine e_aload_n dd_Un_copyBack_25 rfl ?_
    refine e_get dd_Un_copyBack_26 kf_Un_40 hr rfl ?_
    refine e_iload_n dd_Un_copyBack_29 rfl ?_
    refine e_isub_n dd_Un_copyBack_30 (by omega) ?_
    refine e_callVp (d1 := rr_Row_at) (As := [.int (nI (acc.length - (d + 1)))]) (st := [.ref r]) dd_Un_copyBack_31 km_Un_44 hr rfl (by decide) rfl (Nat.le_of_ble_eq_true rfl) (Nat.le_of_ble_eq_true rfl) rfl rfl (c_Row_ati h (by omega)) ?_
    have hv := getD_lt hby (j := acc.length - (d + 1)) (by omega)
    unfold cpB
    generalize acc.getD (acc.length - (d + 1)) 0 = v at hv ⊢
    have h4 := c_Row_append (G := G) h hv
    by_cases e6 : acc.length < cap
    · rw [if_pos e6, decide_eq_true e6] at h4
      refine e_callVi (d1 := rr_Row_append) (As := [.int (nI v)]) (st := []) dd_Un_copyBack_34 km_Un_52 hr rfl (by decide) rfl (Nat.le_of_ble_eq_true rfl) (Nat.le_of_ble_eq_true rfl) rfl rfl (h4) (fun w5 h5 => ?_)
      refine e_if_ne_b (tgt := 42) dd_Un_copyBack_37 (by decide) (fun _ => ?_) (fun h9 => absurd h9 (by decide))
      refine e_iinc_n (a := i) (k := 1) (lv1 := [(0, .ref r), (1, .int (nI n)), (2, .int (nI (d + 1))), (3, .int (nI (i + 1)))]) dd_Un_copyBack_42 rfl (by decide) (by decide) rfl ?_
      refine e_goto (tgt := 18) dd_Un_copyBack_45 (by decide) ?_
      have e7 : (acc ++ [v]).length = acc.length + 1 := by simp
      have K := ih (i + 1) _ (acc ++ [v]) (by omega) (by omega) (hS.tr h5.1) h5.2
      rw [e7, show acc.length + 1 + k = acc.length + (k + 1) by omega] at K
      exact K
    · rw [if_neg e6, decide_eq_false e6] at h4
      refine e_callVi (d1 := rr_Row_append) (As := [.int (nI v)]) (st := []) dd_Un_copyBack_34 km_Un_52 hr rfl (by decide) rfl (Nat.le_of_ble_eq_true rfl) (Nat.le_of_ble_eq_true rfl) rfl rfl (h4) (fun w5 h5 => ?_)
      refine e_if_ne_b (tgt := 42) dd_Un_copyBack_37 (by decide) (fun h9 => absurd h9 (by decide)) (fun _ => ?_)
      refine e_iconst_n 0 dd_Un_copyBack_40 (by decide) ?_
      exact e_zret dd_Un_copyBack_41 rfl (by decide) (pI_of (bI_f (by simp; omega)) ⟨hS.tr h5.1, acc, h5.2, fun h9 => absurd h9 (by omega)⟩)
set_option maxRecDepth 100000 in
set_option maxHeartbeats 4000000 in
theorem c_Un_copyBack {acc : List Nat} (h : cR w r a cap acc) {n d : Nat} (hn : n ≤ 1000) (hd : d < 1000) : ab_E G mm_Un_copyBack rr_Un_copyBack 0 [(0, .ref r), (1, .int (nI n)), (2, .int (nI (d + 1)))] [] w (pI (bI (decide (¬ (32 < d + 1 ∨ acc.length < d + 1) ∧ acc.length + n ≤ cap))) fun w2 => rS w w2 r a ∧ ∃ zs, cR w2 r a cap zs ∧ (¬ (32 < d + 1 ∨ acc.length < d + 1) ∧ acc.length + n ≤ cap → zs = cpB d n acc)) := by
  have hlt := h.lt
  have hr := h.obj
  refine e_iload_n dd_Un_copyBack_0 rfl ?_
  refine e_bipush_n 32 dd_Un_copyBack_1 (by decide) ?_
  refine e_icmp_gt_n (tgt := 14) dd_Un_copyBack_3 (by decide) (by omega) (by omega) (fun c3 => ?_) (fun c3 => ?_)
  · refine e_iconst_n 0 dd_Un_copyBack_14 (by decide) ?_
    exact e_zret dd_Un_copyBack_15 rfl (by decide) (pI_of (bI_f (decide_eq_false (by omega))) ⟨rS.rf, acc, h, fun h9 => absurd h9 (by omega)⟩)
  · refine e_iload_n dd_Un_copyBack_6 rfl ?_
    refine e_aload_n dd_Un_copyBack_7 rfl ?_
    refine e_get dd_Un_copyBack_8 kf_Un_40 hr rfl ?_
    refine e_icmp_le_n (tgt := 16) dd_Un_copyBack_11 (by decide) (by omega) (by omega) (fun c11 => ?_) (fun c11 => ?_)
    · refine e_iconst_n 0 dd_Un_copyBack_16 (by decide) ?_
      refine e_istore_n (lv1 := [(0, .ref r), (1, .int (nI n)), (2, .int (nI (d + 1))), (3, .int (nI 0))]) dd_Un_copyBack_17 (by decide) rfl ?_
      have K := l_Un_copyBack (G := G) (w := w) (n := n) (d := d) hn (by omega) n 0 w acc (by omega) (by omega) rS.rf h
      have e9 : decide (¬ (32 < d + 1 ∨ acc.length < d + 1) ∧ acc.length + n ≤ cap) = decide (acc.length + n ≤ cap) := by
        apply decide_eq_decide.mpr
        omega
      rw [e9]
      exact K.mono (fun v w2 h9 => ⟨h9.1, h9.2.1, by
        obtain ⟨zs, g1, g2⟩ := h9.2.2
        exact ⟨zs, g1, fun g3 => g2 g3.2⟩⟩)
    · refine e_iconst_n 0 dd_Un_copyBack_14 (by decide) ?_
      exact e_zret dd_Un_copyBack_15 rfl (by decide) (pI_of (bI_f (decide_eq_false (by omega))) ⟨rS.rf, acc, h, fun h9 => absurd h9 (by omega)⟩)
end UN
end
section
section UN
variable {G : ab_G} {w : ab_W} {r a cap r2 a2 cap2 : Nat} {im : List Nat}
set_option maxRecDepth 100000 in
set_option maxHeartbeats 4000000 in
theorem l_Un_copies (h : cR w r a cap im) (n1 : r ≠ r2) (n2 : r ≠ a2) (n3 : a ≠ r2) (n4 : a ≠ a2) {b e : Nat} (he : e ≤ im.length) : ∀ (k p : Nat) (w1 : ab_W) (acc : List Nat), e ≤ p + k → p ≤ 200000 → rS w w1 r2 a2 → cR w1 r2 a2 cap2 acc → ab_E G mm_Un_unsqueezeCopies rr_Un_unsqueezeCopies 3 [(0, .ref r), (1, .int (nI b)), (2, .int (nI e)), (3, .ref r2), (4, .int (nI p))] [] w1 (pI (bI (uOK cap2 (uC im e k p acc))) (uQ w r2 a2 cap2 (uC im e k p acc))) := by
  have hlt := h.lt
  have hby := h.2.2.2.2.1
  intro k
  induction k with
  | zero =>
    intro p w1 acc hk hp hS h2
    have hle := h2.2.1
    refine e_iload dd_Un_unsqueezeCopies_3 rfl ?_
    refine e_iload_n dd_Un_unsqueezeCopies_5 rfl ?_
    refine e_icmp_ge_n (tgt := 137) dd_Un_unsqueezeCopies_6 (by decide) (by omega) (by omega) (fun _ => ?_) (fun h9 => absurd h9 (by omega))
    refine e_iconst_n 1 dd_Un_unsqueezeCopies_137 (by decide) ?_
    exact e_zret dd_Un_unsqueezeCopies_138 rfl (by decide) (pI_of (bI_t (uOK_t hle)) ⟨hS, acc, h2, fun _ => rfl⟩)
  | succ k ih =>
    intro p w1 acc hk hp hS h2
    have hle := h2.2.1
    have hlt2 := h2.lt
    have h1 := h.fr hS n1 n2 n3 n4
    have hr := h1.obj
    have hr2 := h2.obj
    unfold uC
    refine e_iload dd_Un_unsqueezeCopies_3 rfl ?_
    refine e_iload_n dd_Un_unsqueezeCopies_5 rfl ?_
    refine e_icmp_ge_n (tgt := 137) dd_Un_unsqueezeCopies_6 (by decide) (by omega) (by omega) (fun c6 => ?_) (fun c6 => ?_)
    · rw [if_neg (by omega)]
      refine e_iconst_n 1 dd_Un_unsqueezeCopies_137 (by decide) ?_
      exact e_zret dd_Un_unsqueezeCopies_138 rfl (by decide) (pI_of (bI_t (uOK_t hle)) ⟨hS, acc, h2, fun _ => rfl⟩)
    · rw [if_pos c6]
      have hv := getD_lt hby (j := p) (by omega)
      refine e_aload_n dd_Un_unsqueezeCopies_9 rfl ?_
      refine e_iload dd_Un_unsqueezeCopies_10 rfl ?_
      refine e_callVp (d1 := rr_Row_at) (As := [.int (nI p)]) (st := []) dd_Un_unsqueezeCopies_12 km_Un_44 hr rfl (by decide) rfl (Nat.le_of_ble_eq_true rfl) (Nat.le_of_ble_eq_true rfl) rfl rfl (c_Row_ati h1 (by omega)) ?_
      generalize hve : im.getD p 0 = v at hv ⊢
      refine e_istore (lv1 := [(0, .ref r), (1, .int (nI b)), (2, .int (nI e)), (3, .ref r2), (4, .int (nI p)), (5, .int (nI v))]) dd_Un_unsqueezeCopies_15 (by decide) rfl ?_
      refine e_iload dd_Un_unsqueezeCopies_17 rfl ?_
      refine e_if_lt_n (tgt := 29) dd_Un_unsqueezeCopies_19 (by decide) (by omega) ?_
      refine e_iload dd_Un_unsqueezeCopies_22 rfl ?_
      refine e_bipush_n 64 dd_Un_unsqueezeCopies_24 (by decide) ?_
      refine e_icmp_lt_n (tgt := 31) dd_Un_unsqueezeCopies_26 (by decide) (by omega) (by omega) (fun c26 => ?_) (fun c26 => ?_)
      · rw [if_neg (by omega)]
        refine e_iload dd_Un_unsqueezeCopies_31 rfl ?_
        refine e_bipush_n 32 dd_Un_unsqueezeCopies_33 (by decide) ?_
        refine e_icmp_lt_n (tgt := 42) dd_Un_unsqueezeCopies_35 (by decide) (by omega) (by omega) (fun c35 => ?_) (fun c35 => ?_)
        · rw [if_neg (by omega)]
          refine e_iconst_n 0 dd_Un_unsqueezeCopies_42 (by decide) ?_
          refine e_istore (lv1 := [(0, .ref r), (1, .int (nI b)), (2, .int (nI e)), (3, .ref r2), (4, .int (nI p)), (5, .int (nI v)), (6, .int (nI 0))]) dd_Un_unsqueezeCopies_43 (by decide) rfl ?_
          refine e_iload dd_Un_unsqueezeCopies_45 rfl ?_
          refine e_if_eq_n (tgt := 54) dd_Un_unsqueezeCopies_47 (by decide) (by omega) (fun _ => ?_) (fun h9 => absurd h9 (by decide))
          refine e_iload dd_Un_unsqueezeCopies_54 rfl ?_
          refine e_iconst_n 1 dd_Un_unsqueezeCopies_56 (by decide) ?_
          refine e_iadd_n dd_Un_unsqueezeCopies_57 ?_
          refine e_istore (lv1 := [(0, .ref r), (1, .int (nI b)), (2, .int (nI e)), (3, .ref r2), (4, .int (nI p)), (5, .int (nI v)), (6, .int (nI 0)), (7, .int (nI (v + 1)))]) dd_Un_unsqueezeCopies_58 (by decide) rfl ?_
          refine e_iload dd_Un_unsqueezeCopies_60 rfl ?_
          refine e_iload dd_Un_unsqueezeCopies_62 rfl ?_
          refine e_iadd_n dd_Un_unsqueezeCopies_64 ?_
          refine e_iload_n dd_Un_unsqueezeCopies_65 rfl ?_
          refine e_icmp_lt_n (tgt := 71) dd_Un_unsqueezeCopies_66 (by decide) (by omega) (by omega) (fun c66 => ?_) (fun c66 => ?_)
          · rw [if_neg (by omega)]
            refine e_iload dd_Un_unsqueezeCopies_71 rfl ?_
            refine e_if_eq_n (tgt := 100) dd_Un_unsqueezeCopies_73 (by decide) (by omega) (fun _ => ?_) (fun h9 => absurd h9 (by decide))
            refine e_aload_n dd_Un_unsqueezeCopies_100 rfl ?_
            refine e_aload_n dd_Un_unsqueezeCopies_101 rfl ?_
            refine e_iload dd_Un_unsqueezeCopies_102 rfl ?_
            refine e_iconst_n 1 dd_Un_unsqueezeCopies_104 (by decide) ?_
            refine e_iadd_n dd_Un_unsqueezeCopies_105 ?_
            refine e_iload dd_Un_unsqueezeCopies_106 rfl ?_
            refine e_iconst_n 1 dd_Un_unsqueezeCopies_108 (by decide) ?_
            refine e_iadd_n dd_Un_unsqueezeCopies_109 ?_
            refine e_iload dd_Un_unsqueezeCopies_110 rfl ?_
            refine e_iadd_n dd_Un_unsqueezeCopies_112 ?_
            have h4 := c_Row_appendPart (G := G) h2 h1 n1.symm n4.symm (b := p + 1) (e := p + 1 + (v + 1)) (by omega) (by omega)
            have e5 : p + 1 + (v + 1) - (p + 1) = v + 1 := by omega
            by_cases e6 : acc.length + (v + 1) ≤ cap2
            · have e7 : p + 1 ≤ p + 1 + (v + 1) ∧ p + 1 + (v + 1) ≤ im.length ∧ p + 1 + (v + 1) - (p + 1) ≤ cap2 - acc.length := by omega
              rw [if_pos e7, decide_eq_true e7, e5] at h4
              refine e_callVi (d1 := rr_Row_appendPart) (As := [.ref r, .int (nI (p + 1)), .int (nI (p + 1 + (v + 1)))]) (st := []) dd_Un_unsqueezeCopies_113 km_Un_36 hr2 rfl (by decide) rfl (Nat.le_of_ble_eq_true rfl) (Nat.le_of_ble_eq_true rfl) rfl rfl (h4) (fun w5 h5 => ?_)
              refine e_istore (lv1 := [(0, .ref r), (1, .int (nI b)), (2, .int (nI e)), (3, .ref r2), (4, .int (nI p)), (5, .int (nI v)), (6, .int (nI 0)), (7, .int (nI (v + 1))), (8, .int (bI true))]) dd_Un_unsqueezeCopies_116 (by decide) rfl ?_
              refine e_iload dd_Un_unsqueezeCopies_118 rfl ?_
              refine e_if_ne_b (tgt := 125) dd_Un_unsqueezeCopies_120 (by decide) (fun _ => ?_) (fun h9 => absurd h9 (by decide))
              refine e_iload dd_Un_unsqueezeCopies_125 rfl ?_
              refine e_iconst_n 1 dd_Un_unsqueezeCopies_127 (by decide) ?_
              refine e_iload dd_Un_unsqueezeCopies_128 rfl ?_
              refine e_iadd_n dd_Un_unsqueezeCopies_130 ?_
              refine e_iadd_n dd_Un_unsqueezeCopies_131 ?_
              refine e_istore (lv1 := [(0, .ref r), (1, .int (nI b)), (2, .int (nI e)), (3, .ref r2), (4, .int (nI (p + (1 + (v + 1))))), (5, .int (nI v)), (6, .int (nI 0)), (7, .int (nI (v + 1))), (8, .int (bI true))]) dd_Un_unsqueezeCopies_132 (by decide) rfl ?_
              refine e_goto (tgt := 3) dd_Un_unsqueezeCopies_134 (by decide) ?_
              refine e_rm (lv1 := [(0, .ref r), (1, .int (nI b)), (2, .int (nI e)), (3, .ref r2), (4, .int (nI (p + (1 + (v + 1))))), (6, .int (nI 0)), (7, .int (nI (v + 1))), (8, .int (bI true))]) 5 rfl ?_
              refine e_rm (lv1 := [(0, .ref r), (1, .int (nI b)), (2, .int (nI e)), (3, .ref r2), (4, .int (nI (p + (1 + (v + 1))))), (7, .int (nI (v + 1))), (8, .int (bI true))]) 6 rfl ?_
              refine e_rm (lv1 := [(0, .ref r), (1, .int (nI b)), (2, .int (nI e)), (3, .ref r2), (4, .int (nI (p + (1 + (v + 1))))), (8, .int (bI true))]) 7 rfl ?_
              refine e_rm (lv1 := [(0, .ref r), (1, .int (nI b)), (2, .int (nI e)), (3, .ref r2), (4, .int (nI (p + (1 + (v + 1)))))]) 8 rfl ?_
              exact ih (p + (1 + (v + 1))) _ (acc ++ (im.drop (p + 1)).take (v + 1)) (by omega) (by omega) (hS.tr h5.1) h5.2
            · have e7 : ¬ (p + 1 ≤ p + 1 + (v + 1) ∧ p + 1 + (v + 1) ≤ im.length ∧ p + 1 + (v + 1) - (p + 1) ≤ cap2 - acc.length) := by omega
              rw [if_neg e7, decide_eq_false e7] at h4
              refine e_callVi (d1 := rr_Row_appendPart) (As := [.ref r, .int (nI (p + 1)), .int (nI (p + 1 + (v + 1)))]) (st := []) dd_Un_unsqueezeCopies_113 km_Un_36 hr2 rfl (by decide) rfl (Nat.le_of_ble_eq_true rfl) (Nat.le_of_ble_eq_true rfl) rfl rfl (h4) (fun w5 h5 => ?_)
              refine e_istore (lv1 := [(0, .ref r), (1, .int (nI b)), (2, .int (nI e)), (3, .ref r2), (4, .int (nI p)), (5, .int (nI v)), (6, .int (nI 0)), (7, .int (nI (v + 1))), (8, .int (bI false))]) dd_Un_unsqueezeCopies_116 (by decide) rfl ?_
              refine e_iload dd_Un_unsqueezeCopies_118 rfl ?_
              refine e_if_ne_b (tgt := 125) dd_Un_unsqueezeCopies_120 (by decide) (fun h9 => absurd h9 (by decide)) (fun _ => ?_)
              refine e_iconst_n 0 dd_Un_unsqueezeCopies_123 (by decide) ?_
              have e8 : uOK cap2 (uC im e k (p + (1 + (v + 1))) (acc ++ (im.drop (p + 1)).take (v + 1))) = false := uOK_f (uC_mono im e k _ _) (by rw [List.length_append, List.length_take, List.length_drop]; omega)
              exact e_zret dd_Un_unsqueezeCopies_124 rfl (by decide) (pI_of (bI_f e8) ⟨hS.tr h5.1, acc, h5.2, fun h9 => absurd h9 (by rw [e8]; decide)⟩)
          · rw [if_pos (by omega)]
            refine e_iconst_n 0 dd_Un_unsqueezeCopies_69 (by decide) ?_
            exact e_zret dd_Un_unsqueezeCopies_70 rfl (by decide) (pI_of rfl ⟨hS, acc, h2, fun h9 => absurd h9 Bool.false_ne_true⟩)
        · rw [if_pos c35]
          refine e_iconst_n 1 dd_Un_unsqueezeCopies_38 (by decide) ?_
          refine e_goto (tgt := 43) dd_Un_unsqueezeCopies_39 (by decide) ?_
          refine e_istore (lv1 := [(0, .ref r), (1, .int (nI b)), (2, .int (nI e)), (3, .ref r2), (4, .int (nI p)), (5, .int (nI v)), (6, .int (nI 1))]) dd_Un_unsqueezeCopies_43 (by decide) rfl ?_
          refine e_iload dd_Un_unsqueezeCopies_45 rfl ?_
          refine e_if_eq_n (tgt := 54) dd_Un_unsqueezeCopies_47 (by decide) (by omega) (fun h9 => absurd h9 (by decide)) (fun _ => ?_)
          refine e_iconst_n 1 dd_Un_unsqueezeCopies_50 (by decide) ?_
          refine e_goto (tgt := 58) dd_Un_unsqueezeCopies_51 (by decide) ?_
          refine e_istore (lv1 := [(0, .ref r), (1, .int (nI b)), (2, .int (nI e)), (3, .ref r2), (4, .int (nI p)), (5, .int (nI v)), (6, .int (nI 1)), (7, .int (nI 1))]) dd_Un_unsqueezeCopies_58 (by decide) rfl ?_
          refine e_iload dd_Un_unsqueezeCopies_60 rfl ?_
          refine e_iload dd_Un_unsqueezeCopies_62 rfl ?_
          refine e_iadd_n dd_Un_unsqueezeCopies_64 ?_
          refine e_iload_n dd_Un_unsqueezeCopies_65 rfl ?_
          refine e_icmp_lt_n (tgt := 71) dd_Un_unsqueezeCopies_66 (by decide) (by omega) (by omega) (fun c66 => ?_) (fun c66 => ?_)
          · rw [if_neg (by omega)]
            have hv2 := getD_lt hby (j := p + 1) (by omega)
            refine e_iload dd_Un_unsqueezeCopies_71 rfl ?_
            refine e_if_eq_n (tgt := 100) dd_Un_unsqueezeCopies_73 (by decide) (by omega) (fun h9 => absurd h9 (by decide)) (fun _ => ?_)
            refine e_aload_n dd_Un_unsqueezeCopies_76 rfl ?_
            refine e_iload dd_Un_unsqueezeCopies_77 rfl ?_
            refine e_bipush_n 32 dd_Un_unsqueezeCopies_79 (by decide) ?_
            refine e_isub_n dd_Un_unsqueezeCopies_81 (by omega) ?_
            refine e_iconst_n 3 dd_Un_unsqueezeCopies_82 (by decide) ?_
            refine e_iadd_n dd_Un_unsqueezeCopies_83 ?_
            refine e_aload_n dd_Un_unsqueezeCopies_84 rfl ?_
            refine e_iload dd_Un_unsqueezeCopies_85 rfl ?_
            refine e_iconst_n 1 dd_Un_unsqueezeCopies_87 (by decide) ?_
            refine e_iadd_n dd_Un_unsqueezeCopies_88 ?_
            refine e_callVp (d1 := rr_Row_at) (As := [.int (nI (p + 1))]) (st := [.int (nI ((v - 32) + 3)), .ref r2]) dd_Un_unsqueezeCopies_89 km_Un_44 hr rfl (by decide) rfl (Nat.le_of_ble_eq_true rfl) (Nat.le_of_ble_eq_true rfl) rfl rfl (c_Row_ati h1 (by omega)) ?_
            generalize hue : im.getD (p + 1) 0 = u at hv2 ⊢
            refine e_iconst_n 1 dd_Un_unsqueezeCopies_92 (by decide) ?_
            refine e_iadd_n dd_Un_unsqueezeCopies_93 ?_
            have h4 := c_Un_copyBack (G := G) h2 (n := v - 32 + 3) (d := u) (by omega) (by omega)
            by_cases e6 : ¬ (32 < u + 1 ∨ acc.length < u + 1) ∧ acc.length + (v - 32 + 3) ≤ cap2
            · rw [decide_eq_true e6] at h4
              refine e_callSi (d1 := rr_Un_copyBack) (As := [.ref r2, .int (nI ((v - 32) + 3)), .int (nI (u + 1))]) (st := []) dd_Un_unsqueezeCopies_94 km_Un_56 (by decide) rfl (Nat.le_of_ble_eq_true rfl) (Nat.le_of_ble_eq_true rfl) rfl rfl (h4) (fun w5 h5 => ?_)
              obtain ⟨h51, zs, h52, h53⟩ := h5
              have e7 := h53 e6
              subst e7
              rw [if_neg e6.1]
              refine e_goto (tgt := 116) dd_Un_unsqueezeCopies_97 (by decide) ?_
              refine e_istore (lv1 := [(0, .ref r), (1, .int (nI b)), (2, .int (nI e)), (3, .ref r2), (4, .int (nI p)), (5, .int (nI v)), (6, .int (nI 1)), (7, .int (nI 1)), (8, .int (bI true))]) dd_Un_unsqueezeCopies_116 (by decide) rfl ?_
              refine e_iload dd_Un_unsqueezeCopies_118 rfl ?_
              refine e_if_ne_b (tgt := 125) dd_Un_unsqueezeCopies_120 (by decide) (fun _ => ?_) (fun h9 => absurd h9 (by decide))
              refine e_iload dd_Un_unsqueezeCopies_125 rfl ?_
              refine e_iconst_n 1 dd_Un_unsqueezeCopies_127 (by decide) ?_
              refine e_iload dd_Un_unsqueezeCopies_128 rfl ?_
              refine e_iadd_n dd_Un_unsqueezeCopies_130 ?_
              refine e_iadd_n dd_Un_unsqueezeCopies_131 ?_
              refine e_istore (lv1 := [(0, .ref r), (1, .int (nI b)), (2, .int (nI e)), (3, .ref r2), (4, .int (nI (p + (1 + 1)))), (5, .int (nI v)), (6, .int (nI 1)), (7, .int (nI 1)), (8, .int (bI true))]) dd_Un_unsqueezeCopies_132 (by decide) rfl ?_
              refine e_goto (tgt := 3) dd_Un_unsqueezeCopies_134 (by decide) ?_
              refine e_rm (lv1 := [(0, .ref r), (1, .int (nI b)), (2, .int (nI e)), (3, .ref r2), (4, .int (nI (p + (1 + 1)))), (6, .int (nI 1)), (7, .int (nI 1)), (8, .int (bI true))]) 5 rfl ?_
              refine e_rm (lv1 := [(0, .ref r), (1, .int (nI b)), (2, .int (nI e)), (3, .ref r2), (4, .int (nI (p + (1 + 1)))), (7, .int (nI 1)), (8, .int (bI true))]) 6 rfl ?_
              refine e_rm (lv1 := [(0, .ref r), (1, .int (nI b)), (2, .int (nI e)), (3, .ref r2), (4, .int (nI (p + (1 + 1)))), (8, .int (bI true))]) 7 rfl ?_
              refine e_rm (lv1 := [(0, .ref r), (1, .int (nI b)), (2, .int (nI e)), (3, .ref r2), (4, .int (nI (p + (1 + 1))))]) 8 rfl ?_
              exact ih (p + 2) _ (cpB u (v - 32 + 3) acc) (by omega) (by omega) (hS.tr h51) h52
            · rw [decide_eq_false e6] at h4
              refine e_callSi (d1 := rr_Un_copyBack) (As := [.ref r2, .int (nI ((v - 32) + 3)), .int (nI (u + 1))]) (st := []) dd_Un_unsqueezeCopies_94 km_Un_56 (by decide) rfl (Nat.le_of_ble_eq_true rfl) (Nat.le_of_ble_eq_true rfl) rfl rfl (h4) (fun w5 h5 => ?_)
              obtain ⟨h51, zs, h52, h53⟩ := h5
              refine e_goto (tgt := 116) dd_Un_unsqueezeCopies_97 (by decide) ?_
              refine e_istore (lv1 := [(0, .ref r), (1, .int (nI b)), (2, .int (nI e)), (3, .ref r2), (4, .int (nI p)), (5, .int (nI v)), (6, .int (nI 1)), (7, .int (nI 1)), (8, .int (bI false))]) dd_Un_unsqueezeCopies_116 (by decide) rfl ?_
              refine e_iload dd_Un_unsqueezeCopies_118 rfl ?_
              refine e_if_ne_b (tgt := 125) dd_Un_unsqueezeCopies_120 (by decide) (fun h9 => absurd h9 (by decide)) (fun _ => ?_)
              refine e_iconst_n 0 dd_Un_unsqueezeCopies_123 (by decide) ?_
              by_cases e9 : 32 < u + 1 ∨ acc.length < u + 1
              · rw [if_pos e9]
                exact e_zret dd_Un_unsqueezeCopies_124 rfl (by decide) (pI_of rfl ⟨hS.tr h51, zs, h52, fun h9 => absurd h9 Bool.false_ne_true⟩)
              · rw [if_neg e9]
                have e8 : uOK cap2 (uC im e k (p + 2) (cpB u (v - 32 + 3) acc)) = false := uOK_f (uC_mono im e k _ _) (by rw [cpB_len]; omega)
                exact e_zret dd_Un_unsqueezeCopies_124 rfl (by decide) (pI_of (bI_f e8) ⟨hS.tr h51, zs, h52, fun h9 => absurd h9 (by rw [e8]; decide)⟩)
          · rw [if_pos (by omega)]
            refine e_iconst_n 0 dd_Un_unsqueezeCopies_69 (by decide) ?_
            exact e_zret dd_Un_unsqueezeCopies_70 rfl (by decide) (pI_of rfl ⟨hS, acc, h2, fun h9 => absurd h9 Bool.false_ne_true⟩)
      · rw [if_pos c26]
        refine e_iconst_n 0 dd_Un_unsqueezeCopies_29 (by decide) ?_
        exact e_zret dd_Un_unsqueezeCopies_30 rfl (by decide) (pI_of rfl ⟨hS, acc, h2, fun h9 => absurd h9 Bool.false_ne_true⟩)
set_option maxRecDepth 100000 in
set_option maxHeartbeats 4000000 in
theorem c_Un_unsqueezeCopies (h : cR w r a cap im) (h2 : cR w r2 a2 cap2 []) (n1 : r ≠ r2) (n4 : a ≠ a2) {b e : Nat} (he : e ≤ im.length) (hb : b ≤ 100000) : ab_E G mm_Un_unsqueezeCopies rr_Un_unsqueezeCopies 0 [(0, .ref r), (1, .int (nI b)), (2, .int (nI e)), (3, .ref r2)] [] w (pI (bI (uOK cap2 (uC im e (e - b) b []))) (uQ w r2 a2 cap2 (uC im e (e - b) b []))) := by
  have n2 := h.ne_oa h2
  have n3 := (h2.ne_oa h).symm
  refine e_iload_n dd_Un_unsqueezeCopies_0 rfl ?_
  refine e_istore (lv1 := [(0, .ref r), (1, .int (nI b)), (2, .int (nI e)), (3, .ref r2), (4, .int (nI b))]) dd_Un_unsqueezeCopies_1 (by decide) rfl ?_
  exact l_Un_copies h n1 n2 n3 n4 he (e - b) b w [] (by omega) (by omega) rS.rf h2
/-- is a file's row sound: what its bytes stand for has the length that is told -/
def uEq (o : Option (List Nat)) (n : Nat) : Bool := match o with
  | some ys => decide (ys.length = n)
  | none => false
theorem uEq_of {o : Option (List Nat)} {n cap : Nat} {zs : List Nat} (hn : n ≤ cap) (hz : uOK cap o = true → o = some zs) : uEq o n = true ↔ uOK cap o = true ∧ zs.length = n := by
  cases o with
  | none => simp [uEq, uOK]
  | some ys =>
    constructor
    · intro h
      have h1 : ys.length = n := by simpa [uEq] using h
      have h2 : uOK cap (some ys) = true := uOK_t (by omega)
      have h3 := Option.some.inj (hz h2)
      exact ⟨h2, by rw [← h3]; exact h1⟩
    · rintro ⟨h1, h2⟩
      have h3 := Option.some.inj (hz h1)
      simp [uEq, h3, h2]
set_option maxRecDepth 100000 in
set_option maxHeartbeats 4000000 in
theorem c_Un_unsqueeze {f an m at_ sl n ck : Nat} {ys : List Nat} (h : cR w r a cap im) (h2 : cR w r2 a2 60 ys) (n1 : r ≠ r2) (n4 : a ≠ a2) (hf : w.1 f = some (.inr (5, [.ref an, .int (nI m), .int (nI at_), .int (nI sl), .int (nI n), .int (nI ck)]))) (hm : m ≤ 2) (he : at_ + sl ≤ im.length) (hn : n ≤ 60) : ab_E G mm_Un_unsqueeze rr_Un_unsqueeze 0 [(0, .ref r), (1, .ref f), (2, .ref r2)] [] w (pI (bI (uEq (unsq m im at_ (at_ + sl)) n)) fun w2 => rS w w2 r2 a2 ∧ ∃ zs, cR w2 r2 a2 60 zs ∧ (uEq (unsq m im at_ (at_ + sl)) n = true → unsq m im at_ (at_ + sl) = some zs)) := by
  have n2 := h.ne_oa h2
  have n3 := (h2.ne_oa h).symm
  have hr2 := h2.obj
  have hlt := h.lt
  have f1 : f ≠ r2 := by
    intro e
    rw [e, hr2] at hf
    cases hf
  have f2 : f ≠ a2 := by
    intro e
    obtain ⟨-, -, -, -, -, g, h3, -⟩ := h2
    rw [e, h3] at hf
    cases hf
  refine e_aload_n dd_Un_unsqueeze_0 rfl ?_
  refine e_get dd_Un_unsqueeze_1 kf_Un_9 hf rfl ?_
  refine e_istore_n (lv1 := [(0, .ref r), (1, .ref f), (2, .ref r2), (3, .int (nI at_))]) dd_Un_unsqueeze_4 (by decide) rfl ?_
  refine e_iload_n dd_Un_unsqueeze_5 rfl ?_
  refine e_aload_n dd_Un_unsqueeze_6 rfl ?_
  refine e_get dd_Un_unsqueeze_7 kf_Un_15 hf rfl ?_
  refine e_iadd_n dd_Un_unsqueeze_10 ?_
  refine e_istore (lv1 := [(0, .ref r), (1, .ref f), (2, .ref r2), (3, .int (nI at_)), (4, .int (nI (at_ + sl)))]) dd_Un_unsqueeze_11 (by decide) rfl ?_
  refine e_aload_n dd_Un_unsqueeze_13 rfl ?_
  refine e_iconst_n 0 dd_Un_unsqueeze_14 (by decide) ?_
  refine e_callVv (d1 := rr_Row_cutTo) (As := [.int (nI 0)]) (st := []) dd_Un_unsqueeze_15 km_Un_18 hr2 rfl (by decide) rfl (Nat.le_of_ble_eq_true rfl) (Nat.le_of_ble_eq_true rfl) rfl rfl (c_Row_cutTo h2 (k := 0) (by decide)) (fun w1 h3 => ?_)
  have h4 := h3.2
  rw [List.take_zero] at h4
  have hr2 := h4.obj
  have h1 := h.fr h3.1 n1 n2 n3 n4
  have hf1 := (h3.1.2 f f1 f2).trans hf
  generalize hoe : unsq m im at_ (at_ + sl) = o
  have fin : ∀ w3 lv, rS w1 w3 r2 a2 → (∃ zs, cR w3 r2 a2 60 zs ∧ (uOK 60 o = true → o = some zs)) → ab_at lv 1 = some (.ref f) → ab_at lv 2 = some (.ref r2) → ab_at lv 5 = some (.int (bI (uOK 60 o))) → ab_E G mm_Un_unsqueeze rr_Un_unsqueeze 70 lv [] w3 (pI (bI (uEq o n)) fun w2 => rS w w2 r2 a2 ∧ ∃ zs, cR w2 r2 a2 60 zs ∧ (uEq o n = true → o = some zs)) := by
    intro w3 lv hS3 hz l1 l2 l5
    obtain ⟨zs, z1, z2⟩ := hz
    have hr2 := z1.obj
    have hzl := z1.lt
    have hf3 := (hS3.2 f f1 f2).trans hf1
    have hq := uEq_of hn z2
    refine e_iload dd_Un_unsqueeze_70 l5 ?_
    refine e_if_eq_b (tgt := 90) dd_Un_unsqueeze_72 (by decide) (fun c72 => ?_) (fun c72 => ?_)
    · refine e_iconst_n 0 dd_Un_unsqueeze_90 (by decide) ?_
      exact e_zret dd_Un_unsqueeze_91 rfl (by decide) (pI_of (bI_f (by rw [Bool.eq_false_iff]; intro h9; rw [(hq.mp h9).1] at c72; cases c72)) ⟨h3.1.tr hS3, zs, z1, fun h9 => z2 (hq.mp h9).1⟩)
    · refine e_aload_n dd_Un_unsqueeze_75 l2 ?_
      refine e_get dd_Un_unsqueeze_76 kf_Un_40 hr2 rfl ?_
      refine e_aload_n dd_Un_unsqueeze_79 l1 ?_
      refine e_get dd_Un_unsqueeze_80 kf_Un_43 hf3 rfl ?_
      refine e_icmp_ne_n (tgt := 90) dd_Un_unsqueeze_83 (by decide) (by omega) (by omega) (fun c83 => ?_) (fun c83 => ?_)
      · refine e_iconst_n 0 dd_Un_unsqueeze_90 (by decide) ?_
        exact e_zret dd_Un_unsqueeze_91 rfl (by decide) (pI_of (bI_f (by rw [Bool.eq_false_iff]; intro h9; exact c83 (hq.mp h9).2)) ⟨h3.1.tr hS3, zs, z1, fun h9 => z2 (hq.mp h9).1⟩)
      · refine e_iconst_n 1 dd_Un_unsqueeze_86 (by decide) ?_
        refine e_goto (tgt := 91) dd_Un_unsqueeze_87 (by decide) ?_
        exact e_zret dd_Un_unsqueeze_91 rfl (by decide) (pI_of (bI_t (hq.mpr ⟨c72, c83⟩)) ⟨h3.1.tr hS3, zs, z1, fun h9 => z2 c72⟩)
  refine e_aload_n dd_Un_unsqueeze_18 rfl ?_
  refine e_get dd_Un_unsqueeze_19 kf_Un_24 hf1 rfl ?_
  refine e_iconst_n 1 dd_Un_unsqueeze_22 (by decide) ?_
  refine e_icmp_ne_n (tgt := 39) dd_Un_unsqueeze_23 (by decide) (by omega) (by omega) (fun c23 => ?_) (fun c23 => ?_)
  · refine e_aload_n dd_Un_unsqueeze_39 rfl ?_
    refine e_get dd_Un_unsqueeze_40 kf_Un_24 hf1 rfl ?_
    refine e_iconst_n 2 dd_Un_unsqueeze_43 (by decide) ?_
    refine e_icmp_ne_n (tgt := 60) dd_Un_unsqueeze_44 (by decide) (by omega) (by omega) (fun c44 => ?_) (fun c44 => ?_)
    · rw [unsq, if_neg c23, if_neg c44] at hoe
      have h5 := c_Row_appendPart (G := G) h4 h1 n1.symm n4.symm (b := at_) (e := at_ + sl) (by omega) (by omega)
      have e5 : at_ + sl - at_ = sl := by omega
      rw [e5] at hoe h5
      have e6 : ((im.drop at_).take sl).length = sl := by rw [List.length_take, List.length_drop]; omega
      have e7 : decide (at_ ≤ at_ + sl ∧ at_ + sl ≤ im.length ∧ sl ≤ 60 - ([] : List Nat).length) = uOK 60 o := by
        rw [← hoe, uOK, e6]
        apply decide_eq_decide.mpr
        simp
        omega
      rw [e7] at h5
      refine e_aload_n dd_Un_unsqueeze_60 rfl ?_
      refine e_aload_n dd_Un_unsqueeze_61 rfl ?_
      refine e_iload_n dd_Un_unsqueeze_62 rfl ?_
      refine e_iload dd_Un_unsqueeze_63 rfl ?_
      refine e_callVi (d1 := rr_Row_appendPart) (As := [.ref r, .int (nI at_), .int (nI (at_ + sl))]) (st := []) dd_Un_unsqueeze_65 km_Un_36 hr2 rfl (by decide) rfl (Nat.le_of_ble_eq_true rfl) (Nat.le_of_ble_eq_true rfl) rfl rfl (h5) (fun w5 h6 => ?_)
      refine e_istore (lv1 := [(0, .ref r), (1, .ref f), (2, .ref r2), (3, .int (nI at_)), (4, .int (nI (at_ + sl))), (5, .int (bI (uOK 60 o)))]) dd_Un_unsqueeze_68 (by decide) rfl ?_
      refine fin w5 _ h6.1 ⟨_, h6.2, fun h9 => ?_⟩ rfl rfl rfl
      rw [h9] at e7
      rw [if_pos (of_decide_eq_true e7), List.nil_append]
      exact hoe.symm
    · rw [unsq, if_neg c23, if_pos c44] at hoe
      have h5 := c_Un_unsqueezeCopies (G := G) h1 h4 n1 n4 (b := at_) (e := at_ + sl) he (by omega)
      rw [hoe] at h5
      refine e_aload_n dd_Un_unsqueeze_47 rfl ?_
      refine e_iload_n dd_Un_unsqueeze_48 rfl ?_
      refine e_iload dd_Un_unsqueeze_49 rfl ?_
      refine e_aload_n dd_Un_unsqueeze_51 rfl ?_
      refine e_callSi (d1 := rr_Un_unsqueezeCopies) (As := [.ref r, .int (nI at_), .int (nI (at_ + sl)), .ref r2]) (st := []) dd_Un_unsqueeze_52 km_Un_33 (by decide) rfl (Nat.le_of_ble_eq_true rfl) (Nat.le_of_ble_eq_true rfl) rfl rfl (h5) (fun w5 h6 => ?_)
      refine e_istore (lv1 := [(0, .ref r), (1, .ref f), (2, .ref r2), (3, .int (nI at_)), (4, .int (nI (at_ + sl))), (5, .int (bI (uOK 60 o)))]) dd_Un_unsqueeze_55 (by decide) rfl ?_
      refine e_goto (tgt := 70) dd_Un_unsqueeze_57 (by decide) ?_
      exact fin w5 _ h6.1 h6.2 rfl rfl rfl
  · rw [unsq, if_pos c23] at hoe
    have h5 := c_Un_unsqueezeRuns (G := G) h1 h4 n1 n4 (b := at_) (e := at_ + sl) he (by omega)
    rw [hoe] at h5
    refine e_aload_n dd_Un_unsqueeze_26 rfl ?_
    refine e_iload_n dd_Un_unsqueeze_27 rfl ?_
    refine e_iload dd_Un_unsqueeze_28 rfl ?_
    refine e_aload_n dd_Un_unsqueeze_30 rfl ?_
    refine e_callSi (d1 := rr_Un_unsqueezeRuns) (As := [.ref r, .int (nI at_), .int (nI (at_ + sl)), .ref r2]) (st := []) dd_Un_unsqueeze_31 km_Un_27 (by decide) rfl (Nat.le_of_ble_eq_true rfl) (Nat.le_of_ble_eq_true rfl) rfl rfl (h5) (fun w5 h6 => ?_)
    refine e_istore (lv1 := [(0, .ref r), (1, .ref f), (2, .ref r2), (3, .int (nI at_)), (4, .int (nI (at_ + sl))), (5, .int (bI (uOK 60 o)))]) dd_Un_unsqueeze_34 (by decide) rfl ?_
    refine e_goto (tgt := 70) dd_Un_unsqueeze_36 (by decide) ?_
    exact fin w5 _ h6.1 h6.2 rfl rfl rfl
end UN
end
section
/-! ArchiveBench$OpenFile. -/
/-- an open file at f with its name at r, a: name, method, place, squeezed bytes, bytes, CHECK -/
def cOF (w : ab_W) (f r a : Nat) (nm : List Nat) (m at_ sl n ck : Nat) : Prop := w.1 f = some (.inr (5, [.ref r, .int (nI m), .int (nI at_), .int (nI sl), .int (nI n), .int (nI ck)])) ∧ cR w r a 8 nm
def tl (nm : List Nat) (m at_ sl n ck : Nat) (x : Int32) : Int32 := if x = 0 then nI m else if x = 1 then nI nm.length else if x = 2 then nI at_ else if x = 3 then nI sl else if x = 4 then nI n else if x = 5 then nI ck else if x < 16 then -1 else rbI nm (x - 16)
theorem sw6 (x : Int32) : x = 0 ∨ x = 1 ∨ x = 2 ∨ x = 3 ∨ x = 4 ∨ x = 5 ∨ (x.toInt < 0 ∨ 5 < x.toInt) := by
  by_cases h : x.toInt < 0 ∨ 5 < x.toInt
  · exact Or.inr (Or.inr (Or.inr (Or.inr (Or.inr (Or.inr h)))))
  · have h1 : x.toInt = 0 ∨ x.toInt = 1 ∨ x.toInt = 2 ∨ x.toInt = 3 ∨ x.toInt = 4 ∨ x.toInt = 5 := by omega
    rcases h1 with h1 | h1 | h1 | h1 | h1 | h1
    · exact Or.inl (Int32.toInt_inj.mp h1)
    · exact Or.inr (Or.inl (Int32.toInt_inj.mp h1))
    · exact Or.inr (Or.inr (Or.inl (Int32.toInt_inj.mp h1)))
    · exact Or.inr (Or.inr (Or.inr (Or.inl (Int32.toInt_inj.mp h1))))
    · exact Or.inr (Or.inr (Or.inr (Or.inr (Or.inl (Int32.toInt_inj.mp h1)))))
    · exact Or.inr (Or.inr (Or.inr (Or.inr (Or.inr (Or.inl (Int32.toInt_inj.mp h1))))))
theorem tl_out {nm : List Nat} {m at_ sl n ck : Nat} {x : Int32} (h : x.toInt < 0 ∨ 5 < x.toInt) : tl nm m at_ sl n ck x = if x < 16 then -1 else rbI nm (x - 16) := by
  have hne : ∀ k : Int32, (0 ≤ k.toInt ∧ k.toInt ≤ 5) → ¬ x = k := fun k hk e => by rw [e] at h; omega
  rw [tl, if_neg (hne 0 (by decide)), if_neg (hne 1 (by decide)), if_neg (hne 2 (by decide)), if_neg (hne 3 (by decide)), if_neg (hne 4 (by decide)), if_neg (hne 5 (by decide))]
section OF
variable {G : ab_G} {w : ab_W} {f r a : Nat} {nm : List Nat} {m at_ sl n ck : Nat}
set_option maxRecDepth 100000 in
set_option maxHeartbeats 4000000 in
theorem c_OF_tell (h : cOF w f r a nm m at_ sl n ck) (x : Int32) : ab_E G mm_OF_tell rr_OF_tell 0 [(0, .ref f), (1, .int x)] [] w (pP (tl nm m at_ sl n ck x) w) := by
  obtain ⟨hf, h⟩ := h
  have hr := h.obj
  rcases sw6 x with rfl | rfl | rfl | rfl | rfl | rfl | hx
  · refine e_iload_n dd_OF_tell_0 rfl ?_
    refine e_tableIn (tgt := 40) dd_OF_tell_1 (by decide) (by decide) rfl (by decide) ?_
    refine e_aload_n dd_OF_tell_40 rfl ?_
    refine e_get dd_OF_tell_41 kf_OF_20 hf rfl ?_
    exact e_iret dd_OF_tell_44 rfl (pP_of rfl)
  · refine e_iload_n dd_OF_tell_0 rfl ?_
    refine e_tableIn (tgt := 45) dd_OF_tell_1 (by decide) (by decide) rfl (by decide) ?_
    refine e_aload_n dd_OF_tell_45 rfl ?_
    refine e_get dd_OF_tell_46 kf_OF_14 hf rfl ?_
    refine e_get dd_OF_tell_49 kf_OF_24 hr rfl ?_
    exact e_iret dd_OF_tell_52 rfl (pP_of rfl)
  · refine e_iload_n dd_OF_tell_0 rfl ?_
    refine e_tableIn (tgt := 53) dd_OF_tell_1 (by decide) (by decide) rfl (by decide) ?_
    refine e_aload_n dd_OF_tell_53 rfl ?_
    refine e_get dd_OF_tell_54 kf_OF_27 hf rfl ?_
    exact e_iret dd_OF_tell_57 rfl (pP_of rfl)
  · refine e_iload_n dd_OF_tell_0 rfl ?_
    refine e_tableIn (tgt := 58) dd_OF_tell_1 (by decide) (by decide) rfl (by decide) ?_
    refine e_aload_n dd_OF_tell_58 rfl ?_
    refine e_get dd_OF_tell_59 kf_OF_30 hf rfl ?_
    exact e_iret dd_OF_tell_62 rfl (pP_of rfl)
  · refine e_iload_n dd_OF_tell_0 rfl ?_
    refine e_tableIn (tgt := 63) dd_OF_tell_1 (by decide) (by decide) rfl (by decide) ?_
    refine e_aload_n dd_OF_tell_63 rfl ?_
    refine e_get dd_OF_tell_64 kf_OF_33 hf rfl ?_
    exact e_iret dd_OF_tell_67 rfl (pP_of rfl)
  · refine e_iload_n dd_OF_tell_0 rfl ?_
    refine e_tableIn (tgt := 68) dd_OF_tell_1 (by decide) (by decide) rfl (by decide) ?_
    refine e_aload_n dd_OF_tell_68 rfl ?_
    refine e_get dd_OF_tell_69 kf_OF_34 hf rfl ?_
    exact e_iret dd_OF_tell_72 rfl (pP_of rfl)
  · rw [tl_out hx]
    refine e_iload_n dd_OF_tell_0 rfl ?_
    refine e_tableOut (tgt := 73) dd_OF_tell_1 hx (by decide) ?_
    refine e_iload_n dd_OF_tell_73 rfl ?_
    refine e_bipush_n 16 dd_OF_tell_74 (by decide) ?_
    refine e_icmp_ge (tgt := 83) dd_OF_tell_76 (by decide) (fun c76 => ?_) (fun c76 => ?_)
    · refine e_aload_n dd_OF_tell_83 rfl ?_
      refine e_get dd_OF_tell_84 kf_OF_14 hf rfl ?_
      refine e_iload_n dd_OF_tell_87 rfl ?_
      refine e_bipush_n 16 dd_OF_tell_88 (by decide) ?_
      refine e_isub dd_OF_tell_90 ?_
      refine e_callVp (d1 := rr_Row_at) (As := [.int (x - (nI 16))]) (st := []) dd_OF_tell_91 km_OF_37 hr rfl (by decide) rfl (Nat.le_of_ble_eq_true rfl) (Nat.le_of_ble_eq_true rfl) rfl rfl (c_Row_at h (x - nI 16)) ?_
      exact e_iret dd_OF_tell_94 rfl (pP_of (by rw [if_neg (show ¬ x < 16 from Int32.not_lt.mpr c76)]; rfl))
    · refine e_iconst (v := -1) dd_OF_tell_79 (by decide) ?_
      refine e_goto (tgt := 94) dd_OF_tell_80 (by decide) ?_
      exact e_iret dd_OF_tell_94 rfl (pP_of (by rw [if_pos (show x < 16 from Int32.not_le.mp c76)]))
/-- a part of a name that is not empty, and not two dots -/
def sp (nm : List Nat) (b e : Nat) : Bool := decide (b < e ∧ ¬ (e - b = 2 ∧ nm.getD b 0 = 46 ∧ nm.getD (b + 1) 0 = 46))
set_option maxRecDepth 100000 in
set_option maxHeartbeats 4000000 in
theorem c_OF_isSafePart (h : cOF w f r a nm m at_ sl n ck) {b e : Nat} (hb : b ≤ e) (he : e ≤ nm.length) : ab_E G mm_OF_isSafePart rr_OF_isSafePart 0 [(0, .ref f), (1, .int (nI b)), (2, .int (nI e))] [] w (pP (bI (sp nm b e)) w) := by
  obtain ⟨hf, h⟩ := h
  have hr := h.obj
  have hlt := h.lt
  have hby := h.2.2.2.2.1
  refine e_iload_n dd_OF_isSafePart_0 rfl ?_
  refine e_iload_n dd_OF_isSafePart_1 rfl ?_
  refine e_isub_n dd_OF_isSafePart_2 (by omega) ?_
  refine e_iconst_n 2 dd_OF_isSafePart_3 (by decide) ?_
  refine e_icmp_ne_n (tgt := 39) dd_OF_isSafePart_4 (by decide) (by omega) (by omega) (fun c4 => ?_) (fun c4 => ?_)
  · refine e_iconst_n 0 dd_OF_isSafePart_39 (by decide) ?_
    refine e_istore_n (lv1 := [(0, .ref f), (1, .int (nI b)), (2, .int (nI e)), (3, .int (nI 0))]) dd_OF_isSafePart_40 (by decide) rfl ?_
    refine e_iload_n dd_OF_isSafePart_41 rfl ?_
    refine e_iload_n dd_OF_isSafePart_42 rfl ?_
    refine e_icmp_le_n (tgt := 54) dd_OF_isSafePart_43 (by decide) (by omega) (by omega) (fun c43 => ?_) (fun c43 => ?_)
    · refine e_iconst_n 0 dd_OF_isSafePart_54 (by decide) ?_
      exact e_zret dd_OF_isSafePart_55 rfl (by decide) (pP_of (bI_f (decide_eq_false (by omega))))
    · refine e_iload_n dd_OF_isSafePart_46 rfl ?_
      refine e_if_ne_n (tgt := 54) dd_OF_isSafePart_47 (by decide) (by omega) (fun h9 => absurd h9 (by decide)) (fun _ => ?_)
      refine e_iconst_n 1 dd_OF_isSafePart_50 (by decide) ?_
      refine e_goto (tgt := 55) dd_OF_isSafePart_51 (by decide) ?_
      exact e_zret dd_OF_isSafePart_55 rfl (by decide) (pP_of (bI_t (decide_eq_true (by omega))))
  · have g1 := getD_lt hby (j := b) (by omega)
    have g2 := getD_lt hby (j := b + 1) (by omega)
    refine e_aload_n dd_OF_isSafePart_7 rfl ?_
    refine e_get dd_OF_isSafePart_8 kf_OF_14 hf rfl ?_
    refine e_iload_n dd_OF_isSafePart_11 rfl ?_
    refine e_callVp (d1 := rr_Row_at) (As := [.int (nI b)]) (st := []) dd_OF_isSafePart_12 km_OF_37 hr rfl (by decide) rfl (Nat.le_of_ble_eq_true rfl) (Nat.le_of_ble_eq_true rfl) rfl rfl (c_Row_ati h (by omega)) ?_
    refine e_bipush_n 46 dd_OF_isSafePart_15 (by decide) ?_
    refine e_icmp_ne_n (tgt := 39) dd_OF_isSafePart_17 (by decide) (by omega) (by omega) (fun c17 => ?_) (fun c17 => ?_)
    · refine e_iconst_n 0 dd_OF_isSafePart_39 (by decide) ?_
      refine e_istore_n (lv1 := [(0, .ref f), (1, .int (nI b)), (2, .int (nI e)), (3, .int (nI 0))]) dd_OF_isSafePart_40 (by decide) rfl ?_
      refine e_iload_n dd_OF_isSafePart_41 rfl ?_
      refine e_iload_n dd_OF_isSafePart_42 rfl ?_
      refine e_icmp_le_n (tgt := 54) dd_OF_isSafePart_43 (by decide) (by omega) (by omega) (fun c43 => ?_) (fun c43 => ?_)
      · refine e_iconst_n 0 dd_OF_isSafePart_54 (by decide) ?_
        exact e_zret dd_OF_isSafePart_55 rfl (by decide) (pP_of (bI_f (decide_eq_false (by omega))))
      · refine e_iload_n dd_OF_isSafePart_46 rfl ?_
        refine e_if_ne_n (tgt := 54) dd_OF_isSafePart_47 (by decide) (by omega) (fun h9 => absurd h9 (by decide)) (fun _ => ?_)
        refine e_iconst_n 1 dd_OF_isSafePart_50 (by decide) ?_
        refine e_goto (tgt := 55) dd_OF_isSafePart_51 (by decide) ?_
        exact e_zret dd_OF_isSafePart_55 rfl (by decide) (pP_of (bI_t (decide_eq_true (by omega))))
    · refine e_aload_n dd_OF_isSafePart_20 rfl ?_
      refine e_get dd_OF_isSafePart_21 kf_OF_14 hf rfl ?_
      refine e_iload_n dd_OF_isSafePart_24 rfl ?_
      refine e_iconst_n 1 dd_OF_isSafePart_25 (by decide) ?_
      refine e_iadd_n dd_OF_isSafePart_26 ?_
      refine e_callVp (d1 := rr_Row_at) (As := [.int (nI (b + 1))]) (st := []) dd_OF_isSafePart_27 km_OF_37 hr rfl (by decide) rfl (Nat.le_of_ble_eq_true rfl) (Nat.le_of_ble_eq_true rfl) rfl rfl (c_Row_ati h (by omega)) ?_
      refine e_bipush_n 46 dd_OF_isSafePart_30 (by decide) ?_
      refine e_icmp_ne_n (tgt := 39) dd_OF_isSafePart_32 (by decide) (by omega) (by omega) (fun c32 => ?_) (fun c32 => ?_)
      · refine e_iconst_n 0 dd_OF_isSafePart_39 (by decide) ?_
        refine e_istore_n (lv1 := [(0, .ref f), (1, .int (nI b)), (2, .int (nI e)), (3, .int (nI 0))]) dd_OF_isSafePart_40 (by decide) rfl ?_
        refine e_iload_n dd_OF_isSafePart_41 rfl ?_
        refine e_iload_n dd_OF_isSafePart_42 rfl ?_
        refine e_icmp_le_n (tgt := 54) dd_OF_isSafePart_43 (by decide) (by omega) (by omega) (fun c43 => ?_) (fun c43 => ?_)
        · refine e_iconst_n 0 dd_OF_isSafePart_54 (by decide) ?_
          exact e_zret dd_OF_isSafePart_55 rfl (by decide) (pP_of (bI_f (decide_eq_false (by omega))))
        · refine e_iload_n dd_OF_isSafePart_46 rfl ?_
          refine e_if_ne_n (tgt := 54) dd_OF_isSafePart_47 (by decide) (by omega) (fun h9 => absurd h9 (by decide)) (fun _ => ?_)
          refine e_iconst_n 1 dd_OF_isSafePart_50 (by decide) ?_
          refine e_goto (tgt := 55) dd_OF_isSafePart_51 (by decide) ?_
          exact e_zret dd_OF_isSafePart_55 rfl (by decide) (pP_of (bI_t (decide_eq_true (by omega))))
      · refine e_iconst_n 1 dd_OF_isSafePart_35 (by decide) ?_
        refine e_goto (tgt := 40) dd_OF_isSafePart_36 (by decide) ?_
        refine e_istore_n (lv1 := [(0, .ref f), (1, .int (nI b)), (2, .int (nI e)), (3, .int (nI 1))]) dd_OF_isSafePart_40 (by decide) rfl ?_
        refine e_iload_n dd_OF_isSafePart_41 rfl ?_
        refine e_iload_n dd_OF_isSafePart_42 rfl ?_
        refine e_icmp_le_n (tgt := 54) dd_OF_isSafePart_43 (by decide) (by omega) (by omega) (fun c43 => ?_) (fun c43 => ?_)
        · refine e_iconst_n 0 dd_OF_isSafePart_54 (by decide) ?_
          exact e_zret dd_OF_isSafePart_55 rfl (by decide) (pP_of (bI_f (decide_eq_false (by omega))))
        · refine e_iload_n dd_OF_isSafePart_46 rfl ?_
          refine e_if_ne_n (tgt := 54) dd_OF_isSafePart_47 (by decide) (by omega) (fun _ => ?_) (fun h9 => absurd h9 (by decide))
          refine e_iconst_n 0 dd_OF_isSafePart_54 (by decide) ?_
          exact e_zret dd_OF_isSafePart_55 rfl (by decide) (pP_of (bI_f (decide_eq_false (by omega))))
/-- scanning a name: the length of the part so far, its dots -/
def sfF (nm : List Nat) : Nat → Nat → Nat → Nat → Bool
  | 0, _, _, _ => true
  | k + 1, i, pt, ds => if i = nm.length ∨ nm.getD i 0 = 47 then (if pt = 0 ∨ (pt = 2 ∧ ds = 2) then false else sfF nm k (i + 1) 0 0) else sfF nm k (i + 1) (pt + 1) (if nm.getD i 0 = 46 then ds + 1 else ds)
def safe (nm : List Nat) : Bool := sfF nm (nm.length + 1) 0 0 0
def dc (nm : List Nat) (b : Nat) : Nat → Nat
  | 0 => 0
  | n + 1 => if nm.getD (b + n) 0 = 46 then dc nm b n + 1 else dc nm b n
theorem sp_dc (nm : List Nat) {i pt : Nat} (hp : pt ≤ i) : sp nm (i - pt) i = true ↔ ¬ (pt = 0 ∨ (pt = 2 ∧ dc nm (i - pt) pt = 2)) := by
  rw [sp, decide_eq_true_iff]
  by_cases h2 : pt = 2
  · subst h2
    simp only [dc, Nat.add_zero]
    generalize nm.getD (i - 2) 0 = u
    generalize nm.getD (i - 2 + 1) 0 = v
    by_cases h3 : u = 46 <;> by_cases h4 : v = 46 <;> simp [h3, h4] <;> omega
  · simp [h2]
    omega
set_option maxRecDepth 100000 in
set_option maxHeartbeats 4000000 in
theorem l_OF_safe (h : cOF w f r a nm m at_ sl n ck) : ∀ k i pt ds, i + k = nm.length + 1 → pt ≤ i → ds = dc nm (i - pt) pt → ab_E G mm_OF_hasSafeName rr_OF_hasSafeName 4 [(0, .ref f), (1, .int (nI (i - pt))), (2, .int (nI i))] [] w (pP (bI (sfF nm k i pt ds)) w) := by
  have h0 := h
  obtain ⟨hf, h⟩ := h
  have hr := h.obj
  have hlt := h.lt
  have hby := h.2.2.2.2.1
  intro k
  induction k with
  | zero =>
    intro i pt ds hi hp hd
    refine e_iload_n dd_OF_hasSafeName_4 rfl ?_
    refine e_aload_n dd_OF_hasSafeName_5 rfl ?_
    refine e_get dd_OF_hasSafeName_6 kf_OF_14 hf rfl ?_
    refine e_get dd_OF_hasSafeName_9 kf_OF_24 hr rfl ?_
    refine e_icmp_gt_n (tgt := 60) dd_OF_hasSafeName_12 (by decide) (by omega) (by omega) (fun _ => ?_) (fun h9 => absurd h9 (by omega))
    refine e_iconst_n 1 dd_OF_hasSafeName_60 (by decide) ?_
    exact e_zret dd_OF_hasSafeName_61 rfl (by decide) (pP_of rfl)
  | succ k ih =>
    intro i pt ds hi hp hd
    have hsp := sp_dc nm hp
    rw [← hd] at hsp
    unfold sfF
    have part : (i = nm.length ∨ nm.getD i 0 = 47) → ab_E G mm_OF_hasSafeName rr_OF_hasSafeName 39 [(0, .ref f), (1, .int (nI (i - pt))), (2, .int (nI i))] [] w (pP (bI (if pt = 0 ∨ (pt = 2 ∧ ds = 2) then false else sfF nm k (i + 1) 0 0)) w) := by
      intro hc
      refine e_aload_n dd_OF_hasSafeName_39 rfl ?_
      refine e_iload_n dd_OF_hasSafeName_40 rfl ?_
      refine e_iload_n dd_OF_hasSafeName_41 rfl ?_
      refine e_callVp (d1 := rr_OF_isSafePart) (As := [.int (nI (i - pt)), .int (nI i)]) (st := []) dd_OF_hasSafeName_42 km_OF_41 hf rfl (by decide) rfl (Nat.le_of_ble_eq_true rfl) (Nat.le_of_ble_eq_true rfl) rfl rfl (c_OF_isSafePart h0 (by omega) (by omega)) ?_
      refine e_if_ne_b (tgt := 50) dd_OF_hasSafeName_45 (by decide) (fun c45 => ?_) (fun c45 => ?_)
      · refine e_iload_n dd_OF_hasSafeName_50 rfl ?_
        refine e_iconst_n 1 dd_OF_hasSafeName_51 (by decide) ?_
        refine e_iadd_n dd_OF_hasSafeName_52 ?_
        refine e_istore_n (lv1 := [(0, .ref f), (1, .int (nI (i + 1))), (2, .int (nI i))]) dd_OF_hasSafeName_53 (by decide) rfl ?_
        refine e_iinc_n (a := i) (k := 1) (lv1 := [(0, .ref f), (1, .int (nI (i + 1))), (2, .int (nI (i + 1)))]) dd_OF_hasSafeName_54 rfl (by decide) (by decide) rfl ?_
        refine e_goto (tgt := 4) dd_OF_hasSafeName_57 (by decide) ?_
        rw [if_neg (hsp.mp c45)]
        exact ih (i + 1) 0 0 (by omega) (by omega) rfl
      · refine e_iconst_n 0 dd_OF_hasSafeName_48 (by decide) ?_
        exact e_zret dd_OF_hasSafeName_49 rfl (by decide) (pP_of (by rw [if_pos (Classical.not_not.mp (fun h9 => absurd (hsp.mpr h9) (by rw [c45]; decide)))]; rfl))
    refine e_iload_n dd_OF_hasSafeName_4 rfl ?_
    refine e_aload_n dd_OF_hasSafeName_5 rfl ?_
    refine e_get dd_OF_hasSafeName_6 kf_OF_14 hf rfl ?_
    refine e_get dd_OF_hasSafeName_9 kf_OF_24 hr rfl ?_
    refine e_icmp_gt_n (tgt := 60) dd_OF_hasSafeName_12 (by decide) (by omega) (by omega) (fun h9 => absurd h9 (by omega)) (fun _ => ?_)
    refine e_iload_n dd_OF_hasSafeName_15 rfl ?_
    refine e_aload_n dd_OF_hasSafeName_16 rfl ?_
    refine e_get dd_OF_hasSafeName_17 kf_OF_14 hf rfl ?_
    refine e_get dd_OF_hasSafeName_20 kf_OF_24 hr rfl ?_
    refine e_icmp_eq_n (tgt := 39) dd_OF_hasSafeName_23 (by decide) (by omega) (by omega) (fun c23 => ?_) (fun c23 => ?_)
    · rw [if_pos (Or.inl c23)]
      exact part (Or.inl c23)
    · refine e_aload_n dd_OF_hasSafeName_26 rfl ?_
      refine e_get dd_OF_hasSafeName_27 kf_OF_14 hf rfl ?_
      refine e_iload_n dd_OF_hasSafeName_30 rfl ?_
      refine e_callVp (d1 := rr_Row_at) (As := [.int (nI i)]) (st := []) dd_OF_hasSafeName_31 km_OF_37 hr rfl (by decide) rfl (Nat.le_of_ble_eq_true rfl) (Nat.le_of_ble_eq_true rfl) rfl rfl (c_Row_ati h (by omega)) ?_
      have g1 := getD_lt hby (j := i) (by omega)
      refine e_bipush_n 47 dd_OF_hasSafeName_34 (by decide) ?_
      refine e_icmp_ne_n (tgt := 54) dd_OF_hasSafeName_36 (by decide) (by omega) (by omega) (fun c36 => ?_) (fun c36 => ?_)
      · refine e_iinc_n (a := i) (k := 1) (lv1 := [(0, .ref f), (1, .int (nI (i - pt))), (2, .int (nI (i + 1)))]) dd_OF_hasSafeName_54 rfl (by decide) (by decide) rfl ?_
        refine e_goto (tgt := 4) dd_OF_hasSafeName_57 (by decide) ?_
        rw [if_neg (by omega)]
        have K := ih (i + 1) (pt + 1) (if nm.getD i 0 = 46 then ds + 1 else ds) (by omega) (by omega) (by
          rw [show i + 1 - (pt + 1) = i - pt by omega, dc, show i - pt + pt = i by omega, hd])
        rw [show i + 1 - (pt + 1) = i - pt by omega] at K
        exact K
      · rw [if_pos (Or.inr c36)]
        exact part (Or.inr c36)
set_option maxRecDepth 100000 in
set_option maxHeartbeats 4000000 in
theorem c_OF_hasSafeName (h : cOF w f r a nm m at_ sl n ck) : ab_E G mm_OF_hasSafeName rr_OF_hasSafeName 0 [(0, .ref f)] [] w (pP (bI (safe nm)) w) := by
  refine e_iconst_n 0 dd_OF_hasSafeName_0 (by decide) ?_
  refine e_istore_n (lv1 := [(0, .ref f), (1, .int (nI 0))]) dd_OF_hasSafeName_1 (by decide) rfl ?_
  refine e_iconst_n 0 dd_OF_hasSafeName_2 (by decide) ?_
  refine e_istore_n (lv1 := [(0, .ref f), (1, .int (nI 0)), (2, .int (nI 0))]) dd_OF_hasSafeName_3 (by decide) rfl ?_
  exact l_OF_safe h (nm.length + 1) 0 0 0 (by omega) (Nat.le_refl _) rfl
end OF
end
section
/-! ArchiveBench$WaitingFile and ArchiveBench$Packer. The class's objects have fixed numbers: waiting file i at 8 + 5 i, its name at 9 + 5 i, its squeezed bytes at 11 + 5 i; the packer at 6, its array at 7, the draft at 38. -/
abbrev FW : Type := List Nat × Nat × List Nat
def fsq (f : FW) : List Nat := sqz f.2.1 f.2.2
def fwOK (f : FW) : Prop := 1 ≤ f.1.length ∧ f.1.length ≤ 8 ∧ f.2.1 ≤ 2 ∧ f.2.2.length ≤ 60 ∧ (∀ x ∈ f.1, x < 256) ∧ ∀ x ∈ f.2.2, x < 256
theorem fsq_len {f : FW} (h : fwOK f) : (fsq f).length ≤ 120 := by
  have h1 := sqz_len f.2.1 f.2.2
  have h2 := h.2.2.2.1
  show (sqz f.2.1 f.2.2).length ≤ 120
  omega
def cWF (w : ab_W) (i : Nat) (nm sq : List Nat) (m n ck : Nat) (x : Int32) : Prop := w.1 (8 + 5 * i) = some (.inr (3, [.ref (9 + 5 * i), .ref (11 + 5 * i), .int (nI m), .int (nI n), .int (nI ck), .int x])) ∧ cR w (9 + 5 * i) (10 + 5 * i) 8 nm ∧ cR w (11 + 5 * i) (12 + 5 * i) 120 sq
/-- nothing outside the numbers lo .. hi - 1 has changed -/
def rG (w w2 : ab_W) (lo hi : Nat) : Prop := w2.2 = w.2 ∧ ∀ j, (j < lo ∨ hi ≤ j) → w2.1 j = w.1 j
theorem rG.tr {w w1 w2 : ab_W} {lo hi : Nat} (h1 : rG w w1 lo hi) (h2 : rG w1 w2 lo hi) : rG w w2 lo hi := ⟨h2.1.trans h1.1, fun j hj => (h2.2 j hj).trans (h1.2 j hj)⟩
theorem rG.rf {w : ab_W} {lo hi : Nat} : rG w w lo hi := ⟨rfl, fun _ _ => rfl⟩
theorem rG.wide {w w1 : ab_W} {lo hi lo2 hi2 : Nat} (h : rG w w1 lo hi) (h1 : lo2 ≤ lo) (h2 : hi ≤ hi2) : rG w w1 lo2 hi2 := ⟨h.1, fun j hj => h.2 j (by omega)⟩
theorem rS.G {w w2 : ab_W} {r a lo hi : Nat} (h : rS w w2 r a) (h1 : lo ≤ r ∧ r < hi) (h2 : lo ≤ a ∧ a < hi) : rG w w2 lo hi := ⟨h.1, fun j hj => h.2 j (by omega) (by omega)⟩
theorem cR.G {w w2 : ab_W} {r a cap lo hi : Nat} {xs : List Nat} (h : cR w r a cap xs) (hG : rG w w2 lo hi) (h1 : r < lo ∨ hi ≤ r) (h2 : a < lo ∨ hi ≤ a) : cR w2 r a cap xs := h.keep (hG.2 r h1) (hG.2 a h2)
theorem cWF.fr {w w2 : ab_W} {i r a : Nat} {nm sq : List Nat} {m n ck : Nat} {x : Int32} (h : cWF w i nm sq m n ck x) (hS : rS w w2 r a) (hr : r < 8 + 5 * i ∨ 13 + 5 * i ≤ r) (ha : a < 8 + 5 * i ∨ 13 + 5 * i ≤ a) : cWF w2 i nm sq m n ck x :=
  ⟨(hS.2 _ (by omega) (by omega)).trans h.1, h.2.1.fr hS (by omega) (by omega) (by omega) (by omega), h.2.2.fr hS (by omega) (by omega) (by omega) (by omega)⟩
theorem cWF.G {w w2 : ab_W} {i lo hi : Nat} {nm sq : List Nat} {m n ck : Nat} {x : Int32} (h : cWF w i nm sq m n ck x) (hG : rG w w2 lo hi) (h1 : 13 + 5 * i ≤ lo ∨ hi ≤ 8 + 5 * i) : cWF w2 i nm sq m n ck x :=
  ⟨(hG.2 _ (by omega)).trans h.1, h.2.1.G hG (by omega) (by omega), h.2.2.G hG (by omega) (by omega)⟩
section WF
variable {G : ab_G} {w : ab_W} {i : Nat} {nm sq by_ : List Nat} {m n ck : Nat} {x : Int32}
set_option maxRecDepth 100000 in
set_option maxHeartbeats 4000000 in
theorem c_WF_become {nm0 sq0 : List Nat} {m0 n0 ck0 : Nat} (h : cWF w i nm0 sq0 m0 n0 ck0 x) (h1 : cR w 2 3 8 nm) (h2 : cR w 4 5 60 by_) (hm : m ≤ 2) : ab_E G mm_WF_become rr_WF_become 0 [(0, .ref (8 + 5 * i)), (1, .ref 2), (2, .ref 4), (3, .int (nI m))] [] w (pV fun w2 => rG w w2 (8 + 5 * i) (13 + 5 * i) ∧ cWF w2 i nm (sqz m by_) m by_.length (crc by_) x) := by
  obtain ⟨ho, hn, hs⟩ := h
  have hr := hn.obj
  have hl1 := h1.2.1
  have hl2 := h2.2.1
  refine e_aload_n dd_WF_become_0 rfl ?_
  refine e_get dd_WF_become_1 kf_WF_14 ho rfl ?_
  refine e_aload_n dd_WF_become_4 rfl ?_
  refine e_callVv (d1 := rr_Row_become) (As := [.ref 2]) (st := []) dd_WF_become_5 km_WF_23 hr rfl (by decide) rfl (Nat.le_of_ble_eq_true rfl) (Nat.le_of_ble_eq_true rfl) rfl rfl (c_Row_become hn h1 (by omega) (by omega) hl1) (fun w1 k1 => ?_)
  have ho := (k1.1.2 (8 + 5 * i) (by omega) (by omega)).trans ho
  have hs := hs.fr k1.1 (by omega) (by omega) (by omega) (by omega)
  have h2 := h2.fr k1.1 (by omega) (by omega) (by omega) (by omega)
  refine e_iload_n dd_WF_become_8 rfl ?_
  refine e_aload_n dd_WF_become_9 rfl ?_
  refine e_aload_n dd_WF_become_10 rfl ?_
  refine e_get dd_WF_become_11 kf_WF_20 ho rfl ?_
  refine e_callSv (d1 := rr_Sq_squeeze) (As := [.int (nI m), .ref 4, .ref (11 + 5 * i)]) (st := []) dd_WF_become_14 km_WF_27 (by decide) rfl (Nat.le_of_ble_eq_true rfl) (Nat.le_of_ble_eq_true rfl) rfl rfl (c_Sq_squeeze (by omega) h2 hs (by omega) (by omega) (by omega)) (fun w2 k2 => ?_)
  have ho := (k2.1.2 (8 + 5 * i) (by omega) (by omega)).trans ho
  have hn := k1.2.fr k2.1 (by omega) (by omega) (by omega) (by omega)
  have h2 := h2.fr k2.1 (by omega) (by omega) (by omega) (by omega)
  have hr4 := h2.obj
  refine e_aload_n dd_WF_become_17 rfl ?_
  refine e_iload_n dd_WF_become_18 rfl ?_
  refine e_putx (fs1 := [.ref (9 + 5 * i), .ref (11 + 5 * i), .int (nI m), .int (nI n0), .int (nI ck0), .int x]) dd_WF_become_19 kf_WF_33 ho (Nat.le_of_ble_eq_true rfl) rfl rfl rfl (fun w21 h22n h22v h22f => ?_)
  refine e_aload_n dd_WF_become_22 rfl ?_
  refine e_aload_n dd_WF_become_23 rfl ?_
  refine e_get dd_WF_become_24 kf_WF_37 ((h22f _ (by omega)).trans hr4) rfl ?_
  refine e_putx (fs1 := [.ref (9 + 5 * i), .ref (11 + 5 * i), .int (nI m), .int (nI by_.length), .int (nI ck0), .int x]) dd_WF_become_27 kf_WF_40 h22v (Nat.le_of_ble_eq_true rfl) rfl rfl rfl (fun w23 h24n h24v h24f => ?_)
  have h2 := h2.keep ((h24f 4 (by omega)).trans (h22f 4 (by omega))) ((h24f 5 (by omega)).trans (h22f 5 (by omega)))
  have hr4 := h2.obj
  have k3 := c_Row_check (G := G) h2 (Nat.zero_le _) (Nat.le_refl _)
  rw [List.drop_zero, Nat.sub_zero, List.take_length] at k3
  refine e_aload_n dd_WF_become_30 rfl ?_
  refine e_aload_n dd_WF_become_31 rfl ?_
  refine e_iconst_n 0 dd_WF_become_32 (by decide) ?_
  refine e_aload_n dd_WF_become_33 rfl ?_
  refine e_get dd_WF_become_34 kf_WF_37 hr4 rfl ?_
  refine e_callVp (d1 := rr_Row_check) (As := [.int (nI 0), .int (nI by_.length)]) (st := [.ref (8 + 5 * i)]) dd_WF_become_37 km_WF_41 hr4 rfl (by decide) rfl (Nat.le_of_ble_eq_true rfl) (Nat.le_of_ble_eq_true rfl) rfl rfl (k3) ?_
  refine e_putx (fs1 := [.ref (9 + 5 * i), .ref (11 + 5 * i), .int (nI m), .int (nI by_.length), .int (nI (crc by_)), .int x]) dd_WF_become_40 kf_WF_45 h24v (Nat.le_of_ble_eq_true rfl) rfl rfl rfl (fun w25 h26n h26v h26f => ?_)
  have g : ∀ j, j ≠ 8 + 5 * i → w25.1 j = w2.1 j := fun j hj => (h26f j hj).trans ((h24f j hj).trans (h22f j hj))
  refine e_vret dd_WF_become_43 rfl (pV_of ⟨⟨h26n.trans (h24n.trans (h22n.trans (k2.1.1.trans k1.1.1))), fun j hj => (g j (by omega)).trans ((k2.1.2 j (by omega) (by omega)).trans (k1.1.2 j (by omega) (by omega)))⟩, h26v, hn.keep (g _ (by omega)) (g _ (by omega)), k2.2.keep (g _ (by omega)) (g _ (by omega))⟩)
set_option maxRecDepth 100000 in
set_option maxHeartbeats 4000000 in
theorem c_WF_appendMethodAndName {acc : List Nat} (h : cWF w i nm sq m n ck x) (hi : i < 6) (hm : m < 256) (hd : cR w 38 39 823 acc) (hl : acc.length + 2 + nm.length ≤ 823) : ab_E G mm_WF_appendMethodAndName rr_WF_appendMethodAndName 0 [(0, .ref (8 + 5 * i)), (1, .ref 38)] [] w (pV fun w2 => rS w w2 38 39 ∧ cR w2 38 39 823 (acc ++ ([m, nm.length] ++ nm))) := by
  have hl8 := h.2.1.2.1
  have ho := h.1
  have hr := hd.obj
  refine e_aload_n dd_WF_appendMethodAndName_0 rfl ?_
  refine e_aload_n dd_WF_appendMethodAndName_1 rfl ?_
  refine e_get dd_WF_appendMethodAndName_2 kf_WF_33 ho rfl ?_
  refine e_callVi (d1 := rr_Row_append) (As := [.int (nI m)]) (st := []) dd_WF_appendMethodAndName_5 km_WF_47 hr rfl (by decide) rfl (Nat.le_of_ble_eq_true rfl) (Nat.le_of_ble_eq_true rfl) rfl rfl (c_Row_app hd hm (by omega)) (fun w1 k1 => ?_)
  have h1 := h.fr k1.1 (by omega) (by omega)
  have ho := h1.1
  have hn := h1.2.1
  have hrn := hn.obj
  have hr := k1.2.obj
  have e1 : (acc ++ [m]).length = acc.length + 1 := by simp
  refine e_pop dd_WF_appendMethodAndName_8 rfl ?_
  refine e_aload_n dd_WF_appendMethodAndName_9 rfl ?_
  refine e_aload_n dd_WF_appendMethodAndName_10 rfl ?_
  refine e_get dd_WF_appendMethodAndName_11 kf_WF_14 ho rfl ?_
  refine e_get dd_WF_appendMethodAndName_14 kf_WF_37 hrn rfl ?_
  refine e_callVi (d1 := rr_Row_append) (As := [.int (nI nm.length)]) (st := []) dd_WF_appendMethodAndName_17 km_WF_47 hr rfl (by decide) rfl (Nat.le_of_ble_eq_true rfl) (Nat.le_of_ble_eq_true rfl) rfl rfl (c_Row_app k1.2 (by omega) (by omega)) (fun w2 k2 => ?_)
  have h2 := h1.fr k2.1 (by omega) (by omega)
  have ho := h2.1
  have hn := h2.2.1
  have hr := k2.2.obj
  have e2 : (acc ++ [m] ++ [nm.length]).length = acc.length + 2 := by simp
  refine e_pop dd_WF_appendMethodAndName_20 rfl ?_
  refine e_aload_n dd_WF_appendMethodAndName_21 rfl ?_
  refine e_aload_n dd_WF_appendMethodAndName_22 rfl ?_
  refine e_get dd_WF_appendMethodAndName_23 kf_WF_14 ho rfl ?_
  refine e_callVv (d1 := rr_Row_appendAll) (As := [.ref (9 + 5 * i)]) (st := []) dd_WF_appendMethodAndName_26 km_WF_51 hr rfl (by decide) rfl (Nat.le_of_ble_eq_true rfl) (Nat.le_of_ble_eq_true rfl) rfl rfl (c_Row_appendAll k2.2 hn (by omega) (by omega) (by omega)) (fun w3 k3 => ?_)
  exact e_vret dd_WF_appendMethodAndName_29 rfl (pV_of ⟨k1.1.tr (k2.1.tr k3.1), by have k4 := k3.2; rw [List.append_assoc, List.append_assoc] at k4; simpa using k4⟩)
set_option maxRecDepth 100000 in
set_option maxHeartbeats 4000000 in
theorem c_WF_appendLengthsAndCheck {acc : List Nat} (h : cWF w i nm sq m n ck x) (hi : i < 6) (hn : n < 256) (hc : ck < 65536) (hd : cR w 38 39 823 acc) (hl : acc.length + 4 ≤ 823) : ab_E G mm_WF_appendLengthsAndCheck rr_WF_appendLengthsAndCheck 0 [(0, .ref (8 + 5 * i)), (1, .ref 38)] [] w (pV fun w2 => rS w w2 38 39 ∧ cR w2 38 39 823 (acc ++ [sq.length, n, ck / 256, ck % 256])) := by
  have hl8 := h.2.2.2.1
  have ho := h.1
  have hrs := h.2.2.obj
  have hr := hd.obj
  refine e_aload_n dd_WF_appendLengthsAndCheck_0 rfl ?_
  refine e_aload_n dd_WF_appendLengthsAndCheck_1 rfl ?_
  refine e_get dd_WF_appendLengthsAndCheck_2 kf_WF_20 ho rfl ?_
  refine e_get dd_WF_appendLengthsAndCheck_5 kf_WF_37 hrs rfl ?_
  refine e_callVi (d1 := rr_Row_append) (As := [.int (nI sq.length)]) (st := []) dd_WF_appendLengthsAndCheck_8 km_WF_47 hr rfl (by decide) rfl (Nat.le_of_ble_eq_true rfl) (Nat.le_of_ble_eq_true rfl) rfl rfl (c_Row_app hd (by omega) (by omega)) (fun w1 k1 => ?_)
  have h1 := h.fr k1.1 (by omega) (by omega)
  have ho := h1.1
  have hr := k1.2.obj
  have e1 : (acc ++ [sq.length]).length = acc.length + 1 := by simp
  refine e_pop dd_WF_appendLengthsAndCheck_11 rfl ?_
  refine e_aload_n dd_WF_appendLengthsAndCheck_12 rfl ?_
  refine e_aload_n dd_WF_appendLengthsAndCheck_13 rfl ?_
  refine e_get dd_WF_appendLengthsAndCheck_14 kf_WF_40 ho rfl ?_
  refine e_callVi (d1 := rr_Row_append) (As := [.int (nI n)]) (st := []) dd_WF_appendLengthsAndCheck_17 km_WF_47 hr rfl (by decide) rfl (Nat.le_of_ble_eq_true rfl) (Nat.le_of_ble_eq_true rfl) rfl rfl (c_Row_app k1.2 hn (by omega)) (fun w2 k2 => ?_)
  have h2 := h1.fr k2.1 (by omega) (by omega)
  have ho := h2.1
  have hr := k2.2.obj
  have e2 : (acc ++ [sq.length] ++ [n]).length = acc.length + 2 := by simp
  refine e_pop dd_WF_appendLengthsAndCheck_20 rfl ?_
  refine e_aload_n dd_WF_appendLengthsAndCheck_21 rfl ?_
  refine e_aload_n dd_WF_appendLengthsAndCheck_22 rfl ?_
  refine e_get dd_WF_appendLengthsAndCheck_23 kf_WF_45 ho rfl ?_
  refine e_callVv (d1 := rr_Row_appendNumber) (As := [.int (nI ck)]) (st := []) dd_WF_appendLengthsAndCheck_26 km_WF_54 hr rfl (by decide) rfl (Nat.le_of_ble_eq_true rfl) (Nat.le_of_ble_eq_true rfl) rfl rfl (c_Row_appendNumber k2.2 hc (by omega)) (fun w3 k3 => ?_)
  exact e_vret dd_WF_appendLengthsAndCheck_29 rfl (pV_of ⟨k1.1.tr (k2.1.tr k3.1), by have k4 := k3.2; rw [List.append_assoc, List.append_assoc] at k4; simpa using k4⟩)
set_option maxRecDepth 100000 in
set_option maxHeartbeats 4000000 in
theorem c_Pk_zerosBehind {e : Nat} (he : e < 100000) : ab_E G mm_Pk_zerosBehind rr_Pk_zerosBehind 0 [(0, .int (nI e))] [] w (pP (nI ((4 - e % 4) % 4)) w) := by
  refine e_iconst_n 4 dd_Pk_zerosBehind_0 (by decide) ?_
  refine e_iload_n dd_Pk_zerosBehind_1 rfl ?_
  refine e_iconst_n 4 dd_Pk_zerosBehind_2 (by decide) ?_
  refine e_irem_n dd_Pk_zerosBehind_3 (by omega) (by decide) (by decide) ?_
  refine e_isub_n dd_Pk_zerosBehind_4 (by omega) ?_
  refine e_iconst_n 4 dd_Pk_zerosBehind_5 (by decide) ?_
  refine e_irem_n dd_Pk_zerosBehind_6 (by omega) (by decide) (by decide) ?_
  exact e_iret dd_Pk_zerosBehind_7 rfl (pP_of rfl)
/-- a record's head up to its sum; a directory's entry -/
def hd1 (nm : List Nat) (sl m n ck : Nat) : List Nat := 67 :: ([m, nm.length] ++ nm ++ [sl, n, ck / 256, ck % 256])
def rec1 (acc : List Nat) (nm sq : List Nat) (m n ck : Nat) : List Nat := acc ++ hd1 nm sq.length m n ck ++ [(hd1 nm sq.length m n ck).sum % 256] ++ sq
def recP (acc : List Nat) : List Nat := acc ++ List.replicate ((4 - acc.length % 4) % 4) 0
def ent1 (nm : List Nat) (sl m n ck at_ : Nat) : List Nat := [m, nm.length] ++ nm ++ [at_ / 256, at_ % 256] ++ [sl, n, ck / 256, ck % 256]
theorem hd1_len (nm : List Nat) (sl m n ck : Nat) : (hd1 nm sl m n ck).length = nm.length + 7 := by simp [hd1]
set_option maxRecDepth 100000 in
set_option maxHeartbeats 4000000 in
theorem c_Pk_appendRecord {acc : List Nat} {k : Nat} (h6 : w.1 6 = some (.inr (2, [.ref 7, .int (nI k), .ref 38]))) (h : cWF w i nm sq m n ck x) (hi : i < 6) (hm : m < 256) (hn : n < 256) (hc : ck < 65536) (hd : cR w 38 39 823 acc) (hl : acc.length + 8 + nm.length + sq.length + 3 ≤ 823) : ab_E G mm_Pk_appendRecord rr_Pk_appendRecord 0 [(0, .ref 6), (1, .ref (8 + 5 * i))] [] w (pV fun w2 => rS w w2 38 39 ∧ cR w2 38 39 823 (recP (rec1 acc nm sq m n ck))) := by
  have ho := h.1
  have hr := hd.obj
  have hlt := hd.lt
  refine e_aload_n dd_Pk_appendRecord_0 rfl ?_
  refine e_get dd_Pk_appendRecord_1 kf_Pk_27 h6 rfl ?_
  refine e_get dd_Pk_appendRecord_4 kf_Pk_42 hr rfl ?_
  refine e_istore_n (lv1 := [(0, .ref 6), (1, .ref (8 + 5 * i)), (2, .int (nI acc.length))]) dd_Pk_appendRecord_7 (by decide) rfl ?_
  refine e_aload_n dd_Pk_appendRecord_8 rfl ?_
  refine e_get dd_Pk_appendRecord_9 kf_Pk_27 h6 rfl ?_
  refine e_bipush_n 67 dd_Pk_appendRecord_12 (by decide) ?_
  refine e_callVi (d1 := rr_Row_append) (As := [.int (nI 67)]) (st := []) dd_Pk_appendRecord_14 km_Pk_38 hr rfl (by decide) rfl (Nat.le_of_ble_eq_true rfl) (Nat.le_of_ble_eq_true rfl) rfl rfl (c_Row_app hd (by decide) (by omega)) (fun w1 k1 => ?_)
  have h1 := h.fr k1.1 (by omega) (by omega)
  have ho := h1.1
  have h6 := (k1.1.2 6 (by decide) (by decide)).trans h6
  have hr := k1.2.obj
  have e1 : (acc ++ [67]).length = acc.length + 1 := by simp
  refine e_pop dd_Pk_appendRecord_17 rfl ?_
  refine e_aload_n dd_Pk_appendRecord_18 rfl ?_
  refine e_aload_n dd_Pk_appendRecord_19 rfl ?_
  refine e_get dd_Pk_appendRecord_20 kf_Pk_27 h6 rfl ?_
  refine e_callVv (d1 := rr_WF_appendMethodAndName) (As := [.ref 38]) (st := []) dd_Pk_appendRecord_23 km_Pk_45 ho rfl (by decide) rfl (Nat.le_of_ble_eq_true rfl) (Nat.le_of_ble_eq_true rfl) rfl rfl (c_WF_appendMethodAndName h1 hi hm k1.2 (by omega)) (fun w2 k2 => ?_)
  have h2 := h1.fr k2.1 (by omega) (by omega)
  have ho := h2.1
  have h6 := (k2.1.2 6 (by decide) (by decide)).trans h6
  have hr := k2.2.obj
  have e2 : (acc ++ [67] ++ ([m, nm.length] ++ nm)).length = acc.length + 3 + nm.length := by simp; omega
  refine e_aload_n dd_Pk_appendRecord_26 rfl ?_
  refine e_aload_n dd_Pk_appendRecord_27 rfl ?_
  refine e_get dd_Pk_appendRecord_28 kf_Pk_27 h6 rfl ?_
  refine e_callVv (d1 := rr_WF_appendLengthsAndCheck) (As := [.ref 38]) (st := []) dd_Pk_appendRecord_31 km_Pk_49 ho rfl (by decide) rfl (Nat.le_of_ble_eq_true rfl) (Nat.le_of_ble_eq_true rfl) rfl rfl (c_WF_appendLengthsAndCheck h2 hi hn hc k2.2 (by omega)) (fun w3 k3 => ?_)
  have e3 : acc ++ [67] ++ ([m, nm.length] ++ nm) ++ [sq.length, n, ck / 256, ck % 256] = acc ++ hd1 nm sq.length m n ck := by simp [hd1]
  rw [e3] at k3
  have e4 := hd1_len nm sq.length m n ck
  have h3 := h2.fr k3.1 (by omega) (by omega)
  have ho := h3.1
  have h6 := (k3.1.2 6 (by decide) (by decide)).trans h6
  have hr := k3.2.obj
  generalize hH : hd1 nm sq.length m n ck = H at k3 hr e4
  have e5 : (acc ++ H).length = acc.length + H.length := by simp
  have k4 := c_Row_sum (G := G) k3.2 (b := acc.length) (e := (acc ++ H).length) (by omega) (Nat.le_refl _)
  rw [List.drop_left, show (acc ++ H).length - acc.length = H.length by omega, List.take_length] at k4
  refine e_aload_n dd_Pk_appendRecord_34 rfl ?_
  refine e_get dd_Pk_appendRecord_35 kf_Pk_27 h6 rfl ?_
  refine e_aload_n dd_Pk_appendRecord_38 rfl ?_
  refine e_get dd_Pk_appendRecord_39 kf_Pk_27 h6 rfl ?_
  refine e_iload_n dd_Pk_appendRecord_42 rfl ?_
  refine e_aload_n dd_Pk_appendRecord_43 rfl ?_
  refine e_get dd_Pk_appendRecord_44 kf_Pk_27 h6 rfl ?_
  refine e_get dd_Pk_appendRecord_47 kf_Pk_42 hr rfl ?_
  refine e_callVp (d1 := rr_Row_sum) (As := [.int (nI acc.length), .int (nI (acc ++ H).length)]) (st := [.ref 38]) dd_Pk_appendRecord_50 km_Pk_52 hr rfl (by decide) rfl (Nat.le_of_ble_eq_true rfl) (Nat.le_of_ble_eq_true rfl) rfl rfl (k4) ?_
  refine e_callVi (d1 := rr_Row_append) (As := [.int (nI (H.sum % 256))]) (st := []) dd_Pk_appendRecord_53 km_Pk_38 hr rfl (by decide) rfl (Nat.le_of_ble_eq_true rfl) (Nat.le_of_ble_eq_true rfl) rfl rfl (c_Row_app k3.2 (by omega) (by omega)) (fun w4 k5 => ?_)
  have h4 := h3.fr k5.1 (by omega) (by omega)
  have ho := h4.1
  have h6 := (k5.1.2 6 (by decide) (by decide)).trans h6
  have hr := k5.2.obj
  have hs := h4.2.2
  have e6 : (acc ++ H ++ [H.sum % 256]).length = acc.length + H.length + 1 := by simp; omega
  refine e_pop dd_Pk_appendRecord_56 rfl ?_
  refine e_aload_n dd_Pk_appendRecord_57 rfl ?_
  refine e_get dd_Pk_appendRecord_58 kf_Pk_27 h6 rfl ?_
  refine e_aload_n dd_Pk_appendRecord_61 rfl ?_
  refine e_get dd_Pk_appendRecord_62 kf_Pk_56 ho rfl ?_
  refine e_callVv (d1 := rr_Row_appendAll) (As := [.ref (11 + 5 * i)]) (st := []) dd_Pk_appendRecord_65 km_Pk_59 hr rfl (by decide) rfl (Nat.le_of_ble_eq_true rfl) (Nat.le_of_ble_eq_true rfl) rfl rfl (c_Row_appendAll k5.2 hs (by omega) (by omega) (by omega)) (fun w5 k6 => ?_)
  have h5 := h4.fr k6.1 (by omega) (by omega)
  have ho := h5.1
  have h6 := (k6.1.2 6 (by decide) (by decide)).trans h6
  have hr := k6.2.obj
  have e7 : (acc ++ H ++ [H.sum % 256] ++ sq).length = acc.length + H.length + 1 + sq.length := by simp; omega
  have e9 : acc ++ H ++ [H.sum % 256] ++ sq = rec1 acc nm sq m n ck := by rw [rec1, hH]
  generalize hA : acc ++ H ++ [H.sum % 256] ++ sq = A at k6 hr e7 e9
  refine e_aload_n dd_Pk_appendRecord_68 rfl ?_
  refine e_get dd_Pk_appendRecord_69 kf_Pk_27 h6 rfl ?_
  refine e_iconst_n 0 dd_Pk_appendRecord_72 (by decide) ?_
  refine e_aload_n dd_Pk_appendRecord_73 rfl ?_
  refine e_get dd_Pk_appendRecord_74 kf_Pk_27 h6 rfl ?_
  refine e_get dd_Pk_appendRecord_77 kf_Pk_42 hr rfl ?_
  refine e_callSp (d1 := rr_Pk_zerosBehind) (As := [.int (nI A.length)]) (st := [.int (nI 0), .ref 38]) dd_Pk_appendRecord_80 km_Pk_62 (by decide) rfl (Nat.le_of_ble_eq_true rfl) (Nat.le_of_ble_eq_true rfl) rfl rfl (c_Pk_zerosBehind (by omega)) ?_
  have k7 := c_Row_appendTimes (G := G) k6.2 (b := 0) (t := (4 - A.length % 4) % 4) (by decide) (by omega)
  have e8 : A.length + (4 - A.length % 4) % 4 ≤ 823 := by omega
  rw [if_pos e8, decide_eq_true e8] at k7
  refine e_callVi (d1 := rr_Row_appendTimes) (As := [.int (nI 0), .int (nI ((4 - A.length % 4) % 4))]) (st := []) dd_Pk_appendRecord_83 km_Pk_66 hr rfl (by decide) rfl (Nat.le_of_ble_eq_true rfl) (Nat.le_of_ble_eq_true rfl) rfl rfl (k7) (fun w6 k8 => ?_)
  refine e_pop dd_Pk_appendRecord_86 rfl ?_
  exact e_vret dd_Pk_appendRecord_87 rfl (pV_of ⟨k1.1.tr (k2.1.tr (k3.1.tr (k5.1.tr (k6.1.tr k8.1)))), by rw [← e9]; exact k8.2⟩)
set_option maxRecDepth 100000 in
set_option maxHeartbeats 4000000 in
theorem c_Pk_appendEntry {acc : List Nat} {k at_ : Nat} (h6 : w.1 6 = some (.inr (2, [.ref 7, .int (nI k), .ref 38]))) (h : cWF w i nm sq m n ck (nI at_)) (hi : i < 6) (hm : m < 256) (hn : n < 256) (hc : ck < 65536) (ha : at_ < 65536) (hd : cR w 38 39 823 acc) (hl : acc.length + 8 + nm.length ≤ 823) : ab_E G mm_Pk_appendEntry rr_Pk_appendEntry 0 [(0, .ref 6), (1, .ref (8 + 5 * i))] [] w (pV fun w2 => rS w w2 38 39 ∧ cR w2 38 39 823 (acc ++ ent1 nm sq.length m n ck at_)) := by
  have ho := h.1
  have hr := hd.obj
  refine e_aload_n dd_Pk_appendEntry_0 rfl ?_
  refine e_aload_n dd_Pk_appendEntry_1 rfl ?_
  refine e_get dd_Pk_appendEntry_2 kf_Pk_27 h6 rfl ?_
  refine e_callVv (d1 := rr_WF_appendMethodAndName) (As := [.ref 38]) (st := []) dd_Pk_appendEntry_5 km_Pk_45 ho rfl (by decide) rfl (Nat.le_of_ble_eq_true rfl) (Nat.le_of_ble_eq_true rfl) rfl rfl (c_WF_appendMethodAndName h hi hm hd (by omega)) (fun w1 k1 => ?_)
  have h1 := h.fr k1.1 (by omega) (by omega)
  have ho := h1.1
  have h6 := (k1.1.2 6 (by decide) (by decide)).trans h6
  have hr := k1.2.obj
  have e2 : (acc ++ ([m, nm.length] ++ nm)).length = acc.length + 2 + nm.length := by simp; omega
  refine e_aload_n dd_Pk_appendEntry_8 rfl ?_
  refine e_get dd_Pk_appendEntry_9 kf_Pk_27 h6 rfl ?_
  refine e_aload_n dd_Pk_appendEntry_12 rfl ?_
  refine e_get dd_Pk_appendEntry_13 kf_Pk_70 ho rfl ?_
  refine e_callVv (d1 := rr_Row_appendNumber) (As := [.int (nI at_)]) (st := []) dd_Pk_appendEntry_16 km_Pk_79 hr rfl (by decide) rfl (Nat.le_of_ble_eq_true rfl) (Nat.le_of_ble_eq_true rfl) rfl rfl (c_Row_appendNumber k1.2 ha (by omega)) (fun w2 k2 => ?_)
  have h2 := h1.fr k2.1 (by omega) (by omega)
  have ho := h2.1
  have h6 := (k2.1.2 6 (by decide) (by decide)).trans h6
  have hr := k2.2.obj
  have e3 : (acc ++ ([m, nm.length] ++ nm) ++ [at_ / 256, at_ % 256]).length = acc.length + 4 + nm.length := by simp; omega
  refine e_aload_n dd_Pk_appendEntry_19 rfl ?_
  refine e_aload_n dd_Pk_appendEntry_20 rfl ?_
  refine e_get dd_Pk_appendEntry_21 kf_Pk_27 h6 rfl ?_
  refine e_callVv (d1 := rr_WF_appendLengthsAndCheck) (As := [.ref 38]) (st := []) dd_Pk_appendEntry_24 km_Pk_49 ho rfl (by decide) rfl (Nat.le_of_ble_eq_true rfl) (Nat.le_of_ble_eq_true rfl) rfl rfl (c_WF_appendLengthsAndCheck h2 hi hn hc k2.2 (by omega)) (fun w3 k3 => ?_)
  exact e_vret dd_Pk_appendEntry_27 rfl (pV_of ⟨k1.1.tr (k2.1.tr k3.1), by have k4 := k3.2; simpa [ent1] using k4⟩)
end WF
end
section
/-! ArchiveBench$Packer: the drafts of images. -/
def wfAt (w : ab_W) (i : Nat) (f : FW) (x : Int32) : Prop := cWF w i f.1 (fsq f) f.2.1 f.2.2.length (crc f.2.2) x
/-- the packer and what waits -/
def cPk (w : ab_W) (fs : List FW) : Prop := fs.length ≤ 6 ∧ w.1 6 = some (.inr (2, [.ref 7, .int (nI fs.length), .ref 38])) ∧ (∃ g, w.1 7 = some (.inl (1, 6, .inr (.inr (.inr (.inr g))))) ∧ ∀ i, i < 6 → g i = some (8 + 5 * i)) ∧ (∀ i, i < 6 → ∃ nm sq m n ck x, cWF w i nm sq m n ck x) ∧ ∀ (i : Nat) (f : FW), fs[i]? = some f → fwOK f ∧ ∃ x, wfAt w i f x
theorem cPk.keep {w w2 : ab_W} {fs : List FW} (h : cPk w fs) (hG : ∀ j, 6 ≤ j → j < 38 → w2.1 j = w.1 j) : cPk w2 fs := by
  have kw : ∀ i nm sq m n ck x, i < 6 → cWF w i nm sq m n ck x → cWF w2 i nm sq m n ck x := fun i nm sq m n ck x hi hc => ⟨(hG _ (by omega) (by omega)).trans hc.1, hc.2.1.keep (hG _ (by omega) (by omega)) (hG _ (by omega) (by omega)), hc.2.2.keep (hG _ (by omega) (by omega)) (hG _ (by omega) (by omega))⟩
  obtain ⟨h1, h2, ⟨g, h3, h4⟩, h5, h6⟩ := h
  refine ⟨h1, (hG 6 (by omega) (by omega)).trans h2, ⟨g, (hG 7 (by omega) (by omega)).trans h3, h4⟩, fun i hi => ?_, fun i f hf => ?_⟩
  · obtain ⟨nm, sq, m, n, ck, x, hc⟩ := h5 i hi
    exact ⟨nm, sq, m, n, ck, x, kw i nm sq m n ck x hi hc⟩
  · obtain ⟨h7, x, h8⟩ := h6 i f hf
    have hi : i < fs.length := (List.getElem?_eq_some_iff.mp hf).1
    exact ⟨h7, x, kw i _ _ _ _ _ _ (by omega) h8⟩
theorem cPk.fr {w w2 : ab_W} {fs : List FW} (h : cPk w fs) (hS : rS w w2 38 39) : cPk w2 fs := h.keep (fun j h1 h2 => hS.2 j (by omega) (by omega))
/-- the chain of files: behind each one zeros up to a fourth place -/
def frec (acc : List Nat) (f : FW) : List Nat := recP (rec1 acc f.1 (fsq f) f.2.1 f.2.2.length (crc f.2.2))
def chn (fs : List FW) : List Nat := fs.foldl frec []
def chain (fs : List FW) : List Nat := chn fs ++ [69]
theorem recP_len (acc : List Nat) : (recP acc).length = acc.length + (4 - acc.length % 4) % 4 := by simp [recP]
theorem rec1_len (acc nm sq : List Nat) (m n ck : Nat) : (rec1 acc nm sq m n ck).length = acc.length + nm.length + 8 + sq.length := by
  have h := hd1_len nm sq.length m n ck
  simp only [rec1, List.length_append, h, List.length_cons, List.length_nil]
  omega
theorem frec_len {acc : List Nat} {f : FW} {k : Nat} (hf : fwOK f) (h : acc.length ≤ 136 * k) : (frec acc f).length ≤ 136 * (k + 1) := by
  have h1 := fsq_len hf
  have h2 := hf.2.1
  have h3 := rec1_len acc f.1 (fsq f) f.2.1 f.2.2.length (crc f.2.2)
  rw [frec, recP_len]
  omega
theorem take_snoc {α : Type} {fs : List α} {i : Nat} {f : α} (h : fs[i]? = some f) : fs.take (i + 1) = fs.take i ++ [f] := by
  rw [List.take_add_one, h]
  rfl
theorem chn_len {fs : List FW} (h : ∀ (i : Nat) (f : FW), fs[i]? = some f → fwOK f) : ∀ i, i ≤ fs.length → (chn (fs.take i)).length ≤ 136 * i
  | 0, _ => by simp [chn]
  | i + 1, hi => by
    have h1 := chn_len h i (by omega)
    have h2 : fs[i]? = some fs[i] := List.getElem?_eq_getElem (by omega)
    rw [take_snoc h2, chn, List.foldl_append]
    exact frec_len (h i _ h2) h1
section PK
variable {G : ab_G} {w : ab_W} {fs : List FW} {dr : List Nat}
set_option maxRecDepth 100000 in
set_option maxHeartbeats 4000000 in
theorem l_Pk_draftChain (hp : cPk w fs) : ∀ (k i : Nat) (w1 : ab_W), i + k = fs.length → rS w w1 38 39 → cR w1 38 39 823 (chn (fs.take i)) → ab_E G mm_Pk_draftChain rr_Pk_draftChain 10 [(0, .ref 6), (1, .int (nI i))] [] w1 (pV fun w2 => rS w w2 38 39 ∧ cR w2 38 39 823 (chain fs)) := by
  have hok : ∀ (i : Nat) (f : FW), fs[i]? = some f → fwOK f := fun i f hf => (hp.2.2.2.2 i f hf).1
  intro k
  induction k with
  | zero =>
    intro i w1 hi hS hd
    have h1 := hp.fr hS
    obtain ⟨hl6, h6, ⟨g, h7, hg⟩, -, hfs⟩ := h1
    have e0 : i = fs.length := by omega
    subst e0
    have hlen := chn_len hok _ (Nat.le_refl _)
    rw [List.take_length] at hd hlen
    have hr := hd.obj
    refine e_iload_n dd_Pk_draftChain_10 rfl ?_
    refine e_aload_n dd_Pk_draftChain_11 rfl ?_
    refine e_get dd_Pk_draftChain_12 kf_Pk_18 h6 rfl ?_
    refine e_icmp_ge_n (tgt := 34) dd_Pk_draftChain_15 (by decide) (by omega) (by omega) (fun _ => ?_) (fun h9 => absurd h9 (by omega))
    refine e_aload_n dd_Pk_draftChain_34 rfl ?_
    refine e_get dd_Pk_draftChain_35 kf_Pk_27 h6 rfl ?_
    refine e_bipush_n 69 dd_Pk_draftChain_38 (by decide) ?_
    refine e_callVi (d1 := rr_Row_append) (As := [.int (nI 69)]) (st := []) dd_Pk_draftChain_40 km_Pk_38 hr rfl (by decide) rfl (Nat.le_of_ble_eq_true rfl) (Nat.le_of_ble_eq_true rfl) rfl rfl (c_Row_app hd (by decide) (by omega)) (fun w2 k1 => ?_)
    refine e_pop dd_Pk_draftChain_43 rfl ?_
    exact e_vret dd_Pk_draftChain_44 rfl (pV_of ⟨hS.tr k1.1, k1.2⟩)
  | succ k ih =>
    intro i w1 hi hS hd
    have h1 := hp.fr hS
    obtain ⟨hl6, h6, ⟨g, h7, hg⟩, -, hfs⟩ := h1
    have hlen := chn_len hok i (by omega)
    have hfi : fs[i]? = some fs[i] := List.getElem?_eq_getElem (by omega)
    generalize fs[i] = f at hfi
    obtain ⟨⟨o1, o2, o3, o4, o5, o6⟩, x, hwf⟩ := hfs i f hfi
    have hsl := fsq_len (hok i f hfi)
    have hcl := crc_lt f.2.2
    refine e_iload_n dd_Pk_draftChain_10 rfl ?_
    refine e_aload_n dd_Pk_draftChain_11 rfl ?_
    refine e_get dd_Pk_draftChain_12 kf_Pk_18 h6 rfl ?_
    refine e_icmp_ge_n (tgt := 34) dd_Pk_draftChain_15 (by decide) (by omega) (by omega) (fun h9 => absurd h9 (by omega)) (fun _ => ?_)
    refine e_aload_n dd_Pk_draftChain_18 rfl ?_
    refine e_aload_n dd_Pk_draftChain_19 rfl ?_
    refine e_get dd_Pk_draftChain_20 kf_Pk_11 h6 rfl ?_
    refine e_iload_n dd_Pk_draftChain_23 rfl ?_
    refine e_aald (v := .ref (8 + 5 * i)) dd_Pk_draftChain_24 h7 rfl rfl (by omega) (by decide) (by rw [hg _ (by omega)]; rfl) ?_
    refine e_callVv (d1 := rr_Pk_appendRecord) (As := [.ref (8 + 5 * i)]) (st := []) dd_Pk_draftChain_25 km_Pk_34 h6 rfl (by decide) rfl (Nat.le_of_ble_eq_true rfl) (Nat.le_of_ble_eq_true rfl) rfl rfl (c_Pk_appendRecord h6 hwf (by omega) (by omega) (by omega) hcl hd (by omega)) (fun w2 k1 => ?_)
    refine e_iinc_n (a := i) (k := 1) (lv1 := [(0, .ref 6), (1, .int (nI (i + 1)))]) dd_Pk_draftChain_28 rfl (by decide) (by decide) rfl ?_
    refine e_goto (tgt := 10) dd_Pk_draftChain_31 (by decide) ?_
    exact ih (i + 1) w2 (by omega) (hS.tr k1.1) (by rw [take_snoc hfi, chn, List.foldl_append]; exact k1.2)
set_option maxRecDepth 100000 in
set_option maxHeartbeats 4000000 in
theorem c_Pk_draftChain (hp : cPk w fs) (hd : cR w 38 39 823 dr) : ab_E G mm_Pk_draftChain rr_Pk_draftChain 0 [(0, .ref 6)] [] w (pV fun w2 => rS w w2 38 39 ∧ cR w2 38 39 823 (chain fs)) := by
  have h6 := hp.2.1
  have hr := hd.obj
  refine e_aload_n dd_Pk_draftChain_0 rfl ?_
  refine e_get dd_Pk_draftChain_1 kf_Pk_27 h6 rfl ?_
  refine e_iconst_n 0 dd_Pk_draftChain_4 (by decide) ?_
  refine e_callVv (d1 := rr_Row_cutTo) (As := [.int (nI 0)]) (st := []) dd_Pk_draftChain_5 km_Pk_31 hr rfl (by decide) rfl (Nat.le_of_ble_eq_true rfl) (Nat.le_of_ble_eq_true rfl) rfl rfl (c_Row_cutTo hd (k := 0) (by decide)) (fun w1 k1 => ?_)
  refine e_iconst_n 0 dd_Pk_draftChain_8 (by decide) ?_
  refine e_istore_n (lv1 := [(0, .ref 6), (1, .int (nI 0))]) dd_Pk_draftChain_9 (by decide) rfl ?_
  have k2 := k1.2
  rw [List.take_zero] at k2
  exact l_Pk_draftChain hp fs.length 0 w1 (by omega) k1.1 k2
/-- the data of an index; its directory, the first file's place being at_ -/
def dat (fs : List FW) : List Nat := 73 :: fs.flatMap fsq
def ent (f : FW) (at_ : Nat) : List Nat := ent1 f.1 (fsq f).length f.2.1 f.2.2.length (crc f.2.2) at_
def plc (fs : List FW) (i : Nat) : Nat := (dat (fs.take i)).length
def entN (fs : List FW) : Nat → List Nat
  | 0 => []
  | i + 1 => entN fs i ++ (match fs[i]? with
    | some f => ent f (plc fs i)
    | none => [])
def index (fs : List FW) : List Nat := dat fs ++ entN fs fs.length ++ [88, fs.length, (dat fs).length / 256, (dat fs).length % 256, crc (entN fs fs.length) / 256, crc (entN fs fs.length) % 256]
theorem dat_snoc {fs : List FW} {i : Nat} {f : FW} (h : fs[i]? = some f) : dat (fs.take (i + 1)) = dat (fs.take i) ++ fsq f := by
  rw [take_snoc h, dat, dat, List.flatMap_append]
  simp
theorem dat_len {fs : List FW} (h : ∀ (i : Nat) (f : FW), fs[i]? = some f → fwOK f) : ∀ i, i ≤ fs.length → (dat (fs.take i)).length ≤ 1 + 120 * i
  | 0, _ => by simp [dat]
  | i + 1, hi => by
    have h1 := dat_len h i (by omega)
    have h2 : fs[i]? = some fs[i] := List.getElem?_eq_getElem (by omega)
    have h3 := fsq_len (h i _ h2)
    rw [dat_snoc h2, List.length_append]
    omega
theorem ent_len (f : FW) (at_ : Nat) : (ent f at_).length = f.1.length + 8 := by simp [ent, ent1]
theorem entN_len {fs : List FW} (h : ∀ (i : Nat) (f : FW), fs[i]? = some f → fwOK f) : ∀ i, i ≤ fs.length → (entN fs i).length ≤ 16 * i
  | 0, _ => by simp [entN]
  | i + 1, hi => by
    have h1 := entN_len h i (by omega)
    have h2 : fs[i]? = some fs[i] := List.getElem?_eq_getElem (by omega)
    have h3 := (h i _ h2).2.1
    have h4 := ent_len fs[i] (plc fs i)
    rw [entN, h2, List.length_append]
    show _ + (ent fs[i] (plc fs i)).length ≤ _
    omega
/-- the waiting files, those before k with their places in the index -/
def cPkI (w : ab_W) (fs : List FW) (k : Nat) : Prop := cPk w fs ∧ ∀ i f, i < k → fs[i]? = some f → wfAt w i f (nI (plc fs i))
theorem cPkI.fr {w w2 : ab_W} {fs : List FW} {k : Nat} (h : cPkI w fs k) (hS : rS w w2 38 39) : cPkI w2 fs k := ⟨h.1.fr hS, fun i f hi hf => by
  have h6 := h.1.1
  have h2 : i < fs.length := (List.getElem?_eq_some_iff.mp hf).1
  exact (h.2 i f hi hf).fr hS (by omega) (by omega)⟩
/-- one more place is written -/
theorem cPkI.put {w w2 : ab_W} {fs : List FW} {k : Nat} {f : FW} {x : Int32} (h : cPkI w fs k) (hk : fs[k]? = some f) (hw : wfAt w k f x) (hv : w2.1 (8 + 5 * k) = some (.inr (3, [.ref (9 + 5 * k), .ref (11 + 5 * k), .int (nI f.2.1), .int (nI f.2.2.length), .int (nI (crc f.2.2)), .int (nI (plc fs k))]))) (hf : ∀ j, j ≠ 8 + 5 * k → w2.1 j = w.1 j) : cPkI w2 fs (k + 1) := by
  obtain ⟨⟨h1, h2, ⟨g, h3, h4⟩, h5, h6⟩, h7⟩ := h
  have hkl : k < fs.length := (List.getElem?_eq_some_iff.mp hk).1
  have kw : ∀ i nm sq m n ck x, i ≠ k → cWF w i nm sq m n ck x → cWF w2 i nm sq m n ck x := fun i nm sq m n ck x hi hc => ⟨(hf _ (by omega)).trans hc.1, hc.2.1.keep (hf _ (by omega)) (hf _ (by omega)), hc.2.2.keep (hf _ (by omega)) (hf _ (by omega))⟩
  have kk : wfAt w2 k f (nI (plc fs k)) := ⟨hv, hw.2.1.keep (hf _ (by omega)) (hf _ (by omega)), hw.2.2.keep (hf _ (by omega)) (hf _ (by omega))⟩
  refine ⟨⟨h1, (hf 6 (by omega)).trans h2, ⟨g, (hf 7 (by omega)).trans h3, h4⟩, fun i hi => ?_, fun i f2 hf2 => ?_⟩, fun i f2 hi hf2 => ?_⟩
  · by_cases e : i = k
    · subst e
      exact ⟨_, _, _, _, _, _, kk⟩
    · obtain ⟨nm, sq, m, n, ck, x, hc⟩ := h5 i hi
      exact ⟨nm, sq, m, n, ck, x, kw i nm sq m n ck x e hc⟩
  · by_cases e : i = k
    · subst e
      rw [hk] at hf2
      cases hf2
      exact ⟨(h6 i f hk).1, _, kk⟩
    · obtain ⟨h8, x, h9⟩ := h6 i f2 hf2
      exact ⟨h8, x, kw i _ _ _ _ _ _ e h9⟩
  · by_cases e : i = k
    · subst e
      rw [hk] at hf2
      cases hf2
      exact kk
    · exact kw i _ _ _ _ _ _ e (h7 i f2 (by omega) hf2)
set_option maxRecDepth 100000 in
set_option maxHeartbeats 4000000 in
theorem l_Pk_entries (hok : ∀ (i : Nat) (f : FW), fs[i]? = some f → fwOK f) (D : Nat) : ∀ (k i : Nat) (w1 : ab_W), i + k = fs.length → rG w w1 6 40 → cPkI w1 fs fs.length → cR w1 38 39 823 (dat fs ++ entN fs i) → D = (dat fs).length → ab_E G mm_Pk_draftIndex rr_Pk_draftIndex 76 [(0, .ref 6), (1, .int (nI D)), (2, .int (nI i))] [] w1 (pV fun w2 => rG w w2 6 40 ∧ cPk w2 fs ∧ cR w2 38 39 823 (index fs)) := by
  intro k
  have hdl := dat_len hok fs.length (Nat.le_refl _)
  rw [List.take_length] at hdl
  induction k with
  | zero =>
    intro i w1 hi hG hp hd hD
    subst hD
    obtain ⟨hl6, h6, -, -, hfs⟩ := hp.1
    have e0 : i = fs.length := by omega
    subst e0
    have hlen := entN_len hok fs.length (Nat.le_refl _)
    generalize hE : entN fs fs.length = E at hd hlen
    have hcE := crc_lt E
    have e1 : (dat fs ++ E).length = (dat fs).length + E.length := by simp
    have hr := hd.obj
    have k0 := c_Row_check (G := G) hd (b := (dat fs).length) (e := (dat fs ++ E).length) (by omega) (Nat.le_refl _)
    rw [List.drop_left, show (dat fs ++ E).length - (dat fs).length = E.length by omega, List.take_length] at k0
    refine e_iload_n dd_Pk_draftIndex_76 rfl ?_
    refine e_aload_n dd_Pk_draftIndex_77 rfl ?_
    refine e_get dd_Pk_draftIndex_78 kf_Pk_18 h6 rfl ?_
    refine e_icmp_ge_n (tgt := 100) dd_Pk_draftIndex_81 (by decide) (by omega) (by omega) (fun _ => ?_) (fun h9 => absurd h9 (by omega))
    refine e_aload_n dd_Pk_draftIndex_100 rfl ?_
    refine e_get dd_Pk_draftIndex_101 kf_Pk_27 h6 rfl ?_
    refine e_iload_n dd_Pk_draftIndex_104 rfl ?_
    refine e_aload_n dd_Pk_draftIndex_105 rfl ?_
    refine e_get dd_Pk_draftIndex_106 kf_Pk_27 h6 rfl ?_
    refine e_get dd_Pk_draftIndex_109 kf_Pk_42 hr rfl ?_
    refine e_callVp (d1 := rr_Row_check) (As := [.int (nI (dat fs).length), .int (nI (dat fs ++ E).length)]) (st := []) dd_Pk_draftIndex_112 km_Pk_76 hr rfl (by decide) rfl (Nat.le_of_ble_eq_true rfl) (Nat.le_of_ble_eq_true rfl) rfl rfl (k0) ?_
    refine e_istore_n (lv1 := [(0, .ref 6), (1, .int (nI (dat fs).length)), (2, .int (nI (crc E)))]) dd_Pk_draftIndex_115 (by decide) rfl ?_
    refine e_aload_n dd_Pk_draftIndex_116 rfl ?_
    refine e_get dd_Pk_draftIndex_117 kf_Pk_27 h6 rfl ?_
    refine e_bipush_n 88 dd_Pk_draftIndex_120 (by decide) ?_
    refine e_callVi (d1 := rr_Row_append) (As := [.int (nI 88)]) (st := []) dd_Pk_draftIndex_122 km_Pk_38 hr rfl (by decide) rfl (Nat.le_of_ble_eq_true rfl) (Nat.le_of_ble_eq_true rfl) rfl rfl (c_Row_app hd (by decide) (by omega)) (fun w2 k1 => ?_)
    have h6 := (k1.1.2 6 (by decide) (by decide)).trans h6
    have hr := k1.2.obj
    have e2 : (dat fs ++ E ++ [88]).length = (dat fs ++ E).length + 1 := by simp; omega
    refine e_pop dd_Pk_draftIndex_125 rfl ?_
    refine e_aload_n dd_Pk_draftIndex_126 rfl ?_
    refine e_get dd_Pk_draftIndex_127 kf_Pk_27 h6 rfl ?_
    refine e_aload_n dd_Pk_draftIndex_130 rfl ?_
    refine e_get dd_Pk_draftIndex_131 kf_Pk_18 h6 rfl ?_
    refine e_callVi (d1 := rr_Row_append) (As := [.int (nI fs.length)]) (st := []) dd_Pk_draftIndex_134 km_Pk_38 hr rfl (by decide) rfl (Nat.le_of_ble_eq_true rfl) (Nat.le_of_ble_eq_true rfl) rfl rfl (c_Row_app k1.2 (by omega) (by omega)) (fun w3 k2 => ?_)
    have h6 := (k2.1.2 6 (by decide) (by decide)).trans h6
    have hr := k2.2.obj
    have e3 : (dat fs ++ E ++ [88] ++ [fs.length]).length = (dat fs ++ E).length + 2 := by simp; omega
    refine e_pop dd_Pk_draftIndex_137 rfl ?_
    refine e_aload_n dd_Pk_draftIndex_138 rfl ?_
    refine e_get dd_Pk_draftIndex_139 kf_Pk_27 h6 rfl ?_
    refine e_iload_n dd_Pk_draftIndex_142 rfl ?_
    refine e_callVv (d1 := rr_Row_appendNumber) (As := [.int (nI (dat fs).length)]) (st := []) dd_Pk_draftIndex_143 km_Pk_79 hr rfl (by decide) rfl (Nat.le_of_ble_eq_true rfl) (Nat.le_of_ble_eq_true rfl) rfl rfl (c_Row_appendNumber k2.2 (by omega) (by omega)) (fun w4 k3 => ?_)
    have h6 := (k3.1.2 6 (by decide) (by decide)).trans h6
    have hr := k3.2.obj
    have e4 : (dat fs ++ E ++ [88] ++ [fs.length] ++ [(dat fs).length / 256, (dat fs).length % 256]).length = (dat fs ++ E).length + 4 := by simp; omega
    refine e_aload_n dd_Pk_draftIndex_146 rfl ?_
    refine e_get dd_Pk_draftIndex_147 kf_Pk_27 h6 rfl ?_
    refine e_iload_n dd_Pk_draftIndex_150 rfl ?_
    refine e_callVv (d1 := rr_Row_appendNumber) (As := [.int (nI (crc E))]) (st := []) dd_Pk_draftIndex_151 km_Pk_79 hr rfl (by decide) rfl (Nat.le_of_ble_eq_true rfl) (Nat.le_of_ble_eq_true rfl) rfl rfl (c_Row_appendNumber k3.2 hcE (by omega)) (fun w5 k4 => ?_)
    have kS := k1.1.tr (k2.1.tr (k3.1.tr k4.1))
    have k5 := k4.2
    refine e_vret dd_Pk_draftIndex_154 rfl (pV_of ⟨hG.tr (kS.G (by omega) (by omega)), hp.1.fr kS, ?_⟩)
    rw [index, hE]
    simpa using k5
  | succ k ih =>
    intro i w1 hi hG hp hd hD
    obtain ⟨hl6, h6, ⟨g, h7, hg⟩, -, hfs⟩ := hp.1
    have hfi : fs[i]? = some fs[i] := List.getElem?_eq_getElem (by omega)
    generalize fs[i] = f at hfi
    have hwf := hp.2 i f (by omega) hfi
    obtain ⟨o1, o2, o3, o4, o5, o6⟩ := hok i f hfi
    have hcl := crc_lt f.2.2
    have hpl : plc fs i < 65536 := by
      have := dat_len hok i (by omega)
      unfold plc
      omega
    have hlen := entN_len hok i (by omega)
    have e1 : (dat fs ++ entN fs i).length = (dat fs).length + (entN fs i).length := by simp
    refine e_iload_n dd_Pk_draftIndex_76 rfl ?_
    refine e_aload_n dd_Pk_draftIndex_77 rfl ?_
    refine e_get dd_Pk_draftIndex_78 kf_Pk_18 h6 rfl ?_
    refine e_icmp_ge_n (tgt := 100) dd_Pk_draftIndex_81 (by decide) (by omega) (by omega) (fun h9 => absurd h9 (by omega)) (fun _ => ?_)
    refine e_aload_n dd_Pk_draftIndex_84 rfl ?_
    refine e_aload_n dd_Pk_draftIndex_85 rfl ?_
    refine e_get dd_Pk_draftIndex_86 kf_Pk_11 h6 rfl ?_
    refine e_iload_n dd_Pk_draftIndex_89 rfl ?_
    refine e_aald (v := .ref (8 + 5 * i)) dd_Pk_draftIndex_90 h7 rfl rfl (by omega) (by decide) (by rw [hg _ (by omega)]; rfl) ?_
    refine e_callVv (d1 := rr_Pk_appendEntry) (As := [.ref (8 + 5 * i)]) (st := []) dd_Pk_draftIndex_91 km_Pk_73 h6 rfl (by decide) rfl (Nat.le_of_ble_eq_true rfl) (Nat.le_of_ble_eq_true rfl) rfl rfl (c_Pk_appendEntry h6 hwf (by omega) (by omega) (by omega) hcl hpl hd (by omega)) (fun w2 k1 => ?_)
    refine e_iinc_n (a := i) (k := 1) (lv1 := [(0, .ref 6), (1, .int (nI D)), (2, .int (nI (i + 1)))]) dd_Pk_draftIndex_94 rfl (by decide) (by decide) rfl ?_
    refine e_goto (tgt := 76) dd_Pk_draftIndex_97 (by decide) ?_
    exact ih (i + 1) w2 (by omega) (hG.tr (k1.1.G (by omega) (by omega))) (hp.fr k1.1) (by rw [entN, hfi, ← List.append_assoc]; exact k1.2) hD
set_option maxRecDepth 100000 in
set_option maxHeartbeats 4000000 in
theorem l_Pk_data (hok : ∀ (i : Nat) (f : FW), fs[i]? = some f → fwOK f) : ∀ (k i : Nat) (w1 : ab_W), i + k = fs.length → rG w w1 6 40 → cPkI w1 fs i → cR w1 38 39 823 (dat (fs.take i)) → ab_E G mm_Pk_draftIndex rr_Pk_draftIndex 20 [(0, .ref 6), (1, .int (nI i))] [] w1 (pV fun w2 => rG w w2 6 40 ∧ cPk w2 fs ∧ cR w2 38 39 823 (index fs)) := by
  intro k
  induction k with
  | zero =>
    intro i w1 hi hG hp hd
    obtain ⟨hl6, h6, -, -, hfs⟩ := hp.1
    have e0 : i = fs.length := by omega
    subst e0
    rw [List.take_length] at hd
    have hr := hd.obj
    refine e_iload_n dd_Pk_draftIndex_20 rfl ?_
    refine e_aload_n dd_Pk_draftIndex_21 rfl ?_
    refine e_get dd_Pk_draftIndex_22 kf_Pk_18 h6 rfl ?_
    refine e_icmp_ge_n (tgt := 66) dd_Pk_draftIndex_25 (by decide) (by omega) (by omega) (fun _ => ?_) (fun h9 => absurd h9 (by omega))
    refine e_aload_n dd_Pk_draftIndex_66 rfl ?_
    refine e_get dd_Pk_draftIndex_67 kf_Pk_27 h6 rfl ?_
    refine e_get dd_Pk_draftIndex_70 kf_Pk_42 hr rfl ?_
    refine e_istore_n (lv1 := [(0, .ref 6), (1, .int (nI (dat fs).length))]) dd_Pk_draftIndex_73 (by decide) rfl ?_
    refine e_iconst_n 0 dd_Pk_draftIndex_74 (by decide) ?_
    refine e_istore_n (lv1 := [(0, .ref 6), (1, .int (nI (dat fs).length)), (2, .int (nI 0))]) dd_Pk_draftIndex_75 (by decide) rfl ?_
    exact l_Pk_entries hok _ fs.length 0 w1 (by omega) hG hp (by rw [entN, List.append_nil]; exact hd) rfl
  | succ k ih =>
    intro i w1 hi hG hp hd
    obtain ⟨hl6, h6, ⟨g, h7, hg⟩, -, hfs⟩ := hp.1
    have hfi : fs[i]? = some fs[i] := List.getElem?_eq_getElem (by omega)
    generalize fs[i] = f at hfi
    obtain ⟨hof, x, hwf⟩ := hfs i f hfi
    have ho := hwf.1
    have hsl := fsq_len hof
    have hlen := dat_len hok i (by omega)
    have hr := hd.obj
    refine e_iload_n dd_Pk_draftIndex_20 rfl ?_
    refine e_aload_n dd_Pk_draftIndex_21 rfl ?_
    refine e_get dd_Pk_draftIndex_22 kf_Pk_18 h6 rfl ?_
    refine e_icmp_ge_n (tgt := 66) dd_Pk_draftIndex_25 (by decide) (by omega) (by omega) (fun h9 => absurd h9 (by omega)) (fun _ => ?_)
    refine e_aload_n dd_Pk_draftIndex_28 rfl ?_
    refine e_get dd_Pk_draftIndex_29 kf_Pk_11 h6 rfl ?_
    refine e_iload_n dd_Pk_draftIndex_32 rfl ?_
    refine e_aald (v := .ref (8 + 5 * i)) dd_Pk_draftIndex_33 h7 rfl rfl (by omega) (by decide) (by rw [hg _ (by omega)]; rfl) ?_
    refine e_aload_n dd_Pk_draftIndex_34 rfl ?_
    refine e_get dd_Pk_draftIndex_35 kf_Pk_27 h6 rfl ?_
    refine e_get dd_Pk_draftIndex_38 kf_Pk_42 hr rfl ?_
    refine e_putx (fs1 := [.ref (9 + 5 * i), .ref (11 + 5 * i), .int (nI f.2.1), .int (nI f.2.2.length), .int (nI (crc f.2.2)), .int (nI (dat (fs.take i)).length)]) dd_Pk_draftIndex_41 kf_Pk_70 ho (Nat.le_of_ble_eq_true rfl) rfl rfl rfl (fun w21 h22n h22v h22f => ?_)
    have hp2 : cPkI w21 fs (i + 1) := hp.put hfi hwf h22v h22f
    have hs2 := hwf.2.2.keep (h22f _ (by omega)) (h22f _ (by omega))
    have hd2 := hd.keep (h22f 38 (by omega)) (h22f 39 (by omega))
    refine e_aload_n dd_Pk_draftIndex_44 rfl ?_
    refine e_get dd_Pk_draftIndex_45 kf_Pk_27 ((h22f _ (by omega)).trans h6) rfl ?_
    refine e_aload_n dd_Pk_draftIndex_48 rfl ?_
    refine e_get dd_Pk_draftIndex_49 kf_Pk_11 ((h22f _ (by omega)).trans h6) rfl ?_
    refine e_iload_n dd_Pk_draftIndex_52 rfl ?_
    refine e_aald (v := .ref (8 + 5 * i)) dd_Pk_draftIndex_53 ((h22f _ (by omega)).trans h7) rfl rfl (by omega) (by decide) (by rw [hg _ (by omega)]; rfl) ?_
    refine e_get dd_Pk_draftIndex_54 kf_Pk_56 h22v rfl ?_
    refine e_callVv (d1 := rr_Row_appendAll) (As := [.ref (11 + 5 * i)]) (st := []) dd_Pk_draftIndex_57 km_Pk_59 ((h22f _ (by omega)).trans hr) rfl (by decide) rfl (Nat.le_of_ble_eq_true rfl) (Nat.le_of_ble_eq_true rfl) rfl rfl (c_Row_appendAll hd2 hs2 (by omega) (by omega) (by omega)) (fun w5 k1 => ?_)
    refine e_iinc_n (a := i) (k := 1) (lv1 := [(0, .ref 6), (1, .int (nI (i + 1)))]) dd_Pk_draftIndex_60 rfl (by decide) (by decide) rfl ?_
    refine e_goto (tgt := 20) dd_Pk_draftIndex_63 (by decide) ?_
    exact ih (i + 1) w5 (by omega) (hG.tr (rG.tr ⟨h22n, fun j hj => h22f j (by omega)⟩ (k1.1.G (by omega) (by omega)))) (hp2.fr k1.1) (by rw [dat_snoc hfi]; exact k1.2)
set_option maxRecDepth 100000 in
set_option maxHeartbeats 4000000 in
theorem c_Pk_draftIndex (hp : cPk w fs) (hd : cR w 38 39 823 dr) : ab_E G mm_Pk_draftIndex rr_Pk_draftIndex 0 [(0, .ref 6)] [] w (pV fun w2 => rG w w2 6 40 ∧ cPk w2 fs ∧ cR w2 38 39 823 (index fs)) := by
  have hok : ∀ (i : Nat) (f : FW), fs[i]? = some f → fwOK f := fun i f hf => (hp.2.2.2.2 i f hf).1
  have h6 := hp.2.1
  have hr := hd.obj
  refine e_aload_n dd_Pk_draftIndex_0 rfl ?_
  refine e_get dd_Pk_draftIndex_1 kf_Pk_27 h6 rfl ?_
  refine e_iconst_n 0 dd_Pk_draftIndex_4 (by decide) ?_
  refine e_callVv (d1 := rr_Row_cutTo) (As := [.int (nI 0)]) (st := []) dd_Pk_draftIndex_5 km_Pk_31 hr rfl (by decide) rfl (Nat.le_of_ble_eq_true rfl) (Nat.le_of_ble_eq_true rfl) rfl rfl (c_Row_cutTo hd (k := 0) (by decide)) (fun w1 k1 => ?_)
  have k2 := k1.2
  rw [List.take_zero] at k2
  have h6 := (k1.1.2 6 (by decide) (by decide)).trans h6
  have hr := k2.obj
  refine e_aload_n dd_Pk_draftIndex_8 rfl ?_
  refine e_get dd_Pk_draftIndex_9 kf_Pk_27 h6 rfl ?_
  refine e_bipush_n 73 dd_Pk_draftIndex_12 (by decide) ?_
  refine e_callVi (d1 := rr_Row_append) (As := [.int (nI 73)]) (st := []) dd_Pk_draftIndex_14 km_Pk_38 hr rfl (by decide) rfl (Nat.le_of_ble_eq_true rfl) (Nat.le_of_ble_eq_true rfl) rfl rfl (c_Row_app k2 (by decide) (by decide)) (fun w2 k3 => ?_)
  refine e_pop dd_Pk_draftIndex_17 rfl ?_
  refine e_iconst_n 0 dd_Pk_draftIndex_18 (by decide) ?_
  refine e_istore_n (lv1 := [(0, .ref 6), (1, .int (nI 0))]) dd_Pk_draftIndex_19 (by decide) rfl ?_
  exact l_Pk_data hok fs.length 0 w2 (by omega) ((k1.1.tr k3.1).G (by omega) (by omega)) ⟨(hp.fr k1.1).fr k3.1, fun i f hi _ => absurd hi (by omega)⟩ k3.2
end PK
end
section
/-! Bytes, characters; ArchiveBench$Archive: what it reads with. -/
def nchI (x : Int32) : Bool := decide ((nI 97 ≤ x ∧ x ≤ nI 122) ∨ x = nI 46 ∨ x = nI 47)
def nch (b : Nat) : Bool := decide ((97 ≤ b ∧ b ≤ 122) ∨ b = 46 ∨ b = 47)
def isBI (x : Int32) : Bool := decide (0 ≤ x ∧ x ≤ nI 255)
theorem nchI_n {b : Nat} (h : b < 2 ^ 31) : nchI (nI b) = nch b := by
  unfold nchI nch
  apply decide_eq_decide.mpr
  rw [nI_leI (by decide) h, nI_leI h (by decide), nI_eq h (by decide), nI_eq h (by decide)]
theorem isBI_n {x : Int32} (h : isBI x = true) : ∃ b : Nat, b < 256 ∧ x = nI b := by
  obtain ⟨h1, h2⟩ := of_decide_eq_true h
  obtain ⟨j, hj, e⟩ := nI_of2 (n := 255) (M := nI 255) (by decide) (Int32.not_lt.mpr h1) h2
  exact ⟨j, by omega, e⟩
theorem nchI_b {x : Int32} (h : nchI x = true) : ∃ b : Nat, b < 256 ∧ x = nI b ∧ nch b = true := by
  have h0 := of_decide_eq_true h
  have key : ∃ b : Nat, b < 256 ∧ x = nI b := by
    rcases h0 with ⟨h1, h2⟩ | h1 | h1
    · have h3 : ¬ x < 0 := by
        intro h4
        have h5 : nI 97 < 0 := Int32.lt_of_le_of_lt h1 h4
        exact absurd h5 (by decide)
      obtain ⟨j, hj, e⟩ := nI_of2 (n := 122) (M := nI 122) (by decide) h3 h2
      exact ⟨j, by omega, e⟩
    · exact ⟨46, by decide, h1⟩
    · exact ⟨47, by decide, h1⟩
  obtain ⟨b, hb, rfl⟩ := key
  exact ⟨b, hb, rfl, by rw [← nchI_n (by omega)]; exact h⟩
section AR
variable {G : ab_G} {w : ab_W} {o cu li : Nat} {en : Int32} {im : List Nat}
set_option maxRecDepth 100000 in
set_option maxHeartbeats 4000000 in
theorem c_AB_isNameCharacter (x : Int32) : ab_E G mm_AB_isNameCharacter rr_AB_isNameCharacter 0 [(0, .int x)] [] w (pP (bI (nchI x)) w) := by
  refine e_iload_n dd_AB_isNameCharacter_0 rfl ?_
  refine e_bipush_n 97 dd_AB_isNameCharacter_1 (by decide) ?_
  refine e_icmp_lt (tgt := 12) dd_AB_isNameCharacter_3 (by decide) (fun c3 => ?_) (fun c3 => ?_)
  · refine e_iload_n dd_AB_isNameCharacter_12 rfl ?_
    refine e_bipush_n 46 dd_AB_isNameCharacter_13 (by decide) ?_
    refine e_icmp_eq (tgt := 24) dd_AB_isNameCharacter_15 (by decide) (fun c15 => ?_) (fun c15 => ?_)
    · refine e_iconst_n 1 dd_AB_isNameCharacter_24 (by decide) ?_
      refine e_goto (tgt := 29) dd_AB_isNameCharacter_25 (by decide) ?_
      exact e_zret dd_AB_isNameCharacter_29 rfl (by decide) (pP_of (bI_t (decide_eq_true (Or.inr (Or.inl c15)))))
    · refine e_iload_n dd_AB_isNameCharacter_18 rfl ?_
      refine e_bipush_n 47 dd_AB_isNameCharacter_19 (by decide) ?_
      refine e_icmp_ne (tgt := 28) dd_AB_isNameCharacter_21 (by decide) (fun c21 => ?_) (fun c21 => ?_)
      · refine e_iconst_n 0 dd_AB_isNameCharacter_28 (by decide) ?_
        exact e_zret dd_AB_isNameCharacter_29 rfl (by decide) (pP_of (bI_f (decide_eq_false (fun h9 => by
              rcases h9 with h9 | h9 | h9
              · exact absurd c3 (Int32.not_lt.mpr h9.1)
              · exact c15 h9
              · exact c21 h9))))
      · refine e_iconst_n 1 dd_AB_isNameCharacter_24 (by decide) ?_
        refine e_goto (tgt := 29) dd_AB_isNameCharacter_25 (by decide) ?_
        exact e_zret dd_AB_isNameCharacter_29 rfl (by decide) (pP_of (bI_t (decide_eq_true (Or.inr (Or.inr c21)))))
  · refine e_iload_n dd_AB_isNameCharacter_6 rfl ?_
    refine e_bipush_n 122 dd_AB_isNameCharacter_7 (by decide) ?_
    refine e_icmp_le (tgt := 24) dd_AB_isNameCharacter_9 (by decide) (fun c9 => ?_) (fun c9 => ?_)
    · refine e_iconst_n 1 dd_AB_isNameCharacter_24 (by decide) ?_
      refine e_goto (tgt := 29) dd_AB_isNameCharacter_25 (by decide) ?_
      exact e_zret dd_AB_isNameCharacter_29 rfl (by decide) (pP_of (bI_t (decide_eq_true (Or.inl ⟨Int32.not_lt.mp c3, c9⟩))))
    · refine e_iload_n dd_AB_isNameCharacter_12 rfl ?_
      refine e_bipush_n 46 dd_AB_isNameCharacter_13 (by decide) ?_
      refine e_icmp_eq (tgt := 24) dd_AB_isNameCharacter_15 (by decide) (fun c15 => ?_) (fun c15 => ?_)
      · refine e_iconst_n 1 dd_AB_isNameCharacter_24 (by decide) ?_
        refine e_goto (tgt := 29) dd_AB_isNameCharacter_25 (by decide) ?_
        exact e_zret dd_AB_isNameCharacter_29 rfl (by decide) (pP_of (bI_t (decide_eq_true (Or.inr (Or.inl c15)))))
      · refine e_iload_n dd_AB_isNameCharacter_18 rfl ?_
        refine e_bipush_n 47 dd_AB_isNameCharacter_19 (by decide) ?_
        refine e_icmp_ne (tgt := 28) dd_AB_isNameCharacter_21 (by decide) (fun c21 => ?_) (fun c21 => ?_)
        · refine e_iconst_n 0 dd_AB_isNameCharacter_28 (by decide) ?_
          exact e_zret dd_AB_isNameCharacter_29 rfl (by decide) (pP_of (bI_f (decide_eq_false (fun h9 => by
                rcases h9 with h9 | h9 | h9
                · exact c9 h9.2
                · exact c15 h9
                · exact c21 h9))))
        · refine e_iconst_n 1 dd_AB_isNameCharacter_24 (by decide) ?_
          refine e_goto (tgt := 29) dd_AB_isNameCharacter_25 (by decide) ?_
          exact e_zret dd_AB_isNameCharacter_29 rfl (by decide) (pP_of (bI_t (decide_eq_true (Or.inr (Or.inr c21)))))
set_option maxRecDepth 100000 in
set_option maxHeartbeats 4000000 in
theorem c_AB_isByte (x : Int32) : ab_E G mm_AB_isByte rr_AB_isByte 0 [(0, .int x)] [] w (pP (bI (isBI x)) w) := by
  refine e_iload_n dd_AB_isByte_0 rfl ?_
  refine e_if_lt (tgt := 15) dd_AB_isByte_1 (by decide) (fun c1 => ?_) (fun c1 => ?_)
  · refine e_iconst_n 0 dd_AB_isByte_15 (by decide) ?_
    exact e_zret dd_AB_isByte_16 rfl (by decide) (pP_of (bI_f (decide_eq_false (fun h9 => absurd c1 (Int32.not_lt.mpr h9.1)))))
  · refine e_iload_n dd_AB_isByte_4 rfl ?_
    refine e_sipush_n 255 dd_AB_isByte_5 (by decide) ?_
    refine e_icmp_gt (tgt := 15) dd_AB_isByte_8 (by decide) (fun c8 => ?_) (fun c8 => ?_)
    · refine e_iconst_n 0 dd_AB_isByte_15 (by decide) ?_
      exact e_zret dd_AB_isByte_16 rfl (by decide) (pP_of (bI_f (decide_eq_false (fun h9 => absurd c8 (Int32.not_lt.mpr h9.2)))))
    · refine e_iconst_n 1 dd_AB_isByte_11 (by decide) ?_
      refine e_goto (tgt := 16) dd_AB_isByte_12 (by decide) ?_
      exact e_zret dd_AB_isByte_16 rfl (by decide) (pP_of (bI_t (decide_eq_true ⟨Int32.not_lt.mp c1, Int32.not_lt.mp c8⟩)))
/-- the archive at 40: how many are open, where an opening ended, cursor, limit -/
def aO (w : ab_W) (o : Nat) (en : Int32) (cu li : Nat) : Prop := w.1 40 = some (.inr (4, [.ref 41, .ref 43, .int (nI o), .int en, .int (nI cu), .int (nI li)]))
/-- an opening has failed at pl -/
def aF (w : ab_W) (pl : Nat) : Prop := ∃ cu li, aO w 0 (nI pl) cu li
/-- only the archive's own cell, and open file i, have changed -/
def rX (w w2 : ab_W) (i : Nat) : Prop := w2.2 = w.2 ∧ ∀ j, j ≠ 40 → (j < 44 + 3 * i ∨ 47 + 3 * i ≤ j) → w2.1 j = w.1 j
theorem rX.tr {w w1 w2 : ab_W} {i : Nat} (h1 : rX w w1 i) (h2 : rX w1 w2 i) : rX w w2 i := ⟨h2.1.trans h1.1, fun j a b => (h2.2 j a b).trans (h1.2 j a b)⟩
theorem rX.rf {w : ab_W} {i : Nat} : rX w w i := ⟨rfl, fun _ _ _ => rfl⟩
theorem rS.X {w w2 : ab_W} (h : rS w w2 40 40) (i : Nat) : rX w w2 i := ⟨h.1, fun j h1 _ => h.2 j h1 h1⟩
theorem cR.X {w w2 : ab_W} {i r a cap : Nat} {xs : List Nat} (h : cR w r a cap xs) (hX : rX w w2 i) (h1 : r ≠ 40) (h2 : a ≠ 40) (h3 : r < 44 + 3 * i ∨ 47 + 3 * i ≤ r) (h4 : a < 44 + 3 * i ∨ 47 + 3 * i ≤ a) : cR w2 r a cap xs := h.keep (hX.2 r h1 h3) (hX.2 a h2 h4)
/-- what reading comes to: a failure with its code and place, or a value -/
abbrev Rd (α : Type) : Type := (Int32 × Nat) ⊕ α
def rdP {α : Type} (o : Rd α) (v : α → Nat) (F : Nat → ab_W → Prop) (S : α → ab_W → Prop) : Option Value → ab_W → Prop := match o with
  | .inl e => pI e.1 (F e.2)
  | .inr b => pI (nI (v b)) (S b)
theorem rdF_of {α : Type} {v : α → Nat} {F : Nat → ab_W → Prop} {S : α → ab_W → Prop} {code : Int32} {pl : Nat} {w : ab_W} (h : F pl w) : rdP (.inl (code, pl)) v F S (some (.int code)) w := ⟨rfl, h⟩
theorem rdS_of {α : Type} {v : α → Nat} {F : Nat → ab_W → Prop} {S : α → ab_W → Prop} {b : α} {w : ab_W} (h : S b w) : rdP (.inr b) v F S (some (.int (nI (v b)))) w := ⟨rfl, h⟩
def rB (im : List Nat) (li c : Nat) : Rd Nat := if c < li then .inr (im.getD c 0) else .inl (-3, li)
def rBt (im : List Nat) (li c lo hi : Nat) : Rd Nat := if c < li then (if im.getD c 0 < lo ∨ hi < im.getD c 0 then .inl (-4, c) else .inr (im.getD c 0)) else .inl (-3, li)
def rNum (im : List Nat) (li c : Nat) : Rd Nat := if c + 1 < li then .inr (im.getD c 0 * 256 + im.getD (c + 1) 0) else .inl (-3, li)
set_option maxRecDepth 100000 in
set_option maxHeartbeats 4000000 in
theorem c_Ar_stop (h40 : aO w o en cu li) (code x : Int32) : ab_E G mm_Ar_stop rr_Ar_stop 0 [(0, .ref 40), (1, .int code), (2, .int x)] [] w (pI code fun w2 => rS w w2 40 40 ∧ aO w2 0 x cu li) := by
  have h40 : w.1 40 = _ := h40
  refine e_aload_n dd_Ar_stop_0 rfl ?_
  refine e_iconst_n 0 dd_Ar_stop_1 (by decide) ?_
  refine e_putx (fs1 := [.ref 41, .ref 43, .int (nI 0), .int en, .int (nI cu), .int (nI li)]) dd_Ar_stop_2 kf_Ar_27 h40 (Nat.le_of_ble_eq_true rfl) rfl rfl rfl (fun w1 h2n h2v h2f => ?_)
  refine e_aload_n dd_Ar_stop_5 rfl ?_
  refine e_iload_n dd_Ar_stop_6 rfl ?_
  refine e_putx (fs1 := [.ref 41, .ref 43, .int (nI 0), .int x, .int (nI cu), .int (nI li)]) dd_Ar_stop_7 kf_Ar_31 h2v (Nat.le_of_ble_eq_true rfl) rfl rfl rfl (fun w3 h4n h4v h4f => ?_)
  refine e_iload_n dd_Ar_stop_10 rfl ?_
  exact e_iret dd_Ar_stop_11 rfl (pI_of rfl ⟨⟨h4n.trans h2n, fun i h8 h9 => (h4f i h8).trans (h2f i h8)⟩, h4v⟩)
set_option maxRecDepth 100000 in
set_option maxHeartbeats 4000000 in
theorem c_Ar_stopF (h40 : aO w o en cu li) (code : Int32) {pl : Nat} : ab_E G mm_Ar_stop rr_Ar_stop 0 [(0, .ref 40), (1, .int code), (2, .int (nI pl))] [] w (pI code fun w2 => rS w w2 40 40 ∧ aF w2 pl) :=
  (c_Ar_stop h40 code (nI pl)).mono (fun v w2 h => ⟨h.1, h.2.1, cu, li, h.2.2⟩)
set_option maxRecDepth 100000 in
set_option maxHeartbeats 4000000 in
theorem c_Ar_start (h40 : aO w o en cu li) {c l : Nat} : ab_E G mm_Ar_start rr_Ar_start 0 [(0, .ref 40), (1, .int (nI c)), (2, .int (nI l))] [] w (pV fun w2 => rS w w2 40 40 ∧ aO w2 0 (-1) c l) := by
  have h40 : w.1 40 = _ := h40
  refine e_aload_n dd_Ar_start_0 rfl ?_
  refine e_iconst_n 0 dd_Ar_start_1 (by decide) ?_
  refine e_putx (fs1 := [.ref 41, .ref 43, .int (nI 0), .int en, .int (nI cu), .int (nI li)]) dd_Ar_start_2 kf_Ar_27 h40 (Nat.le_of_ble_eq_true rfl) rfl rfl rfl (fun w1 h2n h2v h2f => ?_)
  refine e_aload_n dd_Ar_start_5 rfl ?_
  refine e_iconst (v := -1) dd_Ar_start_6 (by decide) ?_
  refine e_putx (fs1 := [.ref 41, .ref 43, .int (nI 0), .int (-1), .int (nI cu), .int (nI li)]) dd_Ar_start_7 kf_Ar_31 h2v (Nat.le_of_ble_eq_true rfl) rfl rfl rfl (fun w3 h4n h4v h4f => ?_)
  refine e_aload_n dd_Ar_start_10 rfl ?_
  refine e_iload_n dd_Ar_start_11 rfl ?_
  refine e_putx (fs1 := [.ref 41, .ref 43, .int (nI 0), .int (-1), .int (nI c), .int (nI li)]) dd_Ar_start_12 kf_Ar_41 h4v (Nat.le_of_ble_eq_true rfl) rfl rfl rfl (fun w5 h6n h6v h6f => ?_)
  refine e_aload_n dd_Ar_start_15 rfl ?_
  refine e_iload_n dd_Ar_start_16 rfl ?_
  refine e_putx (fs1 := [.ref 41, .ref 43, .int (nI 0), .int (-1), .int (nI c), .int (nI l)]) dd_Ar_start_17 kf_Ar_44 h6v (Nat.le_of_ble_eq_true rfl) rfl rfl rfl (fun w7 h8n h8v h8f => ?_)
  exact e_vret dd_Ar_start_20 rfl (pV_of ⟨⟨h8n.trans (h6n.trans (h4n.trans h2n)), fun i h8 h9 => (h8f i h8).trans ((h6f i h8).trans ((h4f i h8).trans (h2f i h8)))⟩, h8v⟩)
set_option maxRecDepth 100000 in
set_option maxHeartbeats 4000000 in
theorem c_Ar_close (h40 : aO w o en cu li) : ab_E G mm_Ar_close rr_Ar_close 0 [(0, .ref 40)] [] w (pV fun w2 => rS w w2 40 40 ∧ aO w2 0 en cu li) := by
  have h40 : w.1 40 = _ := h40
  refine e_aload_n dd_Ar_close_0 rfl ?_
  refine e_iconst_n 0 dd_Ar_close_1 (by decide) ?_
  refine e_putx (fs1 := [.ref 41, .ref 43, .int (nI 0), .int en, .int (nI cu), .int (nI li)]) dd_Ar_close_2 kf_Ar_27 h40 (Nat.le_of_ble_eq_true rfl) rfl rfl rfl (fun w1 h2n h2v h2f => ?_)
  exact e_vret dd_Ar_close_5 rfl (pV_of ⟨⟨h2n, fun i h8 h9 => h2f i h8⟩, h2v⟩)
set_option maxRecDepth 100000 in
set_option maxHeartbeats 4000000 in
theorem c_Ar_has (h40 : aO w o en cu li) (ho : o < 2 ^ 31) (x : Int32) : ab_E G mm_Ar_has rr_Ar_has 0 [(0, .ref 40), (1, .int x)] [] w (pP (bI (decide (0 ≤ x ∧ x < nI o))) w) := by
  have h40 : w.1 40 = _ := h40
  refine e_iload_n dd_Ar_has_0 rfl ?_
  refine e_if_lt (tgt := 16) dd_Ar_has_1 (by decide) (fun c1 => ?_) (fun c1 => ?_)
  · refine e_iconst_n 0 dd_Ar_has_16 (by decide) ?_
    exact e_zret dd_Ar_has_17 rfl (by decide) (pP_of (bI_f (decide_eq_false (fun h9 => absurd c1 (Int32.not_lt.mpr h9.1)))))
  · refine e_iload_n dd_Ar_has_4 rfl ?_
    refine e_aload_n dd_Ar_has_5 rfl ?_
    refine e_get dd_Ar_has_6 kf_Ar_27 h40 rfl ?_
    refine e_icmp_ge (tgt := 16) dd_Ar_has_9 (by decide) (fun c9 => ?_) (fun c9 => ?_)
    · refine e_iconst_n 0 dd_Ar_has_16 (by decide) ?_
      exact e_zret dd_Ar_has_17 rfl (by decide) (pP_of (bI_f (decide_eq_false (fun h9 => absurd h9.2 (Int32.not_lt.mpr c9)))))
    · refine e_iconst_n 1 dd_Ar_has_12 (by decide) ?_
      refine e_goto (tgt := 17) dd_Ar_has_13 (by decide) ?_
      exact e_zret dd_Ar_has_17 rfl (by decide) (pP_of (bI_t (decide_eq_true ⟨Int32.not_lt.mp c1, Int32.not_le.mp c9⟩)))
set_option maxRecDepth 100000 in
set_option maxHeartbeats 4000000 in
theorem c_Ar_readByte (h40 : aO w o en cu li) (him : cR w 41 42 600 im) (hli : li ≤ im.length) (hcu : cu < 100000) : ab_E G mm_Ar_readByte rr_Ar_readByte 0 [(0, .ref 40)] [] w (rdP (rB im li cu) id (fun pl w2 => rS w w2 40 40 ∧ aF w2 pl) (fun _ w2 => rS w w2 40 40 ∧ aO w2 o en (cu + 1) li)) := by
  have h40' := h40
  have h40 : w.1 40 = _ := h40
  have hr := him.obj
  have hlt := him.lt
  unfold rB
  refine e_aload_n dd_Ar_readByte_0 rfl ?_
  refine e_get dd_Ar_readByte_1 kf_Ar_41 h40 rfl ?_
  refine e_aload_n dd_Ar_readByte_4 rfl ?_
  refine e_get dd_Ar_readByte_5 kf_Ar_44 h40 rfl ?_
  refine e_icmp_lt_n (tgt := 22) dd_Ar_readByte_8 (by decide) (by omega) (by omega) (fun c8 => ?_) (fun c8 => ?_)
  · rw [if_pos c8]
    refine e_aload_n dd_Ar_readByte_22 rfl ?_
    refine e_get dd_Ar_readByte_23 kf_Ar_14 h40 rfl ?_
    refine e_aload_n dd_Ar_readByte_26 rfl ?_
    refine e_get dd_Ar_readByte_27 kf_Ar_41 h40 rfl ?_
    refine e_callVp (d1 := rr_Row_at) (As := [.int (nI cu)]) (st := []) dd_Ar_readByte_30 km_Ar_94 hr rfl (by decide) rfl (Nat.le_of_ble_eq_true rfl) (Nat.le_of_ble_eq_true rfl) rfl rfl (c_Row_ati him (by omega)) ?_
    refine e_istore_n (lv1 := [(0, .ref 40), (1, .int (nI (im.getD cu 0)))]) dd_Ar_readByte_33 (by decide) rfl ?_
    refine e_aload_n dd_Ar_readByte_34 rfl ?_
    refine e_dup dd_Ar_readByte_35 rfl ?_
    refine e_get dd_Ar_readByte_36 kf_Ar_41 h40 rfl ?_
    refine e_iconst_n 1 dd_Ar_readByte_39 (by decide) ?_
    refine e_iadd_n dd_Ar_readByte_40 ?_
    refine e_putx (fs1 := [.ref 41, .ref 43, .int (nI o), .int en, .int (nI (cu + 1)), .int (nI li)]) dd_Ar_readByte_41 kf_Ar_41 h40 (Nat.le_of_ble_eq_true rfl) rfl rfl rfl (fun w1 h2n h2v h2f => ?_)
    refine e_iload_n dd_Ar_readByte_44 rfl ?_
    exact e_iret dd_Ar_readByte_45 rfl (rdS_of ⟨⟨h2n, fun i h8 h9 => h2f i h8⟩, h2v⟩)
  · rw [if_neg (by omega)]
    refine e_aload_n dd_Ar_readByte_11 rfl ?_
    refine e_bipush (v := -3) dd_Ar_readByte_12 (by decide) ?_
    refine e_aload_n dd_Ar_readByte_14 rfl ?_
    refine e_get dd_Ar_readByte_15 kf_Ar_44 h40 rfl ?_
    refine e_callVi (d1 := rr_Ar_stop) (As := [.int (-3), .int (nI li)]) (st := []) dd_Ar_readByte_18 km_Ar_58 h40 rfl (by decide) rfl (Nat.le_of_ble_eq_true rfl) (Nat.le_of_ble_eq_true rfl) rfl rfl (c_Ar_stopF h40' (-3)) (fun w1 k1 => ?_)
    exact e_iret dd_Ar_readByte_21 rfl (rdF_of k1)
theorem rdP_F {α : Type} {o : Rd α} {v : α → Nat} {F : Nat → ab_W → Prop} {S : α → ab_W → Prop} {e : Int32 × Nat} (h : o = .inl e) : rdP o v F S = pI e.1 (F e.2) := by rw [h]; rfl
theorem rdP_S {α : Type} {o : Rd α} {v : α → Nat} {F : Nat → ab_W → Prop} {S : α → ab_W → Prop} {b : α} (h : o = .inr b) : rdP o v F S = pI (nI (v b)) (S b) := by rw [h]; rfl
theorem rB_S {im : List Nat} {li c b : Nat} (h : rB im li c = .inr b) : c < li ∧ b = im.getD c 0 := by
  unfold rB at h
  split at h
  · cases h
    exact ⟨by assumption, rfl⟩
  · cases h
theorem rB_F {im : List Nat} {li c : Nat} {e : Int32 × Nat} (h : rB im li c = .inl e) : li ≤ c ∧ e = (-3, li) := by
  unfold rB at h
  split at h
  · cases h
  · cases h
    exact ⟨by omega, rfl⟩
set_option maxRecDepth 100000 in
set_option maxHeartbeats 4000000 in
theorem c_Ar_readBetween (h40 : aO w o en cu li) (him : cR w 41 42 600 im) (hli : li ≤ im.length) (hcu : cu < 100000) {lo hi : Nat} (hlo : lo < 2 ^ 31) (hhi : hi < 2 ^ 31) : ab_E G mm_Ar_readBetween rr_Ar_readBetween 0 [(0, .ref 40), (1, .int (nI lo)), (2, .int (nI hi))] [] w (rdP (rBt im li cu lo hi) id (fun pl w2 => rS w w2 40 40 ∧ aF w2 pl) (fun _ w2 => rS w w2 40 40 ∧ aO w2 o en (cu + 1) li)) := by
  have hby := him.2.2.2.2.1
  have hlt := him.lt
  have h40o : w.1 40 = _ := h40
  have k0 := c_Ar_readByte (G := G) h40 him hli hcu
  unfold rBt
  unfold rB at k0
  by_cases c : cu < li
  · rw [if_pos c] at k0 ⊢
    have g1 := getD_lt hby (j := cu) (by omega)
    refine e_aload_n dd_Ar_readBetween_0 rfl ?_
    refine e_callVi (d1 := rr_Ar_readByte) (As := []) (st := []) dd_Ar_readBetween_1 km_Ar_54 h40o rfl (by decide) rfl (Nat.le_of_ble_eq_true rfl) (Nat.le_of_ble_eq_true rfl) rfl rfl (k0) (fun w1 k1 => ?_)
    generalize im.getD cu 0 = b at g1 ⊢
    have h41 : w1.1 40 = _ := k1.2
    refine e_istore_n (lv1 := [(0, .ref 40), (1, .int (nI lo)), (2, .int (nI hi)), (3, .int (nI b))]) dd_Ar_readBetween_4 (by decide) rfl ?_
    refine e_iload_n dd_Ar_readBetween_5 rfl ?_
    refine e_if_lt_n (tgt := 32) dd_Ar_readBetween_6 (by decide) (by omega) ?_
    refine e_iload_n dd_Ar_readBetween_9 rfl ?_
    refine e_iload_n dd_Ar_readBetween_10 rfl ?_
    refine e_icmp_lt_n (tgt := 19) dd_Ar_readBetween_11 (by decide) (by omega) (by omega) (fun c11 => ?_) (fun c11 => ?_)
    · rw [if_pos (Or.inl c11)]
      refine e_aload_n dd_Ar_readBetween_19 rfl ?_
      refine e_bipush (v := -4) dd_Ar_readBetween_20 (by decide) ?_
      refine e_aload_n dd_Ar_readBetween_22 rfl ?_
      refine e_get dd_Ar_readBetween_23 kf_Ar_41 h41 rfl ?_
      refine e_iconst_n 1 dd_Ar_readBetween_26 (by decide) ?_
      refine e_isub_n dd_Ar_readBetween_27 (by omega) ?_
      refine e_top (y := nI cu) (by congr 1) ?_
      refine e_callVi (d1 := rr_Ar_stop) (As := [.int (-4), .int (nI cu)]) (st := []) dd_Ar_readBetween_28 km_Ar_58 h41 rfl (by decide) rfl (Nat.le_of_ble_eq_true rfl) (Nat.le_of_ble_eq_true rfl) rfl rfl (c_Ar_stopF k1.2 (-4)) (fun w2 k2 => ?_)
      exact e_iret dd_Ar_readBetween_31 rfl (rdF_of ⟨k1.1.tr k2.1, k2.2⟩)
    · refine e_iload_n dd_Ar_readBetween_14 rfl ?_
      refine e_iload_n dd_Ar_readBetween_15 rfl ?_
      refine e_icmp_le_n (tgt := 32) dd_Ar_readBetween_16 (by decide) (by omega) (by omega) (fun c16 => ?_) (fun c16 => ?_)
      · rw [if_neg (by omega)]
        refine e_iload_n dd_Ar_readBetween_32 rfl ?_
        exact e_iret dd_Ar_readBetween_33 rfl (rdS_of k1)
      · rw [if_pos (Or.inr c16)]
        refine e_aload_n dd_Ar_readBetween_19 rfl ?_
        refine e_bipush (v := -4) dd_Ar_readBetween_20 (by decide) ?_
        refine e_aload_n dd_Ar_readBetween_22 rfl ?_
        refine e_get dd_Ar_readBetween_23 kf_Ar_41 h41 rfl ?_
        refine e_iconst_n 1 dd_Ar_readBetween_26 (by decide) ?_
        refine e_isub_n dd_Ar_readBetween_27 (by omega) ?_
        refine e_top (y := nI cu) (by congr 1) ?_
        refine e_callVi (d1 := rr_Ar_stop) (As := [.int (-4), .int (nI cu)]) (st := []) dd_Ar_readBetween_28 km_Ar_58 h41 rfl (by decide) rfl (Nat.le_of_ble_eq_true rfl) (Nat.le_of_ble_eq_true rfl) rfl rfl (c_Ar_stopF k1.2 (-4)) (fun w2 k2 => ?_)
        exact e_iret dd_Ar_readBetween_31 rfl (rdF_of ⟨k1.1.tr k2.1, k2.2⟩)
  · rw [if_neg c] at k0 ⊢
    refine e_aload_n dd_Ar_readBetween_0 rfl ?_
    refine e_callVi (d1 := rr_Ar_readByte) (As := []) (st := []) dd_Ar_readBetween_1 km_Ar_54 h40o rfl (by decide) rfl (Nat.le_of_ble_eq_true rfl) (Nat.le_of_ble_eq_true rfl) rfl rfl (k0) (fun w1 k1 => ?_)
    refine e_istore_n (lv1 := [(0, .ref 40), (1, .int (nI lo)), (2, .int (nI hi)), (3, .int (-3))]) dd_Ar_readBetween_4 (by decide) rfl ?_
    refine e_iload_n dd_Ar_readBetween_5 rfl ?_
    refine e_if_lt (tgt := 32) dd_Ar_readBetween_6 (by decide) (fun _ => ?_) (fun h9 => absurd h9 (by decide))
    refine e_iload_n dd_Ar_readBetween_32 rfl ?_
    exact e_iret dd_Ar_readBetween_33 rfl (rdF_of k1)
set_option maxRecDepth 100000 in
set_option maxHeartbeats 4000000 in
theorem c_Ar_readNumber (h40 : aO w o en cu li) (him : cR w 41 42 600 im) (hli : li ≤ im.length) (hcu : cu < 90000) : ab_E G mm_Ar_readNumber rr_Ar_readNumber 0 [(0, .ref 40)] [] w (rdP (rNum im li cu) id (fun pl w2 => rS w w2 40 40 ∧ aF w2 pl) (fun _ w2 => rS w w2 40 40 ∧ aO w2 o en (cu + 2) li)) := by
  have hby := him.2.2.2.2.1
  have hlt := him.lt
  have h40o : w.1 40 = _ := h40
  have k0 := c_Ar_readByte (G := G) h40 him hli (by omega)
  unfold rNum
  unfold rB at k0
  by_cases c : cu < li
  · rw [if_pos c] at k0
    have g1 := getD_lt hby (j := cu) (by omega)
    refine e_aload_n dd_Ar_readNumber_0 rfl ?_
    refine e_callVi (d1 := rr_Ar_readByte) (As := []) (st := []) dd_Ar_readNumber_1 km_Ar_54 h40o rfl (by decide) rfl (Nat.le_of_ble_eq_true rfl) (Nat.le_of_ble_eq_true rfl) rfl rfl (k0) (fun w1 k1 => ?_)
    have h41 : w1.1 40 = _ := k1.2
    have him1 := him.fr k1.1 (by decide) (by decide) (by decide) (by decide)
    have k2 := c_Ar_readByte (G := G) k1.2 him1 hli (by omega)
    unfold rB at k2
    by_cases c2 : cu + 1 < li
    · rw [if_pos c2] at k2 ⊢
      have g2 := getD_lt hby (j := cu + 1) (by omega)
      refine e_istore_n (lv1 := [(0, .ref 40), (1, .int (nI (im.getD cu 0)))]) dd_Ar_readNumber_4 (by decide) rfl ?_
      refine e_iload_n dd_Ar_readNumber_5 rfl ?_
      refine e_if_ge_n (tgt := 11) dd_Ar_readNumber_6 (by decide) (by omega) ?_
      refine e_aload_n dd_Ar_readNumber_11 rfl ?_
      refine e_callVi (d1 := rr_Ar_readByte) (As := []) (st := []) dd_Ar_readNumber_12 km_Ar_54 h41 rfl (by decide) rfl (Nat.le_of_ble_eq_true rfl) (Nat.le_of_ble_eq_true rfl) rfl rfl (k2) (fun w2 k3 => ?_)
      refine e_istore_n (lv1 := [(0, .ref 40), (1, .int (nI (im.getD cu 0))), (2, .int (nI (im.getD (cu + 1) 0)))]) dd_Ar_readNumber_15 (by decide) rfl ?_
      refine e_iload_n dd_Ar_readNumber_16 rfl ?_
      refine e_if_ge_n (tgt := 24) dd_Ar_readNumber_17 (by decide) (by omega) ?_
      refine e_iload_n dd_Ar_readNumber_24 rfl ?_
      refine e_sipush_n 256 dd_Ar_readNumber_25 (by decide) ?_
      refine e_imul_n dd_Ar_readNumber_28 ?_
      refine e_iload_n dd_Ar_readNumber_29 rfl ?_
      refine e_iadd_n dd_Ar_readNumber_30 ?_
      exact e_iret dd_Ar_readNumber_31 rfl (rdS_of ⟨k1.1.tr k3.1, k3.2⟩)
    · rw [if_neg c2] at k2 ⊢
      refine e_istore_n (lv1 := [(0, .ref 40), (1, .int (nI (im.getD cu 0)))]) dd_Ar_readNumber_4 (by decide) rfl ?_
      refine e_iload_n dd_Ar_readNumber_5 rfl ?_
      refine e_if_ge_n (tgt := 11) dd_Ar_readNumber_6 (by decide) (by omega) ?_
      refine e_aload_n dd_Ar_readNumber_11 rfl ?_
      refine e_callVi (d1 := rr_Ar_readByte) (As := []) (st := []) dd_Ar_readNumber_12 km_Ar_54 h41 rfl (by decide) rfl (Nat.le_of_ble_eq_true rfl) (Nat.le_of_ble_eq_true rfl) rfl rfl (k2) (fun w2 k3 => ?_)
      refine e_istore_n (lv1 := [(0, .ref 40), (1, .int (nI (im.getD cu 0))), (2, .int (-3))]) dd_Ar_readNumber_15 (by decide) rfl ?_
      refine e_iload_n dd_Ar_readNumber_16 rfl ?_
      refine e_if_ge (tgt := 24) dd_Ar_readNumber_17 (by decide) (fun h9 => absurd h9 (by decide)) (fun _ => ?_)
      refine e_iload_n dd_Ar_readNumber_20 rfl ?_
      refine e_goto (tgt := 31) dd_Ar_readNumber_21 (by decide) ?_
      exact e_iret dd_Ar_readNumber_31 rfl (rdF_of ⟨k1.1.tr k3.1, k3.2⟩)
  · rw [if_neg c] at k0
    rw [if_neg (by omega)]
    refine e_aload_n dd_Ar_readNumber_0 rfl ?_
    refine e_callVi (d1 := rr_Ar_readByte) (As := []) (st := []) dd_Ar_readNumber_1 km_Ar_54 h40o rfl (by decide) rfl (Nat.le_of_ble_eq_true rfl) (Nat.le_of_ble_eq_true rfl) rfl rfl (k0) (fun w1 k1 => ?_)
    refine e_istore_n (lv1 := [(0, .ref 40), (1, .int (-3))]) dd_Ar_readNumber_4 (by decide) rfl ?_
    refine e_iload_n dd_Ar_readNumber_5 rfl ?_
    refine e_if_ge (tgt := 11) dd_Ar_readNumber_6 (by decide) (fun h9 => absurd h9 (by decide)) (fun _ => ?_)
    refine e_iload_n dd_Ar_readNumber_9 rfl ?_
    exact e_iret dd_Ar_readNumber_10 rfl (rdF_of k1)
end AR
end
