section
-- ===== PART A: goes FIRST, ahead of the names: the tables' words, and 'selects' of the private methods out of them =====
/-- a private method of a class that the tables say can be made, by its rows of tables_1 -/
def lw_okq (q : MethodName × Nat) : Prop := (q.1.cls ≠ "java/lang/invoke/MethodHandle" ∧ q.1.cls ≠ "java/lang/invoke/VarHandle") ∧ Cond.instantiable q.1.cls q.2 ∈ tables_1 ∧ Cond.privateMethod q.1 ∈ tables_1 ∧ Cond.instanceMethod q.1 ∈ tables_1
theorem lw_p0 : lw_okq (⟨"ArchiveBench$Packer", "appendRecord", "(LArchiveBench$WaitingFile;)V"⟩, 3) := ⟨⟨by decide +kernel, by decide +kernel⟩, List.mem_of_getElem? (i := 42) (by decide +kernel), List.mem_of_getElem? (i := 279) (by decide +kernel), List.mem_of_getElem? (i := 280) (by decide +kernel)⟩
theorem lw_p1 : lw_okq (⟨"ArchiveBench$Packer", "appendEntry", "(LArchiveBench$WaitingFile;)V"⟩, 3) := ⟨⟨by decide +kernel, by decide +kernel⟩, List.mem_of_getElem? (i := 42) (by decide +kernel), List.mem_of_getElem? (i := 312) (by decide +kernel), List.mem_of_getElem? (i := 313) (by decide +kernel)⟩
theorem lw_p2 : lw_okq (⟨"ArchiveBench$Archive", "start", "(II)V"⟩, 6) := ⟨⟨by decide +kernel, by decide +kernel⟩, List.mem_of_getElem? (i := 92) (by decide +kernel), List.mem_of_getElem? (i := 348) (by decide +kernel), List.mem_of_getElem? (i := 349) (by decide +kernel)⟩
theorem lw_p3 : lw_okq (⟨"ArchiveBench$Archive", "readByte", "()I"⟩, 6) := ⟨⟨by decide +kernel, by decide +kernel⟩, List.mem_of_getElem? (i := 92) (by decide +kernel), List.mem_of_getElem? (i := 352) (by decide +kernel), List.mem_of_getElem? (i := 353) (by decide +kernel)⟩
theorem lw_p4 : lw_okq (⟨"ArchiveBench$Archive", "readRecordHead", "(LArchiveBench$OpenFile;I)I"⟩, 6) := ⟨⟨by decide +kernel, by decide +kernel⟩, List.mem_of_getElem? (i := 92) (by decide +kernel), List.mem_of_getElem? (i := 361) (by decide +kernel), List.mem_of_getElem? (i := 362) (by decide +kernel)⟩
theorem lw_p5 : lw_okq (⟨"ArchiveBench$Archive", "readMethodAndName", "(LArchiveBench$OpenFile;)I"⟩, 6) := ⟨⟨by decide +kernel, by decide +kernel⟩, List.mem_of_getElem? (i := 92) (by decide +kernel), List.mem_of_getElem? (i := 365) (by decide +kernel), List.mem_of_getElem? (i := 366) (by decide +kernel)⟩
theorem lw_p6 : lw_okq (⟨"ArchiveBench$Archive", "readBetween", "(II)I"⟩, 6) := ⟨⟨by decide +kernel, by decide +kernel⟩, List.mem_of_getElem? (i := 92) (by decide +kernel), List.mem_of_getElem? (i := 369) (by decide +kernel), List.mem_of_getElem? (i := 370) (by decide +kernel)⟩
theorem lw_p7 : lw_okq (⟨"ArchiveBench$Archive", "readLengthAndCheck", "(LArchiveBench$OpenFile;)I"⟩, 6) := ⟨⟨by decide +kernel, by decide +kernel⟩, List.mem_of_getElem? (i := 92) (by decide +kernel), List.mem_of_getElem? (i := 376) (by decide +kernel), List.mem_of_getElem? (i := 377) (by decide +kernel)⟩
theorem lw_p8 : lw_okq (⟨"ArchiveBench$Archive", "readNumber", "()I"⟩, 6) := ⟨⟨by decide +kernel, by decide +kernel⟩, List.mem_of_getElem? (i := 92) (by decide +kernel), List.mem_of_getElem? (i := 380) (by decide +kernel), List.mem_of_getElem? (i := 381) (by decide +kernel)⟩
theorem lw_p9 : lw_okq (⟨"ArchiveBench$Archive", "passSqueezed", "(LArchiveBench$OpenFile;)I"⟩, 6) := ⟨⟨by decide +kernel, by decide +kernel⟩, List.mem_of_getElem? (i := 92) (by decide +kernel), List.mem_of_getElem? (i := 385) (by decide +kernel), List.mem_of_getElem? (i := 386) (by decide +kernel)⟩
theorem lw_p10 : lw_okq (⟨"ArchiveBench$Archive", "testTail", "(I)I"⟩, 6) := ⟨⟨by decide +kernel, by decide +kernel⟩, List.mem_of_getElem? (i := 92) (by decide +kernel), List.mem_of_getElem? (i := 394) (by decide +kernel), List.mem_of_getElem? (i := 395) (by decide +kernel)⟩
theorem lw_p11 : lw_okq (⟨"ArchiveBench$Archive", "readEntry", "(LArchiveBench$OpenFile;I)I"⟩, 6) := ⟨⟨by decide +kernel, by decide +kernel⟩, List.mem_of_getElem? (i := 92) (by decide +kernel), List.mem_of_getElem? (i := 403) (by decide +kernel), List.mem_of_getElem? (i := 404) (by decide +kernel)⟩
theorem lw_p12 : lw_okq (⟨"ArchiveBench$OpenFile", "isSafePart", "(II)Z"⟩, 6) := ⟨⟨by decide +kernel, by decide +kernel⟩, List.mem_of_getElem? (i := 101) (by decide +kernel), List.mem_of_getElem? (i := 425) (by decide +kernel), List.mem_of_getElem? (i := 426) (by decide +kernel)⟩
theorem lw_p13 : lw_okq (⟨"ArchiveBenchModel", "chain", "()V"⟩, 21) := ⟨⟨by decide +kernel, by decide +kernel⟩, List.mem_of_getElem? (i := 471) (by decide +kernel), List.mem_of_getElem? (i := 563) (by decide +kernel), List.mem_of_getElem? (i := 564) (by decide +kernel)⟩
theorem lw_p14 : lw_okq (⟨"ArchiveBenchModel", "squeeze", "(I)V"⟩, 21) := ⟨⟨by decide +kernel, by decide +kernel⟩, List.mem_of_getElem? (i := 471) (by decide +kernel), List.mem_of_getElem? (i := 567) (by decide +kernel), List.mem_of_getElem? (i := 568) (by decide +kernel)⟩
theorem lw_p15 : lw_okq (⟨"ArchiveBenchModel", "runs", "(I)V"⟩, 21) := ⟨⟨by decide +kernel, by decide +kernel⟩, List.mem_of_getElem? (i := 471) (by decide +kernel), List.mem_of_getElem? (i := 571) (by decide +kernel), List.mem_of_getElem? (i := 572) (by decide +kernel)⟩
def lw_privs_1 : List (MethodName × Nat) := [(⟨"ArchiveBench$Packer", "appendRecord", "(LArchiveBench$WaitingFile;)V"⟩, 3), (⟨"ArchiveBench$Packer", "appendEntry", "(LArchiveBench$WaitingFile;)V"⟩, 3), (⟨"ArchiveBench$Archive", "start", "(II)V"⟩, 6), (⟨"ArchiveBench$Archive", "readByte", "()I"⟩, 6), (⟨"ArchiveBench$Archive", "readRecordHead", "(LArchiveBench$OpenFile;I)I"⟩, 6), (⟨"ArchiveBench$Archive", "readMethodAndName", "(LArchiveBench$OpenFile;)I"⟩, 6), (⟨"ArchiveBench$Archive", "readBetween", "(II)I"⟩, 6), (⟨"ArchiveBench$Archive", "readLengthAndCheck", "(LArchiveBench$OpenFile;)I"⟩, 6), (⟨"ArchiveBench$Archive", "readNumber", "()I"⟩, 6), (⟨"ArchiveBench$Archive", "passSqueezed", "(LArchiveBench$OpenFile;)I"⟩, 6), (⟨"ArchiveBench$Archive", "testTail", "(I)I"⟩, 6), (⟨"ArchiveBench$Archive", "readEntry", "(LArchiveBench$OpenFile;I)I"⟩, 6), (⟨"ArchiveBench$OpenFile", "isSafePart", "(II)Z"⟩, 6), (⟨"ArchiveBenchModel", "chain", "()V"⟩, 21), (⟨"ArchiveBenchModel", "squeeze", "(I)V"⟩, 21), (⟨"ArchiveBenchModel", "runs", "(I)V"⟩, 21)]
theorem lw_r1 : ∀ q ∈ lw_privs_1, lw_okq q := List.forall_mem_cons.mpr ⟨lw_p0, List.forall_mem_cons.mpr ⟨lw_p1, List.forall_mem_cons.mpr ⟨lw_p2, List.forall_mem_cons.mpr ⟨lw_p3, List.forall_mem_cons.mpr ⟨lw_p4, List.forall_mem_cons.mpr ⟨lw_p5, List.forall_mem_cons.mpr ⟨lw_p6, List.forall_mem_cons.mpr ⟨lw_p7, List.forall_mem_cons.mpr ⟨lw_p8, List.forall_mem_cons.mpr ⟨lw_p9, List.forall_mem_cons.mpr ⟨lw_p10, List.forall_mem_cons.mpr ⟨lw_p11, List.forall_mem_cons.mpr ⟨lw_p12, List.forall_mem_cons.mpr ⟨lw_p13, List.forall_mem_cons.mpr ⟨lw_p14, List.forall_mem_cons.mpr ⟨lw_p15, fun _ h => absurd h List.not_mem_nil⟩⟩⟩⟩⟩⟩⟩⟩⟩⟩⟩⟩⟩⟩⟩⟩
theorem lw_p16 : lw_okq (⟨"ArchiveBenchModel", "byteOf", "(II)I"⟩, 21) := ⟨⟨by decide +kernel, by decide +kernel⟩, List.mem_of_getElem? (i := 471) (by decide +kernel), List.mem_of_getElem? (i := 575) (by decide +kernel), List.mem_of_getElem? (i := 576) (by decide +kernel)⟩
theorem lw_p17 : lw_okq (⟨"ArchiveBenchModel", "push", "(I)V"⟩, 21) := ⟨⟨by decide +kernel, by decide +kernel⟩, List.mem_of_getElem? (i := 471) (by decide +kernel), List.mem_of_getElem? (i := 579) (by decide +kernel), List.mem_of_getElem? (i := 580) (by decide +kernel)⟩
theorem lw_p18 : lw_okq (⟨"ArchiveBenchModel", "copies", "(I)V"⟩, 21) := ⟨⟨by decide +kernel, by decide +kernel⟩, List.mem_of_getElem? (i := 471) (by decide +kernel), List.mem_of_getElem? (i := 583) (by decide +kernel), List.mem_of_getElem? (i := 584) (by decide +kernel)⟩
theorem lw_p19 : lw_okq (⟨"ArchiveBenchModel", "copyLength", "(III)I"⟩, 21) := ⟨⟨by decide +kernel, by decide +kernel⟩, List.mem_of_getElem? (i := 471) (by decide +kernel), List.mem_of_getElem? (i := 587) (by decide +kernel), List.mem_of_getElem? (i := 588) (by decide +kernel)⟩
theorem lw_p20 : lw_okq (⟨"ArchiveBenchModel", "literals", "(III)V"⟩, 21) := ⟨⟨by decide +kernel, by decide +kernel⟩, List.mem_of_getElem? (i := 471) (by decide +kernel), List.mem_of_getElem? (i := 591) (by decide +kernel), List.mem_of_getElem? (i := 592) (by decide +kernel)⟩
theorem lw_p21 : lw_okq (⟨"ArchiveBenchModel", "say", "(I)V"⟩, 21) := ⟨⟨by decide +kernel, by decide +kernel⟩, List.mem_of_getElem? (i := 471) (by decide +kernel), List.mem_of_getElem? (i := 595) (by decide +kernel), List.mem_of_getElem? (i := 596) (by decide +kernel)⟩
theorem lw_p22 : lw_okq (⟨"ArchiveBenchModel", "sayHead", "(I)V"⟩, 21) := ⟨⟨by decide +kernel, by decide +kernel⟩, List.mem_of_getElem? (i := 471) (by decide +kernel), List.mem_of_getElem? (i := 599) (by decide +kernel), List.mem_of_getElem? (i := 600) (by decide +kernel)⟩
theorem lw_p23 : lw_okq (⟨"ArchiveBenchModel", "checkOf", "(I)I"⟩, 21) := ⟨⟨by decide +kernel, by decide +kernel⟩, List.mem_of_getElem? (i := 471) (by decide +kernel), List.mem_of_getElem? (i := 603) (by decide +kernel), List.mem_of_getElem? (i := 604) (by decide +kernel)⟩
theorem lw_p24 : lw_okq (⟨"ArchiveBenchModel", "sayTwo", "(I)V"⟩, 21) := ⟨⟨by decide +kernel, by decide +kernel⟩, List.mem_of_getElem? (i := 471) (by decide +kernel), List.mem_of_getElem? (i := 611) (by decide +kernel), List.mem_of_getElem? (i := 612) (by decide +kernel)⟩
theorem lw_p25 : lw_okq (⟨"ArchiveBenchModel", "sayRow", "()V"⟩, 21) := ⟨⟨by decide +kernel, by decide +kernel⟩, List.mem_of_getElem? (i := 471) (by decide +kernel), List.mem_of_getElem? (i := 615) (by decide +kernel), List.mem_of_getElem? (i := 616) (by decide +kernel)⟩
theorem lw_p26 : lw_okq (⟨"ArchiveBenchModel", "index", "()V"⟩, 21) := ⟨⟨by decide +kernel, by decide +kernel⟩, List.mem_of_getElem? (i := 471) (by decide +kernel), List.mem_of_getElem? (i := 619) (by decide +kernel), List.mem_of_getElem? (i := 620) (by decide +kernel)⟩
theorem lw_p27 : lw_okq (⟨"ArchiveBenchModel", "openIndex", "()I"⟩, 21) := ⟨⟨by decide +kernel, by decide +kernel⟩, List.mem_of_getElem? (i := 471) (by decide +kernel), List.mem_of_getElem? (i := 639) (by decide +kernel), List.mem_of_getElem? (i := 640) (by decide +kernel)⟩
theorem lw_p28 : lw_okq (⟨"ArchiveBenchModel", "stop", "(II)I"⟩, 21) := ⟨⟨by decide +kernel, by decide +kernel⟩, List.mem_of_getElem? (i := 471) (by decide +kernel), List.mem_of_getElem? (i := 643) (by decide +kernel), List.mem_of_getElem? (i := 644) (by decide +kernel)⟩
theorem lw_p29 : lw_okq (⟨"ArchiveBenchModel", "two", "(I)I"⟩, 21) := ⟨⟨by decide +kernel, by decide +kernel⟩, List.mem_of_getElem? (i := 471) (by decide +kernel), List.mem_of_getElem? (i := 647) (by decide +kernel), List.mem_of_getElem? (i := 648) (by decide +kernel)⟩
theorem lw_p30 : lw_okq (⟨"ArchiveBenchModel", "openEntry", "(III)I"⟩, 21) := ⟨⟨by decide +kernel, by decide +kernel⟩, List.mem_of_getElem? (i := 471) (by decide +kernel), List.mem_of_getElem? (i := 651) (by decide +kernel), List.mem_of_getElem? (i := 652) (by decide +kernel)⟩
theorem lw_p31 : lw_okq (⟨"ArchiveBenchModel", "head", "(II)I"⟩, 21) := ⟨⟨by decide +kernel, by decide +kernel⟩, List.mem_of_getElem? (i := 471) (by decide +kernel), List.mem_of_getElem? (i := 655) (by decide +kernel), List.mem_of_getElem? (i := 656) (by decide +kernel)⟩
def lw_privs_2 : List (MethodName × Nat) := [(⟨"ArchiveBenchModel", "byteOf", "(II)I"⟩, 21), (⟨"ArchiveBenchModel", "push", "(I)V"⟩, 21), (⟨"ArchiveBenchModel", "copies", "(I)V"⟩, 21), (⟨"ArchiveBenchModel", "copyLength", "(III)I"⟩, 21), (⟨"ArchiveBenchModel", "literals", "(III)V"⟩, 21), (⟨"ArchiveBenchModel", "say", "(I)V"⟩, 21), (⟨"ArchiveBenchModel", "sayHead", "(I)V"⟩, 21), (⟨"ArchiveBenchModel", "checkOf", "(I)I"⟩, 21), (⟨"ArchiveBenchModel", "sayTwo", "(I)V"⟩, 21), (⟨"ArchiveBenchModel", "sayRow", "()V"⟩, 21), (⟨"ArchiveBenchModel", "index", "()V"⟩, 21), (⟨"ArchiveBenchModel", "openIndex", "()I"⟩, 21), (⟨"ArchiveBenchModel", "stop", "(II)I"⟩, 21), (⟨"ArchiveBenchModel", "two", "(I)I"⟩, 21), (⟨"ArchiveBenchModel", "openEntry", "(III)I"⟩, 21), (⟨"ArchiveBenchModel", "head", "(II)I"⟩, 21)]
theorem lw_r2 : ∀ q ∈ lw_privs_2, lw_okq q := List.forall_mem_cons.mpr ⟨lw_p16, List.forall_mem_cons.mpr ⟨lw_p17, List.forall_mem_cons.mpr ⟨lw_p18, List.forall_mem_cons.mpr ⟨lw_p19, List.forall_mem_cons.mpr ⟨lw_p20, List.forall_mem_cons.mpr ⟨lw_p21, List.forall_mem_cons.mpr ⟨lw_p22, List.forall_mem_cons.mpr ⟨lw_p23, List.forall_mem_cons.mpr ⟨lw_p24, List.forall_mem_cons.mpr ⟨lw_p25, List.forall_mem_cons.mpr ⟨lw_p26, List.forall_mem_cons.mpr ⟨lw_p27, List.forall_mem_cons.mpr ⟨lw_p28, List.forall_mem_cons.mpr ⟨lw_p29, List.forall_mem_cons.mpr ⟨lw_p30, List.forall_mem_cons.mpr ⟨lw_p31, fun _ h => absurd h List.not_mem_nil⟩⟩⟩⟩⟩⟩⟩⟩⟩⟩⟩⟩⟩⟩⟩⟩
theorem lw_p32 : lw_okq (⟨"ArchiveBenchModel", "note", "(IIII)V"⟩, 21) := ⟨⟨by decide +kernel, by decide +kernel⟩, List.mem_of_getElem? (i := 471) (by decide +kernel), List.mem_of_getElem? (i := 659) (by decide +kernel), List.mem_of_getElem? (i := 660) (by decide +kernel)⟩
theorem lw_p33 : lw_okq (⟨"ArchiveBenchModel", "openChain", "()I"⟩, 21) := ⟨⟨by decide +kernel, by decide +kernel⟩, List.mem_of_getElem? (i := 471) (by decide +kernel), List.mem_of_getElem? (i := 663) (by decide +kernel), List.mem_of_getElem? (i := 664) (by decide +kernel)⟩
theorem lw_p34 : lw_okq (⟨"ArchiveBenchModel", "safe", "(I)Z"⟩, 21) := ⟨⟨by decide +kernel, by decide +kernel⟩, List.mem_of_getElem? (i := 471) (by decide +kernel), List.mem_of_getElem? (i := 675) (by decide +kernel), List.mem_of_getElem? (i := 676) (by decide +kernel)⟩
theorem lw_p35 : lw_okq (⟨"ArchiveBenchModel", "of", "(II)I"⟩, 21) := ⟨⟨by decide +kernel, by decide +kernel⟩, List.mem_of_getElem? (i := 471) (by decide +kernel), List.mem_of_getElem? (i := 679) (by decide +kernel), List.mem_of_getElem? (i := 680) (by decide +kernel)⟩
theorem lw_p36 : lw_okq (⟨"ArchiveBenchModel", "nameAt", "(II)I"⟩, 21) := ⟨⟨by decide +kernel, by decide +kernel⟩, List.mem_of_getElem? (i := 471) (by decide +kernel), List.mem_of_getElem? (i := 683) (by decide +kernel), List.mem_of_getElem? (i := 684) (by decide +kernel)⟩
theorem lw_p37 : lw_okq (⟨"ArchiveBenchModel", "sameName", "(II)Z"⟩, 21) := ⟨⟨by decide +kernel, by decide +kernel⟩, List.mem_of_getElem? (i := 471) (by decide +kernel), List.mem_of_getElem? (i := 687) (by decide +kernel), List.mem_of_getElem? (i := 688) (by decide +kernel)⟩
theorem lw_p38 : lw_okq (⟨"ArchiveBenchModel", "unsqueeze", "(I)Z"⟩, 21) := ⟨⟨by decide +kernel, by decide +kernel⟩, List.mem_of_getElem? (i := 471) (by decide +kernel), List.mem_of_getElem? (i := 691) (by decide +kernel), List.mem_of_getElem? (i := 692) (by decide +kernel)⟩
theorem lw_p39 : lw_okq (⟨"ArchiveBenchModel", "piece", "(III)I"⟩, 21) := ⟨⟨by decide +kernel, by decide +kernel⟩, List.mem_of_getElem? (i := 471) (by decide +kernel), List.mem_of_getElem? (i := 695) (by decide +kernel), List.mem_of_getElem? (i := 696) (by decide +kernel)⟩
theorem lw_p40 : lw_okq (⟨"ArchiveBenchModel", "make", "(II)Z"⟩, 21) := ⟨⟨by decide +kernel, by decide +kernel⟩, List.mem_of_getElem? (i := 471) (by decide +kernel), List.mem_of_getElem? (i := 699) (by decide +kernel), List.mem_of_getElem? (i := 700) (by decide +kernel)⟩
def lw_privs_3 : List (MethodName × Nat) := [(⟨"ArchiveBenchModel", "note", "(IIII)V"⟩, 21), (⟨"ArchiveBenchModel", "openChain", "()I"⟩, 21), (⟨"ArchiveBenchModel", "safe", "(I)Z"⟩, 21), (⟨"ArchiveBenchModel", "of", "(II)I"⟩, 21), (⟨"ArchiveBenchModel", "nameAt", "(II)I"⟩, 21), (⟨"ArchiveBenchModel", "sameName", "(II)Z"⟩, 21), (⟨"ArchiveBenchModel", "unsqueeze", "(I)Z"⟩, 21), (⟨"ArchiveBenchModel", "piece", "(III)I"⟩, 21), (⟨"ArchiveBenchModel", "make", "(II)Z"⟩, 21)]
theorem lw_r3 : ∀ q ∈ lw_privs_3, lw_okq q := List.forall_mem_cons.mpr ⟨lw_p32, List.forall_mem_cons.mpr ⟨lw_p33, List.forall_mem_cons.mpr ⟨lw_p34, List.forall_mem_cons.mpr ⟨lw_p35, List.forall_mem_cons.mpr ⟨lw_p36, List.forall_mem_cons.mpr ⟨lw_p37, List.forall_mem_cons.mpr ⟨lw_p38, List.forall_mem_cons.mpr ⟨lw_p39, List.forall_mem_cons.mpr ⟨lw_p40, fun _ h => absurd h List.not_mem_nil⟩⟩⟩⟩⟩⟩⟩⟩⟩
def lw_privs : List (MethodName × Nat) := lw_privs_1 ++ (lw_privs_2 ++ (lw_privs_3))
def lw_tbl : List Cond := k2_sels lw_privs ++ tables_1
theorem lw_privs_ok : ∀ q ∈ lw_privs, lw_okq q := by
  show ∀ q ∈ lw_privs_1 ++ (lw_privs_2 ++ (lw_privs_3)), lw_okq q
  exact List.forall_mem_append.mpr ⟨lw_r1, List.forall_mem_append.mpr ⟨lw_r2, lw_r3⟩⟩
end
section
def R_AB : String := "ArchiveBench"
def T_AB : u_T := fun k => match k with
  | 0 => ("ArchiveBench", "writtenName", "LArchiveBench$Row;", true)
  | 1 => ("ArchiveBench", "writtenBytes", "LArchiveBench$Row;", true)
  | 2 => ("ArchiveBench", "packer", "LArchiveBench$Packer;", true)
  | 3 => ("ArchiveBench", "archive", "LArchiveBench$Archive;", true)
  | 4 => ("ArchiveBench", "made", "LArchiveBench$Row;", true)
  | _ => ("ArchiveBench", "takenBytes", "LArchiveBench$Row;", true)
def t_AB : Nat → FieldType := fun k => match k with
  | 0 => .object "ArchiveBench$Row"
  | 1 => .object "ArchiveBench$Row"
  | 2 => .object "ArchiveBench$Packer"
  | 3 => .object "ArchiveBench$Archive"
  | 4 => .object "ArchiveBench$Row"
  | _ => .object "ArchiveBench$Row"
def R_Row : String := "ArchiveBench$Row"
def T_Row : u_T := fun k => match k with
  | 0 => ("ArchiveBench$Row", "cells", "[I", true)
  | _ => ("ArchiveBench$Row", "length", "I", false)
def t_Row : Nat → FieldType := fun k => match k with
  | 0 => .array .int
  | _ => .int
def R_Pk : String := "ArchiveBench$Packer"
def T_Pk : u_T := fun k => match k with
  | 0 => ("ArchiveBench$Packer", "waiting", "[LArchiveBench$WaitingFile;", true)
  | 1 => ("ArchiveBench$Packer", "files", "I", false)
  | _ => ("ArchiveBench$Packer", "draft", "LArchiveBench$Row;", true)
def t_Pk : Nat → FieldType := fun k => match k with
  | 0 => .array (.object "ArchiveBench$WaitingFile")
  | 1 => .int
  | _ => .object "ArchiveBench$Row"
def R_WF : String := "ArchiveBench$WaitingFile"
def T_WF : u_T := fun k => match k with
  | 0 => ("ArchiveBench$WaitingFile", "ownName", "LArchiveBench$Row;", true)
  | 1 => ("ArchiveBench$WaitingFile", "squeezed", "LArchiveBench$Row;", true)
  | 2 => ("ArchiveBench$WaitingFile", "method", "I", false)
  | 3 => ("ArchiveBench$WaitingFile", "length", "I", false)
  | 4 => ("ArchiveBench$WaitingFile", "check", "I", false)
  | _ => ("ArchiveBench$WaitingFile", "squeezedAt", "I", false)
def t_WF : Nat → FieldType := fun k => match k with
  | 0 => .object "ArchiveBench$Row"
  | 1 => .object "ArchiveBench$Row"
  | 2 => .int
  | 3 => .int
  | 4 => .int
  | _ => .int
def R_Ar : String := "ArchiveBench$Archive"
def T_Ar : u_T := fun k => match k with
  | 0 => ("ArchiveBench$Archive", "row", "LArchiveBench$Row;", true)
  | 1 => ("ArchiveBench$Archive", "files", "[LArchiveBench$OpenFile;", true)
  | 2 => ("ArchiveBench$Archive", "opened", "I", false)
  | 3 => ("ArchiveBench$Archive", "endedAt", "I", false)
  | 4 => ("ArchiveBench$Archive", "cursor", "I", false)
  | _ => ("ArchiveBench$Archive", "limit", "I", false)
def t_Ar : Nat → FieldType := fun k => match k with
  | 0 => .object "ArchiveBench$Row"
  | 1 => .array (.object "ArchiveBench$OpenFile")
  | 2 => .int
  | 3 => .int
  | 4 => .int
  | _ => .int
def R_OF : String := "ArchiveBench$OpenFile"
def T_OF : u_T := fun k => match k with
  | 0 => ("ArchiveBench$OpenFile", "ownName", "LArchiveBench$Row;", true)
  | 1 => ("ArchiveBench$OpenFile", "method", "I", false)
  | 2 => ("ArchiveBench$OpenFile", "squeezedAt", "I", false)
  | 3 => ("ArchiveBench$OpenFile", "squeezedLength", "I", false)
  | 4 => ("ArchiveBench$OpenFile", "length", "I", false)
  | _ => ("ArchiveBench$OpenFile", "check", "I", false)
def t_OF : Nat → FieldType := fun k => match k with
  | 0 => .object "ArchiveBench$Row"
  | 1 => .int
  | 2 => .int
  | 3 => .int
  | 4 => .int
  | _ => .int
def R_Md : String := "ArchiveBenchModel"
def T_Md : u_T := fun k => match k with
  | 0 => ("ArchiveBenchModel", "nameLength", "I", false)
  | 1 => ("ArchiveBenchModel", "name", "[I", true)
  | 2 => ("ArchiveBenchModel", "dataLength", "I", false)
  | 3 => ("ArchiveBenchModel", "data", "[I", true)
  | 4 => ("ArchiveBenchModel", "files", "I", false)
  | 5 => ("ArchiveBenchModel", "fMethod", "[I", true)
  | 6 => ("ArchiveBenchModel", "fNames", "[I", true)
  | 7 => ("ArchiveBenchModel", "fName", "[I", true)
  | 8 => ("ArchiveBenchModel", "fBytes", "[I", true)
  | 9 => ("ArchiveBenchModel", "fData", "[I", true)
  | 10 => ("ArchiveBenchModel", "length", "I", false)
  | 11 => ("ArchiveBenchModel", "image", "[I", true)
  | 12 => ("ArchiveBenchModel", "made", "I", false)
  | 13 => ("ArchiveBenchModel", "draft", "[I", true)
  | 14 => ("ArchiveBenchModel", "open", "I", false)
  | 15 => ("ArchiveBenchModel", "file", "[I", true)
  | 16 => ("ArchiveBenchModel", "place", "I", false)
  | 17 => ("ArchiveBenchModel", "takenLength", "I", false)
  | 18 => ("ArchiveBenchModel", "taken", "[I", true)
  | 19 => ("ArchiveBenchModel", "rowLength", "I", false)
  | _ => ("ArchiveBenchModel", "row", "[I", true)
def t_Md : Nat → FieldType := fun k => match k with
  | 0 => .int
  | 1 => .array .int
  | 2 => .int
  | 3 => .array .int
  | 4 => .int
  | 5 => .array .int
  | 6 => .array .int
  | 7 => .array .int
  | 8 => .array .int
  | 9 => .array .int
  | 10 => .int
  | 11 => .array .int
  | 12 => .int
  | 13 => .array .int
  | 14 => .int
  | 15 => .array .int
  | 16 => .int
  | 17 => .int
  | 18 => .array .int
  | 19 => .int
  | _ => .array .int
abbrev vwCl : List vw_C := [(R_AB, T_AB, 6), (R_Row, T_Row, 2), (R_Pk, T_Pk, 3), (R_WF, T_WF, 6), (R_Ar, T_Ar, 6), (R_OF, T_OF, 6), (R_Md, T_Md, 21)]
def ab_tys : List FieldType := [.int, .object "ArchiveBench$WaitingFile", .object "ArchiveBench$OpenFile"]
def ab_nestM : List (String × Nat × MethodName × String) := [("ArchiveBench$Archive", 118, ⟨"ArchiveBench", "isNameCharacter", "(I)Z"⟩, "ArchiveBench")]
def ab_over : List String := ["ArchiveBench$WaitingFile", "ArchiveBench$OpenFile"]
def mm_AB_init : MethodName × ByteArray × Nat × Option FieldType := (⟨"ArchiveBench", "<init>", "()V"⟩, prog_1_method_1_code, 1, none)
abbrev rr_AB_init : Nat × Nat := (4, 82)
def mm_Row_init : MethodName × ByteArray × Nat × Option FieldType := (⟨"ArchiveBench$Row", "<init>", "(I)V"⟩, prog_5_method_1_code, 2, none)
abbrev rr_Row_init : Nat × Nat := (1, 20)
def mm_Pk_init : MethodName × ByteArray × Nat × Option FieldType := (⟨"ArchiveBench$Packer", "<init>", "()V"⟩, prog_4_method_1_code, 2, none)
abbrev rr_Pk_init : Nat × Nat := (3, 61)
def mm_WF_init : MethodName × ByteArray × Nat × Option FieldType := (⟨"ArchiveBench$WaitingFile", "<init>", "()V"⟩, prog_8_method_1_code, 1, none)
abbrev rr_WF_init : Nat × Nat := (2, 41)
def mm_Ar_init : MethodName × ByteArray × Nat × Option FieldType := (⟨"ArchiveBench$Archive", "<init>", "()V"⟩, prog_2_method_1_code, 2, none)
abbrev rr_Ar_init : Nat × Nat := (3, 61)
def mm_OF_init : MethodName × ByteArray × Nat × Option FieldType := (⟨"ArchiveBench$OpenFile", "<init>", "()V"⟩, prog_3_method_1_code, 1, none)
abbrev rr_OF_init : Nat × Nat := (2, 41)
def mm_AB_name : MethodName × ByteArray × Nat × Option FieldType := (⟨"ArchiveBench", "name", "(I)I"⟩, prog_1_method_2_code, 2, (some .int))
abbrev rr_AB_name : Nat × Nat := (1, 21)
def mm_AB_isNameCharacter : MethodName × ByteArray × Nat × Option FieldType := (⟨"ArchiveBench", "isNameCharacter", "(I)Z"⟩, prog_1_method_16_code, 1, (some .boolean))
abbrev rr_AB_isNameCharacter : Nat × Nat := (0, 0)
def mm_Row_append : MethodName × ByteArray × Nat × Option FieldType := (⟨"ArchiveBench$Row", "append", "(I)Z"⟩, prog_5_method_6_code, 2, (some .boolean))
abbrev rr_Row_append : Nat × Nat := (0, 0)
def mm_AB_data : MethodName × ByteArray × Nat × Option FieldType := (⟨"ArchiveBench", "data", "(II)I"⟩, prog_1_method_3_code, 3, (some .int))
abbrev rr_AB_data : Nat × Nat := (1, 23)
def mm_AB_isByte : MethodName × ByteArray × Nat × Option FieldType := (⟨"ArchiveBench", "isByte", "(I)Z"⟩, prog_1_method_15_code, 1, (some .boolean))
abbrev rr_AB_isByte : Nat × Nat := (0, 0)
def mm_Row_appendTimes : MethodName × ByteArray × Nat × Option FieldType := (⟨"ArchiveBench$Row", "appendTimes", "(II)Z"⟩, prog_5_method_7_code, 4, (some .boolean))
abbrev rr_Row_appendTimes : Nat × Nat := (0, 0)
def mm_AB_add : MethodName × ByteArray × Nat × Option FieldType := (⟨"ArchiveBench", "add", "(I)I"⟩, prog_1_method_4_code, 3, (some .int))
abbrev rr_AB_add : Nat × Nat := (6, 144)
def mm_WF_become : MethodName × ByteArray × Nat × Option FieldType := (⟨"ArchiveBench$WaitingFile", "become", "(LArchiveBench$Row;LArchiveBench$Row;I)V"⟩, prog_8_method_2_code, 4, none)
abbrev rr_WF_become : Nat × Nat := (5, 121)
def mm_Row_become : MethodName × ByteArray × Nat × Option FieldType := (⟨"ArchiveBench$Row", "become", "(LArchiveBench$Row;)V"⟩, prog_5_method_11_code, 2, none)
abbrev rr_Row_become : Nat × Nat := (3, 70)
def mm_Row_cutTo : MethodName × ByteArray × Nat × Option FieldType := (⟨"ArchiveBench$Row", "cutTo", "(I)V"⟩, prog_5_method_5_code, 2, none)
abbrev rr_Row_cutTo : Nat × Nat := (0, 0)
def mm_Row_appendAll : MethodName × ByteArray × Nat × Option FieldType := (⟨"ArchiveBench$Row", "appendAll", "(LArchiveBench$Row;)V"⟩, prog_5_method_10_code, 2, none)
abbrev rr_Row_appendAll : Nat × Nat := (2, 49)
def mm_Row_appendPart : MethodName × ByteArray × Nat × Option FieldType := (⟨"ArchiveBench$Row", "appendPart", "(LArchiveBench$Row;II)Z"⟩, prog_5_method_9_code, 4, (some .boolean))
abbrev rr_Row_appendPart : Nat × Nat := (1, 26)
def mm_Sq_squeeze : MethodName × ByteArray × Nat × Option FieldType := (⟨"ArchiveBench$Squeezing", "squeeze", "(ILArchiveBench$Row;LArchiveBench$Row;)V"⟩, prog_6_method_2_code, 3, none)
abbrev rr_Sq_squeeze : Nat × Nat := (4, 99)
def mm_Sq_squeezeRuns : MethodName × ByteArray × Nat × Option FieldType := (⟨"ArchiveBench$Squeezing", "squeezeRuns", "(LArchiveBench$Row;LArchiveBench$Row;)V"⟩, prog_6_method_3_code, 5, none)
abbrev rr_Sq_squeezeRuns : Nat × Nat := (1, 23)
def mm_Row_at : MethodName × ByteArray × Nat × Option FieldType := (⟨"ArchiveBench$Row", "at", "(I)I"⟩, prog_5_method_2_code, 2, (some .int))
abbrev rr_Row_at : Nat × Nat := (0, 0)
def mm_Sq_squeezeCopies : MethodName × ByteArray × Nat × Option FieldType := (⟨"ArchiveBench$Squeezing", "squeezeCopies", "(LArchiveBench$Row;LArchiveBench$Row;)V"⟩, prog_6_method_4_code, 6, none)
abbrev rr_Sq_squeezeCopies : Nat × Nat := (3, 74)
def mm_Sq_bestDistance : MethodName × ByteArray × Nat × Option FieldType := (⟨"ArchiveBench$Squeezing", "bestDistance", "(LArchiveBench$Row;I)I"⟩, prog_6_method_5_code, 6, (some .int))
abbrev rr_Sq_bestDistance : Nat × Nat := (2, 44)
def mm_Sq_copyLength : MethodName × ByteArray × Nat × Option FieldType := (⟨"ArchiveBench$Squeezing", "copyLength", "(LArchiveBench$Row;II)I"⟩, prog_6_method_6_code, 4, (some .int))
abbrev rr_Sq_copyLength : Nat × Nat := (1, 21)
def mm_Sq_appendLiterals : MethodName × ByteArray × Nat × Option FieldType := (⟨"ArchiveBench$Squeezing", "appendLiterals", "(LArchiveBench$Row;IILArchiveBench$Row;)V"⟩, prog_6_method_7_code, 6, none)
abbrev rr_Sq_appendLiterals : Nat × Nat := (2, 49)
def mm_Row_check : MethodName × ByteArray × Nat × Option FieldType := (⟨"ArchiveBench$Row", "check", "(II)I"⟩, prog_5_method_14_code, 5, (some .int))
abbrev rr_Row_check : Nat × Nat := (1, 24)
def mm_Row_checkWith : MethodName × ByteArray × Nat × Option FieldType := (⟨"ArchiveBench$Row", "checkWith", "(II)I"⟩, prog_5_method_15_code, 5, (some .int))
abbrev rr_Row_checkWith : Nat × Nat := (0, 0)
def mm_AB_pack : MethodName × ByteArray × Nat × Option FieldType := (⟨"ArchiveBench", "pack", "(I)I"⟩, prog_1_method_5_code, 2, (some .int))
abbrev rr_AB_pack : Nat × Nat := (6, 134)
def mm_Pk_draftChain : MethodName × ByteArray × Nat × Option FieldType := (⟨"ArchiveBench$Packer", "draftChain", "()V"⟩, prog_4_method_2_code, 2, none)
abbrev rr_Pk_draftChain : Nat × Nat := (5, 113)
def mm_Pk_appendRecord : MethodName × ByteArray × Nat × Option FieldType := (⟨"ArchiveBench$Packer", "appendRecord", "(LArchiveBench$WaitingFile;)V"⟩, prog_4_method_3_code, 3, none)
abbrev rr_Pk_appendRecord : Nat × Nat := (4, 91)
def mm_WF_appendMethodAndName : MethodName × ByteArray × Nat × Option FieldType := (⟨"ArchiveBench$WaitingFile", "appendMethodAndName", "(LArchiveBench$Row;)V"⟩, prog_8_method_3_code, 2, none)
abbrev rr_WF_appendMethodAndName : Nat × Nat := (3, 70)
def mm_WF_appendLengthsAndCheck : MethodName × ByteArray × Nat × Option FieldType := (⟨"ArchiveBench$WaitingFile", "appendLengthsAndCheck", "(LArchiveBench$Row;)V"⟩, prog_8_method_4_code, 2, none)
abbrev rr_WF_appendLengthsAndCheck : Nat × Nat := (2, 42)
def mm_Row_appendNumber : MethodName × ByteArray × Nat × Option FieldType := (⟨"ArchiveBench$Row", "appendNumber", "(I)V"⟩, prog_5_method_8_code, 2, none)
abbrev rr_Row_appendNumber : Nat × Nat := (1, 21)
def mm_Row_sum : MethodName × ByteArray × Nat × Option FieldType := (⟨"ArchiveBench$Row", "sum", "(II)I"⟩, prog_5_method_13_code, 5, (some .int))
abbrev rr_Row_sum : Nat × Nat := (1, 21)
def mm_Pk_zerosBehind : MethodName × ByteArray × Nat × Option FieldType := (⟨"ArchiveBench$Packer", "zerosBehind", "(I)I"⟩, prog_4_method_6_code, 1, (some .int))
abbrev rr_Pk_zerosBehind : Nat × Nat := (0, 0)
def mm_Pk_draftIndex : MethodName × ByteArray × Nat × Option FieldType := (⟨"ArchiveBench$Packer", "draftIndex", "()V"⟩, prog_4_method_4_code, 3, none)
abbrev rr_Pk_draftIndex : Nat × Nat := (5, 112)
def mm_Pk_appendEntry : MethodName × ByteArray × Nat × Option FieldType := (⟨"ArchiveBench$Packer", "appendEntry", "(LArchiveBench$WaitingFile;)V"⟩, prog_4_method_5_code, 2, none)
abbrev rr_Pk_appendEntry : Nat × Nat := (4, 91)
def mm_Ar_close : MethodName × ByteArray × Nat × Option FieldType := (⟨"ArchiveBench$Archive", "close", "()V"⟩, prog_2_method_2_code, 1, none)
abbrev rr_Ar_close : Nat × Nat := (0, 0)
def mm_AB_put : MethodName × ByteArray × Nat × Option FieldType := (⟨"ArchiveBench", "put", "(II)I"⟩, prog_1_method_6_code, 3, (some .int))
abbrev rr_AB_put : Nat × Nat := (1, 22)
def mm_Row_set : MethodName × ByteArray × Nat × Option FieldType := (⟨"ArchiveBench$Row", "set", "(II)V"⟩, prog_5_method_4_code, 3, none)
abbrev rr_Row_set : Nat × Nat := (0, 0)
def mm_AB_cut : MethodName × ByteArray × Nat × Option FieldType := (⟨"ArchiveBench", "cut", "(I)I"⟩, prog_1_method_7_code, 2, (some .int))
abbrev rr_AB_cut : Nat × Nat := (1, 21)
def mm_AB_image : MethodName × ByteArray × Nat × Option FieldType := (⟨"ArchiveBench", "image", "(I)I"⟩, prog_1_method_8_code, 2, (some .int))
abbrev rr_AB_image : Nat × Nat := (1, 21)
def mm_AB_open : MethodName × ByteArray × Nat × Option FieldType := (⟨"ArchiveBench", "open", "()I"⟩, prog_1_method_9_code, 1, (some .int))
abbrev rr_AB_open : Nat × Nat := (6, 139)
def mm_Ar_openChain : MethodName × ByteArray × Nat × Option FieldType := (⟨"ArchiveBench$Archive", "openChain", "()I"⟩, prog_2_method_7_code, 5, (some .int))
abbrev rr_Ar_openChain : Nat × Nat := (5, 114)
def mm_Ar_start : MethodName × ByteArray × Nat × Option FieldType := (⟨"ArchiveBench$Archive", "start", "(II)V"⟩, prog_2_method_6_code, 3, none)
abbrev rr_Ar_start : Nat × Nat := (0, 0)
def mm_Ar_readByte : MethodName × ByteArray × Nat × Option FieldType := (⟨"ArchiveBench$Archive", "readByte", "()I"⟩, prog_2_method_17_code, 2, (some .int))
abbrev rr_Ar_readByte : Nat × Nat := (1, 22)
def mm_Ar_stop : MethodName × ByteArray × Nat × Option FieldType := (⟨"ArchiveBench$Archive", "stop", "(II)I"⟩, prog_2_method_5_code, 3, (some .int))
abbrev rr_Ar_stop : Nat × Nat := (0, 0)
def mm_Ar_readRecordHead : MethodName × ByteArray × Nat × Option FieldType := (⟨"ArchiveBench$Archive", "readRecordHead", "(LArchiveBench$OpenFile;I)I"⟩, prog_2_method_8_code, 5, (some .int))
abbrev rr_Ar_readRecordHead : Nat × Nat := (4, 90)
def mm_Ar_readMethodAndName : MethodName × ByteArray × Nat × Option FieldType := (⟨"ArchiveBench$Archive", "readMethodAndName", "(LArchiveBench$OpenFile;)I"⟩, prog_2_method_13_code, 5, (some .int))
abbrev rr_Ar_readMethodAndName : Nat × Nat := (3, 66)
def mm_Ar_readBetween : MethodName × ByteArray × Nat × Option FieldType := (⟨"ArchiveBench$Archive", "readBetween", "(II)I"⟩, prog_2_method_16_code, 4, (some .int))
abbrev rr_Ar_readBetween : Nat × Nat := (2, 43)
def mm_Ar_readLengthAndCheck : MethodName × ByteArray × Nat × Option FieldType := (⟨"ArchiveBench$Archive", "readLengthAndCheck", "(LArchiveBench$OpenFile;)I"⟩, prog_2_method_14_code, 2, (some .int))
abbrev rr_Ar_readLengthAndCheck : Nat × Nat := (3, 66)
def mm_Ar_readNumber : MethodName × ByteArray × Nat × Option FieldType := (⟨"ArchiveBench$Archive", "readNumber", "()I"⟩, prog_2_method_15_code, 3, (some .int))
abbrev rr_Ar_readNumber : Nat × Nat := (2, 43)
def mm_Ar_passSqueezed : MethodName × ByteArray × Nat × Option FieldType := (⟨"ArchiveBench$Archive", "passSqueezed", "(LArchiveBench$OpenFile;)I"⟩, prog_2_method_9_code, 5, (some .int))
abbrev rr_Ar_passSqueezed : Nat × Nat := (1, 22)
def mm_Ar_openIndex : MethodName × ByteArray × Nat × Option FieldType := (⟨"ArchiveBench$Archive", "openIndex", "()I"⟩, prog_2_method_10_code, 6, (some .int))
abbrev rr_Ar_openIndex : Nat × Nat := (5, 114)
def mm_Ar_testTail : MethodName × ByteArray × Nat × Option FieldType := (⟨"ArchiveBench$Archive", "testTail", "(I)I"⟩, prog_2_method_11_code, 3, (some .int))
abbrev rr_Ar_testTail : Nat × Nat := (2, 48)
def mm_Row_numberAt : MethodName × ByteArray × Nat × Option FieldType := (⟨"ArchiveBench$Row", "numberAt", "(I)I"⟩, prog_5_method_3_code, 2, (some .int))
abbrev rr_Row_numberAt : Nat × Nat := (1, 21)
def mm_Ar_readEntry : MethodName × ByteArray × Nat × Option FieldType := (⟨"ArchiveBench$Archive", "readEntry", "(LArchiveBench$OpenFile;I)I"⟩, prog_2_method_12_code, 5, (some .int))
abbrev rr_Ar_readEntry : Nat × Nat := (4, 90)
def mm_AB_place : MethodName × ByteArray × Nat × Option FieldType := (⟨"ArchiveBench", "place", "()I"⟩, prog_1_method_10_code, 1, (some .int))
abbrev rr_AB_place : Nat × Nat := (0, 0)
def mm_AB_take : MethodName × ByteArray × Nat × Option FieldType := (⟨"ArchiveBench", "take", "(I)I"⟩, prog_1_method_11_code, 3, (some .int))
abbrev rr_AB_take : Nat × Nat := (4, 102)
def mm_Ar_has : MethodName × ByteArray × Nat × Option FieldType := (⟨"ArchiveBench$Archive", "has", "(I)Z"⟩, prog_2_method_3_code, 2, (some .boolean))
abbrev rr_Ar_has : Nat × Nat := (0, 0)
def mm_OF_hasSafeName : MethodName × ByteArray × Nat × Option FieldType := (⟨"ArchiveBench$OpenFile", "hasSafeName", "()Z"⟩, prog_3_method_3_code, 3, (some .boolean))
abbrev rr_OF_hasSafeName : Nat × Nat := (2, 44)
def mm_OF_isSafePart : MethodName × ByteArray × Nat × Option FieldType := (⟨"ArchiveBench$OpenFile", "isSafePart", "(II)Z"⟩, prog_3_method_4_code, 4, (some .boolean))
abbrev rr_OF_isSafePart : Nat × Nat := (1, 21)
def mm_Ar_hasNameBefore : MethodName × ByteArray × Nat × Option FieldType := (⟨"ArchiveBench$Archive", "hasNameBefore", "(I)Z"⟩, prog_2_method_4_code, 3, (some .boolean))
abbrev rr_Ar_hasNameBefore : Nat × Nat := (2, 43)
def mm_Row_isSameAs : MethodName × ByteArray × Nat × Option FieldType := (⟨"ArchiveBench$Row", "isSameAs", "(LArchiveBench$Row;)Z"⟩, prog_5_method_12_code, 3, (some .boolean))
abbrev rr_Row_isSameAs : Nat × Nat := (1, 21)
def mm_Un_unsqueeze : MethodName × ByteArray × Nat × Option FieldType := (⟨"ArchiveBench$Unsqueezing", "unsqueeze", "(LArchiveBench$Row;LArchiveBench$OpenFile;LArchiveBench$Row;)Z"⟩, prog_7_method_2_code, 6, (some .boolean))
abbrev rr_Un_unsqueeze : Nat × Nat := (3, 77)
def mm_Un_unsqueezeRuns : MethodName × ByteArray × Nat × Option FieldType := (⟨"ArchiveBench$Unsqueezing", "unsqueezeRuns", "(LArchiveBench$Row;IILArchiveBench$Row;)Z"⟩, prog_7_method_3_code, 8, (some .boolean))
abbrev rr_Un_unsqueezeRuns : Nat × Nat := (1, 23)
def mm_Un_unsqueezeCopies : MethodName × ByteArray × Nat × Option FieldType := (⟨"ArchiveBench$Unsqueezing", "unsqueezeCopies", "(LArchiveBench$Row;IILArchiveBench$Row;)Z"⟩, prog_7_method_4_code, 9, (some .boolean))
abbrev rr_Un_unsqueezeCopies : Nat × Nat := (2, 49)
def mm_Un_copyBack : MethodName × ByteArray × Nat × Option FieldType := (⟨"ArchiveBench$Unsqueezing", "copyBack", "(LArchiveBench$Row;II)Z"⟩, prog_7_method_5_code, 4, (some .boolean))
abbrev rr_Un_copyBack : Nat × Nat := (1, 21)
def mm_AB_taken : MethodName × ByteArray × Nat × Option FieldType := (⟨"ArchiveBench", "taken", "(I)I"⟩, prog_1_method_12_code, 2, (some .int))
abbrev rr_AB_taken : Nat × Nat := (1, 21)
def mm_AB_file : MethodName × ByteArray × Nat × Option FieldType := (⟨"ArchiveBench", "file", "(II)I"⟩, prog_1_method_13_code, 3, (some .int))
abbrev rr_AB_file : Nat × Nat := (2, 42)
def mm_OF_tell : MethodName × ByteArray × Nat × Option FieldType := (⟨"ArchiveBench$OpenFile", "tell", "(I)I"⟩, prog_3_method_2_code, 2, (some .int))
abbrev rr_OF_tell : Nat × Nat := (1, 21)
def mm_AB_count : MethodName × ByteArray × Nat × Option FieldType := (⟨"ArchiveBench", "count", "(I)I"⟩, prog_1_method_14_code, 2, (some .int))
abbrev rr_AB_count : Nat × Nat := (0, 0)
def mm_Md_init : MethodName × ByteArray × Nat × Option FieldType := (⟨"ArchiveBenchModel", "<init>", "()V"⟩, prog_10_method_1_code, 1, none)
abbrev rr_Md_init : Nat × Nat := (1, 20)
def mm_Md_name : MethodName × ByteArray × Nat × Option FieldType := (⟨"ArchiveBenchModel", "name", "(I)I"⟩, prog_10_method_4_code, 2, (some .int))
abbrev rr_Md_name : Nat × Nat := (2, 42)
def mm_Md_sign : MethodName × ByteArray × Nat × Option FieldType := (⟨"ArchiveBenchModel", "sign", "(I)Z"⟩, prog_10_method_3_code, 1, (some .boolean))
abbrev rr_Md_sign : Nat × Nat := (1, 22)
def mm_Md_in : MethodName × ByteArray × Nat × Option FieldType := (⟨"ArchiveBenchModel", "in", "(III)Z"⟩, prog_10_method_2_code, 3, (some .boolean))
abbrev rr_Md_in : Nat × Nat := (0, 0)
def mm_Md_data : MethodName × ByteArray × Nat × Option FieldType := (⟨"ArchiveBenchModel", "data", "(II)I"⟩, prog_10_method_5_code, 4, (some .int))
abbrev rr_Md_data : Nat × Nat := (1, 22)
def mm_Md_add : MethodName × ByteArray × Nat × Option FieldType := (⟨"ArchiveBenchModel", "add", "(I)I"⟩, prog_10_method_6_code, 3, (some .int))
abbrev rr_Md_add : Nat × Nat := (1, 22)
def mm_Md_pack : MethodName × ByteArray × Nat × Option FieldType := (⟨"ArchiveBenchModel", "pack", "(I)I"⟩, prog_10_method_22_code, 3, (some .int))
abbrev rr_Md_pack : Nat × Nat := (5, 117)
def mm_Md_chain : MethodName × ByteArray × Nat × Option FieldType := (⟨"ArchiveBenchModel", "chain", "()V"⟩, prog_10_method_20_code, 5, none)
abbrev rr_Md_chain : Nat × Nat := (4, 93)
def mm_Md_squeeze : MethodName × ByteArray × Nat × Option FieldType := (⟨"ArchiveBenchModel", "squeeze", "(I)V"⟩, prog_10_method_13_code, 3, none)
abbrev rr_Md_squeeze : Nat × Nat := (3, 71)
def mm_Md_runs : MethodName × ByteArray × Nat × Option FieldType := (⟨"ArchiveBenchModel", "runs", "(I)V"⟩, prog_10_method_9_code, 7, none)
abbrev rr_Md_runs : Nat × Nat := (1, 22)
def mm_Md_byteOf : MethodName × ByteArray × Nat × Option FieldType := (⟨"ArchiveBenchModel", "byteOf", "(II)I"⟩, prog_10_method_8_code, 3, (some .int))
abbrev rr_Md_byteOf : Nat × Nat := (0, 0)
def mm_Md_push : MethodName × ByteArray × Nat × Option FieldType := (⟨"ArchiveBenchModel", "push", "(I)V"⟩, prog_10_method_7_code, 2, none)
abbrev rr_Md_push : Nat × Nat := (0, 0)
def mm_Md_copies : MethodName × ByteArray × Nat × Option FieldType := (⟨"ArchiveBenchModel", "copies", "(I)V"⟩, prog_10_method_12_code, 6, none)
abbrev rr_Md_copies : Nat × Nat := (2, 46)
def mm_Md_copyLength : MethodName × ByteArray × Nat × Option FieldType := (⟨"ArchiveBenchModel", "copyLength", "(III)I"⟩, prog_10_method_10_code, 5, (some .int))
abbrev rr_Md_copyLength : Nat × Nat := (1, 22)
def mm_Md_literals : MethodName × ByteArray × Nat × Option FieldType := (⟨"ArchiveBenchModel", "literals", "(III)V"⟩, prog_10_method_11_code, 5, none)
abbrev rr_Md_literals : Nat × Nat := (1, 22)
def mm_Md_say : MethodName × ByteArray × Nat × Option FieldType := (⟨"ArchiveBenchModel", "say", "(I)V"⟩, prog_10_method_16_code, 2, none)
abbrev rr_Md_say : Nat × Nat := (0, 0)
def mm_Md_sayHead : MethodName × ByteArray × Nat × Option FieldType := (⟨"ArchiveBenchModel", "sayHead", "(I)V"⟩, prog_10_method_19_code, 3, none)
abbrev rr_Md_sayHead : Nat × Nat := (1, 21)
def mm_Md_checkOf : MethodName × ByteArray × Nat × Option FieldType := (⟨"ArchiveBenchModel", "checkOf", "(I)I"⟩, prog_10_method_15_code, 4, (some .int))
abbrev rr_Md_checkOf : Nat × Nat := (1, 24)
def mm_Md_checked : MethodName × ByteArray × Nat × Option FieldType := (⟨"ArchiveBenchModel", "checked", "(II)I"⟩, prog_10_method_14_code, 5, (some .int))
abbrev rr_Md_checked : Nat × Nat := (0, 0)
def mm_Md_sayTwo : MethodName × ByteArray × Nat × Option FieldType := (⟨"ArchiveBenchModel", "sayTwo", "(I)V"⟩, prog_10_method_17_code, 2, none)
abbrev rr_Md_sayTwo : Nat × Nat := (1, 21)
def mm_Md_sayRow : MethodName × ByteArray × Nat × Option FieldType := (⟨"ArchiveBenchModel", "sayRow", "()V"⟩, prog_10_method_18_code, 2, none)
abbrev rr_Md_sayRow : Nat × Nat := (1, 21)
def mm_Md_index : MethodName × ByteArray × Nat × Option FieldType := (⟨"ArchiveBenchModel", "index", "()V"⟩, prog_10_method_21_code, 5, none)
abbrev rr_Md_index : Nat × Nat := (4, 93)
def mm_Md_put : MethodName × ByteArray × Nat × Option FieldType := (⟨"ArchiveBenchModel", "put", "(II)I"⟩, prog_10_method_23_code, 3, (some .int))
abbrev rr_Md_put : Nat × Nat := (1, 22)
def mm_Md_cut : MethodName × ByteArray × Nat × Option FieldType := (⟨"ArchiveBenchModel", "cut", "(I)I"⟩, prog_10_method_24_code, 2, (some .int))
abbrev rr_Md_cut : Nat × Nat := (1, 22)
def mm_Md_image : MethodName × ByteArray × Nat × Option FieldType := (⟨"ArchiveBenchModel", "image", "(I)I"⟩, prog_10_method_25_code, 2, (some .int))
abbrev rr_Md_image : Nat × Nat := (1, 22)
def mm_Md_open : MethodName × ByteArray × Nat × Option FieldType := (⟨"ArchiveBenchModel", "open", "()I"⟩, prog_10_method_33_code, 3, (some .int))
abbrev rr_Md_open : Nat × Nat := (5, 119)
def mm_Md_openIndex : MethodName × ByteArray × Nat × Option FieldType := (⟨"ArchiveBenchModel", "openIndex", "()I"⟩, prog_10_method_32_code, 7, (some .int))
abbrev rr_Md_openIndex : Nat × Nat := (4, 93)
def mm_Md_stop : MethodName × ByteArray × Nat × Option FieldType := (⟨"ArchiveBenchModel", "stop", "(II)I"⟩, prog_10_method_26_code, 3, (some .int))
abbrev rr_Md_stop : Nat × Nat := (0, 0)
def mm_Md_two : MethodName × ByteArray × Nat × Option FieldType := (⟨"ArchiveBenchModel", "two", "(I)I"⟩, prog_10_method_27_code, 2, (some .int))
abbrev rr_Md_two : Nat × Nat := (0, 0)
def mm_Md_openEntry : MethodName × ByteArray × Nat × Option FieldType := (⟨"ArchiveBenchModel", "openEntry", "(III)I"⟩, prog_10_method_31_code, 6, (some .int))
abbrev rr_Md_openEntry : Nat × Nat := (3, 68)
def mm_Md_head : MethodName × ByteArray × Nat × Option FieldType := (⟨"ArchiveBenchModel", "head", "(II)I"⟩, prog_10_method_28_code, 7, (some .int))
abbrev rr_Md_head : Nat × Nat := (2, 42)
def mm_Md_note : MethodName × ByteArray × Nat × Option FieldType := (⟨"ArchiveBenchModel", "note", "(IIII)V"⟩, prog_10_method_29_code, 6, none)
abbrev rr_Md_note : Nat × Nat := (0, 0)
def mm_Md_openChain : MethodName × ByteArray × Nat × Option FieldType := (⟨"ArchiveBenchModel", "openChain", "()I"⟩, prog_10_method_30_code, 8, (some .int))
abbrev rr_Md_openChain : Nat × Nat := (3, 68)
def mm_Md_place : MethodName × ByteArray × Nat × Option FieldType := (⟨"ArchiveBenchModel", "place", "()I"⟩, prog_10_method_34_code, 1, (some .int))
abbrev rr_Md_place : Nat × Nat := (0, 0)
def mm_Md_take : MethodName × ByteArray × Nat × Option FieldType := (⟨"ArchiveBenchModel", "take", "(I)I"⟩, prog_10_method_42_code, 4, (some .int))
abbrev rr_Md_take : Nat × Nat := (4, 95)
def mm_Md_safe : MethodName × ByteArray × Nat × Option FieldType := (⟨"ArchiveBenchModel", "safe", "(I)Z"⟩, prog_10_method_37_code, 6, (some .boolean))
abbrev rr_Md_safe : Nat × Nat := (2, 44)
def mm_Md_of : MethodName × ByteArray × Nat × Option FieldType := (⟨"ArchiveBenchModel", "of", "(II)I"⟩, prog_10_method_35_code, 3, (some .int))
abbrev rr_Md_of : Nat × Nat := (0, 0)
def mm_Md_nameAt : MethodName × ByteArray × Nat × Option FieldType := (⟨"ArchiveBenchModel", "nameAt", "(II)I"⟩, prog_10_method_36_code, 3, (some .int))
abbrev rr_Md_nameAt : Nat × Nat := (1, 22)
def mm_Md_sameName : MethodName × ByteArray × Nat × Option FieldType := (⟨"ArchiveBenchModel", "sameName", "(II)Z"⟩, prog_10_method_38_code, 4, (some .boolean))
abbrev rr_Md_sameName : Nat × Nat := (2, 44)
def mm_Md_unsqueeze : MethodName × ByteArray × Nat × Option FieldType := (⟨"ArchiveBenchModel", "unsqueeze", "(I)Z"⟩, prog_10_method_41_code, 5, (some .boolean))
abbrev rr_Md_unsqueeze : Nat × Nat := (3, 71)
def mm_Md_piece : MethodName × ByteArray × Nat × Option FieldType := (⟨"ArchiveBenchModel", "piece", "(III)I"⟩, prog_10_method_40_code, 8, (some .int))
abbrev rr_Md_piece : Nat × Nat := (2, 44)
def mm_Md_make : MethodName × ByteArray × Nat × Option FieldType := (⟨"ArchiveBenchModel", "make", "(II)Z"⟩, prog_10_method_39_code, 3, (some .boolean))
abbrev rr_Md_make : Nat × Nat := (1, 22)
def mm_Md_taken : MethodName × ByteArray × Nat × Option FieldType := (⟨"ArchiveBenchModel", "taken", "(I)I"⟩, prog_10_method_43_code, 2, (some .int))
abbrev rr_Md_taken : Nat × Nat := (1, 22)
def mm_Md_file : MethodName × ByteArray × Nat × Option FieldType := (⟨"ArchiveBenchModel", "file", "(II)I"⟩, prog_10_method_44_code, 3, (some .int))
abbrev rr_Md_file : Nat × Nat := (1, 22)
def mm_Md_count : MethodName × ByteArray × Nat × Option FieldType := (⟨"ArchiveBenchModel", "count", "(I)I"⟩, prog_10_method_45_code, 2, (some .int))
abbrev rr_Md_count : Nat × Nat := (0, 0)
def mm_Lw_law : MethodName × ByteArray × Nat × Option FieldType := (⟨"ArchiveBenchLaw", "law", "([I)Z"⟩, code, 4, (some .boolean))
abbrev rr_Lw_law : Nat × Nat := (7, 166)
end
section
/-! ONE MACHINE FOR ALL METHODS. A world is a function from numbers (ids) to cells; id 0 is the script. 'ab_R G M d pc lv st w r w2': the method M, at pc with locals lv and stack st in the world w, comes to its return with r, in the world w2. One row an instruction; the machine of the kit is behind it. -/
abbrev ab_H : Type := Nat → Option va_E
abbrev ab_W : Type := ab_H × Nat × Nat
abbrev ab_M : Type := MethodName × ByteArray × Nat × Option FieldType
abbrev ab_G : Type := Launch × va_G × List (ClassId × FieldType) × Nat × Nat × Nat × (Nat → Int32)
abbrev g_l (G : ab_G) : Launch := G.1
abbrev g_D (G : ab_G) : va_G := G.2.1
abbrev g_T (G : ab_G) : List (ClassId × FieldType) := G.2.2.1
abbrev g_b (G : ab_G) : Nat := G.2.2.2.1
abbrev g_B (G : ab_G) : Nat := G.2.2.2.2.1
abbrev g_L (G : ab_G) : Nat := G.2.2.2.2.2.1
abbrev g_x (G : ab_G) : Nat → Int32 := G.2.2.2.2.2.2
def ab_ad (G : ab_G) (i : Nat) : Nat := if i = 0 then g_b G else g_B G + i
def ab_v (G : ab_G) (v : Value) : Value := match v with
  | .ref a => .ref (ab_ad G a)
  | w => w
def ab_q (G : ab_G) (x : vp_A) : vp_A := match x with
  | (n, .inr (.inr (.inr (.inr f)))) => (n, .inr (.inr (.inr (.inr (fun i => (f i).map (ab_ad G))))))
  | y => y
def ab_e (G : ab_G) (x : va_E) : va_E := match x with
  | .inl (t, y) => .inl (((g_T G).getD t (0, .int)).1, ab_q G y)
  | .inr (ci, fs) => .inr (ci, fs.map (ab_v G))
def ab_w (G : ab_G) (h : ab_H) (n : Nat) : va_W := (List.range (n - 1)).map (fun i => (g_B G + (i + 1), ab_e G ((h (i + 1)).getD (.inr (0, [])))))
def ab_l (G : ab_G) (lv : List (Nat × Value)) : List (Nat × Value) := lv.map (fun q => (q.1, ab_v G q.2))
def ab_L (G : ab_G) (M : ab_M) (lv : List (Nat × Value)) (ls : Array Slot) : Prop := lv_has ls M.2.2.1 (ab_l G lv) ∧ ∀ q ∈ lv, q.2.category = 1
def ab_A (G : ab_G) : Nat → Prop := fun q => g_B G < q
def ab_dom (w : ab_W) : Prop := 1 ≤ w.2.1 ∧ ∀ i, (w.1 i).isSome = true ↔ 0 < i ∧ i < w.2.1
/-- the words that hold in every state, and stay -/
def ab_T : List Cond := lw_tbl.filter goodWord
theorem ab_T_in {w : Cond} (h : w ∈ lw_tbl) (hg : goodWord w = true) : w ∈ ab_T := List.mem_filter.mpr ⟨h, hg⟩
def ab_K (G : ab_G) (s : State) : Prop := va_K (g_D G) vwCl (g_T G) s ∧ (g_T G).map Prod.snd = ab_tys ∧ va_X (g_b G) (g_L G) (g_x G) s s.heap ∧ g_b G ≤ g_B G ∧ g_B G < s.heap.size ∧ (∀ q ∈ ab_nestM, va_Nw (.methodLinkNest q.1 q.2.1 q.2.2.1 q.2.2.2) s) ∧ ∀ C ∈ ab_over, va_AO C s
def ab_C (G : ab_G) (M : ab_M) (d : Nat × Nat) (p : Program) (R : Room) (s : State) (m : MethodId) (args : Array Value) (meth : Method) (c : Code) : Prop :=
  p.tables.exec = Jvm.exec ∧ c.code = M.2.1 ∧ meth.sig.returnType = M.2.2.2 ∧ c.maxLocals = M.2.2.1 ∧ s.vm.findClass M.1.cls = some m.cls ∧ (∀ w ∈ ab_T, w.before args s = true) ∧ meth.locks = false ∧ meth.name = M.1.name ∧ d.1 ≤ R.frames ∧ d.2 ≤ R.locals ∧ ab_K G s
def ab_I (G : ab_G) (w : ab_W) (s : State) (H : Heap) (locs : List Loc) : Prop := ab_dom w ∧ va_P (g_D G) vwCl (ab_w G w.1 w.2.1) H ∧ va_S (ab_A G) s.heap H locs
def ab_end (cc : ByteArray) (pc : Nat) (r : Option Value) : Prop := (r = none ∧ decode cc pc = .ok (.return_, 1)) ∨ (∃ x, r = some (.int x) ∧ decode cc pc = .ok (.ireturn, 1)) ∨ ∃ a, r = some (.ref a) ∧ decode cc pc = .ok (.areturn, 1)
def ab_R (G : ab_G) (M : ab_M) (d : Nat × Nat) (pc : Nat) (lv : List (Nat × Value)) (st : List Value) (w : ab_W) (r : Option Value) (w2 : ab_W) : Prop :=
  w.2.1 ≤ w2.2.1 ∧ w.2.2 ≤ w2.2.2 ∧ ∀ (p : Program) (e : Env) (R : Room) (s : State) (m : MethodId) (args : Array Value) (below : List Frame) (meth : Method) (c : Code) (H : Heap) (locs : List Loc) (cells slots : Nat) (ls : Array Slot) (Q : State → Prop),
    ab_C G M d p R s m args meth c → ab_I G w s H locs → s.heap.size + cells = g_B G + w.2.1 → cells + (w2.2.1 - w.2.1) ≤ R.cells → slots + (w2.2.2 - w.2.2) ≤ R.slots → ab_L G M lv ls →
    (∀ (H1 : Heap) (locs1 : List Loc) (pc1 : Nat) (ls1 : Array Slot), ab_I G w2 s H1 locs1 → ab_end M.2.1 pc1 r → W p (g_l G) e R s m args below meth c H1 locs1 (cells + (w2.2.1 - w.2.1)) (slots + (w2.2.2 - w.2.2)) Q (F0 m pc1 ls1 (r.toList.map (ab_v G)))) →
    W p (g_l G) e R s m args below meth c H locs cells slots Q (F0 m pc ls (st.map (ab_v G)))
theorem ab_v_i (G : ab_G) (x : Int32) : ab_v G (.int x) = .int x := rfl
theorem ab_v_r (G : ab_G) (a : Nat) : ab_v G (.ref a) = .ref (ab_ad G a) := rfl
theorem ab_cat (G : ab_G) (v : Value) : (ab_v G v).category = v.category := by cases v <;> rfl
theorem ab_cats (G : ab_G) (st : List Value) : ((st.map (ab_v G)).map fun v => v.category) = st.map fun v => v.category := by
  rw [List.map_map]; exact List.map_congr_left (fun v _ => ab_cat G v)
theorem ab_ad_pos (G : ab_G) {a : Nat} (h : 0 < a) : ab_ad G a = g_B G + a := if_neg (by omega)
theorem ab_w_get (G : ab_G) {h : ab_H} {n a : Nat} {x : va_E} (hx : h a = some x) (h0 : 0 < a) (hn : a < n) : (ab_w G h n)[a - 1]? = some (ab_ad G a, ab_e G x) := by
  have e1 : a - 1 + 1 = a := by omega
  rw [ab_w, List.getElem?_map, List.getElem?_range (by omega), Option.map_some, e1, hx, ab_ad_pos G h0]
  rfl
theorem ab_w_at (G : ab_G) {h : ab_H} {n k : Nat} {q : Nat × va_E} (hk : (ab_w G h n)[k]? = some q) : k + 1 < n ∧ q = (g_B G + (k + 1), ab_e G ((h (k + 1)).getD (.inr (0, [])))) := by
  rw [ab_w, List.getElem?_map] at hk
  by_cases hl : k < n - 1
  · rw [List.getElem?_range hl, Option.map_some] at hk
    exact ⟨by omega, (Option.some.inj hk).symm⟩
  · rw [List.getElem?_eq_none (by simpa using hl)] at hk
    cases hk
theorem ab_w_set (G : ab_G) {h : ab_H} {n a : Nat} (x : va_E) (h0 : 0 < a) (hn : a < n) : (ab_w G h n).set (a - 1) (ab_ad G a, ab_e G x) = ab_w G (va_up h a (some x)) n := by
  apply List.ext_getElem?
  intro k
  have e1 : a - 1 + 1 = a := by omega
  by_cases hl : k < n - 1
  · by_cases hk : k = a - 1
    · subst hk
      rw [List.getElem?_set_self (by simp [ab_w]; omega), ab_w_get G (x := x) (by simp [va_up]) h0 hn]
    · rw [List.getElem?_set_ne (Ne.symm hk), ab_w, ab_w, List.getElem?_map, List.getElem?_map, List.getElem?_range hl]
      have e2 : va_up h a (some x) (k + 1) = h (k + 1) := if_neg (by omega)
      simp only [Option.map_some, e2]
  · rw [List.getElem?_eq_none (by simp [ab_w]; omega), List.getElem?_eq_none (by simp [ab_w]; omega)]
theorem ab_w_push (G : ab_G) {h : ab_H} {n : Nat} (x : va_E) (hn : 1 ≤ n) : ab_w G h n ++ [(g_B G + n, ab_e G x)] = ab_w G (va_up h n (some x)) (n + 1) := by
  have e1 : n + 1 - 1 = (n - 1) + 1 := by omega
  have e2 : n - 1 + 1 = n := by omega
  rw [ab_w, ab_w, e1, List.range_succ, List.map_append]
  congr 1
  · apply List.map_congr_left
    intro i hi
    have hi' := List.mem_range.mp hi
    have e3 : va_up h n (some x) (i + 1) = h (i + 1) := if_neg (by omega)
    rw [e3]
  · simp only [List.map_cons, List.map_nil, e2]
    have e3 : va_up h n (some x) n = some x := if_pos rfl
    rw [e3]
    rfl
theorem ab_w_D (G : ab_G) (h : ab_H) (n : Nat) : va_D (ab_A G) (ab_w G h n) := by
  refine ⟨fun i j x y hi hj hxy => ?_, fun k q hk => ?_⟩
  · rw [(ab_w_at G hi).2, (ab_w_at G hj).2] at hxy
    dsimp only at hxy
    omega
  · rw [(ab_w_at G hk).2]
    show g_B G < g_B G + (k + 1)
    omega
theorem ab_dom.pos {w : ab_W} (h : ab_dom w) {a : Nat} {x : va_E} (hx : w.1 a = some x) : 0 < a ∧ a < w.2.1 := (h.2 a).mp (by rw [hx]; rfl)
theorem ab_dom.set {w : ab_W} (h : ab_dom w) {a : Nat} {x y : va_E} (hx : w.1 a = some x) : ab_dom (va_up w.1 a (some y), w.2) := by
  refine ⟨h.1, fun i => ?_⟩
  by_cases hi : i = a
  · subst hi
    have e : va_up w.1 i (some y) i = some y := if_pos rfl
    show (va_up w.1 i (some y) i).isSome = true ↔ _
    rw [e]
    exact ⟨fun _ => h.pos hx, fun _ => rfl⟩
  · have e : va_up w.1 a (some y) i = w.1 i := if_neg hi
    show (va_up w.1 a (some y) i).isSome = true ↔ _
    rw [e]
    exact h.2 i
theorem ab_dom.push {w : ab_W} (h : ab_dom w) (x : va_E) (k : Nat) : ab_dom (va_up w.1 w.2.1 (some x), w.2.1 + 1, k) := by
  refine ⟨Nat.le_add_left _ _, fun i => ?_⟩
  show (va_up w.1 w.2.1 (some x) i).isSome = true ↔ 0 < i ∧ i < w.2.1 + 1
  by_cases hi : i = w.2.1
  · have e : va_up w.1 w.2.1 (some x) i = some x := if_pos hi
    rw [e]
    have := h.1
    exact ⟨fun _ => ⟨by omega, by omega⟩, fun _ => rfl⟩
  · have e : va_up w.1 w.2.1 (some x) i = w.1 i := if_neg hi
    rw [e, h.2 i]
    omega
/-- a local's value; storing one -/
def ab_at : List (Nat × Value) → Nat → Option Value
  | [], _ => none
  | (j, v) :: t, i => if j = i then some v else ab_at t i
def ab_rm : List (Nat × Value) → Nat → List (Nat × Value)
  | [], _ => []
  | (j, w) :: t, i => if j = i then ab_rm t i else (j, w) :: ab_rm t i
def ab_st : List (Nat × Value) → Nat → Value → List (Nat × Value)
  | [], i, v => [(i, v)]
  | (j, w) :: t, i, v => if j = i then (i, v) :: ab_rm t i else (j, w) :: ab_st t i v
theorem ab_at_mem : ∀ {lv : List (Nat × Value)} {i : Nat} {v : Value}, ab_at lv i = some v → (i, v) ∈ lv
  | [], _, _, h => by simp [ab_at] at h
  | (j, w) :: t, i, v, h => by
    unfold ab_at at h
    split at h
    · rename_i e
      subst e
      cases h
      exact List.mem_cons_self
    · exact List.mem_cons_of_mem _ (ab_at_mem h)
theorem ab_rm_mem : ∀ {lv : List (Nat × Value)} {i : Nat} {q : Nat × Value}, q ∈ ab_rm lv i → q ∈ lv ∧ q.1 ≠ i
  | [], _, _, h => by simp [ab_rm] at h
  | (j, w) :: t, i, q, h => by
    unfold ab_rm at h
    split at h
    · exact ⟨List.mem_cons_of_mem _ (ab_rm_mem h).1, (ab_rm_mem h).2⟩
    · rename_i e
      rcases List.mem_cons.mp h with rfl | h
      · exact ⟨List.mem_cons_self, e⟩
      · exact ⟨List.mem_cons_of_mem _ (ab_rm_mem h).1, (ab_rm_mem h).2⟩
theorem ab_st_mem : ∀ {lv : List (Nat × Value)} {i : Nat} {v : Value} {q : Nat × Value}, q ∈ ab_st lv i v → q = (i, v) ∨ (q ∈ lv ∧ q.1 ≠ i)
  | [], _, _, _, h => by
    simp [ab_st] at h
    exact Or.inl h
  | (j, w) :: t, i, v, q, h => by
    unfold ab_st at h
    split at h
    · rcases List.mem_cons.mp h with rfl | h
      · exact Or.inl rfl
      · exact Or.inr ⟨List.mem_cons_of_mem _ (ab_rm_mem h).1, (ab_rm_mem h).2⟩
    · rename_i e
      rcases List.mem_cons.mp h with rfl | h
      · exact Or.inr ⟨List.mem_cons_self, e⟩
      · rcases ab_st_mem h with h | h
        · exact Or.inl h
        · exact Or.inr ⟨List.mem_cons_of_mem _ h.1, h.2⟩
theorem ab_L.at {G : ab_G} {M : ab_M} {lv : List (Nat × Value)} {ls : Array Slot} (h : ab_L G M lv ls) {i : Nat} {v : Value} (hv : ab_at lv i = some v) : ls[i]? = some (.val (ab_v G v)) :=
  h.1.2.2 (i, ab_v G v) (List.mem_map.mpr ⟨(i, v), ab_at_mem hv, rfl⟩)
theorem ab_L.set {G : ab_G} {M : ab_M} {lv : List (Nat × Value)} {ls : Array Slot} (h : ab_L G M lv ls) {i : Nat} {v : Value} (hc : v.category = 1) {ls2 : Array Slot}
    (h2 : lv_has ls2 M.2.2.1 ((i, ab_v G v) :: (ab_l G lv).filter (fun q => !(q.1 == i) && !(q.1 + 1 == i && q.2.category == 2)))) : ab_L G M (ab_st lv i v) ls2 := by
  refine ⟨⟨h2.1, h2.2.1, fun q hq => ?_⟩, fun q hq => ?_⟩
  · obtain ⟨q0, hq0, rfl⟩ := List.mem_map.mp hq
    rcases ab_st_mem hq0 with rfl | ⟨h3, h4⟩
    · exact h2.2.2 _ List.mem_cons_self
    · refine h2.2.2 (q0.1, ab_v G q0.2) (List.mem_cons_of_mem _ (List.mem_filter.mpr ⟨List.mem_map.mpr ⟨q0, h3, rfl⟩, ?_⟩))
      have h5 := h.2 q0 h3
      simp [h4, ab_cat, h5]
  · rcases ab_st_mem hq with rfl | ⟨h3, -⟩
    · exact hc
    · exact h.2 q h3
end
section
/-! The rows. -/
def ab_rt (ret : Option FieldType) (r : Option Value) : Prop := match r with
  | none => ret = none
  | some (.int x) => ∃ ty, ret = some ty ∧ narrow ty (.int x) = .int x
  | some (.ref _) => ∃ ty, ret = some ty ∧ ((∃ n, ty = .object n) ∨ ∃ t, ty = .array t)
  | _ => False
/-- from here the method comes to its end, with an answer and a world of which P holds -/
def ab_E (G : ab_G) (M : ab_M) (d : Nat × Nat) (pc : Nat) (lv : List (Nat × Value)) (st : List Value) (w : ab_W) (P : Option Value → ab_W → Prop) : Prop := ∃ r w2, ab_R G M d pc lv st w r w2 ∧ ab_rt M.2.2.2 r ∧ P r w2
theorem ab_E.mono {G : ab_G} {M : ab_M} {d : Nat × Nat} {pc : Nat} {lv : List (Nat × Value)} {st : List Value} {w : ab_W} {P P2 : Option Value → ab_W → Prop} (h : ab_E G M d pc lv st w P) (hP : ∀ r w2, P r w2 → P2 r w2) : ab_E G M d pc lv st w P2 := by
  obtain ⟨r, w2, h1, h2, h3⟩ := h
  exact ⟨r, w2, h1, h2, hP r w2 h3⟩
theorem ab_C.room {G : ab_G} {M : ab_M} {d d2 : Nat × Nat} {p : Program} {R : Room} {s : State} {m : MethodId} {args : Array Value} {meth : Method} {c : Code} (h : ab_C G M d p R s m args meth c) (h1 : d2.1 ≤ d.1) (h2 : d2.2 ≤ d.2) : ab_C G M d2 p R s m args meth c := by
  obtain ⟨a1, a2, a3, a4, a5, a6, a7, a8, a9, a10, a11⟩ := h
  exact ⟨a1, a2, a3, a4, a5, a6, a7, a8, Nat.le_trans h1 a9, Nat.le_trans h2 a10, a11⟩
theorem ab_E.room {G : ab_G} {M : ab_M} {d d2 : Nat × Nat} {pc : Nat} {lv : List (Nat × Value)} {st : List Value} {w : ab_W} {P : Option Value → ab_W → Prop} (h : ab_E G M d2 pc lv st w P) (h1 : d2.1 ≤ d.1) (h2 : d2.2 ≤ d.2) : ab_E G M d pc lv st w P := by
  obtain ⟨r, w2, ⟨b1, b2, b3⟩, hr, hP⟩ := h
  exact ⟨r, w2, ⟨b1, b2, fun p e R s m args below meth c H locs cells slots ls Q C => b3 p e R s m args below meth c H locs cells slots ls Q (C.room h1 h2)⟩, hr, hP⟩
section AB
variable {G : ab_G} {M : ab_M} {d : Nat × Nat} {pc : Nat} {lv : List (Nat × Value)} {st : List Value} {w : ab_W} {P : Option Value → ab_W → Prop}
/-- a step that changes no cell -/
theorem ab_go {pc1 : Nat} {lv1 : List (Nat × Value)} {st1 : List Value}
    (step : ∀ (p : Program) (e : Env) (R : Room) (s : State) (m : MethodId) (args : Array Value) (below : List Frame) (meth : Method) (c : Code) (H : Heap) (locs : List Loc) (cells slots : Nat) (ls : Array Slot) (Q : State → Prop), ab_C G M d p R s m args meth c → ab_I G w s H locs → cells ≤ R.cells → slots ≤ R.slots → ab_L G M lv ls → (∀ ls1, ab_L G M lv1 ls1 → W p (g_l G) e R s m args below meth c H locs cells slots Q (F0 m pc1 ls1 (st1.map (ab_v G)))) → W p (g_l G) e R s m args below meth c H locs cells slots Q (F0 m pc ls (st.map (ab_v G))))
    (kk : ab_E G M d pc1 lv1 st1 w P) : ab_E G M d pc lv st w P := by
  obtain ⟨r, w2, ⟨b1, b2, b3⟩, hr, hP⟩ := kk
  exact ⟨r, w2, ⟨b1, b2, fun p e R s m args below meth c H locs cells slots ls Q C I hz hc hs hl hret => step p e R s m args below meth c H locs cells slots ls Q C I (by omega) (by omega) hl (fun ls1 hl1 => b3 p e R s m args below meth c H locs cells slots ls1 Q C I hz hc hs hl1 hret)⟩, hr, hP⟩
/-- a step that writes one cell -/
theorem ab_goW {pc1 : Nat} {st1 : List Value} {h1 : ab_H}
    (step : ∀ (p : Program) (e : Env) (R : Room) (s : State) (m : MethodId) (args : Array Value) (below : List Frame) (meth : Method) (c : Code) (H : Heap) (locs : List Loc) (cells slots : Nat) (ls : Array Slot) (Q : State → Prop), ab_C G M d p R s m args meth c → ab_I G w s H locs → ab_L G M lv ls → (∀ (H1 : Heap) (locs1 : List Loc), ab_I G (h1, w.2) s H1 locs1 → W p (g_l G) e R s m args below meth c H1 locs1 cells slots Q (F0 m pc1 ls (st1.map (ab_v G)))) → W p (g_l G) e R s m args below meth c H locs cells slots Q (F0 m pc ls (st.map (ab_v G))))
    (kk : ab_E G M d pc1 lv st1 (h1, w.2) P) : ab_E G M d pc lv st w P := by
  obtain ⟨r, w2, ⟨b1, b2, b3⟩, hr, hP⟩ := kk
  exact ⟨r, w2, ⟨b1, b2, fun p e R s m args below meth c H locs cells slots ls Q C I hz hc hs hl hret => step p e R s m args below meth c H locs cells slots ls Q C I hl (fun H1 locs1 I1 => b3 p e R s m args below meth c H1 locs1 cells slots ls Q C I1 hz hc hs hl hret)⟩, hr, hP⟩

theorem e_iconst {n : Int} {v : Int32} (hd : decode M.2.1 pc = .ok (.iconst n, 1)) (hv : Int32.ofInt n = v) (kk : ab_E G M d (pc + 1) lv (.int v :: st) w P) : ab_E G M d pc lv st w P :=
  ab_go (fun p e R s m args below meth c H locs cells slots ls Q C I hc hs hl k => lv_iconst C.1 C.2.1 hd hv (k ls hl)) kk
theorem e_bipush {n : Int} {v : Int32} (hd : decode M.2.1 pc = .ok (.bipush n, 2)) (hv : (Int8.ofInt n).toInt32 = v) (kk : ab_E G M d (pc + 2) lv (.int v :: st) w P) : ab_E G M d pc lv st w P :=
  ab_go (fun p e R s m args below meth c H locs cells slots ls Q C I hc hs hl k => lv_bipush C.1 C.2.1 hd hv (k ls hl)) kk
theorem e_sipush {n : Int} {v : Int32} (hd : decode M.2.1 pc = .ok (.sipush n, 3)) (hv : (Int16.ofInt n).toInt32 = v) (kk : ab_E G M d (pc + 3) lv (.int v :: st) w P) : ab_E G M d pc lv st w P :=
  ab_go (fun p e R s m args below meth c H locs cells slots ls Q C I hc hs hl k => lv_sipush C.1 C.2.1 hd hv (k ls hl)) kk
theorem e_ldc {index : Nat} {v : Int32} (hd : decode M.2.1 pc = .ok (.ldc index, 2)) (hk : Cond.constant M.1.cls index v ∈ ab_T) (kk : ab_E G M d (pc + 2) lv (.int v :: st) w P) : ab_E G M d pc lv st w P :=
  ab_go (fun p e R s m args below meth c H locs cells slots ls Q C I hc hs hl k => lv_ldc C.1 C.2.1 C.2.2.2.2.1 (C.2.2.2.2.2.1 _ hk) hd (k ls hl)) kk
theorem e_iload_n {i : Fin 4} {x : Int32} (hd : decode M.2.1 pc = .ok (.iload_n i, 1)) (hv : ab_at lv i.val = some (.int x)) (kk : ab_E G M d (pc + 1) lv (.int x :: st) w P) : ab_E G M d pc lv st w P :=
  ab_go (fun p e R s m args below meth c H locs cells slots ls Q C I hc hs hl k => lv_iload_n C.1 C.2.1 hd rfl (hl.at hv) (k ls hl)) kk
theorem e_iload {i : Nat} {x : Int32} (hd : decode M.2.1 pc = .ok (.iload i, 2)) (hv : ab_at lv i = some (.int x)) (kk : ab_E G M d (pc + 2) lv (.int x :: st) w P) : ab_E G M d pc lv st w P :=
  ab_go (fun p e R s m args below meth c H locs cells slots ls Q C I hc hs hl k => lv_iload C.1 C.2.1 hd (hl.at hv) (k ls hl)) kk
theorem e_aload_n {i : Fin 4} {x : Nat} (hd : decode M.2.1 pc = .ok (.aload_n i, 1)) (hv : ab_at lv i.val = some (.ref x)) (kk : ab_E G M d (pc + 1) lv (.ref x :: st) w P) : ab_E G M d pc lv st w P :=
  ab_go (fun p e R s m args below meth c H locs cells slots ls Q C I hc hs hl k => lv_aload_n C.1 C.2.1 hd rfl (hl.at hv) (k ls hl)) kk
theorem e_aload {i : Nat} {x : Nat} (hd : decode M.2.1 pc = .ok (.aload i, 2)) (hv : ab_at lv i = some (.ref x)) (kk : ab_E G M d (pc + 2) lv (.ref x :: st) w P) : ab_E G M d pc lv st w P :=
  ab_go (fun p e R s m args below meth c H locs cells slots ls Q C I hc hs hl k => lv_aload C.1 C.2.1 hd (hl.at hv) (k ls hl)) kk
theorem e_istore_n {i : Fin 4} {x : Int32} {lv1 : List (Nat × Value)} (hd : decode M.2.1 pc = .ok (.istore_n i, 1)) (hi : i.val < M.2.2.1) (hv : ab_st lv i.val (.int x) = lv1) (kk : ab_E G M d (pc + 1) lv1 st w P) : ab_E G M d pc lv (.int x :: st) w P :=
  ab_go (fun p e R s m args below meth c H locs cells slots ls Q C I hc hs hl k => lv_istore_n C.1 C.2.1 hd rfl hl.1 hi rfl (fun ls1 h1 => k ls1 (hv ▸ hl.set rfl h1))) kk
theorem e_istore {i : Nat} {x : Int32} {lv1 : List (Nat × Value)} (hd : decode M.2.1 pc = .ok (.istore i, 2)) (hi : i < M.2.2.1) (hv : ab_st lv i (.int x) = lv1) (kk : ab_E G M d (pc + 2) lv1 st w P) : ab_E G M d pc lv (.int x :: st) w P :=
  ab_go (fun p e R s m args below meth c H locs cells slots ls Q C I hc hs hl k => lv_istore C.1 C.2.1 hd hl.1 hi rfl (fun ls1 h1 => k ls1 (hv ▸ hl.set rfl h1))) kk
theorem e_astore_n {i : Fin 4} {x : Nat} {lv1 : List (Nat × Value)} (hd : decode M.2.1 pc = .ok (.astore_n i, 1)) (hi : i.val < M.2.2.1) (hv : ab_st lv i.val (.ref x) = lv1) (kk : ab_E G M d (pc + 1) lv1 st w P) : ab_E G M d pc lv (.ref x :: st) w P :=
  ab_go (fun p e R s m args below meth c H locs cells slots ls Q C I hc hs hl k => lv_astore_n C.1 C.2.1 hd rfl hl.1 hi rfl (fun ls1 h1 => k ls1 (hv ▸ hl.set rfl h1))) kk
theorem e_astore {i : Nat} {x : Nat} {lv1 : List (Nat × Value)} (hd : decode M.2.1 pc = .ok (.astore i, 2)) (hi : i < M.2.2.1) (hv : ab_st lv i (.ref x) = lv1) (kk : ab_E G M d (pc + 2) lv1 st w P) : ab_E G M d pc lv (.ref x :: st) w P :=
  ab_go (fun p e R s m args below meth c H locs cells slots ls Q C I hc hs hl k => lv_astore C.1 C.2.1 hd hl.1 hi rfl (fun ls1 h1 => k ls1 (hv ▸ hl.set rfl h1))) kk
theorem ab_L.ix {G : ab_G} {M : ab_M} {lv : List (Nat × Value)} {ls : Array Slot} (_ : ab_L G M lv ls) {i : Nat} {v : Value} (hv : ab_at lv i = some v) : ∃ k : Nat, (ab_l G lv)[k]? = some (i, ab_v G v) := by
  obtain ⟨k, hk⟩ := List.getElem?_of_mem (ab_at_mem hv)
  exact ⟨k, by rw [ab_l, List.getElem?_map, hk]; rfl⟩
theorem e_iinc {i : Nat} {n : Int} {x v : Int32} {lv1 : List (Nat × Value)} (hd : decode M.2.1 pc = .ok (.iinc i n, 3)) (hx : ab_at lv i = some (.int x)) (hi : i < M.2.2.1) (hv : x + Int32.ofInt n = v) (hl1 : ab_st lv i (.int v) = lv1) (kk : ab_E G M d (pc + 3) lv1 st w P) : ab_E G M d pc lv st w P :=
  ab_go (fun p e R s m args below meth c H locs cells slots ls Q C I hc hs hl k => by
    obtain ⟨j, hj⟩ := hl.ix hx
    exact lv_iinc C.1 C.2.1 hd hl.1 hj hv hi rfl (fun ls1 h1 => k ls1 (hl1 ▸ hl.set (v := .int v) rfl h1))) kk
theorem e_iadd {x y : Int32} (hd : decode M.2.1 pc = .ok (.iadd, 1)) (kk : ab_E G M d (pc + 1) lv (.int (x + y) :: st) w P) : ab_E G M d pc lv (.int y :: .int x :: st) w P :=
  ab_go (fun p e R s m args below meth c H locs cells slots ls Q C I hc hs hl k => lv_iadd C.1 C.2.1 hd (k ls hl)) kk
theorem e_isub {x y : Int32} (hd : decode M.2.1 pc = .ok (.isub, 1)) (kk : ab_E G M d (pc + 1) lv (.int (x - y) :: st) w P) : ab_E G M d pc lv (.int y :: .int x :: st) w P :=
  ab_go (fun p e R s m args below meth c H locs cells slots ls Q C I hc hs hl k => lv_isub C.1 C.2.1 hd (k ls hl)) kk
theorem e_imul {x y : Int32} (hd : decode M.2.1 pc = .ok (.imul, 1)) (kk : ab_E G M d (pc + 1) lv (.int (x * y) :: st) w P) : ab_E G M d pc lv (.int y :: .int x :: st) w P :=
  ab_go (fun p e R s m args below meth c H locs cells slots ls Q C I hc hs hl k => lv_imul C.1 C.2.1 hd (k ls hl)) kk
theorem e_iand {x y : Int32} (hd : decode M.2.1 pc = .ok (.iand, 1)) (kk : ab_E G M d (pc + 1) lv (.int (x &&& y) :: st) w P) : ab_E G M d pc lv (.int y :: .int x :: st) w P :=
  ab_go (fun p e R s m args below meth c H locs cells slots ls Q C I hc hs hl k => lv_iand C.1 C.2.1 hd (k ls hl)) kk
theorem e_ior {x y : Int32} (hd : decode M.2.1 pc = .ok (.ior, 1)) (kk : ab_E G M d (pc + 1) lv (.int (x ||| y) :: st) w P) : ab_E G M d pc lv (.int y :: .int x :: st) w P :=
  ab_go (fun p e R s m args below meth c H locs cells slots ls Q C I hc hs hl k => lv_ior C.1 C.2.1 hd (k ls hl)) kk
theorem e_ixor {x y : Int32} (hd : decode M.2.1 pc = .ok (.ixor, 1)) (kk : ab_E G M d (pc + 1) lv (.int (x ^^^ y) :: st) w P) : ab_E G M d pc lv (.int y :: .int x :: st) w P :=
  ab_go (fun p e R s m args below meth c H locs cells slots ls Q C I hc hs hl k => lv_ixor C.1 C.2.1 hd (k ls hl)) kk
theorem e_ishl {x y : Int32} (hd : decode M.2.1 pc = .ok (.ishl, 1)) (kk : ab_E G M d (pc + 1) lv (.int (x <<< (y &&& 31)) :: st) w P) : ab_E G M d pc lv (.int y :: .int x :: st) w P :=
  ab_go (fun p e R s m args below meth c H locs cells slots ls Q C I hc hs hl k => lv_ishl C.1 C.2.1 hd (k ls hl)) kk
theorem e_ishr {x y : Int32} (hd : decode M.2.1 pc = .ok (.ishr, 1)) (kk : ab_E G M d (pc + 1) lv (.int (x >>> (y &&& 31)) :: st) w P) : ab_E G M d pc lv (.int y :: .int x :: st) w P :=
  ab_go (fun p e R s m args below meth c H locs cells slots ls Q C I hc hs hl k => lv_ishr C.1 C.2.1 hd (k ls hl)) kk
theorem e_iushr {x y v : Int32} (hd : decode M.2.1 pc = .ok (.iushr, 1)) (hv : (x.toUInt32 >>> (y.toUInt32 &&& Int32.toUInt32 31)).toInt32 = v) (kk : ab_E G M d (pc + 1) lv (.int v :: st) w P) : ab_E G M d pc lv (.int y :: .int x :: st) w P :=
  ab_go (fun p e R s m args below meth c H locs cells slots ls Q C I hc hs hl k => lv_iushr C.1 C.2.1 hd hv (k ls hl)) kk
theorem e_idiv {x y : Int32} (hd : decode M.2.1 pc = .ok (.idiv, 1)) (hy : ¬ y = 0) (kk : ab_E G M d (pc + 1) lv (.int (x / y) :: st) w P) : ab_E G M d pc lv (.int y :: .int x :: st) w P :=
  ab_go (fun p e R s m args below meth c H locs cells slots ls Q C I hc hs hl k => lv_idiv C.1 C.2.1 hd hy (k ls hl)) kk
theorem e_irem {x y : Int32} (hd : decode M.2.1 pc = .ok (.irem, 1)) (hy : ¬ y = 0) (kk : ab_E G M d (pc + 1) lv (.int (x - x / y * y) :: st) w P) : ab_E G M d pc lv (.int y :: .int x :: st) w P :=
  ab_go (fun p e R s m args below meth c H locs cells slots ls Q C I hc hs hl k => lv_irem C.1 C.2.1 hd hy (k ls hl)) kk
theorem e_ineg {x : Int32} (hd : decode M.2.1 pc = .ok (.ineg, 1)) (kk : ab_E G M d (pc + 1) lv (.int (-x) :: st) w P) : ab_E G M d pc lv (.int x :: st) w P :=
  ab_go (fun p e R s m args below meth c H locs cells slots ls Q C I hc hs hl k => lv_ineg C.1 C.2.1 hd (k ls hl)) kk
theorem e_dup {a : Value} (hd : decode M.2.1 pc = .ok (.dup, 1)) (ha : a.category = 1) (kk : ab_E G M d (pc + 1) lv (a :: a :: st) w P) : ab_E G M d pc lv (a :: st) w P :=
  ab_go (fun p e R s m args below meth c H locs cells slots ls Q C I hc hs hl k => lv_dup C.1 C.2.1 hd ((ab_cat G a).trans ha) (k ls hl)) kk
theorem e_pop {a : Value} (hd : decode M.2.1 pc = .ok (.pop, 1)) (ha : a.category = 1) (kk : ab_E G M d (pc + 1) lv st w P) : ab_E G M d pc lv (a :: st) w P :=
  ab_go (fun p e R s m args below meth c H locs cells slots ls Q C I hc hs hl k => lv_pop C.1 C.2.1 hd ((ab_cat G a).trans ha) (k ls hl)) kk
theorem e_dup_x1 {a b : Value} (hd : decode M.2.1 pc = .ok (.dup_x1, 1)) (ha : a.category = 1) (hb : b.category = 1) (kk : ab_E G M d (pc + 1) lv (a :: b :: a :: st) w P) : ab_E G M d pc lv (a :: b :: st) w P :=
  ab_go (fun p e R s m args below meth c H locs cells slots ls Q C I hc hs hl k => lv_dup_x1 C.1 C.2.1 hd ((ab_cat G a).trans ha) ((ab_cat G b).trans hb) (k ls hl)) kk
theorem e_dup_x2 {a b f : Value} (hd : decode M.2.1 pc = .ok (.dup_x2, 1)) (ha : a.category = 1) (hb : b.category = 1) (hf : f.category = 1) (kk : ab_E G M d (pc + 1) lv (a :: b :: f :: a :: st) w P) : ab_E G M d pc lv (a :: b :: f :: st) w P :=
  ab_go (fun p e R s m args below meth c H locs cells slots ls Q C I hc hs hl k => lv_dup_x2 C.1 C.2.1 hd ((ab_cat G a).trans ha) ((ab_cat G b).trans hb) ((ab_cat G f).trans hf) (k ls hl)) kk
theorem e_dup2 {a b : Value} (hd : decode M.2.1 pc = .ok (.dup2, 1)) (ha : a.category = 1) (hb : b.category = 1) (kk : ab_E G M d (pc + 1) lv (a :: b :: a :: b :: st) w P) : ab_E G M d pc lv (a :: b :: st) w P :=
  ab_go (fun p e R s m args below meth c H locs cells slots ls Q C I hc hs hl k => lv_dup2_11 C.1 C.2.1 hd ((ab_cat G a).trans ha) ((ab_cat G b).trans hb) (k ls hl)) kk
theorem e_icmp_eq {x y : Int32} {off : Int} {tgt : Nat} (hd : decode M.2.1 pc = .ok (.if_icmp .eq off, 3)) (ht : (pc : Int) + off = (tgt : Int)) (kt : x = y → ab_E G M d tgt lv st w P) (kf : ¬ x = y → ab_E G M d (pc + 3) lv st w P) : ab_E G M d pc lv (.int y :: .int x :: st) w P := by
  by_cases hq : x = y
  · exact ab_go (fun p e R s m args below meth c H locs cells slots ls Q C I hc hs hl k => lv_icmp_eq C.1 C.2.1 hd ht (fun _ => k ls hl) (fun h => absurd hq h)) (kt hq)
  · exact ab_go (fun p e R s m args below meth c H locs cells slots ls Q C I hc hs hl k => lv_icmp_eq C.1 C.2.1 hd ht (fun h => absurd h hq) (fun _ => k ls hl)) (kf hq)
theorem e_if_eq {x : Int32} {off : Int} {tgt : Nat} (hd : decode M.2.1 pc = .ok (.ifCond .eq off, 3)) (ht : (pc : Int) + off = (tgt : Int)) (kt : x = 0 → ab_E G M d tgt lv st w P) (kf : ¬ x = 0 → ab_E G M d (pc + 3) lv st w P) : ab_E G M d pc lv (.int x :: st) w P := by
  by_cases hq : x = 0
  · exact ab_go (fun p e R s m args below meth c H locs cells slots ls Q C I hc hs hl k => lv_if_eq C.1 C.2.1 hd ht (fun _ => k ls hl) (fun h => absurd hq h)) (kt hq)
  · exact ab_go (fun p e R s m args below meth c H locs cells slots ls Q C I hc hs hl k => lv_if_eq C.1 C.2.1 hd ht (fun h => absurd h hq) (fun _ => k ls hl)) (kf hq)
theorem e_icmp_ne {x y : Int32} {off : Int} {tgt : Nat} (hd : decode M.2.1 pc = .ok (.if_icmp .ne off, 3)) (ht : (pc : Int) + off = (tgt : Int)) (kt : ¬ x = y → ab_E G M d tgt lv st w P) (kf : x = y → ab_E G M d (pc + 3) lv st w P) : ab_E G M d pc lv (.int y :: .int x :: st) w P := by
  by_cases hq : x = y
  · exact ab_go (fun p e R s m args below meth c H locs cells slots ls Q C I hc hs hl k => lv_icmp_ne C.1 C.2.1 hd ht (fun h => absurd hq h) (fun _ => k ls hl)) (kf hq)
  · exact ab_go (fun p e R s m args below meth c H locs cells slots ls Q C I hc hs hl k => lv_icmp_ne C.1 C.2.1 hd ht (fun _ => k ls hl) (fun h => absurd h hq)) (kt hq)
theorem e_if_ne {x : Int32} {off : Int} {tgt : Nat} (hd : decode M.2.1 pc = .ok (.ifCond .ne off, 3)) (ht : (pc : Int) + off = (tgt : Int)) (kt : ¬ x = 0 → ab_E G M d tgt lv st w P) (kf : x = 0 → ab_E G M d (pc + 3) lv st w P) : ab_E G M d pc lv (.int x :: st) w P := by
  by_cases hq : x = 0
  · exact ab_go (fun p e R s m args below meth c H locs cells slots ls Q C I hc hs hl k => lv_if_ne C.1 C.2.1 hd ht (fun h => absurd hq h) (fun _ => k ls hl)) (kf hq)
  · exact ab_go (fun p e R s m args below meth c H locs cells slots ls Q C I hc hs hl k => lv_if_ne C.1 C.2.1 hd ht (fun _ => k ls hl) (fun h => absurd h hq)) (kt hq)
theorem e_icmp_lt {x y : Int32} {off : Int} {tgt : Nat} (hd : decode M.2.1 pc = .ok (.if_icmp .lt off, 3)) (ht : (pc : Int) + off = (tgt : Int)) (kt : x < y → ab_E G M d tgt lv st w P) (kf : ¬ x < y → ab_E G M d (pc + 3) lv st w P) : ab_E G M d pc lv (.int y :: .int x :: st) w P := by
  by_cases hq : x < y
  · exact ab_go (fun p e R s m args below meth c H locs cells slots ls Q C I hc hs hl k => lv_icmp_lt C.1 C.2.1 hd ht (fun _ => k ls hl) (fun h => absurd hq h)) (kt hq)
  · exact ab_go (fun p e R s m args below meth c H locs cells slots ls Q C I hc hs hl k => lv_icmp_lt C.1 C.2.1 hd ht (fun h => absurd h hq) (fun _ => k ls hl)) (kf hq)
theorem e_if_lt {x : Int32} {off : Int} {tgt : Nat} (hd : decode M.2.1 pc = .ok (.ifCond .lt off, 3)) (ht : (pc : Int) + off = (tgt : Int)) (kt : x < 0 → ab_E G M d tgt lv st w P) (kf : ¬ x < 0 → ab_E G M d (pc + 3) lv st w P) : ab_E G M d pc lv (.int x :: st) w P := by
  by_cases hq : x < 0
  · exact ab_go (fun p e R s m args below meth c H locs cells slots ls Q C I hc hs hl k => lv_if_lt C.1 C.2.1 hd ht (fun _ => k ls hl) (fun h => absurd hq h)) (kt hq)
  · exact ab_go (fun p e R s m args below meth c H locs cells slots ls Q C I hc hs hl k => lv_if_lt C.1 C.2.1 hd ht (fun h => absurd h hq) (fun _ => k ls hl)) (kf hq)
theorem e_icmp_ge {x y : Int32} {off : Int} {tgt : Nat} (hd : decode M.2.1 pc = .ok (.if_icmp .ge off, 3)) (ht : (pc : Int) + off = (tgt : Int)) (kt : y ≤ x → ab_E G M d tgt lv st w P) (kf : ¬ y ≤ x → ab_E G M d (pc + 3) lv st w P) : ab_E G M d pc lv (.int y :: .int x :: st) w P := by
  by_cases hq : y ≤ x
  · exact ab_go (fun p e R s m args below meth c H locs cells slots ls Q C I hc hs hl k => lv_icmp_ge C.1 C.2.1 hd ht (fun _ => k ls hl) (fun h => absurd hq h)) (kt hq)
  · exact ab_go (fun p e R s m args below meth c H locs cells slots ls Q C I hc hs hl k => lv_icmp_ge C.1 C.2.1 hd ht (fun h => absurd h hq) (fun _ => k ls hl)) (kf hq)
theorem e_if_ge {x : Int32} {off : Int} {tgt : Nat} (hd : decode M.2.1 pc = .ok (.ifCond .ge off, 3)) (ht : (pc : Int) + off = (tgt : Int)) (kt : 0 ≤ x → ab_E G M d tgt lv st w P) (kf : ¬ 0 ≤ x → ab_E G M d (pc + 3) lv st w P) : ab_E G M d pc lv (.int x :: st) w P := by
  by_cases hq : 0 ≤ x
  · exact ab_go (fun p e R s m args below meth c H locs cells slots ls Q C I hc hs hl k => lv_if_ge C.1 C.2.1 hd ht (fun _ => k ls hl) (fun h => absurd hq h)) (kt hq)
  · exact ab_go (fun p e R s m args below meth c H locs cells slots ls Q C I hc hs hl k => lv_if_ge C.1 C.2.1 hd ht (fun h => absurd h hq) (fun _ => k ls hl)) (kf hq)
theorem e_icmp_gt {x y : Int32} {off : Int} {tgt : Nat} (hd : decode M.2.1 pc = .ok (.if_icmp .gt off, 3)) (ht : (pc : Int) + off = (tgt : Int)) (kt : y < x → ab_E G M d tgt lv st w P) (kf : ¬ y < x → ab_E G M d (pc + 3) lv st w P) : ab_E G M d pc lv (.int y :: .int x :: st) w P := by
  by_cases hq : y < x
  · exact ab_go (fun p e R s m args below meth c H locs cells slots ls Q C I hc hs hl k => lv_icmp_gt C.1 C.2.1 hd ht (fun _ => k ls hl) (fun h => absurd hq h)) (kt hq)
  · exact ab_go (fun p e R s m args below meth c H locs cells slots ls Q C I hc hs hl k => lv_icmp_gt C.1 C.2.1 hd ht (fun h => absurd h hq) (fun _ => k ls hl)) (kf hq)
theorem e_if_gt {x : Int32} {off : Int} {tgt : Nat} (hd : decode M.2.1 pc = .ok (.ifCond .gt off, 3)) (ht : (pc : Int) + off = (tgt : Int)) (kt : 0 < x → ab_E G M d tgt lv st w P) (kf : ¬ 0 < x → ab_E G M d (pc + 3) lv st w P) : ab_E G M d pc lv (.int x :: st) w P := by
  by_cases hq : 0 < x
  · exact ab_go (fun p e R s m args below meth c H locs cells slots ls Q C I hc hs hl k => lv_if_gt C.1 C.2.1 hd ht (fun _ => k ls hl) (fun h => absurd hq h)) (kt hq)
  · exact ab_go (fun p e R s m args below meth c H locs cells slots ls Q C I hc hs hl k => lv_if_gt C.1 C.2.1 hd ht (fun h => absurd h hq) (fun _ => k ls hl)) (kf hq)
theorem e_icmp_le {x y : Int32} {off : Int} {tgt : Nat} (hd : decode M.2.1 pc = .ok (.if_icmp .le off, 3)) (ht : (pc : Int) + off = (tgt : Int)) (kt : x ≤ y → ab_E G M d tgt lv st w P) (kf : ¬ x ≤ y → ab_E G M d (pc + 3) lv st w P) : ab_E G M d pc lv (.int y :: .int x :: st) w P := by
  by_cases hq : x ≤ y
  · exact ab_go (fun p e R s m args below meth c H locs cells slots ls Q C I hc hs hl k => lv_icmp_le C.1 C.2.1 hd ht (fun _ => k ls hl) (fun h => absurd hq h)) (kt hq)
  · exact ab_go (fun p e R s m args below meth c H locs cells slots ls Q C I hc hs hl k => lv_icmp_le C.1 C.2.1 hd ht (fun h => absurd h hq) (fun _ => k ls hl)) (kf hq)
theorem e_if_le {x : Int32} {off : Int} {tgt : Nat} (hd : decode M.2.1 pc = .ok (.ifCond .le off, 3)) (ht : (pc : Int) + off = (tgt : Int)) (kt : x ≤ 0 → ab_E G M d tgt lv st w P) (kf : ¬ x ≤ 0 → ab_E G M d (pc + 3) lv st w P) : ab_E G M d pc lv (.int x :: st) w P := by
  by_cases hq : x ≤ 0
  · exact ab_go (fun p e R s m args below meth c H locs cells slots ls Q C I hc hs hl k => lv_if_le C.1 C.2.1 hd ht (fun _ => k ls hl) (fun h => absurd hq h)) (kt hq)
  · exact ab_go (fun p e R s m args below meth c H locs cells slots ls Q C I hc hs hl k => lv_if_le C.1 C.2.1 hd ht (fun h => absurd h hq) (fun _ => k ls hl)) (kf hq)
theorem e_goto {off : Int} {tgt : Nat} (hd : decode M.2.1 pc = .ok (.goto off, 3)) (ht : (pc : Int) + off = (tgt : Int)) (kk : ab_E G M d tgt lv st w P) : ab_E G M d pc lv st w P :=
  ab_go (fun p e R s m args below meth c H locs cells slots ls Q C I hc hs hl k => lv_goto C.1 C.2.1 hd ht (k ls hl)) kk
theorem e_tableOut {dflt lo hi : Int} {offs : Array Int} {len : Nat} {x : Int32} {tgt : Nat} (hd : decode M.2.1 pc = .ok (.tableswitch dflt lo hi offs, len)) (h : x.toInt < lo ∨ hi < x.toInt) (ht : (pc : Int) + dflt = (tgt : Int)) (kk : ab_E G M d tgt lv st w P) : ab_E G M d pc lv (.int x :: st) w P :=
  ab_go (fun p e R s m args below meth c H locs cells slots ls Q C I hc hs hl k => lv_tableOut C.1 C.2.1 hd h ht (k ls hl)) kk
theorem e_tableIn {dflt lo hi : Int} {offs : Array Int} {len : Nat} {x : Int32} {off : Int} {tgt : Nat} (hd : decode M.2.1 pc = .ok (.tableswitch dflt lo hi offs, len)) (h1 : ¬ x.toInt < lo) (h2 : ¬ hi < x.toInt) (ho : offs[(x.toInt - lo).toNat]? = some off) (ht : (pc : Int) + off = (tgt : Int)) (kk : ab_E G M d tgt lv st w P) : ab_E G M d pc lv (.int x :: st) w P :=
  ab_go (fun p e R s m args below meth c H locs cells slots ls Q C I hc hs hl k => lv_tableIn C.1 C.2.1 hd h1 h2 ho ht (k ls hl)) kk
theorem e_lookup {dflt : Int} {ps : Array (Int × Int)} {len : Nat} {x : Int32} {off : Int} {tgt : Nat} (hd : decode M.2.1 pc = .ok (.lookupswitch dflt ps, len)) (hp : (ps.toList.zip (ps.toList.drop 1)).all (fun (a, next) => a.1 < next.1) = true) (ho : Op.lookupswitch.offset ps.toList dflt x.toInt = off) (ht : (pc : Int) + off = (tgt : Int)) (kk : ab_E G M d tgt lv st w P) : ab_E G M d pc lv (.int x :: st) w P :=
  ab_go (fun p e R s m args below meth c H locs cells slots ls Q C I hc hs hl k => lv_lookup C.1 C.2.1 hd hp ho ht (k ls hl)) kk
/-- a name for the number on the stack -/
theorem e_top {x y : Int32} (hx : x = y) (kk : ab_E G M d pc lv (.int y :: st) w P) : ab_E G M d pc lv (.int x :: st) w P := by
  rw [hx]; exact kk
theorem ab_same {p : Program} {e : Env} {R : Room} {s : State} {m : MethodId} {args : Array Value} {below : List Frame} {meth : Method} {c : Code} {H : Heap} {locs : List Loc} {cells slots n k : Nat} {Q : State → Prop} {g : JFrame} (h : W p (g_l G) e R s m args below meth c H locs (cells + (n - n)) (slots + (k - k)) Q g) : W p (g_l G) e R s m args below meth c H locs cells slots Q g := by
  rw [Nat.sub_self, Nat.sub_self, Nat.add_zero, Nat.add_zero] at h
  exact h
theorem e_vret (hd : decode M.2.1 pc = .ok (.return_, 1)) (hr : M.2.2.2 = none) (hP : P none w) : ab_E G M d pc lv [] w P :=
  ⟨none, w, ⟨Nat.le_refl _, Nat.le_refl _, fun p e R s m args below meth c H locs cells slots ls Q C I hz hc hs hl hret => ab_same (hret H locs pc ls I (Or.inl ⟨rfl, hd⟩))⟩, hr, hP⟩
theorem e_iret {x : Int32} (hd : decode M.2.1 pc = .ok (.ireturn, 1)) (hr : M.2.2.2 = some .int) (hP : P (some (.int x)) w) : ab_E G M d pc lv [.int x] w P :=
  ⟨some (.int x), w, ⟨Nat.le_refl _, Nat.le_refl _, fun p e R s m args below meth c H locs cells slots ls Q C I hz hc hs hl hret => ab_same (hret H locs pc ls I (Or.inr (Or.inl ⟨x, rfl, hd⟩)))⟩, ⟨.int, hr, rfl⟩, hP⟩
theorem e_zret {x : Int32} (hd : decode M.2.1 pc = .ok (.ireturn, 1)) (hr : M.2.2.2 = some .boolean) (hx : x = 0 ∨ x = 1) (hP : P (some (.int x)) w) : ab_E G M d pc lv [.int x] w P :=
  ⟨some (.int x), w, ⟨Nat.le_refl _, Nat.le_refl _, fun p e R s m args below meth c H locs cells slots ls Q C I hz hc hs hl hret => ab_same (hret H locs pc ls I (Or.inr (Or.inl ⟨x, rfl, hd⟩)))⟩, ⟨.boolean, hr, by rcases hx with rfl | rfl <;> rfl⟩, hP⟩
theorem e_aret {a : Nat} {n : String} (hd : decode M.2.1 pc = .ok (.areturn, 1)) (hr : M.2.2.2 = some (.object n)) (hP : P (some (.ref a)) w) : ab_E G M d pc lv [.ref a] w P :=
  ⟨some (.ref a), w, ⟨Nat.le_refl _, Nat.le_refl _, fun p e R s m args below meth c H locs cells slots ls Q C I hz hc hs hl hret => ab_same (hret H locs pc ls I (Or.inr (Or.inr ⟨a, rfl, hd⟩)))⟩, ⟨_, hr, Or.inl ⟨n, rfl⟩⟩, hP⟩
theorem e_aretA {a : Nat} {t : FieldType} (hd : decode M.2.1 pc = .ok (.areturn, 1)) (hr : M.2.2.2 = some (.array t)) (hP : P (some (.ref a)) w) : ab_E G M d pc lv [.ref a] w P :=
  ⟨some (.ref a), w, ⟨Nat.le_refl _, Nat.le_refl _, fun p e R s m args below meth c H locs cells slots ls Q C I hz hc hs hl hret => ab_same (hret H locs pc ls I (Or.inr (Or.inr ⟨a, rfl, hd⟩)))⟩, ⟨_, hr, Or.inr ⟨t, rfl⟩⟩, hP⟩
end AB
end
section
/-! The rows of cells: fields, arrays, new ones. -/
theorem ab_C.own {G : ab_G} {M : ab_M} {d : Nat × Nat} {p : Program} {R : Room} {s : State} {m : MethodId} {args : Array Value} {meth : Method} {c : Code} (h : ab_C G M d p R s m args meth c) : s.vm.findClass M.1.cls = some m.cls := h.2.2.2.2.1
theorem ab_C.wd {G : ab_G} {M : ab_M} {d : Nat × Nat} {p : Program} {R : Room} {s : State} {m : MethodId} {args : Array Value} {meth : Method} {c : Code} (h : ab_C G M d p R s m args meth c) : ∀ w ∈ ab_T, w.before args s = true := h.2.2.2.2.2.1
theorem ab_C.kk {G : ab_G} {M : ab_M} {d : Nat × Nat} {p : Program} {R : Room} {s : State} {m : MethodId} {args : Array Value} {meth : Method} {c : Code} (h : ab_C G M d p R s m args meth c) : ab_K G s := h.2.2.2.2.2.2.2.2.2.2
theorem ab_C.fr {G : ab_G} {M : ab_M} {d : Nat × Nat} {p : Program} {R : Room} {s : State} {m : MethodId} {args : Array Value} {meth : Method} {c : Code} (h : ab_C G M d p R s m args meth c) : d.1 ≤ R.frames ∧ d.2 ≤ R.locals := ⟨h.2.2.2.2.2.2.2.2.1, h.2.2.2.2.2.2.2.2.2.1⟩
theorem ab_ty {G : ab_G} {s : State} (hK : ab_K G s) {t : Nat} {ty : FieldType} (ht : ab_tys[t]? = some ty) : (g_T G)[t]? = some (((g_T G).getD t (0, .int)).1, ty) := by
  rw [← hK.2.1, List.getElem?_map] at ht
  obtain ⟨x, hx, rfl⟩ := Option.map_eq_some_iff.mp ht
  rw [List.getD_eq_getElem?_getD, hx]
  rfl
/-- a class by its number, its field table and their types -/
def ab_cl (ci : Nat) (C : String) (T : u_T) (N : Nat) (ty : Nat → FieldType) : Prop := vwCl[ci]? = some (C, T, N) ∧ (∀ w ∈ u_ws C T N, w ∈ ab_T) ∧ (∀ k, k < N → parseFieldDescriptor (T k).2.2.1 = some (ty k)) ∧ ∀ a, a < N → ∀ b, b < N → a ≠ b → (T a).2.1 ≠ (T b).2.1
/-- pool entry idx of the class own: field k of class ci -/
def ab_fl (own : String) (idx ci k : Nat) (t : FieldType) (fin : Bool) : Prop := ∃ (C : String) (T : u_T) (N : Nat) (ty : Nat → FieldType), ab_cl ci C T N ty ∧ k < N ∧ Cond.fieldLink own idx (T k).1 (T k).2.1 (T k).2.2.1 ∈ ab_T ∧ ty k = t ∧ (T k).2.2.2 = fin ∧ (T k).1 = C
/-- pool entry idx of the class own: class ci, whose new objects hold fs -/
def ab_nw (own : String) (idx ci : Nat) (fs : List Value) : Prop := ∃ (C : String) (T : u_T) (N : Nat) (ty : Nat → FieldType), ab_cl ci C T N ty ∧ Cond.classLink own idx C ∈ ab_T ∧ Cond.instantiable C N ∈ ab_T ∧ Cond.initialized C ∈ ab_T ∧ fs.length = N ∧ ∀ j, j < N → defaultValue (ty j) = vp_V fs j
theorem ab_vnull (G : ab_G) (ty : FieldType) : ab_v G (defaultValue ty) = defaultValue ty := by cases ty <;> rfl
theorem ab_vV (G : ab_G) (fs : List Value) (j : Nat) : vp_V (fs.map (ab_v G)) j = ab_v G (vp_V fs j) := by
  simp only [vp_V, List.getD_eq_getElem?_getD, List.getElem?_map]
  cases fs[j]? <;> rfl
theorem ab_fresh {G : ab_G} {h : ab_H} {n q : Nat} {x : va_E} {H : Heap} (hP : va_P (g_D G) vwCl (ab_w G h n ++ [(q, x)]) H) (hD : va_D (ab_A G) (ab_w G h n ++ [(q, x)])) (hn : 1 ≤ n) (hz : H.size ≤ g_B G + n + 1) : q = g_B G + n := by
  have hlen : (ab_w G h n).length = n - 1 := by simp [ab_w]
  have e1 : (ab_w G h n ++ [(q, x)])[n - 1]? = some (q, x) := by
    rw [List.getElem?_append_right (by omega), hlen, Nat.sub_self]
    rfl
  have h1 : q < H.size := (hP _ _ e1).lt
  have h2 : g_B G < q := hD.2 _ _ e1
  rcases Nat.lt_or_ge q (g_B G + n) with hq | hq
  · exfalso
    obtain ⟨i, hi⟩ : ∃ i, q = g_B G + (i + 1) := ⟨q - g_B G - 1, by omega⟩
    have hl : i < n - 1 := by omega
    have e2 : (ab_w G h n ++ [(q, x)])[i]? = some (g_B G + (i + 1), ab_e G ((h (i + 1)).getD (.inr (0, [])))) := by
      rw [List.getElem?_append_left (by omega), ab_w, List.getElem?_map, List.getElem?_range hl]
      rfl
    have := hD.1 _ _ _ _ e2 e1 hi.symm
    omega
  · omega
section AB
variable {G : ab_G} {M : ab_M} {d : Nat × Nat} {pc : Nat} {lv : List (Nat × Value)} {st : List Value} {w : ab_W} {P : Option Value → ab_W → Prop}
theorem e_get {idx ci k a : Nat} {t : FieldType} {fin : Bool} {fs : List Value} {v : Value} (hd : decode M.2.1 pc = .ok (.getfield idx, 3)) (hf : ab_fl M.1.cls idx ci k t fin) (ha : w.1 a = some (.inr (ci, fs))) (hv : fs[k]? = some v) (kk : ab_E G M d (pc + 3) lv (v :: st) w P) : ab_E G M d pc lv (.ref a :: st) w P :=
  ab_go (fun p e R s m args below meth c H locs cells slots ls Q C I hc hs hl k0 => by
    obtain ⟨Cn, T, N, ty, ⟨c1, c2, c3, c4⟩, hk, hlk, -⟩ := hf
    obtain ⟨p1, p2⟩ := I.1.pos ha
    exact va_get (D := g_D G) C.1 C.2.1 C.wd c2 C.own C.kk.1 I.2.1 (a - 1) (ab_w_get G ha p1 p2) c1 k hk (C.wd _ hlk) (fun _ h9 => h9) (by rw [List.getElem?_map, hv]; rfl) hd (k0 ls hl)) kk
theorem e_put {idx ci k a : Nat} {t : FieldType} {fs fs1 : List Value} {v : Value} (hd : decode M.2.1 pc = .ok (.putfield idx, 3)) (hf : ab_fl M.1.cls idx ci k t false) (ha : w.1 a = some (.inr (ci, fs))) (hk0 : k < fs.length) (hn : narrow t (ab_v G v) = ab_v G v) (hft : fits t (ab_v G v) = true) (hfs : fs.set k v = fs1) (kk : ab_E G M d (pc + 3) lv st (va_up w.1 a (some (.inr (ci, fs1))), w.2) P) : ab_E G M d pc lv (v :: .ref a :: st) w P :=
  ab_goW (fun p e R s m args below meth c H locs cells slots ls Q C I hl k0 => by
    obtain ⟨Cn, T, N, ty, ⟨c1, c2, c3, c4⟩, hk, hlk, hty, hfin, -⟩ := hf
    obtain ⟨p1, p2⟩ := I.1.pos ha
    refine va_put (D := g_D G) (v := ab_v G v) (ty := t) C.1 C.2.1 C.wd c2 ty c3 c4 C.own C.kk.1 I.2.1 (ab_w_D G _ _) I.2.2 (a - 1) (ab_w_get G ha p1 p2) c1 k hk (C.wd _ hlk) (fun _ h9 => h9) hfin (by rw [c3 k hk, hty]) hn hft (by simpa using hk0) hd (fun H1 locs1 q1 q2 q3 => k0 H1 locs1 ⟨I.1.set ha, ?_, q3⟩)
    subst hfs
    rw [← List.map_set] at q1
    have e2 := ab_w_set G (h := w.1) (.inr (ci, fs.set k v)) p1 p2
    rw [show ab_e G (.inr (ci, fs.set k v)) = .inr (ci, (fs.set k v).map (ab_v G)) from rfl] at e2
    rw [e2] at q1
    exact q1) kk
theorem e_putF {idx ci k a : Nat} {t : FieldType} {fs fs1 : List Value} {v : Value} (hd : decode M.2.1 pc = .ok (.putfield idx, 3)) (hf : ab_fl M.1.cls idx ci k t true) (hcls : (vwCl[ci]?).map (fun q => q.1) = some M.1.cls) (hin : M.1.name = "<init>") (ha : w.1 a = some (.inr (ci, fs))) (hk0 : k < fs.length) (hn : narrow t (ab_v G v) = ab_v G v) (hft : fits t (ab_v G v) = true) (hfs : fs.set k v = fs1) (kk : ab_E G M d (pc + 3) lv st (va_up w.1 a (some (.inr (ci, fs1))), w.2) P) : ab_E G M d pc lv (v :: .ref a :: st) w P :=
  ab_goW (fun p e R s m args below meth c H locs cells slots ls Q C I hl k0 => by
    obtain ⟨Cn, T, N, ty, ⟨c1, c2, c3, c4⟩, hk, hlk, hty, hfin, hown⟩ := hf
    obtain ⟨p1, p2⟩ := I.1.pos ha
    have hC : Cn = M.1.cls := by rw [c1] at hcls; exact Option.some.inj hcls
    refine va_putF (D := g_D G) (v := ab_v G v) (ty := t) C.1 C.2.1 C.wd c2 ty c3 c4 C.own C.kk.1 I.2.1 (ab_w_D G _ _) I.2.2 (a - 1) (ab_w_get G ha p1 p2) c1 k hk (C.wd _ hlk) (fun _ h9 => h9) hfin (C.2.2.2.2.2.2.2.1.trans hin) (hown.trans hC) (by rw [c3 k hk, hty]) hn hft (by simpa using hk0) hd (fun H1 locs1 q1 q2 q3 => k0 H1 locs1 ⟨I.1.set ha, ?_, q3⟩)
    subst hfs
    rw [← List.map_set] at q1
    have e2 := ab_w_set G (h := w.1) (.inr (ci, fs.set k v)) p1 p2
    rw [show ab_e G (.inr (ci, fs.set k v)) = .inr (ci, (fs.set k v).map (ab_v G)) from rfl] at e2
    rw [e2] at q1
    exact q1) kk
theorem e_iald {t a n j : Nat} {f : Nat → Int32} {i : Int32} (hd : decode M.2.1 pc = .ok (.iaload, 1)) (ha : w.1 a = some (.inl (t, n, .inl f))) (ht : ab_tys[t]? = some .int) (hi : i = nI j) (hj : j < n) (hn : n < 2 ^ 31) (kk : ab_E G M d (pc + 1) lv (.int (f j) :: st) w P) : ab_E G M d pc lv (.int i :: .ref a :: st) w P :=
  ab_go (fun p e R s m args below meth c H locs cells slots ls Q C I hc hs hl k0 => by
    obtain ⟨p1, p2⟩ := I.1.pos ha
    subst hi
    refine va_iald (D := g_D G) (f := f) C.1 C.2.1 C.kk.1 I.2.1 (a - 1) t (ab_w_get G ha p1 p2) (ab_ty C.kk ht) (vp_in_nI hj hn) hd ?_
    rw [nI_clamp (by omega)]
    exact k0 ls hl) kk
theorem e_iast {t a n j : Nat} {f : Nat → Int32} {i x : Int32} (hd : decode M.2.1 pc = .ok (.iastore, 1)) (ha : w.1 a = some (.inl (t, n, .inl f))) (ht : ab_tys[t]? = some .int) (hi : i = nI j) (hj : j < n) (hn : n < 2 ^ 31) (kk : ab_E G M d (pc + 1) lv st (va_up w.1 a (some (.inl (t, n, .inl (upd f j x)))), w.2) P) : ab_E G M d pc lv (.int x :: .int i :: .ref a :: st) w P :=
  ab_goW (fun p e R s m args below meth c H locs cells slots ls Q C I hl k0 => by
    obtain ⟨p1, p2⟩ := I.1.pos ha
    subst hi
    refine va_iast (D := g_D G) (f := f) C.1 C.2.1 C.kk.1 I.2.1 (ab_w_D G _ _) I.2.2 (a - 1) t (ab_w_get G ha p1 p2) (ab_ty C.kk ht) (vp_in_nI hj hn) hd (fun H1 locs1 q1 q2 q3 => k0 H1 locs1 ⟨I.1.set ha, ?_, q3⟩)
    rw [nI_clamp (by omega)] at q1
    have e2 := ab_w_set G (h := w.1) (.inl (t, n, .inl (upd f j x))) p1 p2
    rw [show ab_e G (.inl (t, n, .inl (upd f j x))) = .inl (((g_T G).getD t (0, .int)).1, n, .inl (upd f j x)) from rfl] at e2
    rw [e2] at q1
    exact q1) kk
theorem e_alen {t a n : Nat} {x : (Nat → Int32) ⊕ (Nat → Int64) ⊕ (Nat → UInt32) ⊕ (Nat → UInt64) ⊕ (Nat → Option Nat)} {ty : FieldType} (hd : decode M.2.1 pc = .ok (.arraylength, 1)) (ha : w.1 a = some (.inl (t, n, x))) (ht : ab_tys[t]? = some ty) (kk : ab_E G M d (pc + 1) lv (.int (nI n) :: st) w P) : ab_E G M d pc lv (.ref a :: st) w P :=
  ab_go (fun p e R s m args below meth c H locs cells slots ls Q C I hc hs hl k0 => by
    obtain ⟨p1, p2⟩ := I.1.pos ha
    have e1 : (ab_q G (n, x)).1 = n := by
      rcases x with f | f | f | f | f <;> rfl
    exact va_alen (D := g_D G) (x := ab_q G (n, x)) C.1 C.2.1 C.kk.1 I.2.1 (a - 1) t (ab_w_get G ha p1 p2) (ab_ty C.kk ht) (by rw [e1]; rfl) hd (k0 ls hl)) kk
theorem ab_rfv (G : ab_G) (r : Option Nat) : va_rf (r.map (ab_ad G)) = ab_v G (va_rf r) := by cases r <;> rfl
theorem e_aald {t a n j : Nat} {Cn : String} {f : Nat → Option Nat} {i : Int32} {v : Value} (hd : decode M.2.1 pc = .ok (.aaload, 1)) (ha : w.1 a = some (.inl (t, n, .inr (.inr (.inr (.inr f)))))) (ht : ab_tys[t]? = some (.object Cn)) (hi : i = nI j) (hj : j < n) (hn : n < 2 ^ 31) (hv : va_rf (f j) = v) (kk : ab_E G M d (pc + 1) lv (v :: st) w P) : ab_E G M d pc lv (.int i :: .ref a :: st) w P :=
  ab_go (fun p e R s m args below meth c H locs cells slots ls Q C I hc hs hl k0 => by
    obtain ⟨p1, p2⟩ := I.1.pos ha
    subst hi
    subst hv
    refine va_aldq (D := g_D G) (f := fun i => (f i).map (ab_ad G)) C.1 C.2.1 C.kk.1 I.2.1 (a - 1) t (ab_w_get G ha p1 p2) (ab_ty C.kk ht) (vp_in_nI hj hn) hd ?_
    rw [nI_clamp (by omega), ab_rfv]
    exact k0 ls hl) kk
theorem ab_upq (G : ab_G) (f : Nat → Option Nat) (j v : Nat) : va_up (fun i => (f i).map (ab_ad G)) j (some (ab_ad G v)) = fun i => (va_up f j (some v) i).map (ab_ad G) := by
  funext i
  by_cases h : i = j
  · simp [va_up, h]
  · simp [va_up, h]
theorem e_aast {t a n j ci v : Nat} {q : vw_C} {vs : List Value} {f : Nat → Option Nat} {i : Int32} (hd : decode M.2.1 pc = .ok (.aastore, 1)) (ha : w.1 a = some (.inl (t, n, .inr (.inr (.inr (.inr f)))))) (ht : ab_tys[t]? = some (.object q.1)) (hv : w.1 v = some (.inr (ci, vs))) (hc : vwCl[ci]? = some q) (hi : i = nI j) (hj : j < n) (hn : n < 2 ^ 31) (kk : ab_E G M d (pc + 1) lv st (va_up w.1 a (some (.inl (t, n, .inr (.inr (.inr (.inr (va_up f j (some v)))))))), w.2) P) : ab_E G M d pc lv (.ref v :: .int i :: .ref a :: st) w P :=
  ab_goW (fun p e R s m args below meth c H locs cells slots ls Q C I hl k0 => by
    obtain ⟨p1, p2⟩ := I.1.pos ha
    obtain ⟨p3, p4⟩ := I.1.pos hv
    subst hi
    refine va_astq (D := g_D G) (f := fun i => (f i).map (ab_ad G)) (r := q) C.1 C.2.1 C.kk.1 I.2.1 (ab_w_D G _ _) I.2.2 (a - 1) t (v - 1) ci (ab_w_get G ha p1 p2) (ab_ty C.kk ht) (ab_w_get G hv p3 p4) hc (vp_in_nI hj hn) hd (fun H1 locs1 q1 q2 q3 => k0 H1 locs1 ⟨I.1.set ha, ?_, q3⟩)
    rw [nI_clamp (by omega), ab_upq] at q1
    have e2 := ab_w_set G (h := w.1) (.inl (t, n, .inr (.inr (.inr (.inr (va_up f j (some v))))))) p1 p2
    rw [show ab_e G (.inl (t, n, .inr (.inr (.inr (.inr (va_up f j (some v))))))) = .inl (((g_T G).getD t (0, .int)).1, n, .inr (.inr (.inr (.inr (fun i => (va_up f j (some v) i).map (ab_ad G)))))) from rfl] at e2
    rw [e2] at q1
    exact q1) kk
/-- the script -/
theorem e_sld {j : Nat} {i : Int32} (hd : decode M.2.1 pc = .ok (.iaload, 1)) (hi : i = nI j) (hj : j < g_L G) (hn : g_L G < 2 ^ 31) (kk : ab_E G M d (pc + 1) lv (.int (g_x G j) :: st) w P) : ab_E G M d pc lv (.int i :: .ref 0 :: st) w P :=
  ab_go (fun p e R s m args below meth c H locs cells slots ls Q C I hc hs hl k0 => by
    obtain ⟨-, -, hX, hb1, hb2, -⟩ := C.kk
    subst hi
    refine va_sld (A := ab_A G) (b := g_b G) C.1 C.2.1 hX (by omega) (by show ¬ g_B G < g_b G; omega) I.2.2 (vp_in_nI hj hn) hd ?_
    rw [nI_clamp (by omega)]
    exact k0 ls hl) kk
theorem e_slen (hd : decode M.2.1 pc = .ok (.arraylength, 1)) (kk : ab_E G M d (pc + 1) lv (.int (nI (g_L G)) :: st) w P) : ab_E G M d pc lv (.ref 0 :: st) w P :=
  ab_go (fun p e R s m args below meth c H locs cells slots ls Q C I hc hs hl k0 => by
    obtain ⟨-, -, hX, hb1, hb2, -⟩ := C.kk
    exact va_slen (A := ab_A G) (b := g_b G) C.1 C.2.1 hX (by omega) (by show ¬ g_B G < g_b G; omega) I.2.2 hd (k0 ls hl)) kk
/-- a new cell -/
theorem ab_goA {pc1 k : Nat} {st1 : List Value} {x : va_E}
    (step : ∀ (p : Program) (e : Env) (R : Room) (s : State) (m : MethodId) (args : Array Value) (below : List Frame) (meth : Method) (c : Code) (H : Heap) (locs : List Loc) (cells slots : Nat) (ls : Array Slot) (Q : State → Prop), ab_C G M d p R s m args meth c → ab_I G w s H locs → cells + 1 ≤ R.cells → slots + k ≤ R.slots → ab_L G M lv ls → (∀ (q : Nat) (H1 : Heap), va_P (g_D G) vwCl (ab_w G w.1 w.2.1 ++ [(q, ab_e G x)]) H1 → va_D (ab_A G) (ab_w G w.1 w.2.1 ++ [(q, ab_e G x)]) → va_S (ab_A G) s.heap H1 locs → W p (g_l G) e R s m args below meth c H1 locs (cells + 1) (slots + k) Q (F0 m pc1 ls (.ref q :: st1.map (ab_v G)))) → W p (g_l G) e R s m args below meth c H locs cells slots Q (F0 m pc ls (st.map (ab_v G))))
    (kk : ab_E G M d pc1 lv (.ref w.2.1 :: st1) (va_up w.1 w.2.1 (some x), w.2.1 + 1, w.2.2 + k) P) : ab_E G M d pc lv st w P := by
  obtain ⟨r, w2, ⟨b1, b2, b3⟩, hr, hP⟩ := kk
  dsimp only at b1 b2
  refine ⟨r, w2, ⟨by omega, by omega, fun p e R s m args below meth c H locs cells slots ls Q C I hz hc hs hl hret => ?_⟩, hr, hP⟩
  refine step p e R s m args below meth c H locs cells slots ls Q C I (by omega) (by omega) hl (fun q H1 q1 q2 q3 T hT X => ?_)
  have hsz := X.heapSize
  rw [hT] at hsz
  have hq : q = g_B G + w.2.1 := ab_fresh q1 q2 I.1.1 (by omega)
  subst hq
  rw [ab_w_push G x I.1.1] at q1
  have e1 : cells + 1 + (w2.2.1 - (w.2.1 + 1)) = cells + (w2.2.1 - w.2.1) := by omega
  have e2 : slots + k + (w2.2.2 - (w.2.2 + k)) = slots + (w2.2.2 - w.2.2) := by omega
  have K := b3 p e R s m args below meth c H1 locs (cells + 1) (slots + k) ls Q C ⟨I.1.push x _, q1, q3⟩ (by dsimp only; omega) (by dsimp only; omega) (by dsimp only; omega) hl (fun H2 locs2 pc2 ls2 I2 t2 => by
    dsimp only
    rw [e1, e2]
    exact hret H2 locs2 pc2 ls2 I2 t2)
  rw [List.map_cons, ab_v_r, ab_ad_pos G (by have := I.1.1; omega)] at K
  exact K T hT X
theorem ab_hA {s : State} (hK : ab_K G s) : ∀ q : Nat, s.heap.size ≤ q → ab_A G q := fun q h => by
  have := hK.2.2.2.2.1
  show g_B G < q
  omega
theorem e_new {idx ci : Nat} {fs : List Value} (hd : decode M.2.1 pc = .ok (.new idx, 3)) (hk : ab_nw M.1.cls idx ci fs) (kk : ab_E G M d (pc + 3) lv (.ref w.2.1 :: st) (va_up w.1 w.2.1 (some (.inr (ci, fs))), w.2.1 + 1, w.2.2 + fs.length) P) : ab_E G M d pc lv st w P :=
  ab_goA (fun p e R s m args below meth c H locs cells slots ls Q C I hc hs hl k0 => by
    obtain ⟨Cn, T, N, ty, ⟨c1, c2, c3, c4⟩, k1, k2, k3, hN, hfs⟩ := hk
    subst hN
    exact va_new (ci := ci) (fs := fs.map (ab_v G)) C.1 C.2.1 C.wd c2 ty c3 C.own (C.wd _ k1) (C.wd _ k2) (C.wd _ k3) C.kk.1 I.2.1 (ab_w_D G _ _) I.2.2 (ab_hA C.kk) c1 (fun j hj => by rw [ab_vV, ← hfs j hj, ab_vnull]) hc hs hd (fun q H1 q1 q2 q3 => k0 q H1 q1 q2 q3)) kk
theorem e_newa {t n : Nat} {i : Int32} (hd : decode M.2.1 pc = .ok (.newarray .int, 2)) (ht : ab_tys[t]? = some .int) (hk : Cond.arrayClass .int ∈ ab_T) (hi : i = nI n) (hn : n ≤ 100000) (kk : ab_E G M d (pc + 2) lv (.ref w.2.1 :: st) (va_up w.1 w.2.1 (some (.inl (t, n, .inl (fun _ => 0)))), w.2.1 + 1, w.2.2 + n) P) : ab_E G M d pc lv (.int i :: st) w P :=
  ab_goA (fun p e R s m args below meth c H locs cells slots ls Q C I hc hs hl k0 => by
    subst hi
    refine va_newa (D := g_D G) (atype := .int) (N' := n) (ty := .int) (a0 := (n, .inl (fun _ => 0))) C.1 C.2.1 (C.wd _ hk) rfl C.kk.1 I.2.1 (ab_w_D G _ _) I.2.2 (ab_hA C.kk) (fun cA => rfl) (nI_pos (by omega)) (nI_clamp (by omega)) (by show n * 4 ≤ 536870912; omega) hc hs hd (fun q cA H1 qK q1 q2 q3 => ?_)
    have e1 : (((g_T G).getD t (0, .int)).1) = cA := by
      have h1 := (qK.2 (g_T G).length (cA, .int) (by rw [List.getElem?_append_right (Nat.le_refl _), Nat.sub_self]; rfl)).2
      have h2 := (C.kk.1.2 t _ (ab_ty C.kk ht)).2
      exact Option.some.inj (h2.symm.trans h1)
    rw [← e1] at q1 q2
    exact k0 q H1 q1 q2 q3) kk
theorem e_newq {t n idx : Nat} {i : Int32} {Cn : String} (hd : decode M.2.1 pc = .ok (.anewarray idx, 3)) (ht : ab_tys[t]? = some (.object Cn)) (hk : Cond.classLink M.1.cls idx Cn ∈ ab_T) (ho : Cn ∈ ab_over) (hi : i = nI n) (hn : n ≤ 100000) (kk : ab_E G M d (pc + 3) lv (.ref w.2.1 :: st) (va_up w.1 w.2.1 (some (.inl (t, n, .inr (.inr (.inr (.inr (fun _ => none))))))), w.2.1 + 1, w.2.2 + n) P) : ab_E G M d pc lv (.int i :: st) w P :=
  ab_goA (fun p e R s m args below meth c H locs cells slots ls Q C I hc hs hl k0 => by
    subst hi
    refine va_newq (D := g_D G) (N' := n) C.1 C.2.1 C.own (C.wd _ hk) (C.kk.2.2.2.2.2.2 _ ho) C.kk.1 I.2.1 (ab_w_D G _ _) I.2.2 (ab_hA C.kk) (nI_pos (by omega)) (nI_clamp (by omega)) (by omega) hc hs hd (fun q cA H1 qK q1 q2 q3 => ?_)
    have e1 : (((g_T G).getD t (0, .int)).1) = cA := by
      obtain ⟨-, -, -, -, -, h1⟩ := (qK.2 (g_T G).length (cA, .object Cn) (by rw [List.getElem?_append_right (Nat.le_refl _), Nat.sub_self]; rfl)).2
      obtain ⟨-, -, -, -, -, h2⟩ := (C.kk.1.2 t _ (ab_ty C.kk ht)).2
      exact Option.some.inj (h2.symm.trans h1)
    rw [← e1] at q1 q2
    exact k0 q H1 q1 q2 q3) kk
theorem e_copy {idx t a0 a1 n0 n1 sp dp n : Nat} {f g : Nat → Int32} {isp idp i : Int32} (hd : decode M.2.1 pc = .ok (.invokestatic idx, 3)) (hw : Cond.methodLink M.1.cls idx arraycopyName ∈ ab_T ∧ Cond.native arraycopyName ∈ ab_T ∧ Cond.static arraycopyName ∈ ab_T ∧ Cond.initialized "java/lang/System" ∈ ab_T) (h0 : w.1 a0 = some (.inl (t, n0, .inl f))) (h1 : w.1 a1 = some (.inl (t, n1, .inl g))) (ht : ab_tys[t]? = some .int) (e1 : isp = nI sp) (e2 : idp = nI dp) (e3 : i = nI n) (hs : sp + n ≤ n0) (hp : dp + n ≤ n1) (hn0 : n0 < 2 ^ 31) (hn1 : n1 < 2 ^ 31) (hr : 1 ≤ d.1 ∧ (st.map fun v => v.category).sum + (nativeFrameWords "java/lang/System" "arraycopy" 5 + 11) ≤ d.2) (kk : ab_E G M d (pc + 3) lv st (va_up w.1 a1 (some (.inl (t, n1, .inl (va_cpy f g sp dp n)))), w.2) P) : ab_E G M d pc lv (.int i :: .int idp :: .ref a1 :: .int isp :: .ref a0 :: st) w P :=
  ab_goW (fun p e R s m args below meth c H locs cells slots ls Q C I hl k0 => by
    obtain ⟨p1, p2⟩ := I.1.pos h0
    obtain ⟨p3, p4⟩ := I.1.pos h1
    subst e1 e2 e3
    have c1 : (nI sp).toNatClampNeg = sp := nI_clamp (by omega)
    have c2 : (nI dp).toNatClampNeg = dp := nI_clamp (by omega)
    have c3 : (nI n).toNatClampNeg = n := nI_clamp (by omega)
    refine va_copyi (D := g_D G) (f := f) (g := g) (ty := .int) C.1 C.2.1 (C.2.2.2.1.trans hl.1.1.symm) C.own (C.wd _ hw.1) (C.wd _ hw.2.1) (C.wd _ hw.2.2.1) (C.wd _ hw.2.2.2) C.kk.1 I.2.1 (ab_w_D G _ _) I.2.2 (a0 - 1) (a1 - 1) t t (ab_w_get G h0 p1 p2) (ab_w_get G h1 p3 p4) (ab_ty C.kk ht) (ab_ty C.kk ht) rfl (nI_pos (by omega)) (nI_pos (by omega)) (nI_pos (by omega)) (by rw [c1, c3]; exact hs) (by rw [c2, c3]; exact hp) (fun _ _ => rfl) (Nat.le_trans hr.1 C.fr.1) (by rw [ab_cats]; exact Nat.le_trans hr.2 C.fr.2) hd (fun H1 locs1 q1 q2 q3 => k0 H1 locs1 ⟨I.1.set h1, ?_, q3⟩)
    rw [c1, c2, c3] at q1
    have e2 := ab_w_set G (h := w.1) (.inl (t, n1, .inl (va_cpy f g sp dp n))) p3 p4
    rw [show ab_e G (.inl (t, n1, .inl (va_cpy f g sp dp n))) = .inl (((g_T G).getD t (0, .int)).1, n1, .inl (va_cpy f g sp dp n)) from rfl] at e2
    rw [e2] at q1
    exact q1) kk
theorem e_mmin {idx : Nat} {x y : Int32} (hd : decode M.2.1 pc = .ok (.invokestatic idx, 3)) (hw : Cond.methodLink M.1.cls idx Lib.Math.min.name ∈ ab_T ∧ Cond.static Lib.Math.min.name ∈ ab_T ∧ Cond.initialized "java/lang/Math" ∈ ab_T ∧ Cond.code Lib.Math.min.name Lib.Math.min.code 2 (some .int) ∈ ab_T) (hr : 1 ≤ d.1 ∧ (st.map fun v => v.category).sum + 13 ≤ d.2) (kk : ab_E G M d (pc + 3) lv (.int (if y < x then y else x) :: st) w P) : ab_E G M d pc lv (.int y :: .int x :: st) w P :=
  ab_go (fun p e R s m args below meth c H locs cells slots ls Q C I hc hs hl k0 => va_mmin C.1 C.2.1 (C.2.2.2.1.trans hl.1.1.symm) C.own (C.wd _ hw.1) (C.wd _ hw.2.1) (C.wd _ hw.2.2.1) (C.wd _ hw.2.2.2) (Nat.le_trans hr.1 C.fr.1) (by rw [ab_cats]; exact Nat.le_trans hr.2 C.fr.2) hc hs hd (k0 ls hl)) kk
/-- Object's own constructor -/
theorem e_obj {idx : Nat} {a : Nat} (hd : decode M.2.1 pc = .ok (.invokespecial idx, 3)) (hw : Cond.methodLink M.1.cls idx objectInit ∈ ab_T ∧ Cond.instanceMethod objectInit ∈ ab_T ∧ Cond.code objectInit ⟨#[0xb1]⟩ 1 none ∈ ab_T) (hr : 1 ≤ d.1 ∧ (st.map fun v => v.category).sum + 12 ≤ d.2) (kk : ab_E G M d (pc + 3) lv st w P) : ab_E G M d pc lv (.ref a :: st) w P :=
  ab_go (fun p e R s m args below meth c H locs cells slots ls Q C I hc hs hl k0 => W.objInit C.1 C.2.1 C.own (C.wd _ hw.1) (C.wd _ hw.2.1) (C.wd _ hw.2.2) rfl (hl.1.1.trans C.2.2.2.1.symm) rfl hd (Nat.le_trans hr.1 C.fr.1) (by show 2 * 0 + _ + 12 ≤ _; rw [Nat.mul_zero, Nat.zero_add]; exact (by rw [ab_cats]; exact Nat.le_trans hr.2 C.fr.2)) (k0 ls hl)) kk
/-- the same, the new world by a name -/
theorem e_putx {idx ci k a : Nat} {t : FieldType} {fs fs1 : List Value} {v : Value} (hd : decode M.2.1 pc = .ok (.putfield idx, 3)) (hf : ab_fl M.1.cls idx ci k t false) (ha : w.1 a = some (.inr (ci, fs))) (hk0 : k < fs.length) (hn : narrow t (ab_v G v) = ab_v G v) (hft : fits t (ab_v G v) = true) (hfs : fs.set k v = fs1) (kk : ∀ w1 : ab_W, w1.2 = w.2 → w1.1 a = some (.inr (ci, fs1)) → (∀ i, i ≠ a → w1.1 i = w.1 i) → ab_E G M d (pc + 3) lv st w1 P) : ab_E G M d pc lv (v :: .ref a :: st) w P :=
  e_put hd hf ha hk0 hn hft hfs (kk _ rfl (if_pos rfl) (fun _ hi => if_neg hi))
theorem e_putFx {idx ci k a : Nat} {t : FieldType} {fs fs1 : List Value} {v : Value} (hd : decode M.2.1 pc = .ok (.putfield idx, 3)) (hf : ab_fl M.1.cls idx ci k t true) (hcls : (vwCl[ci]?).map (fun q => q.1) = some M.1.cls) (hin : M.1.name = "<init>") (ha : w.1 a = some (.inr (ci, fs))) (hk0 : k < fs.length) (hn : narrow t (ab_v G v) = ab_v G v) (hft : fits t (ab_v G v) = true) (hfs : fs.set k v = fs1) (kk : ∀ w1 : ab_W, w1.2 = w.2 → w1.1 a = some (.inr (ci, fs1)) → (∀ i, i ≠ a → w1.1 i = w.1 i) → ab_E G M d (pc + 3) lv st w1 P) : ab_E G M d pc lv (v :: .ref a :: st) w P :=
  e_putF hd hf hcls hin ha hk0 hn hft hfs (kk _ rfl (if_pos rfl) (fun _ hi => if_neg hi))
theorem e_iastx {t a n j : Nat} {f : Nat → Int32} {i x : Int32} (hd : decode M.2.1 pc = .ok (.iastore, 1)) (ha : w.1 a = some (.inl (t, n, .inl f))) (ht : ab_tys[t]? = some .int) (hi : i = nI j) (hj : j < n) (hn : n < 2 ^ 31) (kk : ∀ w1 : ab_W, w1.2 = w.2 → w1.1 a = some (.inl (t, n, .inl (upd f j x))) → (∀ i, i ≠ a → w1.1 i = w.1 i) → ab_E G M d (pc + 1) lv st w1 P) : ab_E G M d pc lv (.int x :: .int i :: .ref a :: st) w P :=
  e_iast hd ha ht hi hj hn (kk _ rfl (if_pos rfl) (fun _ hi => if_neg hi))
theorem e_copyx {idx t a0 a1 n0 n1 sp dp n : Nat} {f g : Nat → Int32} {isp idp i : Int32} (hd : decode M.2.1 pc = .ok (.invokestatic idx, 3)) (hw : Cond.methodLink M.1.cls idx arraycopyName ∈ ab_T ∧ Cond.native arraycopyName ∈ ab_T ∧ Cond.static arraycopyName ∈ ab_T ∧ Cond.initialized "java/lang/System" ∈ ab_T) (h0 : w.1 a0 = some (.inl (t, n0, .inl f))) (h1 : w.1 a1 = some (.inl (t, n1, .inl g))) (ht : ab_tys[t]? = some .int) (e1 : isp = nI sp) (e2 : idp = nI dp) (e3 : i = nI n) (hs : sp + n ≤ n0) (hp : dp + n ≤ n1) (hn0 : n0 < 2 ^ 31) (hn1 : n1 < 2 ^ 31) (hr : 1 ≤ d.1 ∧ (st.map fun v => v.category).sum + (nativeFrameWords "java/lang/System" "arraycopy" 5 + 11) ≤ d.2) (kk : ∀ w1 : ab_W, w1.2 = w.2 → w1.1 a1 = some (.inl (t, n1, .inl (va_cpy f g sp dp n))) → (∀ i, i ≠ a1 → w1.1 i = w.1 i) → ab_E G M d (pc + 3) lv st w1 P) : ab_E G M d pc lv (.int i :: .int idp :: .ref a1 :: .int isp :: .ref a0 :: st) w P :=
  e_copy hd hw h0 h1 ht e1 e2 e3 hs hp hn0 hn1 hr (kk _ rfl (if_pos rfl) (fun _ hi => if_neg hi))
end AB
end
section
/-! The rows of calls: what a method comes to, as a contract of the kit; and how a caller goes on. -/
theorem ab_K.moved {G : ab_G} {s U : State} {locs : List Loc} (hK : ab_K G s) (hW : s.WarmedH U.vm) (hS : va_S (ab_A G) s.heap U.heap locs) : ab_K G U := by
  obtain ⟨h1, h2, h3, h4, h5, h6, h7⟩ := hK
  refine ⟨va_K.moved hW.alike h1, h2, (h3.kept (hS.2.1 _ (by omega) (by show ¬ g_B G < g_b G; omega))).moved hW.alike, h4, Nat.lt_of_lt_of_le h5 hS.1, fun q hq => (h6 q hq).warmM hW, fun C hC => (h7 C hC).moved hW.alike⟩
def ab_P (G : ab_G) (w : ab_W) (U : State) : Prop := ab_K G U ∧ U.heap.size = g_B G + w.2.1 ∧ ab_dom w ∧ va_P (g_D G) vwCl (ab_w G w.1 w.2.1) U.heap
def ab_Q (G : ab_G) (r : Option Value) (w : ab_W) : Array Value → State → Outcome → State → Prop := fun _ st o t => o = .returned (r.map (ab_v G)) ∧ ab_dom w ∧ va_P (g_D G) vwCl (ab_w G w.1 w.2.1) t.heap ∧ va_F (ab_A G) st t
theorem ab_blind {G : ab_G} {w : ab_W} {av : List Value} : FrameBlind (va_Pc av (ab_P G w)) := by
  intro a U g mk q
  obtain ⟨q0, ⟨h1, h2, h3, h4, h5, h6, h7⟩, q2, q3, q4⟩ := q
  exact ⟨q0, ⟨va_K.moved (u := U) (U := U.calling g mk a) (Vm.Alike.refl U.vm) h1, h2, va_X.moved (u := U) (U := U.calling g mk a) (Vm.Alike.refl U.vm) h3, h4, h5, fun q hq => va_Nw.same (u := U) (U := U.calling g mk a) rfl rfl (h6 q hq), fun C hC => va_AO.moved (u := U) (U := U.calling g mk a) (Vm.Alike.refl U.vm) (h7 C hC)⟩, q2, q3, q4⟩
def ab_ws (M : ab_M) : List Cond := Cond.code M.1 M.2.1 M.2.2.1 M.2.2.2 :: ab_T
def ab_room (d : Nat × Nat) (mc ms : Nat) : Room := { frames := d.1, cells := mc, slots := ms, locals := d.2 }
theorem ab_good {M : ab_M} (h : Cond.code M.1 M.2.1 M.2.2.1 M.2.2.2 ∈ ab_T) : GoodIn ab_T (ab_ws M) := by
  intro c hc
  have hm : c ∈ ab_T := by
    rcases List.mem_cons.mp hc with rfl | h1
    · exact h
    · exact h1
  exact ⟨hm, good_of_word (List.mem_filter.mp hm).2⟩
theorem ab_met {G : ab_G} {M : ab_M} {d : Nat × Nat} {w w2 : ab_W} {r : Option Value} {As : List Value} {lv : List (Nat × Value)} (hy : plainName M.1.cls = true) (hlen : As.length ≤ M.2.2.1) (hcat : ∀ v ∈ As, v.category = 1) (hlv : lv_args 0 As = lv) (hR : ab_R G M d 0 lv [] w r w2) (hr : ab_rt M.2.2.2 r) :
    Met (g_l G) M.1 (ab_ws M) (ab_room d (w2.2.1 - w.2.1) (w2.2.2 - w.2.2)) (va_Pc (As.map (ab_v G)) (ab_P G w)) (ab_Q G r w2) (w2.2.1 - w.2.1) (w2.2.2 - w.2.2) (ab_A G) := by
  refine Met.ofW (cc := M.2.1) (maxL := M.2.2.1) (ret := M.2.2.2) hy rfl ?_
  intro p e s m args below meth c s₁ B hml hv
  obtain ⟨rfl, hK, hsz, hdom, hP⟩ := hv
  have hx := B.exec
  have hb := B.bytes
  have hret := B.returns
  have hts := atoms_spec (ws := ab_ws M) B.pre
  have hown : s.vm.findClass M.1.cls = some m.cls := findClass_of_methodNamed B.named
  have hlocks := B.notSynchronized
  have hin : meth.name = M.1.name := (name_of_methodNamed B.named B.method).1
  have hS : va_S (ab_A G) s.heap s.heap [] := va_S.rf
  have hsl : ∀ (l : List Value), (∀ v ∈ l, v.category = 1) → (lg_sl (l.map (ab_v G))).length = l.length := by
    intro l
    induction l with
    | nil => intro _; rfl
    | cons v t ih =>
      intro h
      have h1 : (ab_v G v).category = 1 := (ab_cat G v).trans (h v List.mem_cons_self)
      have h2 := ih (fun u hu => h u (List.mem_cons_of_mem _ hu))
      have e1 : lg_sl (ab_v G v :: t.map (ab_v G)) = .val (ab_v G v) :: lg_sl (t.map (ab_v G)) := by
        simp only [lg_sl, List.flatMap_cons, h1]
        rfl
      rw [List.map_cons, e1, List.length_cons, List.length_cons, h2]
  have hl := lv_entry (As.map (ab_v G)) (n := M.2.2.1) (by rw [hsl As hcat]; exact hlen)
  rw [lg_entry_eq]
  generalize (lg_sl (As.map (ab_v G)) ++ List.replicate (M.2.2.1 - (lg_sl (As.map (ab_v G))).length) Slot.unset).toArray = ls at hl ⊢
  have hla : ∀ (l : List Value) (k : Nat), (∀ v ∈ l, v.category = 1) → lv_args k (l.map (ab_v G)) = ab_l G (lv_args k l) ∧ ∀ q ∈ lv_args k l, q.2.category = 1 := by
    intro l
    induction l with
    | nil => intro k _; exact ⟨rfl, fun q hq => by cases hq⟩
    | cons v t ih =>
      intro k h
      have h0 := h v List.mem_cons_self
      have h1 : (ab_v G v).category = 1 := (ab_cat G v).trans h0
      obtain ⟨i1, i2⟩ := ih (k + 1) (fun u hu => h u (List.mem_cons_of_mem _ hu))
      refine ⟨?_, fun q hq => ?_⟩
      · simp only [List.map_cons, lv_args, h0, h1]
        show (k, ab_v G v) :: lv_args (k + 1) (t.map (ab_v G)) = _
        rw [i1]
        rfl
      · simp only [lv_args, h0] at hq
        rcases List.mem_cons.mp hq with rfl | hq
        · exact h0
        · exact i2 q hq
  obtain ⟨j1, j2⟩ := hla As 0 hcat
  rw [j1, hlv] at hl
  rw [hlv] at j2
  obtain ⟨b1, b2, b3⟩ := hR
  refine b3 p e _ s m _ below meth c s.heap [] 0 0 ls _ ⟨hx, hb, hret, hml, hown, fun w hw => hts w (List.mem_cons_of_mem _ hw), hlocks, hin, Nat.le_refl _, Nat.le_refl _, hK⟩ ⟨hdom, hP, hS⟩ (by omega) (by show 0 + _ ≤ (ab_room d _ _).cells; rw [Nat.zero_add]; exact Nat.le_refl _) (by show 0 + _ ≤ (ab_room d _ _).slots; rw [Nat.zero_add]; exact Nat.le_refl _) ⟨hl, j2⟩ (fun H1 locs1 pc1 ls1 I1 t1 => ?_)
  rw [Nat.zero_add, Nat.zero_add]
  have hq : ∀ t : State, t.heap = H1 → s.WarmedH t.vm → ab_Q G r w2 (As.map (ab_v G)).toArray s (.returned (r.map (ab_v G))) t := fun t ht _ => ⟨rfl, I1.1, by rw [ht]; exact I1.2.1, I1.2.2.F ht⟩
  rcases t1 with ⟨rfl, hd⟩ | ⟨x, rfl, hd⟩ | ⟨a, rfl, hd⟩
  · exact W.vret hx hb (hret.trans hr) hq I1.2.2.2.2 hd
  · obtain ⟨ty, h1, h2⟩ := hr
    exact W.zret hx hb (hret.trans h1) h2 hq I1.2.2.2.2 hd
  · obtain ⟨ty, h1, h2⟩ := hr
    exact W.aret hx hb (hret.trans h1) h2 (Or.inr ⟨_, rfl⟩) hq I1.2.2.2.2 hd
/-- what a call needs of the tables -/
def ab_kB (own : String) (idx : Nat) (M : ab_M) (n : Nat) : Prop := plainName M.1.cls = true ∧ Cond.code M.1 M.2.1 M.2.2.1 M.2.2.2 ∈ ab_T ∧ Cond.methodLink own idx M.1 ∈ ab_T ∧ Cond.initialized M.1.cls ∈ ab_T ∧ (M.1.cls ≠ "java/lang/invoke/MethodHandle" ∧ M.1.cls ≠ "java/lang/invoke/VarHandle" ∧ (parseMethodDescriptor M.1.desc).map (fun d => d.parameters.length) = some n)
def ab_kV (own : String) (idx : Nat) (M : ab_M) (n : Nat) : Prop := ab_kB own idx M n ∧ Cond.instanceMethod M.1 ∈ ab_T ∧ Cond.selects M.1.cls M.1 M.1 ∈ ab_T
def ab_kS (own : String) (idx : Nat) (M : ab_M) (n : Nat) : Prop := ab_kB own idx M n ∧ Cond.static M.1 ∈ ab_T
def ab_kI (own : String) (idx : Nat) (M : ab_M) (n : Nat) : Prop := ab_kB own idx M n ∧ M.1.name = "<init>" ∧ Cond.instanceMethod M.1 ∈ ab_T
/-- of a nest mate's private static method -/
def ab_kN (own : String) (idx : Nat) (M : ab_M) (n : Nat) (host : String) : Prop := plainName M.1.cls = true ∧ Cond.code M.1 M.2.1 M.2.2.1 M.2.2.2 ∈ ab_T ∧ (own, idx, M.1, host) ∈ ab_nestM ∧ Cond.initialized M.1.cls ∈ ab_T ∧ (M.1.cls ≠ "java/lang/invoke/MethodHandle" ∧ M.1.cls ≠ "java/lang/invoke/VarHandle" ∧ (parseMethodDescriptor M.1.desc).map (fun d => d.parameters.length) = some n) ∧ Cond.static M.1 ∈ ab_T
section AB
variable {G : ab_G} {M M1 : ab_M} {d d1 : Nat × Nat} {pc idx : Nat} {lv lv1 : List (Nat × Value)} {st stk As : List Value} {w : ab_W} {P P1 : Option Value → ab_W → Prop}
theorem ab_toList (G : ab_G) (r : Option Value) (st : List Value) : (r.map (ab_v G)).toList ++ st.map (ab_v G) = (r.toList ++ st).map (ab_v G) := by cases r <;> simp
theorem ab_pre {p : Program} {R : Room} {s : State} {m : MethodId} {args : Array Value} {meth : Method} {c : Code} {H : Heap} {locs : List Loc} {cells : Nat} (C : ab_C G M d p R s m args meth c) (I : ab_I G w s H locs) (hsz : H.size = g_B G + w.2.1) (av : List Value) : PreS s H (va_Pc (av.map (ab_v G)) (ab_P G w)) (av.map (ab_v G)) :=
  ⟨ab_blind, fun U hU hW => ⟨rfl, C.kk.moved hW (by rw [hU]; exact I.2.2), by rw [hU]; exact hsz, I.1, by rw [hU]; exact I.2.1⟩⟩
theorem ab_size {p : Program} {e : Env} {R : Room} {s : State} {m : MethodId} {args : Array Value} {below : List Frame} {meth : Method} {c : Code} {H : Heap} {locs : List Loc} {cells slots : Nat} {T : State} (hT : T.heap = H) (X : Stand p (g_l G) e R s m args below meth c T locs cells slots) (C : ab_C G M d p R s m args meth c) (I : ab_I G w s H locs) (hz : s.heap.size + cells = g_B G + w.2.1) : H.size = g_B G + w.2.1 := by
  have h1 := X.heapSize
  rw [hT] at h1
  have h2 := I.2.2.1
  have h3 := C.kk.2.2.2.2.1
  have h4 := I.1.1
  by_cases h5 : s.heap.size = g_B G + w.2.1
  · omega
  · have h6 : 1 < w.2.1 := by omega
    obtain ⟨x, hx⟩ := Option.isSome_iff_exists.mp ((I.1.2 (w.2.1 - 1)).mpr ⟨by omega, by omega⟩)
    have h7 := (I.2.1 _ _ (ab_w_get G hx (by omega) (by omega))).lt
    rw [ab_ad_pos G (by omega)] at h7
    omega
/-- a caller goes on behind a call -/
theorem ab_on {r1 : Option Value} {w1 w2 : ab_W} {r : Option Value} (hn1 : w.2.1 ≤ w1.2.1) (hn2 : w.2.2 ≤ w1.2.2)
    (run : ∀ (p : Program) (e : Env) (R : Room) (s : State) (m : MethodId) (args : Array Value) (below : List Frame) (meth : Method) (c : Code) (H : Heap) (locs : List Loc) (cells slots : Nat) (ls : Array Slot), ab_C G M d p R s m args meth c → ab_I G w s H locs → H.size = g_B G + w.2.1 → cells + (w1.2.1 - w.2.1) ≤ R.cells → slots + (w1.2.2 - w.2.2) ≤ R.slots → ab_L G M lv ls → ∃ as : Array Value, va_Run p (g_l G) e R s m args below meth c H locs cells slots (w1.2.1 - w.2.1) (w1.2.2 - w.2.2) (F0 m pc ls (stk.map (ab_v G))) (st.map (ab_v G)) (ab_Q G r1 w1 as) (ab_A G))
    (kk : ab_R G M d (pc + 3) lv (r1.toList ++ st) w1 r w2) : ab_R G M d pc lv stk w r w2 := by
  obtain ⟨b1, b2, b3⟩ := kk
  refine ⟨Nat.le_trans hn1 b1, Nat.le_trans hn2 b2, fun p e R s m args below meth c H locs cells slots ls Q C I hz hc hs hl hret T hT X => ?_⟩
  obtain ⟨as, hrun⟩ := run p e R s m args below meth c H locs cells slots ls C I (ab_size hT X C I hz) (by omega) (by omega) hl
  obtain ⟨v, st₀, t, T2, L, h0, X2, hL, e1, e2, ⟨hv, hdom, hP, hF1, hF2⟩, go⟩ := hrun T hT X
  have hv : v = r1.map (ab_v G) := Outcome.returned.inj hv
  subst hv
  rw [h0] at hF1 hF2
  have I2 : ab_I G w1 s T2.heap (locs ++ L) := by
    refine ⟨hdom, by rw [e1]; exact hP, by rw [e1]; exact Nat.le_trans I.2.2.1 hF1, fun q h1 h2 => ?_, fun q hq => ?_⟩
    · rw [e1, hF2 q (Nat.lt_of_lt_of_le h1 I.2.2.1) h2]
      exact I.2.2.2.1 q h1 h2
    · rcases List.mem_append.mp hq with h | h
      · exact I.2.2.2.2 q h
      · exact hL q h
  have e3 : cells + (w1.2.1 - w.2.1) + (w2.2.1 - w1.2.1) = cells + (w2.2.1 - w.2.1) := by omega
  have e4 : slots + (w1.2.2 - w.2.2) + (w2.2.2 - w1.2.2) = slots + (w2.2.2 - w.2.2) := by omega
  obtain ⟨t2, a1, a2⟩ := b3 p e R s m args below meth c T2.heap (locs ++ L) (cells + (w1.2.1 - w.2.1)) (slots + (w1.2.2 - w.2.2)) ls Q C I2 (by omega) (by omega) (by omega) hl (fun H3 locs3 pc3 ls3 I3 t3 => by
    rw [e3, e4]
    exact hret H3 locs3 pc3 ls3 I3 t3) T2 rfl X2
  rw [← ab_toList] at a1
  exact ⟨t2, go t2 a1, a2⟩
theorem ab_cb {p : Program} {R : Room} {s : State} {m : MethodId} {args : Array Value} {meth : Method} {c : Code} {n mc ms : Nat} (C : ab_C G M d p R s m args meth c) (hk : ab_kB M.1.cls idx M1 n) (hd1 : d1.1 + 1 ≤ d.1 ∧ 8 + (M1.2.2.1 + 11) + d1.2 ≤ d.2) : CallB R s args M.1.cls idx M1.1 M1.2.1 M1.2.2.1 M1.2.2.2 (ab_ws M1) (ab_room d1 mc ms) mc ms n :=
  callB_of n C.wd (ab_good hk.2.1) rfl rfl rfl (C.wd _ hk.2.2.2.1) (C.wd _ hk.2.2.1) hk.2.2.2.2 ⟨Nat.le_trans hd1.1 C.fr.1, Nat.le_trans hd1.2 C.fr.2⟩
theorem e_callS (hd : decode M.2.1 pc = .ok (.invokestatic idx, 3)) (hk : ab_kS M.1.cls idx M1 As.length) (hd1 : d1.1 + 1 ≤ d.1 ∧ 8 + (M1.2.2.1 + 11) + d1.2 ≤ d.2) (hstk : stk = As.reverse ++ st) (hst : (st.map fun v => v.category).sum ≤ 8) (hlen : As.length ≤ M1.2.2.1) (hcat : ∀ v ∈ As, v.category = 1) (hlv : lv_args 0 As = lv1) (hs : ab_E G M1 d1 0 lv1 [] w P1) (kk : ∀ r1 w1, P1 r1 w1 → ab_E G M d (pc + 3) lv (r1.toList ++ st) w1 P) : ab_E G M d pc lv stk w P := by
  obtain ⟨r1, w1, hR, hrt, hP1⟩ := hs
  obtain ⟨r, w2, hR2, hrt2, hP2⟩ := kk r1 w1 hP1
  refine ⟨r, w2, ab_on hR.1 hR.2.1 (fun p e R s m args below meth c H locs cells slots ls C I hsz hc hs hl => ⟨(As.map (ab_v G)).toArray, ?_⟩) hR2, hrt2, hP2⟩
  exact va_runS (As := As.map (ab_v G)) (n := As.length) (rest := st.map (ab_v G)) ⟨C.1, C.2.1, C.2.2.2.1, C.own, C.wd⟩ (ab_met hk.1.1 hlen hcat hlv hR hrt) ⟨ab_cb C hk.1 hd1, C.wd _ hk.2⟩ (ab_pre (cells := cells) C I hsz As) rfl (by simp) hl.1.1 (by show stk.map (ab_v G) = _; rw [hstk, List.map_append, List.map_reverse]) (by show 2 * 0 + _ ≤ 8; rw [ab_cats]; omega) hd ⟨hc, hs⟩
theorem e_callI {a : Nat} (hd : decode M.2.1 pc = .ok (.invokespecial idx, 3)) (hk : ab_kI M.1.cls idx M1 As.length) (hret : M1.2.2.2 = none) (hd1 : d1.1 + 1 ≤ d.1 ∧ 8 + (M1.2.2.1 + 11) + d1.2 ≤ d.2) (hstk : stk = As.reverse ++ .ref a :: st) (hst : (st.map fun v => v.category).sum ≤ 8) (hlen : As.length + 1 ≤ M1.2.2.1) (hcat : ∀ v ∈ As, v.category = 1) (hlv : lv_args 0 (.ref a :: As) = lv1) (hs : ab_E G M1 d1 0 lv1 [] w P1) (kk : ∀ r1 w1, P1 r1 w1 → ab_E G M d (pc + 3) lv (r1.toList ++ st) w1 P) : ab_E G M d pc lv stk w P := by
  obtain ⟨r1, w1, hR, hrt, hP1⟩ := hs
  obtain ⟨r, w2, hR2, hrt2, hP2⟩ := kk r1 w1 hP1
  refine ⟨r, w2, ab_on hR.1 hR.2.1 (fun p e R s m args below meth c H locs cells slots ls C I hsz hc hs hl => ⟨(Value.ref (ab_ad G a) :: As.map (ab_v G)).toArray, ?_⟩) hR2, hrt2, hP2⟩
  have hcb := ab_cb (mc := w1.2.1 - w.2.1) (ms := w1.2.2 - w.2.2) C hk.1 hd1
  rw [hret] at hcb
  exact va_runI (b := ab_ad G a) (As := As.map (ab_v G)) (n := As.length) (rest := st.map (ab_v G)) ⟨C.1, C.2.1, C.2.2.2.1, C.own, C.wd⟩ (ab_met (As := .ref a :: As) hk.1.1 (by simpa using hlen) (fun v hv => by
    rcases List.mem_cons.mp hv with rfl | h
    · rfl
    · exact hcat v h) hlv hR hrt) ⟨hcb, hk.2.1, C.wd _ hk.2.2⟩ (ab_pre (cells := cells) C I hsz (.ref a :: As)) rfl (by simp) hl.1.1 (by show stk.map (ab_v G) = _; rw [hstk, List.map_append, List.map_reverse]; rfl) (by show 2 * 0 + _ ≤ 8; rw [ab_cats]; omega) hd ⟨hc, hs⟩
theorem e_callV {a ci : Nat} {fs : List Value} (hd : decode M.2.1 pc = .ok (.invokevirtual idx, 3)) (hk : ab_kV M.1.cls idx M1 As.length) (ha : w.1 a = some (.inr (ci, fs))) (hci : (vwCl[ci]?).map (fun q => q.1) = some M1.1.cls) (hd1 : d1.1 + 1 ≤ d.1 ∧ 8 + (M1.2.2.1 + 11) + d1.2 ≤ d.2) (hstk : stk = As.reverse ++ .ref a :: st) (hst : (st.map fun v => v.category).sum ≤ 8) (hlen : As.length + 1 ≤ M1.2.2.1) (hcat : ∀ v ∈ As, v.category = 1) (hlv : lv_args 0 (.ref a :: As) = lv1) (hs : ab_E G M1 d1 0 lv1 [] w P1) (kk : ∀ r1 w1, P1 r1 w1 → ab_E G M d (pc + 3) lv (r1.toList ++ st) w1 P) : ab_E G M d pc lv stk w P := by
  obtain ⟨r1, w1, hR, hrt, hP1⟩ := hs
  obtain ⟨r, w2, hR2, hrt2, hP2⟩ := kk r1 w1 hP1
  refine ⟨r, w2, ab_on hR.1 hR.2.1 (fun p e R s m args below meth c H locs cells slots ls C I hsz hc hs hl => ⟨(Value.ref (ab_ad G a) :: As.map (ab_v G)).toArray, ?_⟩) hR2, hrt2, hP2⟩
  obtain ⟨p1, p2⟩ := I.1.pos ha
  obtain ⟨q, hq1, hq2⟩ := Option.map_eq_some_iff.mp hci
  have hrec := va_recv C.kk.1 I.2.1 hq1 (ab_w_get G ha p1 p2)
  rw [hq2] at hrec
  have hpre := ab_pre (cells := cells) C I hsz (.ref a :: As)
  exact va_runV (b := ab_ad G a) (C := M1.1.cls) (As := As.map (ab_v G)) (n := As.length) (rest := st.map (ab_v G)) ⟨C.1, C.2.1, C.2.2.2.1, C.own, C.wd⟩ (ab_met (As := .ref a :: As) hk.1.1 (by simpa using hlen) (fun v hv => by
    rcases List.mem_cons.mp hv with rfl | h
    · rfl
    · exact hcat v h) hlv hR hrt) ⟨ab_cb C hk.1 hd1, C.wd _ hk.2.1, C.wd _ hk.2.2⟩ ⟨hpre.1, hrec, hpre.2⟩ rfl (by simp) hl.1.1 (by show stk.map (ab_v G) = _; rw [hstk, List.map_append, List.map_reverse]; rfl) (by show 2 * 0 + _ ≤ 8; rw [ab_cats]; omega) hd ⟨hc, hs⟩
theorem e_callN {host : String} (hd : decode M.2.1 pc = .ok (.invokestatic idx, 3)) (hk : ab_kN M.1.cls idx M1 As.length host) (hd1 : d1.1 + 1 ≤ d.1 ∧ 8 + (M1.2.2.1 + 11) + d1.2 ≤ d.2) (hstk : stk = As.reverse ++ st) (hst : (st.map fun v => v.category).sum ≤ 8) (hlen : As.length ≤ M1.2.2.1) (hcat : ∀ v ∈ As, v.category = 1) (hlv : lv_args 0 As = lv1) (hs : ab_E G M1 d1 0 lv1 [] w P1) (kk : ∀ r1 w1, P1 r1 w1 → ab_E G M d (pc + 3) lv (r1.toList ++ st) w1 P) : ab_E G M d pc lv stk w P := by
  obtain ⟨r1, w1, hR, hrt, hP1⟩ := hs
  obtain ⟨r, w2, hR2, hrt2, hP2⟩ := kk r1 w1 hP1
  refine ⟨r, w2, ab_on hR.1 hR.2.1 (fun p e R s m args below meth c H locs cells slots ls C I hsz hc hs hl => ⟨(As.map (ab_v G)).toArray, ?_⟩) hR2, hrt2, hP2⟩
  exact va_runSN (As := As.map (ab_v G)) (n := As.length) (rest := st.map (ab_v G)) (host := host) ⟨C.1, C.2.1, C.2.2.2.1, C.own, C.wd⟩ (ab_met hk.1 hlen hcat hlv hR hrt) ⟨va_cnB As.length C.wd (ab_good hk.2.1) rfl rfl rfl (C.kk.2.2.2.2.2.1 _ hk.2.2.1) (C.wd _ hk.2.2.2.1) hk.2.2.2.2.1 ⟨Nat.le_trans hd1.1 C.fr.1, Nat.le_trans hd1.2 C.fr.2⟩, C.wd _ hk.2.2.2.2.2, trivial⟩ (ab_pre (cells := cells) C I hsz As) rfl (by simp) hl.1.1 (by show stk.map (ab_v G) = _; rw [hstk, List.map_append, List.map_reverse]) (by show 2 * 0 + _ ≤ 8; rw [ab_cats]; omega) hd ⟨hc, hs⟩
end AB
end
