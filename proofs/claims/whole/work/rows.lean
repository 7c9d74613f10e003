section
-- ===== PART A: goes FIRST, ahead of the names: the tables' words, and 'selects' of the private methods out of them =====
/-- a private method of a class that the tables say can be made, by its rows of tables_1 -/
def lw_okq (q : MethodName × Nat) : Prop := (q.1.cls ≠ "java/lang/invoke/MethodHandle" ∧ q.1.cls ≠ "java/lang/invoke/VarHandle") ∧ Cond.instantiable q.1.cls q.2 ∈ tables_1 ∧ Cond.privateMethod q.1 ∈ tables_1 ∧ Cond.instanceMethod q.1 ∈ tables_1
theorem lw_p0 : lw_okq (⟨"AggregateSplitter", "isAccess", "(III)Z"⟩, 4) := ⟨⟨by decide +kernel, by decide +kernel⟩, List.mem_of_getElem? (i := 12) (by decide +kernel), List.mem_of_getElem? (i := 298) (by decide +kernel), List.mem_of_getElem? (i := 299) (by decide +kernel)⟩
theorem lw_p1 : lw_okq (⟨"AggregateSplitter", "append", "(LAggregateSplitter$Instruction;)I"⟩, 4) := ⟨⟨by decide +kernel, by decide +kernel⟩, List.mem_of_getElem? (i := 12) (by decide +kernel), List.mem_of_getElem? (i := 325) (by decide +kernel), List.mem_of_getElem? (i := 326) (by decide +kernel)⟩
theorem lw_p2 : lw_okq (⟨"AggregateSplitter", "layoutNow", "(I)LAggregateSplitter$Layout;"⟩, 4) := ⟨⟨by decide +kernel, by decide +kernel⟩, List.mem_of_getElem? (i := 12) (by decide +kernel), List.mem_of_getElem? (i := 420) (by decide +kernel), List.mem_of_getElem? (i := 421) (by decide +kernel)⟩
theorem lw_p3 : lw_okq (⟨"AggregateSplitter$Analysis", "collectRanges", "(LAggregateSplitter$Instruction;I)V"⟩, 4) := ⟨⟨by decide +kernel, by decide +kernel⟩, List.mem_of_getElem? (i := 127) (by decide +kernel), List.mem_of_getElem? (i := 435) (by decide +kernel), List.mem_of_getElem? (i := 436) (by decide +kernel)⟩
theorem lw_p4 : lw_okq (⟨"AggregateSplitter$Layout", "isByte", "(I)Z"⟩, 9) := ⟨⟨by decide +kernel, by decide +kernel⟩, List.mem_of_getElem? (i := 134) (by decide +kernel), List.mem_of_getElem? (i := 451) (by decide +kernel), List.mem_of_getElem? (i := 452) (by decide +kernel)⟩
theorem lw_p5 : lw_okq (⟨"AggregateSplitter$Layout", "isPadding", "(I)Z"⟩, 9) := ⟨⟨by decide +kernel, by decide +kernel⟩, List.mem_of_getElem? (i := 134) (by decide +kernel), List.mem_of_getElem? (i := 463) (by decide +kernel), List.mem_of_getElem? (i := 464) (by decide +kernel)⟩
theorem lw_p6 : lw_okq (⟨"AggregateSplitter$Layout", "beginsPartition", "(I)Z"⟩, 9) := ⟨⟨by decide +kernel, by decide +kernel⟩, List.mem_of_getElem? (i := 134) (by decide +kernel), List.mem_of_getElem? (i := 467) (by decide +kernel), List.mem_of_getElem? (i := 468) (by decide +kernel)⟩
theorem lw_p7 : lw_okq (⟨"AggregateSplitter$Analysis", "cutIntoPieces", "(LAggregateSplitter$Instruction;I)V"⟩, 4) := ⟨⟨by decide +kernel, by decide +kernel⟩, List.mem_of_getElem? (i := 127) (by decide +kernel), List.mem_of_getElem? (i := 484) (by decide +kernel), List.mem_of_getElem? (i := 485) (by decide +kernel)⟩
theorem lw_p8 : lw_okq (⟨"AggregateSplitter$Analysis", "beginsPiece", "(LAggregateSplitter$Instruction;I)Z"⟩, 4) := ⟨⟨by decide +kernel, by decide +kernel⟩, List.mem_of_getElem? (i := 127) (by decide +kernel), List.mem_of_getElem? (i := 488) (by decide +kernel), List.mem_of_getElem? (i := 489) (by decide +kernel)⟩
theorem lw_p9 : lw_okq (⟨"AggregateSplitter$Analysis", "touchPartitions", "(LAggregateSplitter$Instruction;I)V"⟩, 4) := ⟨⟨by decide +kernel, by decide +kernel⟩, List.mem_of_getElem? (i := 127) (by decide +kernel), List.mem_of_getElem? (i := 500) (by decide +kernel), List.mem_of_getElem? (i := 501) (by decide +kernel)⟩
theorem lw_p10 : lw_okq (⟨"AggregateSplitter$Analysis", "markLive", "(LAggregateSplitter$Program;)V"⟩, 4) := ⟨⟨by decide +kernel, by decide +kernel⟩, List.mem_of_getElem? (i := 127) (by decide +kernel), List.mem_of_getElem? (i := 517) (by decide +kernel), List.mem_of_getElem? (i := 518) (by decide +kernel)⟩
theorem lw_p11 : lw_okq (⟨"AggregateSplitter$Analysis", "passLifeToOrigins", "(LAggregateSplitter$Instruction;I)Z"⟩, 4) := ⟨⟨by decide +kernel, by decide +kernel⟩, List.mem_of_getElem? (i := 127) (by decide +kernel), List.mem_of_getElem? (i := 521) (by decide +kernel), List.mem_of_getElem? (i := 522) (by decide +kernel)⟩
theorem lw_p12 : lw_okq (⟨"AggregateSplitter", "partitionNow", "(II)LAggregateSplitter$Partition;"⟩, 4) := ⟨⟨by decide +kernel, by decide +kernel⟩, List.mem_of_getElem? (i := 12) (by decide +kernel), List.mem_of_getElem? (i := 537) (by decide +kernel), List.mem_of_getElem? (i := 538) (by decide +kernel)⟩
theorem lw_p13 : lw_okq (⟨"AggregateSplitter", "runOf", "(I)LAggregateSplitter$Run;"⟩, 4) := ⟨⟨by decide +kernel, by decide +kernel⟩, List.mem_of_getElem? (i := 12) (by decide +kernel), List.mem_of_getElem? (i := 600) (by decide +kernel), List.mem_of_getElem? (i := 601) (by decide +kernel)⟩
theorem lw_p14 : lw_okq (⟨"AggregateSplitter$Run", "clear", "(Z)V"⟩, 11) := ⟨⟨by decide +kernel, by decide +kernel⟩, List.mem_of_getElem? (i := 221) (by decide +kernel), List.mem_of_getElem? (i := 608) (by decide +kernel), List.mem_of_getElem? (i := 609) (by decide +kernel)⟩
theorem lw_p15 : lw_okq (⟨"AggregateSplitter$Run", "perform", "(LAggregateSplitter$Instruction;I)V"⟩, 11) := ⟨⟨by decide +kernel, by decide +kernel⟩, List.mem_of_getElem? (i := 221) (by decide +kernel), List.mem_of_getElem? (i := 613) (by decide +kernel), List.mem_of_getElem? (i := 614) (by decide +kernel)⟩
def lw_privs_1 : List (MethodName × Nat) := [(⟨"AggregateSplitter", "isAccess", "(III)Z"⟩, 4), (⟨"AggregateSplitter", "append", "(LAggregateSplitter$Instruction;)I"⟩, 4), (⟨"AggregateSplitter", "layoutNow", "(I)LAggregateSplitter$Layout;"⟩, 4), (⟨"AggregateSplitter$Analysis", "collectRanges", "(LAggregateSplitter$Instruction;I)V"⟩, 4), (⟨"AggregateSplitter$Layout", "isByte", "(I)Z"⟩, 9), (⟨"AggregateSplitter$Layout", "isPadding", "(I)Z"⟩, 9), (⟨"AggregateSplitter$Layout", "beginsPartition", "(I)Z"⟩, 9), (⟨"AggregateSplitter$Analysis", "cutIntoPieces", "(LAggregateSplitter$Instruction;I)V"⟩, 4), (⟨"AggregateSplitter$Analysis", "beginsPiece", "(LAggregateSplitter$Instruction;I)Z"⟩, 4), (⟨"AggregateSplitter$Analysis", "touchPartitions", "(LAggregateSplitter$Instruction;I)V"⟩, 4), (⟨"AggregateSplitter$Analysis", "markLive", "(LAggregateSplitter$Program;)V"⟩, 4), (⟨"AggregateSplitter$Analysis", "passLifeToOrigins", "(LAggregateSplitter$Instruction;I)Z"⟩, 4), (⟨"AggregateSplitter", "partitionNow", "(II)LAggregateSplitter$Partition;"⟩, 4), (⟨"AggregateSplitter", "runOf", "(I)LAggregateSplitter$Run;"⟩, 4), (⟨"AggregateSplitter$Run", "clear", "(Z)V"⟩, 11), (⟨"AggregateSplitter$Run", "perform", "(LAggregateSplitter$Instruction;I)V"⟩, 11)]
theorem lw_r1 : ∀ q ∈ lw_privs_1, lw_okq q := List.forall_mem_cons.mpr ⟨lw_p0, List.forall_mem_cons.mpr ⟨lw_p1, List.forall_mem_cons.mpr ⟨lw_p2, List.forall_mem_cons.mpr ⟨lw_p3, List.forall_mem_cons.mpr ⟨lw_p4, List.forall_mem_cons.mpr ⟨lw_p5, List.forall_mem_cons.mpr ⟨lw_p6, List.forall_mem_cons.mpr ⟨lw_p7, List.forall_mem_cons.mpr ⟨lw_p8, List.forall_mem_cons.mpr ⟨lw_p9, List.forall_mem_cons.mpr ⟨lw_p10, List.forall_mem_cons.mpr ⟨lw_p11, List.forall_mem_cons.mpr ⟨lw_p12, List.forall_mem_cons.mpr ⟨lw_p13, List.forall_mem_cons.mpr ⟨lw_p14, List.forall_mem_cons.mpr ⟨lw_p15, fun _ h => absurd h List.not_mem_nil⟩⟩⟩⟩⟩⟩⟩⟩⟩⟩⟩⟩⟩⟩⟩⟩
theorem lw_p16 : lw_okq (⟨"AggregateSplitter$Run", "store", "(LAggregateSplitter$Instruction;)V"⟩, 11) := ⟨⟨by decide +kernel, by decide +kernel⟩, List.mem_of_getElem? (i := 221) (by decide +kernel), List.mem_of_getElem? (i := 617) (by decide +kernel), List.mem_of_getElem? (i := 618) (by decide +kernel)⟩
theorem lw_p17 : lw_okq (⟨"AggregateSplitter$Run", "priceOfAccess", "(LAggregateSplitter$Partition;)I"⟩, 11) := ⟨⟨by decide +kernel, by decide +kernel⟩, List.mem_of_getElem? (i := 221) (by decide +kernel), List.mem_of_getElem? (i := 622) (by decide +kernel), List.mem_of_getElem? (i := 623) (by decide +kernel)⟩
theorem lw_p18 : lw_okq (⟨"AggregateSplitter$Run", "load", "(LAggregateSplitter$Instruction;)V"⟩, 11) := ⟨⟨by decide +kernel, by decide +kernel⟩, List.mem_of_getElem? (i := 221) (by decide +kernel), List.mem_of_getElem? (i := 626) (by decide +kernel), List.mem_of_getElem? (i := 627) (by decide +kernel)⟩
theorem lw_p19 : lw_okq (⟨"AggregateSplitter$Run", "copyLivePieces", "(LAggregateSplitter$Instruction;[I)V"⟩, 11) := ⟨⟨by decide +kernel, by decide +kernel⟩, List.mem_of_getElem? (i := 221) (by decide +kernel), List.mem_of_getElem? (i := 630) (by decide +kernel), List.mem_of_getElem? (i := 631) (by decide +kernel)⟩
theorem lw_p20 : lw_okq (⟨"AggregateSplitter$Run", "moveBytes", "(LAggregateSplitter$Instruction;II)V"⟩, 11) := ⟨⟨by decide +kernel, by decide +kernel⟩, List.mem_of_getElem? (i := 221) (by decide +kernel), List.mem_of_getElem? (i := 634) (by decide +kernel), List.mem_of_getElem? (i := 635) (by decide +kernel)⟩
theorem lw_p21 : lw_okq (⟨"AggregateSplitter$Run", "copyWhole", "(LAggregateSplitter$Instruction;)V"⟩, 11) := ⟨⟨by decide +kernel, by decide +kernel⟩, List.mem_of_getElem? (i := 221) (by decide +kernel), List.mem_of_getElem? (i := 642) (by decide +kernel), List.mem_of_getElem? (i := 643) (by decide +kernel)⟩
theorem lw_p22 : lw_okq (⟨"AggregateSplitter$Run", "escape", "(I)V"⟩, 11) := ⟨⟨by decide +kernel, by decide +kernel⟩, List.mem_of_getElem? (i := 221) (by decide +kernel), List.mem_of_getElem? (i := 646) (by decide +kernel), List.mem_of_getElem? (i := 647) (by decide +kernel)⟩
theorem lw_p23 : lw_okq (⟨"AggregateSplitter$Run", "add", "(LAggregateSplitter$Instruction;I)V"⟩, 11) := ⟨⟨by decide +kernel, by decide +kernel⟩, List.mem_of_getElem? (i := 221) (by decide +kernel), List.mem_of_getElem? (i := 651) (by decide +kernel), List.mem_of_getElem? (i := 652) (by decide +kernel)⟩
theorem lw_p24 : lw_okq (⟨"AggregateSplitter$Run", "output", "(I)V"⟩, 11) := ⟨⟨by decide +kernel, by decide +kernel⟩, List.mem_of_getElem? (i := 221) (by decide +kernel), List.mem_of_getElem? (i := 655) (by decide +kernel), List.mem_of_getElem? (i := 656) (by decide +kernel)⟩
theorem lw_p25 : lw_okq (⟨"AggregateSplitterModel", "note", "()V"⟩, 16) := ⟨⟨by decide +kernel, by decide +kernel⟩, List.mem_of_getElem? (i := 682) (by decide +kernel), List.mem_of_getElem? (i := 744) (by decide +kernel), List.mem_of_getElem? (i := 745) (by decide +kernel)⟩
theorem lw_p26 : lw_okq (⟨"AggregateSplitterModel", "isRange", "(III)Z"⟩, 16) := ⟨⟨by decide +kernel, by decide +kernel⟩, List.mem_of_getElem? (i := 682) (by decide +kernel), List.mem_of_getElem? (i := 755) (by decide +kernel), List.mem_of_getElem? (i := 756) (by decide +kernel)⟩
theorem lw_p27 : lw_okq (⟨"AggregateSplitterModel", "isRecord", "(I)Z"⟩, 16) := ⟨⟨by decide +kernel, by decide +kernel⟩, List.mem_of_getElem? (i := 682) (by decide +kernel), List.mem_of_getElem? (i := 759) (by decide +kernel), List.mem_of_getElem? (i := 760) (by decide +kernel)⟩
theorem lw_p28 : lw_okq (⟨"AggregateSplitterModel", "append", "(IIIIII)I"⟩, 16) := ⟨⟨by decide +kernel, by decide +kernel⟩, List.mem_of_getElem? (i := 682) (by decide +kernel), List.mem_of_getElem? (i := 766) (by decide +kernel), List.mem_of_getElem? (i := 767) (by decide +kernel)⟩
theorem lw_p29 : lw_okq (⟨"AggregateSplitterModel", "doesEscape", "(I)Z"⟩, 16) := ⟨⟨by decide +kernel, by decide +kernel⟩, List.mem_of_getElem? (i := 682) (by decide +kernel), List.mem_of_getElem? (i := 818) (by decide +kernel), List.mem_of_getElem? (i := 819) (by decide +kernel)⟩
theorem lw_p30 : lw_okq (⟨"AggregateSplitterModel", "of", "(II)I"⟩, 16) := ⟨⟨by decide +kernel, by decide +kernel⟩, List.mem_of_getElem? (i := 682) (by decide +kernel), List.mem_of_getElem? (i := 822) (by decide +kernel), List.mem_of_getElem? (i := 823) (by decide +kernel)⟩
theorem lw_p31 : lw_okq (⟨"AggregateSplitterModel", "findParts", "(I)V"⟩, 16) := ⟨⟨by decide +kernel, by decide +kernel⟩, List.mem_of_getElem? (i := 682) (by decide +kernel), List.mem_of_getElem? (i := 830) (by decide +kernel), List.mem_of_getElem? (i := 831) (by decide +kernel)⟩
def lw_privs_2 : List (MethodName × Nat) := [(⟨"AggregateSplitter$Run", "store", "(LAggregateSplitter$Instruction;)V"⟩, 11), (⟨"AggregateSplitter$Run", "priceOfAccess", "(LAggregateSplitter$Partition;)I"⟩, 11), (⟨"AggregateSplitter$Run", "load", "(LAggregateSplitter$Instruction;)V"⟩, 11), (⟨"AggregateSplitter$Run", "copyLivePieces", "(LAggregateSplitter$Instruction;[I)V"⟩, 11), (⟨"AggregateSplitter$Run", "moveBytes", "(LAggregateSplitter$Instruction;II)V"⟩, 11), (⟨"AggregateSplitter$Run", "copyWhole", "(LAggregateSplitter$Instruction;)V"⟩, 11), (⟨"AggregateSplitter$Run", "escape", "(I)V"⟩, 11), (⟨"AggregateSplitter$Run", "add", "(LAggregateSplitter$Instruction;I)V"⟩, 11), (⟨"AggregateSplitter$Run", "output", "(I)V"⟩, 11), (⟨"AggregateSplitterModel", "note", "()V"⟩, 16), (⟨"AggregateSplitterModel", "isRange", "(III)Z"⟩, 16), (⟨"AggregateSplitterModel", "isRecord", "(I)Z"⟩, 16), (⟨"AggregateSplitterModel", "append", "(IIIIII)I"⟩, 16), (⟨"AggregateSplitterModel", "doesEscape", "(I)Z"⟩, 16), (⟨"AggregateSplitterModel", "of", "(II)I"⟩, 16), (⟨"AggregateSplitterModel", "findParts", "(I)V"⟩, 16)]
theorem lw_r2 : ∀ q ∈ lw_privs_2, lw_okq q := List.forall_mem_cons.mpr ⟨lw_p16, List.forall_mem_cons.mpr ⟨lw_p17, List.forall_mem_cons.mpr ⟨lw_p18, List.forall_mem_cons.mpr ⟨lw_p19, List.forall_mem_cons.mpr ⟨lw_p20, List.forall_mem_cons.mpr ⟨lw_p21, List.forall_mem_cons.mpr ⟨lw_p22, List.forall_mem_cons.mpr ⟨lw_p23, List.forall_mem_cons.mpr ⟨lw_p24, List.forall_mem_cons.mpr ⟨lw_p25, List.forall_mem_cons.mpr ⟨lw_p26, List.forall_mem_cons.mpr ⟨lw_p27, List.forall_mem_cons.mpr ⟨lw_p28, List.forall_mem_cons.mpr ⟨lw_p29, List.forall_mem_cons.mpr ⟨lw_p30, List.forall_mem_cons.mpr ⟨lw_p31, fun _ h => absurd h List.not_mem_nil⟩⟩⟩⟩⟩⟩⟩⟩⟩⟩⟩⟩⟩⟩⟩⟩
theorem lw_p32 : lw_okq (⟨"AggregateSplitterModel", "isParted", "(II)Z"⟩, 16) := ⟨⟨by decide +kernel, by decide +kernel⟩, List.mem_of_getElem? (i := 682) (by decide +kernel), List.mem_of_getElem? (i := 834) (by decide +kernel), List.mem_of_getElem? (i := 835) (by decide +kernel)⟩
theorem lw_p33 : lw_okq (⟨"AggregateSplitterModel", "isAccessed", "(IIZ)Z"⟩, 16) := ⟨⟨by decide +kernel, by decide +kernel⟩, List.mem_of_getElem? (i := 682) (by decide +kernel), List.mem_of_getElem? (i := 838) (by decide +kernel), List.mem_of_getElem? (i := 839) (by decide +kernel)⟩
theorem lw_p34 : lw_okq (⟨"AggregateSplitterModel", "isAccess", "(I)Z"⟩, 16) := ⟨⟨by decide +kernel, by decide +kernel⟩, List.mem_of_getElem? (i := 682) (by decide +kernel), List.mem_of_getElem? (i := 842) (by decide +kernel), List.mem_of_getElem? (i := 843) (by decide +kernel)⟩
theorem lw_p35 : lw_okq (⟨"AggregateSplitterModel", "isSoft", "(II)Z"⟩, 16) := ⟨⟨by decide +kernel, by decide +kernel⟩, List.mem_of_getElem? (i := 682) (by decide +kernel), List.mem_of_getElem? (i := 849) (by decide +kernel), List.mem_of_getElem? (i := 850) (by decide +kernel)⟩
theorem lw_p36 : lw_okq (⟨"AggregateSplitterModel", "isCopied", "(IIII)Z"⟩, 16) := ⟨⟨by decide +kernel, by decide +kernel⟩, List.mem_of_getElem? (i := 682) (by decide +kernel), List.mem_of_getElem? (i := 853) (by decide +kernel), List.mem_of_getElem? (i := 854) (by decide +kernel)⟩
theorem lw_p37 : lw_okq (⟨"AggregateSplitterModel", "goesOn", "(II)Z"⟩, 16) := ⟨⟨by decide +kernel, by decide +kernel⟩, List.mem_of_getElem? (i := 682) (by decide +kernel), List.mem_of_getElem? (i := 857) (by decide +kernel), List.mem_of_getElem? (i := 858) (by decide +kernel)⟩
theorem lw_p38 : lw_okq (⟨"AggregateSplitterModel", "areCopiedAlike", "(II)Z"⟩, 16) := ⟨⟨by decide +kernel, by decide +kernel⟩, List.mem_of_getElem? (i := 682) (by decide +kernel), List.mem_of_getElem? (i := 861) (by decide +kernel), List.mem_of_getElem? (i := 862) (by decide +kernel)⟩
theorem lw_p39 : lw_okq (⟨"AggregateSplitterModel", "isPart", "(II)Z"⟩, 16) := ⟨⟨by decide +kernel, by decide +kernel⟩, List.mem_of_getElem? (i := 682) (by decide +kernel), List.mem_of_getElem? (i := 869) (by decide +kernel), List.mem_of_getElem? (i := 870) (by decide +kernel)⟩
theorem lw_p40 : lw_okq (⟨"AggregateSplitterModel", "analyse", "()V"⟩, 16) := ⟨⟨by decide +kernel, by decide +kernel⟩, List.mem_of_getElem? (i := 682) (by decide +kernel), List.mem_of_getElem? (i := 873) (by decide +kernel), List.mem_of_getElem? (i := 874) (by decide +kernel)⟩
theorem lw_p41 : lw_okq (⟨"AggregateSplitterModel", "findAllParts", "()V"⟩, 16) := ⟨⟨by decide +kernel, by decide +kernel⟩, List.mem_of_getElem? (i := 682) (by decide +kernel), List.mem_of_getElem? (i := 877) (by decide +kernel), List.mem_of_getElem? (i := 878) (by decide +kernel)⟩
theorem lw_p42 : lw_okq (⟨"AggregateSplitterModel", "findPromotable", "()V"⟩, 16) := ⟨⟨by decide +kernel, by decide +kernel⟩, List.mem_of_getElem? (i := 682) (by decide +kernel), List.mem_of_getElem? (i := 881) (by decide +kernel), List.mem_of_getElem? (i := 882) (by decide +kernel)⟩
theorem lw_p43 : lw_okq (⟨"AggregateSplitterModel", "restrict", "(III)V"⟩, 16) := ⟨⟨by decide +kernel, by decide +kernel⟩, List.mem_of_getElem? (i := 682) (by decide +kernel), List.mem_of_getElem? (i := 885) (by decide +kernel), List.mem_of_getElem? (i := 886) (by decide +kernel)⟩
theorem lw_p44 : lw_okq (⟨"AggregateSplitterModel", "placeOf", "(II)I"⟩, 16) := ⟨⟨by decide +kernel, by decide +kernel⟩, List.mem_of_getElem? (i := 682) (by decide +kernel), List.mem_of_getElem? (i := 889) (by decide +kernel), List.mem_of_getElem? (i := 890) (by decide +kernel)⟩
theorem lw_p45 : lw_okq (⟨"AggregateSplitterModel", "restrictPieces", "(I)V"⟩, 16) := ⟨⟨by decide +kernel, by decide +kernel⟩, List.mem_of_getElem? (i := 682) (by decide +kernel), List.mem_of_getElem? (i := 893) (by decide +kernel), List.mem_of_getElem? (i := 894) (by decide +kernel)⟩
theorem lw_p46 : lw_okq (⟨"AggregateSplitterModel", "pieceAt", "(II)I"⟩, 16) := ⟨⟨by decide +kernel, by decide +kernel⟩, List.mem_of_getElem? (i := 682) (by decide +kernel), List.mem_of_getElem? (i := 897) (by decide +kernel), List.mem_of_getElem? (i := 898) (by decide +kernel)⟩
theorem lw_p47 : lw_okq (⟨"AggregateSplitterModel", "beginsAt", "(II)Z"⟩, 16) := ⟨⟨by decide +kernel, by decide +kernel⟩, List.mem_of_getElem? (i := 682) (by decide +kernel), List.mem_of_getElem? (i := 901) (by decide +kernel), List.mem_of_getElem? (i := 902) (by decide +kernel)⟩
def lw_privs_3 : List (MethodName × Nat) := [(⟨"AggregateSplitterModel", "isParted", "(II)Z"⟩, 16), (⟨"AggregateSplitterModel", "isAccessed", "(IIZ)Z"⟩, 16), (⟨"AggregateSplitterModel", "isAccess", "(I)Z"⟩, 16), (⟨"AggregateSplitterModel", "isSoft", "(II)Z"⟩, 16), (⟨"AggregateSplitterModel", "isCopied", "(IIII)Z"⟩, 16), (⟨"AggregateSplitterModel", "goesOn", "(II)Z"⟩, 16), (⟨"AggregateSplitterModel", "areCopiedAlike", "(II)Z"⟩, 16), (⟨"AggregateSplitterModel", "isPart", "(II)Z"⟩, 16), (⟨"AggregateSplitterModel", "analyse", "()V"⟩, 16), (⟨"AggregateSplitterModel", "findAllParts", "()V"⟩, 16), (⟨"AggregateSplitterModel", "findPromotable", "()V"⟩, 16), (⟨"AggregateSplitterModel", "restrict", "(III)V"⟩, 16), (⟨"AggregateSplitterModel", "placeOf", "(II)I"⟩, 16), (⟨"AggregateSplitterModel", "restrictPieces", "(I)V"⟩, 16), (⟨"AggregateSplitterModel", "pieceAt", "(II)I"⟩, 16), (⟨"AggregateSplitterModel", "beginsAt", "(II)Z"⟩, 16)]
theorem lw_r3 : ∀ q ∈ lw_privs_3, lw_okq q := List.forall_mem_cons.mpr ⟨lw_p32, List.forall_mem_cons.mpr ⟨lw_p33, List.forall_mem_cons.mpr ⟨lw_p34, List.forall_mem_cons.mpr ⟨lw_p35, List.forall_mem_cons.mpr ⟨lw_p36, List.forall_mem_cons.mpr ⟨lw_p37, List.forall_mem_cons.mpr ⟨lw_p38, List.forall_mem_cons.mpr ⟨lw_p39, List.forall_mem_cons.mpr ⟨lw_p40, List.forall_mem_cons.mpr ⟨lw_p41, List.forall_mem_cons.mpr ⟨lw_p42, List.forall_mem_cons.mpr ⟨lw_p43, List.forall_mem_cons.mpr ⟨lw_p44, List.forall_mem_cons.mpr ⟨lw_p45, List.forall_mem_cons.mpr ⟨lw_p46, List.forall_mem_cons.mpr ⟨lw_p47, fun _ h => absurd h List.not_mem_nil⟩⟩⟩⟩⟩⟩⟩⟩⟩⟩⟩⟩⟩⟩⟩⟩
theorem lw_p48 : lw_okq (⟨"AggregateSplitterModel", "findLive", "()V"⟩, 16) := ⟨⟨by decide +kernel, by decide +kernel⟩, List.mem_of_getElem? (i := 682) (by decide +kernel), List.mem_of_getElem? (i := 905) (by decide +kernel), List.mem_of_getElem? (i := 906) (by decide +kernel)⟩
theorem lw_p49 : lw_okq (⟨"AggregateSplitterModel", "enliven", "(I)Z"⟩, 16) := ⟨⟨by decide +kernel, by decide +kernel⟩, List.mem_of_getElem? (i := 682) (by decide +kernel), List.mem_of_getElem? (i := 909) (by decide +kernel), List.mem_of_getElem? (i := 910) (by decide +kernel)⟩
theorem lw_p50 : lw_okq (⟨"AggregateSplitterModel", "isCopy", "(I)Z"⟩, 16) := ⟨⟨by decide +kernel, by decide +kernel⟩, List.mem_of_getElem? (i := 682) (by decide +kernel), List.mem_of_getElem? (i := 933) (by decide +kernel), List.mem_of_getElem? (i := 934) (by decide +kernel)⟩
theorem lw_p51 : lw_okq (⟨"AggregateSplitterModel", "runs", "(Z)V"⟩, 16) := ⟨⟨by decide +kernel, by decide +kernel⟩, List.mem_of_getElem? (i := 682) (by decide +kernel), List.mem_of_getElem? (i := 953) (by decide +kernel), List.mem_of_getElem? (i := 954) (by decide +kernel)⟩
theorem lw_p52 : lw_okq (⟨"AggregateSplitterModel", "executes", "(IZ)I"⟩, 16) := ⟨⟨by decide +kernel, by decide +kernel⟩, List.mem_of_getElem? (i := 682) (by decide +kernel), List.mem_of_getElem? (i := 957) (by decide +kernel), List.mem_of_getElem? (i := 958) (by decide +kernel)⟩
theorem lw_p53 : lw_okq (⟨"AggregateSplitterModel", "access", "(IZ)V"⟩, 16) := ⟨⟨by decide +kernel, by decide +kernel⟩, List.mem_of_getElem? (i := 682) (by decide +kernel), List.mem_of_getElem? (i := 961) (by decide +kernel), List.mem_of_getElem? (i := 962) (by decide +kernel)⟩
theorem lw_p54 : lw_okq (⟨"AggregateSplitterModel", "load", "(I)V"⟩, 16) := ⟨⟨by decide +kernel, by decide +kernel⟩, List.mem_of_getElem? (i := 682) (by decide +kernel), List.mem_of_getElem? (i := 965) (by decide +kernel), List.mem_of_getElem? (i := 966) (by decide +kernel)⟩
theorem lw_p55 : lw_okq (⟨"AggregateSplitterModel", "store", "(I)V"⟩, 16) := ⟨⟨by decide +kernel, by decide +kernel⟩, List.mem_of_getElem? (i := 682) (by decide +kernel), List.mem_of_getElem? (i := 969) (by decide +kernel), List.mem_of_getElem? (i := 970) (by decide +kernel)⟩
theorem lw_p56 : lw_okq (⟨"AggregateSplitterModel", "copyPieces", "(I)V"⟩, 16) := ⟨⟨by decide +kernel, by decide +kernel⟩, List.mem_of_getElem? (i := 682) (by decide +kernel), List.mem_of_getElem? (i := 973) (by decide +kernel), List.mem_of_getElem? (i := 974) (by decide +kernel)⟩
theorem lw_p57 : lw_okq (⟨"AggregateSplitterModel", "copyBytes", "(III)V"⟩, 16) := ⟨⟨by decide +kernel, by decide +kernel⟩, List.mem_of_getElem? (i := 682) (by decide +kernel), List.mem_of_getElem? (i := 977) (by decide +kernel), List.mem_of_getElem? (i := 978) (by decide +kernel)⟩
theorem lw_p58 : lw_okq (⟨"AggregateSplitterModel", "escape", "(I)V"⟩, 16) := ⟨⟨by decide +kernel, by decide +kernel⟩, List.mem_of_getElem? (i := 682) (by decide +kernel), List.mem_of_getElem? (i := 981) (by decide +kernel), List.mem_of_getElem? (i := 982) (by decide +kernel)⟩
theorem lw_p59 : lw_okq (⟨"AggregateSplitterModel", "adds", "(I)Z"⟩, 16) := ⟨⟨by decide +kernel, by decide +kernel⟩, List.mem_of_getElem? (i := 682) (by decide +kernel), List.mem_of_getElem? (i := 985) (by decide +kernel), List.mem_of_getElem? (i := 986) (by decide +kernel)⟩
def lw_privs_4 : List (MethodName × Nat) := [(⟨"AggregateSplitterModel", "findLive", "()V"⟩, 16), (⟨"AggregateSplitterModel", "enliven", "(I)Z"⟩, 16), (⟨"AggregateSplitterModel", "isCopy", "(I)Z"⟩, 16), (⟨"AggregateSplitterModel", "runs", "(Z)V"⟩, 16), (⟨"AggregateSplitterModel", "executes", "(IZ)I"⟩, 16), (⟨"AggregateSplitterModel", "access", "(IZ)V"⟩, 16), (⟨"AggregateSplitterModel", "load", "(I)V"⟩, 16), (⟨"AggregateSplitterModel", "store", "(I)V"⟩, 16), (⟨"AggregateSplitterModel", "copyPieces", "(I)V"⟩, 16), (⟨"AggregateSplitterModel", "copyBytes", "(III)V"⟩, 16), (⟨"AggregateSplitterModel", "escape", "(I)V"⟩, 16), (⟨"AggregateSplitterModel", "adds", "(I)Z"⟩, 16)]
theorem lw_r4 : ∀ q ∈ lw_privs_4, lw_okq q := List.forall_mem_cons.mpr ⟨lw_p48, List.forall_mem_cons.mpr ⟨lw_p49, List.forall_mem_cons.mpr ⟨lw_p50, List.forall_mem_cons.mpr ⟨lw_p51, List.forall_mem_cons.mpr ⟨lw_p52, List.forall_mem_cons.mpr ⟨lw_p53, List.forall_mem_cons.mpr ⟨lw_p54, List.forall_mem_cons.mpr ⟨lw_p55, List.forall_mem_cons.mpr ⟨lw_p56, List.forall_mem_cons.mpr ⟨lw_p57, List.forall_mem_cons.mpr ⟨lw_p58, List.forall_mem_cons.mpr ⟨lw_p59, fun _ h => absurd h List.not_mem_nil⟩⟩⟩⟩⟩⟩⟩⟩⟩⟩⟩⟩
def lw_privs : List (MethodName × Nat) := lw_privs_1 ++ (lw_privs_2 ++ (lw_privs_3 ++ (lw_privs_4)))
def lw_tbl : List Cond := k2_sels lw_privs ++ tables_1
theorem lw_privs_ok : ∀ q ∈ lw_privs, lw_okq q := by
  show ∀ q ∈ lw_privs_1 ++ (lw_privs_2 ++ (lw_privs_3 ++ (lw_privs_4))), lw_okq q
  exact List.forall_mem_append.mpr ⟨lw_r1, List.forall_mem_append.mpr ⟨lw_r2, List.forall_mem_append.mpr ⟨lw_r3, lw_r4⟩⟩⟩
end
section
def RX0 : String := "AggregateSplitter$Analysis"
def TX0 : u_T := fun k => match k with
  | 0 => ("AggregateSplitter$Analysis", "layouts", "[LAggregateSplitter$Layout;", true)
  | 1 => ("AggregateSplitter$Analysis", "noLayout", "LAggregateSplitter$Layout;", true)
  | 2 => ("AggregateSplitter$Analysis", "pieces", "[[I", true)
  | _ => ("AggregateSplitter$Analysis", "stale", "Z", false)
def tyX0 : Nat → FieldType := fun k => match k with
  | 0 => .array (.object "AggregateSplitter$Layout")
  | 1 => .object "AggregateSplitter$Layout"
  | 2 => .array (.array .int)
  | _ => .boolean
abbrev wsX00 : List Cond := u_ws RX0 TX0 4
theorem nmX0 : ∀ a, a < 4 → ∀ b, b < 4 → a ≠ b → (TX0 a).2.1 ≠ (TX0 b).2.1 := by decide +kernel
theorem tyX0_ok : ∀ k, k < 4 → parseFieldDescriptor (TX0 k).2.2.1 = some (tyX0 k) := by decide +kernel
abbrev cX0_init : ByteArray := prog_2_method_1_code
def yX0_init : MethodName := ⟨RX0, "<init>", "()V"⟩
abbrev cX0_layoutOf : ByteArray := prog_2_method_2_code
def yX0_layoutOf : MethodName := ⟨RX0, "layoutOf", "(I)LAggregateSplitter$Layout;"⟩
abbrev cX0_refresh : ByteArray := prog_2_method_3_code
def yX0_refresh : MethodName := ⟨RX0, "refresh", "(LAggregateSplitter$Program;)V"⟩
abbrev cX0_collectRanges : ByteArray := prog_2_method_4_code
def yX0_collectRanges : MethodName := ⟨RX0, "collectRanges", "(LAggregateSplitter$Instruction;I)V"⟩
abbrev cX0_cutIntoPieces : ByteArray := prog_2_method_5_code
def yX0_cutIntoPieces : MethodName := ⟨RX0, "cutIntoPieces", "(LAggregateSplitter$Instruction;I)V"⟩
abbrev cX0_beginsPiece : ByteArray := prog_2_method_6_code
def yX0_beginsPiece : MethodName := ⟨RX0, "beginsPiece", "(LAggregateSplitter$Instruction;I)Z"⟩
abbrev cX0_touchPartitions : ByteArray := prog_2_method_7_code
def yX0_touchPartitions : MethodName := ⟨RX0, "touchPartitions", "(LAggregateSplitter$Instruction;I)V"⟩
abbrev cX0_markLive : ByteArray := prog_2_method_8_code
def yX0_markLive : MethodName := ⟨RX0, "markLive", "(LAggregateSplitter$Program;)V"⟩
abbrev cX0_passLifeToOrigins : ByteArray := prog_2_method_9_code
def yX0_passLifeToOrigins : MethodName := ⟨RX0, "passLifeToOrigins", "(LAggregateSplitter$Instruction;I)Z"⟩
abbrev cX0_target : ByteArray := prog_2_method_10_code
def yX0_target : MethodName := ⟨RX0, "target", "(LAggregateSplitter$Instruction;I)LAggregateSplitter$Partition;"⟩
abbrev cX0_origin : ByteArray := prog_2_method_11_code
def yX0_origin : MethodName := ⟨RX0, "origin", "(LAggregateSplitter$Instruction;I)LAggregateSplitter$Partition;"⟩
abbrev cX0_countPieces : ByteArray := prog_2_method_12_code
def yX0_countPieces : MethodName := ⟨RX0, "countPieces", "(I)I"⟩
abbrev cX0_lengthOfPiece : ByteArray := prog_2_method_13_code
def yX0_lengthOfPiece : MethodName := ⟨RX0, "lengthOfPiece", "(II)I"⟩
def RX1 : String := "AggregateSplitter$History"
def TX1 : u_T := fun k => match k with
  | 0 => ("AggregateSplitter$History", "kinds", "[I", true)
  | 1 => ("AggregateSplitter$History", "positions", "[I", true)
  | 2 => ("AggregateSplitter$History", "subjects", "[LAggregateSplitter$Instruction;", true)
  | 3 => ("AggregateSplitter$History", "next", "I", false)
  | _ => ("AggregateSplitter$History", "kept", "I", false)
def tyX1 : Nat → FieldType := fun k => match k with
  | 0 => .array .int
  | 1 => .array .int
  | 2 => .array (.object "AggregateSplitter$Instruction")
  | 3 => .int
  | _ => .int
abbrev wsX10 : List Cond := u_ws RX1 TX1 5
theorem nmX1 : ∀ a, a < 5 → ∀ b, b < 5 → a ≠ b → (TX1 a).2.1 ≠ (TX1 b).2.1 := by decide +kernel
theorem tyX1_ok : ∀ k, k < 5 → parseFieldDescriptor (TX1 k).2.2.1 = some (tyX1 k) := by decide +kernel
abbrev cX1_init : ByteArray := prog_3_method_1_code
def yX1_init : MethodName := ⟨RX1, "<init>", "()V"⟩
abbrev cX1_note : ByteArray := prog_3_method_2_code
def yX1_note : MethodName := ⟨RX1, "note", "(IILAggregateSplitter$Instruction;)V"⟩
abbrev cX1_takeBack : ByteArray := prog_3_method_3_code
def yX1_takeBack : MethodName := ⟨RX1, "takeBack", "(LAggregateSplitter$Program;)V"⟩
def RX2 : String := "AggregateSplitter$Instruction"
def TX2 : u_T := fun k => match k with
  | 0 => ("AggregateSplitter$Instruction", "kind", "I", true)
  | 1 => ("AggregateSplitter$Instruction", "register", "I", false)
  | 2 => ("AggregateSplitter$Instruction", "record", "I", false)
  | 3 => ("AggregateSplitter$Instruction", "offset", "I", false)
  | 4 => ("AggregateSplitter$Instruction", "length", "I", false)
  | 5 => ("AggregateSplitter$Instruction", "source", "I", false)
  | 6 => ("AggregateSplitter$Instruction", "sourceOffset", "I", false)
  | 7 => ("AggregateSplitter$Instruction", "first", "I", false)
  | 8 => ("AggregateSplitter$Instruction", "second", "I", false)
  | _ => ("AggregateSplitter$Instruction", "number", "I", false)
def tyX2 : Nat → FieldType := fun k => match k with
  | 0 => .int
  | 1 => .int
  | 2 => .int
  | 3 => .int
  | 4 => .int
  | 5 => .int
  | 6 => .int
  | 7 => .int
  | 8 => .int
  | _ => .int
abbrev wsX20 : List Cond := u_ws RX2 TX2 10
theorem nmX2 : ∀ a, a < 10 → ∀ b, b < 10 → a ≠ b → (TX2 a).2.1 ≠ (TX2 b).2.1 := by decide +kernel
theorem tyX2_ok : ∀ k, k < 10 → parseFieldDescriptor (TX2 k).2.2.1 = some (tyX2 k) := by decide +kernel
abbrev cX2_init : ByteArray := prog_4_method_1_code
def yX2_init : MethodName := ⟨RX2, "<init>", "(I)V"⟩
abbrev cX2_ofAccess : ByteArray := prog_4_method_2_code
def yX2_ofAccess : MethodName := ⟨RX2, "ofAccess", "(IIIII)LAggregateSplitter$Instruction;"⟩
abbrev cX2_ofCopy : ByteArray := prog_4_method_3_code
def yX2_ofCopy : MethodName := ⟨RX2, "ofCopy", "(IIIII)LAggregateSplitter$Instruction;"⟩
abbrev cX2_ofEscape : ByteArray := prog_4_method_4_code
def yX2_ofEscape : MethodName := ⟨RX2, "ofEscape", "(I)LAggregateSplitter$Instruction;"⟩
abbrev cX2_ofAdd : ByteArray := prog_4_method_5_code
def yX2_ofAdd : MethodName := ⟨RX2, "ofAdd", "(III)LAggregateSplitter$Instruction;"⟩
abbrev cX2_ofNumber : ByteArray := prog_4_method_6_code
def yX2_ofNumber : MethodName := ⟨RX2, "ofNumber", "(III)LAggregateSplitter$Instruction;"⟩
abbrev cX2_isLoadOrStore : ByteArray := prog_4_method_7_code
def yX2_isLoadOrStore : MethodName := ⟨RX2, "isLoadOrStore", "()Z"⟩
def RX3 : String := "AggregateSplitter$Layout"
def TX3 : u_T := fun k => match k with
  | 0 => ("AggregateSplitter$Layout", "partitions", "[LAggregateSplitter$Partition;", true)
  | 1 => ("AggregateSplitter$Layout", "noPartition", "LAggregateSplitter$Partition;", true)
  | 2 => ("AggregateSplitter$Layout", "holders", "[LAggregateSplitter$Partition;", true)
  | 3 => ("AggregateSplitter$Layout", "accessed", "[Z", true)
  | 4 => ("AggregateSplitter$Layout", "joined", "[Z", true)
  | 5 => ("AggregateSplitter$Layout", "copyRanges", "[J", true)
  | 6 => ("AggregateSplitter$Layout", "size", "I", false)
  | 7 => ("AggregateSplitter$Layout", "count", "I", false)
  | _ => ("AggregateSplitter$Layout", "escaped", "Z", false)
def tyX3 : Nat → FieldType := fun k => match k with
  | 0 => .array (.object "AggregateSplitter$Partition")
  | 1 => .object "AggregateSplitter$Partition"
  | 2 => .array (.object "AggregateSplitter$Partition")
  | 3 => .array .boolean
  | 4 => .array .boolean
  | 5 => .array .long
  | 6 => .int
  | 7 => .int
  | _ => .boolean
abbrev wsX30 : List Cond := u_ws RX3 TX3 9
theorem nmX3 : ∀ a, a < 9 → ∀ b, b < 9 → a ≠ b → (TX3 a).2.1 ≠ (TX3 b).2.1 := by decide +kernel
theorem tyX3_ok : ∀ k, k < 9 → parseFieldDescriptor (TX3 k).2.2.1 = some (tyX3 k) := by decide +kernel
abbrev cX3_init : ByteArray := prog_5_method_1_code
def yX3_init : MethodName := ⟨RX3, "<init>", "()V"⟩
abbrev cX3_clear : ByteArray := prog_5_method_2_code
def yX3_clear : MethodName := ⟨RX3, "clear", "(I)V"⟩
abbrev cX3_addAccess : ByteArray := prog_5_method_3_code
def yX3_addAccess : MethodName := ⟨RX3, "addAccess", "(II)V"⟩
abbrev cX3_addCopyRange : ByteArray := prog_5_method_4_code
def yX3_addCopyRange : MethodName := ⟨RX3, "addCopyRange", "(IIJ)V"⟩
abbrev cX3_formPartitions : ByteArray := prog_5_method_5_code
def yX3_formPartitions : MethodName := ⟨RX3, "formPartitions", "()V"⟩
abbrev cX3_isByte : ByteArray := prog_5_method_6_code
def yX3_isByte : MethodName := ⟨RX3, "isByte", "(I)Z"⟩
abbrev cX3_isPadding : ByteArray := prog_5_method_7_code
def yX3_isPadding : MethodName := ⟨RX3, "isPadding", "(I)Z"⟩
abbrev cX3_beginsPartition : ByteArray := prog_5_method_8_code
def yX3_beginsPartition : MethodName := ⟨RX3, "beginsPartition", "(I)Z"⟩
abbrev cX3_numbered : ByteArray := prog_5_method_9_code
def yX3_numbered : MethodName := ⟨RX3, "numbered", "(I)LAggregateSplitter$Partition;"⟩
abbrev cX3_holding : ByteArray := prog_5_method_10_code
def yX3_holding : MethodName := ⟨RX3, "holding", "(I)LAggregateSplitter$Partition;"⟩
abbrev cX3_isStart : ByteArray := prog_5_method_11_code
def yX3_isStart : MethodName := ⟨RX3, "isStart", "(I)Z"⟩
abbrev cX3_countPadding : ByteArray := prog_5_method_12_code
def yX3_countPadding : MethodName := ⟨RX3, "countPadding", "()I"⟩
abbrev cX3_countScalars : ByteArray := prog_5_method_13_code
def yX3_countScalars : MethodName := ⟨RX3, "countScalars", "()I"⟩
abbrev cX3_countLiveBytes : ByteArray := prog_5_method_14_code
def yX3_countLiveBytes : MethodName := ⟨RX3, "countLiveBytes", "()I"⟩
def RX4 : String := "AggregateSplitter$Partition"
def TX4 : u_T := fun k => match k with
  | 0 => ("AggregateSplitter$Partition", "start", "I", false)
  | 1 => ("AggregateSplitter$Partition", "length", "I", false)
  | 2 => ("AggregateSplitter$Partition", "promotable", "Z", false)
  | _ => ("AggregateSplitter$Partition", "live", "Z", false)
def tyX4 : Nat → FieldType := fun k => match k with
  | 0 => .int
  | 1 => .int
  | 2 => .boolean
  | _ => .boolean
abbrev wsX40 : List Cond := u_ws RX4 TX4 4
theorem nmX4 : ∀ a, a < 4 → ∀ b, b < 4 → a ≠ b → (TX4 a).2.1 ≠ (TX4 b).2.1 := by decide +kernel
theorem tyX4_ok : ∀ k, k < 4 → parseFieldDescriptor (TX4 k).2.2.1 = some (tyX4 k) := by decide +kernel
abbrev cX4_init : ByteArray := prog_6_method_1_code
def yX4_init : MethodName := ⟨RX4, "<init>", "()V"⟩
abbrev cX4_beginAt : ByteArray := prog_6_method_2_code
def yX4_beginAt : MethodName := ⟨RX4, "beginAt", "(IZ)V"⟩
abbrev cX4_grow : ByteArray := prog_6_method_3_code
def yX4_grow : MethodName := ⟨RX4, "grow", "(Z)V"⟩
abbrev cX4_touchWith : ByteArray := prog_6_method_4_code
def yX4_touchWith : MethodName := ⟨RX4, "touchWith", "(I)V"⟩
def RX5 : String := "AggregateSplitter$Program"
def TX5 : u_T := fun k => match k with
  | 0 => ("AggregateSplitter$Program", "sizes", "[I", true)
  | 1 => ("AggregateSplitter$Program", "list", "[LAggregateSplitter$Instruction;", true)
  | 2 => ("AggregateSplitter$Program", "nothing", "LAggregateSplitter$Instruction;", true)
  | 3 => ("AggregateSplitter$Program", "records", "I", false)
  | _ => ("AggregateSplitter$Program", "instructions", "I", false)
def tyX5 : Nat → FieldType := fun k => match k with
  | 0 => .array .int
  | 1 => .array (.object "AggregateSplitter$Instruction")
  | 2 => .object "AggregateSplitter$Instruction"
  | 3 => .int
  | _ => .int
abbrev wsX50 : List Cond := u_ws RX5 TX5 5
theorem nmX5 : ∀ a, a < 5 → ∀ b, b < 5 → a ≠ b → (TX5 a).2.1 ≠ (TX5 b).2.1 := by decide +kernel
theorem tyX5_ok : ∀ k, k < 5 → parseFieldDescriptor (TX5 k).2.2.1 = some (tyX5 k) := by decide +kernel
abbrev cX5_init : ByteArray := prog_7_method_1_code
def yX5_init : MethodName := ⟨RX5, "<init>", "()V"⟩
abbrev cX5_hasRecord : ByteArray := prog_7_method_2_code
def yX5_hasRecord : MethodName := ⟨RX5, "hasRecord", "(I)Z"⟩
abbrev cX5_hasInstruction : ByteArray := prog_7_method_3_code
def yX5_hasInstruction : MethodName := ⟨RX5, "hasInstruction", "(I)Z"⟩
abbrev cX5_sizeOf : ByteArray := prog_7_method_4_code
def yX5_sizeOf : MethodName := ⟨RX5, "sizeOf", "(I)I"⟩
abbrev cX5_holdsRange : ByteArray := prog_7_method_5_code
def yX5_holdsRange : MethodName := ⟨RX5, "holdsRange", "(III)Z"⟩
abbrev cX5_at : ByteArray := prog_7_method_6_code
def yX5_at : MethodName := ⟨RX5, "at", "(I)LAggregateSplitter$Instruction;"⟩
abbrev cX5_addRecord : ByteArray := prog_7_method_7_code
def yX5_addRecord : MethodName := ⟨RX5, "addRecord", "(I)V"⟩
abbrev cX5_dropRecord : ByteArray := prog_7_method_8_code
def yX5_dropRecord : MethodName := ⟨RX5, "dropRecord", "()V"⟩
abbrev cX5_insert : ByteArray := prog_7_method_9_code
def yX5_insert : MethodName := ⟨RX5, "insert", "(ILAggregateSplitter$Instruction;)V"⟩
abbrev cX5_delete : ByteArray := prog_7_method_10_code
def yX5_delete : MethodName := ⟨RX5, "delete", "(I)V"⟩
def RX6 : String := "AggregateSplitter$Run"
def TX6 : u_T := fun k => match k with
  | 0 => ("AggregateSplitter$Run", "program", "LAggregateSplitter$Program;", true)
  | 1 => ("AggregateSplitter$Run", "analysis", "LAggregateSplitter$Analysis;", true)
  | 2 => ("AggregateSplitter$Run", "registers", "[I", true)
  | 3 => ("AggregateSplitter$Run", "bytes", "[[I", true)
  | 4 => ("AggregateSplitter$Run", "outputs", "[I", true)
  | 5 => ("AggregateSplitter$Run", "transformed", "Z", false)
  | 6 => ("AggregateSplitter$Run", "outputTotal", "I", false)
  | 7 => ("AggregateSplitter$Run", "sum", "I", false)
  | 8 => ("AggregateSplitter$Run", "price", "I", false)
  | 9 => ("AggregateSplitter$Run", "trap", "I", false)
  | _ => ("AggregateSplitter$Run", "resume", "I", false)
def tyX6 : Nat → FieldType := fun k => match k with
  | 0 => .object "AggregateSplitter$Program"
  | 1 => .object "AggregateSplitter$Analysis"
  | 2 => .array .int
  | 3 => .array (.array .int)
  | 4 => .array .int
  | 5 => .boolean
  | 6 => .int
  | 7 => .int
  | 8 => .int
  | 9 => .int
  | _ => .int
abbrev wsX60 : List Cond := u_ws RX6 TX6 11
theorem nmX6 : ∀ a, a < 11 → ∀ b, b < 11 → a ≠ b → (TX6 a).2.1 ≠ (TX6 b).2.1 := by decide +kernel
theorem tyX6_ok : ∀ k, k < 11 → parseFieldDescriptor (TX6 k).2.2.1 = some (tyX6 k) := by decide +kernel
abbrev cX6_init : ByteArray := prog_8_method_1_code
def yX6_init : MethodName := ⟨RX6, "<init>", "(LAggregateSplitter$Program;LAggregateSplitter$Analysis;)V"⟩
abbrev cX6_execute : ByteArray := prog_8_method_2_code
def yX6_execute : MethodName := ⟨RX6, "execute", "(Z)V"⟩
abbrev cX6_outputOf : ByteArray := prog_8_method_3_code
def yX6_outputOf : MethodName := ⟨RX6, "outputOf", "(I)I"⟩
abbrev cX6_clear : ByteArray := prog_8_method_4_code
def yX6_clear : MethodName := ⟨RX6, "clear", "(Z)V"⟩
abbrev cX6_perform : ByteArray := prog_8_method_5_code
def yX6_perform : MethodName := ⟨RX6, "perform", "(LAggregateSplitter$Instruction;I)V"⟩
abbrev cX6_store : ByteArray := prog_8_method_6_code
def yX6_store : MethodName := ⟨RX6, "store", "(LAggregateSplitter$Instruction;)V"⟩
abbrev cX6_load : ByteArray := prog_8_method_7_code
def yX6_load : MethodName := ⟨RX6, "load", "(LAggregateSplitter$Instruction;)V"⟩
abbrev cX6_priceOfAccess : ByteArray := prog_8_method_8_code
def yX6_priceOfAccess : MethodName := ⟨RX6, "priceOfAccess", "(LAggregateSplitter$Partition;)I"⟩
abbrev cX6_copyWhole : ByteArray := prog_8_method_9_code
def yX6_copyWhole : MethodName := ⟨RX6, "copyWhole", "(LAggregateSplitter$Instruction;)V"⟩
abbrev cX6_copyLivePieces : ByteArray := prog_8_method_10_code
def yX6_copyLivePieces : MethodName := ⟨RX6, "copyLivePieces", "(LAggregateSplitter$Instruction;[I)V"⟩
abbrev cX6_priceOfPiece : ByteArray := prog_8_method_11_code
def yX6_priceOfPiece : MethodName := ⟨RX6, "priceOfPiece", "(LAggregateSplitter$Partition;LAggregateSplitter$Partition;I)I"⟩
abbrev cX6_moveBytes : ByteArray := prog_8_method_12_code
def yX6_moveBytes : MethodName := ⟨RX6, "moveBytes", "(LAggregateSplitter$Instruction;II)V"⟩
abbrev cX6_escape : ByteArray := prog_8_method_13_code
def yX6_escape : MethodName := ⟨RX6, "escape", "(I)V"⟩
abbrev cX6_add : ByteArray := prog_8_method_14_code
def yX6_add : MethodName := ⟨RX6, "add", "(LAggregateSplitter$Instruction;I)V"⟩
abbrev cX6_output : ByteArray := prog_8_method_15_code
def yX6_output : MethodName := ⟨RX6, "output", "(I)V"⟩
def RX7 : String := "AggregateSplitter"
def TX7 : u_T := fun k => match k with
  | 0 => ("AggregateSplitter", "program", "LAggregateSplitter$Program;", true)
  | 1 => ("AggregateSplitter", "history", "LAggregateSplitter$History;", true)
  | 2 => ("AggregateSplitter", "analysis", "LAggregateSplitter$Analysis;", true)
  | _ => ("AggregateSplitter", "run", "LAggregateSplitter$Run;", true)
def tyX7 : Nat → FieldType := fun k => match k with
  | 0 => .object "AggregateSplitter$Program"
  | 1 => .object "AggregateSplitter$History"
  | 2 => .object "AggregateSplitter$Analysis"
  | _ => .object "AggregateSplitter$Run"
abbrev wsX70 : List Cond := u_ws RX7 TX7 4
theorem nmX7 : ∀ a, a < 4 → ∀ b, b < 4 → a ≠ b → (TX7 a).2.1 ≠ (TX7 b).2.1 := by decide +kernel
theorem tyX7_ok : ∀ k, k < 4 → parseFieldDescriptor (TX7 k).2.2.1 = some (tyX7 k) := by decide +kernel
abbrev cX7_init : ByteArray := prog_1_method_1_code
def yX7_init : MethodName := ⟨RX7, "<init>", "()V"⟩
abbrev cX7_declareRecord : ByteArray := prog_1_method_2_code
def yX7_declareRecord : MethodName := ⟨RX7, "declareRecord", "(I)I"⟩
abbrev cX7_appendStore : ByteArray := prog_1_method_3_code
def yX7_appendStore : MethodName := ⟨RX7, "appendStore", "(IIII)I"⟩
abbrev cX7_appendLoad : ByteArray := prog_1_method_4_code
def yX7_appendLoad : MethodName := ⟨RX7, "appendLoad", "(IIII)I"⟩
abbrev cX7_appendCopy : ByteArray := prog_1_method_5_code
def yX7_appendCopy : MethodName := ⟨RX7, "appendCopy", "(IIIII)I"⟩
abbrev cX7_appendEscape : ByteArray := prog_1_method_6_code
def yX7_appendEscape : MethodName := ⟨RX7, "appendEscape", "(I)I"⟩
abbrev cX7_appendConstant : ByteArray := prog_1_method_7_code
def yX7_appendConstant : MethodName := ⟨RX7, "appendConstant", "(II)I"⟩
abbrev cX7_appendAdd : ByteArray := prog_1_method_8_code
def yX7_appendAdd : MethodName := ⟨RX7, "appendAdd", "(III)I"⟩
abbrev cX7_appendSkip : ByteArray := prog_1_method_9_code
def yX7_appendSkip : MethodName := ⟨RX7, "appendSkip", "(II)I"⟩
abbrev cX7_appendOutput : ByteArray := prog_1_method_10_code
def yX7_appendOutput : MethodName := ⟨RX7, "appendOutput", "(I)I"⟩
abbrev cX7_removeInstruction : ByteArray := prog_1_method_11_code
def yX7_removeInstruction : MethodName := ⟨RX7, "removeInstruction", "(I)I"⟩
abbrev cX7_undo : ByteArray := prog_1_method_12_code
def yX7_undo : MethodName := ⟨RX7, "undo", "()I"⟩
abbrev cX7_recordCount : ByteArray := prog_1_method_13_code
def yX7_recordCount : MethodName := ⟨RX7, "recordCount", "()I"⟩
abbrev cX7_instructionCount : ByteArray := prog_1_method_14_code
def yX7_instructionCount : MethodName := ⟨RX7, "instructionCount", "()I"⟩
abbrev cX7_escapes : ByteArray := prog_1_method_15_code
def yX7_escapes : MethodName := ⟨RX7, "escapes", "(I)I"⟩
abbrev cX7_partitionCount : ByteArray := prog_1_method_16_code
def yX7_partitionCount : MethodName := ⟨RX7, "partitionCount", "(I)I"⟩
abbrev cX7_partitionStart : ByteArray := prog_1_method_17_code
def yX7_partitionStart : MethodName := ⟨RX7, "partitionStart", "(II)I"⟩
abbrev cX7_partitionLength : ByteArray := prog_1_method_18_code
def yX7_partitionLength : MethodName := ⟨RX7, "partitionLength", "(II)I"⟩
abbrev cX7_isPromotable : ByteArray := prog_1_method_19_code
def yX7_isPromotable : MethodName := ⟨RX7, "isPromotable", "(II)I"⟩
abbrev cX7_isLive : ByteArray := prog_1_method_20_code
def yX7_isLive : MethodName := ⟨RX7, "isLive", "(II)I"⟩
abbrev cX7_paddingBytes : ByteArray := prog_1_method_21_code
def yX7_paddingBytes : MethodName := ⟨RX7, "paddingBytes", "(I)I"⟩
abbrev cX7_pieceCount : ByteArray := prog_1_method_22_code
def yX7_pieceCount : MethodName := ⟨RX7, "pieceCount", "(I)I"⟩
abbrev cX7_pieceLength : ByteArray := prog_1_method_23_code
def yX7_pieceLength : MethodName := ⟨RX7, "pieceLength", "(II)I"⟩
abbrev cX7_scalarCount : ByteArray := prog_1_method_24_code
def yX7_scalarCount : MethodName := ⟨RX7, "scalarCount", "()I"⟩
abbrev cX7_liveBytes : ByteArray := prog_1_method_25_code
def yX7_liveBytes : MethodName := ⟨RX7, "liveBytes", "()I"⟩
abbrev cX7_trapPosition : ByteArray := prog_1_method_26_code
def yX7_trapPosition : MethodName := ⟨RX7, "trapPosition", "()I"⟩
abbrev cX7_outputCount : ByteArray := prog_1_method_27_code
def yX7_outputCount : MethodName := ⟨RX7, "outputCount", "(I)I"⟩
abbrev cX7_outputAt : ByteArray := prog_1_method_28_code
def yX7_outputAt : MethodName := ⟨RX7, "outputAt", "(II)I"⟩
abbrev cX7_checksum : ByteArray := prog_1_method_29_code
def yX7_checksum : MethodName := ⟨RX7, "checksum", "(I)I"⟩
abbrev cX7_cost : ByteArray := prog_1_method_30_code
def yX7_cost : MethodName := ⟨RX7, "cost", "(I)I"⟩
abbrev cX7_append : ByteArray := prog_1_method_31_code
def yX7_append : MethodName := ⟨RX7, "append", "(LAggregateSplitter$Instruction;)I"⟩
abbrev cX7_isAccess : ByteArray := prog_1_method_32_code
def yX7_isAccess : MethodName := ⟨RX7, "isAccess", "(III)Z"⟩
abbrev cX7_layoutNow : ByteArray := prog_1_method_33_code
def yX7_layoutNow : MethodName := ⟨RX7, "layoutNow", "(I)LAggregateSplitter$Layout;"⟩
abbrev cX7_partitionNow : ByteArray := prog_1_method_34_code
def yX7_partitionNow : MethodName := ⟨RX7, "partitionNow", "(II)LAggregateSplitter$Partition;"⟩
abbrev cX7_runOf : ByteArray := prog_1_method_35_code
def yX7_runOf : MethodName := ⟨RX7, "runOf", "(I)LAggregateSplitter$Run;"⟩
abbrev cX7_isForm : ByteArray := prog_1_method_36_code
def yX7_isForm : MethodName := ⟨RX7, "isForm", "(I)Z"⟩
abbrev cX7_isRegister : ByteArray := prog_1_method_37_code
def yX7_isRegister : MethodName := ⟨RX7, "isRegister", "(I)Z"⟩
abbrev cX7_isScalarLength : ByteArray := prog_1_method_38_code
def yX7_isScalarLength : MethodName := ⟨RX7, "isScalarLength", "(I)Z"⟩
abbrev cX7_oneIf : ByteArray := prog_1_method_39_code
def yX7_oneIf : MethodName := ⟨RX7, "oneIf", "(Z)I"⟩
def RX8 : String := "AggregateSplitterModel"
def TX8 : u_T := fun k => match k with
  | 0 => ("AggregateSplitterModel", "s", "[I", true)
  | 1 => ("AggregateSplitterModel", "past", "[I", true)
  | 2 => ("AggregateSplitterModel", "pasts", "I", false)
  | 3 => ("AggregateSplitterModel", "partOf", "[I", true)
  | 4 => ("AggregateSplitterModel", "begins", "[I", true)
  | 5 => ("AggregateSplitterModel", "lengths", "[I", true)
  | 6 => ("AggregateSplitterModel", "counts", "[I", true)
  | 7 => ("AggregateSplitterModel", "promotable", "[Z", true)
  | 8 => ("AggregateSplitterModel", "live", "[Z", true)
  | 9 => ("AggregateSplitterModel", "bytes", "[I", true)
  | 10 => ("AggregateSplitterModel", "registers", "[I", true)
  | 11 => ("AggregateSplitterModel", "outputs", "[I", true)
  | 12 => ("AggregateSplitterModel", "outputSize", "I", false)
  | 13 => ("AggregateSplitterModel", "sum", "I", false)
  | 14 => ("AggregateSplitterModel", "spent", "I", false)
  | _ => ("AggregateSplitterModel", "trap", "I", false)
def tyX8 : Nat → FieldType := fun k => match k with
  | 0 => .array .int
  | 1 => .array .int
  | 2 => .int
  | 3 => .array .int
  | 4 => .array .int
  | 5 => .array .int
  | 6 => .array .int
  | 7 => .array .boolean
  | 8 => .array .boolean
  | 9 => .array .int
  | 10 => .array .int
  | 11 => .array .int
  | 12 => .int
  | 13 => .int
  | 14 => .int
  | _ => .int
abbrev wsX80 : List Cond := u_ws RX8 TX8 16
theorem nmX8 : ∀ a, a < 16 → ∀ b, b < 16 → a ≠ b → (TX8 a).2.1 ≠ (TX8 b).2.1 := by decide +kernel
theorem tyX8_ok : ∀ k, k < 16 → parseFieldDescriptor (TX8 k).2.2.1 = some (tyX8 k) := by decide +kernel
abbrev cX8_init : ByteArray := prog_10_method_1_code
def yX8_init : MethodName := ⟨RX8, "<init>", "()V"⟩
abbrev cX8_in : ByteArray := prog_10_method_3_code
def yX8_in : MethodName := ⟨RX8, "in", "(III)Z"⟩
abbrev cX8_note : ByteArray := prog_10_method_4_code
def yX8_note : MethodName := ⟨RX8, "note", "()V"⟩
abbrev cX8_isRecord : ByteArray := prog_10_method_5_code
def yX8_isRecord : MethodName := ⟨RX8, "isRecord", "(I)Z"⟩
abbrev cX8_isRegister : ByteArray := prog_10_method_6_code
def yX8_isRegister : MethodName := ⟨RX8, "isRegister", "(I)Z"⟩
abbrev cX8_isRange : ByteArray := prog_10_method_7_code
def yX8_isRange : MethodName := ⟨RX8, "isRange", "(III)Z"⟩
abbrev cX8_isWidth : ByteArray := prog_10_method_8_code
def yX8_isWidth : MethodName := ⟨RX8, "isWidth", "(I)Z"⟩
abbrev cX8_declareRecord : ByteArray := prog_10_method_9_code
def yX8_declareRecord : MethodName := ⟨RX8, "declareRecord", "(I)I"⟩
abbrev cX8_append : ByteArray := prog_10_method_10_code
def yX8_append : MethodName := ⟨RX8, "append", "(IIIIII)I"⟩
abbrev cX8_appendStore : ByteArray := prog_10_method_11_code
def yX8_appendStore : MethodName := ⟨RX8, "appendStore", "(IIII)I"⟩
abbrev cX8_appendLoad : ByteArray := prog_10_method_12_code
def yX8_appendLoad : MethodName := ⟨RX8, "appendLoad", "(IIII)I"⟩
abbrev cX8_appendCopy : ByteArray := prog_10_method_13_code
def yX8_appendCopy : MethodName := ⟨RX8, "appendCopy", "(IIIII)I"⟩
abbrev cX8_appendEscape : ByteArray := prog_10_method_14_code
def yX8_appendEscape : MethodName := ⟨RX8, "appendEscape", "(I)I"⟩
abbrev cX8_appendConstant : ByteArray := prog_10_method_15_code
def yX8_appendConstant : MethodName := ⟨RX8, "appendConstant", "(II)I"⟩
abbrev cX8_appendAdd : ByteArray := prog_10_method_16_code
def yX8_appendAdd : MethodName := ⟨RX8, "appendAdd", "(III)I"⟩
abbrev cX8_appendSkip : ByteArray := prog_10_method_17_code
def yX8_appendSkip : MethodName := ⟨RX8, "appendSkip", "(II)I"⟩
abbrev cX8_appendOutput : ByteArray := prog_10_method_18_code
def yX8_appendOutput : MethodName := ⟨RX8, "appendOutput", "(I)I"⟩
abbrev cX8_removeInstruction : ByteArray := prog_10_method_19_code
def yX8_removeInstruction : MethodName := ⟨RX8, "removeInstruction", "(I)I"⟩
abbrev cX8_undo : ByteArray := prog_10_method_20_code
def yX8_undo : MethodName := ⟨RX8, "undo", "()I"⟩
abbrev cX8_recordCount : ByteArray := prog_10_method_21_code
def yX8_recordCount : MethodName := ⟨RX8, "recordCount", "()I"⟩
abbrev cX8_instructionCount : ByteArray := prog_10_method_22_code
def yX8_instructionCount : MethodName := ⟨RX8, "instructionCount", "()I"⟩
abbrev cX8_of : ByteArray := prog_10_method_23_code
def yX8_of : MethodName := ⟨RX8, "of", "(II)I"⟩
abbrev cX8_isAccess : ByteArray := prog_10_method_24_code
def yX8_isAccess : MethodName := ⟨RX8, "isAccess", "(I)Z"⟩
abbrev cX8_doesEscape : ByteArray := prog_10_method_25_code
def yX8_doesEscape : MethodName := ⟨RX8, "doesEscape", "(I)Z"⟩
abbrev cX8_holds : ByteArray := prog_10_method_26_code
def yX8_holds : MethodName := ⟨RX8, "holds", "(III)Z"⟩
abbrev cX8_isAccessed : ByteArray := prog_10_method_27_code
def yX8_isAccessed : MethodName := ⟨RX8, "isAccessed", "(IIZ)Z"⟩
abbrev cX8_isCopied : ByteArray := prog_10_method_28_code
def yX8_isCopied : MethodName := ⟨RX8, "isCopied", "(IIII)Z"⟩
abbrev cX8_isSoft : ByteArray := prog_10_method_29_code
def yX8_isSoft : MethodName := ⟨RX8, "isSoft", "(II)Z"⟩
abbrev cX8_areCopiedAlike : ByteArray := prog_10_method_30_code
def yX8_areCopiedAlike : MethodName := ⟨RX8, "areCopiedAlike", "(II)Z"⟩
abbrev cX8_goesOn : ByteArray := prog_10_method_31_code
def yX8_goesOn : MethodName := ⟨RX8, "goesOn", "(II)Z"⟩
abbrev cX8_isParted : ByteArray := prog_10_method_32_code
def yX8_isParted : MethodName := ⟨RX8, "isParted", "(II)Z"⟩
abbrev cX8_findParts : ByteArray := prog_10_method_33_code
def yX8_findParts : MethodName := ⟨RX8, "findParts", "(I)V"⟩
abbrev cX8_findAllParts : ByteArray := prog_10_method_34_code
def yX8_findAllParts : MethodName := ⟨RX8, "findAllParts", "()V"⟩
abbrev cX8_placeOf : ByteArray := prog_10_method_35_code
def yX8_placeOf : MethodName := ⟨RX8, "placeOf", "(II)I"⟩
abbrev cX8_beginsAt : ByteArray := prog_10_method_36_code
def yX8_beginsAt : MethodName := ⟨RX8, "beginsAt", "(II)Z"⟩
abbrev cX8_pieceAt : ByteArray := prog_10_method_37_code
def yX8_pieceAt : MethodName := ⟨RX8, "pieceAt", "(II)I"⟩
abbrev cX8_restrict : ByteArray := prog_10_method_38_code
def yX8_restrict : MethodName := ⟨RX8, "restrict", "(III)V"⟩
abbrev cX8_restrictPieces : ByteArray := prog_10_method_39_code
def yX8_restrictPieces : MethodName := ⟨RX8, "restrictPieces", "(I)V"⟩
abbrev cX8_findPromotable : ByteArray := prog_10_method_40_code
def yX8_findPromotable : MethodName := ⟨RX8, "findPromotable", "()V"⟩
abbrev cX8_enliven : ByteArray := prog_10_method_41_code
def yX8_enliven : MethodName := ⟨RX8, "enliven", "(I)Z"⟩
abbrev cX8_findLive : ByteArray := prog_10_method_42_code
def yX8_findLive : MethodName := ⟨RX8, "findLive", "()V"⟩
abbrev cX8_analyse : ByteArray := prog_10_method_43_code
def yX8_analyse : MethodName := ⟨RX8, "analyse", "()V"⟩
abbrev cX8_escapes : ByteArray := prog_10_method_44_code
def yX8_escapes : MethodName := ⟨RX8, "escapes", "(I)I"⟩
abbrev cX8_partitionCount : ByteArray := prog_10_method_45_code
def yX8_partitionCount : MethodName := ⟨RX8, "partitionCount", "(I)I"⟩
abbrev cX8_isPart : ByteArray := prog_10_method_46_code
def yX8_isPart : MethodName := ⟨RX8, "isPart", "(II)Z"⟩
abbrev cX8_partitionStart : ByteArray := prog_10_method_47_code
def yX8_partitionStart : MethodName := ⟨RX8, "partitionStart", "(II)I"⟩
abbrev cX8_partitionLength : ByteArray := prog_10_method_48_code
def yX8_partitionLength : MethodName := ⟨RX8, "partitionLength", "(II)I"⟩
abbrev cX8_isPromotable : ByteArray := prog_10_method_49_code
def yX8_isPromotable : MethodName := ⟨RX8, "isPromotable", "(II)I"⟩
abbrev cX8_isLive : ByteArray := prog_10_method_50_code
def yX8_isLive : MethodName := ⟨RX8, "isLive", "(II)I"⟩
abbrev cX8_paddingBytes : ByteArray := prog_10_method_51_code
def yX8_paddingBytes : MethodName := ⟨RX8, "paddingBytes", "(I)I"⟩
abbrev cX8_isCopy : ByteArray := prog_10_method_52_code
def yX8_isCopy : MethodName := ⟨RX8, "isCopy", "(I)Z"⟩
abbrev cX8_pieceCount : ByteArray := prog_10_method_53_code
def yX8_pieceCount : MethodName := ⟨RX8, "pieceCount", "(I)I"⟩
abbrev cX8_pieceLength : ByteArray := prog_10_method_54_code
def yX8_pieceLength : MethodName := ⟨RX8, "pieceLength", "(II)I"⟩
abbrev cX8_scalarCount : ByteArray := prog_10_method_55_code
def yX8_scalarCount : MethodName := ⟨RX8, "scalarCount", "()I"⟩
abbrev cX8_liveBytes : ByteArray := prog_10_method_56_code
def yX8_liveBytes : MethodName := ⟨RX8, "liveBytes", "()I"⟩
abbrev cX8_store : ByteArray := prog_10_method_57_code
def yX8_store : MethodName := ⟨RX8, "store", "(I)V"⟩
abbrev cX8_load : ByteArray := prog_10_method_58_code
def yX8_load : MethodName := ⟨RX8, "load", "(I)V"⟩
abbrev cX8_copyBytes : ByteArray := prog_10_method_59_code
def yX8_copyBytes : MethodName := ⟨RX8, "copyBytes", "(III)V"⟩
abbrev cX8_escape : ByteArray := prog_10_method_60_code
def yX8_escape : MethodName := ⟨RX8, "escape", "(I)V"⟩
abbrev cX8_adds : ByteArray := prog_10_method_61_code
def yX8_adds : MethodName := ⟨RX8, "adds", "(I)Z"⟩
abbrev cX8_access : ByteArray := prog_10_method_62_code
def yX8_access : MethodName := ⟨RX8, "access", "(IZ)V"⟩
abbrev cX8_copyPieces : ByteArray := prog_10_method_63_code
def yX8_copyPieces : MethodName := ⟨RX8, "copyPieces", "(I)V"⟩
abbrev cX8_runs : ByteArray := prog_10_method_64_code
def yX8_runs : MethodName := ⟨RX8, "runs", "(Z)V"⟩
abbrev cX8_executes : ByteArray := prog_10_method_65_code
def yX8_executes : MethodName := ⟨RX8, "executes", "(IZ)I"⟩
abbrev cX8_trapPosition : ByteArray := prog_10_method_66_code
def yX8_trapPosition : MethodName := ⟨RX8, "trapPosition", "()I"⟩
abbrev cX8_isProgram : ByteArray := prog_10_method_67_code
def yX8_isProgram : MethodName := ⟨RX8, "isProgram", "(I)Z"⟩
abbrev cX8_outputCount : ByteArray := prog_10_method_68_code
def yX8_outputCount : MethodName := ⟨RX8, "outputCount", "(I)I"⟩
abbrev cX8_outputAt : ByteArray := prog_10_method_69_code
def yX8_outputAt : MethodName := ⟨RX8, "outputAt", "(II)I"⟩
abbrev cX8_checksum : ByteArray := prog_10_method_70_code
def yX8_checksum : MethodName := ⟨RX8, "checksum", "(I)I"⟩
abbrev cX8_cost : ByteArray := prog_10_method_71_code
def yX8_cost : MethodName := ⟨RX8, "cost", "(I)I"⟩
def RL : String := "AggregateSplitterLaw"
abbrev cL_law : ByteArray := code
def yL_law : MethodName := ⟨RL, "law", "([I)Z"⟩
abbrev vwCl : List vw_C := [(RX0, TX0, 4), (RX1, TX1, 5), (RX2, TX2, 10), (RX3, TX3, 9), (RX4, TX4, 4), (RX5, TX5, 5), (RX6, TX6, 11), (RX7, TX7, 4), (RX8, TX8, 16)]
end
section
/-! THE ABSTRACT HEAP. A cell has a kind and a length (its shape); its contents are three functions (ints, longs, references) of the cell's number and the slot's.
    Kinds 0 to 8: objects of the classes of vwCl; 9 int[], 10 boolean[], 11 long[], 12 Instruction[], 13 Partition[], 14 Layout[], 15 int[][].
    The cell of number a lies at the machine's address 'base + a'. -/
abbrev AH : Type := List (Nat × Nat) × (Nat → Nat → Int32) × (Nat → Nat → Int64) × (Nat → Nat → Option Nat)
abbrev hI (h : AH) : Nat → Nat → Int32 := h.2.1
abbrev hJ (h : AH) : Nat → Nat → Int64 := h.2.2.1
abbrev hP (h : AH) : Nat → Nat → Option Nat := h.2.2.2
/-- launch, base, the script's address, the classes, the classes of arrays -/
abbrev GX : Type := Launch × Nat × Nat × va_G × (Nat → ClassId)
abbrev gB (g : GX) : Nat := g.2.1
abbrev gb (g : GX) : Nat := g.2.2.1
abbrev gD (g : GX) : va_G := g.2.2.2.1
abbrev gC (g : GX) : Nat → ClassId := g.2.2.2.2
/-- method: name, bytes, locals, type of the answer -/
abbrev MT : Type := MethodName × ByteArray × Nat × Option FieldType
/-- a walk's frame: room, what else is known at the entry, what is to be reached -/
abbrev TH : Type := Room × (Array Value → State → Prop) × (Array Value → State → List Frame → State → Prop)
/-- 0 int (boolean), 1 long, 2 reference -/
def sty (c k : Nat) : Nat := match c with
  | 0 => if k < 3 then 2 else 0
  | 1 => if k < 3 then 2 else 0
  | 2 => 0
  | 3 => if k < 6 then 2 else 0
  | 4 => 0
  | 5 => if k < 3 then 2 else 0
  | 6 => if k < 5 then 2 else 0
  | 7 => 2
  | 8 => if k = 2 then 0 else if k < 12 then 2 else 0
  | 9 => 0
  | 10 => 0
  | 11 => 1
  | _ => 2
def rv (g : GX) (o : Option Nat) : Value := match o with
  | none => .null
  | some r => .ref (gB g + r)
/-- an abstract value as the machine's; 'float' stands for the script -/
def tv (g : GX) (v : Value) : Value := match v with
  | .ref a => .ref (gB g + a)
  | .float _ => .ref (gb g)
  | v => v
def cv (g : GX) (h : AH) (c a k : Nat) : Value := if sty c k = 0 then .int (hI h a k) else if sty c k = 1 then .long (hJ h a k) else rv g (hP h a k)
def cellOk (g : GX) (h : AH) (a : Nat) (q : Nat × Nat) (H : Heap) : Prop :=
  if q.1 < 9 then ∃ r : vw_C, vwCl[q.1]? = some r ∧ r.2.2 = q.2 ∧ t_OB (gB g + a) ((gD g).1 q.1) q.2 ((gD g).2 q.1) H (cv g h q.1 a)
  else H[gB g + a]? = some (arrV (gC g q.1) q.2 (cv g h q.1 a))
def Rep (g : GX) (h : AH) (H : Heap) : Prop := H.size = gB g + h.1.length ∧ ∀ (a : Nat) (q : Nat × Nat), h.1[a]? = some q → cellOk g h a q H
def tys (g : GX) : List (ClassId × FieldType) := [(gC g 9, .int), (gC g 10, .boolean), (gC g 11, .long), (gC g 12, .object "AggregateSplitter$Instruction"), (gC g 13, .object "AggregateSplitter$Partition"), (gC g 14, .object "AggregateSplitter$Layout"), (gC g 15, .array .int)]
/-- the calls to a nest mate's private members -/
def nws : List Cond := [.methodLinkNest "AggregateSplitter" 18 ⟨"AggregateSplitter$History", "<init>", "()V"⟩ "AggregateSplitter", .methodLinkNest "AggregateSplitter$Layout" 17 ⟨"AggregateSplitter$Partition", "<init>", "()V"⟩ "AggregateSplitter", .methodLinkNest "AggregateSplitter$Partition" 20 ⟨"AggregateSplitter", "isScalarLength", "(I)Z"⟩ "AggregateSplitter", .methodLinkNest "AggregateSplitter$Analysis" 135 ⟨"AggregateSplitter", "oneIf", "(Z)I"⟩ "AggregateSplitter", .methodLinkNest "AggregateSplitter$Layout" 90 ⟨"AggregateSplitter", "oneIf", "(Z)I"⟩ "AggregateSplitter"]
/-- what the tables say of the classes -/
def gK (g : GX) (s : State) : Prop := va_K (gD g) vwCl (tys g) s ∧ (va_AO "AggregateSplitter$Instruction" s ∧ va_AO "AggregateSplitter$Partition" s ∧ va_AO "AggregateSplitter$Layout" s ∧ (Cond.arrayOver (.array .int)).before #[] s = true) ∧ ∀ w ∈ nws, va_Nw w s
/-- the tables' words that a callee may be given -/
def gt : List Cond := lw_tbl.filter goodWord
theorem gt_good : GoodIn gt gt := fun w hw => ⟨hw, good_of_word (List.mem_filter.mp hw).2⟩
theorem gt_mem {i : Nat} {w : Cond} (h : lw_tbl[i]? = some w) (hg : goodWord w = true) : w ∈ gt := List.mem_filter.mpr ⟨List.mem_of_getElem? h, hg⟩
def gA (g : GX) : Nat → Prop := fun q => gB g ≤ q
def Bd (g : GX) (μ : MT) (θ : TH) (p : Program) (e : Env) (s : State) (m : MethodId) (args : Array Value) (meth : Method) (c : Code) : Prop :=
  p.tables.exec = Jvm.exec ∧ c.code = μ.2.1 ∧ meth.sig.returnType = μ.2.2.2 ∧ c.maxLocals = μ.2.2.1 ∧ s.vm.findClass μ.1.cls = some m.cls ∧ (∀ w ∈ gt, w.before args s = true) ∧ meth.locks = false ∧ (μ.1.name = "<init>" → meth.name = "<init>") ∧ gK g s ∧ θ.2.1 args s
/-- THE JUDGEMENT: the method μ, at pc with the abstract heap h, locals L, stack S, comes to what θ wants; k cells of n slots have been made so far -/
def V (g : GX) (μ : MT) (θ : TH) (h : AH) (k n : Nat) (L : List (Nat × Value)) (pc : Nat) (S : List Value) : Prop :=
  ∀ (p : Program) (e : Env) (s : State) (m : MethodId) (args : Array Value) (below : List Frame) (meth : Method) (c : Code) (H : Heap) (locs : List Loc) (ls : Array Slot),
    Bd g μ θ p e s m args meth c → Rep g h H → va_S (gA g) s.heap H locs → lv_has ls μ.2.2.1 (L.map fun q => (q.1, tv g q.2)) →
    W p g.1 e θ.1 s m args below meth c H locs k n (θ.2.2 args s below) (F0 m pc ls (S.map (tv g)))
def Qc (g : GX) (post : Option Value → AH → Prop) : Array Value → State → Outcome → State → Prop := fun _ st o t =>
  (∃ (r : Option Value) (h' : AH), o = .returned (r.map (tv g)) ∧ post r h' ∧ Rep g h' t.heap) ∧ va_F (gA g) st t
def rmd (d mc ms : Nat) : Room := { frames := d, cells := mc, slots := ms, locals := 40 * d }
def thM (g : GX) (d mc ms : Nat) (post : Option Value → AH → Prop) : TH := (rmd d mc ms, fun _ _ => True, fun args s below => MQ below (Qc g post) args s mc ms (gA g))
def wsM (μ : MT) : List Cond := Cond.code μ.1 μ.2.1 μ.2.2.1 μ.2.2.2 :: gt
/-- A CONTRACT: called with av at the abstract heap h, in room for d frames, the method answers and leaves what 'post' says; at most mc cells of ms slots are new -/
def Ct (g : GX) (μ : MT) (d mc ms : Nat) (av : List Value) (h : AH) (post : Option Value → AH → Prop) : Prop :=
  Met g.1 μ.1 (wsM μ) (rmd d mc ms) (va_Pc (av.map (tv g)) (fun U => Rep g h U.heap ∧ gK g U)) (Qc g post) mc ms (gA g)
/-- a contract of a method that changes nothing -/
abbrev Cp (g : GX) (μ : MT) (d : Nat) (av : List Value) (h : AH) (v : Value) : Prop := Ct g μ d 0 0 av h (fun r h' => r = some v ∧ h' = h)
theorem tv_cat (g : GX) (v : Value) : (tv g v).category = v.category := by cases v <;> rfl
theorem lv_args_tv (g : GX) : ∀ (i : Nat) (vs : List Value), lv_args i (vs.map (tv g)) = (lv_args i vs).map fun q => (q.1, tv g q.2)
  | _, [] => rfl
  | i, v :: vs => by
    simp only [List.map_cons, lv_args, tv_cat]
    rw [lv_args_tv g _ vs]
theorem lg_sl_tv (g : GX) : ∀ (vs : List Value), (lg_sl (vs.map (tv g))).length = (lg_sl vs).length
  | [] => rfl
  | v :: vs => by
    have ih := lg_sl_tv g vs
    cases v <;> simp [lg_sl, tv, Value.category] at ih ⊢ <;> omega
set_option maxHeartbeats 4000000 in
theorem Ct_intro {g : GX} {μ : MT} {d mc ms : Nat} {av : List Value} {h : AH} {post : Option Value → AH → Prop} (hy : plainName μ.1.cls = true) (hn : (lg_sl av).length ≤ μ.2.2.1)
    (k : V g μ (thM g d mc ms post) h 0 0 (lv_args 0 av) 0 []) : Ct g μ d mc ms av h post := by
  refine Met.ofW (cc := μ.2.1) (maxL := μ.2.2.1) (ret := μ.2.2.2) hy rfl ?_
  intro p e s m args below meth c s₁ B hml hv
  obtain ⟨rfl, hR, hK⟩ := hv
  have hts := atoms_spec (ws := wsM μ) B.pre
  have hl := lv_entry (av.map (tv g)) (n := μ.2.2.1) (by rw [lg_sl_tv]; exact hn)
  rw [lg_entry_eq]
  generalize (lg_sl (av.map (tv g)) ++ List.replicate (μ.2.2.1 - (lg_sl (av.map (tv g))).length) Slot.unset).toArray = ls at hl ⊢
  rw [lv_args_tv] at hl
  exact k p e s m _ below meth c s.heap [] ls ⟨B.exec, B.bytes, B.returns, hml, findClass_of_methodNamed B.named, fun w h => hts w (List.mem_cons_of_mem _ h), B.notSynchronized, fun hi => (name_of_methodNamed B.named B.method).1.trans hi, hK, trivial⟩ hR va_S.rf hl
end
section
/-- booleans as the machine has them -/
def bi (b : Bool) : Int32 := if b = true then 1 else 0
theorem bi_t : bi true = 1 := rfl
theorem bi_f : bi false = 0 := rfl
theorem bi_eq0 {b : Bool} : bi b = 0 ↔ b = false := by cases b <;> decide
theorem bi_ne0 {b : Bool} : ¬ bi b = 0 ↔ b = true := by cases b <;> decide
theorem bi_nar (b : Bool) : narrow .boolean (.int (bi b)) = .int (bi b) := by cases b <;> decide +kernel
def lfi (i : Nat) (L : List (Nat × Value)) : List (Nat × Value) := L.filter (fun q => !(q.1 == i) && !(q.1 + 1 == i && q.2.category == 2))
def lfl (i : Nat) (L : List (Nat × Value)) : List (Nat × Value) := L.filter (fun q => !(q.1 == i) && (!(q.1 == i + 1) && !(q.1 + 1 == i && q.2.category == 2)))
theorem lfi_tv (g : GX) (i : Nat) : ∀ L : List (Nat × Value), (L.map fun q => (q.1, tv g q.2)).filter (fun q => !(q.1 == i) && !(q.1 + 1 == i && q.2.category == 2)) = (lfi i L).map fun q => (q.1, tv g q.2)
  | [] => rfl
  | a :: L => by
    have ih := lfi_tv g i L
    simp only [lfi, List.map_cons, List.filter_cons, tv_cat] at ih ⊢
    rw [ih]
    split <;> rfl
theorem lfl_tv (g : GX) (i : Nat) : ∀ L : List (Nat × Value), (L.map fun q => (q.1, tv g q.2)).filter (fun q => !(q.1 == i) && (!(q.1 == i + 1) && !(q.1 + 1 == i && q.2.category == 2))) = (lfl i L).map fun q => (q.1, tv g q.2)
  | [] => rfl
  | a :: L => by
    have ih := lfl_tv g i L
    simp only [lfl, List.map_cons, List.filter_cons, tv_cat] at ih ⊢
    rw [ih]
    split <;> rfl
theorem lat {g : GX} {ls : Array Slot} {nL : Nat} {L : List (Nat × Value)} (hl : lv_has ls nL (L.map fun q => (q.1, tv g q.2))) (j : Nat) {i : Nat} {v : Value} (h : L[j]? = some (i, v)) : ls[i]? = some (.val (tv g v)) :=
  lv_at hl j (by rw [List.getElem?_map, h]; rfl)
section ROWS
variable {g : GX} {μ : MT} {θ : TH} {h : AH} {k n : Nat} {L L' : List (Nat × Value)} {pc q : Nat} {S : List Value}
theorem V_iconst {c : Int} {v : Int32} (hd : decode μ.2.1 pc = .ok (.iconst c, 1)) (hq : pc + 1 = q) (hv : Int32.ofInt c = v) (kk : V g μ θ h k n L q (.int v :: S)) : V g μ θ h k n L pc S := by
  subst hq
  exact fun p e s m args below meth c H locs ls B R hS hl => lv_iconst B.1 B.2.1 hd hv (kk p e s m args below meth c H locs ls B R hS hl)
theorem V_bipush {c : Int} {v : Int32} (hd : decode μ.2.1 pc = .ok (.bipush c, 2)) (hq : pc + 2 = q) (hv : (Int8.ofInt c).toInt32 = v) (kk : V g μ θ h k n L q (.int v :: S)) : V g μ θ h k n L pc S := by
  subst hq
  exact fun p e s m args below meth c H locs ls B R hS hl => lv_bipush B.1 B.2.1 hd hv (kk p e s m args below meth c H locs ls B R hS hl)
theorem V_sipush {c : Int} {v : Int32} (hd : decode μ.2.1 pc = .ok (.sipush c, 3)) (hq : pc + 3 = q) (hv : (Int16.ofInt c).toInt32 = v) (kk : V g μ θ h k n L q (.int v :: S)) : V g μ θ h k n L pc S := by
  subst hq
  exact fun p e s m args below meth c H locs ls B R hS hl => lv_sipush B.1 B.2.1 hd hv (kk p e s m args below meth c H locs ls B R hS hl)
theorem V_iload_n {j : Nat} {i : Fin 4} {x : Int32} (hd : decode μ.2.1 pc = .ok (.iload_n i, 1)) (hq : pc + 1 = q) (hj : L[j]? = some ((i : Nat), .int x)) (kk : V g μ θ h k n L q (.int x :: S)) : V g μ θ h k n L pc S := by
  subst hq
  exact fun p e s m args below meth c H locs ls B R hS hl => lv_iload_n B.1 B.2.1 hd rfl (lat hl j hj) (kk p e s m args below meth c H locs ls B R hS hl)
theorem V_iload {j i : Nat} {x : Int32} (hd : decode μ.2.1 pc = .ok (.iload i, 2)) (hq : pc + 2 = q) (hj : L[j]? = some (i, .int x)) (kk : V g μ θ h k n L q (.int x :: S)) : V g μ θ h k n L pc S := by
  subst hq
  exact fun p e s m args below meth c H locs ls B R hS hl => lv_iload B.1 B.2.1 hd (lat hl j hj) (kk p e s m args below meth c H locs ls B R hS hl)
theorem V_aload_n {j : Nat} {i : Fin 4} {a : Nat} (hd : decode μ.2.1 pc = .ok (.aload_n i, 1)) (hq : pc + 1 = q) (hj : L[j]? = some ((i : Nat), .ref a)) (kk : V g μ θ h k n L q (.ref a :: S)) : V g μ θ h k n L pc S := by
  subst hq
  exact fun p e s m args below meth c H locs ls B R hS hl => lv_aload_n B.1 B.2.1 hd rfl (lat hl j hj) (kk p e s m args below meth c H locs ls B R hS hl)
theorem V_aload {j i a : Nat} (hd : decode μ.2.1 pc = .ok (.aload i, 2)) (hq : pc + 2 = q) (hj : L[j]? = some (i, .ref a)) (kk : V g μ θ h k n L q (.ref a :: S)) : V g μ θ h k n L pc S := by
  subst hq
  exact fun p e s m args below meth c H locs ls B R hS hl => lv_aload B.1 B.2.1 hd (lat hl j hj) (kk p e s m args below meth c H locs ls B R hS hl)
theorem V_sload_n {j : Nat} {i : Fin 4} (hd : decode μ.2.1 pc = .ok (.aload_n i, 1)) (hq : pc + 1 = q) (hj : L[j]? = some ((i : Nat), .float 0)) (kk : V g μ θ h k n L q (.float 0 :: S)) : V g μ θ h k n L pc S := by
  subst hq
  exact fun p e s m args below meth c H locs ls B R hS hl => lv_aload_n B.1 B.2.1 hd rfl (lat hl j hj) (kk p e s m args below meth c H locs ls B R hS hl)
theorem V_lload_n {j : Nat} {i : Fin 4} {x : Int64} (hd : decode μ.2.1 pc = .ok (.lload_n i, 1)) (hq : pc + 1 = q) (hj : L[j]? = some ((i : Nat), .long x)) (kk : V g μ θ h k n L q (.long x :: S)) : V g μ θ h k n L pc S := by
  subst hq
  exact fun p e s m args below meth c H locs ls B R hS hl => lv_lload_n B.1 B.2.1 hd rfl (lat hl j hj) (kk p e s m args below meth c H locs ls B R hS hl)
theorem V_istore_n {i : Fin 4} {x : Int32} (hd : decode μ.2.1 pc = .ok (.istore_n i, 1)) (hq : pc + 1 = q) (hi : Nat.blt i μ.2.2.1 = true) (hL : ((i : Nat), Value.int x) :: lfi i L = L') (kk : V g μ θ h k n L' q S) : V g μ θ h k n L pc (.int x :: S) := by
  subst hq; subst hL
  exact fun p e s m args below meth c H locs ls B R hS hl => lv_istore_n B.1 B.2.1 hd rfl hl (Nat.le_of_ble_eq_true hi) (by rw [lfi_tv]; rfl) (fun ls hl => kk p e s m args below meth c H locs ls B R hS hl)
theorem V_istore {i : Nat} {x : Int32} (hd : decode μ.2.1 pc = .ok (.istore i, 2)) (hq : pc + 2 = q) (hi : Nat.blt i μ.2.2.1 = true) (hL : (i, Value.int x) :: lfi i L = L') (kk : V g μ θ h k n L' q S) : V g μ θ h k n L pc (.int x :: S) := by
  subst hq; subst hL
  exact fun p e s m args below meth c H locs ls B R hS hl => lv_istore B.1 B.2.1 hd hl (Nat.le_of_ble_eq_true hi) (by rw [lfi_tv]; rfl) (fun ls hl => kk p e s m args below meth c H locs ls B R hS hl)
theorem V_astore_n {i : Fin 4} {a : Nat} (hd : decode μ.2.1 pc = .ok (.astore_n i, 1)) (hq : pc + 1 = q) (hi : Nat.blt i μ.2.2.1 = true) (hL : ((i : Nat), Value.ref a) :: lfi i L = L') (kk : V g μ θ h k n L' q S) : V g μ θ h k n L pc (.ref a :: S) := by
  subst hq; subst hL
  exact fun p e s m args below meth c H locs ls B R hS hl => lv_astore_n B.1 B.2.1 hd rfl hl (Nat.le_of_ble_eq_true hi) (by rw [lfi_tv]; rfl) (fun ls hl => kk p e s m args below meth c H locs ls B R hS hl)
theorem V_astore {i a : Nat} (hd : decode μ.2.1 pc = .ok (.astore i, 2)) (hq : pc + 2 = q) (hi : Nat.blt i μ.2.2.1 = true) (hL : (i, Value.ref a) :: lfi i L = L') (kk : V g μ θ h k n L' q S) : V g μ θ h k n L pc (.ref a :: S) := by
  subst hq; subst hL
  exact fun p e s m args below meth c H locs ls B R hS hl => lv_astore B.1 B.2.1 hd hl (Nat.le_of_ble_eq_true hi) (by rw [lfi_tv]; rfl) (fun ls hl => kk p e s m args below meth c H locs ls B R hS hl)
theorem V_lstore_n {i : Fin 4} {x : Int64} (hd : decode μ.2.1 pc = .ok (.lstore_n i, 1)) (hq : pc + 1 = q) (hi : Nat.blt (i + 1) μ.2.2.1 = true) (hL : ((i : Nat), Value.long x) :: lfl i L = L') (kk : V g μ θ h k n L' q S) : V g μ θ h k n L pc (.long x :: S) := by
  subst hq; subst hL
  exact fun p e s m args below meth c H locs ls B R hS hl => lv_lstore_n B.1 B.2.1 hd rfl hl (Nat.le_of_ble_eq_true hi) (by rw [lfl_tv]; rfl) (fun ls hl => kk p e s m args below meth c H locs ls B R hS hl)
theorem V_iinc {j i : Nat} {c : Int} {x v : Int32} (hd : decode μ.2.1 pc = .ok (.iinc i c, 3)) (hq : pc + 3 = q) (hj : L[j]? = some (i, .int x)) (hv : x + Int32.ofInt c = v) (hi : Nat.blt i μ.2.2.1 = true) (hL : (i, Value.int v) :: lfi i L = L') (kk : V g μ θ h k n L' q S) : V g μ θ h k n L pc S := by
  subst hq; subst hL
  exact fun p e s m args below meth c H locs ls B R hS hl => lv_iinc B.1 B.2.1 hd hl (k := j) (by rw [List.getElem?_map, hj]; rfl) hv (Nat.le_of_ble_eq_true hi) (by rw [lfi_tv]; rfl) (fun ls hl => kk p e s m args below meth c H locs ls B R hS hl)
theorem V_iadd {x y : Int32} (hd : decode μ.2.1 pc = .ok (.iadd, 1)) (hq : pc + 1 = q) (kk : V g μ θ h k n L q (.int (x + y) :: S)) : V g μ θ h k n L pc (.int y :: .int x :: S) := by
  subst hq
  exact fun p e s m args below meth c H locs ls B R hS hl => lv_iadd B.1 B.2.1 hd (kk p e s m args below meth c H locs ls B R hS hl)
theorem V_isub {x y : Int32} (hd : decode μ.2.1 pc = .ok (.isub, 1)) (hq : pc + 1 = q) (kk : V g μ θ h k n L q (.int (x - y) :: S)) : V g μ θ h k n L pc (.int y :: .int x :: S) := by
  subst hq
  exact fun p e s m args below meth c H locs ls B R hS hl => lv_isub B.1 B.2.1 hd (kk p e s m args below meth c H locs ls B R hS hl)
theorem V_imul {x y : Int32} (hd : decode μ.2.1 pc = .ok (.imul, 1)) (hq : pc + 1 = q) (kk : V g μ θ h k n L q (.int (x * y) :: S)) : V g μ θ h k n L pc (.int y :: .int x :: S) := by
  subst hq
  exact fun p e s m args below meth c H locs ls B R hS hl => lv_imul B.1 B.2.1 hd (kk p e s m args below meth c H locs ls B R hS hl)
theorem V_iand {x y : Int32} (hd : decode μ.2.1 pc = .ok (.iand, 1)) (hq : pc + 1 = q) (kk : V g μ θ h k n L q (.int (x &&& y) :: S)) : V g μ θ h k n L pc (.int y :: .int x :: S) := by
  subst hq
  exact fun p e s m args below meth c H locs ls B R hS hl => lv_iand B.1 B.2.1 hd (kk p e s m args below meth c H locs ls B R hS hl)
theorem V_ior {x y : Int32} (hd : decode μ.2.1 pc = .ok (.ior, 1)) (hq : pc + 1 = q) (kk : V g μ θ h k n L q (.int (x ||| y) :: S)) : V g μ θ h k n L pc (.int y :: .int x :: S) := by
  subst hq
  exact fun p e s m args below meth c H locs ls B R hS hl => lv_ior B.1 B.2.1 hd (kk p e s m args below meth c H locs ls B R hS hl)
theorem V_ishl {x y : Int32} (hd : decode μ.2.1 pc = .ok (.ishl, 1)) (hq : pc + 1 = q) (kk : V g μ θ h k n L q (.int (x <<< (y &&& 31)) :: S)) : V g μ θ h k n L pc (.int y :: .int x :: S) := by
  subst hq
  exact fun p e s m args below meth c H locs ls B R hS hl => lv_ishl B.1 B.2.1 hd (kk p e s m args below meth c H locs ls B R hS hl)
theorem V_ishr {x y : Int32} (hd : decode μ.2.1 pc = .ok (.ishr, 1)) (hq : pc + 1 = q) (kk : V g μ θ h k n L q (.int (x >>> (y &&& 31)) :: S)) : V g μ θ h k n L pc (.int y :: .int x :: S) := by
  subst hq
  exact fun p e s m args below meth c H locs ls B R hS hl => lv_ishr B.1 B.2.1 hd (kk p e s m args below meth c H locs ls B R hS hl)
theorem V_iushr {x y : Int32} (hd : decode μ.2.1 pc = .ok (.iushr, 1)) (hq : pc + 1 = q) (kk : V g μ θ h k n L q (.int ((x.toUInt32 >>> (y.toUInt32 &&& Int32.toUInt32 31)).toInt32) :: S)) : V g μ θ h k n L pc (.int y :: .int x :: S) := by
  subst hq
  exact fun p e s m args below meth c H locs ls B R hS hl => lv_iushr B.1 B.2.1 hd rfl (kk p e s m args below meth c H locs ls B R hS hl)
theorem V_irem {x y : Int32} (hd : decode μ.2.1 pc = .ok (.irem, 1)) (hq : pc + 1 = q) (hy : ¬ y = 0) (kk : V g μ θ h k n L q (.int (x - x / y * y) :: S)) : V g μ θ h k n L pc (.int y :: .int x :: S) := by
  subst hq
  exact fun p e s m args below meth c H locs ls B R hS hl => lv_irem B.1 B.2.1 hd hy (kk p e s m args below meth c H locs ls B R hS hl)
theorem V_dup {v : Value} (hd : decode μ.2.1 pc = .ok (.dup, 1)) (hq : pc + 1 = q) (hv : v.category = 1) (kk : V g μ θ h k n L q (v :: v :: S)) : V g μ θ h k n L pc (v :: S) := by
  subst hq
  exact fun p e s m args below meth c H locs ls B R hS hl => lv_dup B.1 B.2.1 hd (by rw [tv_cat]; exact hv) (kk p e s m args below meth c H locs ls B R hS hl)
theorem V_dup2 {v w : Value} (hd : decode μ.2.1 pc = .ok (.dup2, 1)) (hq : pc + 1 = q) (hv : v.category = 1) (hw : w.category = 1) (kk : V g μ θ h k n L q (v :: w :: v :: w :: S)) : V g μ θ h k n L pc (v :: w :: S) := by
  subst hq
  exact fun p e s m args below meth c H locs ls B R hS hl => lv_dup2_11 B.1 B.2.1 hd (by rw [tv_cat]; exact hv) (by rw [tv_cat]; exact hw) (kk p e s m args below meth c H locs ls B R hS hl)
theorem V_goto {off : Int} (hd : decode μ.2.1 pc = .ok (.goto off, 3)) (ht : (pc : Int) + off = (q : Int)) (kk : V g μ θ h k n L q S) : V g μ θ h k n L pc S :=
  fun p e s m args below meth c H locs ls B R hS hl => lv_goto B.1 B.2.1 hd ht (kk p e s m args below meth c H locs ls B R hS hl)
end ROWS
end
section
section ROWS
variable {g : GX} {μ : MT} {θ : TH} {h : AH} {k n : Nat} {L L' : List (Nat × Value)} {pc q tgt : Nat} {S : List Value}
theorem V_icmp_eq {x y : Int32} {off : Int} (hd : decode μ.2.1 pc = .ok (.if_icmp .eq off, 3)) (ht : (pc : Int) + off = (tgt : Int)) (hq : pc + 3 = q) (kt : x = y → V g μ θ h k n L tgt S) (kf : ¬ x = y → V g μ θ h k n L q S) : V g μ θ h k n L pc (.int y :: .int x :: S) := by
  subst hq
  exact fun p e s m args below meth c H locs ls B R hS hl => lv_icmp_eq B.1 B.2.1 hd ht (fun z => kt z p e s m args below meth c H locs ls B R hS hl) (fun z => kf z p e s m args below meth c H locs ls B R hS hl)
theorem V_if_eq {x : Int32} {off : Int} (hd : decode μ.2.1 pc = .ok (.ifCond .eq off, 3)) (ht : (pc : Int) + off = (tgt : Int)) (hq : pc + 3 = q) (kt : x = 0 → V g μ θ h k n L tgt S) (kf : ¬ x = 0 → V g μ θ h k n L q S) : V g μ θ h k n L pc (.int x :: S) := by
  subst hq
  exact fun p e s m args below meth c H locs ls B R hS hl => lv_if_eq B.1 B.2.1 hd ht (fun z => kt z p e s m args below meth c H locs ls B R hS hl) (fun z => kf z p e s m args below meth c H locs ls B R hS hl)
theorem V_icmp_ne {x y : Int32} {off : Int} (hd : decode μ.2.1 pc = .ok (.if_icmp .ne off, 3)) (ht : (pc : Int) + off = (tgt : Int)) (hq : pc + 3 = q) (kt : ¬ x = y → V g μ θ h k n L tgt S) (kf : x = y → V g μ θ h k n L q S) : V g μ θ h k n L pc (.int y :: .int x :: S) := by
  subst hq
  exact fun p e s m args below meth c H locs ls B R hS hl => lv_icmp_ne B.1 B.2.1 hd ht (fun z => kt z p e s m args below meth c H locs ls B R hS hl) (fun z => kf z p e s m args below meth c H locs ls B R hS hl)
theorem V_if_ne {x : Int32} {off : Int} (hd : decode μ.2.1 pc = .ok (.ifCond .ne off, 3)) (ht : (pc : Int) + off = (tgt : Int)) (hq : pc + 3 = q) (kt : ¬ x = 0 → V g μ θ h k n L tgt S) (kf : x = 0 → V g μ θ h k n L q S) : V g μ θ h k n L pc (.int x :: S) := by
  subst hq
  exact fun p e s m args below meth c H locs ls B R hS hl => lv_if_ne B.1 B.2.1 hd ht (fun z => kt z p e s m args below meth c H locs ls B R hS hl) (fun z => kf z p e s m args below meth c H locs ls B R hS hl)
theorem V_icmp_lt {x y : Int32} {off : Int} (hd : decode μ.2.1 pc = .ok (.if_icmp .lt off, 3)) (ht : (pc : Int) + off = (tgt : Int)) (hq : pc + 3 = q) (kt : x < y → V g μ θ h k n L tgt S) (kf : ¬ x < y → V g μ θ h k n L q S) : V g μ θ h k n L pc (.int y :: .int x :: S) := by
  subst hq
  exact fun p e s m args below meth c H locs ls B R hS hl => lv_icmp_lt B.1 B.2.1 hd ht (fun z => kt z p e s m args below meth c H locs ls B R hS hl) (fun z => kf z p e s m args below meth c H locs ls B R hS hl)
theorem V_if_lt {x : Int32} {off : Int} (hd : decode μ.2.1 pc = .ok (.ifCond .lt off, 3)) (ht : (pc : Int) + off = (tgt : Int)) (hq : pc + 3 = q) (kt : x < 0 → V g μ θ h k n L tgt S) (kf : ¬ x < 0 → V g μ θ h k n L q S) : V g μ θ h k n L pc (.int x :: S) := by
  subst hq
  exact fun p e s m args below meth c H locs ls B R hS hl => lv_if_lt B.1 B.2.1 hd ht (fun z => kt z p e s m args below meth c H locs ls B R hS hl) (fun z => kf z p e s m args below meth c H locs ls B R hS hl)
theorem V_icmp_ge {x y : Int32} {off : Int} (hd : decode μ.2.1 pc = .ok (.if_icmp .ge off, 3)) (ht : (pc : Int) + off = (tgt : Int)) (hq : pc + 3 = q) (kt : y ≤ x → V g μ θ h k n L tgt S) (kf : ¬ y ≤ x → V g μ θ h k n L q S) : V g μ θ h k n L pc (.int y :: .int x :: S) := by
  subst hq
  exact fun p e s m args below meth c H locs ls B R hS hl => lv_icmp_ge B.1 B.2.1 hd ht (fun z => kt z p e s m args below meth c H locs ls B R hS hl) (fun z => kf z p e s m args below meth c H locs ls B R hS hl)
theorem V_if_ge {x : Int32} {off : Int} (hd : decode μ.2.1 pc = .ok (.ifCond .ge off, 3)) (ht : (pc : Int) + off = (tgt : Int)) (hq : pc + 3 = q) (kt : 0 ≤ x → V g μ θ h k n L tgt S) (kf : ¬ 0 ≤ x → V g μ θ h k n L q S) : V g μ θ h k n L pc (.int x :: S) := by
  subst hq
  exact fun p e s m args below meth c H locs ls B R hS hl => lv_if_ge B.1 B.2.1 hd ht (fun z => kt z p e s m args below meth c H locs ls B R hS hl) (fun z => kf z p e s m args below meth c H locs ls B R hS hl)
theorem V_icmp_gt {x y : Int32} {off : Int} (hd : decode μ.2.1 pc = .ok (.if_icmp .gt off, 3)) (ht : (pc : Int) + off = (tgt : Int)) (hq : pc + 3 = q) (kt : y < x → V g μ θ h k n L tgt S) (kf : ¬ y < x → V g μ θ h k n L q S) : V g μ θ h k n L pc (.int y :: .int x :: S) := by
  subst hq
  exact fun p e s m args below meth c H locs ls B R hS hl => lv_icmp_gt B.1 B.2.1 hd ht (fun z => kt z p e s m args below meth c H locs ls B R hS hl) (fun z => kf z p e s m args below meth c H locs ls B R hS hl)
theorem V_if_gt {x : Int32} {off : Int} (hd : decode μ.2.1 pc = .ok (.ifCond .gt off, 3)) (ht : (pc : Int) + off = (tgt : Int)) (hq : pc + 3 = q) (kt : 0 < x → V g μ θ h k n L tgt S) (kf : ¬ 0 < x → V g μ θ h k n L q S) : V g μ θ h k n L pc (.int x :: S) := by
  subst hq
  exact fun p e s m args below meth c H locs ls B R hS hl => lv_if_gt B.1 B.2.1 hd ht (fun z => kt z p e s m args below meth c H locs ls B R hS hl) (fun z => kf z p e s m args below meth c H locs ls B R hS hl)
theorem V_icmp_le {x y : Int32} {off : Int} (hd : decode μ.2.1 pc = .ok (.if_icmp .le off, 3)) (ht : (pc : Int) + off = (tgt : Int)) (hq : pc + 3 = q) (kt : x ≤ y → V g μ θ h k n L tgt S) (kf : ¬ x ≤ y → V g μ θ h k n L q S) : V g μ θ h k n L pc (.int y :: .int x :: S) := by
  subst hq
  exact fun p e s m args below meth c H locs ls B R hS hl => lv_icmp_le B.1 B.2.1 hd ht (fun z => kt z p e s m args below meth c H locs ls B R hS hl) (fun z => kf z p e s m args below meth c H locs ls B R hS hl)
theorem V_if_le {x : Int32} {off : Int} (hd : decode μ.2.1 pc = .ok (.ifCond .le off, 3)) (ht : (pc : Int) + off = (tgt : Int)) (hq : pc + 3 = q) (kt : x ≤ 0 → V g μ θ h k n L tgt S) (kf : ¬ x ≤ 0 → V g μ θ h k n L q S) : V g μ θ h k n L pc (.int x :: S) := by
  subst hq
  exact fun p e s m args below meth c H locs ls B R hS hl => lv_if_le B.1 B.2.1 hd ht (fun z => kt z p e s m args below meth c H locs ls B R hS hl) (fun z => kf z p e s m args below meth c H locs ls B R hS hl)
theorem V_icmp_eqN {a b : Nat} {off : Int} (hd : decode μ.2.1 pc = .ok (.if_icmp .eq off, 3)) (ht : (pc : Int) + off = (tgt : Int)) (hq : pc + 3 = q) (ha : a < 2 ^ 31) (hb : b < 2 ^ 31) (kt : a = b → V g μ θ h k n L tgt S) (kf : ¬ a = b → V g μ θ h k n L q S) : V g μ θ h k n L pc (.int (nI b) :: .int (nI a) :: S) :=
  V_icmp_eq hd ht hq (fun z => kt ((nI_eq ha hb).mp z)) (fun z => kf (fun w => z ((nI_eq ha hb).mpr w)))
theorem V_if_eqN {a : Nat} {off : Int} (hd : decode μ.2.1 pc = .ok (.ifCond .eq off, 3)) (ht : (pc : Int) + off = (tgt : Int)) (hq : pc + 3 = q) (ha : a < 2 ^ 31) (kt : a = 0 → V g μ θ h k n L tgt S) (kf : 0 < a → V g μ θ h k n L q S) : V g μ θ h k n L pc (.int (nI a) :: S) :=
  V_if_eq hd ht hq (fun z => kt ((nI_eq ha (by decide)).mp (z.trans nI_0.symm))) (fun z => kf (Nat.pos_of_ne_zero (fun w => z (by rw [w]; rfl))))
theorem V_icmp_neN {a b : Nat} {off : Int} (hd : decode μ.2.1 pc = .ok (.if_icmp .ne off, 3)) (ht : (pc : Int) + off = (tgt : Int)) (hq : pc + 3 = q) (ha : a < 2 ^ 31) (hb : b < 2 ^ 31) (kt : ¬ a = b → V g μ θ h k n L tgt S) (kf : a = b → V g μ θ h k n L q S) : V g μ θ h k n L pc (.int (nI b) :: .int (nI a) :: S) :=
  V_icmp_ne hd ht hq (fun z => kt (fun w => z ((nI_eq ha hb).mpr w))) (fun z => kf ((nI_eq ha hb).mp z))
theorem V_if_neN {a : Nat} {off : Int} (hd : decode μ.2.1 pc = .ok (.ifCond .ne off, 3)) (ht : (pc : Int) + off = (tgt : Int)) (hq : pc + 3 = q) (ha : a < 2 ^ 31) (kt : 0 < a → V g μ θ h k n L tgt S) (kf : a = 0 → V g μ θ h k n L q S) : V g μ θ h k n L pc (.int (nI a) :: S) :=
  V_if_ne hd ht hq (fun z => kt (Nat.pos_of_ne_zero (fun w => z (by rw [w]; rfl)))) (fun z => kf ((nI_eq ha (by decide)).mp (z.trans nI_0.symm)))
theorem V_icmp_ltN {a b : Nat} {off : Int} (hd : decode μ.2.1 pc = .ok (.if_icmp .lt off, 3)) (ht : (pc : Int) + off = (tgt : Int)) (hq : pc + 3 = q) (ha : a < 2 ^ 31) (hb : b < 2 ^ 31) (kt : a < b → V g μ θ h k n L tgt S) (kf : b ≤ a → V g μ θ h k n L q S) : V g μ θ h k n L pc (.int (nI b) :: .int (nI a) :: S) :=
  V_icmp_lt hd ht hq (fun z => kt ((nI_ltI ha hb).mp z)) (fun z => kf (Nat.le_of_not_lt (fun w => z ((nI_ltI ha hb).mpr w))))
theorem V_if_ltN {a : Nat} {off : Int} (hd : decode μ.2.1 pc = .ok (.ifCond .lt off, 3)) (ht : (pc : Int) + off = (tgt : Int)) (hq : pc + 3 = q) (ha : a < 2 ^ 31) (kf : True → V g μ θ h k n L q S) : V g μ θ h k n L pc (.int (nI a) :: S) :=
  V_if_lt hd ht hq (fun z => absurd z (nI_pos ha)) (fun _ => kf trivial)
theorem V_icmp_geN {a b : Nat} {off : Int} (hd : decode μ.2.1 pc = .ok (.if_icmp .ge off, 3)) (ht : (pc : Int) + off = (tgt : Int)) (hq : pc + 3 = q) (ha : a < 2 ^ 31) (hb : b < 2 ^ 31) (kt : b ≤ a → V g μ θ h k n L tgt S) (kf : a < b → V g μ θ h k n L q S) : V g μ θ h k n L pc (.int (nI b) :: .int (nI a) :: S) :=
  V_icmp_ge hd ht hq (fun z => kt ((nI_leI hb ha).mp z)) (fun z => kf (Nat.lt_of_not_le (fun w => z ((nI_leI hb ha).mpr w))))
theorem V_if_geN {a : Nat} {off : Int} (hd : decode μ.2.1 pc = .ok (.ifCond .ge off, 3)) (ht : (pc : Int) + off = (tgt : Int)) (hq : pc + 3 = q) (ha : a < 2 ^ 31) (kt : True → V g μ θ h k n L tgt S) : V g μ θ h k n L pc (.int (nI a) :: S) :=
  V_if_ge hd ht hq (fun _ => kt trivial) (fun z => absurd (nI_pos' ha) z)
theorem V_icmp_gtN {a b : Nat} {off : Int} (hd : decode μ.2.1 pc = .ok (.if_icmp .gt off, 3)) (ht : (pc : Int) + off = (tgt : Int)) (hq : pc + 3 = q) (ha : a < 2 ^ 31) (hb : b < 2 ^ 31) (kt : b < a → V g μ θ h k n L tgt S) (kf : a ≤ b → V g μ θ h k n L q S) : V g μ θ h k n L pc (.int (nI b) :: .int (nI a) :: S) :=
  V_icmp_gt hd ht hq (fun z => kt ((nI_ltI hb ha).mp z)) (fun z => kf (Nat.le_of_not_lt (fun w => z ((nI_ltI hb ha).mpr w))))
theorem V_if_gtN {a : Nat} {off : Int} (hd : decode μ.2.1 pc = .ok (.ifCond .gt off, 3)) (ht : (pc : Int) + off = (tgt : Int)) (hq : pc + 3 = q) (ha : a < 2 ^ 31) (kt : 0 < a → V g μ θ h k n L tgt S) (kf : a = 0 → V g μ θ h k n L q S) : V g μ θ h k n L pc (.int (nI a) :: S) :=
  V_if_gt hd ht hq (fun z => kt ((nI_ltI (by decide) ha).mp (show nI 0 < nI a from z))) (fun z => kf (Nat.eq_zero_of_not_pos (fun w => z (show nI 0 < nI a from (nI_ltI (by decide) ha).mpr w))))
theorem V_icmp_leN {a b : Nat} {off : Int} (hd : decode μ.2.1 pc = .ok (.if_icmp .le off, 3)) (ht : (pc : Int) + off = (tgt : Int)) (hq : pc + 3 = q) (ha : a < 2 ^ 31) (hb : b < 2 ^ 31) (kt : a ≤ b → V g μ θ h k n L tgt S) (kf : b < a → V g μ θ h k n L q S) : V g μ θ h k n L pc (.int (nI b) :: .int (nI a) :: S) :=
  V_icmp_le hd ht hq (fun z => kt ((nI_leI ha hb).mp z)) (fun z => kf (Nat.lt_of_not_le (fun w => z ((nI_leI ha hb).mpr w))))
theorem V_if_leN {a : Nat} {off : Int} (hd : decode μ.2.1 pc = .ok (.ifCond .le off, 3)) (ht : (pc : Int) + off = (tgt : Int)) (hq : pc + 3 = q) (ha : a < 2 ^ 31) (kt : a = 0 → V g μ θ h k n L tgt S) (kf : 0 < a → V g μ θ h k n L q S) : V g μ θ h k n L pc (.int (nI a) :: S) :=
  V_if_le hd ht hq (fun z => kt (Nat.le_zero.mp ((nI_leI ha (by decide)).mp (show nI a ≤ nI 0 from z)))) (fun z => kf (Nat.pos_of_ne_zero (fun w => z (by rw [w]; decide))))
theorem V_if_eqB {b : Bool} {off : Int} (hd : decode μ.2.1 pc = .ok (.ifCond .eq off, 3)) (ht : (pc : Int) + off = (tgt : Int)) (hq : pc + 3 = q) (kt : b = false → V g μ θ h k n L tgt S) (kf : b = true → V g μ θ h k n L q S) : V g μ θ h k n L pc (.int (bi b) :: S) :=
  V_if_eq hd ht hq (fun z => kt (bi_eq0.mp z)) (fun z => kf (bi_ne0.mp z))
theorem V_if_neB {b : Bool} {off : Int} (hd : decode μ.2.1 pc = .ok (.ifCond .ne off, 3)) (ht : (pc : Int) + off = (tgt : Int)) (hq : pc + 3 = q) (kt : b = true → V g μ θ h k n L tgt S) (kf : b = false → V g μ θ h k n L q S) : V g μ θ h k n L pc (.int (bi b) :: S) :=
  V_if_ne hd ht hq (fun z => kt (bi_ne0.mp z)) (fun z => kf (bi_eq0.mp z))
theorem bi_inj {a b : Bool} (z : bi a = bi b) : a = b := by cases a <;> cases b <;> first | rfl | exact absurd z (by decide)
theorem V_icmp_neB {a b : Bool} {off : Int} (hd : decode μ.2.1 pc = .ok (.if_icmp .ne off, 3)) (ht : (pc : Int) + off = (tgt : Int)) (hq : pc + 3 = q) (kt : ¬ a = b → V g μ θ h k n L tgt S) (kf : a = b → V g μ θ h k n L q S) : V g μ θ h k n L pc (.int (bi b) :: .int (bi a) :: S) :=
  V_icmp_ne hd ht hq (fun z => kt (fun w => z (by rw [w]))) (fun z => kf (bi_inj z))
/-- arithmetic of small numbers -/
theorem V_iaddN {a b : Nat} (hd : decode μ.2.1 pc = .ok (.iadd, 1)) (hq : pc + 1 = q) (kk : V g μ θ h k n L q (.int (nI (a + b)) :: S)) : V g μ θ h k n L pc (.int (nI b) :: .int (nI a) :: S) := V_iadd hd hq (by rw [nI_add]; exact kk)
theorem V_imulN {a b : Nat} (hd : decode μ.2.1 pc = .ok (.imul, 1)) (hq : pc + 1 = q) (kk : V g μ θ h k n L q (.int (nI (a * b)) :: S)) : V g μ θ h k n L pc (.int (nI b) :: .int (nI a) :: S) := V_imul hd hq (by rw [pk_mul]; exact kk)
theorem V_isubN {a b : Nat} (hd : decode μ.2.1 pc = .ok (.isub, 1)) (hq : pc + 1 = q) (hab : b ≤ a) (kk : V g μ θ h k n L q (.int (nI (a - b)) :: S)) : V g μ θ h k n L pc (.int (nI b) :: .int (nI a) :: S) := V_isub hd hq (by rw [pk_sub hab]; exact kk)
theorem V_iremN {a b : Nat} (hd : decode μ.2.1 pc = .ok (.irem, 1)) (hq : pc + 1 = q) (ha : a < 2 ^ 31) (h0 : 0 < b) (hb : b < 2 ^ 31) (kk : V g μ θ h k n L q (.int (nI (a % b)) :: S)) : V g μ θ h k n L pc (.int (nI b) :: .int (nI a) :: S) := V_irem hd hq (nI_ne0 h0 hb) (by rw [pk_rem ha h0 hb]; exact kk)
theorem V_iincN {j i : Nat} {a : Nat} (hd : decode μ.2.1 pc = .ok (.iinc i 1, 3)) (hq : pc + 3 = q) (hj : L[j]? = some (i, .int (nI a))) (hi : Nat.blt i μ.2.2.1 = true) (hL : (i, Value.int (nI (a + 1))) :: lfi i L = L') (kk : V g μ θ h k n L' q S) : V g μ θ h k n L pc S := V_iinc hd hq hj (by rw [nI_succ]; rfl) hi hL kk
/-- the top of the stack under another name -/
theorem V_rw {x y : Int32} (e : x = y) (kk : V g μ θ h k n L pc (.int y :: S)) : V g μ θ h k n L pc (.int x :: S) := by rw [e]; exact kk
theorem V_st {S' : List Value} (e : S = S') (kk : V g μ θ h k n L pc S') : V g μ θ h k n L pc S := by rw [e]; exact kk
theorem V_lc (e : L = L') (kk : V g μ θ h k n L' pc S) : V g μ θ h k n L pc S := by rw [e]; exact kk
theorem V_hp {h' : AH} (e : h = h') (kk : V g μ θ h' k n L pc S) : V g μ θ h k n L pc S := by rw [e]; exact kk
theorem V_sub (ks : List Nat) (hl : ks.filterMap (fun i => L[i]?) = L') (kk : V g μ θ h k n L' pc S) : V g μ θ h k n L pc S :=
  fun p e s m args below meth c H locs ls B R hS hl' => kk p e s m args below meth c H locs ls B R hS (by
    refine ⟨hl'.1, hl'.2.1, fun q hq => ?_⟩
    obtain ⟨w, hw, rfl⟩ := List.mem_map.mp hq
    rw [← hl] at hw
    obtain ⟨i, -, hi⟩ := List.mem_filterMap.mp hw
    exact hl'.2.2 _ (List.mem_map.mpr ⟨w, List.mem_of_getElem? hi, rfl⟩))
/-- longs -/
theorem V_i2l {x : Int32} (hd : decode μ.2.1 pc = .ok (.i2l, 1)) (hq : pc + 1 = q) (kk : V g μ θ h k n L q (.long x.toInt64 :: S)) : V g μ θ h k n L pc (.int x :: S) := by
  subst hq
  exact fun p e s m args below meth c H locs ls B R hS hl => lv_i2l B.1 B.2.1 hd rfl (kk p e s m args below meth c H locs ls B R hS hl)
theorem V_l2i {x : Int64} (hd : decode μ.2.1 pc = .ok (.l2i, 1)) (hq : pc + 1 = q) (kk : V g μ θ h k n L q (.int x.toInt32 :: S)) : V g μ θ h k n L pc (.long x :: S) := by
  subst hq
  exact fun p e s m args below meth c H locs ls B R hS hl => lv_l2i B.1 B.2.1 hd rfl (kk p e s m args below meth c H locs ls B R hS hl)
theorem V_lconst {c : Fin 2} {v : Int64} (hd : decode μ.2.1 pc = .ok (.lconst c, 1)) (hq : pc + 1 = q) (hv : Int64.ofNat (c : Nat) = v) (kk : V g μ θ h k n L q (.long v :: S)) : V g μ θ h k n L pc S := by
  subst hq
  exact fun p e s m args below meth c H locs ls B R hS hl => lv_lconst B.1 B.2.1 hd hv (kk p e s m args below meth c H locs ls B R hS hl)
theorem V_lshl {x : Int64} {y : Int32} (hd : decode μ.2.1 pc = .ok (.lshl, 1)) (hq : pc + 1 = q) (kk : V g μ θ h k n L q (.long (x <<< (y.toInt64 &&& 63)) :: S)) : V g μ θ h k n L pc (.int y :: .long x :: S) := by
  subst hq
  exact fun p e s m args below meth c H locs ls B R hS hl => lv_lshl B.1 B.2.1 hd rfl (kk p e s m args below meth c H locs ls B R hS hl)
theorem V_lor {x y : Int64} (hd : decode μ.2.1 pc = .ok (.lor, 1)) (hq : pc + 1 = q) (kk : V g μ θ h k n L q (.long (x ||| y) :: S)) : V g μ θ h k n L pc (.long y :: .long x :: S) := by
  subst hq
  exact fun p e s m args below meth c H locs ls B R hS hl => lv_lor B.1 B.2.1 hd (kk p e s m args below meth c H locs ls B R hS hl)
theorem V_ladd {x y : Int64} (hd : decode μ.2.1 pc = .ok (.ladd, 1)) (hq : pc + 1 = q) (kk : V g μ θ h k n L q (.long (x + y) :: S)) : V g μ θ h k n L pc (.long y :: .long x :: S) := by
  subst hq
  exact fun p e s m args below meth c H locs ls B R hS hl => lv_ladd B.1 B.2.1 hd (kk p e s m args below meth c H locs ls B R hS hl)
theorem V_lcmp {x y : Int64} (hd : decode μ.2.1 pc = .ok (.lcmp, 1)) (hq : pc + 1 = q) (kk : V g μ θ h k n L q (.int (lg_cmp x y) :: S)) : V g μ θ h k n L pc (.long y :: .long x :: S) := by
  subst hq
  exact fun p e s m args below meth c H locs ls B R hS hl => W.lcmp B.1 B.2.1 hd (kk p e s m args below meth c H locs ls B R hS hl)
/-- switches -/
theorem V_tableIn {dflt lo hi : Int} {offs : Array Int} {len : Nat} {x : Int32} {off : Int} (hd : decode μ.2.1 pc = .ok (.tableswitch dflt lo hi offs, len)) (h1 : ¬ x.toInt < lo) (h2 : ¬ hi < x.toInt) (ho : offs[(x.toInt - lo).toNat]? = some off) (ht : (pc : Int) + off = (tgt : Int)) (kk : V g μ θ h k n L tgt S) : V g μ θ h k n L pc (.int x :: S) :=
  fun p e s m args below meth c H locs ls B R hS hl => lv_tableIn B.1 B.2.1 hd h1 h2 ho ht (kk p e s m args below meth c H locs ls B R hS hl)
theorem V_tableOut {dflt lo hi : Int} {offs : Array Int} {len : Nat} {x : Int32} (hd : decode μ.2.1 pc = .ok (.tableswitch dflt lo hi offs, len)) (h1 : x.toInt < lo ∨ hi < x.toInt) (ht : (pc : Int) + dflt = (tgt : Int)) (kk : V g μ θ h k n L tgt S) : V g μ θ h k n L pc (.int x :: S) :=
  fun p e s m args below meth c H locs ls B R hS hl => lv_tableOut B.1 B.2.1 hd h1 ht (kk p e s m args below meth c H locs ls B R hS hl)
end ROWS
section RETS
variable {g : GX} {μ : MT} {d mc ms : Nat} {post : Option Value → AH → Prop} {h : AH} {k n : Nat} {L : List (Nat × Value)} {pc : Nat}
theorem V_iret {v : Int32} (hr : μ.2.2.2 = some .int) (hd : decode μ.2.1 pc = .ok (.ireturn, 1)) (hk : Nat.ble k mc = true) (hn : Nat.ble n ms = true) (hp : post (some (.int v)) h) : V g μ (thM g d mc ms post) h k n L pc [.int v] :=
  fun p e s m args below meth c H locs ls B R hS hl => W.widen (Nat.le_of_ble_eq_true hk) (Nat.le_of_ble_eq_true hn) (W.iret (v := v) B.1 B.2.1 (B.2.2.1.trans hr) (fun t ht hW => ⟨⟨_, h, rfl, hp, by rw [ht]; exact R⟩, hS.F ht⟩) hS.2.2 hd B.2.2.2.2.2.2.1)
theorem V_zret {b : Bool} (hr : μ.2.2.2 = some .boolean) (hd : decode μ.2.1 pc = .ok (.ireturn, 1)) (hk : Nat.ble k mc = true) (hn : Nat.ble n ms = true) (hp : post (some (.int (bi b))) h) : V g μ (thM g d mc ms post) h k n L pc [.int (bi b)] :=
  fun p e s m args below meth c H locs ls B R hS hl => W.widen (Nat.le_of_ble_eq_true hk) (Nat.le_of_ble_eq_true hn) (W.zret (v := bi b) B.1 B.2.1 (B.2.2.1.trans hr) (bi_nar b) (fun t ht hW => ⟨⟨_, h, rfl, hp, by rw [ht]; exact R⟩, hS.F ht⟩) hS.2.2 hd B.2.2.2.2.2.2.1)
theorem V_vret (hr : μ.2.2.2 = none) (hd : decode μ.2.1 pc = .ok (.return_, 1)) (hk : Nat.ble k mc = true) (hn : Nat.ble n ms = true) (hp : post none h) : V g μ (thM g d mc ms post) h k n L pc [] :=
  fun p e s m args below meth c H locs ls B R hS hl => W.widen (Nat.le_of_ble_eq_true hk) (Nat.le_of_ble_eq_true hn) (W.vret B.1 B.2.1 (B.2.2.1.trans hr) (fun t ht hW => ⟨⟨_, h, rfl, hp, by rw [ht]; exact R⟩, hS.F ht⟩) hS.2.2 hd B.2.2.2.2.2.2.1)
theorem V_aret {a : Nat} {C : String} (hr : μ.2.2.2 = some (.object C)) (hd : decode μ.2.1 pc = .ok (.areturn, 1)) (hk : Nat.ble k mc = true) (hn : Nat.ble n ms = true) (hp : post (some (.ref a)) h) : V g μ (thM g d mc ms post) h k n L pc [.ref a] :=
  fun p e s m args below meth c H locs ls B R hS hl => W.widen (Nat.le_of_ble_eq_true hk) (Nat.le_of_ble_eq_true hn) (W.aret (v := tv g (.ref a)) B.1 B.2.1 (B.2.2.1.trans hr) (Or.inl ⟨C, rfl⟩) (Or.inr ⟨_, rfl⟩) (fun t ht hW => ⟨⟨some (.ref a), h, rfl, hp, by rw [ht]; exact R⟩, hS.F ht⟩) hS.2.2 hd B.2.2.2.2.2.2.1)
end RETS
end
section
/-- one slot changed -/
def sI (h : AH) (a j : Nat) (v : Int32) : AH := (h.1, fun b i => if b = a ∧ i = j then v else hI h b i, hJ h, hP h)
def sJ (h : AH) (a j : Nat) (v : Int64) : AH := (h.1, hI h, fun b i => if b = a ∧ i = j then v else hJ h b i, hP h)
def sP (h : AH) (a j : Nat) (v : Option Nat) : AH := (h.1, hI h, hJ h, fun b i => if b = a ∧ i = j then v else hP h b i)
/-- a field under its number in the constant pool of 'own' -/
def FL (own : String) (idx ci fk : Nat) : Prop := ∃ (C : String) (T : u_T) (ty : Nat → FieldType) (N : Nat), vwCl[ci]? = some (C, T, N) ∧ fk < N ∧ ci < 9 ∧ Cond.fieldLink own idx (T fk).1 (T fk).2.1 (T fk).2.2.1 ∈ gt ∧ (∀ w ∈ u_ws C T N, w ∈ gt) ∧
  (∀ k, k < N → parseFieldDescriptor (T k).2.2.1 = some (ty k)) ∧ (∀ a, a < N → ∀ b, b < N → a ≠ b → (T a).2.1 ≠ (T b).2.1)
/-- the same, the field may be written: it isn't final -/
def FW (own : String) (idx ci fk : Nat) (t : FieldType) : Prop := FL own idx ci fk ∧ ∀ (C : String) (T : u_T) (N : Nat), vwCl[ci]? = some (C, T, N) → (T fk).2.2.2 = false ∧ parseFieldDescriptor (T fk).2.2.1 = some t
/-- the same, a final field of the class whose constructor writes it -/
def FF (own : String) (idx ci fk : Nat) (t : FieldType) : Prop := FL own idx ci fk ∧ ∀ (C : String) (T : u_T) (N : Nat), vwCl[ci]? = some (C, T, N) → (T fk).2.2.2 = true ∧ (T fk).1 = own ∧ parseFieldDescriptor (T fk).2.2.1 = some t
theorem Rep.obj {g : GX} {h : AH} {H : Heap} {a ci N : Nat} (R : Rep g h H) (hs : h.1[a]? = some (ci, N)) (hc : ci < 9) : ∃ r : vw_C, vwCl[ci]? = some r ∧ r.2.2 = N ∧ t_OB (gB g + a) ((gD g).1 ci) N ((gD g).2 ci) H (cv g h ci a) := by
  have := R.2 a _ hs
  unfold cellOk at this
  rw [if_pos hc] at this
  exact this
theorem Rep.arr {g : GX} {h : AH} {H : Heap} {a ci N : Nat} (R : Rep g h H) (hs : h.1[a]? = some (ci, N)) (hc : ¬ ci < 9) : H[gB g + a]? = some (arrV (gC g ci) N (cv g h ci a)) := by
  have := R.2 a _ hs
  unfold cellOk at this
  rw [if_neg hc] at this
  exact this
/-- a heap in which one cell has changed -/
theorem Rep.put {g : GX} {h h' : AH} {H H' : Heap} {a : Nat} {q : Nat × Nat} (R : Rep g h H) (hs : h.1[a]? = some q) (e1 : h'.1 = h.1) (ho : ∀ b c j, b ≠ a → cv g h' c b j = cv g h c b j) (hz : H'.size = H.size) (oq : ∀ x, x ≠ gB g + a → H'[x]? = H[x]?) (hn : cellOk g h' a q H') : Rep g h' H' := by
  refine ⟨by rw [hz, e1]; exact R.1, fun b qb hb => ?_⟩
  rw [e1] at hb
  by_cases e : b = a
  · subst e
    cases hs.symm.trans hb
    exact hn
  · have h0 := R.2 b qb hb
    have hx : H'[gB g + b]? = H[gB g + b]? := oq _ (by omega)
    unfold cellOk at h0 ⊢
    split
    · rename_i hc
      rw [if_pos hc] at h0
      obtain ⟨r, h1, h2, h3⟩ := h0
      exact ⟨r, h1, h2, (h3.kept hx).to (fun j _ => (ho b qb.1 j e).symm)⟩
    · rename_i hc
      rw [if_neg hc] at h0
      rw [hx, h0]
      congr 2
      funext j
      exact (ho b qb.1 j e).symm
theorem cv_sI (g : GX) (h : AH) (a j : Nat) (v : Int32) (c b i : Nat) : cv g (sI h a j v) c b i = if b = a ∧ i = j ∧ sty c i = 0 then .int v else cv g h c b i := by
  show (if sty c i = 0 then Value.int (if b = a ∧ i = j then v else hI h b i) else if sty c i = 1 then .long (hJ h b i) else rv g (hP h b i)) = _
  unfold cv
  by_cases e : b = a ∧ i = j
  · obtain ⟨rfl, rfl⟩ := e
    by_cases h0 : sty c i = 0 <;> simp [h0]
  · have e2 : ¬ (b = a ∧ i = j ∧ sty c i = 0) := fun w => e ⟨w.1, w.2.1⟩
    simp only [if_neg e, if_neg e2]
theorem cv_sJ (g : GX) (h : AH) (a j : Nat) (v : Int64) (c b i : Nat) : cv g (sJ h a j v) c b i = if b = a ∧ i = j ∧ sty c i = 1 then .long v else cv g h c b i := by
  show (if sty c i = 0 then Value.int (hI h b i) else if sty c i = 1 then .long (if b = a ∧ i = j then v else hJ h b i) else rv g (hP h b i)) = _
  unfold cv
  by_cases e : b = a ∧ i = j
  · obtain ⟨rfl, rfl⟩ := e
    by_cases h0 : sty c i = 1 <;> simp [h0]
  · have e2 : ¬ (b = a ∧ i = j ∧ sty c i = 1) := fun w => e ⟨w.1, w.2.1⟩
    simp only [if_neg e, if_neg e2]
theorem sty_3 (c j : Nat) : sty c j = 0 ∨ sty c j = 1 ∨ sty c j = 2 := by
  unfold sty
  split <;> first | decide | (split <;> first | decide | (split <;> decide))
theorem cv_sP (g : GX) (h : AH) (a j : Nat) (v : Option Nat) (c b i : Nat) : cv g (sP h a j v) c b i = if b = a ∧ i = j ∧ sty c i = 2 then rv g v else cv g h c b i := by
  show (if sty c i = 0 then Value.int (hI h b i) else if sty c i = 1 then .long (hJ h b i) else rv g (if b = a ∧ i = j then v else hP h b i)) = _
  unfold cv
  by_cases e : b = a ∧ i = j
  · obtain ⟨rfl, rfl⟩ := e
    rcases sty_3 c i with h0 | h0 | h0 <;> simp [h0]
  · have e2 : ¬ (b = a ∧ i = j ∧ sty c i = 2) := fun w => e ⟨w.1, w.2.1⟩
    simp only [if_neg e, if_neg e2]
section HEAP
variable {g : GX} {μ : MT} {θ : TH} {h : AH} {k n : Nat} {L L' : List (Nat × Value)} {pc q tgt : Nat} {S : List Value}
theorem V_getc {a idx ci fk N : Nat} {v : Value} (hl : FL μ.1.cls idx ci fk) (hs : h.1[a]? = some (ci, N)) (hv : cv g h ci a fk = tv g v) (hd : decode μ.2.1 pc = .ok (.getfield idx, 3)) (hq : pc + 3 = q) (kk : V g μ θ h k n L q (v :: S)) : V g μ θ h k n L pc (.ref a :: S) := by
  subst hq
  intro p e s m args below meth c H locs ls B R hS hl'
  obtain ⟨C, T, ty, N', hc, hk, hci, hlk, hin, -, -⟩ := hl
  obtain ⟨r, h1, h2, cell, q1, q2, q3, q4⟩ := R.obj hs hci
  have hr : r = (C, T, N') := Option.some.inj (h1.symm.trans hc)
  subst hr
  subst h2
  obtain ⟨hS', hfc, kC, hkC, hkind⟩ := B.2.2.2.2.2.2.2.2.1.1.1 ci _ hc
  obtain ⟨cf, kf, fi, f, hi, hsl⟩ := hS' fk hk
  refine W.getf B.1 B.2.1 B.2.2.2.2.1 (B.2.2.2.2.2.1 _ hlk) hi (u_facts hfc hkC (u_lays B.2.2.2.2.2.1 hin hk) hi).1 q1 (by rw [q3]; exact fun h => by cases h) (v := tv g v) ?_ rfl rfl hd (kk p e s m args below meth c H locs ls B R hS hl')
  rw [hsl, q4 fk hk, hv]
theorem V_getI {a idx ci fk N : Nat} (hl : FL μ.1.cls idx ci fk) (hs : h.1[a]? = some (ci, N)) (hy : sty ci fk = 0) (hd : decode μ.2.1 pc = .ok (.getfield idx, 3)) (hq : pc + 3 = q) (kk : V g μ θ h k n L q (.int (hI h a fk) :: S)) : V g μ θ h k n L pc (.ref a :: S) :=
  V_getc hl hs (by unfold cv; rw [if_pos hy]; rfl) hd hq kk
theorem V_getP {a idx ci fk N r : Nat} (hl : FL μ.1.cls idx ci fk) (hs : h.1[a]? = some (ci, N)) (hy : sty ci fk = 2) (hr : hP h a fk = some r) (hd : decode μ.2.1 pc = .ok (.getfield idx, 3)) (hq : pc + 3 = q) (kk : V g μ θ h k n L q (.ref r :: S)) : V g μ θ h k n L pc (.ref a :: S) :=
  V_getc hl hs (by unfold cv; rw [if_neg (by rw [hy]; decide), if_neg (by rw [hy]; decide), hr]; rfl) hd hq kk
/-- a field is written -/
theorem V_putc {a idx ci fk N : Nat} {v : Value} {t : FieldType} {h' : AH} (hl : FW μ.1.cls idx ci fk t) (hs : h.1[a]? = some (ci, N)) (hn : narrow t (tv g v) = tv g v) (hf : fits t (tv g v) = true) (e1 : h'.1 = h.1) (hc' : ∀ c b j, cv g h' c b j = if b = a ∧ j = fk ∧ sty c j = sty ci fk then tv g v else cv g h c b j) (hd : decode μ.2.1 pc = .ok (.putfield idx, 3)) (hq : pc + 3 = q) (kk : V g μ θ h' k n L q S) : V g μ θ h k n L pc (v :: .ref a :: S) := by
  subst hq
  intro p e s m args below meth c H locs ls B R hS hl'
  obtain ⟨⟨C, T, ty0, N', hc, hk, hci, hlk, hin, hty, hnm⟩, hw⟩ := hl
  obtain ⟨r, h1, h2, cell, q1, q2, q3, q4⟩ := R.obj hs hci
  have hr : r = (C, T, N') := Option.some.inj (h1.symm.trans hc)
  subst hr
  subst h2
  obtain ⟨hfin, hdesc⟩ := hw C T N' hc
  have hts := B.2.2.2.2.2.1
  have hap := va_apart (own := μ.1.cls) hts hin ty0 hty hnm B.2.2.2.2.2.2.2.2.1.1 hc
  obtain ⟨hS', hfc, kC, hkC, hkind⟩ := B.2.2.2.2.2.2.2.2.1.1.1 ci _ hc
  obtain ⟨cf, kf, fi, f, hi, hsl⟩ := hS' fk hk
  have hlay := hts _ (hin _ (u_in_lay hk))
  unfold u_lay at hlay
  rw [if_neg (by rw [hfin]; decide)] at hlay
  have hst := (u_facts hfc hkC (u_lays hts hin hk) hi).1
  have h6 := u_store hfc hkC hkind hlay hi hdesc hn hf
  refine W.putK B.1 B.2.1 (f := f) ⟨B.2.2.2.2.1, hts _ hlk, ⟨_, _, _, hi⟩, hst⟩ (by rw [q2]; exact h6) q1 q3 (by rw [hsl]; exact k2_hasslot (q4 fk hk)) rfl rfl hd fun H' x1 x2 x3 => ?_
  rw [hsl] at x1 ⊢
  refine kk p e s m args below meth c H' _ ls B (R.put hs e1 (fun b c j hb => by rw [hc', if_neg (fun w => hb w.1)]) x2 x3 ?_) (hS.put x2 x3 (Nat.le_add_right _ _)) hl'
  unfold cellOk
  rw [if_pos hci]
  refine ⟨(C, T, N'), hc, rfl, t_OB.to (V := updV (cv g h ci a) fk (tv g v)) ⟨_, x1, q2, q3, t_set q4 hap hk (tv g v)⟩ (fun j _ => ?_)⟩
  rw [hc']
  unfold updV
  by_cases hj : j = fk
  · subst hj
    simp
  · rw [if_neg hj, if_neg (fun w => hj w.2.1)]
theorem V_putI {a idx ci fk N : Nat} {v : Int32} (hl : FW μ.1.cls idx ci fk .int) (hs : h.1[a]? = some (ci, N)) (hy : sty ci fk = 0) (hd : decode μ.2.1 pc = .ok (.putfield idx, 3)) (hq : pc + 3 = q) (kk : V g μ θ (sI h a fk v) k n L q S) : V g μ θ h k n L pc (.int v :: .ref a :: S) :=
  V_putc (h' := sI h a fk v) hl hs rfl rfl rfl (fun c b j => by rw [cv_sI, hy]; rfl) hd hq kk
theorem V_putZ {a idx ci fk N : Nat} {b : Bool} (hl : FW μ.1.cls idx ci fk .boolean) (hs : h.1[a]? = some (ci, N)) (hy : sty ci fk = 0) (hd : decode μ.2.1 pc = .ok (.putfield idx, 3)) (hq : pc + 3 = q) (kk : V g μ θ (sI h a fk (bi b)) k n L q S) : V g μ θ h k n L pc (.int (bi b) :: .ref a :: S) :=
  V_putc (h' := sI h a fk (bi b)) hl hs (bi_nar b) (by cases b <;> rfl) rfl (fun c b j => by rw [cv_sI, hy]; rfl) hd hq kk
/-- a final field is written by its constructor -/
theorem V_putFc {a idx ci fk N : Nat} {v : Value} {t : FieldType} {h' : AH} (hl : FF μ.1.cls idx ci fk t) (hin2 : μ.1.name = "<init>") (hs : h.1[a]? = some (ci, N)) (hn : narrow t (tv g v) = tv g v) (hf : fits t (tv g v) = true) (e1 : h'.1 = h.1) (hc' : ∀ c b j, cv g h' c b j = if b = a ∧ j = fk ∧ sty c j = sty ci fk then tv g v else cv g h c b j) (hd : decode μ.2.1 pc = .ok (.putfield idx, 3)) (hq : pc + 3 = q) (kk : V g μ θ h' k n L q S) : V g μ θ h k n L pc (v :: .ref a :: S) := by
  subst hq
  intro p e s m args below meth c H locs ls B R hS hl'
  obtain ⟨⟨C, T, ty0, N', hc, hk, hci, hlk, hin, hty, hnm⟩, hw⟩ := hl
  obtain ⟨r, h1, h2, cell, q1, q2, q3, q4⟩ := R.obj hs hci
  have hr : r = (C, T, N') := Option.some.inj (h1.symm.trans hc)
  subst hr
  subst h2
  obtain ⟨hfin, hdecl, hdesc⟩ := hw C T N' hc
  have hts := B.2.2.2.2.2.1
  have hap := va_apart (own := μ.1.cls) hts hin ty0 hty hnm B.2.2.2.2.2.2.2.2.1.1 hc
  obtain ⟨hS', hfc, kC, hkC, hkind⟩ := B.2.2.2.2.2.2.2.2.1.1.1 ci _ hc
  obtain ⟨cf, kf, fi, f, hi, hsl⟩ := hS' fk hk
  have hlay := hts _ (hin _ (u_in_lay hk))
  unfold u_lay at hlay
  rw [if_pos hfin] at hlay
  have hst := (u_facts hfc hkC (u_lays hts hin hk) hi).1
  have hcf : m.cls = cf := by
    obtain ⟨_, _, c', _, _, _, -, -, hf', -, -, -, hown2, -⟩ := Cond.laysFinal_spec hlay
    have e1 : c' = cf := by have := hi.symm.trans hf'; simp at this; exact this.1.symm
    rw [hdecl] at hown2
    rw [← e1]; exact Option.some.inj (B.2.2.2.2.1.symm.trans hown2)
  have h6 := u_fits hfc hkC hkind (Or.inr hlay) hi hdesc hn hf
  refine W.putFinK B.1 B.2.1 B.2.2.2.2.1 (hts _ hlk) hi hst hcf (B.2.2.2.2.2.2.2.1 hin2) (by rw [q2]; exact h6) q1 q3 (by rw [hsl]; exact k2_hasslot (q4 fk hk)) rfl rfl hd fun H' x1 x2 x3 => ?_
  rw [hsl] at x1 ⊢
  refine kk p e s m args below meth c H' _ ls B (R.put hs e1 (fun b c j hb => by rw [hc', if_neg (fun w => hb w.1)]) x2 x3 ?_) (hS.put x2 x3 (Nat.le_add_right _ _)) hl'
  unfold cellOk
  rw [if_pos hci]
  refine ⟨(C, T, N'), hc, rfl, t_OB.to (V := updV (cv g h ci a) fk (tv g v)) ⟨_, x1, q2, q3, t_set q4 hap hk (tv g v)⟩ (fun j _ => ?_)⟩
  rw [hc']
  unfold updV
  by_cases hj : j = fk
  · subst hj
    simp
  · rw [if_neg hj, if_neg (fun w => hj w.2.1)]
theorem V_putFI {a idx ci fk N : Nat} {v : Int32} (hl : FF μ.1.cls idx ci fk .int) (hin2 : μ.1.name = "<init>") (hs : h.1[a]? = some (ci, N)) (hy : sty ci fk = 0) (hd : decode μ.2.1 pc = .ok (.putfield idx, 3)) (hq : pc + 3 = q) (kk : V g μ θ (sI h a fk v) k n L q S) : V g μ θ h k n L pc (.int v :: .ref a :: S) :=
  V_putFc (h' := sI h a fk v) hl hin2 hs rfl rfl rfl (fun c b j => by rw [cv_sI, hy]; rfl) hd hq kk
theorem V_putFP {a idx ci fk N r : Nat} {t : FieldType} (hl : FF μ.1.cls idx ci fk t) (ht : (∃ C, t = .object C) ∨ ∃ u, t = .array u) (hin2 : μ.1.name = "<init>") (hs : h.1[a]? = some (ci, N)) (hy : sty ci fk = 2) (hd : decode μ.2.1 pc = .ok (.putfield idx, 3)) (hq : pc + 3 = q) (kk : V g μ θ (sP h a fk (some r)) k n L q S) : V g μ θ h k n L pc (.ref r :: .ref a :: S) :=
  V_putFc (h' := sP h a fk (some r)) hl hin2 hs (by rcases ht with ⟨C, rfl⟩ | ⟨u, rfl⟩ <;> rfl) (by rcases ht with ⟨C, rfl⟩ | ⟨u, rfl⟩ <;> rfl) rfl (fun c b j => by rw [cv_sP, hy]; rfl) hd hq kk
/-- arrays -/
theorem V_iald {a i N : Nat} (hs : h.1[a]? = some (9, N)) (hi : i < N) (hN : N < 2 ^ 31) (hd : decode μ.2.1 pc = .ok (.iaload, 1)) (hq : pc + 1 = q) (kk : V g μ θ h k n L q (.int (hI h a i) :: S)) : V g μ θ h k n L pc (.int (nI i) :: .ref a :: S) := by
  subst hq
  intro p e s m args below meth c H locs ls B R hS hl'
  have hcl := nI_clamp (n := i) (by omega)
  exact W.iald (v := .int (hI h a i)) B.1 B.2.1 (R.arr hs (by decide)) ((B.2.2.2.2.2.2.2.2.1.1.2 0 _ rfl).1 N _) (fun q => by cases q) (by rw [arrV_size]; exact nI_in hi hN) (by rw [hcl, arrV_read _ _ hi]; rfl) rfl rfl hd (kk p e s m args below meth c H locs ls B R hS hl')
theorem V_zald {a i N : Nat} (hs : h.1[a]? = some (10, N)) (hi : i < N) (hN : N < 2 ^ 31) (hd : decode μ.2.1 pc = .ok (.baload, 1)) (hq : pc + 1 = q) (kk : V g μ θ h k n L q (.int (hI h a i) :: S)) : V g μ θ h k n L pc (.int (nI i) :: .ref a :: S) := by
  subst hq
  intro p e s m args below meth c H locs ls B R hS hl'
  have hcl := nI_clamp (n := i) (by omega)
  exact W.zald (v := .int (hI h a i)) B.1 B.2.1 (R.arr hs (by decide)) ((B.2.2.2.2.2.2.2.2.1.1.2 1 _ rfl).1 N _) (fun q => by cases q) (by rw [arrV_size]; exact nI_in hi hN) (by rw [hcl, arrV_read _ _ hi]; rfl) rfl rfl hd (kk p e s m args below meth c H locs ls B R hS hl')
theorem V_lald {a i N : Nat} (hs : h.1[a]? = some (11, N)) (hi : i < N) (hN : N < 2 ^ 31) (hd : decode μ.2.1 pc = .ok (.laload, 1)) (hq : pc + 1 = q) (kk : V g μ θ h k n L q (.long (hJ h a i) :: S)) : V g μ θ h k n L pc (.int (nI i) :: .ref a :: S) := by
  subst hq
  intro p e s m args below meth c H locs ls B R hS hl'
  have hcl := nI_clamp (n := i) (by omega)
  exact W.lald (v := .long (hJ h a i)) B.1 B.2.1 (R.arr hs (by decide)) ((B.2.2.2.2.2.2.2.2.1.1.2 2 _ rfl).1 N _) (fun q => by cases q) (by rw [arrV_size]; exact nI_in hi hN) (by rw [hcl, arrV_read _ _ hi]; rfl) rfl rfl hd (kk p e s m args below meth c H locs ls B R hS hl')
theorem V_aald {a c i N r : Nat} (hc : 12 ≤ c ∧ c ≤ 15) (hs : h.1[a]? = some (c, N)) (hi : i < N) (hN : N < 2 ^ 31) (hr : hP h a i = some r) (hd : decode μ.2.1 pc = .ok (.aaload, 1)) (hq : pc + 1 = q) (kk : V g μ θ h k n L q (.ref r :: S)) : V g μ θ h k n L pc (.int (nI i) :: .ref a :: S) := by
  subst hq
  intro p e s m args below meth cc H locs ls B R hS hl'
  have hcl := nI_clamp (n := i) (by omega)
  have hcv : cv g h c a i = tv g (.ref r) := by
    have : sty c i = 2 := by rcases (show c = 12 ∨ c = 13 ∨ c = 14 ∨ c = 15 by omega) with rfl | rfl | rfl | rfl <;> rfl
    unfold cv; rw [if_neg (by rw [this]; decide), if_neg (by rw [this]; decide), hr]; rfl
  have key : ∀ {ty : FieldType} {t0 : Nat}, (tys g)[t0]? = some (gC g c, ty) → ty.isReference = true → W p g.1 e θ.1 s m args below meth cc H locs k n (θ.2.2 args s below) (F0 m pc ls ((.int (nI i) :: .ref a :: S).map (tv g))) := fun ht hrf =>
    W.aald (v := tv g (.ref r)) B.1 B.2.1 (R.arr hs (by omega)) ((B.2.2.2.2.2.2.2.2.1.1.2 _ _ ht).1 N _) hrf (fun q => by cases q) (by rw [arrV_size]; exact nI_in hi hN) (by rw [hcl, arrV_read _ _ hi, hcv]) rfl rfl hd (kk p e s m args below meth cc H locs ls B R hS hl')
  rcases (show c = 12 ∨ c = 13 ∨ c = 14 ∨ c = 15 by omega) with rfl | rfl | rfl | rfl
  · exact key (t0 := 3) rfl rfl
  · exact key (t0 := 4) rfl rfl
  · exact key (t0 := 5) rfl rfl
  · exact key (t0 := 6) rfl rfl
theorem V_iast {a i N : Nat} {v : Int32} (hs : h.1[a]? = some (9, N)) (hi : i < N) (hN : N < 2 ^ 31) (hd : decode μ.2.1 pc = .ok (.iastore, 1)) (hq : pc + 1 = q) (kk : V g μ θ (sI h a i v) k n L q S) : V g μ θ h k n L pc (.int v :: .int (nI i) :: .ref a :: S) := by
  subst hq
  intro p e s m args below meth c H locs ls B R hS hl'
  have hcl := nI_clamp (n := i) (by omega)
  refine W.iast B.1 B.2.1 (R.arr hs (by decide)) ((B.2.2.2.2.2.2.2.2.1.1.2 0 _ rfl).1 N _) (fun q => by cases q) (by rw [arrV_size]; exact nI_in hi hN) rfl rfl hd fun H' x1 x2 x3 => ?_
  refine kk p e s m args below meth c H' _ ls B (R.put hs rfl (fun b c j hb => by rw [cv_sI, if_neg (fun w => hb w.1)]) x2 x3 ?_) (hS.put x2 x3 (Nat.le_add_right _ _)) hl'
  unfold cellOk
  rw [if_neg (by simp), x1, hcl, arrV_store]
  congr 2
  funext j
  rw [cv_sI]
  unfold updV
  by_cases hj : j = i
  · subst hj
    simp [sty]
  · rw [if_neg hj, if_neg (fun w => hj w.2.1)]
theorem V_zast {a i N : Nat} {b : Bool} (hs : h.1[a]? = some (10, N)) (hi : i < N) (hN : N < 2 ^ 31) (hd : decode μ.2.1 pc = .ok (.bastore, 1)) (hq : pc + 1 = q) (kk : V g μ θ (sI h a i (bi b)) k n L q S) : V g μ θ h k n L pc (.int (bi b) :: .int (nI i) :: .ref a :: S) := by
  subst hq
  intro p e s m args below meth c H locs ls B R hS hl'
  have hcl := nI_clamp (n := i) (by omega)
  refine W.zast B.1 B.2.1 (R.arr hs (by decide)) ((B.2.2.2.2.2.2.2.2.1.1.2 1 _ rfl).1 N _) (fun q => by cases q) (by rw [arrV_size]; exact nI_in hi hN) rfl rfl hd fun H' x1 x2 x3 => ?_
  refine kk p e s m args below meth c H' _ ls B (R.put hs rfl (fun b c j hb => by rw [cv_sI, if_neg (fun w => hb w.1)]) x2 x3 ?_) (hS.put x2 x3 (Nat.le_add_right _ _)) hl'
  unfold cellOk
  rw [if_neg (by simp), x1, hcl, arrV_store]
  congr 2
  funext j
  rw [cv_sI]
  unfold updV
  by_cases hj : j = i
  · subst hj
    simp [sty, bi_nar]
  · rw [if_neg hj, if_neg (fun w => hj w.2.1)]
theorem V_last {a i N : Nat} {v : Int64} (hs : h.1[a]? = some (11, N)) (hi : i < N) (hN : N < 2 ^ 31) (hd : decode μ.2.1 pc = .ok (.lastore, 1)) (hq : pc + 1 = q) (kk : V g μ θ (sJ h a i v) k n L q S) : V g μ θ h k n L pc (.long v :: .int (nI i) :: .ref a :: S) := by
  subst hq
  intro p e s m args below meth c H locs ls B R hS hl'
  have hcl := nI_clamp (n := i) (by omega)
  refine W.last B.1 B.2.1 (R.arr hs (by decide)) ((B.2.2.2.2.2.2.2.2.1.1.2 2 _ rfl).1 N _) (fun q => by cases q) (by rw [arrV_size]; exact nI_in hi hN) rfl rfl hd fun H' x1 x2 x3 => ?_
  refine kk p e s m args below meth c H' _ ls B (R.put hs rfl (fun b c j hb => by rw [cv_sJ, if_neg (fun w => hb w.1)]) x2 x3 ?_) (hS.put x2 x3 (Nat.le_add_right _ _)) hl'
  unfold cellOk
  rw [if_neg (by simp), x1, hcl, arrV_store]
  congr 2
  funext j
  rw [cv_sJ]
  unfold updV
  by_cases hj : j = i
  · subst hj
    simp [sty]
  · rw [if_neg hj, if_neg (fun w => hj w.2.1)]
/-- an array of references gets an object of its class: kind 12 of class 2, 13 of 4, 14 of 3 -/
theorem V_aast {a c i N r cr Nr : Nat} (hc : (c = 12 ∧ cr = 2) ∨ (c = 13 ∧ cr = 4) ∨ (c = 14 ∧ cr = 3)) (hs : h.1[a]? = some (c, N)) (hr : h.1[r]? = some (cr, Nr)) (hi : i < N) (hN : N < 2 ^ 31) (hd : decode μ.2.1 pc = .ok (.aastore, 1)) (hq : pc + 1 = q) (kk : V g μ θ (sP h a i (some r)) k n L q S) : V g μ θ h k n L pc (.ref r :: .int (nI i) :: .ref a :: S) := by
  subst hq
  intro p e s m args below meth cc H locs ls B R hS hl'
  have hcl := nI_clamp (n := i) (by omega)
  have hc9 : ¬ c < 9 := by omega
  have hr9 : cr < 9 := by omega
  obtain ⟨rr, hrr, hN2, cellV, g1, g2, g3, -⟩ := R.obj hr hr9
  have hK := B.2.2.2.2.2.2.2.2.1.1
  have hcls := (hK.1 cr rr hrr).2
  obtain ⟨C, t0, ht, hrn⟩ : ∃ (C : String) (t0 : Nat), (tys g)[t0]? = some (gC g c, .object C) ∧ rr.1 = C := by
    rcases hc with ⟨rfl, rfl⟩ | ⟨rfl, rfl⟩ | ⟨rfl, rfl⟩
    · exact ⟨_, 3, rfl, by cases hrr; rfl⟩
    · exact ⟨_, 4, rfl, by cases hrr; rfl⟩
    · exact ⟨_, 5, rfl, by cases hrr; rfl⟩
  obtain ⟨kA, comp, k1, k2, k3, -⟩ := (hK.2 t0 _ ht).2
  have hcomp : comp = (gD g).1 cr := Option.some.inj (k3.symm.trans (by rw [← hrn]; exact hcls.1))
  subst hcomp
  obtain ⟨kC, hkC, -⟩ := hcls.2
  refine W.aast B.1 B.2.1 (R.arr hs hc9) (fun q h => by cases h) (fun h => by cases h) k1 k2 rfl hkC ⟨nI_pos (by omega), by rw [hcl, arrV_size]; exact hi⟩ g1 (fun q h => by rw [g3] at h; cases h) (by rw [g2]; exact hkC) (by rw [g2]; exact va_assign hcls) rfl rfl hd fun H' x1 x2 x3 => ?_
  refine kk p e s m args below meth cc H' _ ls B (R.put hs rfl (fun b c j hb => by rw [cv_sP, if_neg (fun w => hb w.1)]) x2 x3 ?_) (hS.put x2 x3 (Nat.le_add_right _ _)) hl'
  unfold cellOk
  rw [if_neg hc9, x1, hcl, arrV_store]
  congr 2
  funext j
  rw [cv_sP]
  have hsy : ∀ j, sty c j = 2 := fun j => by rcases hc with ⟨rfl, -⟩ | ⟨rfl, -⟩ | ⟨rfl, -⟩ <;> rfl
  unfold updV
  by_cases hj : j = i
  · subst hj
    simp [hsy, rv]
  · rw [if_neg hj, if_neg (fun w => hj w.2.1)]
end HEAP
end
section
/-- of a method: its code stands in the tables, its class is initialised; it takes 'na' arguments beside the receiver -/
def MO (μ : MT) (na : Nat) : Prop := Cond.code μ.1 μ.2.1 μ.2.2.1 μ.2.2.2 ∈ gt ∧ Cond.initialized μ.1.cls ∈ gt ∧ (μ.1.cls ≠ "java/lang/invoke/MethodHandle" ∧ μ.1.cls ≠ "java/lang/invoke/VarHandle" ∧ (parseMethodDescriptor μ.1.desc).map (fun d => d.parameters.length) = some na) ∧ plainName μ.1.cls = true ∧ Nat.ble μ.2.2.1 21 = true
theorem wsM_good {μ : MT} {na : Nat} (h : MO μ na) : GoodIn gt (wsM μ) := fun w hw => by
  rcases List.mem_cons.mp hw with rfl | hw
  · exact gt_good _ h.1
  · exact gt_good _ hw
/-- an instance method under its number in the pool of 'own', of class number ci -/
def KV (own : String) (idx ci : Nat) (μ : MT) (na : Nat) : Prop := MO μ na ∧ Cond.methodLink own idx μ.1 ∈ gt ∧ Cond.instanceMethod μ.1 ∈ gt ∧ Cond.selects μ.1.cls μ.1 μ.1 ∈ gt ∧ ci < 9 ∧ ∀ r : vw_C, vwCl[ci]? = some r → r.1 = μ.1.cls
def KS (own : String) (idx : Nat) (μ : MT) (na : Nat) : Prop := MO μ na ∧ Cond.methodLink own idx μ.1 ∈ gt ∧ Cond.static μ.1 ∈ gt
def KSN (own : String) (idx : Nat) (μ : MT) (na : Nat) : Prop := MO μ na ∧ (∃ host, Cond.methodLinkNest own idx μ.1 host ∈ nws) ∧ Cond.static μ.1 ∈ gt
def KI (own : String) (idx : Nat) (μ : MT) (na : Nat) : Prop := MO μ na ∧ Cond.methodLink own idx μ.1 ∈ gt ∧ Cond.instanceMethod μ.1 ∈ gt ∧ μ.1.name = "<init>" ∧ μ.2.2.2 = none
def KIN (own : String) (idx : Nat) (μ : MT) (na : Nat) : Prop := MO μ na ∧ (∃ host, Cond.methodLinkNest own idx μ.1 host ∈ nws) ∧ Cond.instanceMethod μ.1 ∈ gt ∧ μ.1.name = "<init>" ∧ μ.2.2.2 = none
theorem aoa_spec {args : Array Value} {first s : State} {o : Option Outcome} {ix : List Nat} {t : FieldType} (h : (Cond.arrayOver (.array t)).holds args first o s ix = true) :
    ∃ comp c k, s.vm.findClass (FieldType.array t).toString = some comp ∧ (s.vm.classes.findIdx? fun x => match x.kind with | .array component _ => component == comp | _ => false) = some c ∧ s.vm.classes[c]? = some k ∧ k.kind = .array comp (.array t) ∧ s.vm.findClass ("[" ++ (FieldType.array t).toString) = some c := by
  simp only [Cond.holds, Cond.value, beq_iff_eq] at h
  cases hc : s.vm.findClass (FieldType.array t).toString with
  | none => simp [hc] at h
  | some comp =>
    simp only [hc, Option.bind_some, Option.bind_eq_some_iff, Option.map_eq_some_iff] at h
    obtain ⟨c, hi, k, hk, hb⟩ := h
    obtain ⟨hlt, hp, -⟩ := Array.findIdx?_eq_some_iff_getElem.mp hi
    have hkk : s.vm.classes[c] = k := (Array.getElem?_eq_some_iff.mp hk).2
    rw [hkk] at hp
    cases hkind : k.kind with
    | array component ty =>
      rw [hkind] at hb hp
      simp at hb hp
      exact ⟨comp, c, k, rfl, hi, hk, by rw [hkind, hp, hb.1], hb.2⟩
    | _ => rw [hkind] at hb; simp at hb
theorem aoa_moved {args args' : Array Value} {s U : State} {t : FieldType} (hal : s.vm.Alike U.vm) (h : (Cond.arrayOver (.array t)).before args s = true) : (Cond.arrayOver (.array t)).before args' U = true := by
  obtain ⟨comp, c, k, hcomp, hidx, hk, hkind, hname⟩ := aoa_spec h
  obtain ⟨k', hk', hek'⟩ := hal.2.2 _ _ hk
  have hkind' : k'.kind = .array comp (.array t) := by rw [hek']; exact hkind
  have hidx' : (U.vm.classes.findIdx? fun x => match x.kind with | .array component _ => component == comp | _ => false) = some c := by
    have e1 := va_idx_bare U.vm comp
    have e2 := va_idx_bare s.vm comp
    have e3 : U.vm.bare = s.vm.bare := by first | exact hal.bare_eq | exact hal.bare_eq.symm
    rw [e3] at e1
    exact (e1.symm.trans e2).trans hidx
  have hname' : U.vm.findClass ("[" ++ (FieldType.array t).toString) = some c := by rw [hal.findClass]; exact hname
  have hcomp' : U.vm.findClass (FieldType.array t).toString = some comp := by rw [hal.findClass]; exact hcomp
  show (Cond.arrayOver (.array t)).holds _ _ _ _ _ = true
  simp only [Cond.holds, Cond.value, hcomp', Option.bind_some, beq_iff_eq]
  rw [Option.bind_eq_some_iff]
  refine ⟨c, hidx', ?_⟩
  simp [hk', hkind', hname']
theorem gK.warm {g : GX} {s U : State} (hW : s.WarmedH U.vm) (h : gK g s) : gK g U := by
  obtain ⟨h1, ⟨a1, a2, a3, a4⟩, h3⟩ := h
  refine ⟨va_K.moved hW.alike h1, ⟨va_AO.moved hW.alike a1, va_AO.moved hW.alike a2, va_AO.moved hW.alike a3, aoa_moved hW.alike a4⟩, fun w hw => ?_⟩
  have h5 := h3 w hw
  simp only [nws, List.mem_cons, List.not_mem_nil, or_false] at hw
  rcases hw with rfl | rfl | rfl | rfl | rfl <;> exact va_Nw.warmM hW h5
theorem gK.call {g : GX} {U : State} {f : JFrame} {mk : MethodId} {a : Array Value} (h : gK g U) : gK g (U.calling f mk a) := by
  obtain ⟨h1, ⟨a1, a2, a3, a4⟩, h3⟩ := h
  refine ⟨va_K.moved (u := U) (Vm.Alike.refl U.vm) h1, ⟨va_AO.moved (u := U) (Vm.Alike.refl U.vm) a1, va_AO.moved (u := U) (Vm.Alike.refl U.vm) a2, va_AO.moved (u := U) (Vm.Alike.refl U.vm) a3, aoa_moved (s := U) (Vm.Alike.refl U.vm) a4⟩, fun w hw => ?_⟩
  have h5 := h3 w hw
  simp only [nws, List.mem_cons, List.not_mem_nil, or_false] at hw
  rcases hw with rfl | rfl | rfl | rfl | rfl <;> exact va_Nw.same rfl (u := U) rfl h5
theorem pc_blind {g : GX} {h : AH} {av : List Value} : FrameBlind (va_Pc (av.map (tv g)) (fun U => Rep g h U.heap ∧ gK g U)) := fun _ _ _ _ q => ⟨q.1, q.2.1, q.2.2.call⟩
theorem pre_S {g : GX} {h : AH} {av : List Value} {s : State} {H : Heap} (R : Rep g h H) (K : gK g s) : PreS s H (va_Pc (av.map (tv g)) (fun U => Rep g h U.heap ∧ gK g U)) (av.map (tv g)) :=
  ⟨pc_blind, fun U hU hW => ⟨rfl, by rw [hU]; exact R, K.warm hW⟩⟩
theorem rev_map {g : GX} (av S : List Value) : (av.reverse ++ S).map (tv g) = (av.map (tv g)).reverse ++ S.map (tv g) := by rw [List.map_append, List.map_reverse]
theorem cat_map {g : GX} : ∀ S : List Value, (S.map (tv g)).map (fun v => v.category) = S.map (fun v => v.category)
  | [] => rfl
  | a :: S => by rw [List.map_cons, List.map_cons, List.map_cons, tv_cat, cat_map S]
def fitR (R : Room) (d mc ms k n : Nat) (S : List Value) : Bool := Nat.ble (d + 1) R.frames && (Nat.ble (40 * (d + 1)) R.locals && (Nat.ble (k + mc) R.cells && (Nat.ble (n + ms) R.slots && Nat.ble ((S.map fun v => v.category).sum) 8)))
theorem fitR_spec {R : Room} {d mc ms k n : Nat} {S : List Value} (h : fitR R d mc ms k n S = true) : d + 1 ≤ R.frames ∧ 40 * (d + 1) ≤ R.locals ∧ k + mc ≤ R.cells ∧ n + ms ≤ R.slots ∧ (S.map fun v => v.category).sum ≤ 8 := by
  simp only [fitR, Bool.and_eq_true] at h
  exact ⟨Nat.le_of_ble_eq_true h.1, Nat.le_of_ble_eq_true h.2.1, Nat.le_of_ble_eq_true h.2.2.1, Nat.le_of_ble_eq_true h.2.2.2.1, Nat.le_of_ble_eq_true h.2.2.2.2⟩
section CALLS
variable {g : GX} {μ μ' : MT} {θ : TH} {h : AH} {k n d mc ms na idx : Nat} {L : List (Nat × Value)} {pc q : Nat} {S S' : List Value} {av : List Value} {post : Option Value → AH → Prop}
/-- behind a call -/
theorem V_after {p : Program} {e : Env} {s : State} {m : MethodId} {args : Array Value} {below : List Frame} {meth : Method} {c : Code} {H : Heap} {locs : List Loc} {ls : Array Slot} {st0 : List Value} {a : Array Value}
    (hr : va_Run p g.1 e θ.1 s m args below meth c H locs k n mc ms (F0 m pc ls st0) (S.map (tv g)) (Qc g post a) (gA g)) (B : Bd g μ θ p e s m args meth c) (hS : va_S (gA g) s.heap H locs) (hl : lv_has ls μ.2.2.1 (L.map fun q => (q.1, tv g q.2)))
    (kk : ∀ (r : Option Value) (h' : AH), post r h' → V g μ θ h' (k + mc) (n + ms) L (pc + 3) (r.toList ++ S)) : W p g.1 e θ.1 s m args below meth c H locs k n (θ.2.2 args s below) (F0 m pc ls st0) := by
  intro T hT X
  obtain ⟨v, st₀, t, T', L', h0, X', hL, e1, e2, ⟨⟨r, h', hv, hp, hR⟩, hz, hk⟩, st⟩ := hr T hT X
  cases hv
  rw [h0] at hz hk
  have hS' : va_S (gA g) s.heap T'.heap (locs ++ L') := ⟨Nat.le_trans hS.1 (by rw [e1]; exact hz), fun q h1 h2 => by rw [e1, hk q (Nat.lt_of_lt_of_le h1 hS.1) h2]; exact hS.2.1 q h1 h2, fun q hq => by
    rcases List.mem_append.mp hq with h | h
    · exact hS.2.2 q h
    · exact hL q h⟩
  obtain ⟨t2, a1, b1⟩ := kk r h' hp p e s m args below meth c T'.heap (locs ++ L') ls B (by rw [e1]; exact hR) hS' hl T' rfl X'
  refine ⟨t2, st t2 ?_, b1⟩
  have hm : ((r.toList ++ S).map (tv g)) = (r.map (tv g)).toList ++ S.map (tv g) := by cases r <;> simp
  rw [hm] at a1
  exact a1
theorem V_callV {ci N a : Nat} (hk : KV μ.1.cls idx ci μ' na) (hM : Ct g μ' d mc ms (.ref a :: av) h post) (hs : h.1[a]? = some (ci, N)) (hn : av.length = na) (hf : fitR θ.1 d mc ms k n S = true) (hS' : av.reverse ++ .ref a :: S = S') (hd : decode μ.2.1 pc = .ok (.invokevirtual idx, 3)) (hq : pc + 3 = q)
    (kk : ∀ (r : Option Value) (h' : AH), post r h' → V g μ θ h' (k + mc) (n + ms) L q (r.toList ++ S)) : V g μ θ h k n L pc S' := by
  subst hq; subst hS'
  intro p e s m args below meth c H locs ls B R hS hl
  obtain ⟨f1, f2, f3, f4, f5⟩ := fitR_spec hf
  obtain ⟨mo, hlk, hin, hse, hci, hcn⟩ := hk
  have hts := B.2.2.2.2.2.1
  obtain ⟨r, hr1, hr2, cell, g1, g2, g3, -⟩ := R.obj hs hci
  have hm9 : μ'.2.2.1 ≤ 21 := Nat.le_of_ble_eq_true mo.2.2.2.2
  have hgood : GoodIn gt (wsV μ.1.cls idx μ'.1.cls μ'.1 (wsM μ')) := fun w hw => by
    unfold wsV at hw
    rcases List.mem_append.mp hw with h1 | h1
    · simp only [List.mem_cons, List.not_mem_nil, or_false] at h1
      rcases h1 with rfl | rfl | rfl | rfl
      · exact gt_good _ hlk
      · exact gt_good _ hin
      · exact gt_good _ hse
      · exact gt_good _ mo.2.1
    · exact wsM_good mo w h1
  have hcw := cwV (R := θ.1) (s := s) (args := args) (own := μ.1.cls) (C := μ'.1.cls) (index := idx) (y := μ'.1) (bytes := μ'.2.1) (maxL := μ'.2.2.1) (ret := μ'.2.2.2) (ws := wsM μ') (rm := rmd d mc ms) (mc := mc) (ms := ms) na hts hgood rfl rfl rfl ⟨rfl, mo.2.2.1⟩ ⟨f1, by show 8 + (μ'.2.2.1 + 11) + 40 * d ≤ _; omega⟩
  have hrun := va_runV (p := p) (e := e) (below := below) (meth := meth) (locs := locs) (cells := k) (slots := n) (As := av.map (tv g)) (b := gB g + a) (rest := S.map (tv g)) (g := F0 m pc ls ((av.reverse ++ .ref a :: S).map (tv g))) (Ts := gt) ⟨B.1, B.2.1, B.2.2.2.1, B.2.2.2.2.1, hts⟩ hM hcw
    ⟨pc_blind, ⟨cell, g1, by rw [g3]; rfl, by rw [← hcn r hr1, g2]; exact (B.2.2.2.2.2.2.2.2.1.1.1 ci r hr1).2.1⟩, (pre_S (av := .ref a :: av) R B.2.2.2.2.2.2.2.2.1).2⟩ rfl (by rw [List.length_map]; exact hn) hl.1 (by show List.map (tv g) _ = _; rw [List.map_append, List.map_reverse]; rfl) (lv_room (by rw [cat_map]; exact f5)) hd ⟨f3, f4⟩
  exact V_after hrun B hS hl kk
theorem V_callS (hk : KS μ.1.cls idx μ' na) (hM : Ct g μ' d mc ms av h post) (hn : av.length = na) (hf : fitR θ.1 d mc ms k n S = true) (hS' : av.reverse ++ S = S') (hd : decode μ.2.1 pc = .ok (.invokestatic idx, 3)) (hq : pc + 3 = q)
    (kk : ∀ (r : Option Value) (h' : AH), post r h' → V g μ θ h' (k + mc) (n + ms) L q (r.toList ++ S)) : V g μ θ h k n L pc S' := by
  subst hq; subst hS'
  intro p e s m args below meth c H locs ls B R hS hl
  obtain ⟨f1, f2, f3, f4, f5⟩ := fitR_spec hf
  obtain ⟨mo, hlk, hst⟩ := hk
  have hts := B.2.2.2.2.2.1
  have hm9 : μ'.2.2.1 ≤ 21 := Nat.le_of_ble_eq_true mo.2.2.2.2
  have hgood : GoodIn gt (va_wsS μ.1.cls idx μ'.1 (wsM μ')) := fun w hw => by
    unfold va_wsS at hw
    rcases List.mem_append.mp hw with h1 | h1
    · simp only [List.mem_cons, List.not_mem_nil, or_false] at h1
      rcases h1 with rfl | rfl | rfl
      · exact gt_good _ hlk
      · exact gt_good _ hst
      · exact gt_good _ mo.2.1
    · exact wsM_good mo w h1
  have hcw := va_cwS (R := θ.1) (s := s) (args := args) (own := μ.1.cls) (index := idx) (y := μ'.1) (bytes := μ'.2.1) (maxL := μ'.2.2.1) (ret := μ'.2.2.2) (ws := wsM μ') (rm := rmd d mc ms) (mc := mc) (ms := ms) na hts hgood rfl rfl rfl mo.2.2.1 ⟨f1, by show 8 + (μ'.2.2.1 + 11) + 40 * d ≤ _; omega⟩
  have hrun := va_runS (p := p) (e := e) (below := below) (meth := meth) (locs := locs) (cells := k) (slots := n) (As := av.map (tv g)) (rest := S.map (tv g)) (g := F0 m pc ls ((av.reverse ++ S).map (tv g))) (Ts := gt) ⟨B.1, B.2.1, B.2.2.2.1, B.2.2.2.2.1, hts⟩ hM hcw
    (pre_S R B.2.2.2.2.2.2.2.2.1) rfl (by rw [List.length_map]; exact hn) hl.1 (rev_map av S) (lv_room (by rw [cat_map]; exact f5)) hd ⟨f3, f4⟩
  exact V_after hrun B hS hl kk
theorem V_callSN (hk : KSN μ.1.cls idx μ' na) (hM : Ct g μ' d mc ms av h post) (hn : av.length = na) (hf : fitR θ.1 d mc ms k n S = true) (hS' : av.reverse ++ S = S') (hd : decode μ.2.1 pc = .ok (.invokestatic idx, 3)) (hq : pc + 3 = q)
    (kk : ∀ (r : Option Value) (h' : AH), post r h' → V g μ θ h' (k + mc) (n + ms) L q (r.toList ++ S)) : V g μ θ h k n L pc S' := by
  subst hq; subst hS'
  intro p e s m args below meth c H locs ls B R hS hl
  obtain ⟨f1, f2, f3, f4, f5⟩ := fitR_spec hf
  obtain ⟨mo, ⟨host, hlk⟩, hst⟩ := hk
  have hts := B.2.2.2.2.2.1
  have hm9 : μ'.2.2.1 ≤ 21 := Nat.le_of_ble_eq_true mo.2.2.2.2
  have hcw := va_cnB (R := θ.1) (s := s) (args := args) (own := μ.1.cls) (host := host) (index := idx) (y := μ'.1) (bytes := μ'.2.1) (maxL := μ'.2.2.1) (ret := μ'.2.2.2) (ws := wsM μ') (rm := rmd d mc ms) (mc := mc) (ms := ms) na hts (wsM_good mo) rfl rfl rfl (B.2.2.2.2.2.2.2.2.1.2.2 _ hlk) (hts _ mo.2.1) mo.2.2.1 ⟨f1, by show 8 + (μ'.2.2.1 + 11) + 40 * d ≤ _; omega⟩
  have hrun := va_runSN (p := p) (e := e) (below := below) (meth := meth) (locs := locs) (cells := k) (slots := n) (As := av.map (tv g)) (rest := S.map (tv g)) (g := F0 m pc ls ((av.reverse ++ S).map (tv g))) (Ts := gt) ⟨B.1, B.2.1, B.2.2.2.1, B.2.2.2.2.1, hts⟩ hM ⟨hcw, hts _ hst, trivial⟩
    (pre_S R B.2.2.2.2.2.2.2.2.1) rfl (by rw [List.length_map]; exact hn) hl.1 (rev_map av S) (lv_room (by rw [cat_map]; exact f5)) hd ⟨f3, f4⟩
  exact V_after hrun B hS hl kk
theorem V_callI {a : Nat} (hk : KI μ.1.cls idx μ' na) (hM : Ct g μ' d mc ms (.ref a :: av) h post) (hn : av.length = na) (hf : fitR θ.1 d mc ms k n S = true) (hS' : av.reverse ++ .ref a :: S = S') (hd : decode μ.2.1 pc = .ok (.invokespecial idx, 3)) (hq : pc + 3 = q)
    (kk : ∀ (r : Option Value) (h' : AH), post r h' → V g μ θ h' (k + mc) (n + ms) L q (r.toList ++ S)) : V g μ θ h k n L pc S' := by
  subst hq; subst hS'
  intro p e s m args below meth c H locs ls B R hS hl
  obtain ⟨f1, f2, f3, f4, f5⟩ := fitR_spec hf
  obtain ⟨mo, hlk, hin, hnm, hret⟩ := hk
  have hts := B.2.2.2.2.2.1
  have hm9 : μ'.2.2.1 ≤ 21 := Nat.le_of_ble_eq_true mo.2.2.2.2
  have hcw := cwI (R := θ.1) (s := s) (args := args) (own := μ.1.cls) (index := idx) (y := μ'.1) (bytes := μ'.2.1) (maxL := μ'.2.2.1) (ws := wsM μ') (ws' := gt) (rm := rmd d mc ms) (mc := mc) (ms := ms) na hts (wsM_good mo) (by unfold wsM; rw [hret]) rfl rfl (hts _ mo.2.1) (hts _ hlk) (hts _ hin) hnm mo.2.2.1 ⟨f1, by show 8 + (μ'.2.2.1 + 11) + 40 * d ≤ _; omega⟩
  have hrun := va_runI (p := p) (e := e) (below := below) (meth := meth) (locs := locs) (cells := k) (slots := n) (As := av.map (tv g)) (b := gB g + a) (rest := S.map (tv g)) (g := F0 m pc ls ((av.reverse ++ .ref a :: S).map (tv g))) (Ts := gt) ⟨B.1, B.2.1, B.2.2.2.1, B.2.2.2.2.1, hts⟩ hM hcw
    (pre_S (av := .ref a :: av) R B.2.2.2.2.2.2.2.2.1) rfl (by rw [List.length_map]; exact hn) hl.1 (by show List.map (tv g) _ = _; rw [List.map_append, List.map_reverse]; rfl) (lv_room (by rw [cat_map]; exact f5)) hd ⟨f3, f4⟩
  exact V_after hrun B hS hl kk
theorem V_callIN {a : Nat} (hk : KIN μ.1.cls idx μ' na) (hM : Ct g μ' d mc ms (.ref a :: av) h post) (hn : av.length = na) (hf : fitR θ.1 d mc ms k n S = true) (hS' : av.reverse ++ .ref a :: S = S') (hd : decode μ.2.1 pc = .ok (.invokespecial idx, 3)) (hq : pc + 3 = q)
    (kk : ∀ (r : Option Value) (h' : AH), post r h' → V g μ θ h' (k + mc) (n + ms) L q (r.toList ++ S)) : V g μ θ h k n L pc S' := by
  subst hq; subst hS'
  intro p e s m args below meth c H locs ls B R hS hl
  obtain ⟨f1, f2, f3, f4, f5⟩ := fitR_spec hf
  obtain ⟨mo, ⟨host, hlk⟩, hin, hnm, hret⟩ := hk
  have hts := B.2.2.2.2.2.1
  have hm9 : μ'.2.2.1 ≤ 21 := Nat.le_of_ble_eq_true mo.2.2.2.2
  have hcw := va_cnB (R := θ.1) (s := s) (args := args) (own := μ.1.cls) (host := host) (index := idx) (y := μ'.1) (bytes := μ'.2.1) (maxL := μ'.2.2.1) (ret := none) (ws := wsM μ') (ws' := gt) (rm := rmd d mc ms) (mc := mc) (ms := ms) na hts (wsM_good mo) (by unfold wsM; rw [hret]) rfl rfl (B.2.2.2.2.2.2.2.2.1.2.2 _ hlk) (hts _ mo.2.1) mo.2.2.1 ⟨f1, by show 8 + (μ'.2.2.1 + 11) + 40 * d ≤ _; omega⟩
  have hrun := va_runIN (p := p) (e := e) (below := below) (meth := meth) (locs := locs) (cells := k) (slots := n) (As := av.map (tv g)) (b := gB g + a) (rest := S.map (tv g)) (g := F0 m pc ls ((av.reverse ++ .ref a :: S).map (tv g))) (Ts := gt) ⟨B.1, B.2.1, B.2.2.2.1, B.2.2.2.2.1, hts⟩ hM ⟨hcw, hnm, hts _ hin⟩
    (pre_S (av := .ref a :: av) R B.2.2.2.2.2.2.2.2.1) rfl (by rw [List.length_map]; exact hn) hl.1 (by show List.map (tv g) _ = _; rw [List.map_append, List.map_reverse]; rfl) (lv_room (by rw [cat_map]; exact f5)) hd ⟨f3, f4⟩
  exact V_after hrun B hS hl kk
/-- calls that change nothing -/
theorem V_cpV {ci N a : Nat} {v : Value} (hk : KV μ.1.cls idx ci μ' na) (hM : Cp g μ' d (.ref a :: av) h v) (hs : h.1[a]? = some (ci, N)) (hn : av.length = na) (hf : fitR θ.1 d 0 0 k n S = true) (hS' : av.reverse ++ .ref a :: S = S') (hd : decode μ.2.1 pc = .ok (.invokevirtual idx, 3)) (hq : pc + 3 = q)
    (kk : V g μ θ h k n L q (v :: S)) : V g μ θ h k n L pc S' :=
  V_callV hk hM hs hn hf hS' hd hq (fun r h' hp => by obtain ⟨rfl, rfl⟩ := hp; exact kk)
theorem V_cpS {v : Value} (hk : KS μ.1.cls idx μ' na) (hM : Cp g μ' d av h v) (hn : av.length = na) (hf : fitR θ.1 d 0 0 k n S = true) (hS' : av.reverse ++ S = S') (hd : decode μ.2.1 pc = .ok (.invokestatic idx, 3)) (hq : pc + 3 = q)
    (kk : V g μ θ h k n L q (v :: S)) : V g μ θ h k n L pc S' :=
  V_callS hk hM hn hf hS' hd hq (fun r h' hp => by obtain ⟨rfl, rfl⟩ := hp; exact kk)
theorem V_cpSN {v : Value} (hk : KSN μ.1.cls idx μ' na) (hM : Cp g μ' d av h v) (hn : av.length = na) (hf : fitR θ.1 d 0 0 k n S = true) (hS' : av.reverse ++ S = S') (hd : decode μ.2.1 pc = .ok (.invokestatic idx, 3)) (hq : pc + 3 = q)
    (kk : V g μ θ h k n L q (v :: S)) : V g μ θ h k n L pc S' :=
  V_callSN hk hM hn hf hS' hd hq (fun r h' hp => by obtain ⟨rfl, rfl⟩ := hp; exact kk)
end CALLS
end
section
theorem zz_last : True := trivial
end
