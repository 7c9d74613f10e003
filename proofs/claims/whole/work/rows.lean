section
-- ===== PART A: goes FIRST, ahead of the names: the tables' words, and 'selects' of the private methods out of them =====
/-- a private method of a class that the tables say can be made, by its rows of tables_1 -/
def lw_okq (q : MethodName × Nat) : Prop := (q.1.cls ≠ "java/lang/invoke/MethodHandle" ∧ q.1.cls ≠ "java/lang/invoke/VarHandle") ∧ Cond.instantiable q.1.cls q.2 ∈ tables_1 ∧ Cond.privateMethod q.1 ∈ tables_1 ∧ Cond.instanceMethod q.1 ∈ tables_1
theorem lw_p0 : lw_okq (⟨"AggregateSplitter", "isAccess", "(III)Z"⟩, 4) := ⟨⟨by decide +kernel, by decide +kernel⟩, List.mem_of_getElem? (i := 12) (by decide +kernel), List.mem_of_getElem? (i := 298) (by decide +kernel), List.mem_of_getElem? (i := 299) (by decide +kernel)⟩
theorem lw_p1 : lw_okq (⟨"AggregateSplitter", "append", "(LAggregateSplitter$Instruction;)I"⟩, 4) := ⟨⟨by decide +kernel, by decide +kernel⟩, List.mem_of_getElem? (i := 12) (by decide +kernel), List.mem_of_getElem? (i := 325) (by decide +kernel), List.mem_of_getElem? (i := 326) (by decide +kernel)⟩
theorem lw_p2 : lw_okq (⟨"AggregateSplitter", "layoutNow", "(I)LAggregateSplitter$Layout;"⟩, 4) := ⟨⟨by decide +kernel, by decide +kernel⟩, List.mem_of_getElem? (i := 12) (by decide +kernel), List.mem_of_getElem? (i := 420) (by decide +kernel), List.mem_of_getElem? (i := 421) (by decide +kernel)⟩
theorem lw_p3 : lw_okq (⟨"AggregateSplitter$Analysis", "collectRanges", "(LAggregateSplitter$Instruction;I)V"⟩, 4) := ⟨⟨by decide +kernel, by decide +kernel⟩, List.mem_of_getElem? (i := 127) (by decide +kernel), List.mem_of_getElem? (i := 435) (by decide +kernel), List.mem_of_getElem? (i := 436) (by decide +kernel)⟩
theorem lw_p4 : lw_okq (⟨"AggregateSplitter$Layout", "isByte", "(I)Z"⟩, 9) := ⟨⟨by decide +kernel, by decide +kernel⟩, List.mem_of_getElem? (i := 134) (by decide +kernel), List.mem_of_getElem? (i := 451) (by decide +kernel), List.mem_of_getElem? (i := 452) (by decide +kernel)⟩
theorem lw_p5 : lw_okq (⟨"AggregateSplitter$Layout", "isPadding", "(I)Z"⟩, 9) := ⟨⟨by decide +kernel, by decide +kernel⟩, List.mem_of_getElem? (i := 134) (by decide +kernel), List.mem_of_getElem? (i := 463) (by decide +kernel), List.mem_of_getElem? (i := 464) (by decide +kernel)⟩
theorem lw_p6 : lw_okq (⟨"AggregateSplitter$Layout", "beginsPartition", "(I)Z"⟩, 9) := ⟨⟨by decide +kernel, by decide +kernel⟩, List.mem_of_getElem? (i := 134) (by decide +kernel), List.mem_of_getElem? (i := 467) (by decide +kernel), List.mem_of_getElem? (i := 468) (by decide +kernel)⟩
theorem lw_p7 : lw_okq (⟨"AggregateSplitter$Analysis", "cutIntoPieces", "(LAggregateSplitter$Instruction;I)V"⟩, 4) := ⟨⟨by decide +kernel, by decide +kernel⟩, List.mem_of_getElem? (i := 127) (by decide +kernel), List.mem_of_getElem? (i := 484) (by decide +kernel), List.mem_of_getElem? (i := 485) (by decide +kernel)⟩
theorem lw_p8 : lw_okq (⟨"AggregateSplitter$Analysis", "beginsPiece", "(LAggregateSplitter$Instruction;I)Z"⟩, 4) := ⟨⟨by decide +kernel, by decide +kernel⟩, List.mem_of_getElem? (i := 127) (by decide +kernel), List.mem_of_getElem? (i := 488) (by decide +kernel), List.mem_of_getElem? (i := 489) (by decide +kernel)⟩
theorem lw_p9 : lw_okq (⟨"AggregateSplitter$Analysis", "touchPartitions", "(LAggregateSplitter$Instruction;I)V"⟩, 4) := ⟨⟨by decide +kernel, by decide +kernel⟩, List.mem_of_getElem? (i := 127) (by decide +kernel), List.mem_of_getElem? (i := 500) (by decide +kernel), List.mem_of_getElem? (i := 501) (by decide +kernel)⟩
theorem lw_p10 : lw_okq (⟨"AggregateSplitter$Analysis", "markLive", "(LAggregateSplitter$Program;)V"⟩, 4) := ⟨⟨by decide +kernel, by decide +kernel⟩, List.mem_of_getElem? (i := 127) (by decide +kernel), List.mem_of_getElem? (i := 517) (by decide +kernel), List.mem_of_getElem? (i := 518) (by decide +kernel)⟩
theorem lw_p11 : lw_okq (⟨"AggregateSplitter$Analysis", "passLifeToOrigins", "(LAggregateSplitter$Instruction;I)Z"⟩, 4) := ⟨⟨by decide +kernel, by decide +kernel⟩, List.mem_of_getElem? (i := 127) (by decide +kernel), List.mem_of_getElem? (i := 521) (by decide +kernel), List.mem_of_getElem? (i := 522) (by decide +kernel)⟩
theorem lw_p12 : lw_okq (⟨"AggregateSplitter", "partitionNow", "(II)LAggregateSplitter$Partition;"⟩, 4) := ⟨⟨by decide +kernel, by decide +kernel⟩, List.mem_of_getElem? (i := 12) (by decide +kernel), List.mem_of_getElem? (i := 537) (by decide +kernel), List.mem_of_getElem? (i := 538) (by decide +kernel)⟩
theorem lw_p13 : lw_okq (⟨"AggregateSplitter", "runOf", "(I)LAggregateSplitter$Run;"⟩, 4) := ⟨⟨by decide +kernel, by decide +kernel⟩, List.mem_of_getElem? (i := 12) (by decide +kernel), List.mem_of_getElem? (i := 600) (by decide +kernel), List.mem_of_getElem? (i := 601) (by decide +kernel)⟩
theorem lw_p14 : lw_okq (⟨"AggregateSplitter$Run", "clear", "(Z)V"⟩, 11) := ⟨⟨by decide +kernel, by decide +kernel⟩, List.mem_of_getElem? (i := 221) (by decide +kernel), List.mem_of_getElem? (i := 608) (by decide +kernel), List.mem_of_getElem? (i := 609) (by decide +kernel)⟩
theorem lw_p15 : lw_okq (⟨"AggregateSplitter$Run", "perform", "(LAggregateSplitter$Instruction;I)V"⟩, 11) := ⟨⟨by decide +kernel, by decide +kernel⟩, List.mem_of_getElem? (i := 221) (by decide +kernel), List.mem_of_getElem? (i := 613) (by decide +kernel), List.mem_of_getElem? (i := 614) (by decide +kernel)⟩
def lw_privs_1 : List (MethodName × Nat) := [(⟨"AggregateSplitter", "isAccess", "(III)Z"⟩, 4), (⟨"AggregateSplitter", "append", "(LAggregateSplitter$Instruction;)I"⟩, 4), (⟨"AggregateSplitter", "layoutNow", "(I)LAggregateSplitter$Layout;"⟩, 4), (⟨"AggregateSplitter$Analysis", "collectRanges", "(LAggregateSplitter$Instruction;I)V"⟩, 4), (⟨"AggregateSplitter$Layout", "isByte", "(I)Z"⟩, 9), (⟨"AggregateSplitter$Layout", "isPadding", "(I)Z"⟩, 9), (⟨"AggregateSplitter$Layout", "beginsPartition", "(I)Z"⟩, 9), (⟨"AggregateSplitter$Analysis", "cutIntoPieces", "(LAggregateSplitter$Instruction;I)V"⟩, 4), (⟨"AggregateSplitter$Analysis", "beginsPiece", "(LAggregateSplitter$Instruction;I)Z"⟩, 4), (⟨"AggregateSplitter$Analysis", "touchPartitions", "(LAggregateSplitter$Instruction;I)V"⟩, 4), (⟨"AggregateSplitter$Analysis", "markLive", "(LAggregateSplitter$Program;)V"⟩, 4), (⟨"AggregateSplitter$Analysis", "passLifeToOrigins", "(LAggregateSplitter$Instruction;I)Z"⟩, 4), (⟨"AggregateSplitter", "partitionNow", "(II)LAggregateSplitter$Partition;"⟩, 4), (⟨"AggregateSplitter", "runOf", "(I)LAggregateSplitter$Run;"⟩, 4), (⟨"AggregateSplitter$Run", "clear", "(Z)V"⟩, 11), (⟨"AggregateSplitter$Run", "perform", "(LAggregateSplitter$Instruction;I)V"⟩, 11)]
theorem lw_r1 : ∀ q ∈ lw_privs_1, lw_okq q := List.forall_mem_cons.mpr ⟨lw_p0, List.forall_mem_cons.mpr ⟨lw_p1, List.forall_mem_cons.mpr ⟨lw_p2, List.forall_mem_cons.mpr ⟨lw_p3, List.forall_mem_cons.mpr ⟨lw_p4, List.forall_mem_cons.mpr ⟨lw_p5, List.forall_mem_cons.mpr ⟨lw_p6, List.forall_mem_cons.mpr ⟨lw_p7, List.forall_mem_cons.mpr ⟨lw_p8, List.forall_mem_cons.mpr ⟨lw_p9, List.forall_mem_cons.mpr ⟨lw_p10, List.forall_mem_cons.mpr ⟨lw_p11, List.forall_mem_cons.mpr ⟨lw_p12, List.forall_mem_cons.mpr ⟨lw_p13, List.forall_mem_cons.mpr ⟨lw_p14, List.forall_mem_cons.mpr ⟨lw_p15, fun _ h => absurd h List.not_mem_nil⟩⟩⟩⟩⟩⟩⟩⟩⟩⟩⟩⟩⟩⟩⟩⟩
theorem lw_p16 : lw_okq (⟨"AggregateSplitter$Run", "store", "(LAggregateSplitter$Instruction;)V"⟩, 11) := ⟨⟨by decide +kernel, by decide +kernel⟩, List.mem_of_getElem? (i := 221) (by decide +kernel), List.mem_of_getElem? (i := 617) (by decide +kernel), List.mem_of_getElem? (i := 618) (by decide +kernel)⟩
theorem lw_p17 : lw_okq (⟨"AggregateSplitter$Run", "priceOfAccess", "(LAggregateSplitter$Partition;)I"⟩, 11) := ⟨⟨by decide +kernel, by decide +kernel⟩, List.mem_of_getElem? (i := 221) (by decide +kernel), List.mem_of_getElem? (i := 622) (by decide +kernel), List.mem_of_getElem? (i := 623) (by decide +kernel)⟩
theorem lw_p18 : lw_okq (⟨"AggregateSplitter$Run", "load", "(LAggregateSplitter$Instruction;)V"⟩, 11) := ⟨⟨by decide +kernel, by decide +kernel⟩, List.mem_of_getElem? (i := 221) (by decide +kernel), List.mem_of_getElem? (i := 626) (by decide +kernel), List.mem_of_getElem? (i := 627) (by decide +kernel)⟩
theorem lw_p19 : lw_okq (⟨"AggregateSplitter$Run", "copyLivePieces", "(LAggregateSplitter$Instruction;[I)V"⟩, 11) := ⟨⟨by decide +kernel, by decide +kernel⟩, List.mem_of_getElem? (i := 221) (by decide +kernel), List.mem_of_getElem? (i := 630) (by decide +kernel), List.mem_of_getElem? (i := 631) (by decide +kernel)⟩
theorem lw_p20 : lw_okq (⟨"AggregateSplitter$Run", "moveBytes", "(LAggregateSplitter$Instruction;II)V"⟩, 11) := ⟨⟨by decide +kernel, by decide +kernel⟩, List.mem_of_getElem? (i := 221) (by decide +kernel), List.mem_of_getElem? (i := 634) (by decide +kernel), List.mem_of_getElem? (i := 635) (by decide +kernel)⟩
theorem lw_p21 : lw_okq (⟨"AggregateSplitter$Run", "copyWhole", "(LAggregateSplitter$Instruction;)V"⟩, 11) := ⟨⟨by decide +kernel, by decide +kernel⟩, List.mem_of_getElem? (i := 221) (by decide +kernel), List.mem_of_getElem? (i := 642) (by decide +kernel), List.mem_of_getElem? (i := 643) (by decide +kernel)⟩
theorem lw_p22 : lw_okq (⟨"AggregateSplitter$Run", "escape", "(I)V"⟩, 11) := ⟨⟨by decide +kernel, by decide +kernel⟩, List.mem_of_getElem? (i := 221) (by decide +kernel), List.mem_of_getElem? (i := 646) (by decide +kernel), List.mem_of_getElem? (i := 647) (by decide +kernel)⟩
theorem lw_p23 : lw_okq (⟨"AggregateSplitter$Run", "add", "(LAggregateSplitter$Instruction;I)V"⟩, 11) := ⟨⟨by decide +kernel, by decide +kernel⟩, List.mem_of_getElem? (i := 221) (by decide +kernel), List.mem_of_getElem? (i := 651) (by decide +kernel), List.mem_of_getElem? (i := 652) (by decide +kernel)⟩
theorem lw_p24 : lw_okq (⟨"AggregateSplitter$Run", "output", "(I)V"⟩, 11) := ⟨⟨by decide +kernel, by decide +kernel⟩, List.mem_of_getElem? (i := 221) (by decide +kernel), List.mem_of_getElem? (i := 655) (by decide +kernel), List.mem_of_getElem? (i := 656) (by decide +kernel)⟩
theorem lw_p25 : lw_okq (⟨"AggregateSplitterModel", "note", "()V"⟩, 16) := ⟨⟨by decide +kernel, by decide +kernel⟩, List.mem_of_getElem? (i := 682) (by decide +kernel), List.mem_of_getElem? (i := 744) (by decide +kernel), List.mem_of_getElem? (i := 745) (by decide +kernel)⟩
theorem lw_p26 : lw_okq (⟨"AggregateSplitterModel", "isRange", "(III)Z"⟩, 16) := ⟨⟨by decide +kernel, by decide +kernel⟩, List.mem_of_getElem? (i := 682) (by decide +kernel), List.mem_of_getElem? (i := 755) (by decide +kernel), List.mem_of_getElem? (i := 756) (by decide +kernel)⟩
theorem lw_p27 : lw_okq (⟨"AggregateSplitterModel", "isRecord", "(I)Z"⟩, 16) := ⟨⟨by decide +kernel, by decide +kernel⟩, List.mem_of_getElem? (i := 682) (by decide +kernel), List.mem_of_getElem? (i := 759) (by decide +kernel), List.mem_of_getElem? (i := 760) (by decide +kernel)⟩
theorem lw_p28 : lw_okq (⟨"AggregateSplitterModel", "append", "(IIIIII)I"⟩, 16) := ⟨⟨by decide +kernel, by decide +kernel⟩, List.mem_of_getElem? (i := 682) (by decide +kernel), List.mem_of_getElem? (i := 766) (by decide +kernel), List.mem_of_getElem? (i := 767) (by decide +kernel)⟩
theorem lw_p29 : lw_okq (⟨"AggregateSplitterModel", "doesEscape", "(I)Z"⟩, 16) := ⟨⟨by decide +kernel, by decide +kernel⟩, List.mem_of_getElem? (i := 682) (by decide +kernel), List.mem_of_getElem? (i := 818) (by decide +kernel), List.mem_of_getElem? (i := 819) (by decide +kernel)⟩
theorem lw_p30 : lw_okq (⟨"AggregateSplitterModel", "of", "(II)I"⟩, 16) := ⟨⟨by decide +kernel, by decide +kernel⟩, List.mem_of_getElem? (i := 682) (by decide +kernel), List.mem_of_getElem? (i := 822) (by decide +kernel), List.mem_of_getElem? (i := 823) (by decide +kernel)⟩
theorem lw_p31 : lw_okq (⟨"AggregateSplitterModel", "findParts", "(I)V"⟩, 16) := ⟨⟨by decide +kernel, by decide +kernel⟩, List.mem_of_getElem? (i := 682) (by decide +kernel), List.mem_of_getElem? (i := 830) (by decide +kernel), List.mem_of_getElem? (i := 831) (by decide +kernel)⟩
def lw_privs_2 : List (MethodName × Nat) := [(⟨"AggregateSplitter$Run", "store", "(LAggregateSplitter$Instruction;)V"⟩, 11), (⟨"AggregateSplitter$Run", "priceOfAccess", "(LAggregateSplitter$Partition;)I"⟩, 11), (⟨"AggregateSplitter$Run", "load", "(LAggregateSplitter$Instruction;)V"⟩, 11), (⟨"AggregateSplitter$Run", "copyLivePieces", "(LAggregateSplitter$Instruction;[I)V"⟩, 11), (⟨"AggregateSplitter$Run", "moveBytes", "(LAggregateSplitter$Instruction;II)V"⟩, 11), (⟨"AggregateSplitter$Run", "copyWhole", "(LAggregateSplitter$Instruction;)V"⟩, 11), (⟨"AggregateSplitter$Run", "escape", "(I)V"⟩, 11), (⟨"AggregateSplitter$Run", "add", "(LAggregateSplitter$Instruction;I)V"⟩, 11), (⟨"AggregateSplitter$Run", "output", "(I)V"⟩, 11), (⟨"AggregateSplitterModel", "note", "()V"⟩, 16), (⟨"AggregateSplitterModel", "isRange", "(III)Z"⟩, 16), (⟨"AggregateSplitterModel", "isRecord", "(I)Z"⟩, 16), (⟨"AggregateSplitterModel", "append", "(IIIIII)I"⟩, 16), (⟨"AggregateSplitterModel", "doesEscape", "(I)Z"⟩, 16), (⟨"AggregateSplitterModel", "of", "(II)I"⟩, 16), (⟨"AggregateSplitterModel", "findParts", "(I)V"⟩, 16)]
theorem lw_r2 : ∀ q ∈ lw_privs_2, lw_okq q := List.forall_mem_cons.mpr ⟨lw_p16, List.forall_mem_cons.mpr ⟨lw_p17, List.forall_mem_cons.mpr ⟨lw_p18, List.forall_mem_cons.mpr ⟨lw_p19, List.forall_mem_cons.mpr ⟨lw_p20, List.forall_mem_cons.mpr ⟨lw_p21, List.forall_mem_cons.mpr ⟨lw_p22, List.forall_mem_cons.mpr ⟨lw_p23, List.forall_mem_cons.mpr ⟨lw_p24, List.forall_mem_cons.mpr ⟨lw_p25, List.forall_mem_cons.mpr ⟨lw_p26, List.forall_mem_cons.mpr ⟨lw_p27, List.forall_mem_cons.mpr ⟨lw_p28, List.forall_mem_cons.mpr ⟨lw_p29, List.forall_mem_cons.mpr ⟨lw_p30, List.forall_mem_cons.mpr ⟨lw_p31, fun _ h => absurd h List.not_mem_nil⟩⟩⟩⟩⟩⟩⟩⟩⟩⟩⟩⟩⟩⟩⟩⟩
theorem lw_p32 : lw_okq (⟨"AggregateSplitterModel", "isParted", "(II)Z"⟩, 16) := ⟨⟨by decide +kernel, by decide +kernel⟩, List.mem_of_getElem? (i := 682) (by decide +kernel), List.mem_of_getElem? (i := 834) (by decide +kernel), List.mem_of_getElem? (i := 835) (by decide +kernel)⟩
theorem lw_p33 : lw_okq (⟨"AggregateSplitterModel", "isAccessed", "(IIZ)Z"⟩, 16) := ⟨⟨by decide +kernel, by decide +kernel⟩, List.mem_of_getElem? (i := 682) (by decide +kernel), List.mem_of_getElem? (i := 838) (by decide +kernel), List.mem_of_getElem? (i := 839) (by decide +kernel)⟩
theorem lw_p34 : lw_okq (⟨"AggregateSplitterModel", "isAccess", "(I)Z"⟩, 16) := ⟨⟨by decide +kernel, by decide +kernel⟩, List.mem_of_getElem? (i := 682) (by decide +kernel), List.mem_of_getElem? (i := 842) (by decide +kernel), List.mem_of_getElem? (i := 843) (by decide +kernel)⟩
theorem lw_p35 : lw_okq (⟨"AggregateSplitterModel", "isSoft", "(II)Z"⟩, 16) := ⟨⟨by decide +kernel, by decide +kernel⟩, List.mem_of_getElem? (i := 682) (by decide +kernel), List.mem_of_getElem? (i := 849) (by decide +kernel), List.mem_of_getElem? (i := 850) (by decide +kernel)⟩
theorem lw_p36 : lw_okq (⟨"AggregateSplitterModel", "isCopied", "(IIII)Z"⟩, 16) := ⟨⟨by decide +kernel, by decide +kernel⟩, List.mem_of_getElem? (i := 682) (by decide +kernel), List.mem_of_getElem? (i := 853) (by decide +kernel), List.mem_of_getElem? (i := 854) (by decide +kernel)⟩
theorem lw_p37 : lw_okq (⟨"AggregateSplitterModel", "goesOn", "(II)Z"⟩, 16) := ⟨⟨by decide +kernel, by decide +kernel⟩, List.mem_of_getElem? (i := 682) (by decide +kernel), List.mem_of_getElem? (i := 857) (by decide +kernel), List.mem_of_getElem? (i := 858) (by decide +kernel)⟩
theorem lw_p38 : lw_okq (⟨"AggregateSplitterModel", "areCopiedAlike", "(II)Z"⟩, 16) := ⟨⟨by decide +kernel, by decide +kernel⟩, List.mem_of_getElem? (i := 682) (by decide +kernel), List.mem_of_getElem? (i := 861) (by decide +kernel), List.mem_of_getElem? (i := 862) (by decide +kernel)⟩
theorem lw_p39 : lw_okq (⟨"AggregateSplitterModel", "isPart", "(II)Z"⟩, 16) := ⟨⟨by decide +kernel, by decide +kernel⟩, List.mem_of_getElem? (i := 682) (by decide +kernel), List.mem_of_getElem? (i := 869) (by decide +kernel), List.mem_of_getElem? (i := 870) (by decide +kernel)⟩
theorem lw_p40 : lw_okq (⟨"AggregateSplitterModel", "analyse", "()V"⟩, 16) := ⟨⟨by decide +kernel, by decide +kernel⟩, List.mem_of_getElem? (i := 682) (by decide +kernel), List.mem_of_getElem? (i := 873) (by decide +kernel), List.mem_of_getElem? (i := 874) (by decide +kernel)⟩
theorem lw_p41 : lw_okq (⟨"AggregateSplitterModel", "findAllParts", "()V"⟩, 16) := ⟨⟨by decide +kernel, by decide +kernel⟩, List.mem_of_getElem? (i := 682) (by decide +kernel), List.mem_of_getElem? (i := 877) (by decide +kernel), List.mem_of_getElem? (i := 878) (by decide +kernel)⟩
theorem lw_p42 : lw_okq (⟨"AggregateSplitterModel", "findPromotable", "()V"⟩, 16) := ⟨⟨by decide +kernel, by decide +kernel⟩, List.mem_of_getElem? (i := 682) (by decide +kernel), List.mem_of_getElem? (i := 881) (by decide +kernel), List.mem_of_getElem? (i := 882) (by decide +kernel)⟩
theorem lw_p43 : lw_okq (⟨"AggregateSplitterModel", "restrict", "(III)V"⟩, 16) := ⟨⟨by decide +kernel, by decide +kernel⟩, List.mem_of_getElem? (i := 682) (by decide +kernel), List.mem_of_getElem? (i := 885) (by decide +kernel), List.mem_of_getElem? (i := 886) (by decide +kernel)⟩
theorem lw_p44 : lw_okq (⟨"AggregateSplitterModel", "placeOf", "(II)I"⟩, 16) := ⟨⟨by decide +kernel, by decide +kernel⟩, List.mem_of_getElem? (i := 682) (by decide +kernel), List.mem_of_getElem? (i := 889) (by decide +kernel), List.mem_of_getElem? (i := 890) (by decide +kernel)⟩
theorem lw_p45 : lw_okq (⟨"AggregateSplitterModel", "restrictPieces", "(I)V"⟩, 16) := ⟨⟨by decide +kernel, by decide +kernel⟩, List.mem_of_getElem? (i := 682) (by decide +kernel), List.mem_of_getElem? (i := 893) (by decide +kernel), List.mem_of_getElem? (i := 894) (by decide +kernel)⟩
theorem lw_p46 : lw_okq (⟨"AggregateSplitterModel", "pieceAt", "(II)I"⟩, 16) := ⟨⟨by decide +kernel, by decide +kernel⟩, List.mem_of_getElem? (i := 682) (by decide +kernel), List.mem_of_getElem? (i := 897) (by decide +kernel), List.mem_of_getElem? (i := 898) (by decide +kernel)⟩
theorem lw_p47 : lw_okq (⟨"AggregateSplitterModel", "beginsAt", "(II)Z"⟩, 16) := ⟨⟨by decide +kernel, by decide +kernel⟩, List.mem_of_getElem? (i := 682) (by decide +kernel), List.mem_of_getElem? (i := 901) (by decide +kernel), List.mem_of_getElem? (i := 902) (by decide +kernel)⟩
def lw_privs_3 : List (MethodName × Nat) := [(⟨"AggregateSplitterModel", "isParted", "(II)Z"⟩, 16), (⟨"AggregateSplitterModel", "isAccessed", "(IIZ)Z"⟩, 16), (⟨"AggregateSplitterModel", "isAccess", "(I)Z"⟩, 16), (⟨"AggregateSplitterModel", "isSoft", "(II)Z"⟩, 16), (⟨"AggregateSplitterModel", "isCopied", "(IIII)Z"⟩, 16), (⟨"AggregateSplitterModel", "goesOn", "(II)Z"⟩, 16), (⟨"AggregateSplitterModel", "areCopiedAlike", "(II)Z"⟩, 16), (⟨"AggregateSplitterModel", "isPart", "(II)Z"⟩, 16), (⟨"AggregateSplitterModel", "analyse", "()V"⟩, 16), (⟨"AggregateSplitterModel", "findAllParts", "()V"⟩, 16), (⟨"AggregateSplitterModel", "findPromotable", "()V"⟩, 16), (⟨"AggregateSplitterModel", "restrict", "(III)V"⟩, 16), (⟨"AggregateSplitterModel", "placeOf", "(II)I"⟩, 16), (⟨"AggregateSplitterModel", "restrictPieces", "(I)V"⟩, 16), (⟨"AggregateSplitterModel", "pieceAt", "(II)I"⟩, 16), (⟨"AggregateSplitterModel", "beginsAt", "(II)Z"⟩, 16)]
theorem lw_r3 : ∀ q ∈ lw_privs_3, lw_okq q := List.forall_mem_cons.mpr ⟨lw_p32, List.forall_mem_cons.mpr ⟨lw_p33, List.forall_mem_cons.mpr ⟨lw_p34, List.forall_mem_cons.mpr ⟨lw_p35, List.forall_mem_cons.mpr ⟨lw_p36, List.forall_mem_cons.mpr ⟨lw_p37, List.forall_mem_cons.mpr ⟨lw_p38, List.forall_mem_cons.mpr ⟨lw_p39, List.forall_mem_cons.mpr ⟨lw_p40, List.forall_mem_cons.mpr ⟨lw_p41, List.forall_mem_cons.mpr ⟨lw_p42, List.forall_mem_cons.mpr ⟨lw_p43, List.forall_mem_cons.mpr ⟨lw_p44, List.forall_mem_cons.mpr ⟨lw_p45, List.forall_mem_cons.mpr ⟨lw_p46, List.forall_mem_cons.mpr ⟨lw_p47, fun _ h => absurd h List.not_mem_nil⟩⟩⟩⟩⟩⟩⟩⟩⟩⟩⟩⟩⟩⟩⟩⟩
theorem lw_p48 : lw_okq (⟨"AggregateSplitterModel", "findLive", "()V"⟩, 16) := ⟨⟨by decide +kernel, by decide +kernel⟩, List.mem_of_getElem? (i := 682) (by decide +kernel), List.mem_of_getElem? (i := 905) (by decide +kernel), List.mem_of_getElem? (i := 906) (by decide +kernel)⟩
theorem lw_p49 : lw_okq (⟨"AggregateSplitterModel", "enliven", "(I)Z"⟩, 16) := ⟨⟨by decide +kernel, by decide +kernel⟩, List.mem_of_getElem? (i := 682) (by decide +kernel), List.mem_of_getElem? (i := 909) (by decide +kernel), List.mem_of_getElem? (i := 910) (by decide +kernel)⟩
theorem lw_p50 : lw_okq (⟨"AggregateSplitterModel", "isCopy", "(I)Z"⟩, 16) := ⟨⟨by decide +kernel, by decide +kernel⟩, List.mem_of_getElem? (i := 682) (by decide +kernel), List.mem_of_getElem? (i := 933) (by decide +kernel), List.mem_of_getElem? (i := 934) (by decide +kernel)⟩
theorem lw_p51 : lw_okq (⟨"AggregateSplitterModel", "runs", "(Z)V"⟩, 16) := ⟨⟨by decide +kernel, by decide +kernel⟩, List.mem_of_getElem? (i := 682) (by decide +kernel), List.mem_of_getElem? (i := 953) (by decide +kernel), List.mem_of_getElem? (i := 954) (by decide +kernel)⟩
theorem lw_p52 : lw_okq (⟨"AggregateSplitterModel", "executes", "(IZ)I"⟩, 16) := ⟨⟨by decide +kernel, by decide +kernel⟩, List.mem_of_getElem? (i := 682) (by decide +kernel), List.mem_of_getElem? (i := 957) (by decide +kernel), List.mem_of_getElem? (i := 958) (by decide +kernel)⟩
theorem lw_p53 : lw_okq (⟨"AggregateSplitterModel", "access", "(IZ)V"⟩, 16) := ⟨⟨by decide +kernel, by decide +kernel⟩, List.mem_of_getElem? (i := 682) (by decide +kernel), List.mem_of_getElem? (i := 961) (by decide +kernel), List.mem_of_getElem? (i := 962) (by decide +kernel)⟩
theorem lw_p54 : lw_okq (⟨"AggregateSplitterModel", "load", "(I)V"⟩, 16) := ⟨⟨by decide +kernel, by decide +kernel⟩, List.mem_of_getElem? (i := 682) (by decide +kernel), List.mem_of_getElem? (i := 965) (by decide +kernel), List.mem_of_getElem? (i := 966) (by decide +kernel)⟩
theorem lw_p55 : lw_okq (⟨"AggregateSplitterModel", "store", "(I)V"⟩, 16) := ⟨⟨by decide +kernel, by decide +kernel⟩, List.mem_of_getElem? (i := 682) (by decide +kernel), List.mem_of_getElem? (i := 969) (by decide +kernel), List.mem_of_getElem? (i := 970) (by decide +kernel)⟩
theorem lw_p56 : lw_okq (⟨"AggregateSplitterModel", "copyPieces", "(I)V"⟩, 16) := ⟨⟨by decide +kernel, by decide +kernel⟩, List.mem_of_getElem? (i := 682) (by decide +kernel), List.mem_of_getElem? (i := 973) (by decide +kernel), List.mem_of_getElem? (i := 974) (by decide +kernel)⟩
theorem lw_p57 : lw_okq (⟨"AggregateSplitterModel", "copyBytes", "(III)V"⟩, 16) := ⟨⟨by decide +kernel, by decide +kernel⟩, List.mem_of_getElem? (i := 682) (by decide +kernel), List.mem_of_getElem? (i := 977) (by decide +kernel), List.mem_of_getElem? (i := 978) (by decide +kernel)⟩
theorem lw_p58 : lw_okq (⟨"AggregateSplitterModel", "escape", "(I)V"⟩, 16) := ⟨⟨by decide +kernel, by decide +kernel⟩, List.mem_of_getElem? (i := 682) (by decide +kernel), List.mem_of_getElem? (i := 981) (by decide +kernel), List.mem_of_getElem? (i := 982) (by decide +kernel)⟩
theorem lw_p59 : lw_okq (⟨"AggregateSplitterModel", "adds", "(I)Z"⟩, 16) := ⟨⟨by decide +kernel, by decide +kernel⟩, List.mem_of_getElem? (i := 682) (by decide +kernel), List.mem_of_getElem? (i := 985) (by decide +kernel), List.mem_of_getElem? (i := 986) (by decide +kernel)⟩
def lw_privs_4 : List (MethodName × Nat) := [(⟨"AggregateSplitterModel", "findLive", "()V"⟩, 16), (⟨"AggregateSplitterModel", "enliven", "(I)Z"⟩, 16), (⟨"AggregateSplitterModel", "isCopy", "(I)Z"⟩, 16), (⟨"AggregateSplitterModel", "runs", "(Z)V"⟩, 16), (⟨"AggregateSplitterModel", "executes", "(IZ)I"⟩, 16), (⟨"AggregateSplitterModel", "access", "(IZ)V"⟩, 16), (⟨"AggregateSplitterModel", "load", "(I)V"⟩, 16), (⟨"AggregateSplitterModel", "store", "(I)V"⟩, 16), (⟨"AggregateSplitterModel", "copyPieces", "(I)V"⟩, 16), (⟨"AggregateSplitterModel", "copyBytes", "(III)V"⟩, 16), (⟨"AggregateSplitterModel", "escape", "(I)V"⟩, 16), (⟨"AggregateSplitterModel", "adds", "(I)Z"⟩, 16)]
theorem lw_r4 : ∀ q ∈ lw_privs_4, lw_okq q := List.forall_mem_cons.mpr ⟨lw_p48, List.forall_mem_cons.mpr ⟨lw_p49, List.forall_mem_cons.mpr ⟨lw_p50, List.forall_mem_cons.mpr ⟨lw_p51, List.forall_mem_cons.mpr ⟨lw_p52, List.forall_mem_cons.mpr ⟨lw_p53, List.forall_mem_cons.mpr ⟨lw_p54, List.forall_mem_cons.mpr ⟨lw_p55, List.forall_mem_cons.mpr ⟨lw_p56, List.forall_mem_cons.mpr ⟨lw_p57, List.forall_mem_cons.mpr ⟨lw_p58, List.forall_mem_cons.mpr ⟨lw_p59, fun _ h => absurd h List.not_mem_nil⟩⟩⟩⟩⟩⟩⟩⟩⟩⟩⟩⟩
def lw_privs : List (MethodName × Nat) := lw_privs_1 ++ (lw_privs_2 ++ (lw_privs_3 ++ (lw_privs_4)))
def lw_tbl : List Cond := k2_sels lw_privs ++ tables_1
theorem lw_privs_ok : ∀ q ∈ lw_privs, lw_okq q := by
  show ∀ q ∈ lw_privs_1 ++ (lw_privs_2 ++ (lw_privs_3 ++ (lw_privs_4))), lw_okq q
  exact List.forall_mem_append.mpr ⟨lw_r1, List.forall_mem_append.mpr ⟨lw_r2, List.forall_mem_append.mpr ⟨lw_r3, lw_r4⟩⟩⟩
end
section
def RX0 : String := "AggregateSplitter$Analysis"
def TX0 : u_T := fun k => match k with
  | 0 => ("AggregateSplitter$Analysis", "layouts", "[LAggregateSplitter$Layout;", true)
  | 1 => ("AggregateSplitter$Analysis", "noLayout", "LAggregateSplitter$Layout;", true)
  | 2 => ("AggregateSplitter$Analysis", "pieces", "[[I", true)
  | _ => ("AggregateSplitter$Analysis", "stale", "Z", false)
def tyX0 : Nat → FieldType := fun k => match k with
  | 0 => .array (.object "AggregateSplitter$Layout")
  | 1 => .object "AggregateSplitter$Layout"
  | 2 => .array (.array .int)
  | _ => .boolean
abbrev wsX00 : List Cond := u_ws RX0 TX0 4
theorem nmX0 : ∀ a, a < 4 → ∀ b, b < 4 → a ≠ b → (TX0 a).2.1 ≠ (TX0 b).2.1 := by decide +kernel
theorem tyX0_ok : ∀ k, k < 4 → parseFieldDescriptor (TX0 k).2.2.1 = some (tyX0 k) := by decide +kernel
abbrev cX0_init : ByteArray := prog_2_method_1_code
def yX0_init : MethodName := ⟨RX0, "<init>", "()V"⟩
abbrev cX0_layoutOf : ByteArray := prog_2_method_2_code
def yX0_layoutOf : MethodName := ⟨RX0, "layoutOf", "(I)LAggregateSplitter$Layout;"⟩
abbrev cX0_refresh : ByteArray := prog_2_method_3_code
def yX0_refresh : MethodName := ⟨RX0, "refresh", "(LAggregateSplitter$Program;)V"⟩
abbrev cX0_collectRanges : ByteArray := prog_2_method_4_code
def yX0_collectRanges : MethodName := ⟨RX0, "collectRanges", "(LAggregateSplitter$Instruction;I)V"⟩
abbrev cX0_cutIntoPieces : ByteArray := prog_2_method_5_code
def yX0_cutIntoPieces : MethodName := ⟨RX0, "cutIntoPieces", "(LAggregateSplitter$Instruction;I)V"⟩
abbrev cX0_beginsPiece : ByteArray := prog_2_method_6_code
def yX0_beginsPiece : MethodName := ⟨RX0, "beginsPiece", "(LAggregateSplitter$Instruction;I)Z"⟩
abbrev cX0_touchPartitions : ByteArray := prog_2_method_7_code
def yX0_touchPartitions : MethodName := ⟨RX0, "touchPartitions", "(LAggregateSplitter$Instruction;I)V"⟩
abbrev cX0_markLive : ByteArray := prog_2_method_8_code
def yX0_markLive : MethodName := ⟨RX0, "markLive", "(LAggregateSplitter$Program;)V"⟩
abbrev cX0_passLifeToOrigins : ByteArray := prog_2_method_9_code
def yX0_passLifeToOrigins : MethodName := ⟨RX0, "passLifeToOrigins", "(LAggregateSplitter$Instruction;I)Z"⟩
abbrev cX0_target : ByteArray := prog_2_method_10_code
def yX0_target : MethodName := ⟨RX0, "target", "(LAggregateSplitter$Instruction;I)LAggregateSplitter$Partition;"⟩
abbrev cX0_origin : ByteArray := prog_2_method_11_code
def yX0_origin : MethodName := ⟨RX0, "origin", "(LAggregateSplitter$Instruction;I)LAggregateSplitter$Partition;"⟩
abbrev cX0_countPieces : ByteArray := prog_2_method_12_code
def yX0_countPieces : MethodName := ⟨RX0, "countPieces", "(I)I"⟩
abbrev cX0_lengthOfPiece : ByteArray := prog_2_method_13_code
def yX0_lengthOfPiece : MethodName := ⟨RX0, "lengthOfPiece", "(II)I"⟩
def RX1 : String := "AggregateSplitter$History"
def TX1 : u_T := fun k => match k with
  | 0 => ("AggregateSplitter$History", "kinds", "[I", true)
  | 1 => ("AggregateSplitter$History", "positions", "[I", true)
  | 2 => ("AggregateSplitter$History", "subjects", "[LAggregateSplitter$Instruction;", true)
  | 3 => ("AggregateSplitter$History", "next", "I", false)
  | _ => ("AggregateSplitter$History", "kept", "I", false)
def tyX1 : Nat → FieldType := fun k => match k with
  | 0 => .array .int
  | 1 => .array .int
  | 2 => .array (.object "AggregateSplitter$Instruction")
  | 3 => .int
  | _ => .int
abbrev wsX10 : List Cond := u_ws RX1 TX1 5
theorem nmX1 : ∀ a, a < 5 → ∀ b, b < 5 → a ≠ b → (TX1 a).2.1 ≠ (TX1 b).2.1 := by decide +kernel
theorem tyX1_ok : ∀ k, k < 5 → parseFieldDescriptor (TX1 k).2.2.1 = some (tyX1 k) := by decide +kernel
abbrev cX1_init : ByteArray := prog_3_method_1_code
def yX1_init : MethodName := ⟨RX1, "<init>", "()V"⟩
abbrev cX1_note : ByteArray := prog_3_method_2_code
def yX1_note : MethodName := ⟨RX1, "note", "(IILAggregateSplitter$Instruction;)V"⟩
abbrev cX1_takeBack : ByteArray := prog_3_method_3_code
def yX1_takeBack : MethodName := ⟨RX1, "takeBack", "(LAggregateSplitter$Program;)V"⟩
def RX2 : String := "AggregateSplitter$Instruction"
def TX2 : u_T := fun k => match k with
  | 0 => ("AggregateSplitter$Instruction", "kind", "I", true)
  | 1 => ("AggregateSplitter$Instruction", "register", "I", false)
  | 2 => ("AggregateSplitter$Instruction", "record", "I", false)
  | 3 => ("AggregateSplitter$Instruction", "offset", "I", false)
  | 4 => ("AggregateSplitter$Instruction", "length", "I", false)
  | 5 => ("AggregateSplitter$Instruction", "source", "I", false)
  | 6 => ("AggregateSplitter$Instruction", "sourceOffset", "I", false)
  | 7 => ("AggregateSplitter$Instruction", "first", "I", false)
  | 8 => ("AggregateSplitter$Instruction", "second", "I", false)
  | _ => ("AggregateSplitter$Instruction", "number", "I", false)
def tyX2 : Nat → FieldType := fun k => match k with
  | 0 => .int
  | 1 => .int
  | 2 => .int
  | 3 => .int
  | 4 => .int
  | 5 => .int
  | 6 => .int
  | 7 => .int
  | 8 => .int
  | _ => .int
abbrev wsX20 : List Cond := u_ws RX2 TX2 10
theorem nmX2 : ∀ a, a < 10 → ∀ b, b < 10 → a ≠ b → (TX2 a).2.1 ≠ (TX2 b).2.1 := by decide +kernel
theorem tyX2_ok : ∀ k, k < 10 → parseFieldDescriptor (TX2 k).2.2.1 = some (tyX2 k) := by decide +kernel
abbrev cX2_init : ByteArray := prog_4_method_1_code
def yX2_init : MethodName := ⟨RX2, "<init>", "(I)V"⟩
abbrev cX2_ofAccess : ByteArray := prog_4_method_2_code
def yX2_ofAccess : MethodName := ⟨RX2, "ofAccess", "(IIIII)LAggregateSplitter$Instruction;"⟩
abbrev cX2_ofCopy : ByteArray := prog_4_method_3_code
def yX2_ofCopy : MethodName := ⟨RX2, "ofCopy", "(IIIII)LAggregateSplitter$Instruction;"⟩
abbrev cX2_ofEscape : ByteArray := prog_4_method_4_code
def yX2_ofEscape : MethodName := ⟨RX2, "ofEscape", "(I)LAggregateSplitter$Instruction;"⟩
abbrev cX2_ofAdd : ByteArray := prog_4_method_5_code
def yX2_ofAdd : MethodName := ⟨RX2, "ofAdd", "(III)LAggregateSplitter$Instruction;"⟩
abbrev cX2_ofNumber : ByteArray := prog_4_method_6_code
def yX2_ofNumber : MethodName := ⟨RX2, "ofNumber", "(III)LAggregateSplitter$Instruction;"⟩
abbrev cX2_isLoadOrStore : ByteArray := prog_4_method_7_code
def yX2_isLoadOrStore : MethodName := ⟨RX2, "isLoadOrStore", "()Z"⟩
def RX3 : String := "AggregateSplitter$Layout"
def TX3 : u_T := fun k => match k with
  | 0 => ("AggregateSplitter$Layout", "partitions", "[LAggregateSplitter$Partition;", true)
  | 1 => ("AggregateSplitter$Layout", "noPartition", "LAggregateSplitter$Partition;", true)
  | 2 => ("AggregateSplitter$Layout", "holders", "[LAggregateSplitter$Partition;", true)
  | 3 => ("AggregateSplitter$Layout", "accessed", "[Z", true)
  | 4 => ("AggregateSplitter$Layout", "joined", "[Z", true)
  | 5 => ("AggregateSplitter$Layout", "copyRanges", "[J", true)
  | 6 => ("AggregateSplitter$Layout", "size", "I", false)
  | 7 => ("AggregateSplitter$Layout", "count", "I", false)
  | _ => ("AggregateSplitter$Layout", "escaped", "Z", false)
def tyX3 : Nat → FieldType := fun k => match k with
  | 0 => .array (.object "AggregateSplitter$Partition")
  | 1 => .object "AggregateSplitter$Partition"
  | 2 => .array (.object "AggregateSplitter$Partition")
  | 3 => .array .boolean
  | 4 => .array .boolean
  | 5 => .array .long
  | 6 => .int
  | 7 => .int
  | _ => .boolean
abbrev wsX30 : List Cond := u_ws RX3 TX3 9
theorem nmX3 : ∀ a, a < 9 → ∀ b, b < 9 → a ≠ b → (TX3 a).2.1 ≠ (TX3 b).2.1 := by decide +kernel
theorem tyX3_ok : ∀ k, k < 9 → parseFieldDescriptor (TX3 k).2.2.1 = some (tyX3 k) := by decide +kernel
abbrev cX3_init : ByteArray := prog_5_method_1_code
def yX3_init : MethodName := ⟨RX3, "<init>", "()V"⟩
abbrev cX3_clear : ByteArray := prog_5_method_2_code
def yX3_clear : MethodName := ⟨RX3, "clear", "(I)V"⟩
abbrev cX3_addAccess : ByteArray := prog_5_method_3_code
def yX3_addAccess : MethodName := ⟨RX3, "addAccess", "(II)V"⟩
abbrev cX3_addCopyRange : ByteArray := prog_5_method_4_code
def yX3_addCopyRange : MethodName := ⟨RX3, "addCopyRange", "(IIJ)V"⟩
abbrev cX3_formPartitions : ByteArray := prog_5_method_5_code
def yX3_formPartitions : MethodName := ⟨RX3, "formPartitions", "()V"⟩
abbrev cX3_isByte : ByteArray := prog_5_method_6_code
def yX3_isByte : MethodName := ⟨RX3, "isByte", "(I)Z"⟩
abbrev cX3_isPadding : ByteArray := prog_5_method_7_code
def yX3_isPadding : MethodName := ⟨RX3, "isPadding", "(I)Z"⟩
abbrev cX3_beginsPartition : ByteArray := prog_5_method_8_code
def yX3_beginsPartition : MethodName := ⟨RX3, "beginsPartition", "(I)Z"⟩
abbrev cX3_numbered : ByteArray := prog_5_method_9_code
def yX3_numbered : MethodName := ⟨RX3, "numbered", "(I)LAggregateSplitter$Partition;"⟩
abbrev cX3_holding : ByteArray := prog_5_method_10_code
def yX3_holding : MethodName := ⟨RX3, "holding", "(I)LAggregateSplitter$Partition;"⟩
abbrev cX3_isStart : ByteArray := prog_5_method_11_code
def yX3_isStart : MethodName := ⟨RX3, "isStart", "(I)Z"⟩
abbrev cX3_countPadding : ByteArray := prog_5_method_12_code
def yX3_countPadding : MethodName := ⟨RX3, "countPadding", "()I"⟩
abbrev cX3_countScalars : ByteArray := prog_5_method_13_code
def yX3_countScalars : MethodName := ⟨RX3, "countScalars", "()I"⟩
abbrev cX3_countLiveBytes : ByteArray := prog_5_method_14_code
def yX3_countLiveBytes : MethodName := ⟨RX3, "countLiveBytes", "()I"⟩
def RX4 : String := "AggregateSplitter$Partition"
def TX4 : u_T := fun k => match k with
  | 0 => ("AggregateSplitter$Partition", "start", "I", false)
  | 1 => ("AggregateSplitter$Partition", "length", "I", false)
  | 2 => ("AggregateSplitter$Partition", "promotable", "Z", false)
  | _ => ("AggregateSplitter$Partition", "live", "Z", false)
def tyX4 : Nat → FieldType := fun k => match k with
  | 0 => .int
  | 1 => .int
  | 2 => .boolean
  | _ => .boolean
abbrev wsX40 : List Cond := u_ws RX4 TX4 4
theorem nmX4 : ∀ a, a < 4 → ∀ b, b < 4 → a ≠ b → (TX4 a).2.1 ≠ (TX4 b).2.1 := by decide +kernel
theorem tyX4_ok : ∀ k, k < 4 → parseFieldDescriptor (TX4 k).2.2.1 = some (tyX4 k) := by decide +kernel
abbrev cX4_init : ByteArray := prog_6_method_1_code
def yX4_init : MethodName := ⟨RX4, "<init>", "()V"⟩
abbrev cX4_beginAt : ByteArray := prog_6_method_2_code
def yX4_beginAt : MethodName := ⟨RX4, "beginAt", "(IZ)V"⟩
abbrev cX4_grow : ByteArray := prog_6_method_3_code
def yX4_grow : MethodName := ⟨RX4, "grow", "(Z)V"⟩
abbrev cX4_touchWith : ByteArray := prog_6_method_4_code
def yX4_touchWith : MethodName := ⟨RX4, "touchWith", "(I)V"⟩
def RX5 : String := "AggregateSplitter$Program"
def TX5 : u_T := fun k => match k with
  | 0 => ("AggregateSplitter$Program", "sizes", "[I", true)
  | 1 => ("AggregateSplitter$Program", "list", "[LAggregateSplitter$Instruction;", true)
  | 2 => ("AggregateSplitter$Program", "nothing", "LAggregateSplitter$Instruction;", true)
  | 3 => ("AggregateSplitter$Program", "records", "I", false)
  | _ => ("AggregateSplitter$Program", "instructions", "I", false)
def tyX5 : Nat → FieldType := fun k => match k with
  | 0 => .array .int
  | 1 => .array (.object "AggregateSplitter$Instruction")
  | 2 => .object "AggregateSplitter$Instruction"
  | 3 => .int
  | _ => .int
abbrev wsX50 : List Cond := u_ws RX5 TX5 5
theorem nmX5 : ∀ a, a < 5 → ∀ b, b < 5 → a ≠ b → (TX5 a).2.1 ≠ (TX5 b).2.1 := by decide +kernel
theorem tyX5_ok : ∀ k, k < 5 → parseFieldDescriptor (TX5 k).2.2.1 = some (tyX5 k) := by decide +kernel
abbrev cX5_init : ByteArray := prog_7_method_1_code
def yX5_init : MethodName := ⟨RX5, "<init>", "()V"⟩
abbrev cX5_hasRecord : ByteArray := prog_7_method_2_code
def yX5_hasRecord : MethodName := ⟨RX5, "hasRecord", "(I)Z"⟩
abbrev cX5_hasInstruction : ByteArray := prog_7_method_3_code
def yX5_hasInstruction : MethodName := ⟨RX5, "hasInstruction", "(I)Z"⟩
abbrev cX5_sizeOf : ByteArray := prog_7_method_4_code
def yX5_sizeOf : MethodName := ⟨RX5, "sizeOf", "(I)I"⟩
abbrev cX5_holdsRange : ByteArray := prog_7_method_5_code
def yX5_holdsRange : MethodName := ⟨RX5, "holdsRange", "(III)Z"⟩
abbrev cX5_at : ByteArray := prog_7_method_6_code
def yX5_at : MethodName := ⟨RX5, "at", "(I)LAggregateSplitter$Instruction;"⟩
abbrev cX5_addRecord : ByteArray := prog_7_method_7_code
def yX5_addRecord : MethodName := ⟨RX5, "addRecord", "(I)V"⟩
abbrev cX5_dropRecord : ByteArray := prog_7_method_8_code
def yX5_dropRecord : MethodName := ⟨RX5, "dropRecord", "()V"⟩
abbrev cX5_insert : ByteArray := prog_7_method_9_code
def yX5_insert : MethodName := ⟨RX5, "insert", "(ILAggregateSplitter$Instruction;)V"⟩
abbrev cX5_delete : ByteArray := prog_7_method_10_code
def yX5_delete : MethodName := ⟨RX5, "delete", "(I)V"⟩
def RX6 : String := "AggregateSplitter$Run"
def TX6 : u_T := fun k => match k with
  | 0 => ("AggregateSplitter$Run", "program", "LAggregateSplitter$Program;", true)
  | 1 => ("AggregateSplitter$Run", "analysis", "LAggregateSplitter$Analysis;", true)
  | 2 => ("AggregateSplitter$Run", "registers", "[I", true)
  | 3 => ("AggregateSplitter$Run", "bytes", "[[I", true)
  | 4 => ("AggregateSplitter$Run", "outputs", "[I", true)
  | 5 => ("AggregateSplitter$Run", "transformed", "Z", false)
  | 6 => ("AggregateSplitter$Run", "outputTotal", "I", false)
  | 7 => ("AggregateSplitter$Run", "sum", "I", false)
  | 8 => ("AggregateSplitter$Run", "price", "I", false)
  | 9 => ("AggregateSplitter$Run", "trap", "I", false)
  | _ => ("AggregateSplitter$Run", "resume", "I", false)
def tyX6 : Nat → FieldType := fun k => match k with
  | 0 => .object "AggregateSplitter$Program"
  | 1 => .object "AggregateSplitter$Analysis"
  | 2 => .array .int
  | 3 => .array (.array .int)
  | 4 => .array .int
  | 5 => .boolean
  | 6 => .int
  | 7 => .int
  | 8 => .int
  | 9 => .int
  | _ => .int
abbrev wsX60 : List Cond := u_ws RX6 TX6 11
theorem nmX6 : ∀ a, a < 11 → ∀ b, b < 11 → a ≠ b → (TX6 a).2.1 ≠ (TX6 b).2.1 := by decide +kernel
theorem tyX6_ok : ∀ k, k < 11 → parseFieldDescriptor (TX6 k).2.2.1 = some (tyX6 k) := by decide +kernel
abbrev cX6_init : ByteArray := prog_8_method_1_code
def yX6_init : MethodName := ⟨RX6, "<init>", "(LAggregateSplitter$Program;LAggregateSplitter$Analysis;)V"⟩
abbrev cX6_execute : ByteArray := prog_8_method_2_code
def yX6_execute : MethodName := ⟨RX6, "execute", "(Z)V"⟩
abbrev cX6_outputOf : ByteArray := prog_8_method_3_code
def yX6_outputOf : MethodName := ⟨RX6, "outputOf", "(I)I"⟩
abbrev cX6_clear : ByteArray := prog_8_method_4_code
def yX6_clear : MethodName := ⟨RX6, "clear", "(Z)V"⟩
abbrev cX6_perform : ByteArray := prog_8_method_5_code
def yX6_perform : MethodName := ⟨RX6, "perform", "(LAggregateSplitter$Instruction;I)V"⟩
abbrev cX6_store : ByteArray := prog_8_method_6_code
def yX6_store : MethodName := ⟨RX6, "store", "(LAggregateSplitter$Instruction;)V"⟩
abbrev cX6_load : ByteArray := prog_8_method_7_code
def yX6_load : MethodName := ⟨RX6, "load", "(LAggregateSplitter$Instruction;)V"⟩
abbrev cX6_priceOfAccess : ByteArray := prog_8_method_8_code
def yX6_priceOfAccess : MethodName := ⟨RX6, "priceOfAccess", "(LAggregateSplitter$Partition;)I"⟩
abbrev cX6_copyWhole : ByteArray := prog_8_method_9_code
def yX6_copyWhole : MethodName := ⟨RX6, "copyWhole", "(LAggregateSplitter$Instruction;)V"⟩
abbrev cX6_copyLivePieces : ByteArray := prog_8_method_10_code
def yX6_copyLivePieces : MethodName := ⟨RX6, "copyLivePieces", "(LAggregateSplitter$Instruction;[I)V"⟩
abbrev cX6_priceOfPiece : ByteArray := prog_8_method_11_code
def yX6_priceOfPiece : MethodName := ⟨RX6, "priceOfPiece", "(LAggregateSplitter$Partition;LAggregateSplitter$Partition;I)I"⟩
abbrev cX6_moveBytes : ByteArray := prog_8_method_12_code
def yX6_moveBytes : MethodName := ⟨RX6, "moveBytes", "(LAggregateSplitter$Instruction;II)V"⟩
abbrev cX6_escape : ByteArray := prog_8_method_13_code
def yX6_escape : MethodName := ⟨RX6, "escape", "(I)V"⟩
abbrev cX6_add : ByteArray := prog_8_method_14_code
def yX6_add : MethodName := ⟨RX6, "add", "(LAggregateSplitter$Instruction;I)V"⟩
abbrev cX6_output : ByteArray := prog_8_method_15_code
def yX6_output : MethodName := ⟨RX6, "output", "(I)V"⟩
def RX7 : String := "AggregateSplitter"
def TX7 : u_T := fun k => match k with
  | 0 => ("AggregateSplitter", "program", "LAggregateSplitter$Program;", true)
  | 1 => ("AggregateSplitter", "history", "LAggregateSplitter$History;", true)
  | 2 => ("AggregateSplitter", "analysis", "LAggregateSplitter$Analysis;", true)
  | _ => ("AggregateSplitter", "run", "LAggregateSplitter$Run;", true)
def tyX7 : Nat → FieldType := fun k => match k with
  | 0 => .object "AggregateSplitter$Program"
  | 1 => .object "AggregateSplitter$History"
  | 2 => .object "AggregateSplitter$Analysis"
  | _ => .object "AggregateSplitter$Run"
abbrev wsX70 : List Cond := u_ws RX7 TX7 4
theorem nmX7 : ∀ a, a < 4 → ∀ b, b < 4 → a ≠ b → (TX7 a).2.1 ≠ (TX7 b).2.1 := by decide +kernel
theorem tyX7_ok : ∀ k, k < 4 → parseFieldDescriptor (TX7 k).2.2.1 = some (tyX7 k) := by decide +kernel
abbrev cX7_init : ByteArray := prog_1_method_1_code
def yX7_init : MethodName := ⟨RX7, "<init>", "()V"⟩
abbrev cX7_declareRecord : ByteArray := prog_1_method_2_code
def yX7_declareRecord : MethodName := ⟨RX7, "declareRecord", "(I)I"⟩
abbrev cX7_appendStore : ByteArray := prog_1_method_3_code
def yX7_appendStore : MethodName := ⟨RX7, "appendStore", "(IIII)I"⟩
abbrev cX7_appendLoad : ByteArray := prog_1_method_4_code
def yX7_appendLoad : MethodName := ⟨RX7, "appendLoad", "(IIII)I"⟩
abbrev cX7_appendCopy : ByteArray := prog_1_method_5_code
def yX7_appendCopy : MethodName := ⟨RX7, "appendCopy", "(IIIII)I"⟩
abbrev cX7_appendEscape : ByteArray := prog_1_method_6_code
def yX7_appendEscape : MethodName := ⟨RX7, "appendEscape", "(I)I"⟩
abbrev cX7_appendConstant : ByteArray := prog_1_method_7_code
def yX7_appendConstant : MethodName := ⟨RX7, "appendConstant", "(II)I"⟩
abbrev cX7_appendAdd : ByteArray := prog_1_method_8_code
def yX7_appendAdd : MethodName := ⟨RX7, "appendAdd", "(III)I"⟩
abbrev cX7_appendSkip : ByteArray := prog_1_method_9_code
def yX7_appendSkip : MethodName := ⟨RX7, "appendSkip", "(II)I"⟩
abbrev cX7_appendOutput : ByteArray := prog_1_method_10_code
def yX7_appendOutput : MethodName := ⟨RX7, "appendOutput", "(I)I"⟩
abbrev cX7_removeInstruction : ByteArray := prog_1_method_11_code
def yX7_removeInstruction : MethodName := ⟨RX7, "removeInstruction", "(I)I"⟩
abbrev cX7_undo : ByteArray := prog_1_method_12_code
def yX7_undo : MethodName := ⟨RX7, "undo", "()I"⟩
abbrev cX7_recordCount : ByteArray := prog_1_method_13_code
def yX7_recordCount : MethodName := ⟨RX7, "recordCount", "()I"⟩
abbrev cX7_instructionCount : ByteArray := prog_1_method_14_code
def yX7_instructionCount : MethodName := ⟨RX7, "instructionCount", "()I"⟩
abbrev cX7_escapes : ByteArray := prog_1_method_15_code
def yX7_escapes : MethodName := ⟨RX7, "escapes", "(I)I"⟩
abbrev cX7_partitionCount : ByteArray := prog_1_method_16_code
def yX7_partitionCount : MethodName := ⟨RX7, "partitionCount", "(I)I"⟩
abbrev cX7_partitionStart : ByteArray := prog_1_method_17_code
def yX7_partitionStart : MethodName := ⟨RX7, "partitionStart", "(II)I"⟩
abbrev cX7_partitionLength : ByteArray := prog_1_method_18_code
def yX7_partitionLength : MethodName := ⟨RX7, "partitionLength", "(II)I"⟩
abbrev cX7_isPromotable : ByteArray := prog_1_method_19_code
def yX7_isPromotable : MethodName := ⟨RX7, "isPromotable", "(II)I"⟩
abbrev cX7_isLive : ByteArray := prog_1_method_20_code
def yX7_isLive : MethodName := ⟨RX7, "isLive", "(II)I"⟩
abbrev cX7_paddingBytes : ByteArray := prog_1_method_21_code
def yX7_paddingBytes : MethodName := ⟨RX7, "paddingBytes", "(I)I"⟩
abbrev cX7_pieceCount : ByteArray := prog_1_method_22_code
def yX7_pieceCount : MethodName := ⟨RX7, "pieceCount", "(I)I"⟩
abbrev cX7_pieceLength : ByteArray := prog_1_method_23_code
def yX7_pieceLength : MethodName := ⟨RX7, "pieceLength", "(II)I"⟩
abbrev cX7_scalarCount : ByteArray := prog_1_method_24_code
def yX7_scalarCount : MethodName := ⟨RX7, "scalarCount", "()I"⟩
abbrev cX7_liveBytes : ByteArray := prog_1_method_25_code
def yX7_liveBytes : MethodName := ⟨RX7, "liveBytes", "()I"⟩
abbrev cX7_trapPosition : ByteArray := prog_1_method_26_code
def yX7_trapPosition : MethodName := ⟨RX7, "trapPosition", "()I"⟩
abbrev cX7_outputCount : ByteArray := prog_1_method_27_code
def yX7_outputCount : MethodName := ⟨RX7, "outputCount", "(I)I"⟩
abbrev cX7_outputAt : ByteArray := prog_1_method_28_code
def yX7_outputAt : MethodName := ⟨RX7, "outputAt", "(II)I"⟩
abbrev cX7_checksum : ByteArray := prog_1_method_29_code
def yX7_checksum : MethodName := ⟨RX7, "checksum", "(I)I"⟩
abbrev cX7_cost : ByteArray := prog_1_method_30_code
def yX7_cost : MethodName := ⟨RX7, "cost", "(I)I"⟩
abbrev cX7_append : ByteArray := prog_1_method_31_code
def yX7_append : MethodName := ⟨RX7, "append", "(LAggregateSplitter$Instruction;)I"⟩
abbrev cX7_isAccess : ByteArray := prog_1_method_32_code
def yX7_isAccess : MethodName := ⟨RX7, "isAccess", "(III)Z"⟩
abbrev cX7_layoutNow : ByteArray := prog_1_method_33_code
def yX7_layoutNow : MethodName := ⟨RX7, "layoutNow", "(I)LAggregateSplitter$Layout;"⟩
abbrev cX7_partitionNow : ByteArray := prog_1_method_34_code
def yX7_partitionNow : MethodName := ⟨RX7, "partitionNow", "(II)LAggregateSplitter$Partition;"⟩
abbrev cX7_runOf : ByteArray := prog_1_method_35_code
def yX7_runOf : MethodName := ⟨RX7, "runOf", "(I)LAggregateSplitter$Run;"⟩
abbrev cX7_isForm : ByteArray := prog_1_method_36_code
def yX7_isForm : MethodName := ⟨RX7, "isForm", "(I)Z"⟩
abbrev cX7_isRegister : ByteArray := prog_1_method_37_code
def yX7_isRegister : MethodName := ⟨RX7, "isRegister", "(I)Z"⟩
abbrev cX7_isScalarLength : ByteArray := prog_1_method_38_code
def yX7_isScalarLength : MethodName := ⟨RX7, "isScalarLength", "(I)Z"⟩
abbrev cX7_oneIf : ByteArray := prog_1_method_39_code
def yX7_oneIf : MethodName := ⟨RX7, "oneIf", "(Z)I"⟩
def RX8 : String := "AggregateSplitterModel"
def TX8 : u_T := fun k => match k with
  | 0 => ("AggregateSplitterModel", "s", "[I", true)
  | 1 => ("AggregateSplitterModel", "past", "[I", true)
  | 2 => ("AggregateSplitterModel", "pasts", "I", false)
  | 3 => ("AggregateSplitterModel", "partOf", "[I", true)
  | 4 => ("AggregateSplitterModel", "begins", "[I", true)
  | 5 => ("AggregateSplitterModel", "lengths", "[I", true)
  | 6 => ("AggregateSplitterModel", "counts", "[I", true)
  | 7 => ("AggregateSplitterModel", "promotable", "[Z", true)
  | 8 => ("AggregateSplitterModel", "live", "[Z", true)
  | 9 => ("AggregateSplitterModel", "bytes", "[I", true)
  | 10 => ("AggregateSplitterModel", "registers", "[I", true)
  | 11 => ("AggregateSplitterModel", "outputs", "[I", true)
  | 12 => ("AggregateSplitterModel", "outputSize", "I", false)
  | 13 => ("AggregateSplitterModel", "sum", "I", false)
  | 14 => ("AggregateSplitterModel", "spent", "I", false)
  | _ => ("AggregateSplitterModel", "trap", "I", false)
def tyX8 : Nat → FieldType := fun k => match k with
  | 0 => .array .int
  | 1 => .array .int
  | 2 => .int
  | 3 => .array .int
  | 4 => .array .int
  | 5 => .array .int
  | 6 => .array .int
  | 7 => .array .boolean
  | 8 => .array .boolean
  | 9 => .array .int
  | 10 => .array .int
  | 11 => .array .int
  | 12 => .int
  | 13 => .int
  | 14 => .int
  | _ => .int
abbrev wsX80 : List Cond := u_ws RX8 TX8 16
theorem nmX8 : ∀ a, a < 16 → ∀ b, b < 16 → a ≠ b → (TX8 a).2.1 ≠ (TX8 b).2.1 := by decide +kernel
theorem tyX8_ok : ∀ k, k < 16 → parseFieldDescriptor (TX8 k).2.2.1 = some (tyX8 k) := by decide +kernel
abbrev cX8_init : ByteArray := prog_10_method_1_code
def yX8_init : MethodName := ⟨RX8, "<init>", "()V"⟩
abbrev cX8_in : ByteArray := prog_10_method_3_code
def yX8_in : MethodName := ⟨RX8, "in", "(III)Z"⟩
abbrev cX8_note : ByteArray := prog_10_method_4_code
def yX8_note : MethodName := ⟨RX8, "note", "()V"⟩
abbrev cX8_isRecord : ByteArray := prog_10_method_5_code
def yX8_isRecord : MethodName := ⟨RX8, "isRecord", "(I)Z"⟩
abbrev cX8_isRegister : ByteArray := prog_10_method_6_code
def yX8_isRegister : MethodName := ⟨RX8, "isRegister", "(I)Z"⟩
abbrev cX8_isRange : ByteArray := prog_10_method_7_code
def yX8_isRange : MethodName := ⟨RX8, "isRange", "(III)Z"⟩
abbrev cX8_isWidth : ByteArray := prog_10_method_8_code
def yX8_isWidth : MethodName := ⟨RX8, "isWidth", "(I)Z"⟩
abbrev cX8_declareRecord : ByteArray := prog_10_method_9_code
def yX8_declareRecord : MethodName := ⟨RX8, "declareRecord", "(I)I"⟩
abbrev cX8_append : ByteArray := prog_10_method_10_code
def yX8_append : MethodName := ⟨RX8, "append", "(IIIIII)I"⟩
abbrev cX8_appendStore : ByteArray := prog_10_method_11_code
def yX8_appendStore : MethodName := ⟨RX8, "appendStore", "(IIII)I"⟩
abbrev cX8_appendLoad : ByteArray := prog_10_method_12_code
def yX8_appendLoad : MethodName := ⟨RX8, "appendLoad", "(IIII)I"⟩
abbrev cX8_appendCopy : ByteArray := prog_10_method_13_code
def yX8_appendCopy : MethodName := ⟨RX8, "appendCopy", "(IIIII)I"⟩
abbrev cX8_appendEscape : ByteArray := prog_10_method_14_code
def yX8_appendEscape : MethodName := ⟨RX8, "appendEscape", "(I)I"⟩
abbrev cX8_appendConstant : ByteArray := prog_10_method_15_code
def yX8_appendConstant : MethodName := ⟨RX8, "appendConstant", "(II)I"⟩
abbrev cX8_appendAdd : ByteArray := prog_10_method_16_code
def yX8_appendAdd : MethodName := ⟨RX8, "appendAdd", "(III)I"⟩
abbrev cX8_appendSkip : ByteArray := prog_10_method_17_code
def yX8_appendSkip : MethodName := ⟨RX8, "appendSkip", "(II)I"⟩
abbrev cX8_appendOutput : ByteArray := prog_10_method_18_code
def yX8_appendOutput : MethodName := ⟨RX8, "appendOutput", "(I)I"⟩
abbrev cX8_removeInstruction : ByteArray := prog_10_method_19_code
def yX8_removeInstruction : MethodName := ⟨RX8, "removeInstruction", "(I)I"⟩
abbrev cX8_undo : ByteArray := prog_10_method_20_code
def yX8_undo : MethodName := ⟨RX8, "undo", "()I"⟩
abbrev cX8_recordCount : ByteArray := prog_10_method_21_code
def yX8_recordCount : MethodName := ⟨RX8, "recordCount", "()I"⟩
abbrev cX8_instructionCount : ByteArray := prog_10_method_22_code
def yX8_instructionCount : MethodName := ⟨RX8, "instructionCount", "()I"⟩
abbrev cX8_of : ByteArray := prog_10_method_23_code
def yX8_of : MethodName := ⟨RX8, "of", "(II)I"⟩
abbrev cX8_isAccess : ByteArray := prog_10_method_24_code
def yX8_isAccess : MethodName := ⟨RX8, "isAccess", "(I)Z"⟩
abbrev cX8_doesEscape : ByteArray := prog_10_method_25_code
def yX8_doesEscape : MethodName := ⟨RX8, "doesEscape", "(I)Z"⟩
abbrev cX8_holds : ByteArray := prog_10_method_26_code
def yX8_holds : MethodName := ⟨RX8, "holds", "(III)Z"⟩
abbrev cX8_isAccessed : ByteArray := prog_10_method_27_code
def yX8_isAccessed : MethodName := ⟨RX8, "isAccessed", "(IIZ)Z"⟩
abbrev cX8_isCopied : ByteArray := prog_10_method_28_code
def yX8_isCopied : MethodName := ⟨RX8, "isCopied", "(IIII)Z"⟩
abbrev cX8_isSoft : ByteArray := prog_10_method_29_code
def yX8_isSoft : MethodName := ⟨RX8, "isSoft", "(II)Z"⟩
abbrev cX8_areCopiedAlike : ByteArray := prog_10_method_30_code
def yX8_areCopiedAlike : MethodName := ⟨RX8, "areCopiedAlike", "(II)Z"⟩
abbrev cX8_goesOn : ByteArray := prog_10_method_31_code
def yX8_goesOn : MethodName := ⟨RX8, "goesOn", "(II)Z"⟩
abbrev cX8_isParted : ByteArray := prog_10_method_32_code
def yX8_isParted : MethodName := ⟨RX8, "isParted", "(II)Z"⟩
abbrev cX8_findParts : ByteArray := prog_10_method_33_code
def yX8_findParts : MethodName := ⟨RX8, "findParts", "(I)V"⟩
abbrev cX8_findAllParts : ByteArray := prog_10_method_34_code
def yX8_findAllParts : MethodName := ⟨RX8, "findAllParts", "()V"⟩
abbrev cX8_placeOf : ByteArray := prog_10_method_35_code
def yX8_placeOf : MethodName := ⟨RX8, "placeOf", "(II)I"⟩
abbrev cX8_beginsAt : ByteArray := prog_10_method_36_code
def yX8_beginsAt : MethodName := ⟨RX8, "beginsAt", "(II)Z"⟩
abbrev cX8_pieceAt : ByteArray := prog_10_method_37_code
def yX8_pieceAt : MethodName := ⟨RX8, "pieceAt", "(II)I"⟩
abbrev cX8_restrict : ByteArray := prog_10_method_38_code
def yX8_restrict : MethodName := ⟨RX8, "restrict", "(III)V"⟩
abbrev cX8_restrictPieces : ByteArray := prog_10_method_39_code
def yX8_restrictPieces : MethodName := ⟨RX8, "restrictPieces", "(I)V"⟩
abbrev cX8_findPromotable : ByteArray := prog_10_method_40_code
def yX8_findPromotable : MethodName := ⟨RX8, "findPromotable", "()V"⟩
abbrev cX8_enliven : ByteArray := prog_10_method_41_code
def yX8_enliven : MethodName := ⟨RX8, "enliven", "(I)Z"⟩
abbrev cX8_findLive : ByteArray := prog_10_method_42_code
def yX8_findLive : MethodName := ⟨RX8, "findLive", "()V"⟩
abbrev cX8_analyse : ByteArray := prog_10_method_43_code
def yX8_analyse : MethodName := ⟨RX8, "analyse", "()V"⟩
abbrev cX8_escapes : ByteArray := prog_10_method_44_code
def yX8_escapes : MethodName := ⟨RX8, "escapes", "(I)I"⟩
abbrev cX8_partitionCount : ByteArray := prog_10_method_45_code
def yX8_partitionCount : MethodName := ⟨RX8, "partitionCount", "(I)I"⟩
abbrev cX8_isPart : ByteArray := prog_10_method_46_code
def yX8_isPart : MethodName := ⟨RX8, "isPart", "(II)Z"⟩
abbrev cX8_partitionStart : ByteArray := prog_10_method_47_code
def yX8_partitionStart : MethodName := ⟨RX8, "partitionStart", "(II)I"⟩
abbrev cX8_partitionLength : ByteArray := prog_10_method_48_code
def yX8_partitionLength : MethodName := ⟨RX8, "partitionLength", "(II)I"⟩
abbrev cX8_isPromotable : ByteArray := prog_10_method_49_code
def yX8_isPromotable : MethodName := ⟨RX8, "isPromotable", "(II)I"⟩
abbrev cX8_isLive : ByteArray := prog_10_method_50_code
def yX8_isLive : MethodName := ⟨RX8, "isLive", "(II)I"⟩
abbrev cX8_paddingBytes : ByteArray := prog_10_method_51_code
def yX8_paddingBytes : MethodName := ⟨RX8, "paddingBytes", "(I)I"⟩
abbrev cX8_isCopy : ByteArray := prog_10_method_52_code
def yX8_isCopy : MethodName := ⟨RX8, "isCopy", "(I)Z"⟩
abbrev cX8_pieceCount : ByteArray := prog_10_method_53_code
def yX8_pieceCount : MethodName := ⟨RX8, "pieceCount", "(I)I"⟩
abbrev cX8_pieceLength : ByteArray := prog_10_method_54_code
def yX8_pieceLength : MethodName := ⟨RX8, "pieceLength", "(II)I"⟩
abbrev cX8_scalarCount : ByteArray := prog_10_method_55_code
def yX8_scalarCount : MethodName := ⟨RX8, "scalarCount", "()I"⟩
abbrev cX8_liveBytes : ByteArray := prog_10_method_56_code
def yX8_liveBytes : MethodName := ⟨RX8, "liveBytes", "()I"⟩
abbrev cX8_store : ByteArray := prog_10_method_57_code
def yX8_store : MethodName := ⟨RX8, "store", "(I)V"⟩
abbrev cX8_load : ByteArray := prog_10_method_58_code
def yX8_load : MethodName := ⟨RX8, "load", "(I)V"⟩
abbrev cX8_copyBytes : ByteArray := prog_10_method_59_code
def yX8_copyBytes : MethodName := ⟨RX8, "copyBytes", "(III)V"⟩
abbrev cX8_escape : ByteArray := prog_10_method_60_code
def yX8_escape : MethodName := ⟨RX8, "escape", "(I)V"⟩
abbrev cX8_adds : ByteArray := prog_10_method_61_code
def yX8_adds : MethodName := ⟨RX8, "adds", "(I)Z"⟩
abbrev cX8_access : ByteArray := prog_10_method_62_code
def yX8_access : MethodName := ⟨RX8, "access", "(IZ)V"⟩
abbrev cX8_copyPieces : ByteArray := prog_10_method_63_code
def yX8_copyPieces : MethodName := ⟨RX8, "copyPieces", "(I)V"⟩
abbrev cX8_runs : ByteArray := prog_10_method_64_code
def yX8_runs : MethodName := ⟨RX8, "runs", "(Z)V"⟩
abbrev cX8_executes : ByteArray := prog_10_method_65_code
def yX8_executes : MethodName := ⟨RX8, "executes", "(IZ)I"⟩
abbrev cX8_trapPosition : ByteArray := prog_10_method_66_code
def yX8_trapPosition : MethodName := ⟨RX8, "trapPosition", "()I"⟩
abbrev cX8_isProgram : ByteArray := prog_10_method_67_code
def yX8_isProgram : MethodName := ⟨RX8, "isProgram", "(I)Z"⟩
abbrev cX8_outputCount : ByteArray := prog_10_method_68_code
def yX8_outputCount : MethodName := ⟨RX8, "outputCount", "(I)I"⟩
abbrev cX8_outputAt : ByteArray := prog_10_method_69_code
def yX8_outputAt : MethodName := ⟨RX8, "outputAt", "(II)I"⟩
abbrev cX8_checksum : ByteArray := prog_10_method_70_code
def yX8_checksum : MethodName := ⟨RX8, "checksum", "(I)I"⟩
abbrev cX8_cost : ByteArray := prog_10_method_71_code
def yX8_cost : MethodName := ⟨RX8, "cost", "(I)I"⟩
def RL : String := "AggregateSplitterLaw"
abbrev cL_law : ByteArray := code
def yL_law : MethodName := ⟨RL, "law", "([I)Z"⟩
abbrev vwCl : List vw_C := [(RX0, TX0, 4), (RX1, TX1, 5), (RX2, TX2, 10), (RX3, TX3, 9), (RX4, TX4, 4), (RX5, TX5, 5), (RX6, TX6, 11), (RX7, TX7, 4), (RX8, TX8, 16)]
end
section
theorem dX8_init_0 : decode cX8_init 0 = .ok (.aload_n 0, 1) := by decide +kernel
theorem dX8_init_1 : decode cX8_init 1 = .ok (.invokespecial 1, 3) := by decide +kernel
theorem dX8_init_4 : decode cX8_init 4 = .ok (.aload_n 0, 1) := by decide +kernel
theorem dX8_init_5 : decode cX8_init 5 = .ok (.sipush 150, 3) := by decide +kernel
theorem dX8_init_8 : decode cX8_init 8 = .ok (.newarray .int, 2) := by decide +kernel
theorem dX8_init_10 : decode cX8_init 10 = .ok (.putfield 7, 3) := by decide +kernel
theorem dX8_init_13 : decode cX8_init 13 = .ok (.aload_n 0, 1) := by decide +kernel
theorem dX8_init_14 : decode cX8_init 14 = .ok (.sipush 1200, 3) := by decide +kernel
theorem dX8_init_17 : decode cX8_init 17 = .ok (.newarray .int, 2) := by decide +kernel
theorem dX8_init_19 : decode cX8_init 19 = .ok (.putfield 13, 3) := by decide +kernel
theorem dX8_init_22 : decode cX8_init 22 = .ok (.aload_n 0, 1) := by decide +kernel
theorem dX8_init_23 : decode cX8_init 23 = .ok (.bipush 64, 2) := by decide +kernel
theorem dX8_init_25 : decode cX8_init 25 = .ok (.newarray .int, 2) := by decide +kernel
theorem dX8_init_27 : decode cX8_init 27 = .ok (.putfield 16, 3) := by decide +kernel
theorem dX8_init_30 : decode cX8_init 30 = .ok (.aload_n 0, 1) := by decide +kernel
theorem dX8_init_31 : decode cX8_init 31 = .ok (.bipush 64, 2) := by decide +kernel
theorem dX8_init_33 : decode cX8_init 33 = .ok (.newarray .int, 2) := by decide +kernel
theorem dX8_init_35 : decode cX8_init 35 = .ok (.putfield 19, 3) := by decide +kernel
theorem dX8_init_38 : decode cX8_init 38 = .ok (.aload_n 0, 1) := by decide +kernel
theorem dX8_init_39 : decode cX8_init 39 = .ok (.bipush 64, 2) := by decide +kernel
theorem dX8_init_41 : decode cX8_init 41 = .ok (.newarray .int, 2) := by decide +kernel
theorem dX8_init_43 : decode cX8_init 43 = .ok (.putfield 22, 3) := by decide +kernel
theorem dX8_init_46 : decode cX8_init 46 = .ok (.aload_n 0, 1) := by decide +kernel
theorem dX8_init_47 : decode cX8_init 47 = .ok (.iconst 4, 1) := by decide +kernel
theorem dX8_init_48 : decode cX8_init 48 = .ok (.newarray .int, 2) := by decide +kernel
theorem dX8_init_50 : decode cX8_init 50 = .ok (.putfield 25, 3) := by decide +kernel
theorem dX8_init_53 : decode cX8_init 53 = .ok (.aload_n 0, 1) := by decide +kernel
theorem dX8_init_54 : decode cX8_init 54 = .ok (.bipush 64, 2) := by decide +kernel
theorem dX8_init_56 : decode cX8_init 56 = .ok (.newarray .boolean, 2) := by decide +kernel
theorem dX8_init_58 : decode cX8_init 58 = .ok (.putfield 28, 3) := by decide +kernel
theorem dX8_init_61 : decode cX8_init 61 = .ok (.aload_n 0, 1) := by decide +kernel
theorem dX8_init_62 : decode cX8_init 62 = .ok (.bipush 64, 2) := by decide +kernel
theorem dX8_init_64 : decode cX8_init 64 = .ok (.newarray .boolean, 2) := by decide +kernel
theorem dX8_init_66 : decode cX8_init 66 = .ok (.putfield 32, 3) := by decide +kernel
theorem dX8_init_69 : decode cX8_init 69 = .ok (.aload_n 0, 1) := by decide +kernel
theorem dX8_init_70 : decode cX8_init 70 = .ok (.bipush 64, 2) := by decide +kernel
theorem dX8_init_72 : decode cX8_init 72 = .ok (.newarray .int, 2) := by decide +kernel
theorem dX8_init_74 : decode cX8_init 74 = .ok (.putfield 35, 3) := by decide +kernel
theorem dX8_init_77 : decode cX8_init 77 = .ok (.aload_n 0, 1) := by decide +kernel
theorem dX8_init_78 : decode cX8_init 78 = .ok (.bipush 8, 2) := by decide +kernel
theorem dX8_init_80 : decode cX8_init 80 = .ok (.newarray .int, 2) := by decide +kernel
theorem dX8_init_82 : decode cX8_init 82 = .ok (.putfield 38, 3) := by decide +kernel
theorem dX8_init_85 : decode cX8_init 85 = .ok (.aload_n 0, 1) := by decide +kernel
theorem dX8_init_86 : decode cX8_init 86 = .ok (.bipush 24, 2) := by decide +kernel
theorem dX8_init_88 : decode cX8_init 88 = .ok (.newarray .int, 2) := by decide +kernel
theorem dX8_init_90 : decode cX8_init 90 = .ok (.putfield 41, 3) := by decide +kernel
theorem dX8_init_93 : decode cX8_init 93 = .ok (.return_, 1) := by decide +kernel
theorem dX8_in_0 : decode cX8_in 0 = .ok (.iload_n 0, 1) := by decide +kernel
theorem dX8_in_1 : decode cX8_in 1 = .ok (.iload_n 1, 1) := by decide +kernel
theorem dX8_in_2 : decode cX8_in 2 = .ok (.if_icmp .lt 12, 3) := by decide +kernel
theorem dX8_in_5 : decode cX8_in 5 = .ok (.iload_n 0, 1) := by decide +kernel
theorem dX8_in_6 : decode cX8_in 6 = .ok (.iload_n 2, 1) := by decide +kernel
theorem dX8_in_7 : decode cX8_in 7 = .ok (.if_icmp .gt 7, 3) := by decide +kernel
theorem dX8_in_10 : decode cX8_in 10 = .ok (.iconst 1, 1) := by decide +kernel
theorem dX8_in_11 : decode cX8_in 11 = .ok (.goto 4, 3) := by decide +kernel
theorem dX8_in_14 : decode cX8_in 14 = .ok (.iconst 0, 1) := by decide +kernel
theorem dX8_in_15 : decode cX8_in 15 = .ok (.ireturn, 1) := by decide +kernel
theorem dX8_note_0 : decode cX8_note 0 = .ok (.aload_n 0, 1) := by decide +kernel
theorem dX8_note_1 : decode cX8_note 1 = .ok (.getfield 44, 3) := by decide +kernel
theorem dX8_note_4 : decode cX8_note 4 = .ok (.bipush 8, 2) := by decide +kernel
theorem dX8_note_6 : decode cX8_note 6 = .ok (.if_icmp .ne 44, 3) := by decide +kernel
theorem dX8_note_9 : decode cX8_note 9 = .ok (.iconst 0, 1) := by decide +kernel
theorem dX8_note_10 : decode cX8_note 10 = .ok (.istore_n 1, 1) := by decide +kernel
theorem dX8_note_11 : decode cX8_note 11 = .ok (.iload_n 1, 1) := by decide +kernel
theorem dX8_note_12 : decode cX8_note 12 = .ok (.sipush 1050, 3) := by decide +kernel
theorem dX8_note_15 : decode cX8_note 15 = .ok (.if_icmp .ge 25, 3) := by decide +kernel
theorem dX8_note_18 : decode cX8_note 18 = .ok (.aload_n 0, 1) := by decide +kernel
theorem dX8_note_19 : decode cX8_note 19 = .ok (.getfield 13, 3) := by decide +kernel
theorem dX8_note_22 : decode cX8_note 22 = .ok (.iload_n 1, 1) := by decide +kernel
theorem dX8_note_23 : decode cX8_note 23 = .ok (.aload_n 0, 1) := by decide +kernel
theorem dX8_note_24 : decode cX8_note 24 = .ok (.getfield 13, 3) := by decide +kernel
theorem dX8_note_27 : decode cX8_note 27 = .ok (.iload_n 1, 1) := by decide +kernel
theorem dX8_note_28 : decode cX8_note 28 = .ok (.sipush 150, 3) := by decide +kernel
theorem dX8_note_31 : decode cX8_note 31 = .ok (.iadd, 1) := by decide +kernel
theorem dX8_note_32 : decode cX8_note 32 = .ok (.iaload, 1) := by decide +kernel
theorem dX8_note_33 : decode cX8_note 33 = .ok (.iastore, 1) := by decide +kernel
theorem dX8_note_34 : decode cX8_note 34 = .ok (.iinc 1 1, 3) := by decide +kernel
theorem dX8_note_37 : decode cX8_note 37 = .ok (.goto (-26), 3) := by decide +kernel
theorem dX8_note_40 : decode cX8_note 40 = .ok (.aload_n 0, 1) := by decide +kernel
theorem dX8_note_41 : decode cX8_note 41 = .ok (.dup, 1) := by decide +kernel
theorem dX8_note_42 : decode cX8_note 42 = .ok (.getfield 44, 3) := by decide +kernel
theorem dX8_note_45 : decode cX8_note 45 = .ok (.iconst 1, 1) := by decide +kernel
theorem dX8_note_46 : decode cX8_note 46 = .ok (.isub, 1) := by decide +kernel
theorem dX8_note_47 : decode cX8_note 47 = .ok (.putfield 44, 3) := by decide +kernel
theorem dX8_note_50 : decode cX8_note 50 = .ok (.iconst 0, 1) := by decide +kernel
theorem dX8_note_51 : decode cX8_note 51 = .ok (.istore_n 1, 1) := by decide +kernel
theorem dX8_note_52 : decode cX8_note 52 = .ok (.iload_n 1, 1) := by decide +kernel
theorem dX8_note_53 : decode cX8_note 53 = .ok (.sipush 150, 3) := by decide +kernel
theorem dX8_note_56 : decode cX8_note 56 = .ok (.if_icmp .ge 30, 3) := by decide +kernel
theorem dX8_note_59 : decode cX8_note 59 = .ok (.aload_n 0, 1) := by decide +kernel
theorem dX8_note_60 : decode cX8_note 60 = .ok (.getfield 13, 3) := by decide +kernel
theorem dX8_note_63 : decode cX8_note 63 = .ok (.sipush 150, 3) := by decide +kernel
theorem dX8_note_66 : decode cX8_note 66 = .ok (.aload_n 0, 1) := by decide +kernel
theorem dX8_note_67 : decode cX8_note 67 = .ok (.getfield 44, 3) := by decide +kernel
theorem dX8_note_70 : decode cX8_note 70 = .ok (.imul, 1) := by decide +kernel
theorem dX8_note_71 : decode cX8_note 71 = .ok (.iload_n 1, 1) := by decide +kernel
theorem dX8_note_72 : decode cX8_note 72 = .ok (.iadd, 1) := by decide +kernel
theorem dX8_note_73 : decode cX8_note 73 = .ok (.aload_n 0, 1) := by decide +kernel
theorem dX8_note_74 : decode cX8_note 74 = .ok (.getfield 7, 3) := by decide +kernel
theorem dX8_note_77 : decode cX8_note 77 = .ok (.iload_n 1, 1) := by decide +kernel
theorem dX8_note_78 : decode cX8_note 78 = .ok (.iaload, 1) := by decide +kernel
theorem dX8_note_79 : decode cX8_note 79 = .ok (.iastore, 1) := by decide +kernel
theorem dX8_note_80 : decode cX8_note 80 = .ok (.iinc 1 1, 3) := by decide +kernel
theorem dX8_note_83 : decode cX8_note 83 = .ok (.goto (-31), 3) := by decide +kernel
theorem dX8_note_86 : decode cX8_note 86 = .ok (.aload_n 0, 1) := by decide +kernel
theorem dX8_note_87 : decode cX8_note 87 = .ok (.dup, 1) := by decide +kernel
theorem dX8_note_88 : decode cX8_note 88 = .ok (.getfield 44, 3) := by decide +kernel
theorem dX8_note_91 : decode cX8_note 91 = .ok (.iconst 1, 1) := by decide +kernel
theorem dX8_note_92 : decode cX8_note 92 = .ok (.iadd, 1) := by decide +kernel
theorem dX8_note_93 : decode cX8_note 93 = .ok (.putfield 44, 3) := by decide +kernel
theorem dX8_note_96 : decode cX8_note 96 = .ok (.return_, 1) := by decide +kernel
theorem dX8_isRecord_0 : decode cX8_isRecord 0 = .ok (.iload_n 1, 1) := by decide +kernel
theorem dX8_isRecord_1 : decode cX8_isRecord 1 = .ok (.iconst 0, 1) := by decide +kernel
theorem dX8_isRecord_2 : decode cX8_isRecord 2 = .ok (.aload_n 0, 1) := by decide +kernel
theorem dX8_isRecord_3 : decode cX8_isRecord 3 = .ok (.getfield 7, 3) := by decide +kernel
theorem dX8_isRecord_6 : decode cX8_isRecord 6 = .ok (.iconst 0, 1) := by decide +kernel
theorem dX8_isRecord_7 : decode cX8_isRecord 7 = .ok (.iaload, 1) := by decide +kernel
theorem dX8_isRecord_8 : decode cX8_isRecord 8 = .ok (.iconst 1, 1) := by decide +kernel
theorem dX8_isRecord_9 : decode cX8_isRecord 9 = .ok (.isub, 1) := by decide +kernel
theorem dX8_isRecord_10 : decode cX8_isRecord 10 = .ok (.invokestatic 48, 3) := by decide +kernel
theorem dX8_isRecord_13 : decode cX8_isRecord 13 = .ok (.ireturn, 1) := by decide +kernel
theorem dX8_isRegister_0 : decode cX8_isRegister 0 = .ok (.iload_n 0, 1) := by decide +kernel
theorem dX8_isRegister_1 : decode cX8_isRegister 1 = .ok (.iconst 0, 1) := by decide +kernel
theorem dX8_isRegister_2 : decode cX8_isRegister 2 = .ok (.bipush 7, 2) := by decide +kernel
theorem dX8_isRegister_4 : decode cX8_isRegister 4 = .ok (.invokestatic 48, 3) := by decide +kernel
theorem dX8_isRegister_7 : decode cX8_isRegister 7 = .ok (.ireturn, 1) := by decide +kernel
theorem dX8_isRange_0 : decode cX8_isRange 0 = .ok (.aload_n 0, 1) := by decide +kernel
theorem dX8_isRange_1 : decode cX8_isRange 1 = .ok (.iload_n 1, 1) := by decide +kernel
theorem dX8_isRange_2 : decode cX8_isRange 2 = .ok (.invokevirtual 52, 3) := by decide +kernel
theorem dX8_isRange_5 : decode cX8_isRange 5 = .ok (.ifCond .eq 35, 3) := by decide +kernel
theorem dX8_isRange_8 : decode cX8_isRange 8 = .ok (.iload_n 3, 1) := by decide +kernel
theorem dX8_isRange_9 : decode cX8_isRange 9 = .ok (.ifCond .le 31, 3) := by decide +kernel
theorem dX8_isRange_12 : decode cX8_isRange 12 = .ok (.iload_n 2, 1) := by decide +kernel
theorem dX8_isRange_13 : decode cX8_isRange 13 = .ok (.iconst 0, 1) := by decide +kernel
theorem dX8_isRange_14 : decode cX8_isRange 14 = .ok (.bipush 16, 2) := by decide +kernel
theorem dX8_isRange_16 : decode cX8_isRange 16 = .ok (.invokestatic 48, 3) := by decide +kernel
theorem dX8_isRange_19 : decode cX8_isRange 19 = .ok (.ifCond .eq 21, 3) := by decide +kernel
theorem dX8_isRange_22 : decode cX8_isRange 22 = .ok (.iload_n 3, 1) := by decide +kernel
theorem dX8_isRange_23 : decode cX8_isRange 23 = .ok (.aload_n 0, 1) := by decide +kernel
theorem dX8_isRange_24 : decode cX8_isRange 24 = .ok (.getfield 7, 3) := by decide +kernel
theorem dX8_isRange_27 : decode cX8_isRange 27 = .ok (.iconst 1, 1) := by decide +kernel
theorem dX8_isRange_28 : decode cX8_isRange 28 = .ok (.iload_n 1, 1) := by decide +kernel
theorem dX8_isRange_29 : decode cX8_isRange 29 = .ok (.iadd, 1) := by decide +kernel
theorem dX8_isRange_30 : decode cX8_isRange 30 = .ok (.iaload, 1) := by decide +kernel
theorem dX8_isRange_31 : decode cX8_isRange 31 = .ok (.iload_n 2, 1) := by decide +kernel
theorem dX8_isRange_32 : decode cX8_isRange 32 = .ok (.isub, 1) := by decide +kernel
theorem dX8_isRange_33 : decode cX8_isRange 33 = .ok (.if_icmp .gt 7, 3) := by decide +kernel
theorem dX8_isRange_36 : decode cX8_isRange 36 = .ok (.iconst 1, 1) := by decide +kernel
theorem dX8_isRange_37 : decode cX8_isRange 37 = .ok (.goto 4, 3) := by decide +kernel
theorem dX8_isRange_40 : decode cX8_isRange 40 = .ok (.iconst 0, 1) := by decide +kernel
theorem dX8_isRange_41 : decode cX8_isRange 41 = .ok (.ireturn, 1) := by decide +kernel
theorem dX8_isWidth_0 : decode cX8_isWidth 0 = .ok (.iload_n 0, 1) := by decide +kernel
theorem dX8_isWidth_1 : decode cX8_isWidth 1 = .ok (.iconst 1, 1) := by decide +kernel
theorem dX8_isWidth_2 : decode cX8_isWidth 2 = .ok (.if_icmp .eq 13, 3) := by decide +kernel
theorem dX8_isWidth_5 : decode cX8_isWidth 5 = .ok (.iload_n 0, 1) := by decide +kernel
theorem dX8_isWidth_6 : decode cX8_isWidth 6 = .ok (.iconst 2, 1) := by decide +kernel
theorem dX8_isWidth_7 : decode cX8_isWidth 7 = .ok (.if_icmp .eq 8, 3) := by decide +kernel
theorem dX8_isWidth_10 : decode cX8_isWidth 10 = .ok (.iload_n 0, 1) := by decide +kernel
theorem dX8_isWidth_11 : decode cX8_isWidth 11 = .ok (.iconst 4, 1) := by decide +kernel
theorem dX8_isWidth_12 : decode cX8_isWidth 12 = .ok (.if_icmp .ne 7, 3) := by decide +kernel
theorem dX8_isWidth_15 : decode cX8_isWidth 15 = .ok (.iconst 1, 1) := by decide +kernel
theorem dX8_isWidth_16 : decode cX8_isWidth 16 = .ok (.goto 4, 3) := by decide +kernel
theorem dX8_isWidth_19 : decode cX8_isWidth 19 = .ok (.iconst 0, 1) := by decide +kernel
theorem dX8_isWidth_20 : decode cX8_isWidth 20 = .ok (.ireturn, 1) := by decide +kernel
theorem dX8_declareRecord_0 : decode cX8_declareRecord 0 = .ok (.iload_n 1, 1) := by decide +kernel
theorem dX8_declareRecord_1 : decode cX8_declareRecord 1 = .ok (.iconst 1, 1) := by decide +kernel
theorem dX8_declareRecord_2 : decode cX8_declareRecord 2 = .ok (.bipush 16, 2) := by decide +kernel
theorem dX8_declareRecord_4 : decode cX8_declareRecord 4 = .ok (.invokestatic 48, 3) := by decide +kernel
theorem dX8_declareRecord_7 : decode cX8_declareRecord 7 = .ok (.ifCond .ne 5, 3) := by decide +kernel
theorem dX8_declareRecord_10 : decode cX8_declareRecord 10 = .ok (.iconst (-1), 1) := by decide +kernel
theorem dX8_declareRecord_11 : decode cX8_declareRecord 11 = .ok (.ireturn, 1) := by decide +kernel
theorem dX8_declareRecord_12 : decode cX8_declareRecord 12 = .ok (.aload_n 0, 1) := by decide +kernel
theorem dX8_declareRecord_13 : decode cX8_declareRecord 13 = .ok (.getfield 7, 3) := by decide +kernel
theorem dX8_declareRecord_16 : decode cX8_declareRecord 16 = .ok (.iconst 0, 1) := by decide +kernel
theorem dX8_declareRecord_17 : decode cX8_declareRecord 17 = .ok (.iaload, 1) := by decide +kernel
theorem dX8_declareRecord_18 : decode cX8_declareRecord 18 = .ok (.iconst 4, 1) := by decide +kernel
theorem dX8_declareRecord_19 : decode cX8_declareRecord 19 = .ok (.if_icmp .ne 6, 3) := by decide +kernel
theorem dX8_declareRecord_22 : decode cX8_declareRecord 22 = .ok (.bipush (-3), 2) := by decide +kernel
theorem dX8_declareRecord_24 : decode cX8_declareRecord 24 = .ok (.ireturn, 1) := by decide +kernel
theorem dX8_declareRecord_25 : decode cX8_declareRecord 25 = .ok (.aload_n 0, 1) := by decide +kernel
theorem dX8_declareRecord_26 : decode cX8_declareRecord 26 = .ok (.invokevirtual 56, 3) := by decide +kernel
theorem dX8_declareRecord_29 : decode cX8_declareRecord 29 = .ok (.aload_n 0, 1) := by decide +kernel
theorem dX8_declareRecord_30 : decode cX8_declareRecord 30 = .ok (.getfield 7, 3) := by decide +kernel
theorem dX8_declareRecord_33 : decode cX8_declareRecord 33 = .ok (.iconst 1, 1) := by decide +kernel
theorem dX8_declareRecord_34 : decode cX8_declareRecord 34 = .ok (.aload_n 0, 1) := by decide +kernel
theorem dX8_declareRecord_35 : decode cX8_declareRecord 35 = .ok (.getfield 7, 3) := by decide +kernel
theorem dX8_declareRecord_38 : decode cX8_declareRecord 38 = .ok (.iconst 0, 1) := by decide +kernel
theorem dX8_declareRecord_39 : decode cX8_declareRecord 39 = .ok (.iaload, 1) := by decide +kernel
theorem dX8_declareRecord_40 : decode cX8_declareRecord 40 = .ok (.iadd, 1) := by decide +kernel
theorem dX8_declareRecord_41 : decode cX8_declareRecord 41 = .ok (.iload_n 1, 1) := by decide +kernel
theorem dX8_declareRecord_42 : decode cX8_declareRecord 42 = .ok (.iastore, 1) := by decide +kernel
theorem dX8_declareRecord_43 : decode cX8_declareRecord 43 = .ok (.aload_n 0, 1) := by decide +kernel
theorem dX8_declareRecord_44 : decode cX8_declareRecord 44 = .ok (.getfield 7, 3) := by decide +kernel
theorem dX8_declareRecord_47 : decode cX8_declareRecord 47 = .ok (.iconst 0, 1) := by decide +kernel
theorem dX8_declareRecord_48 : decode cX8_declareRecord 48 = .ok (.dup2, 1) := by decide +kernel
theorem dX8_declareRecord_49 : decode cX8_declareRecord 49 = .ok (.iaload, 1) := by decide +kernel
theorem dX8_declareRecord_50 : decode cX8_declareRecord 50 = .ok (.iconst 1, 1) := by decide +kernel
theorem dX8_declareRecord_51 : decode cX8_declareRecord 51 = .ok (.iadd, 1) := by decide +kernel
theorem dX8_declareRecord_52 : decode cX8_declareRecord 52 = .ok (.iastore, 1) := by decide +kernel
theorem dX8_declareRecord_53 : decode cX8_declareRecord 53 = .ok (.aload_n 0, 1) := by decide +kernel
theorem dX8_declareRecord_54 : decode cX8_declareRecord 54 = .ok (.getfield 7, 3) := by decide +kernel
theorem dX8_declareRecord_57 : decode cX8_declareRecord 57 = .ok (.iconst 0, 1) := by decide +kernel
theorem dX8_declareRecord_58 : decode cX8_declareRecord 58 = .ok (.iaload, 1) := by decide +kernel
theorem dX8_declareRecord_59 : decode cX8_declareRecord 59 = .ok (.iconst 1, 1) := by decide +kernel
theorem dX8_declareRecord_60 : decode cX8_declareRecord 60 = .ok (.isub, 1) := by decide +kernel
theorem dX8_declareRecord_61 : decode cX8_declareRecord 61 = .ok (.ireturn, 1) := by decide +kernel
theorem dX8_append_0 : decode cX8_append 0 = .ok (.aload_n 0, 1) := by decide +kernel
theorem dX8_append_1 : decode cX8_append 1 = .ok (.getfield 7, 3) := by decide +kernel
theorem dX8_append_4 : decode cX8_append 4 = .ok (.iconst 5, 1) := by decide +kernel
theorem dX8_append_5 : decode cX8_append 5 = .ok (.iaload, 1) := by decide +kernel
theorem dX8_append_6 : decode cX8_append 6 = .ok (.bipush 24, 2) := by decide +kernel
theorem dX8_append_8 : decode cX8_append 8 = .ok (.if_icmp .ne 6, 3) := by decide +kernel
theorem dX8_append_11 : decode cX8_append 11 = .ok (.bipush (-3), 2) := by decide +kernel
theorem dX8_append_13 : decode cX8_append 13 = .ok (.ireturn, 1) := by decide +kernel
theorem dX8_append_14 : decode cX8_append 14 = .ok (.aload_n 0, 1) := by decide +kernel
theorem dX8_append_15 : decode cX8_append 15 = .ok (.invokevirtual 56, 3) := by decide +kernel
theorem dX8_append_18 : decode cX8_append 18 = .ok (.bipush 6, 2) := by decide +kernel
theorem dX8_append_20 : decode cX8_append 20 = .ok (.bipush 6, 2) := by decide +kernel
theorem dX8_append_22 : decode cX8_append 22 = .ok (.aload_n 0, 1) := by decide +kernel
theorem dX8_append_23 : decode cX8_append 23 = .ok (.getfield 7, 3) := by decide +kernel
theorem dX8_append_26 : decode cX8_append 26 = .ok (.iconst 5, 1) := by decide +kernel
theorem dX8_append_27 : decode cX8_append 27 = .ok (.iaload, 1) := by decide +kernel
theorem dX8_append_28 : decode cX8_append 28 = .ok (.imul, 1) := by decide +kernel
theorem dX8_append_29 : decode cX8_append 29 = .ok (.iadd, 1) := by decide +kernel
theorem dX8_append_30 : decode cX8_append 30 = .ok (.istore 7, 2) := by decide +kernel
theorem dX8_append_32 : decode cX8_append 32 = .ok (.aload_n 0, 1) := by decide +kernel
theorem dX8_append_33 : decode cX8_append 33 = .ok (.getfield 7, 3) := by decide +kernel
theorem dX8_append_36 : decode cX8_append 36 = .ok (.iload 7, 2) := by decide +kernel
theorem dX8_append_38 : decode cX8_append 38 = .ok (.iload_n 1, 1) := by decide +kernel
theorem dX8_append_39 : decode cX8_append 39 = .ok (.iastore, 1) := by decide +kernel
theorem dX8_append_40 : decode cX8_append 40 = .ok (.aload_n 0, 1) := by decide +kernel
theorem dX8_append_41 : decode cX8_append 41 = .ok (.getfield 7, 3) := by decide +kernel
theorem dX8_append_44 : decode cX8_append 44 = .ok (.iload 7, 2) := by decide +kernel
theorem dX8_append_46 : decode cX8_append 46 = .ok (.iconst 1, 1) := by decide +kernel
theorem dX8_append_47 : decode cX8_append 47 = .ok (.iadd, 1) := by decide +kernel
theorem dX8_append_48 : decode cX8_append 48 = .ok (.iload_n 2, 1) := by decide +kernel
theorem dX8_append_49 : decode cX8_append 49 = .ok (.iastore, 1) := by decide +kernel
theorem dX8_append_50 : decode cX8_append 50 = .ok (.aload_n 0, 1) := by decide +kernel
theorem dX8_append_51 : decode cX8_append 51 = .ok (.getfield 7, 3) := by decide +kernel
theorem dX8_append_54 : decode cX8_append 54 = .ok (.iload 7, 2) := by decide +kernel
theorem dX8_append_56 : decode cX8_append 56 = .ok (.iconst 2, 1) := by decide +kernel
theorem dX8_append_57 : decode cX8_append 57 = .ok (.iadd, 1) := by decide +kernel
theorem dX8_append_58 : decode cX8_append 58 = .ok (.iload_n 3, 1) := by decide +kernel
theorem dX8_append_59 : decode cX8_append 59 = .ok (.iastore, 1) := by decide +kernel
theorem dX8_append_60 : decode cX8_append 60 = .ok (.aload_n 0, 1) := by decide +kernel
theorem dX8_append_61 : decode cX8_append 61 = .ok (.getfield 7, 3) := by decide +kernel
theorem dX8_append_64 : decode cX8_append 64 = .ok (.iload 7, 2) := by decide +kernel
theorem dX8_append_66 : decode cX8_append 66 = .ok (.iconst 3, 1) := by decide +kernel
theorem dX8_append_67 : decode cX8_append 67 = .ok (.iadd, 1) := by decide +kernel
theorem dX8_append_68 : decode cX8_append 68 = .ok (.iload 4, 2) := by decide +kernel
theorem dX8_append_70 : decode cX8_append 70 = .ok (.iastore, 1) := by decide +kernel
theorem dX8_append_71 : decode cX8_append 71 = .ok (.aload_n 0, 1) := by decide +kernel
theorem dX8_append_72 : decode cX8_append 72 = .ok (.getfield 7, 3) := by decide +kernel
theorem dX8_append_75 : decode cX8_append 75 = .ok (.iload 7, 2) := by decide +kernel
theorem dX8_append_77 : decode cX8_append 77 = .ok (.iconst 4, 1) := by decide +kernel
theorem dX8_append_78 : decode cX8_append 78 = .ok (.iadd, 1) := by decide +kernel
theorem dX8_append_79 : decode cX8_append 79 = .ok (.iload 5, 2) := by decide +kernel
theorem dX8_append_81 : decode cX8_append 81 = .ok (.iastore, 1) := by decide +kernel
theorem dX8_append_82 : decode cX8_append 82 = .ok (.aload_n 0, 1) := by decide +kernel
theorem dX8_append_83 : decode cX8_append 83 = .ok (.getfield 7, 3) := by decide +kernel
theorem dX8_append_86 : decode cX8_append 86 = .ok (.iload 7, 2) := by decide +kernel
theorem dX8_append_88 : decode cX8_append 88 = .ok (.iconst 5, 1) := by decide +kernel
theorem dX8_append_89 : decode cX8_append 89 = .ok (.iadd, 1) := by decide +kernel
theorem dX8_append_90 : decode cX8_append 90 = .ok (.iload 6, 2) := by decide +kernel
theorem dX8_append_92 : decode cX8_append 92 = .ok (.iastore, 1) := by decide +kernel
theorem dX8_append_93 : decode cX8_append 93 = .ok (.aload_n 0, 1) := by decide +kernel
theorem dX8_append_94 : decode cX8_append 94 = .ok (.getfield 7, 3) := by decide +kernel
theorem dX8_append_97 : decode cX8_append 97 = .ok (.iconst 5, 1) := by decide +kernel
theorem dX8_append_98 : decode cX8_append 98 = .ok (.dup2, 1) := by decide +kernel
theorem dX8_append_99 : decode cX8_append 99 = .ok (.iaload, 1) := by decide +kernel
theorem dX8_append_100 : decode cX8_append 100 = .ok (.iconst 1, 1) := by decide +kernel
theorem dX8_append_101 : decode cX8_append 101 = .ok (.iadd, 1) := by decide +kernel
theorem dX8_append_102 : decode cX8_append 102 = .ok (.iastore, 1) := by decide +kernel
theorem dX8_append_103 : decode cX8_append 103 = .ok (.aload_n 0, 1) := by decide +kernel
theorem dX8_append_104 : decode cX8_append 104 = .ok (.getfield 7, 3) := by decide +kernel
theorem dX8_append_107 : decode cX8_append 107 = .ok (.iconst 5, 1) := by decide +kernel
theorem dX8_append_108 : decode cX8_append 108 = .ok (.iaload, 1) := by decide +kernel
theorem dX8_append_109 : decode cX8_append 109 = .ok (.iconst 1, 1) := by decide +kernel
theorem dX8_append_110 : decode cX8_append 110 = .ok (.isub, 1) := by decide +kernel
theorem dX8_append_111 : decode cX8_append 111 = .ok (.ireturn, 1) := by decide +kernel
theorem dX8_appendStore_0 : decode cX8_appendStore 0 = .ok (.iload_n 3, 1) := by decide +kernel
theorem dX8_appendStore_1 : decode cX8_appendStore 1 = .ok (.invokestatic 59, 3) := by decide +kernel
theorem dX8_appendStore_4 : decode cX8_appendStore 4 = .ok (.ifCond .eq 25, 3) := by decide +kernel
theorem dX8_appendStore_7 : decode cX8_appendStore 7 = .ok (.aload_n 0, 1) := by decide +kernel
theorem dX8_appendStore_8 : decode cX8_appendStore 8 = .ok (.iload_n 1, 1) := by decide +kernel
theorem dX8_appendStore_9 : decode cX8_appendStore 9 = .ok (.iload_n 2, 1) := by decide +kernel
theorem dX8_appendStore_10 : decode cX8_appendStore 10 = .ok (.iload_n 3, 1) := by decide +kernel
theorem dX8_appendStore_11 : decode cX8_appendStore 11 = .ok (.invokevirtual 62, 3) := by decide +kernel
theorem dX8_appendStore_14 : decode cX8_appendStore 14 = .ok (.ifCond .eq 15, 3) := by decide +kernel
theorem dX8_appendStore_17 : decode cX8_appendStore 17 = .ok (.iload 4, 2) := by decide +kernel
theorem dX8_appendStore_19 : decode cX8_appendStore 19 = .ok (.invokestatic 65, 3) := by decide +kernel
theorem dX8_appendStore_22 : decode cX8_appendStore 22 = .ok (.ifCond .eq 7, 3) := by decide +kernel
theorem dX8_appendStore_25 : decode cX8_appendStore 25 = .ok (.iconst 1, 1) := by decide +kernel
theorem dX8_appendStore_26 : decode cX8_appendStore 26 = .ok (.goto 4, 3) := by decide +kernel
theorem dX8_appendStore_29 : decode cX8_appendStore 29 = .ok (.iconst 0, 1) := by decide +kernel
theorem dX8_appendStore_30 : decode cX8_appendStore 30 = .ok (.istore 5, 2) := by decide +kernel
theorem dX8_appendStore_32 : decode cX8_appendStore 32 = .ok (.iload 5, 2) := by decide +kernel
theorem dX8_appendStore_34 : decode cX8_appendStore 34 = .ok (.ifCond .eq 17, 3) := by decide +kernel
theorem dX8_appendStore_37 : decode cX8_appendStore 37 = .ok (.aload_n 0, 1) := by decide +kernel
theorem dX8_appendStore_38 : decode cX8_appendStore 38 = .ok (.iconst 1, 1) := by decide +kernel
theorem dX8_appendStore_39 : decode cX8_appendStore 39 = .ok (.iload_n 1, 1) := by decide +kernel
theorem dX8_appendStore_40 : decode cX8_appendStore 40 = .ok (.iload_n 2, 1) := by decide +kernel
theorem dX8_appendStore_41 : decode cX8_appendStore 41 = .ok (.iload_n 3, 1) := by decide +kernel
theorem dX8_appendStore_42 : decode cX8_appendStore 42 = .ok (.iload 4, 2) := by decide +kernel
theorem dX8_appendStore_44 : decode cX8_appendStore 44 = .ok (.iconst 0, 1) := by decide +kernel
theorem dX8_appendStore_45 : decode cX8_appendStore 45 = .ok (.invokevirtual 68, 3) := by decide +kernel
theorem dX8_appendStore_48 : decode cX8_appendStore 48 = .ok (.goto 4, 3) := by decide +kernel
theorem dX8_appendStore_51 : decode cX8_appendStore 51 = .ok (.iconst (-1), 1) := by decide +kernel
theorem dX8_appendStore_52 : decode cX8_appendStore 52 = .ok (.ireturn, 1) := by decide +kernel
theorem dX8_appendLoad_0 : decode cX8_appendLoad 0 = .ok (.iload 4, 2) := by decide +kernel
theorem dX8_appendLoad_2 : decode cX8_appendLoad 2 = .ok (.invokestatic 59, 3) := by decide +kernel
theorem dX8_appendLoad_5 : decode cX8_appendLoad 5 = .ok (.ifCond .eq 25, 3) := by decide +kernel
theorem dX8_appendLoad_8 : decode cX8_appendLoad 8 = .ok (.aload_n 0, 1) := by decide +kernel
theorem dX8_appendLoad_9 : decode cX8_appendLoad 9 = .ok (.iload_n 2, 1) := by decide +kernel
theorem dX8_appendLoad_10 : decode cX8_appendLoad 10 = .ok (.iload_n 3, 1) := by decide +kernel
theorem dX8_appendLoad_11 : decode cX8_appendLoad 11 = .ok (.iload 4, 2) := by decide +kernel
theorem dX8_appendLoad_13 : decode cX8_appendLoad 13 = .ok (.invokevirtual 62, 3) := by decide +kernel
theorem dX8_appendLoad_16 : decode cX8_appendLoad 16 = .ok (.ifCond .eq 14, 3) := by decide +kernel
theorem dX8_appendLoad_19 : decode cX8_appendLoad 19 = .ok (.iload_n 1, 1) := by decide +kernel
theorem dX8_appendLoad_20 : decode cX8_appendLoad 20 = .ok (.invokestatic 65, 3) := by decide +kernel
theorem dX8_appendLoad_23 : decode cX8_appendLoad 23 = .ok (.ifCond .eq 7, 3) := by decide +kernel
theorem dX8_appendLoad_26 : decode cX8_appendLoad 26 = .ok (.iconst 1, 1) := by decide +kernel
theorem dX8_appendLoad_27 : decode cX8_appendLoad 27 = .ok (.goto 4, 3) := by decide +kernel
theorem dX8_appendLoad_30 : decode cX8_appendLoad 30 = .ok (.iconst 0, 1) := by decide +kernel
theorem dX8_appendLoad_31 : decode cX8_appendLoad 31 = .ok (.istore 5, 2) := by decide +kernel
theorem dX8_appendLoad_33 : decode cX8_appendLoad 33 = .ok (.iload 5, 2) := by decide +kernel
theorem dX8_appendLoad_35 : decode cX8_appendLoad 35 = .ok (.ifCond .eq 17, 3) := by decide +kernel
theorem dX8_appendLoad_38 : decode cX8_appendLoad 38 = .ok (.aload_n 0, 1) := by decide +kernel
theorem dX8_appendLoad_39 : decode cX8_appendLoad 39 = .ok (.iconst 2, 1) := by decide +kernel
theorem dX8_appendLoad_40 : decode cX8_appendLoad 40 = .ok (.iload_n 2, 1) := by decide +kernel
theorem dX8_appendLoad_41 : decode cX8_appendLoad 41 = .ok (.iload_n 3, 1) := by decide +kernel
theorem dX8_appendLoad_42 : decode cX8_appendLoad 42 = .ok (.iload 4, 2) := by decide +kernel
theorem dX8_appendLoad_44 : decode cX8_appendLoad 44 = .ok (.iload_n 1, 1) := by decide +kernel
theorem dX8_appendLoad_45 : decode cX8_appendLoad 45 = .ok (.iconst 0, 1) := by decide +kernel
theorem dX8_appendLoad_46 : decode cX8_appendLoad 46 = .ok (.invokevirtual 68, 3) := by decide +kernel
theorem dX8_appendLoad_49 : decode cX8_appendLoad 49 = .ok (.goto 4, 3) := by decide +kernel
theorem dX8_appendLoad_52 : decode cX8_appendLoad 52 = .ok (.iconst (-1), 1) := by decide +kernel
theorem dX8_appendLoad_53 : decode cX8_appendLoad 53 = .ok (.ireturn, 1) := by decide +kernel
theorem dX8_appendCopy_0 : decode cX8_appendCopy 0 = .ok (.aload_n 0, 1) := by decide +kernel
theorem dX8_appendCopy_1 : decode cX8_appendCopy 1 = .ok (.iload_n 1, 1) := by decide +kernel
theorem dX8_appendCopy_2 : decode cX8_appendCopy 2 = .ok (.iload_n 2, 1) := by decide +kernel
theorem dX8_appendCopy_3 : decode cX8_appendCopy 3 = .ok (.iload 5, 2) := by decide +kernel
theorem dX8_appendCopy_5 : decode cX8_appendCopy 5 = .ok (.invokevirtual 62, 3) := by decide +kernel
theorem dX8_appendCopy_8 : decode cX8_appendCopy 8 = .ok (.ifCond .eq 15, 3) := by decide +kernel
theorem dX8_appendCopy_11 : decode cX8_appendCopy 11 = .ok (.aload_n 0, 1) := by decide +kernel
theorem dX8_appendCopy_12 : decode cX8_appendCopy 12 = .ok (.iload_n 3, 1) := by decide +kernel
theorem dX8_appendCopy_13 : decode cX8_appendCopy 13 = .ok (.iload 4, 2) := by decide +kernel
theorem dX8_appendCopy_15 : decode cX8_appendCopy 15 = .ok (.iload 5, 2) := by decide +kernel
theorem dX8_appendCopy_17 : decode cX8_appendCopy 17 = .ok (.invokevirtual 62, 3) := by decide +kernel
theorem dX8_appendCopy_20 : decode cX8_appendCopy 20 = .ok (.ifCond .ne 5, 3) := by decide +kernel
theorem dX8_appendCopy_23 : decode cX8_appendCopy 23 = .ok (.iconst (-1), 1) := by decide +kernel
theorem dX8_appendCopy_24 : decode cX8_appendCopy 24 = .ok (.ireturn, 1) := by decide +kernel
theorem dX8_appendCopy_25 : decode cX8_appendCopy 25 = .ok (.iload_n 1, 1) := by decide +kernel
theorem dX8_appendCopy_26 : decode cX8_appendCopy 26 = .ok (.iload_n 3, 1) := by decide +kernel
theorem dX8_appendCopy_27 : decode cX8_appendCopy 27 = .ok (.if_icmp .ne 23, 3) := by decide +kernel
theorem dX8_appendCopy_30 : decode cX8_appendCopy 30 = .ok (.iload_n 2, 1) := by decide +kernel
theorem dX8_appendCopy_31 : decode cX8_appendCopy 31 = .ok (.iload 4, 2) := by decide +kernel
theorem dX8_appendCopy_33 : decode cX8_appendCopy 33 = .ok (.iload 5, 2) := by decide +kernel
theorem dX8_appendCopy_35 : decode cX8_appendCopy 35 = .ok (.iadd, 1) := by decide +kernel
theorem dX8_appendCopy_36 : decode cX8_appendCopy 36 = .ok (.if_icmp .ge 14, 3) := by decide +kernel
theorem dX8_appendCopy_39 : decode cX8_appendCopy 39 = .ok (.iload 4, 2) := by decide +kernel
theorem dX8_appendCopy_41 : decode cX8_appendCopy 41 = .ok (.iload_n 2, 1) := by decide +kernel
theorem dX8_appendCopy_42 : decode cX8_appendCopy 42 = .ok (.iload 5, 2) := by decide +kernel
theorem dX8_appendCopy_44 : decode cX8_appendCopy 44 = .ok (.iadd, 1) := by decide +kernel
theorem dX8_appendCopy_45 : decode cX8_appendCopy 45 = .ok (.if_icmp .ge 5, 3) := by decide +kernel
theorem dX8_appendCopy_48 : decode cX8_appendCopy 48 = .ok (.iconst (-1), 1) := by decide +kernel
theorem dX8_appendCopy_49 : decode cX8_appendCopy 49 = .ok (.ireturn, 1) := by decide +kernel
theorem dX8_appendCopy_50 : decode cX8_appendCopy 50 = .ok (.aload_n 0, 1) := by decide +kernel
theorem dX8_appendCopy_51 : decode cX8_appendCopy 51 = .ok (.iconst 3, 1) := by decide +kernel
theorem dX8_appendCopy_52 : decode cX8_appendCopy 52 = .ok (.iload_n 1, 1) := by decide +kernel
theorem dX8_appendCopy_53 : decode cX8_appendCopy 53 = .ok (.iload_n 2, 1) := by decide +kernel
theorem dX8_appendCopy_54 : decode cX8_appendCopy 54 = .ok (.iload_n 3, 1) := by decide +kernel
theorem dX8_appendCopy_55 : decode cX8_appendCopy 55 = .ok (.iload 4, 2) := by decide +kernel
theorem dX8_appendCopy_57 : decode cX8_appendCopy 57 = .ok (.iload 5, 2) := by decide +kernel
theorem dX8_appendCopy_59 : decode cX8_appendCopy 59 = .ok (.invokevirtual 68, 3) := by decide +kernel
theorem dX8_appendCopy_62 : decode cX8_appendCopy 62 = .ok (.ireturn, 1) := by decide +kernel
theorem dX8_appendEscape_0 : decode cX8_appendEscape 0 = .ok (.aload_n 0, 1) := by decide +kernel
theorem dX8_appendEscape_1 : decode cX8_appendEscape 1 = .ok (.iload_n 1, 1) := by decide +kernel
theorem dX8_appendEscape_2 : decode cX8_appendEscape 2 = .ok (.invokevirtual 52, 3) := by decide +kernel
theorem dX8_appendEscape_5 : decode cX8_appendEscape 5 = .ok (.ifCond .eq 16, 3) := by decide +kernel
theorem dX8_appendEscape_8 : decode cX8_appendEscape 8 = .ok (.aload_n 0, 1) := by decide +kernel
theorem dX8_appendEscape_9 : decode cX8_appendEscape 9 = .ok (.iconst 4, 1) := by decide +kernel
theorem dX8_appendEscape_10 : decode cX8_appendEscape 10 = .ok (.iload_n 1, 1) := by decide +kernel
theorem dX8_appendEscape_11 : decode cX8_appendEscape 11 = .ok (.iconst 0, 1) := by decide +kernel
theorem dX8_appendEscape_12 : decode cX8_appendEscape 12 = .ok (.iconst 0, 1) := by decide +kernel
theorem dX8_appendEscape_13 : decode cX8_appendEscape 13 = .ok (.iconst 0, 1) := by decide +kernel
theorem dX8_appendEscape_14 : decode cX8_appendEscape 14 = .ok (.iconst 0, 1) := by decide +kernel
theorem dX8_appendEscape_15 : decode cX8_appendEscape 15 = .ok (.invokevirtual 68, 3) := by decide +kernel
theorem dX8_appendEscape_18 : decode cX8_appendEscape 18 = .ok (.goto 4, 3) := by decide +kernel
theorem dX8_appendEscape_21 : decode cX8_appendEscape 21 = .ok (.iconst (-1), 1) := by decide +kernel
theorem dX8_appendEscape_22 : decode cX8_appendEscape 22 = .ok (.ireturn, 1) := by decide +kernel
theorem dX8_appendConstant_0 : decode cX8_appendConstant 0 = .ok (.iload_n 1, 1) := by decide +kernel
theorem dX8_appendConstant_1 : decode cX8_appendConstant 1 = .ok (.invokestatic 65, 3) := by decide +kernel
theorem dX8_appendConstant_4 : decode cX8_appendConstant 4 = .ok (.ifCond .eq 16, 3) := by decide +kernel
theorem dX8_appendConstant_7 : decode cX8_appendConstant 7 = .ok (.aload_n 0, 1) := by decide +kernel
theorem dX8_appendConstant_8 : decode cX8_appendConstant 8 = .ok (.iconst 5, 1) := by decide +kernel
theorem dX8_appendConstant_9 : decode cX8_appendConstant 9 = .ok (.iload_n 1, 1) := by decide +kernel
theorem dX8_appendConstant_10 : decode cX8_appendConstant 10 = .ok (.iload_n 2, 1) := by decide +kernel
theorem dX8_appendConstant_11 : decode cX8_appendConstant 11 = .ok (.iconst 0, 1) := by decide +kernel
theorem dX8_appendConstant_12 : decode cX8_appendConstant 12 = .ok (.iconst 0, 1) := by decide +kernel
theorem dX8_appendConstant_13 : decode cX8_appendConstant 13 = .ok (.iconst 0, 1) := by decide +kernel
theorem dX8_appendConstant_14 : decode cX8_appendConstant 14 = .ok (.invokevirtual 68, 3) := by decide +kernel
theorem dX8_appendConstant_17 : decode cX8_appendConstant 17 = .ok (.goto 4, 3) := by decide +kernel
theorem dX8_appendConstant_20 : decode cX8_appendConstant 20 = .ok (.iconst (-1), 1) := by decide +kernel
theorem dX8_appendConstant_21 : decode cX8_appendConstant 21 = .ok (.ireturn, 1) := by decide +kernel
theorem dX8_appendAdd_0 : decode cX8_appendAdd 0 = .ok (.iload_n 1, 1) := by decide +kernel
theorem dX8_appendAdd_1 : decode cX8_appendAdd 1 = .ok (.invokestatic 65, 3) := by decide +kernel
theorem dX8_appendAdd_4 : decode cX8_appendAdd 4 = .ok (.ifCond .eq 31, 3) := by decide +kernel
theorem dX8_appendAdd_7 : decode cX8_appendAdd 7 = .ok (.iload_n 2, 1) := by decide +kernel
theorem dX8_appendAdd_8 : decode cX8_appendAdd 8 = .ok (.invokestatic 65, 3) := by decide +kernel
theorem dX8_appendAdd_11 : decode cX8_appendAdd 11 = .ok (.ifCond .eq 24, 3) := by decide +kernel
theorem dX8_appendAdd_14 : decode cX8_appendAdd 14 = .ok (.iload_n 3, 1) := by decide +kernel
theorem dX8_appendAdd_15 : decode cX8_appendAdd 15 = .ok (.invokestatic 65, 3) := by decide +kernel
theorem dX8_appendAdd_18 : decode cX8_appendAdd 18 = .ok (.ifCond .eq 17, 3) := by decide +kernel
theorem dX8_appendAdd_21 : decode cX8_appendAdd 21 = .ok (.aload_n 0, 1) := by decide +kernel
theorem dX8_appendAdd_22 : decode cX8_appendAdd 22 = .ok (.bipush 6, 2) := by decide +kernel
theorem dX8_appendAdd_24 : decode cX8_appendAdd 24 = .ok (.iload_n 1, 1) := by decide +kernel
theorem dX8_appendAdd_25 : decode cX8_appendAdd 25 = .ok (.iload_n 2, 1) := by decide +kernel
theorem dX8_appendAdd_26 : decode cX8_appendAdd 26 = .ok (.iload_n 3, 1) := by decide +kernel
theorem dX8_appendAdd_27 : decode cX8_appendAdd 27 = .ok (.iconst 0, 1) := by decide +kernel
theorem dX8_appendAdd_28 : decode cX8_appendAdd 28 = .ok (.iconst 0, 1) := by decide +kernel
theorem dX8_appendAdd_29 : decode cX8_appendAdd 29 = .ok (.invokevirtual 68, 3) := by decide +kernel
theorem dX8_appendAdd_32 : decode cX8_appendAdd 32 = .ok (.goto 4, 3) := by decide +kernel
theorem dX8_appendAdd_35 : decode cX8_appendAdd 35 = .ok (.iconst (-1), 1) := by decide +kernel
theorem dX8_appendAdd_36 : decode cX8_appendAdd 36 = .ok (.ireturn, 1) := by decide +kernel
theorem dX8_appendSkip_0 : decode cX8_appendSkip 0 = .ok (.iload_n 1, 1) := by decide +kernel
theorem dX8_appendSkip_1 : decode cX8_appendSkip 1 = .ok (.invokestatic 65, 3) := by decide +kernel
theorem dX8_appendSkip_4 : decode cX8_appendSkip 4 = .ok (.ifCond .eq 27, 3) := by decide +kernel
theorem dX8_appendSkip_7 : decode cX8_appendSkip 7 = .ok (.iload_n 2, 1) := by decide +kernel
theorem dX8_appendSkip_8 : decode cX8_appendSkip 8 = .ok (.iconst 1, 1) := by decide +kernel
theorem dX8_appendSkip_9 : decode cX8_appendSkip 9 = .ok (.bipush 9, 2) := by decide +kernel
theorem dX8_appendSkip_11 : decode cX8_appendSkip 11 = .ok (.invokestatic 48, 3) := by decide +kernel
theorem dX8_appendSkip_14 : decode cX8_appendSkip 14 = .ok (.ifCond .eq 17, 3) := by decide +kernel
theorem dX8_appendSkip_17 : decode cX8_appendSkip 17 = .ok (.aload_n 0, 1) := by decide +kernel
theorem dX8_appendSkip_18 : decode cX8_appendSkip 18 = .ok (.bipush 7, 2) := by decide +kernel
theorem dX8_appendSkip_20 : decode cX8_appendSkip 20 = .ok (.iload_n 1, 1) := by decide +kernel
theorem dX8_appendSkip_21 : decode cX8_appendSkip 21 = .ok (.iload_n 2, 1) := by decide +kernel
theorem dX8_appendSkip_22 : decode cX8_appendSkip 22 = .ok (.iconst 0, 1) := by decide +kernel
theorem dX8_appendSkip_23 : decode cX8_appendSkip 23 = .ok (.iconst 0, 1) := by decide +kernel
theorem dX8_appendSkip_24 : decode cX8_appendSkip 24 = .ok (.iconst 0, 1) := by decide +kernel
theorem dX8_appendSkip_25 : decode cX8_appendSkip 25 = .ok (.invokevirtual 68, 3) := by decide +kernel
theorem dX8_appendSkip_28 : decode cX8_appendSkip 28 = .ok (.goto 4, 3) := by decide +kernel
theorem dX8_appendSkip_31 : decode cX8_appendSkip 31 = .ok (.iconst (-1), 1) := by decide +kernel
theorem dX8_appendSkip_32 : decode cX8_appendSkip 32 = .ok (.ireturn, 1) := by decide +kernel
theorem dX8_appendOutput_0 : decode cX8_appendOutput 0 = .ok (.iload_n 1, 1) := by decide +kernel
theorem dX8_appendOutput_1 : decode cX8_appendOutput 1 = .ok (.invokestatic 65, 3) := by decide +kernel
theorem dX8_appendOutput_4 : decode cX8_appendOutput 4 = .ok (.ifCond .eq 17, 3) := by decide +kernel
theorem dX8_appendOutput_7 : decode cX8_appendOutput 7 = .ok (.aload_n 0, 1) := by decide +kernel
theorem dX8_appendOutput_8 : decode cX8_appendOutput 8 = .ok (.bipush 8, 2) := by decide +kernel
theorem dX8_appendOutput_10 : decode cX8_appendOutput 10 = .ok (.iload_n 1, 1) := by decide +kernel
theorem dX8_appendOutput_11 : decode cX8_appendOutput 11 = .ok (.iconst 0, 1) := by decide +kernel
theorem dX8_appendOutput_12 : decode cX8_appendOutput 12 = .ok (.iconst 0, 1) := by decide +kernel
theorem dX8_appendOutput_13 : decode cX8_appendOutput 13 = .ok (.iconst 0, 1) := by decide +kernel
theorem dX8_appendOutput_14 : decode cX8_appendOutput 14 = .ok (.iconst 0, 1) := by decide +kernel
theorem dX8_appendOutput_15 : decode cX8_appendOutput 15 = .ok (.invokevirtual 68, 3) := by decide +kernel
theorem dX8_appendOutput_18 : decode cX8_appendOutput 18 = .ok (.goto 4, 3) := by decide +kernel
theorem dX8_appendOutput_21 : decode cX8_appendOutput 21 = .ok (.iconst (-1), 1) := by decide +kernel
theorem dX8_appendOutput_22 : decode cX8_appendOutput 22 = .ok (.ireturn, 1) := by decide +kernel
theorem dX8_removeInstruction_0 : decode cX8_removeInstruction 0 = .ok (.iload_n 1, 1) := by decide +kernel
theorem dX8_removeInstruction_1 : decode cX8_removeInstruction 1 = .ok (.iconst 0, 1) := by decide +kernel
theorem dX8_removeInstruction_2 : decode cX8_removeInstruction 2 = .ok (.aload_n 0, 1) := by decide +kernel
theorem dX8_removeInstruction_3 : decode cX8_removeInstruction 3 = .ok (.getfield 7, 3) := by decide +kernel
theorem dX8_removeInstruction_6 : decode cX8_removeInstruction 6 = .ok (.iconst 5, 1) := by decide +kernel
theorem dX8_removeInstruction_7 : decode cX8_removeInstruction 7 = .ok (.iaload, 1) := by decide +kernel
theorem dX8_removeInstruction_8 : decode cX8_removeInstruction 8 = .ok (.iconst 1, 1) := by decide +kernel
theorem dX8_removeInstruction_9 : decode cX8_removeInstruction 9 = .ok (.isub, 1) := by decide +kernel
theorem dX8_removeInstruction_10 : decode cX8_removeInstruction 10 = .ok (.invokestatic 48, 3) := by decide +kernel
theorem dX8_removeInstruction_13 : decode cX8_removeInstruction 13 = .ok (.ifCond .ne 5, 3) := by decide +kernel
theorem dX8_removeInstruction_16 : decode cX8_removeInstruction 16 = .ok (.iconst (-1), 1) := by decide +kernel
theorem dX8_removeInstruction_17 : decode cX8_removeInstruction 17 = .ok (.ireturn, 1) := by decide +kernel
theorem dX8_removeInstruction_18 : decode cX8_removeInstruction 18 = .ok (.aload_n 0, 1) := by decide +kernel
theorem dX8_removeInstruction_19 : decode cX8_removeInstruction 19 = .ok (.invokevirtual 56, 3) := by decide +kernel
theorem dX8_removeInstruction_22 : decode cX8_removeInstruction 22 = .ok (.bipush 6, 2) := by decide +kernel
theorem dX8_removeInstruction_24 : decode cX8_removeInstruction 24 = .ok (.bipush 6, 2) := by decide +kernel
theorem dX8_removeInstruction_26 : decode cX8_removeInstruction 26 = .ok (.iload_n 1, 1) := by decide +kernel
theorem dX8_removeInstruction_27 : decode cX8_removeInstruction 27 = .ok (.imul, 1) := by decide +kernel
theorem dX8_removeInstruction_28 : decode cX8_removeInstruction 28 = .ok (.iadd, 1) := by decide +kernel
theorem dX8_removeInstruction_29 : decode cX8_removeInstruction 29 = .ok (.istore_n 2, 1) := by decide +kernel
theorem dX8_removeInstruction_30 : decode cX8_removeInstruction 30 = .ok (.iload_n 2, 1) := by decide +kernel
theorem dX8_removeInstruction_31 : decode cX8_removeInstruction 31 = .ok (.bipush 6, 2) := by decide +kernel
theorem dX8_removeInstruction_33 : decode cX8_removeInstruction 33 = .ok (.iadd, 1) := by decide +kernel
theorem dX8_removeInstruction_34 : decode cX8_removeInstruction 34 = .ok (.sipush 150, 3) := by decide +kernel
theorem dX8_removeInstruction_37 : decode cX8_removeInstruction 37 = .ok (.if_icmp .ge 24, 3) := by decide +kernel
theorem dX8_removeInstruction_40 : decode cX8_removeInstruction 40 = .ok (.aload_n 0, 1) := by decide +kernel
theorem dX8_removeInstruction_41 : decode cX8_removeInstruction 41 = .ok (.getfield 7, 3) := by decide +kernel
theorem dX8_removeInstruction_44 : decode cX8_removeInstruction 44 = .ok (.iload_n 2, 1) := by decide +kernel
theorem dX8_removeInstruction_45 : decode cX8_removeInstruction 45 = .ok (.aload_n 0, 1) := by decide +kernel
theorem dX8_removeInstruction_46 : decode cX8_removeInstruction 46 = .ok (.getfield 7, 3) := by decide +kernel
theorem dX8_removeInstruction_49 : decode cX8_removeInstruction 49 = .ok (.iload_n 2, 1) := by decide +kernel
theorem dX8_removeInstruction_50 : decode cX8_removeInstruction 50 = .ok (.bipush 6, 2) := by decide +kernel
theorem dX8_removeInstruction_52 : decode cX8_removeInstruction 52 = .ok (.iadd, 1) := by decide +kernel
theorem dX8_removeInstruction_53 : decode cX8_removeInstruction 53 = .ok (.iaload, 1) := by decide +kernel
theorem dX8_removeInstruction_54 : decode cX8_removeInstruction 54 = .ok (.iastore, 1) := by decide +kernel
theorem dX8_removeInstruction_55 : decode cX8_removeInstruction 55 = .ok (.iinc 2 1, 3) := by decide +kernel
theorem dX8_removeInstruction_58 : decode cX8_removeInstruction 58 = .ok (.goto (-28), 3) := by decide +kernel
theorem dX8_removeInstruction_61 : decode cX8_removeInstruction 61 = .ok (.aload_n 0, 1) := by decide +kernel
theorem dX8_removeInstruction_62 : decode cX8_removeInstruction 62 = .ok (.getfield 7, 3) := by decide +kernel
theorem dX8_removeInstruction_65 : decode cX8_removeInstruction 65 = .ok (.iconst 5, 1) := by decide +kernel
theorem dX8_removeInstruction_66 : decode cX8_removeInstruction 66 = .ok (.dup2, 1) := by decide +kernel
theorem dX8_removeInstruction_67 : decode cX8_removeInstruction 67 = .ok (.iaload, 1) := by decide +kernel
theorem dX8_removeInstruction_68 : decode cX8_removeInstruction 68 = .ok (.iconst 1, 1) := by decide +kernel
theorem dX8_removeInstruction_69 : decode cX8_removeInstruction 69 = .ok (.isub, 1) := by decide +kernel
theorem dX8_removeInstruction_70 : decode cX8_removeInstruction 70 = .ok (.iastore, 1) := by decide +kernel
theorem dX8_removeInstruction_71 : decode cX8_removeInstruction 71 = .ok (.aload_n 0, 1) := by decide +kernel
theorem dX8_removeInstruction_72 : decode cX8_removeInstruction 72 = .ok (.getfield 7, 3) := by decide +kernel
theorem dX8_removeInstruction_75 : decode cX8_removeInstruction 75 = .ok (.iconst 5, 1) := by decide +kernel
theorem dX8_removeInstruction_76 : decode cX8_removeInstruction 76 = .ok (.iaload, 1) := by decide +kernel
theorem dX8_removeInstruction_77 : decode cX8_removeInstruction 77 = .ok (.ireturn, 1) := by decide +kernel
theorem dX8_undo_0 : decode cX8_undo 0 = .ok (.aload_n 0, 1) := by decide +kernel
theorem dX8_undo_1 : decode cX8_undo 1 = .ok (.getfield 44, 3) := by decide +kernel
theorem dX8_undo_4 : decode cX8_undo 4 = .ok (.ifCond .ne 6, 3) := by decide +kernel
theorem dX8_undo_7 : decode cX8_undo 7 = .ok (.bipush (-2), 2) := by decide +kernel
theorem dX8_undo_9 : decode cX8_undo 9 = .ok (.ireturn, 1) := by decide +kernel
theorem dX8_undo_10 : decode cX8_undo 10 = .ok (.aload_n 0, 1) := by decide +kernel
theorem dX8_undo_11 : decode cX8_undo 11 = .ok (.dup, 1) := by decide +kernel
theorem dX8_undo_12 : decode cX8_undo 12 = .ok (.getfield 44, 3) := by decide +kernel
theorem dX8_undo_15 : decode cX8_undo 15 = .ok (.iconst 1, 1) := by decide +kernel
theorem dX8_undo_16 : decode cX8_undo 16 = .ok (.isub, 1) := by decide +kernel
theorem dX8_undo_17 : decode cX8_undo 17 = .ok (.putfield 44, 3) := by decide +kernel
theorem dX8_undo_20 : decode cX8_undo 20 = .ok (.iconst 0, 1) := by decide +kernel
theorem dX8_undo_21 : decode cX8_undo 21 = .ok (.istore_n 1, 1) := by decide +kernel
theorem dX8_undo_22 : decode cX8_undo 22 = .ok (.iload_n 1, 1) := by decide +kernel
theorem dX8_undo_23 : decode cX8_undo 23 = .ok (.sipush 150, 3) := by decide +kernel
theorem dX8_undo_26 : decode cX8_undo 26 = .ok (.if_icmp .ge 30, 3) := by decide +kernel
theorem dX8_undo_29 : decode cX8_undo 29 = .ok (.aload_n 0, 1) := by decide +kernel
theorem dX8_undo_30 : decode cX8_undo 30 = .ok (.getfield 7, 3) := by decide +kernel
theorem dX8_undo_33 : decode cX8_undo 33 = .ok (.iload_n 1, 1) := by decide +kernel
theorem dX8_undo_34 : decode cX8_undo 34 = .ok (.aload_n 0, 1) := by decide +kernel
theorem dX8_undo_35 : decode cX8_undo 35 = .ok (.getfield 13, 3) := by decide +kernel
theorem dX8_undo_38 : decode cX8_undo 38 = .ok (.sipush 150, 3) := by decide +kernel
theorem dX8_undo_41 : decode cX8_undo 41 = .ok (.aload_n 0, 1) := by decide +kernel
theorem dX8_undo_42 : decode cX8_undo 42 = .ok (.getfield 44, 3) := by decide +kernel
theorem dX8_undo_45 : decode cX8_undo 45 = .ok (.imul, 1) := by decide +kernel
theorem dX8_undo_46 : decode cX8_undo 46 = .ok (.iload_n 1, 1) := by decide +kernel
theorem dX8_undo_47 : decode cX8_undo 47 = .ok (.iadd, 1) := by decide +kernel
theorem dX8_undo_48 : decode cX8_undo 48 = .ok (.iaload, 1) := by decide +kernel
theorem dX8_undo_49 : decode cX8_undo 49 = .ok (.iastore, 1) := by decide +kernel
theorem dX8_undo_50 : decode cX8_undo 50 = .ok (.iinc 1 1, 3) := by decide +kernel
theorem dX8_undo_53 : decode cX8_undo 53 = .ok (.goto (-31), 3) := by decide +kernel
theorem dX8_undo_56 : decode cX8_undo 56 = .ok (.aload_n 0, 1) := by decide +kernel
theorem dX8_undo_57 : decode cX8_undo 57 = .ok (.getfield 44, 3) := by decide +kernel
theorem dX8_undo_60 : decode cX8_undo 60 = .ok (.ireturn, 1) := by decide +kernel
theorem dX8_recordCount_0 : decode cX8_recordCount 0 = .ok (.aload_n 0, 1) := by decide +kernel
theorem dX8_recordCount_1 : decode cX8_recordCount 1 = .ok (.getfield 7, 3) := by decide +kernel
theorem dX8_recordCount_4 : decode cX8_recordCount 4 = .ok (.iconst 0, 1) := by decide +kernel
theorem dX8_recordCount_5 : decode cX8_recordCount 5 = .ok (.iaload, 1) := by decide +kernel
theorem dX8_recordCount_6 : decode cX8_recordCount 6 = .ok (.ireturn, 1) := by decide +kernel
theorem dX8_instructionCount_0 : decode cX8_instructionCount 0 = .ok (.aload_n 0, 1) := by decide +kernel
theorem dX8_instructionCount_1 : decode cX8_instructionCount 1 = .ok (.getfield 7, 3) := by decide +kernel
theorem dX8_instructionCount_4 : decode cX8_instructionCount 4 = .ok (.iconst 5, 1) := by decide +kernel
theorem dX8_instructionCount_5 : decode cX8_instructionCount 5 = .ok (.iaload, 1) := by decide +kernel
theorem dX8_instructionCount_6 : decode cX8_instructionCount 6 = .ok (.ireturn, 1) := by decide +kernel
theorem dX8_of_0 : decode cX8_of 0 = .ok (.aload_n 0, 1) := by decide +kernel
theorem dX8_of_1 : decode cX8_of 1 = .ok (.getfield 7, 3) := by decide +kernel
theorem dX8_of_4 : decode cX8_of 4 = .ok (.bipush 6, 2) := by decide +kernel
theorem dX8_of_6 : decode cX8_of 6 = .ok (.bipush 6, 2) := by decide +kernel
theorem dX8_of_8 : decode cX8_of 8 = .ok (.iload_n 1, 1) := by decide +kernel
theorem dX8_of_9 : decode cX8_of 9 = .ok (.imul, 1) := by decide +kernel
theorem dX8_of_10 : decode cX8_of 10 = .ok (.iadd, 1) := by decide +kernel
theorem dX8_of_11 : decode cX8_of 11 = .ok (.iload_n 2, 1) := by decide +kernel
theorem dX8_of_12 : decode cX8_of 12 = .ok (.iadd, 1) := by decide +kernel
theorem dX8_of_13 : decode cX8_of 13 = .ok (.iaload, 1) := by decide +kernel
theorem dX8_of_14 : decode cX8_of 14 = .ok (.ireturn, 1) := by decide +kernel
theorem dX8_isAccess_0 : decode cX8_isAccess 0 = .ok (.aload_n 0, 1) := by decide +kernel
theorem dX8_isAccess_1 : decode cX8_isAccess 1 = .ok (.iload_n 1, 1) := by decide +kernel
theorem dX8_isAccess_2 : decode cX8_isAccess 2 = .ok (.iconst 0, 1) := by decide +kernel
theorem dX8_isAccess_3 : decode cX8_isAccess 3 = .ok (.invokevirtual 72, 3) := by decide +kernel
theorem dX8_isAccess_6 : decode cX8_isAccess 6 = .ok (.iconst 1, 1) := by decide +kernel
theorem dX8_isAccess_7 : decode cX8_isAccess 7 = .ok (.if_icmp .eq 13, 3) := by decide +kernel
theorem dX8_isAccess_10 : decode cX8_isAccess 10 = .ok (.aload_n 0, 1) := by decide +kernel
theorem dX8_isAccess_11 : decode cX8_isAccess 11 = .ok (.iload_n 1, 1) := by decide +kernel
theorem dX8_isAccess_12 : decode cX8_isAccess 12 = .ok (.iconst 0, 1) := by decide +kernel
theorem dX8_isAccess_13 : decode cX8_isAccess 13 = .ok (.invokevirtual 72, 3) := by decide +kernel
theorem dX8_isAccess_16 : decode cX8_isAccess 16 = .ok (.iconst 2, 1) := by decide +kernel
theorem dX8_isAccess_17 : decode cX8_isAccess 17 = .ok (.if_icmp .ne 7, 3) := by decide +kernel
theorem dX8_isAccess_20 : decode cX8_isAccess 20 = .ok (.iconst 1, 1) := by decide +kernel
theorem dX8_isAccess_21 : decode cX8_isAccess 21 = .ok (.goto 4, 3) := by decide +kernel
theorem dX8_isAccess_24 : decode cX8_isAccess 24 = .ok (.iconst 0, 1) := by decide +kernel
theorem dX8_isAccess_25 : decode cX8_isAccess 25 = .ok (.ireturn, 1) := by decide +kernel
theorem dX8_doesEscape_0 : decode cX8_doesEscape 0 = .ok (.iconst 0, 1) := by decide +kernel
theorem dX8_doesEscape_1 : decode cX8_doesEscape 1 = .ok (.istore_n 2, 1) := by decide +kernel
theorem dX8_doesEscape_2 : decode cX8_doesEscape 2 = .ok (.iconst 0, 1) := by decide +kernel
theorem dX8_doesEscape_3 : decode cX8_doesEscape 3 = .ok (.istore_n 3, 1) := by decide +kernel
theorem dX8_doesEscape_4 : decode cX8_doesEscape 4 = .ok (.iload_n 3, 1) := by decide +kernel
theorem dX8_doesEscape_5 : decode cX8_doesEscape 5 = .ok (.aload_n 0, 1) := by decide +kernel
theorem dX8_doesEscape_6 : decode cX8_doesEscape 6 = .ok (.getfield 7, 3) := by decide +kernel
theorem dX8_doesEscape_9 : decode cX8_doesEscape 9 = .ok (.iconst 5, 1) := by decide +kernel
theorem dX8_doesEscape_10 : decode cX8_doesEscape 10 = .ok (.iaload, 1) := by decide +kernel
theorem dX8_doesEscape_11 : decode cX8_doesEscape 11 = .ok (.if_icmp .ge 39, 3) := by decide +kernel
theorem dX8_doesEscape_14 : decode cX8_doesEscape 14 = .ok (.iload_n 2, 1) := by decide +kernel
theorem dX8_doesEscape_15 : decode cX8_doesEscape 15 = .ok (.ifCond .ne 23, 3) := by decide +kernel
theorem dX8_doesEscape_18 : decode cX8_doesEscape 18 = .ok (.aload_n 0, 1) := by decide +kernel
theorem dX8_doesEscape_19 : decode cX8_doesEscape 19 = .ok (.iload_n 3, 1) := by decide +kernel
theorem dX8_doesEscape_20 : decode cX8_doesEscape 20 = .ok (.iconst 0, 1) := by decide +kernel
theorem dX8_doesEscape_21 : decode cX8_doesEscape 21 = .ok (.invokevirtual 72, 3) := by decide +kernel
theorem dX8_doesEscape_24 : decode cX8_doesEscape 24 = .ok (.iconst 4, 1) := by decide +kernel
theorem dX8_doesEscape_25 : decode cX8_doesEscape 25 = .ok (.if_icmp .ne 17, 3) := by decide +kernel
theorem dX8_doesEscape_28 : decode cX8_doesEscape 28 = .ok (.aload_n 0, 1) := by decide +kernel
theorem dX8_doesEscape_29 : decode cX8_doesEscape 29 = .ok (.iload_n 3, 1) := by decide +kernel
theorem dX8_doesEscape_30 : decode cX8_doesEscape 30 = .ok (.iconst 1, 1) := by decide +kernel
theorem dX8_doesEscape_31 : decode cX8_doesEscape 31 = .ok (.invokevirtual 72, 3) := by decide +kernel
theorem dX8_doesEscape_34 : decode cX8_doesEscape 34 = .ok (.iload_n 1, 1) := by decide +kernel
theorem dX8_doesEscape_35 : decode cX8_doesEscape 35 = .ok (.if_icmp .ne 7, 3) := by decide +kernel
theorem dX8_doesEscape_38 : decode cX8_doesEscape 38 = .ok (.iconst 1, 1) := by decide +kernel
theorem dX8_doesEscape_39 : decode cX8_doesEscape 39 = .ok (.goto 4, 3) := by decide +kernel
theorem dX8_doesEscape_42 : decode cX8_doesEscape 42 = .ok (.iconst 0, 1) := by decide +kernel
theorem dX8_doesEscape_43 : decode cX8_doesEscape 43 = .ok (.istore_n 2, 1) := by decide +kernel
theorem dX8_doesEscape_44 : decode cX8_doesEscape 44 = .ok (.iinc 3 1, 3) := by decide +kernel
theorem dX8_doesEscape_47 : decode cX8_doesEscape 47 = .ok (.goto (-43), 3) := by decide +kernel
theorem dX8_doesEscape_50 : decode cX8_doesEscape 50 = .ok (.iload_n 2, 1) := by decide +kernel
theorem dX8_doesEscape_51 : decode cX8_doesEscape 51 = .ok (.ireturn, 1) := by decide +kernel
theorem dX8_holds_0 : decode cX8_holds 0 = .ok (.iload_n 2, 1) := by decide +kernel
theorem dX8_holds_1 : decode cX8_holds 1 = .ok (.iload_n 0, 1) := by decide +kernel
theorem dX8_holds_2 : decode cX8_holds 2 = .ok (.if_icmp .lt 14, 3) := by decide +kernel
theorem dX8_holds_5 : decode cX8_holds 5 = .ok (.iload_n 2, 1) := by decide +kernel
theorem dX8_holds_6 : decode cX8_holds 6 = .ok (.iload_n 0, 1) := by decide +kernel
theorem dX8_holds_7 : decode cX8_holds 7 = .ok (.iload_n 1, 1) := by decide +kernel
theorem dX8_holds_8 : decode cX8_holds 8 = .ok (.iadd, 1) := by decide +kernel
theorem dX8_holds_9 : decode cX8_holds 9 = .ok (.if_icmp .ge 7, 3) := by decide +kernel
theorem dX8_holds_12 : decode cX8_holds 12 = .ok (.iconst 1, 1) := by decide +kernel
theorem dX8_holds_13 : decode cX8_holds 13 = .ok (.goto 4, 3) := by decide +kernel
theorem dX8_holds_16 : decode cX8_holds 16 = .ok (.iconst 0, 1) := by decide +kernel
theorem dX8_holds_17 : decode cX8_holds 17 = .ok (.ireturn, 1) := by decide +kernel
theorem dX8_isAccessed_0 : decode cX8_isAccessed 0 = .ok (.iconst 0, 1) := by decide +kernel
theorem dX8_isAccessed_1 : decode cX8_isAccessed 1 = .ok (.istore 4, 2) := by decide +kernel
theorem dX8_isAccessed_3 : decode cX8_isAccessed 3 = .ok (.iconst 0, 1) := by decide +kernel
theorem dX8_isAccessed_4 : decode cX8_isAccessed 4 = .ok (.istore 5, 2) := by decide +kernel
theorem dX8_isAccessed_6 : decode cX8_isAccessed 6 = .ok (.iload 5, 2) := by decide +kernel
theorem dX8_isAccessed_8 : decode cX8_isAccessed 8 = .ok (.aload_n 0, 1) := by decide +kernel
theorem dX8_isAccessed_9 : decode cX8_isAccessed 9 = .ok (.getfield 7, 3) := by decide +kernel
theorem dX8_isAccessed_12 : decode cX8_isAccessed 12 = .ok (.iconst 5, 1) := by decide +kernel
theorem dX8_isAccessed_13 : decode cX8_isAccessed 13 = .ok (.iaload, 1) := by decide +kernel
theorem dX8_isAccessed_14 : decode cX8_isAccessed 14 = .ok (.if_icmp .ge 101, 3) := by decide +kernel
theorem dX8_isAccessed_17 : decode cX8_isAccessed 17 = .ok (.aload_n 0, 1) := by decide +kernel
theorem dX8_isAccessed_18 : decode cX8_isAccessed 18 = .ok (.iload 5, 2) := by decide +kernel
theorem dX8_isAccessed_20 : decode cX8_isAccessed 20 = .ok (.invokevirtual 76, 3) := by decide +kernel
theorem dX8_isAccessed_23 : decode cX8_isAccessed 23 = .ok (.ifCond .eq 39, 3) := by decide +kernel
theorem dX8_isAccessed_26 : decode cX8_isAccessed 26 = .ok (.aload_n 0, 1) := by decide +kernel
theorem dX8_isAccessed_27 : decode cX8_isAccessed 27 = .ok (.iload 5, 2) := by decide +kernel
theorem dX8_isAccessed_29 : decode cX8_isAccessed 29 = .ok (.iconst 1, 1) := by decide +kernel
theorem dX8_isAccessed_30 : decode cX8_isAccessed 30 = .ok (.invokevirtual 72, 3) := by decide +kernel
theorem dX8_isAccessed_33 : decode cX8_isAccessed 33 = .ok (.iload_n 1, 1) := by decide +kernel
theorem dX8_isAccessed_34 : decode cX8_isAccessed 34 = .ok (.if_icmp .ne 28, 3) := by decide +kernel
theorem dX8_isAccessed_37 : decode cX8_isAccessed 37 = .ok (.aload_n 0, 1) := by decide +kernel
theorem dX8_isAccessed_38 : decode cX8_isAccessed 38 = .ok (.iload 5, 2) := by decide +kernel
theorem dX8_isAccessed_40 : decode cX8_isAccessed 40 = .ok (.iconst 2, 1) := by decide +kernel
theorem dX8_isAccessed_41 : decode cX8_isAccessed 41 = .ok (.invokevirtual 72, 3) := by decide +kernel
theorem dX8_isAccessed_44 : decode cX8_isAccessed 44 = .ok (.aload_n 0, 1) := by decide +kernel
theorem dX8_isAccessed_45 : decode cX8_isAccessed 45 = .ok (.iload 5, 2) := by decide +kernel
theorem dX8_isAccessed_47 : decode cX8_isAccessed 47 = .ok (.iconst 3, 1) := by decide +kernel
theorem dX8_isAccessed_48 : decode cX8_isAccessed 48 = .ok (.invokevirtual 72, 3) := by decide +kernel
theorem dX8_isAccessed_51 : decode cX8_isAccessed 51 = .ok (.iload_n 2, 1) := by decide +kernel
theorem dX8_isAccessed_52 : decode cX8_isAccessed 52 = .ok (.invokestatic 79, 3) := by decide +kernel
theorem dX8_isAccessed_55 : decode cX8_isAccessed 55 = .ok (.ifCond .eq 7, 3) := by decide +kernel
theorem dX8_isAccessed_58 : decode cX8_isAccessed 58 = .ok (.iconst 1, 1) := by decide +kernel
theorem dX8_isAccessed_59 : decode cX8_isAccessed 59 = .ok (.goto 4, 3) := by decide +kernel
theorem dX8_isAccessed_62 : decode cX8_isAccessed 62 = .ok (.iconst 0, 1) := by decide +kernel
theorem dX8_isAccessed_63 : decode cX8_isAccessed 63 = .ok (.istore 6, 2) := by decide +kernel
theorem dX8_isAccessed_65 : decode cX8_isAccessed 65 = .ok (.iload 4, 2) := by decide +kernel
theorem dX8_isAccessed_67 : decode cX8_isAccessed 67 = .ok (.ifCond .ne 35, 3) := by decide +kernel
theorem dX8_isAccessed_70 : decode cX8_isAccessed 70 = .ok (.iload 6, 2) := by decide +kernel
theorem dX8_isAccessed_72 : decode cX8_isAccessed 72 = .ok (.ifCond .eq 34, 3) := by decide +kernel
theorem dX8_isAccessed_75 : decode cX8_isAccessed 75 = .ok (.iload_n 3, 1) := by decide +kernel
theorem dX8_isAccessed_76 : decode cX8_isAccessed 76 = .ok (.ifCond .eq 26, 3) := by decide +kernel
theorem dX8_isAccessed_79 : decode cX8_isAccessed 79 = .ok (.aload_n 0, 1) := by decide +kernel
theorem dX8_isAccessed_80 : decode cX8_isAccessed 80 = .ok (.iload 5, 2) := by decide +kernel
theorem dX8_isAccessed_82 : decode cX8_isAccessed 82 = .ok (.iconst 2, 1) := by decide +kernel
theorem dX8_isAccessed_83 : decode cX8_isAccessed 83 = .ok (.invokevirtual 72, 3) := by decide +kernel
theorem dX8_isAccessed_86 : decode cX8_isAccessed 86 = .ok (.aload_n 0, 1) := by decide +kernel
theorem dX8_isAccessed_87 : decode cX8_isAccessed 87 = .ok (.iload 5, 2) := by decide +kernel
theorem dX8_isAccessed_89 : decode cX8_isAccessed 89 = .ok (.iconst 3, 1) := by decide +kernel
theorem dX8_isAccessed_90 : decode cX8_isAccessed 90 = .ok (.invokevirtual 72, 3) := by decide +kernel
theorem dX8_isAccessed_93 : decode cX8_isAccessed 93 = .ok (.iload_n 2, 1) := by decide +kernel
theorem dX8_isAccessed_94 : decode cX8_isAccessed 94 = .ok (.iconst 1, 1) := by decide +kernel
theorem dX8_isAccessed_95 : decode cX8_isAccessed 95 = .ok (.iadd, 1) := by decide +kernel
theorem dX8_isAccessed_96 : decode cX8_isAccessed 96 = .ok (.invokestatic 79, 3) := by decide +kernel
theorem dX8_isAccessed_99 : decode cX8_isAccessed 99 = .ok (.ifCond .eq 7, 3) := by decide +kernel
theorem dX8_isAccessed_102 : decode cX8_isAccessed 102 = .ok (.iconst 1, 1) := by decide +kernel
theorem dX8_isAccessed_103 : decode cX8_isAccessed 103 = .ok (.goto 4, 3) := by decide +kernel
theorem dX8_isAccessed_106 : decode cX8_isAccessed 106 = .ok (.iconst 0, 1) := by decide +kernel
theorem dX8_isAccessed_107 : decode cX8_isAccessed 107 = .ok (.istore 4, 2) := by decide +kernel
theorem dX8_isAccessed_109 : decode cX8_isAccessed 109 = .ok (.iinc 5 1, 3) := by decide +kernel
theorem dX8_isAccessed_112 : decode cX8_isAccessed 112 = .ok (.goto (-106), 3) := by decide +kernel
theorem dX8_isAccessed_115 : decode cX8_isAccessed 115 = .ok (.iload 4, 2) := by decide +kernel
theorem dX8_isAccessed_117 : decode cX8_isAccessed 117 = .ok (.ireturn, 1) := by decide +kernel
theorem dX8_isCopied_0 : decode cX8_isCopied 0 = .ok (.aload_n 0, 1) := by decide +kernel
theorem dX8_isCopied_1 : decode cX8_isCopied 1 = .ok (.iload_n 1, 1) := by decide +kernel
theorem dX8_isCopied_2 : decode cX8_isCopied 2 = .ok (.iconst 0, 1) := by decide +kernel
theorem dX8_isCopied_3 : decode cX8_isCopied 3 = .ok (.invokevirtual 72, 3) := by decide +kernel
theorem dX8_isCopied_6 : decode cX8_isCopied 6 = .ok (.iconst 3, 1) := by decide +kernel
theorem dX8_isCopied_7 : decode cX8_isCopied 7 = .ok (.if_icmp .ne 45, 3) := by decide +kernel
theorem dX8_isCopied_10 : decode cX8_isCopied 10 = .ok (.aload_n 0, 1) := by decide +kernel
theorem dX8_isCopied_11 : decode cX8_isCopied 11 = .ok (.iload_n 1, 1) := by decide +kernel
theorem dX8_isCopied_12 : decode cX8_isCopied 12 = .ok (.iconst 1, 1) := by decide +kernel
theorem dX8_isCopied_13 : decode cX8_isCopied 13 = .ok (.iconst 2, 1) := by decide +kernel
theorem dX8_isCopied_14 : decode cX8_isCopied 14 = .ok (.iload_n 2, 1) := by decide +kernel
theorem dX8_isCopied_15 : decode cX8_isCopied 15 = .ok (.imul, 1) := by decide +kernel
theorem dX8_isCopied_16 : decode cX8_isCopied 16 = .ok (.iadd, 1) := by decide +kernel
theorem dX8_isCopied_17 : decode cX8_isCopied 17 = .ok (.invokevirtual 72, 3) := by decide +kernel
theorem dX8_isCopied_20 : decode cX8_isCopied 20 = .ok (.iload_n 3, 1) := by decide +kernel
theorem dX8_isCopied_21 : decode cX8_isCopied 21 = .ok (.if_icmp .ne 31, 3) := by decide +kernel
theorem dX8_isCopied_24 : decode cX8_isCopied 24 = .ok (.aload_n 0, 1) := by decide +kernel
theorem dX8_isCopied_25 : decode cX8_isCopied 25 = .ok (.iload_n 1, 1) := by decide +kernel
theorem dX8_isCopied_26 : decode cX8_isCopied 26 = .ok (.iconst 2, 1) := by decide +kernel
theorem dX8_isCopied_27 : decode cX8_isCopied 27 = .ok (.iconst 2, 1) := by decide +kernel
theorem dX8_isCopied_28 : decode cX8_isCopied 28 = .ok (.iload_n 2, 1) := by decide +kernel
theorem dX8_isCopied_29 : decode cX8_isCopied 29 = .ok (.imul, 1) := by decide +kernel
theorem dX8_isCopied_30 : decode cX8_isCopied 30 = .ok (.iadd, 1) := by decide +kernel
theorem dX8_isCopied_31 : decode cX8_isCopied 31 = .ok (.invokevirtual 72, 3) := by decide +kernel
theorem dX8_isCopied_34 : decode cX8_isCopied 34 = .ok (.aload_n 0, 1) := by decide +kernel
theorem dX8_isCopied_35 : decode cX8_isCopied 35 = .ok (.iload_n 1, 1) := by decide +kernel
theorem dX8_isCopied_36 : decode cX8_isCopied 36 = .ok (.iconst 5, 1) := by decide +kernel
theorem dX8_isCopied_37 : decode cX8_isCopied 37 = .ok (.invokevirtual 72, 3) := by decide +kernel
theorem dX8_isCopied_40 : decode cX8_isCopied 40 = .ok (.iload 4, 2) := by decide +kernel
theorem dX8_isCopied_42 : decode cX8_isCopied 42 = .ok (.invokestatic 79, 3) := by decide +kernel
theorem dX8_isCopied_45 : decode cX8_isCopied 45 = .ok (.ifCond .eq 7, 3) := by decide +kernel
theorem dX8_isCopied_48 : decode cX8_isCopied 48 = .ok (.iconst 1, 1) := by decide +kernel
theorem dX8_isCopied_49 : decode cX8_isCopied 49 = .ok (.goto 4, 3) := by decide +kernel
theorem dX8_isCopied_52 : decode cX8_isCopied 52 = .ok (.iconst 0, 1) := by decide +kernel
theorem dX8_isCopied_53 : decode cX8_isCopied 53 = .ok (.ireturn, 1) := by decide +kernel
theorem dX8_isSoft_0 : decode cX8_isSoft 0 = .ok (.iconst 0, 1) := by decide +kernel
theorem dX8_isSoft_1 : decode cX8_isSoft 1 = .ok (.istore_n 3, 1) := by decide +kernel
theorem dX8_isSoft_2 : decode cX8_isSoft 2 = .ok (.iconst 0, 1) := by decide +kernel
theorem dX8_isSoft_3 : decode cX8_isSoft 3 = .ok (.istore 4, 2) := by decide +kernel
theorem dX8_isSoft_5 : decode cX8_isSoft 5 = .ok (.iload 4, 2) := by decide +kernel
theorem dX8_isSoft_7 : decode cX8_isSoft 7 = .ok (.aload_n 0, 1) := by decide +kernel
theorem dX8_isSoft_8 : decode cX8_isSoft 8 = .ok (.getfield 7, 3) := by decide +kernel
theorem dX8_isSoft_11 : decode cX8_isSoft 11 = .ok (.iconst 5, 1) := by decide +kernel
theorem dX8_isSoft_12 : decode cX8_isSoft 12 = .ok (.iaload, 1) := by decide +kernel
theorem dX8_isSoft_13 : decode cX8_isSoft 13 = .ok (.if_icmp .ge 43, 3) := by decide +kernel
theorem dX8_isSoft_16 : decode cX8_isSoft 16 = .ok (.iload_n 3, 1) := by decide +kernel
theorem dX8_isSoft_17 : decode cX8_isSoft 17 = .ok (.ifCond .ne 27, 3) := by decide +kernel
theorem dX8_isSoft_20 : decode cX8_isSoft 20 = .ok (.aload_n 0, 1) := by decide +kernel
theorem dX8_isSoft_21 : decode cX8_isSoft 21 = .ok (.iload 4, 2) := by decide +kernel
theorem dX8_isSoft_23 : decode cX8_isSoft 23 = .ok (.iconst 0, 1) := by decide +kernel
theorem dX8_isSoft_24 : decode cX8_isSoft 24 = .ok (.iload_n 1, 1) := by decide +kernel
theorem dX8_isSoft_25 : decode cX8_isSoft 25 = .ok (.iload_n 2, 1) := by decide +kernel
theorem dX8_isSoft_26 : decode cX8_isSoft 26 = .ok (.invokevirtual 82, 3) := by decide +kernel
theorem dX8_isSoft_29 : decode cX8_isSoft 29 = .ok (.ifCond .ne 15, 3) := by decide +kernel
theorem dX8_isSoft_32 : decode cX8_isSoft 32 = .ok (.aload_n 0, 1) := by decide +kernel
theorem dX8_isSoft_33 : decode cX8_isSoft 33 = .ok (.iload 4, 2) := by decide +kernel
theorem dX8_isSoft_35 : decode cX8_isSoft 35 = .ok (.iconst 1, 1) := by decide +kernel
theorem dX8_isSoft_36 : decode cX8_isSoft 36 = .ok (.iload_n 1, 1) := by decide +kernel
theorem dX8_isSoft_37 : decode cX8_isSoft 37 = .ok (.iload_n 2, 1) := by decide +kernel
theorem dX8_isSoft_38 : decode cX8_isSoft 38 = .ok (.invokevirtual 82, 3) := by decide +kernel
theorem dX8_isSoft_41 : decode cX8_isSoft 41 = .ok (.ifCond .eq 7, 3) := by decide +kernel
theorem dX8_isSoft_44 : decode cX8_isSoft 44 = .ok (.iconst 1, 1) := by decide +kernel
theorem dX8_isSoft_45 : decode cX8_isSoft 45 = .ok (.goto 4, 3) := by decide +kernel
theorem dX8_isSoft_48 : decode cX8_isSoft 48 = .ok (.iconst 0, 1) := by decide +kernel
theorem dX8_isSoft_49 : decode cX8_isSoft 49 = .ok (.istore_n 3, 1) := by decide +kernel
theorem dX8_isSoft_50 : decode cX8_isSoft 50 = .ok (.iinc 4 1, 3) := by decide +kernel
theorem dX8_isSoft_53 : decode cX8_isSoft 53 = .ok (.goto (-48), 3) := by decide +kernel
theorem dX8_isSoft_56 : decode cX8_isSoft 56 = .ok (.iload_n 3, 1) := by decide +kernel
theorem dX8_isSoft_57 : decode cX8_isSoft 57 = .ok (.ifCond .eq 17, 3) := by decide +kernel
theorem dX8_isSoft_60 : decode cX8_isSoft 60 = .ok (.aload_n 0, 1) := by decide +kernel
theorem dX8_isSoft_61 : decode cX8_isSoft 61 = .ok (.iload_n 1, 1) := by decide +kernel
theorem dX8_isSoft_62 : decode cX8_isSoft 62 = .ok (.iload_n 2, 1) := by decide +kernel
theorem dX8_isSoft_63 : decode cX8_isSoft 63 = .ok (.iconst 0, 1) := by decide +kernel
theorem dX8_isSoft_64 : decode cX8_isSoft 64 = .ok (.invokevirtual 86, 3) := by decide +kernel
theorem dX8_isSoft_67 : decode cX8_isSoft 67 = .ok (.ifCond .ne 7, 3) := by decide +kernel
theorem dX8_isSoft_70 : decode cX8_isSoft 70 = .ok (.iconst 1, 1) := by decide +kernel
theorem dX8_isSoft_71 : decode cX8_isSoft 71 = .ok (.goto 4, 3) := by decide +kernel
theorem dX8_isSoft_74 : decode cX8_isSoft 74 = .ok (.iconst 0, 1) := by decide +kernel
theorem dX8_isSoft_75 : decode cX8_isSoft 75 = .ok (.ireturn, 1) := by decide +kernel
theorem dX8_areCopiedAlike_0 : decode cX8_areCopiedAlike 0 = .ok (.iconst 1, 1) := by decide +kernel
theorem dX8_areCopiedAlike_1 : decode cX8_areCopiedAlike 1 = .ok (.istore_n 3, 1) := by decide +kernel
theorem dX8_areCopiedAlike_2 : decode cX8_areCopiedAlike 2 = .ok (.iconst 0, 1) := by decide +kernel
theorem dX8_areCopiedAlike_3 : decode cX8_areCopiedAlike 3 = .ok (.istore 4, 2) := by decide +kernel
theorem dX8_areCopiedAlike_5 : decode cX8_areCopiedAlike 5 = .ok (.iload 4, 2) := by decide +kernel
theorem dX8_areCopiedAlike_7 : decode cX8_areCopiedAlike 7 = .ok (.aload_n 0, 1) := by decide +kernel
theorem dX8_areCopiedAlike_8 : decode cX8_areCopiedAlike 8 = .ok (.getfield 7, 3) := by decide +kernel
theorem dX8_areCopiedAlike_11 : decode cX8_areCopiedAlike 11 = .ok (.iconst 5, 1) := by decide +kernel
theorem dX8_areCopiedAlike_12 : decode cX8_areCopiedAlike 12 = .ok (.iaload, 1) := by decide +kernel
theorem dX8_areCopiedAlike_13 : decode cX8_areCopiedAlike 13 = .ok (.if_icmp .ge 59, 3) := by decide +kernel
theorem dX8_areCopiedAlike_16 : decode cX8_areCopiedAlike 16 = .ok (.iconst 0, 1) := by decide +kernel
theorem dX8_areCopiedAlike_17 : decode cX8_areCopiedAlike 17 = .ok (.istore 5, 2) := by decide +kernel
theorem dX8_areCopiedAlike_19 : decode cX8_areCopiedAlike 19 = .ok (.iload 5, 2) := by decide +kernel
theorem dX8_areCopiedAlike_21 : decode cX8_areCopiedAlike 21 = .ok (.iconst 2, 1) := by decide +kernel
theorem dX8_areCopiedAlike_22 : decode cX8_areCopiedAlike 22 = .ok (.if_icmp .ge 44, 3) := by decide +kernel
theorem dX8_areCopiedAlike_25 : decode cX8_areCopiedAlike 25 = .ok (.iload_n 3, 1) := by decide +kernel
theorem dX8_areCopiedAlike_26 : decode cX8_areCopiedAlike 26 = .ok (.ifCond .eq 32, 3) := by decide +kernel
theorem dX8_areCopiedAlike_29 : decode cX8_areCopiedAlike 29 = .ok (.aload_n 0, 1) := by decide +kernel
theorem dX8_areCopiedAlike_30 : decode cX8_areCopiedAlike 30 = .ok (.iload 4, 2) := by decide +kernel
theorem dX8_areCopiedAlike_32 : decode cX8_areCopiedAlike 32 = .ok (.iload 5, 2) := by decide +kernel
theorem dX8_areCopiedAlike_34 : decode cX8_areCopiedAlike 34 = .ok (.iload_n 1, 1) := by decide +kernel
theorem dX8_areCopiedAlike_35 : decode cX8_areCopiedAlike 35 = .ok (.iload_n 2, 1) := by decide +kernel
theorem dX8_areCopiedAlike_36 : decode cX8_areCopiedAlike 36 = .ok (.invokevirtual 82, 3) := by decide +kernel
theorem dX8_areCopiedAlike_39 : decode cX8_areCopiedAlike 39 = .ok (.aload_n 0, 1) := by decide +kernel
theorem dX8_areCopiedAlike_40 : decode cX8_areCopiedAlike 40 = .ok (.iload 4, 2) := by decide +kernel
theorem dX8_areCopiedAlike_42 : decode cX8_areCopiedAlike 42 = .ok (.iload 5, 2) := by decide +kernel
theorem dX8_areCopiedAlike_44 : decode cX8_areCopiedAlike 44 = .ok (.iload_n 1, 1) := by decide +kernel
theorem dX8_areCopiedAlike_45 : decode cX8_areCopiedAlike 45 = .ok (.iload_n 2, 1) := by decide +kernel
theorem dX8_areCopiedAlike_46 : decode cX8_areCopiedAlike 46 = .ok (.iconst 1, 1) := by decide +kernel
theorem dX8_areCopiedAlike_47 : decode cX8_areCopiedAlike 47 = .ok (.iadd, 1) := by decide +kernel
theorem dX8_areCopiedAlike_48 : decode cX8_areCopiedAlike 48 = .ok (.invokevirtual 82, 3) := by decide +kernel
theorem dX8_areCopiedAlike_51 : decode cX8_areCopiedAlike 51 = .ok (.if_icmp .ne 7, 3) := by decide +kernel
theorem dX8_areCopiedAlike_54 : decode cX8_areCopiedAlike 54 = .ok (.iconst 1, 1) := by decide +kernel
theorem dX8_areCopiedAlike_55 : decode cX8_areCopiedAlike 55 = .ok (.goto 4, 3) := by decide +kernel
theorem dX8_areCopiedAlike_58 : decode cX8_areCopiedAlike 58 = .ok (.iconst 0, 1) := by decide +kernel
theorem dX8_areCopiedAlike_59 : decode cX8_areCopiedAlike 59 = .ok (.istore_n 3, 1) := by decide +kernel
theorem dX8_areCopiedAlike_60 : decode cX8_areCopiedAlike 60 = .ok (.iinc 5 1, 3) := by decide +kernel
theorem dX8_areCopiedAlike_63 : decode cX8_areCopiedAlike 63 = .ok (.goto (-44), 3) := by decide +kernel
theorem dX8_areCopiedAlike_66 : decode cX8_areCopiedAlike 66 = .ok (.iinc 4 1, 3) := by decide +kernel
theorem dX8_areCopiedAlike_69 : decode cX8_areCopiedAlike 69 = .ok (.goto (-64), 3) := by decide +kernel
theorem dX8_areCopiedAlike_72 : decode cX8_areCopiedAlike 72 = .ok (.iload_n 3, 1) := by decide +kernel
theorem dX8_areCopiedAlike_73 : decode cX8_areCopiedAlike 73 = .ok (.ireturn, 1) := by decide +kernel
theorem dX8_goesOn_0 : decode cX8_goesOn 0 = .ok (.aload_n 0, 1) := by decide +kernel
theorem dX8_goesOn_1 : decode cX8_goesOn 1 = .ok (.iload_n 1, 1) := by decide +kernel
theorem dX8_goesOn_2 : decode cX8_goesOn 2 = .ok (.invokevirtual 90, 3) := by decide +kernel
theorem dX8_goesOn_5 : decode cX8_goesOn 5 = .ok (.ifCond .eq 13, 3) := by decide +kernel
theorem dX8_goesOn_8 : decode cX8_goesOn 8 = .ok (.iload_n 2, 1) := by decide +kernel
theorem dX8_goesOn_9 : decode cX8_goesOn 9 = .ok (.ifCond .le 7, 3) := by decide +kernel
theorem dX8_goesOn_12 : decode cX8_goesOn 12 = .ok (.iconst 1, 1) := by decide +kernel
theorem dX8_goesOn_13 : decode cX8_goesOn 13 = .ok (.goto 4, 3) := by decide +kernel
theorem dX8_goesOn_16 : decode cX8_goesOn 16 = .ok (.iconst 0, 1) := by decide +kernel
theorem dX8_goesOn_17 : decode cX8_goesOn 17 = .ok (.ireturn, 1) := by decide +kernel
theorem dX8_goesOn_18 : decode cX8_goesOn 18 = .ok (.iload_n 2, 1) := by decide +kernel
theorem dX8_goesOn_19 : decode cX8_goesOn 19 = .ok (.ifCond .ne 5, 3) := by decide +kernel
theorem dX8_goesOn_22 : decode cX8_goesOn 22 = .ok (.iconst 0, 1) := by decide +kernel
theorem dX8_goesOn_23 : decode cX8_goesOn 23 = .ok (.ireturn, 1) := by decide +kernel
theorem dX8_goesOn_24 : decode cX8_goesOn 24 = .ok (.aload_n 0, 1) := by decide +kernel
theorem dX8_goesOn_25 : decode cX8_goesOn 25 = .ok (.iload_n 1, 1) := by decide +kernel
theorem dX8_goesOn_26 : decode cX8_goesOn 26 = .ok (.iload_n 2, 1) := by decide +kernel
theorem dX8_goesOn_27 : decode cX8_goesOn 27 = .ok (.iconst 1, 1) := by decide +kernel
theorem dX8_goesOn_28 : decode cX8_goesOn 28 = .ok (.isub, 1) := by decide +kernel
theorem dX8_goesOn_29 : decode cX8_goesOn 29 = .ok (.iconst 1, 1) := by decide +kernel
theorem dX8_goesOn_30 : decode cX8_goesOn 30 = .ok (.invokevirtual 86, 3) := by decide +kernel
theorem dX8_goesOn_33 : decode cX8_goesOn 33 = .ok (.ifCond .ne 34, 3) := by decide +kernel
theorem dX8_goesOn_36 : decode cX8_goesOn 36 = .ok (.aload_n 0, 1) := by decide +kernel
theorem dX8_goesOn_37 : decode cX8_goesOn 37 = .ok (.iload_n 1, 1) := by decide +kernel
theorem dX8_goesOn_38 : decode cX8_goesOn 38 = .ok (.iload_n 2, 1) := by decide +kernel
theorem dX8_goesOn_39 : decode cX8_goesOn 39 = .ok (.iconst 1, 1) := by decide +kernel
theorem dX8_goesOn_40 : decode cX8_goesOn 40 = .ok (.isub, 1) := by decide +kernel
theorem dX8_goesOn_41 : decode cX8_goesOn 41 = .ok (.invokevirtual 93, 3) := by decide +kernel
theorem dX8_goesOn_44 : decode cX8_goesOn 44 = .ok (.ifCond .eq 27, 3) := by decide +kernel
theorem dX8_goesOn_47 : decode cX8_goesOn 47 = .ok (.aload_n 0, 1) := by decide +kernel
theorem dX8_goesOn_48 : decode cX8_goesOn 48 = .ok (.iload_n 1, 1) := by decide +kernel
theorem dX8_goesOn_49 : decode cX8_goesOn 49 = .ok (.iload_n 2, 1) := by decide +kernel
theorem dX8_goesOn_50 : decode cX8_goesOn 50 = .ok (.invokevirtual 93, 3) := by decide +kernel
theorem dX8_goesOn_53 : decode cX8_goesOn 53 = .ok (.ifCond .eq 18, 3) := by decide +kernel
theorem dX8_goesOn_56 : decode cX8_goesOn 56 = .ok (.aload_n 0, 1) := by decide +kernel
theorem dX8_goesOn_57 : decode cX8_goesOn 57 = .ok (.iload_n 1, 1) := by decide +kernel
theorem dX8_goesOn_58 : decode cX8_goesOn 58 = .ok (.iload_n 2, 1) := by decide +kernel
theorem dX8_goesOn_59 : decode cX8_goesOn 59 = .ok (.iconst 1, 1) := by decide +kernel
theorem dX8_goesOn_60 : decode cX8_goesOn 60 = .ok (.isub, 1) := by decide +kernel
theorem dX8_goesOn_61 : decode cX8_goesOn 61 = .ok (.invokevirtual 97, 3) := by decide +kernel
theorem dX8_goesOn_64 : decode cX8_goesOn 64 = .ok (.ifCond .eq 7, 3) := by decide +kernel
theorem dX8_goesOn_67 : decode cX8_goesOn 67 = .ok (.iconst 1, 1) := by decide +kernel
theorem dX8_goesOn_68 : decode cX8_goesOn 68 = .ok (.goto 4, 3) := by decide +kernel
theorem dX8_goesOn_71 : decode cX8_goesOn 71 = .ok (.iconst 0, 1) := by decide +kernel
theorem dX8_goesOn_72 : decode cX8_goesOn 72 = .ok (.ireturn, 1) := by decide +kernel
theorem dX8_isParted_0 : decode cX8_isParted 0 = .ok (.aload_n 0, 1) := by decide +kernel
theorem dX8_isParted_1 : decode cX8_isParted 1 = .ok (.iload_n 1, 1) := by decide +kernel
theorem dX8_isParted_2 : decode cX8_isParted 2 = .ok (.invokevirtual 90, 3) := by decide +kernel
theorem dX8_isParted_5 : decode cX8_isParted 5 = .ok (.ifCond .ne 22, 3) := by decide +kernel
theorem dX8_isParted_8 : decode cX8_isParted 8 = .ok (.aload_n 0, 1) := by decide +kernel
theorem dX8_isParted_9 : decode cX8_isParted 9 = .ok (.iload_n 1, 1) := by decide +kernel
theorem dX8_isParted_10 : decode cX8_isParted 10 = .ok (.iload_n 2, 1) := by decide +kernel
theorem dX8_isParted_11 : decode cX8_isParted 11 = .ok (.iconst 0, 1) := by decide +kernel
theorem dX8_isParted_12 : decode cX8_isParted 12 = .ok (.invokevirtual 86, 3) := by decide +kernel
theorem dX8_isParted_15 : decode cX8_isParted 15 = .ok (.ifCond .ne 12, 3) := by decide +kernel
theorem dX8_isParted_18 : decode cX8_isParted 18 = .ok (.aload_n 0, 1) := by decide +kernel
theorem dX8_isParted_19 : decode cX8_isParted 19 = .ok (.iload_n 1, 1) := by decide +kernel
theorem dX8_isParted_20 : decode cX8_isParted 20 = .ok (.iload_n 2, 1) := by decide +kernel
theorem dX8_isParted_21 : decode cX8_isParted 21 = .ok (.invokevirtual 93, 3) := by decide +kernel
theorem dX8_isParted_24 : decode cX8_isParted 24 = .ok (.ifCond .eq 7, 3) := by decide +kernel
theorem dX8_isParted_27 : decode cX8_isParted 27 = .ok (.iconst 1, 1) := by decide +kernel
theorem dX8_isParted_28 : decode cX8_isParted 28 = .ok (.goto 4, 3) := by decide +kernel
theorem dX8_isParted_31 : decode cX8_isParted 31 = .ok (.iconst 0, 1) := by decide +kernel
theorem dX8_isParted_32 : decode cX8_isParted 32 = .ok (.ireturn, 1) := by decide +kernel
theorem dX8_findParts_0 : decode cX8_findParts 0 = .ok (.iconst 0, 1) := by decide +kernel
theorem dX8_findParts_1 : decode cX8_findParts 1 = .ok (.istore_n 2, 1) := by decide +kernel
theorem dX8_findParts_2 : decode cX8_findParts 2 = .ok (.iconst 0, 1) := by decide +kernel
theorem dX8_findParts_3 : decode cX8_findParts 3 = .ok (.istore_n 3, 1) := by decide +kernel
theorem dX8_findParts_4 : decode cX8_findParts 4 = .ok (.iload_n 3, 1) := by decide +kernel
theorem dX8_findParts_5 : decode cX8_findParts 5 = .ok (.aload_n 0, 1) := by decide +kernel
theorem dX8_findParts_6 : decode cX8_findParts 6 = .ok (.getfield 7, 3) := by decide +kernel
theorem dX8_findParts_9 : decode cX8_findParts 9 = .ok (.iconst 1, 1) := by decide +kernel
theorem dX8_findParts_10 : decode cX8_findParts 10 = .ok (.iload_n 1, 1) := by decide +kernel
theorem dX8_findParts_11 : decode cX8_findParts 11 = .ok (.iadd, 1) := by decide +kernel
theorem dX8_findParts_12 : decode cX8_findParts 12 = .ok (.iaload, 1) := by decide +kernel
theorem dX8_findParts_13 : decode cX8_findParts 13 = .ok (.if_icmp .ge 98, 3) := by decide +kernel
theorem dX8_findParts_16 : decode cX8_findParts 16 = .ok (.bipush 16, 2) := by decide +kernel
theorem dX8_findParts_18 : decode cX8_findParts 18 = .ok (.iload_n 1, 1) := by decide +kernel
theorem dX8_findParts_19 : decode cX8_findParts 19 = .ok (.imul, 1) := by decide +kernel
theorem dX8_findParts_20 : decode cX8_findParts 20 = .ok (.iload_n 3, 1) := by decide +kernel
theorem dX8_findParts_21 : decode cX8_findParts 21 = .ok (.iadd, 1) := by decide +kernel
theorem dX8_findParts_22 : decode cX8_findParts 22 = .ok (.istore 4, 2) := by decide +kernel
theorem dX8_findParts_24 : decode cX8_findParts 24 = .ok (.aload_n 0, 1) := by decide +kernel
theorem dX8_findParts_25 : decode cX8_findParts 25 = .ok (.getfield 16, 3) := by decide +kernel
theorem dX8_findParts_28 : decode cX8_findParts 28 = .ok (.iload 4, 2) := by decide +kernel
theorem dX8_findParts_30 : decode cX8_findParts 30 = .ok (.bipush (-9), 2) := by decide +kernel
theorem dX8_findParts_32 : decode cX8_findParts 32 = .ok (.iastore, 1) := by decide +kernel
theorem dX8_findParts_33 : decode cX8_findParts 33 = .ok (.aload_n 0, 1) := by decide +kernel
theorem dX8_findParts_34 : decode cX8_findParts 34 = .ok (.iload_n 1, 1) := by decide +kernel
theorem dX8_findParts_35 : decode cX8_findParts 35 = .ok (.iload_n 3, 1) := by decide +kernel
theorem dX8_findParts_36 : decode cX8_findParts 36 = .ok (.invokevirtual 100, 3) := by decide +kernel
theorem dX8_findParts_39 : decode cX8_findParts 39 = .ok (.ifCond .eq 66, 3) := by decide +kernel
theorem dX8_findParts_42 : decode cX8_findParts 42 = .ok (.aload_n 0, 1) := by decide +kernel
theorem dX8_findParts_43 : decode cX8_findParts 43 = .ok (.iload_n 1, 1) := by decide +kernel
theorem dX8_findParts_44 : decode cX8_findParts 44 = .ok (.iload_n 3, 1) := by decide +kernel
theorem dX8_findParts_45 : decode cX8_findParts 45 = .ok (.invokevirtual 103, 3) := by decide +kernel
theorem dX8_findParts_48 : decode cX8_findParts 48 = .ok (.ifCond .ne 30, 3) := by decide +kernel
theorem dX8_findParts_51 : decode cX8_findParts 51 = .ok (.aload_n 0, 1) := by decide +kernel
theorem dX8_findParts_52 : decode cX8_findParts 52 = .ok (.getfield 19, 3) := by decide +kernel
theorem dX8_findParts_55 : decode cX8_findParts 55 = .ok (.bipush 16, 2) := by decide +kernel
theorem dX8_findParts_57 : decode cX8_findParts 57 = .ok (.iload_n 1, 1) := by decide +kernel
theorem dX8_findParts_58 : decode cX8_findParts 58 = .ok (.imul, 1) := by decide +kernel
theorem dX8_findParts_59 : decode cX8_findParts 59 = .ok (.iload_n 2, 1) := by decide +kernel
theorem dX8_findParts_60 : decode cX8_findParts 60 = .ok (.iadd, 1) := by decide +kernel
theorem dX8_findParts_61 : decode cX8_findParts 61 = .ok (.iload_n 3, 1) := by decide +kernel
theorem dX8_findParts_62 : decode cX8_findParts 62 = .ok (.iastore, 1) := by decide +kernel
theorem dX8_findParts_63 : decode cX8_findParts 63 = .ok (.aload_n 0, 1) := by decide +kernel
theorem dX8_findParts_64 : decode cX8_findParts 64 = .ok (.getfield 22, 3) := by decide +kernel
theorem dX8_findParts_67 : decode cX8_findParts 67 = .ok (.bipush 16, 2) := by decide +kernel
theorem dX8_findParts_69 : decode cX8_findParts 69 = .ok (.iload_n 1, 1) := by decide +kernel
theorem dX8_findParts_70 : decode cX8_findParts 70 = .ok (.imul, 1) := by decide +kernel
theorem dX8_findParts_71 : decode cX8_findParts 71 = .ok (.iload_n 2, 1) := by decide +kernel
theorem dX8_findParts_72 : decode cX8_findParts 72 = .ok (.iadd, 1) := by decide +kernel
theorem dX8_findParts_73 : decode cX8_findParts 73 = .ok (.iconst 0, 1) := by decide +kernel
theorem dX8_findParts_74 : decode cX8_findParts 74 = .ok (.iastore, 1) := by decide +kernel
theorem dX8_findParts_75 : decode cX8_findParts 75 = .ok (.iinc 2 1, 3) := by decide +kernel
theorem dX8_findParts_78 : decode cX8_findParts 78 = .ok (.aload_n 0, 1) := by decide +kernel
theorem dX8_findParts_79 : decode cX8_findParts 79 = .ok (.getfield 16, 3) := by decide +kernel
theorem dX8_findParts_82 : decode cX8_findParts 82 = .ok (.iload 4, 2) := by decide +kernel
theorem dX8_findParts_84 : decode cX8_findParts 84 = .ok (.iload_n 2, 1) := by decide +kernel
theorem dX8_findParts_85 : decode cX8_findParts 85 = .ok (.iconst 1, 1) := by decide +kernel
theorem dX8_findParts_86 : decode cX8_findParts 86 = .ok (.isub, 1) := by decide +kernel
theorem dX8_findParts_87 : decode cX8_findParts 87 = .ok (.iastore, 1) := by decide +kernel
theorem dX8_findParts_88 : decode cX8_findParts 88 = .ok (.aload_n 0, 1) := by decide +kernel
theorem dX8_findParts_89 : decode cX8_findParts 89 = .ok (.getfield 22, 3) := by decide +kernel
theorem dX8_findParts_92 : decode cX8_findParts 92 = .ok (.bipush 16, 2) := by decide +kernel
theorem dX8_findParts_94 : decode cX8_findParts 94 = .ok (.iload_n 1, 1) := by decide +kernel
theorem dX8_findParts_95 : decode cX8_findParts 95 = .ok (.imul, 1) := by decide +kernel
theorem dX8_findParts_96 : decode cX8_findParts 96 = .ok (.iload_n 2, 1) := by decide +kernel
theorem dX8_findParts_97 : decode cX8_findParts 97 = .ok (.iadd, 1) := by decide +kernel
theorem dX8_findParts_98 : decode cX8_findParts 98 = .ok (.iconst 1, 1) := by decide +kernel
theorem dX8_findParts_99 : decode cX8_findParts 99 = .ok (.isub, 1) := by decide +kernel
theorem dX8_findParts_100 : decode cX8_findParts 100 = .ok (.dup2, 1) := by decide +kernel
theorem dX8_findParts_101 : decode cX8_findParts 101 = .ok (.iaload, 1) := by decide +kernel
theorem dX8_findParts_102 : decode cX8_findParts 102 = .ok (.iconst 1, 1) := by decide +kernel
theorem dX8_findParts_103 : decode cX8_findParts 103 = .ok (.iadd, 1) := by decide +kernel
theorem dX8_findParts_104 : decode cX8_findParts 104 = .ok (.iastore, 1) := by decide +kernel
theorem dX8_findParts_105 : decode cX8_findParts 105 = .ok (.iinc 3 1, 3) := by decide +kernel
theorem dX8_findParts_108 : decode cX8_findParts 108 = .ok (.goto (-104), 3) := by decide +kernel
theorem dX8_findParts_111 : decode cX8_findParts 111 = .ok (.aload_n 0, 1) := by decide +kernel
theorem dX8_findParts_112 : decode cX8_findParts 112 = .ok (.getfield 25, 3) := by decide +kernel
theorem dX8_findParts_115 : decode cX8_findParts 115 = .ok (.iload_n 1, 1) := by decide +kernel
theorem dX8_findParts_116 : decode cX8_findParts 116 = .ok (.iload_n 2, 1) := by decide +kernel
theorem dX8_findParts_117 : decode cX8_findParts 117 = .ok (.iastore, 1) := by decide +kernel
theorem dX8_findParts_118 : decode cX8_findParts 118 = .ok (.return_, 1) := by decide +kernel
theorem dX8_findAllParts_0 : decode cX8_findAllParts 0 = .ok (.iconst 0, 1) := by decide +kernel
theorem dX8_findAllParts_1 : decode cX8_findAllParts 1 = .ok (.istore_n 1, 1) := by decide +kernel
theorem dX8_findAllParts_2 : decode cX8_findAllParts 2 = .ok (.iload_n 1, 1) := by decide +kernel
theorem dX8_findAllParts_3 : decode cX8_findAllParts 3 = .ok (.aload_n 0, 1) := by decide +kernel
theorem dX8_findAllParts_4 : decode cX8_findAllParts 4 = .ok (.getfield 7, 3) := by decide +kernel
theorem dX8_findAllParts_7 : decode cX8_findAllParts 7 = .ok (.iconst 0, 1) := by decide +kernel
theorem dX8_findAllParts_8 : decode cX8_findAllParts 8 = .ok (.iaload, 1) := by decide +kernel
theorem dX8_findAllParts_9 : decode cX8_findAllParts 9 = .ok (.if_icmp .ge 14, 3) := by decide +kernel
theorem dX8_findAllParts_12 : decode cX8_findAllParts 12 = .ok (.aload_n 0, 1) := by decide +kernel
theorem dX8_findAllParts_13 : decode cX8_findAllParts 13 = .ok (.iload_n 1, 1) := by decide +kernel
theorem dX8_findAllParts_14 : decode cX8_findAllParts 14 = .ok (.invokevirtual 106, 3) := by decide +kernel
theorem dX8_findAllParts_17 : decode cX8_findAllParts 17 = .ok (.iinc 1 1, 3) := by decide +kernel
theorem dX8_findAllParts_20 : decode cX8_findAllParts 20 = .ok (.goto (-18), 3) := by decide +kernel
theorem dX8_findAllParts_23 : decode cX8_findAllParts 23 = .ok (.return_, 1) := by decide +kernel
theorem dX8_placeOf_0 : decode cX8_placeOf 0 = .ok (.bipush 16, 2) := by decide +kernel
theorem dX8_placeOf_2 : decode cX8_placeOf 2 = .ok (.iload_n 1, 1) := by decide +kernel
theorem dX8_placeOf_3 : decode cX8_placeOf 3 = .ok (.imul, 1) := by decide +kernel
theorem dX8_placeOf_4 : decode cX8_placeOf 4 = .ok (.aload_n 0, 1) := by decide +kernel
theorem dX8_placeOf_5 : decode cX8_placeOf 5 = .ok (.getfield 16, 3) := by decide +kernel
theorem dX8_placeOf_8 : decode cX8_placeOf 8 = .ok (.bipush 16, 2) := by decide +kernel
theorem dX8_placeOf_10 : decode cX8_placeOf 10 = .ok (.iload_n 1, 1) := by decide +kernel
theorem dX8_placeOf_11 : decode cX8_placeOf 11 = .ok (.imul, 1) := by decide +kernel
theorem dX8_placeOf_12 : decode cX8_placeOf 12 = .ok (.iload_n 2, 1) := by decide +kernel
theorem dX8_placeOf_13 : decode cX8_placeOf 13 = .ok (.iadd, 1) := by decide +kernel
theorem dX8_placeOf_14 : decode cX8_placeOf 14 = .ok (.iaload, 1) := by decide +kernel
theorem dX8_placeOf_15 : decode cX8_placeOf 15 = .ok (.iadd, 1) := by decide +kernel
theorem dX8_placeOf_16 : decode cX8_placeOf 16 = .ok (.ireturn, 1) := by decide +kernel
theorem dX8_beginsAt_0 : decode cX8_beginsAt 0 = .ok (.aload_n 0, 1) := by decide +kernel
theorem dX8_beginsAt_1 : decode cX8_beginsAt 1 = .ok (.getfield 19, 3) := by decide +kernel
theorem dX8_beginsAt_4 : decode cX8_beginsAt 4 = .ok (.aload_n 0, 1) := by decide +kernel
theorem dX8_beginsAt_5 : decode cX8_beginsAt 5 = .ok (.iload_n 1, 1) := by decide +kernel
theorem dX8_beginsAt_6 : decode cX8_beginsAt 6 = .ok (.iload_n 2, 1) := by decide +kernel
theorem dX8_beginsAt_7 : decode cX8_beginsAt 7 = .ok (.invokevirtual 110, 3) := by decide +kernel
theorem dX8_beginsAt_10 : decode cX8_beginsAt 10 = .ok (.iaload, 1) := by decide +kernel
theorem dX8_beginsAt_11 : decode cX8_beginsAt 11 = .ok (.iload_n 2, 1) := by decide +kernel
theorem dX8_beginsAt_12 : decode cX8_beginsAt 12 = .ok (.if_icmp .ne 7, 3) := by decide +kernel
theorem dX8_beginsAt_15 : decode cX8_beginsAt 15 = .ok (.iconst 1, 1) := by decide +kernel
theorem dX8_beginsAt_16 : decode cX8_beginsAt 16 = .ok (.goto 4, 3) := by decide +kernel
theorem dX8_beginsAt_19 : decode cX8_beginsAt 19 = .ok (.iconst 0, 1) := by decide +kernel
theorem dX8_beginsAt_20 : decode cX8_beginsAt 20 = .ok (.ireturn, 1) := by decide +kernel
theorem dX8_pieceAt_0 : decode cX8_pieceAt 0 = .ok (.iconst 1, 1) := by decide +kernel
theorem dX8_pieceAt_1 : decode cX8_pieceAt 1 = .ok (.istore_n 3, 1) := by decide +kernel
theorem dX8_pieceAt_2 : decode cX8_pieceAt 2 = .ok (.iload_n 2, 1) := by decide +kernel
theorem dX8_pieceAt_3 : decode cX8_pieceAt 3 = .ok (.iload_n 3, 1) := by decide +kernel
theorem dX8_pieceAt_4 : decode cX8_pieceAt 4 = .ok (.iadd, 1) := by decide +kernel
theorem dX8_pieceAt_5 : decode cX8_pieceAt 5 = .ok (.aload_n 0, 1) := by decide +kernel
theorem dX8_pieceAt_6 : decode cX8_pieceAt 6 = .ok (.iload_n 1, 1) := by decide +kernel
theorem dX8_pieceAt_7 : decode cX8_pieceAt 7 = .ok (.iconst 5, 1) := by decide +kernel
theorem dX8_pieceAt_8 : decode cX8_pieceAt 8 = .ok (.invokevirtual 72, 3) := by decide +kernel
theorem dX8_pieceAt_11 : decode cX8_pieceAt 11 = .ok (.if_icmp .ge 55, 3) := by decide +kernel
theorem dX8_pieceAt_14 : decode cX8_pieceAt 14 = .ok (.aload_n 0, 1) := by decide +kernel
theorem dX8_pieceAt_15 : decode cX8_pieceAt 15 = .ok (.aload_n 0, 1) := by decide +kernel
theorem dX8_pieceAt_16 : decode cX8_pieceAt 16 = .ok (.iload_n 1, 1) := by decide +kernel
theorem dX8_pieceAt_17 : decode cX8_pieceAt 17 = .ok (.iconst 1, 1) := by decide +kernel
theorem dX8_pieceAt_18 : decode cX8_pieceAt 18 = .ok (.invokevirtual 72, 3) := by decide +kernel
theorem dX8_pieceAt_21 : decode cX8_pieceAt 21 = .ok (.aload_n 0, 1) := by decide +kernel
theorem dX8_pieceAt_22 : decode cX8_pieceAt 22 = .ok (.iload_n 1, 1) := by decide +kernel
theorem dX8_pieceAt_23 : decode cX8_pieceAt 23 = .ok (.iconst 2, 1) := by decide +kernel
theorem dX8_pieceAt_24 : decode cX8_pieceAt 24 = .ok (.invokevirtual 72, 3) := by decide +kernel
theorem dX8_pieceAt_27 : decode cX8_pieceAt 27 = .ok (.iload_n 2, 1) := by decide +kernel
theorem dX8_pieceAt_28 : decode cX8_pieceAt 28 = .ok (.iadd, 1) := by decide +kernel
theorem dX8_pieceAt_29 : decode cX8_pieceAt 29 = .ok (.iload_n 3, 1) := by decide +kernel
theorem dX8_pieceAt_30 : decode cX8_pieceAt 30 = .ok (.iadd, 1) := by decide +kernel
theorem dX8_pieceAt_31 : decode cX8_pieceAt 31 = .ok (.invokevirtual 113, 3) := by decide +kernel
theorem dX8_pieceAt_34 : decode cX8_pieceAt 34 = .ok (.ifCond .ne 32, 3) := by decide +kernel
theorem dX8_pieceAt_37 : decode cX8_pieceAt 37 = .ok (.aload_n 0, 1) := by decide +kernel
theorem dX8_pieceAt_38 : decode cX8_pieceAt 38 = .ok (.aload_n 0, 1) := by decide +kernel
theorem dX8_pieceAt_39 : decode cX8_pieceAt 39 = .ok (.iload_n 1, 1) := by decide +kernel
theorem dX8_pieceAt_40 : decode cX8_pieceAt 40 = .ok (.iconst 3, 1) := by decide +kernel
theorem dX8_pieceAt_41 : decode cX8_pieceAt 41 = .ok (.invokevirtual 72, 3) := by decide +kernel
theorem dX8_pieceAt_44 : decode cX8_pieceAt 44 = .ok (.aload_n 0, 1) := by decide +kernel
theorem dX8_pieceAt_45 : decode cX8_pieceAt 45 = .ok (.iload_n 1, 1) := by decide +kernel
theorem dX8_pieceAt_46 : decode cX8_pieceAt 46 = .ok (.iconst 4, 1) := by decide +kernel
theorem dX8_pieceAt_47 : decode cX8_pieceAt 47 = .ok (.invokevirtual 72, 3) := by decide +kernel
theorem dX8_pieceAt_50 : decode cX8_pieceAt 50 = .ok (.iload_n 2, 1) := by decide +kernel
theorem dX8_pieceAt_51 : decode cX8_pieceAt 51 = .ok (.iadd, 1) := by decide +kernel
theorem dX8_pieceAt_52 : decode cX8_pieceAt 52 = .ok (.iload_n 3, 1) := by decide +kernel
theorem dX8_pieceAt_53 : decode cX8_pieceAt 53 = .ok (.iadd, 1) := by decide +kernel
theorem dX8_pieceAt_54 : decode cX8_pieceAt 54 = .ok (.invokevirtual 113, 3) := by decide +kernel
theorem dX8_pieceAt_57 : decode cX8_pieceAt 57 = .ok (.ifCond .ne 9, 3) := by decide +kernel
theorem dX8_pieceAt_60 : decode cX8_pieceAt 60 = .ok (.iinc 3 1, 3) := by decide +kernel
theorem dX8_pieceAt_63 : decode cX8_pieceAt 63 = .ok (.goto (-61), 3) := by decide +kernel
theorem dX8_pieceAt_66 : decode cX8_pieceAt 66 = .ok (.iload_n 3, 1) := by decide +kernel
theorem dX8_pieceAt_67 : decode cX8_pieceAt 67 = .ok (.ireturn, 1) := by decide +kernel
theorem dX8_restrict_0 : decode cX8_restrict 0 = .ok (.iload_n 2, 1) := by decide +kernel
theorem dX8_restrict_1 : decode cX8_restrict 1 = .ok (.istore 4, 2) := by decide +kernel
theorem dX8_restrict_3 : decode cX8_restrict 3 = .ok (.iload 4, 2) := by decide +kernel
theorem dX8_restrict_5 : decode cX8_restrict 5 = .ok (.iload_n 2, 1) := by decide +kernel
theorem dX8_restrict_6 : decode cX8_restrict 6 = .ok (.iload_n 3, 1) := by decide +kernel
theorem dX8_restrict_7 : decode cX8_restrict 7 = .ok (.iadd, 1) := by decide +kernel
theorem dX8_restrict_8 : decode cX8_restrict 8 = .ok (.if_icmp .ge 62, 3) := by decide +kernel
theorem dX8_restrict_11 : decode cX8_restrict 11 = .ok (.aload_n 0, 1) := by decide +kernel
theorem dX8_restrict_12 : decode cX8_restrict 12 = .ok (.iload_n 1, 1) := by decide +kernel
theorem dX8_restrict_13 : decode cX8_restrict 13 = .ok (.iload 4, 2) := by decide +kernel
theorem dX8_restrict_15 : decode cX8_restrict 15 = .ok (.invokevirtual 110, 3) := by decide +kernel
theorem dX8_restrict_18 : decode cX8_restrict 18 = .ok (.istore 5, 2) := by decide +kernel
theorem dX8_restrict_20 : decode cX8_restrict 20 = .ok (.aload_n 0, 1) := by decide +kernel
theorem dX8_restrict_21 : decode cX8_restrict 21 = .ok (.getfield 28, 3) := by decide +kernel
theorem dX8_restrict_24 : decode cX8_restrict 24 = .ok (.iload 5, 2) := by decide +kernel
theorem dX8_restrict_26 : decode cX8_restrict 26 = .ok (.aload_n 0, 1) := by decide +kernel
theorem dX8_restrict_27 : decode cX8_restrict 27 = .ok (.getfield 28, 3) := by decide +kernel
theorem dX8_restrict_30 : decode cX8_restrict 30 = .ok (.iload 5, 2) := by decide +kernel
theorem dX8_restrict_32 : decode cX8_restrict 32 = .ok (.baload, 1) := by decide +kernel
theorem dX8_restrict_33 : decode cX8_restrict 33 = .ok (.ifCond .eq 29, 3) := by decide +kernel
theorem dX8_restrict_36 : decode cX8_restrict 36 = .ok (.aload_n 0, 1) := by decide +kernel
theorem dX8_restrict_37 : decode cX8_restrict 37 = .ok (.getfield 19, 3) := by decide +kernel
theorem dX8_restrict_40 : decode cX8_restrict 40 = .ok (.iload 5, 2) := by decide +kernel
theorem dX8_restrict_42 : decode cX8_restrict 42 = .ok (.iaload, 1) := by decide +kernel
theorem dX8_restrict_43 : decode cX8_restrict 43 = .ok (.iload_n 2, 1) := by decide +kernel
theorem dX8_restrict_44 : decode cX8_restrict 44 = .ok (.if_icmp .ne 18, 3) := by decide +kernel
theorem dX8_restrict_47 : decode cX8_restrict 47 = .ok (.aload_n 0, 1) := by decide +kernel
theorem dX8_restrict_48 : decode cX8_restrict 48 = .ok (.getfield 22, 3) := by decide +kernel
theorem dX8_restrict_51 : decode cX8_restrict 51 = .ok (.iload 5, 2) := by decide +kernel
theorem dX8_restrict_53 : decode cX8_restrict 53 = .ok (.iaload, 1) := by decide +kernel
theorem dX8_restrict_54 : decode cX8_restrict 54 = .ok (.iload_n 3, 1) := by decide +kernel
theorem dX8_restrict_55 : decode cX8_restrict 55 = .ok (.if_icmp .ne 7, 3) := by decide +kernel
theorem dX8_restrict_58 : decode cX8_restrict 58 = .ok (.iconst 1, 1) := by decide +kernel
theorem dX8_restrict_59 : decode cX8_restrict 59 = .ok (.goto 4, 3) := by decide +kernel
theorem dX8_restrict_62 : decode cX8_restrict 62 = .ok (.iconst 0, 1) := by decide +kernel
theorem dX8_restrict_63 : decode cX8_restrict 63 = .ok (.bastore, 1) := by decide +kernel
theorem dX8_restrict_64 : decode cX8_restrict 64 = .ok (.iinc 4 1, 3) := by decide +kernel
theorem dX8_restrict_67 : decode cX8_restrict 67 = .ok (.goto (-64), 3) := by decide +kernel
theorem dX8_restrict_70 : decode cX8_restrict 70 = .ok (.return_, 1) := by decide +kernel
theorem dX8_restrictPieces_0 : decode cX8_restrictPieces 0 = .ok (.iconst 0, 1) := by decide +kernel
theorem dX8_restrictPieces_1 : decode cX8_restrictPieces 1 = .ok (.istore_n 2, 1) := by decide +kernel
theorem dX8_restrictPieces_2 : decode cX8_restrictPieces 2 = .ok (.iload_n 2, 1) := by decide +kernel
theorem dX8_restrictPieces_3 : decode cX8_restrictPieces 3 = .ok (.aload_n 0, 1) := by decide +kernel
theorem dX8_restrictPieces_4 : decode cX8_restrictPieces 4 = .ok (.iload_n 1, 1) := by decide +kernel
theorem dX8_restrictPieces_5 : decode cX8_restrictPieces 5 = .ok (.iconst 5, 1) := by decide +kernel
theorem dX8_restrictPieces_6 : decode cX8_restrictPieces 6 = .ok (.invokevirtual 72, 3) := by decide +kernel
theorem dX8_restrictPieces_9 : decode cX8_restrictPieces 9 = .ok (.if_icmp .ge 55, 3) := by decide +kernel
theorem dX8_restrictPieces_12 : decode cX8_restrictPieces 12 = .ok (.aload_n 0, 1) := by decide +kernel
theorem dX8_restrictPieces_13 : decode cX8_restrictPieces 13 = .ok (.iload_n 1, 1) := by decide +kernel
theorem dX8_restrictPieces_14 : decode cX8_restrictPieces 14 = .ok (.iload_n 2, 1) := by decide +kernel
theorem dX8_restrictPieces_15 : decode cX8_restrictPieces 15 = .ok (.invokevirtual 116, 3) := by decide +kernel
theorem dX8_restrictPieces_18 : decode cX8_restrictPieces 18 = .ok (.istore_n 3, 1) := by decide +kernel
theorem dX8_restrictPieces_19 : decode cX8_restrictPieces 19 = .ok (.aload_n 0, 1) := by decide +kernel
theorem dX8_restrictPieces_20 : decode cX8_restrictPieces 20 = .ok (.aload_n 0, 1) := by decide +kernel
theorem dX8_restrictPieces_21 : decode cX8_restrictPieces 21 = .ok (.iload_n 1, 1) := by decide +kernel
theorem dX8_restrictPieces_22 : decode cX8_restrictPieces 22 = .ok (.iconst 1, 1) := by decide +kernel
theorem dX8_restrictPieces_23 : decode cX8_restrictPieces 23 = .ok (.invokevirtual 72, 3) := by decide +kernel
theorem dX8_restrictPieces_26 : decode cX8_restrictPieces 26 = .ok (.aload_n 0, 1) := by decide +kernel
theorem dX8_restrictPieces_27 : decode cX8_restrictPieces 27 = .ok (.iload_n 1, 1) := by decide +kernel
theorem dX8_restrictPieces_28 : decode cX8_restrictPieces 28 = .ok (.iconst 2, 1) := by decide +kernel
theorem dX8_restrictPieces_29 : decode cX8_restrictPieces 29 = .ok (.invokevirtual 72, 3) := by decide +kernel
theorem dX8_restrictPieces_32 : decode cX8_restrictPieces 32 = .ok (.iload_n 2, 1) := by decide +kernel
theorem dX8_restrictPieces_33 : decode cX8_restrictPieces 33 = .ok (.iadd, 1) := by decide +kernel
theorem dX8_restrictPieces_34 : decode cX8_restrictPieces 34 = .ok (.iload_n 3, 1) := by decide +kernel
theorem dX8_restrictPieces_35 : decode cX8_restrictPieces 35 = .ok (.invokevirtual 119, 3) := by decide +kernel
theorem dX8_restrictPieces_38 : decode cX8_restrictPieces 38 = .ok (.aload_n 0, 1) := by decide +kernel
theorem dX8_restrictPieces_39 : decode cX8_restrictPieces 39 = .ok (.aload_n 0, 1) := by decide +kernel
theorem dX8_restrictPieces_40 : decode cX8_restrictPieces 40 = .ok (.iload_n 1, 1) := by decide +kernel
theorem dX8_restrictPieces_41 : decode cX8_restrictPieces 41 = .ok (.iconst 3, 1) := by decide +kernel
theorem dX8_restrictPieces_42 : decode cX8_restrictPieces 42 = .ok (.invokevirtual 72, 3) := by decide +kernel
theorem dX8_restrictPieces_45 : decode cX8_restrictPieces 45 = .ok (.aload_n 0, 1) := by decide +kernel
theorem dX8_restrictPieces_46 : decode cX8_restrictPieces 46 = .ok (.iload_n 1, 1) := by decide +kernel
theorem dX8_restrictPieces_47 : decode cX8_restrictPieces 47 = .ok (.iconst 4, 1) := by decide +kernel
theorem dX8_restrictPieces_48 : decode cX8_restrictPieces 48 = .ok (.invokevirtual 72, 3) := by decide +kernel
theorem dX8_restrictPieces_51 : decode cX8_restrictPieces 51 = .ok (.iload_n 2, 1) := by decide +kernel
theorem dX8_restrictPieces_52 : decode cX8_restrictPieces 52 = .ok (.iadd, 1) := by decide +kernel
theorem dX8_restrictPieces_53 : decode cX8_restrictPieces 53 = .ok (.iload_n 3, 1) := by decide +kernel
theorem dX8_restrictPieces_54 : decode cX8_restrictPieces 54 = .ok (.invokevirtual 119, 3) := by decide +kernel
theorem dX8_restrictPieces_57 : decode cX8_restrictPieces 57 = .ok (.iload_n 2, 1) := by decide +kernel
theorem dX8_restrictPieces_58 : decode cX8_restrictPieces 58 = .ok (.iload_n 3, 1) := by decide +kernel
theorem dX8_restrictPieces_59 : decode cX8_restrictPieces 59 = .ok (.iadd, 1) := by decide +kernel
theorem dX8_restrictPieces_60 : decode cX8_restrictPieces 60 = .ok (.istore_n 2, 1) := by decide +kernel
theorem dX8_restrictPieces_61 : decode cX8_restrictPieces 61 = .ok (.goto (-59), 3) := by decide +kernel
theorem dX8_restrictPieces_64 : decode cX8_restrictPieces 64 = .ok (.return_, 1) := by decide +kernel
theorem dX8_findPromotable_0 : decode cX8_findPromotable 0 = .ok (.iconst 0, 1) := by decide +kernel
theorem dX8_findPromotable_1 : decode cX8_findPromotable 1 = .ok (.istore_n 1, 1) := by decide +kernel
theorem dX8_findPromotable_2 : decode cX8_findPromotable 2 = .ok (.iload_n 1, 1) := by decide +kernel
theorem dX8_findPromotable_3 : decode cX8_findPromotable 3 = .ok (.aload_n 0, 1) := by decide +kernel
theorem dX8_findPromotable_4 : decode cX8_findPromotable 4 = .ok (.getfield 7, 3) := by decide +kernel
theorem dX8_findPromotable_7 : decode cX8_findPromotable 7 = .ok (.iconst 0, 1) := by decide +kernel
theorem dX8_findPromotable_8 : decode cX8_findPromotable 8 = .ok (.iaload, 1) := by decide +kernel
theorem dX8_findPromotable_9 : decode cX8_findPromotable 9 = .ok (.if_icmp .ge 65, 3) := by decide +kernel
theorem dX8_findPromotable_12 : decode cX8_findPromotable 12 = .ok (.iconst 0, 1) := by decide +kernel
theorem dX8_findPromotable_13 : decode cX8_findPromotable 13 = .ok (.istore_n 2, 1) := by decide +kernel
theorem dX8_findPromotable_14 : decode cX8_findPromotable 14 = .ok (.iload_n 2, 1) := by decide +kernel
theorem dX8_findPromotable_15 : decode cX8_findPromotable 15 = .ok (.aload_n 0, 1) := by decide +kernel
theorem dX8_findPromotable_16 : decode cX8_findPromotable 16 = .ok (.getfield 25, 3) := by decide +kernel
theorem dX8_findPromotable_19 : decode cX8_findPromotable 19 = .ok (.iload_n 1, 1) := by decide +kernel
theorem dX8_findPromotable_20 : decode cX8_findPromotable 20 = .ok (.iaload, 1) := by decide +kernel
theorem dX8_findPromotable_21 : decode cX8_findPromotable 21 = .ok (.if_icmp .ge 47, 3) := by decide +kernel
theorem dX8_findPromotable_24 : decode cX8_findPromotable 24 = .ok (.bipush 16, 2) := by decide +kernel
theorem dX8_findPromotable_26 : decode cX8_findPromotable 26 = .ok (.iload_n 1, 1) := by decide +kernel
theorem dX8_findPromotable_27 : decode cX8_findPromotable 27 = .ok (.imul, 1) := by decide +kernel
theorem dX8_findPromotable_28 : decode cX8_findPromotable 28 = .ok (.iload_n 2, 1) := by decide +kernel
theorem dX8_findPromotable_29 : decode cX8_findPromotable 29 = .ok (.iadd, 1) := by decide +kernel
theorem dX8_findPromotable_30 : decode cX8_findPromotable 30 = .ok (.istore_n 3, 1) := by decide +kernel
theorem dX8_findPromotable_31 : decode cX8_findPromotable 31 = .ok (.aload_n 0, 1) := by decide +kernel
theorem dX8_findPromotable_32 : decode cX8_findPromotable 32 = .ok (.getfield 28, 3) := by decide +kernel
theorem dX8_findPromotable_35 : decode cX8_findPromotable 35 = .ok (.iload_n 3, 1) := by decide +kernel
theorem dX8_findPromotable_36 : decode cX8_findPromotable 36 = .ok (.aload_n 0, 1) := by decide +kernel
theorem dX8_findPromotable_37 : decode cX8_findPromotable 37 = .ok (.iload_n 1, 1) := by decide +kernel
theorem dX8_findPromotable_38 : decode cX8_findPromotable 38 = .ok (.invokevirtual 90, 3) := by decide +kernel
theorem dX8_findPromotable_41 : decode cX8_findPromotable 41 = .ok (.ifCond .ne 19, 3) := by decide +kernel
theorem dX8_findPromotable_44 : decode cX8_findPromotable 44 = .ok (.aload_n 0, 1) := by decide +kernel
theorem dX8_findPromotable_45 : decode cX8_findPromotable 45 = .ok (.getfield 22, 3) := by decide +kernel
theorem dX8_findPromotable_48 : decode cX8_findPromotable 48 = .ok (.iload_n 3, 1) := by decide +kernel
theorem dX8_findPromotable_49 : decode cX8_findPromotable 49 = .ok (.iaload, 1) := by decide +kernel
theorem dX8_findPromotable_50 : decode cX8_findPromotable 50 = .ok (.invokestatic 59, 3) := by decide +kernel
theorem dX8_findPromotable_53 : decode cX8_findPromotable 53 = .ok (.ifCond .eq 7, 3) := by decide +kernel
theorem dX8_findPromotable_56 : decode cX8_findPromotable 56 = .ok (.iconst 1, 1) := by decide +kernel
theorem dX8_findPromotable_57 : decode cX8_findPromotable 57 = .ok (.goto 4, 3) := by decide +kernel
theorem dX8_findPromotable_60 : decode cX8_findPromotable 60 = .ok (.iconst 0, 1) := by decide +kernel
theorem dX8_findPromotable_61 : decode cX8_findPromotable 61 = .ok (.bastore, 1) := by decide +kernel
theorem dX8_findPromotable_62 : decode cX8_findPromotable 62 = .ok (.iinc 2 1, 3) := by decide +kernel
theorem dX8_findPromotable_65 : decode cX8_findPromotable 65 = .ok (.goto (-51), 3) := by decide +kernel
theorem dX8_findPromotable_68 : decode cX8_findPromotable 68 = .ok (.iinc 1 1, 3) := by decide +kernel
theorem dX8_findPromotable_71 : decode cX8_findPromotable 71 = .ok (.goto (-69), 3) := by decide +kernel
theorem dX8_findPromotable_74 : decode cX8_findPromotable 74 = .ok (.iconst 0, 1) := by decide +kernel
theorem dX8_findPromotable_75 : decode cX8_findPromotable 75 = .ok (.istore_n 1, 1) := by decide +kernel
theorem dX8_findPromotable_76 : decode cX8_findPromotable 76 = .ok (.iload_n 1, 1) := by decide +kernel
theorem dX8_findPromotable_77 : decode cX8_findPromotable 77 = .ok (.aload_n 0, 1) := by decide +kernel
theorem dX8_findPromotable_78 : decode cX8_findPromotable 78 = .ok (.getfield 7, 3) := by decide +kernel
theorem dX8_findPromotable_81 : decode cX8_findPromotable 81 = .ok (.iconst 5, 1) := by decide +kernel
theorem dX8_findPromotable_82 : decode cX8_findPromotable 82 = .ok (.iaload, 1) := by decide +kernel
theorem dX8_findPromotable_83 : decode cX8_findPromotable 83 = .ok (.if_icmp .ge 57, 3) := by decide +kernel
theorem dX8_findPromotable_86 : decode cX8_findPromotable 86 = .ok (.aload_n 0, 1) := by decide +kernel
theorem dX8_findPromotable_87 : decode cX8_findPromotable 87 = .ok (.iload_n 1, 1) := by decide +kernel
theorem dX8_findPromotable_88 : decode cX8_findPromotable 88 = .ok (.invokevirtual 76, 3) := by decide +kernel
theorem dX8_findPromotable_91 : decode cX8_findPromotable 91 = .ok (.ifCond .eq 28, 3) := by decide +kernel
theorem dX8_findPromotable_94 : decode cX8_findPromotable 94 = .ok (.aload_n 0, 1) := by decide +kernel
theorem dX8_findPromotable_95 : decode cX8_findPromotable 95 = .ok (.aload_n 0, 1) := by decide +kernel
theorem dX8_findPromotable_96 : decode cX8_findPromotable 96 = .ok (.iload_n 1, 1) := by decide +kernel
theorem dX8_findPromotable_97 : decode cX8_findPromotable 97 = .ok (.iconst 1, 1) := by decide +kernel
theorem dX8_findPromotable_98 : decode cX8_findPromotable 98 = .ok (.invokevirtual 72, 3) := by decide +kernel
theorem dX8_findPromotable_101 : decode cX8_findPromotable 101 = .ok (.aload_n 0, 1) := by decide +kernel
theorem dX8_findPromotable_102 : decode cX8_findPromotable 102 = .ok (.iload_n 1, 1) := by decide +kernel
theorem dX8_findPromotable_103 : decode cX8_findPromotable 103 = .ok (.iconst 2, 1) := by decide +kernel
theorem dX8_findPromotable_104 : decode cX8_findPromotable 104 = .ok (.invokevirtual 72, 3) := by decide +kernel
theorem dX8_findPromotable_107 : decode cX8_findPromotable 107 = .ok (.aload_n 0, 1) := by decide +kernel
theorem dX8_findPromotable_108 : decode cX8_findPromotable 108 = .ok (.iload_n 1, 1) := by decide +kernel
theorem dX8_findPromotable_109 : decode cX8_findPromotable 109 = .ok (.iconst 3, 1) := by decide +kernel
theorem dX8_findPromotable_110 : decode cX8_findPromotable 110 = .ok (.invokevirtual 72, 3) := by decide +kernel
theorem dX8_findPromotable_113 : decode cX8_findPromotable 113 = .ok (.invokevirtual 119, 3) := by decide +kernel
theorem dX8_findPromotable_116 : decode cX8_findPromotable 116 = .ok (.goto 18, 3) := by decide +kernel
theorem dX8_findPromotable_119 : decode cX8_findPromotable 119 = .ok (.aload_n 0, 1) := by decide +kernel
theorem dX8_findPromotable_120 : decode cX8_findPromotable 120 = .ok (.iload_n 1, 1) := by decide +kernel
theorem dX8_findPromotable_121 : decode cX8_findPromotable 121 = .ok (.iconst 0, 1) := by decide +kernel
theorem dX8_findPromotable_122 : decode cX8_findPromotable 122 = .ok (.invokevirtual 72, 3) := by decide +kernel
theorem dX8_findPromotable_125 : decode cX8_findPromotable 125 = .ok (.iconst 3, 1) := by decide +kernel
theorem dX8_findPromotable_126 : decode cX8_findPromotable 126 = .ok (.if_icmp .ne 8, 3) := by decide +kernel
theorem dX8_findPromotable_129 : decode cX8_findPromotable 129 = .ok (.aload_n 0, 1) := by decide +kernel
theorem dX8_findPromotable_130 : decode cX8_findPromotable 130 = .ok (.iload_n 1, 1) := by decide +kernel
theorem dX8_findPromotable_131 : decode cX8_findPromotable 131 = .ok (.invokevirtual 123, 3) := by decide +kernel
theorem dX8_findPromotable_134 : decode cX8_findPromotable 134 = .ok (.iinc 1 1, 3) := by decide +kernel
theorem dX8_findPromotable_137 : decode cX8_findPromotable 137 = .ok (.goto (-61), 3) := by decide +kernel
theorem dX8_findPromotable_140 : decode cX8_findPromotable 140 = .ok (.return_, 1) := by decide +kernel
theorem dX8_enliven_0 : decode cX8_enliven 0 = .ok (.iconst 0, 1) := by decide +kernel
theorem dX8_enliven_1 : decode cX8_enliven 1 = .ok (.istore_n 2, 1) := by decide +kernel
theorem dX8_enliven_2 : decode cX8_enliven 2 = .ok (.iconst 0, 1) := by decide +kernel
theorem dX8_enliven_3 : decode cX8_enliven 3 = .ok (.istore_n 3, 1) := by decide +kernel
theorem dX8_enliven_4 : decode cX8_enliven 4 = .ok (.iload_n 3, 1) := by decide +kernel
theorem dX8_enliven_5 : decode cX8_enliven 5 = .ok (.aload_n 0, 1) := by decide +kernel
theorem dX8_enliven_6 : decode cX8_enliven 6 = .ok (.iload_n 1, 1) := by decide +kernel
theorem dX8_enliven_7 : decode cX8_enliven 7 = .ok (.iconst 5, 1) := by decide +kernel
theorem dX8_enliven_8 : decode cX8_enliven 8 = .ok (.invokevirtual 72, 3) := by decide +kernel
theorem dX8_enliven_11 : decode cX8_enliven 11 = .ok (.if_icmp .ge 111, 3) := by decide +kernel
theorem dX8_enliven_14 : decode cX8_enliven 14 = .ok (.aload_n 0, 1) := by decide +kernel
theorem dX8_enliven_15 : decode cX8_enliven 15 = .ok (.aload_n 0, 1) := by decide +kernel
theorem dX8_enliven_16 : decode cX8_enliven 16 = .ok (.iload_n 1, 1) := by decide +kernel
theorem dX8_enliven_17 : decode cX8_enliven 17 = .ok (.iconst 1, 1) := by decide +kernel
theorem dX8_enliven_18 : decode cX8_enliven 18 = .ok (.invokevirtual 72, 3) := by decide +kernel
theorem dX8_enliven_21 : decode cX8_enliven 21 = .ok (.aload_n 0, 1) := by decide +kernel
theorem dX8_enliven_22 : decode cX8_enliven 22 = .ok (.iload_n 1, 1) := by decide +kernel
theorem dX8_enliven_23 : decode cX8_enliven 23 = .ok (.iconst 2, 1) := by decide +kernel
theorem dX8_enliven_24 : decode cX8_enliven 24 = .ok (.invokevirtual 72, 3) := by decide +kernel
theorem dX8_enliven_27 : decode cX8_enliven 27 = .ok (.iload_n 3, 1) := by decide +kernel
theorem dX8_enliven_28 : decode cX8_enliven 28 = .ok (.iadd, 1) := by decide +kernel
theorem dX8_enliven_29 : decode cX8_enliven 29 = .ok (.invokevirtual 110, 3) := by decide +kernel
theorem dX8_enliven_32 : decode cX8_enliven 32 = .ok (.istore 4, 2) := by decide +kernel
theorem dX8_enliven_34 : decode cX8_enliven 34 = .ok (.aload_n 0, 1) := by decide +kernel
theorem dX8_enliven_35 : decode cX8_enliven 35 = .ok (.aload_n 0, 1) := by decide +kernel
theorem dX8_enliven_36 : decode cX8_enliven 36 = .ok (.iload_n 1, 1) := by decide +kernel
theorem dX8_enliven_37 : decode cX8_enliven 37 = .ok (.iconst 3, 1) := by decide +kernel
theorem dX8_enliven_38 : decode cX8_enliven 38 = .ok (.invokevirtual 72, 3) := by decide +kernel
theorem dX8_enliven_41 : decode cX8_enliven 41 = .ok (.aload_n 0, 1) := by decide +kernel
theorem dX8_enliven_42 : decode cX8_enliven 42 = .ok (.iload_n 1, 1) := by decide +kernel
theorem dX8_enliven_43 : decode cX8_enliven 43 = .ok (.iconst 4, 1) := by decide +kernel
theorem dX8_enliven_44 : decode cX8_enliven 44 = .ok (.invokevirtual 72, 3) := by decide +kernel
theorem dX8_enliven_47 : decode cX8_enliven 47 = .ok (.iload_n 3, 1) := by decide +kernel
theorem dX8_enliven_48 : decode cX8_enliven 48 = .ok (.iadd, 1) := by decide +kernel
theorem dX8_enliven_49 : decode cX8_enliven 49 = .ok (.invokevirtual 110, 3) := by decide +kernel
theorem dX8_enliven_52 : decode cX8_enliven 52 = .ok (.istore 5, 2) := by decide +kernel
theorem dX8_enliven_54 : decode cX8_enliven 54 = .ok (.iload_n 2, 1) := by decide +kernel
theorem dX8_enliven_55 : decode cX8_enliven 55 = .ok (.ifCond .ne 23, 3) := by decide +kernel
theorem dX8_enliven_58 : decode cX8_enliven 58 = .ok (.aload_n 0, 1) := by decide +kernel
theorem dX8_enliven_59 : decode cX8_enliven 59 = .ok (.getfield 32, 3) := by decide +kernel
theorem dX8_enliven_62 : decode cX8_enliven 62 = .ok (.iload 4, 2) := by decide +kernel
theorem dX8_enliven_64 : decode cX8_enliven 64 = .ok (.baload, 1) := by decide +kernel
theorem dX8_enliven_65 : decode cX8_enliven 65 = .ok (.ifCond .eq 17, 3) := by decide +kernel
theorem dX8_enliven_68 : decode cX8_enliven 68 = .ok (.aload_n 0, 1) := by decide +kernel
theorem dX8_enliven_69 : decode cX8_enliven 69 = .ok (.getfield 32, 3) := by decide +kernel
theorem dX8_enliven_72 : decode cX8_enliven 72 = .ok (.iload 5, 2) := by decide +kernel
theorem dX8_enliven_74 : decode cX8_enliven 74 = .ok (.baload, 1) := by decide +kernel
theorem dX8_enliven_75 : decode cX8_enliven 75 = .ok (.ifCond .ne 7, 3) := by decide +kernel
theorem dX8_enliven_78 : decode cX8_enliven 78 = .ok (.iconst 1, 1) := by decide +kernel
theorem dX8_enliven_79 : decode cX8_enliven 79 = .ok (.goto 4, 3) := by decide +kernel
theorem dX8_enliven_82 : decode cX8_enliven 82 = .ok (.iconst 0, 1) := by decide +kernel
theorem dX8_enliven_83 : decode cX8_enliven 83 = .ok (.istore_n 2, 1) := by decide +kernel
theorem dX8_enliven_84 : decode cX8_enliven 84 = .ok (.aload_n 0, 1) := by decide +kernel
theorem dX8_enliven_85 : decode cX8_enliven 85 = .ok (.getfield 32, 3) := by decide +kernel
theorem dX8_enliven_88 : decode cX8_enliven 88 = .ok (.iload 5, 2) := by decide +kernel
theorem dX8_enliven_90 : decode cX8_enliven 90 = .ok (.aload_n 0, 1) := by decide +kernel
theorem dX8_enliven_91 : decode cX8_enliven 91 = .ok (.getfield 32, 3) := by decide +kernel
theorem dX8_enliven_94 : decode cX8_enliven 94 = .ok (.iload 5, 2) := by decide +kernel
theorem dX8_enliven_96 : decode cX8_enliven 96 = .ok (.baload, 1) := by decide +kernel
theorem dX8_enliven_97 : decode cX8_enliven 97 = .ok (.ifCond .ne 13, 3) := by decide +kernel
theorem dX8_enliven_100 : decode cX8_enliven 100 = .ok (.aload_n 0, 1) := by decide +kernel
theorem dX8_enliven_101 : decode cX8_enliven 101 = .ok (.getfield 32, 3) := by decide +kernel
theorem dX8_enliven_104 : decode cX8_enliven 104 = .ok (.iload 4, 2) := by decide +kernel
theorem dX8_enliven_106 : decode cX8_enliven 106 = .ok (.baload, 1) := by decide +kernel
theorem dX8_enliven_107 : decode cX8_enliven 107 = .ok (.ifCond .eq 7, 3) := by decide +kernel
theorem dX8_enliven_110 : decode cX8_enliven 110 = .ok (.iconst 1, 1) := by decide +kernel
theorem dX8_enliven_111 : decode cX8_enliven 111 = .ok (.goto 4, 3) := by decide +kernel
theorem dX8_enliven_114 : decode cX8_enliven 114 = .ok (.iconst 0, 1) := by decide +kernel
theorem dX8_enliven_115 : decode cX8_enliven 115 = .ok (.bastore, 1) := by decide +kernel
theorem dX8_enliven_116 : decode cX8_enliven 116 = .ok (.iinc 3 1, 3) := by decide +kernel
theorem dX8_enliven_119 : decode cX8_enliven 119 = .ok (.goto (-115), 3) := by decide +kernel
theorem dX8_enliven_122 : decode cX8_enliven 122 = .ok (.iload_n 2, 1) := by decide +kernel
theorem dX8_enliven_123 : decode cX8_enliven 123 = .ok (.ireturn, 1) := by decide +kernel
theorem dX8_findLive_0 : decode cX8_findLive 0 = .ok (.iconst 0, 1) := by decide +kernel
theorem dX8_findLive_1 : decode cX8_findLive 1 = .ok (.istore_n 1, 1) := by decide +kernel
theorem dX8_findLive_2 : decode cX8_findLive 2 = .ok (.iload_n 1, 1) := by decide +kernel
theorem dX8_findLive_3 : decode cX8_findLive 3 = .ok (.aload_n 0, 1) := by decide +kernel
theorem dX8_findLive_4 : decode cX8_findLive 4 = .ok (.getfield 7, 3) := by decide +kernel
theorem dX8_findLive_7 : decode cX8_findLive 7 = .ok (.iconst 0, 1) := by decide +kernel
theorem dX8_findLive_8 : decode cX8_findLive 8 = .ok (.iaload, 1) := by decide +kernel
theorem dX8_findLive_9 : decode cX8_findLive 9 = .ok (.if_icmp .ge 43, 3) := by decide +kernel
theorem dX8_findLive_12 : decode cX8_findLive 12 = .ok (.iconst 0, 1) := by decide +kernel
theorem dX8_findLive_13 : decode cX8_findLive 13 = .ok (.istore_n 2, 1) := by decide +kernel
theorem dX8_findLive_14 : decode cX8_findLive 14 = .ok (.iload_n 2, 1) := by decide +kernel
theorem dX8_findLive_15 : decode cX8_findLive 15 = .ok (.aload_n 0, 1) := by decide +kernel
theorem dX8_findLive_16 : decode cX8_findLive 16 = .ok (.getfield 25, 3) := by decide +kernel
theorem dX8_findLive_19 : decode cX8_findLive 19 = .ok (.iload_n 1, 1) := by decide +kernel
theorem dX8_findLive_20 : decode cX8_findLive 20 = .ok (.iaload, 1) := by decide +kernel
theorem dX8_findLive_21 : decode cX8_findLive 21 = .ok (.if_icmp .ge 25, 3) := by decide +kernel
theorem dX8_findLive_24 : decode cX8_findLive 24 = .ok (.aload_n 0, 1) := by decide +kernel
theorem dX8_findLive_25 : decode cX8_findLive 25 = .ok (.getfield 32, 3) := by decide +kernel
theorem dX8_findLive_28 : decode cX8_findLive 28 = .ok (.bipush 16, 2) := by decide +kernel
theorem dX8_findLive_30 : decode cX8_findLive 30 = .ok (.iload_n 1, 1) := by decide +kernel
theorem dX8_findLive_31 : decode cX8_findLive 31 = .ok (.imul, 1) := by decide +kernel
theorem dX8_findLive_32 : decode cX8_findLive 32 = .ok (.iload_n 2, 1) := by decide +kernel
theorem dX8_findLive_33 : decode cX8_findLive 33 = .ok (.iadd, 1) := by decide +kernel
theorem dX8_findLive_34 : decode cX8_findLive 34 = .ok (.aload_n 0, 1) := by decide +kernel
theorem dX8_findLive_35 : decode cX8_findLive 35 = .ok (.iload_n 1, 1) := by decide +kernel
theorem dX8_findLive_36 : decode cX8_findLive 36 = .ok (.invokevirtual 90, 3) := by decide +kernel
theorem dX8_findLive_39 : decode cX8_findLive 39 = .ok (.bastore, 1) := by decide +kernel
theorem dX8_findLive_40 : decode cX8_findLive 40 = .ok (.iinc 2 1, 3) := by decide +kernel
theorem dX8_findLive_43 : decode cX8_findLive 43 = .ok (.goto (-29), 3) := by decide +kernel
theorem dX8_findLive_46 : decode cX8_findLive 46 = .ok (.iinc 1 1, 3) := by decide +kernel
theorem dX8_findLive_49 : decode cX8_findLive 49 = .ok (.goto (-47), 3) := by decide +kernel
theorem dX8_findLive_52 : decode cX8_findLive 52 = .ok (.iconst 0, 1) := by decide +kernel
theorem dX8_findLive_53 : decode cX8_findLive 53 = .ok (.istore_n 1, 1) := by decide +kernel
theorem dX8_findLive_54 : decode cX8_findLive 54 = .ok (.iload_n 1, 1) := by decide +kernel
theorem dX8_findLive_55 : decode cX8_findLive 55 = .ok (.aload_n 0, 1) := by decide +kernel
theorem dX8_findLive_56 : decode cX8_findLive 56 = .ok (.getfield 7, 3) := by decide +kernel
theorem dX8_findLive_59 : decode cX8_findLive 59 = .ok (.iconst 5, 1) := by decide +kernel
theorem dX8_findLive_60 : decode cX8_findLive 60 = .ok (.iaload, 1) := by decide +kernel
theorem dX8_findLive_61 : decode cX8_findLive 61 = .ok (.if_icmp .ge 41, 3) := by decide +kernel
theorem dX8_findLive_64 : decode cX8_findLive 64 = .ok (.aload_n 0, 1) := by decide +kernel
theorem dX8_findLive_65 : decode cX8_findLive 65 = .ok (.iload_n 1, 1) := by decide +kernel
theorem dX8_findLive_66 : decode cX8_findLive 66 = .ok (.iconst 0, 1) := by decide +kernel
theorem dX8_findLive_67 : decode cX8_findLive 67 = .ok (.invokevirtual 72, 3) := by decide +kernel
theorem dX8_findLive_70 : decode cX8_findLive 70 = .ok (.iconst 2, 1) := by decide +kernel
theorem dX8_findLive_71 : decode cX8_findLive 71 = .ok (.if_icmp .ne 25, 3) := by decide +kernel
theorem dX8_findLive_74 : decode cX8_findLive 74 = .ok (.aload_n 0, 1) := by decide +kernel
theorem dX8_findLive_75 : decode cX8_findLive 75 = .ok (.getfield 32, 3) := by decide +kernel
theorem dX8_findLive_78 : decode cX8_findLive 78 = .ok (.aload_n 0, 1) := by decide +kernel
theorem dX8_findLive_79 : decode cX8_findLive 79 = .ok (.aload_n 0, 1) := by decide +kernel
theorem dX8_findLive_80 : decode cX8_findLive 80 = .ok (.iload_n 1, 1) := by decide +kernel
theorem dX8_findLive_81 : decode cX8_findLive 81 = .ok (.iconst 1, 1) := by decide +kernel
theorem dX8_findLive_82 : decode cX8_findLive 82 = .ok (.invokevirtual 72, 3) := by decide +kernel
theorem dX8_findLive_85 : decode cX8_findLive 85 = .ok (.aload_n 0, 1) := by decide +kernel
theorem dX8_findLive_86 : decode cX8_findLive 86 = .ok (.iload_n 1, 1) := by decide +kernel
theorem dX8_findLive_87 : decode cX8_findLive 87 = .ok (.iconst 2, 1) := by decide +kernel
theorem dX8_findLive_88 : decode cX8_findLive 88 = .ok (.invokevirtual 72, 3) := by decide +kernel
theorem dX8_findLive_91 : decode cX8_findLive 91 = .ok (.invokevirtual 110, 3) := by decide +kernel
theorem dX8_findLive_94 : decode cX8_findLive 94 = .ok (.iconst 1, 1) := by decide +kernel
theorem dX8_findLive_95 : decode cX8_findLive 95 = .ok (.bastore, 1) := by decide +kernel
theorem dX8_findLive_96 : decode cX8_findLive 96 = .ok (.iinc 1 1, 3) := by decide +kernel
theorem dX8_findLive_99 : decode cX8_findLive 99 = .ok (.goto (-45), 3) := by decide +kernel
theorem dX8_findLive_102 : decode cX8_findLive 102 = .ok (.iconst 1, 1) := by decide +kernel
theorem dX8_findLive_103 : decode cX8_findLive 103 = .ok (.istore_n 1, 1) := by decide +kernel
theorem dX8_findLive_104 : decode cX8_findLive 104 = .ok (.iload_n 1, 1) := by decide +kernel
theorem dX8_findLive_105 : decode cX8_findLive 105 = .ok (.ifCond .eq 56, 3) := by decide +kernel
theorem dX8_findLive_108 : decode cX8_findLive 108 = .ok (.iconst 0, 1) := by decide +kernel
theorem dX8_findLive_109 : decode cX8_findLive 109 = .ok (.istore_n 1, 1) := by decide +kernel
theorem dX8_findLive_110 : decode cX8_findLive 110 = .ok (.iconst 0, 1) := by decide +kernel
theorem dX8_findLive_111 : decode cX8_findLive 111 = .ok (.istore_n 2, 1) := by decide +kernel
theorem dX8_findLive_112 : decode cX8_findLive 112 = .ok (.iload_n 2, 1) := by decide +kernel
theorem dX8_findLive_113 : decode cX8_findLive 113 = .ok (.aload_n 0, 1) := by decide +kernel
theorem dX8_findLive_114 : decode cX8_findLive 114 = .ok (.getfield 7, 3) := by decide +kernel
theorem dX8_findLive_117 : decode cX8_findLive 117 = .ok (.iconst 5, 1) := by decide +kernel
theorem dX8_findLive_118 : decode cX8_findLive 118 = .ok (.iaload, 1) := by decide +kernel
theorem dX8_findLive_119 : decode cX8_findLive 119 = .ok (.if_icmp .ge 39, 3) := by decide +kernel
theorem dX8_findLive_122 : decode cX8_findLive 122 = .ok (.aload_n 0, 1) := by decide +kernel
theorem dX8_findLive_123 : decode cX8_findLive 123 = .ok (.iload_n 2, 1) := by decide +kernel
theorem dX8_findLive_124 : decode cX8_findLive 124 = .ok (.iconst 0, 1) := by decide +kernel
theorem dX8_findLive_125 : decode cX8_findLive 125 = .ok (.invokevirtual 72, 3) := by decide +kernel
theorem dX8_findLive_128 : decode cX8_findLive 128 = .ok (.iconst 3, 1) := by decide +kernel
theorem dX8_findLive_129 : decode cX8_findLive 129 = .ok (.if_icmp .ne 23, 3) := by decide +kernel
theorem dX8_findLive_132 : decode cX8_findLive 132 = .ok (.aload_n 0, 1) := by decide +kernel
theorem dX8_findLive_133 : decode cX8_findLive 133 = .ok (.iload_n 2, 1) := by decide +kernel
theorem dX8_findLive_134 : decode cX8_findLive 134 = .ok (.invokevirtual 126, 3) := by decide +kernel
theorem dX8_findLive_137 : decode cX8_findLive 137 = .ok (.istore_n 3, 1) := by decide +kernel
theorem dX8_findLive_138 : decode cX8_findLive 138 = .ok (.iload_n 1, 1) := by decide +kernel
theorem dX8_findLive_139 : decode cX8_findLive 139 = .ok (.ifCond .ne 7, 3) := by decide +kernel
theorem dX8_findLive_142 : decode cX8_findLive 142 = .ok (.iload_n 3, 1) := by decide +kernel
theorem dX8_findLive_143 : decode cX8_findLive 143 = .ok (.ifCond .eq 7, 3) := by decide +kernel
theorem dX8_findLive_146 : decode cX8_findLive 146 = .ok (.iconst 1, 1) := by decide +kernel
theorem dX8_findLive_147 : decode cX8_findLive 147 = .ok (.goto 4, 3) := by decide +kernel
theorem dX8_findLive_150 : decode cX8_findLive 150 = .ok (.iconst 0, 1) := by decide +kernel
theorem dX8_findLive_151 : decode cX8_findLive 151 = .ok (.istore_n 1, 1) := by decide +kernel
theorem dX8_findLive_152 : decode cX8_findLive 152 = .ok (.iinc 2 1, 3) := by decide +kernel
theorem dX8_findLive_155 : decode cX8_findLive 155 = .ok (.goto (-43), 3) := by decide +kernel
theorem dX8_findLive_158 : decode cX8_findLive 158 = .ok (.goto (-54), 3) := by decide +kernel
theorem dX8_findLive_161 : decode cX8_findLive 161 = .ok (.return_, 1) := by decide +kernel
theorem dX8_analyse_0 : decode cX8_analyse 0 = .ok (.aload_n 0, 1) := by decide +kernel
theorem dX8_analyse_1 : decode cX8_analyse 1 = .ok (.invokevirtual 129, 3) := by decide +kernel
theorem dX8_analyse_4 : decode cX8_analyse 4 = .ok (.aload_n 0, 1) := by decide +kernel
theorem dX8_analyse_5 : decode cX8_analyse 5 = .ok (.invokevirtual 132, 3) := by decide +kernel
theorem dX8_analyse_8 : decode cX8_analyse 8 = .ok (.aload_n 0, 1) := by decide +kernel
theorem dX8_analyse_9 : decode cX8_analyse 9 = .ok (.invokevirtual 135, 3) := by decide +kernel
theorem dX8_analyse_12 : decode cX8_analyse 12 = .ok (.return_, 1) := by decide +kernel
theorem dX8_escapes_0 : decode cX8_escapes 0 = .ok (.aload_n 0, 1) := by decide +kernel
theorem dX8_escapes_1 : decode cX8_escapes 1 = .ok (.iload_n 1, 1) := by decide +kernel
theorem dX8_escapes_2 : decode cX8_escapes 2 = .ok (.invokevirtual 52, 3) := by decide +kernel
theorem dX8_escapes_5 : decode cX8_escapes 5 = .ok (.ifCond .ne 7, 3) := by decide +kernel
theorem dX8_escapes_8 : decode cX8_escapes 8 = .ok (.iconst (-1), 1) := by decide +kernel
theorem dX8_escapes_9 : decode cX8_escapes 9 = .ok (.goto 16, 3) := by decide +kernel
theorem dX8_escapes_12 : decode cX8_escapes 12 = .ok (.aload_n 0, 1) := by decide +kernel
theorem dX8_escapes_13 : decode cX8_escapes 13 = .ok (.iload_n 1, 1) := by decide +kernel
theorem dX8_escapes_14 : decode cX8_escapes 14 = .ok (.invokevirtual 90, 3) := by decide +kernel
theorem dX8_escapes_17 : decode cX8_escapes 17 = .ok (.ifCond .eq 7, 3) := by decide +kernel
theorem dX8_escapes_20 : decode cX8_escapes 20 = .ok (.iconst 1, 1) := by decide +kernel
theorem dX8_escapes_21 : decode cX8_escapes 21 = .ok (.goto 4, 3) := by decide +kernel
theorem dX8_escapes_24 : decode cX8_escapes 24 = .ok (.iconst 0, 1) := by decide +kernel
theorem dX8_escapes_25 : decode cX8_escapes 25 = .ok (.ireturn, 1) := by decide +kernel
theorem dX8_partitionCount_0 : decode cX8_partitionCount 0 = .ok (.aload_n 0, 1) := by decide +kernel
theorem dX8_partitionCount_1 : decode cX8_partitionCount 1 = .ok (.iload_n 1, 1) := by decide +kernel
theorem dX8_partitionCount_2 : decode cX8_partitionCount 2 = .ok (.invokevirtual 52, 3) := by decide +kernel
theorem dX8_partitionCount_5 : decode cX8_partitionCount 5 = .ok (.ifCond .ne 5, 3) := by decide +kernel
theorem dX8_partitionCount_8 : decode cX8_partitionCount 8 = .ok (.iconst (-1), 1) := by decide +kernel
theorem dX8_partitionCount_9 : decode cX8_partitionCount 9 = .ok (.ireturn, 1) := by decide +kernel
theorem dX8_partitionCount_10 : decode cX8_partitionCount 10 = .ok (.aload_n 0, 1) := by decide +kernel
theorem dX8_partitionCount_11 : decode cX8_partitionCount 11 = .ok (.iload_n 1, 1) := by decide +kernel
theorem dX8_partitionCount_12 : decode cX8_partitionCount 12 = .ok (.invokevirtual 106, 3) := by decide +kernel
theorem dX8_partitionCount_15 : decode cX8_partitionCount 15 = .ok (.aload_n 0, 1) := by decide +kernel
theorem dX8_partitionCount_16 : decode cX8_partitionCount 16 = .ok (.getfield 25, 3) := by decide +kernel
theorem dX8_partitionCount_19 : decode cX8_partitionCount 19 = .ok (.iload_n 1, 1) := by decide +kernel
theorem dX8_partitionCount_20 : decode cX8_partitionCount 20 = .ok (.iaload, 1) := by decide +kernel
theorem dX8_partitionCount_21 : decode cX8_partitionCount 21 = .ok (.ireturn, 1) := by decide +kernel
theorem dX8_isPart_0 : decode cX8_isPart 0 = .ok (.aload_n 0, 1) := by decide +kernel
theorem dX8_isPart_1 : decode cX8_isPart 1 = .ok (.iload_n 1, 1) := by decide +kernel
theorem dX8_isPart_2 : decode cX8_isPart 2 = .ok (.invokevirtual 52, 3) := by decide +kernel
theorem dX8_isPart_5 : decode cX8_isPart 5 = .ok (.ifCond .ne 5, 3) := by decide +kernel
theorem dX8_isPart_8 : decode cX8_isPart 8 = .ok (.iconst 0, 1) := by decide +kernel
theorem dX8_isPart_9 : decode cX8_isPart 9 = .ok (.ireturn, 1) := by decide +kernel
theorem dX8_isPart_10 : decode cX8_isPart 10 = .ok (.aload_n 0, 1) := by decide +kernel
theorem dX8_isPart_11 : decode cX8_isPart 11 = .ok (.invokevirtual 138, 3) := by decide +kernel
theorem dX8_isPart_14 : decode cX8_isPart 14 = .ok (.iload_n 2, 1) := by decide +kernel
theorem dX8_isPart_15 : decode cX8_isPart 15 = .ok (.iconst 0, 1) := by decide +kernel
theorem dX8_isPart_16 : decode cX8_isPart 16 = .ok (.aload_n 0, 1) := by decide +kernel
theorem dX8_isPart_17 : decode cX8_isPart 17 = .ok (.getfield 25, 3) := by decide +kernel
theorem dX8_isPart_20 : decode cX8_isPart 20 = .ok (.iload_n 1, 1) := by decide +kernel
theorem dX8_isPart_21 : decode cX8_isPart 21 = .ok (.iaload, 1) := by decide +kernel
theorem dX8_isPart_22 : decode cX8_isPart 22 = .ok (.iconst 1, 1) := by decide +kernel
theorem dX8_isPart_23 : decode cX8_isPart 23 = .ok (.isub, 1) := by decide +kernel
theorem dX8_isPart_24 : decode cX8_isPart 24 = .ok (.invokestatic 48, 3) := by decide +kernel
theorem dX8_isPart_27 : decode cX8_isPart 27 = .ok (.ireturn, 1) := by decide +kernel
theorem dX8_partitionStart_0 : decode cX8_partitionStart 0 = .ok (.aload_n 0, 1) := by decide +kernel
theorem dX8_partitionStart_1 : decode cX8_partitionStart 1 = .ok (.iload_n 1, 1) := by decide +kernel
theorem dX8_partitionStart_2 : decode cX8_partitionStart 2 = .ok (.iload_n 2, 1) := by decide +kernel
theorem dX8_partitionStart_3 : decode cX8_partitionStart 3 = .ok (.invokevirtual 141, 3) := by decide +kernel
theorem dX8_partitionStart_6 : decode cX8_partitionStart 6 = .ok (.ifCond .eq 17, 3) := by decide +kernel
theorem dX8_partitionStart_9 : decode cX8_partitionStart 9 = .ok (.aload_n 0, 1) := by decide +kernel
theorem dX8_partitionStart_10 : decode cX8_partitionStart 10 = .ok (.getfield 19, 3) := by decide +kernel
theorem dX8_partitionStart_13 : decode cX8_partitionStart 13 = .ok (.bipush 16, 2) := by decide +kernel
theorem dX8_partitionStart_15 : decode cX8_partitionStart 15 = .ok (.iload_n 1, 1) := by decide +kernel
theorem dX8_partitionStart_16 : decode cX8_partitionStart 16 = .ok (.imul, 1) := by decide +kernel
theorem dX8_partitionStart_17 : decode cX8_partitionStart 17 = .ok (.iload_n 2, 1) := by decide +kernel
theorem dX8_partitionStart_18 : decode cX8_partitionStart 18 = .ok (.iadd, 1) := by decide +kernel
theorem dX8_partitionStart_19 : decode cX8_partitionStart 19 = .ok (.iaload, 1) := by decide +kernel
theorem dX8_partitionStart_20 : decode cX8_partitionStart 20 = .ok (.goto 4, 3) := by decide +kernel
theorem dX8_partitionStart_23 : decode cX8_partitionStart 23 = .ok (.iconst (-1), 1) := by decide +kernel
theorem dX8_partitionStart_24 : decode cX8_partitionStart 24 = .ok (.ireturn, 1) := by decide +kernel
theorem dX8_partitionLength_0 : decode cX8_partitionLength 0 = .ok (.aload_n 0, 1) := by decide +kernel
theorem dX8_partitionLength_1 : decode cX8_partitionLength 1 = .ok (.iload_n 1, 1) := by decide +kernel
theorem dX8_partitionLength_2 : decode cX8_partitionLength 2 = .ok (.iload_n 2, 1) := by decide +kernel
theorem dX8_partitionLength_3 : decode cX8_partitionLength 3 = .ok (.invokevirtual 141, 3) := by decide +kernel
theorem dX8_partitionLength_6 : decode cX8_partitionLength 6 = .ok (.ifCond .eq 17, 3) := by decide +kernel
theorem dX8_partitionLength_9 : decode cX8_partitionLength 9 = .ok (.aload_n 0, 1) := by decide +kernel
theorem dX8_partitionLength_10 : decode cX8_partitionLength 10 = .ok (.getfield 22, 3) := by decide +kernel
theorem dX8_partitionLength_13 : decode cX8_partitionLength 13 = .ok (.bipush 16, 2) := by decide +kernel
theorem dX8_partitionLength_15 : decode cX8_partitionLength 15 = .ok (.iload_n 1, 1) := by decide +kernel
theorem dX8_partitionLength_16 : decode cX8_partitionLength 16 = .ok (.imul, 1) := by decide +kernel
theorem dX8_partitionLength_17 : decode cX8_partitionLength 17 = .ok (.iload_n 2, 1) := by decide +kernel
theorem dX8_partitionLength_18 : decode cX8_partitionLength 18 = .ok (.iadd, 1) := by decide +kernel
theorem dX8_partitionLength_19 : decode cX8_partitionLength 19 = .ok (.iaload, 1) := by decide +kernel
theorem dX8_partitionLength_20 : decode cX8_partitionLength 20 = .ok (.goto 4, 3) := by decide +kernel
theorem dX8_partitionLength_23 : decode cX8_partitionLength 23 = .ok (.iconst (-1), 1) := by decide +kernel
theorem dX8_partitionLength_24 : decode cX8_partitionLength 24 = .ok (.ireturn, 1) := by decide +kernel
theorem dX8_isPromotable_0 : decode cX8_isPromotable 0 = .ok (.aload_n 0, 1) := by decide +kernel
theorem dX8_isPromotable_1 : decode cX8_isPromotable 1 = .ok (.iload_n 1, 1) := by decide +kernel
theorem dX8_isPromotable_2 : decode cX8_isPromotable 2 = .ok (.iload_n 2, 1) := by decide +kernel
theorem dX8_isPromotable_3 : decode cX8_isPromotable 3 = .ok (.invokevirtual 141, 3) := by decide +kernel
theorem dX8_isPromotable_6 : decode cX8_isPromotable 6 = .ok (.ifCond .ne 7, 3) := by decide +kernel
theorem dX8_isPromotable_9 : decode cX8_isPromotable 9 = .ok (.iconst (-1), 1) := by decide +kernel
theorem dX8_isPromotable_10 : decode cX8_isPromotable 10 = .ok (.goto 22, 3) := by decide +kernel
theorem dX8_isPromotable_13 : decode cX8_isPromotable 13 = .ok (.aload_n 0, 1) := by decide +kernel
theorem dX8_isPromotable_14 : decode cX8_isPromotable 14 = .ok (.getfield 28, 3) := by decide +kernel
theorem dX8_isPromotable_17 : decode cX8_isPromotable 17 = .ok (.bipush 16, 2) := by decide +kernel
theorem dX8_isPromotable_19 : decode cX8_isPromotable 19 = .ok (.iload_n 1, 1) := by decide +kernel
theorem dX8_isPromotable_20 : decode cX8_isPromotable 20 = .ok (.imul, 1) := by decide +kernel
theorem dX8_isPromotable_21 : decode cX8_isPromotable 21 = .ok (.iload_n 2, 1) := by decide +kernel
theorem dX8_isPromotable_22 : decode cX8_isPromotable 22 = .ok (.iadd, 1) := by decide +kernel
theorem dX8_isPromotable_23 : decode cX8_isPromotable 23 = .ok (.baload, 1) := by decide +kernel
theorem dX8_isPromotable_24 : decode cX8_isPromotable 24 = .ok (.ifCond .eq 7, 3) := by decide +kernel
theorem dX8_isPromotable_27 : decode cX8_isPromotable 27 = .ok (.iconst 1, 1) := by decide +kernel
theorem dX8_isPromotable_28 : decode cX8_isPromotable 28 = .ok (.goto 4, 3) := by decide +kernel
theorem dX8_isPromotable_31 : decode cX8_isPromotable 31 = .ok (.iconst 0, 1) := by decide +kernel
theorem dX8_isPromotable_32 : decode cX8_isPromotable 32 = .ok (.ireturn, 1) := by decide +kernel
theorem dX8_isLive_0 : decode cX8_isLive 0 = .ok (.aload_n 0, 1) := by decide +kernel
theorem dX8_isLive_1 : decode cX8_isLive 1 = .ok (.iload_n 1, 1) := by decide +kernel
theorem dX8_isLive_2 : decode cX8_isLive 2 = .ok (.iload_n 2, 1) := by decide +kernel
theorem dX8_isLive_3 : decode cX8_isLive 3 = .ok (.invokevirtual 141, 3) := by decide +kernel
theorem dX8_isLive_6 : decode cX8_isLive 6 = .ok (.ifCond .ne 7, 3) := by decide +kernel
theorem dX8_isLive_9 : decode cX8_isLive 9 = .ok (.iconst (-1), 1) := by decide +kernel
theorem dX8_isLive_10 : decode cX8_isLive 10 = .ok (.goto 22, 3) := by decide +kernel
theorem dX8_isLive_13 : decode cX8_isLive 13 = .ok (.aload_n 0, 1) := by decide +kernel
theorem dX8_isLive_14 : decode cX8_isLive 14 = .ok (.getfield 32, 3) := by decide +kernel
theorem dX8_isLive_17 : decode cX8_isLive 17 = .ok (.bipush 16, 2) := by decide +kernel
theorem dX8_isLive_19 : decode cX8_isLive 19 = .ok (.iload_n 1, 1) := by decide +kernel
theorem dX8_isLive_20 : decode cX8_isLive 20 = .ok (.imul, 1) := by decide +kernel
theorem dX8_isLive_21 : decode cX8_isLive 21 = .ok (.iload_n 2, 1) := by decide +kernel
theorem dX8_isLive_22 : decode cX8_isLive 22 = .ok (.iadd, 1) := by decide +kernel
theorem dX8_isLive_23 : decode cX8_isLive 23 = .ok (.baload, 1) := by decide +kernel
theorem dX8_isLive_24 : decode cX8_isLive 24 = .ok (.ifCond .eq 7, 3) := by decide +kernel
theorem dX8_isLive_27 : decode cX8_isLive 27 = .ok (.iconst 1, 1) := by decide +kernel
theorem dX8_isLive_28 : decode cX8_isLive 28 = .ok (.goto 4, 3) := by decide +kernel
theorem dX8_isLive_31 : decode cX8_isLive 31 = .ok (.iconst 0, 1) := by decide +kernel
theorem dX8_isLive_32 : decode cX8_isLive 32 = .ok (.ireturn, 1) := by decide +kernel
theorem dX8_paddingBytes_0 : decode cX8_paddingBytes 0 = .ok (.aload_n 0, 1) := by decide +kernel
theorem dX8_paddingBytes_1 : decode cX8_paddingBytes 1 = .ok (.iload_n 1, 1) := by decide +kernel
theorem dX8_paddingBytes_2 : decode cX8_paddingBytes 2 = .ok (.invokevirtual 52, 3) := by decide +kernel
theorem dX8_paddingBytes_5 : decode cX8_paddingBytes 5 = .ok (.ifCond .ne 5, 3) := by decide +kernel
theorem dX8_paddingBytes_8 : decode cX8_paddingBytes 8 = .ok (.iconst (-1), 1) := by decide +kernel
theorem dX8_paddingBytes_9 : decode cX8_paddingBytes 9 = .ok (.ireturn, 1) := by decide +kernel
theorem dX8_paddingBytes_10 : decode cX8_paddingBytes 10 = .ok (.iconst 0, 1) := by decide +kernel
theorem dX8_paddingBytes_11 : decode cX8_paddingBytes 11 = .ok (.istore_n 2, 1) := by decide +kernel
theorem dX8_paddingBytes_12 : decode cX8_paddingBytes 12 = .ok (.iconst 0, 1) := by decide +kernel
theorem dX8_paddingBytes_13 : decode cX8_paddingBytes 13 = .ok (.istore_n 3, 1) := by decide +kernel
theorem dX8_paddingBytes_14 : decode cX8_paddingBytes 14 = .ok (.iload_n 3, 1) := by decide +kernel
theorem dX8_paddingBytes_15 : decode cX8_paddingBytes 15 = .ok (.aload_n 0, 1) := by decide +kernel
theorem dX8_paddingBytes_16 : decode cX8_paddingBytes 16 = .ok (.getfield 7, 3) := by decide +kernel
theorem dX8_paddingBytes_19 : decode cX8_paddingBytes 19 = .ok (.iconst 1, 1) := by decide +kernel
theorem dX8_paddingBytes_20 : decode cX8_paddingBytes 20 = .ok (.iload_n 1, 1) := by decide +kernel
theorem dX8_paddingBytes_21 : decode cX8_paddingBytes 21 = .ok (.iadd, 1) := by decide +kernel
theorem dX8_paddingBytes_22 : decode cX8_paddingBytes 22 = .ok (.iaload, 1) := by decide +kernel
theorem dX8_paddingBytes_23 : decode cX8_paddingBytes 23 = .ok (.if_icmp .ge 26, 3) := by decide +kernel
theorem dX8_paddingBytes_26 : decode cX8_paddingBytes 26 = .ok (.iload_n 2, 1) := by decide +kernel
theorem dX8_paddingBytes_27 : decode cX8_paddingBytes 27 = .ok (.aload_n 0, 1) := by decide +kernel
theorem dX8_paddingBytes_28 : decode cX8_paddingBytes 28 = .ok (.iload_n 1, 1) := by decide +kernel
theorem dX8_paddingBytes_29 : decode cX8_paddingBytes 29 = .ok (.iload_n 3, 1) := by decide +kernel
theorem dX8_paddingBytes_30 : decode cX8_paddingBytes 30 = .ok (.invokevirtual 100, 3) := by decide +kernel
theorem dX8_paddingBytes_33 : decode cX8_paddingBytes 33 = .ok (.ifCond .eq 7, 3) := by decide +kernel
theorem dX8_paddingBytes_36 : decode cX8_paddingBytes 36 = .ok (.iconst 0, 1) := by decide +kernel
theorem dX8_paddingBytes_37 : decode cX8_paddingBytes 37 = .ok (.goto 4, 3) := by decide +kernel
theorem dX8_paddingBytes_40 : decode cX8_paddingBytes 40 = .ok (.iconst 1, 1) := by decide +kernel
theorem dX8_paddingBytes_41 : decode cX8_paddingBytes 41 = .ok (.iadd, 1) := by decide +kernel
theorem dX8_paddingBytes_42 : decode cX8_paddingBytes 42 = .ok (.istore_n 2, 1) := by decide +kernel
theorem dX8_paddingBytes_43 : decode cX8_paddingBytes 43 = .ok (.iinc 3 1, 3) := by decide +kernel
theorem dX8_paddingBytes_46 : decode cX8_paddingBytes 46 = .ok (.goto (-32), 3) := by decide +kernel
theorem dX8_paddingBytes_49 : decode cX8_paddingBytes 49 = .ok (.iload_n 2, 1) := by decide +kernel
theorem dX8_paddingBytes_50 : decode cX8_paddingBytes 50 = .ok (.ireturn, 1) := by decide +kernel
theorem dX8_isCopy_0 : decode cX8_isCopy 0 = .ok (.iload_n 1, 1) := by decide +kernel
theorem dX8_isCopy_1 : decode cX8_isCopy 1 = .ok (.iconst 0, 1) := by decide +kernel
theorem dX8_isCopy_2 : decode cX8_isCopy 2 = .ok (.aload_n 0, 1) := by decide +kernel
theorem dX8_isCopy_3 : decode cX8_isCopy 3 = .ok (.getfield 7, 3) := by decide +kernel
theorem dX8_isCopy_6 : decode cX8_isCopy 6 = .ok (.iconst 5, 1) := by decide +kernel
theorem dX8_isCopy_7 : decode cX8_isCopy 7 = .ok (.iaload, 1) := by decide +kernel
theorem dX8_isCopy_8 : decode cX8_isCopy 8 = .ok (.iconst 1, 1) := by decide +kernel
theorem dX8_isCopy_9 : decode cX8_isCopy 9 = .ok (.isub, 1) := by decide +kernel
theorem dX8_isCopy_10 : decode cX8_isCopy 10 = .ok (.invokestatic 48, 3) := by decide +kernel
theorem dX8_isCopy_13 : decode cX8_isCopy 13 = .ok (.ifCond .eq 17, 3) := by decide +kernel
theorem dX8_isCopy_16 : decode cX8_isCopy 16 = .ok (.aload_n 0, 1) := by decide +kernel
theorem dX8_isCopy_17 : decode cX8_isCopy 17 = .ok (.iload_n 1, 1) := by decide +kernel
theorem dX8_isCopy_18 : decode cX8_isCopy 18 = .ok (.iconst 0, 1) := by decide +kernel
theorem dX8_isCopy_19 : decode cX8_isCopy 19 = .ok (.invokevirtual 72, 3) := by decide +kernel
theorem dX8_isCopy_22 : decode cX8_isCopy 22 = .ok (.iconst 3, 1) := by decide +kernel
theorem dX8_isCopy_23 : decode cX8_isCopy 23 = .ok (.if_icmp .ne 7, 3) := by decide +kernel
theorem dX8_isCopy_26 : decode cX8_isCopy 26 = .ok (.iconst 1, 1) := by decide +kernel
theorem dX8_isCopy_27 : decode cX8_isCopy 27 = .ok (.goto 4, 3) := by decide +kernel
theorem dX8_isCopy_30 : decode cX8_isCopy 30 = .ok (.iconst 0, 1) := by decide +kernel
theorem dX8_isCopy_31 : decode cX8_isCopy 31 = .ok (.ireturn, 1) := by decide +kernel
theorem dX8_pieceCount_0 : decode cX8_pieceCount 0 = .ok (.aload_n 0, 1) := by decide +kernel
theorem dX8_pieceCount_1 : decode cX8_pieceCount 1 = .ok (.iload_n 1, 1) := by decide +kernel
theorem dX8_pieceCount_2 : decode cX8_pieceCount 2 = .ok (.invokevirtual 144, 3) := by decide +kernel
theorem dX8_pieceCount_5 : decode cX8_pieceCount 5 = .ok (.ifCond .ne 5, 3) := by decide +kernel
theorem dX8_pieceCount_8 : decode cX8_pieceCount 8 = .ok (.iconst (-1), 1) := by decide +kernel
theorem dX8_pieceCount_9 : decode cX8_pieceCount 9 = .ok (.ireturn, 1) := by decide +kernel
theorem dX8_pieceCount_10 : decode cX8_pieceCount 10 = .ok (.aload_n 0, 1) := by decide +kernel
theorem dX8_pieceCount_11 : decode cX8_pieceCount 11 = .ok (.invokevirtual 129, 3) := by decide +kernel
theorem dX8_pieceCount_14 : decode cX8_pieceCount 14 = .ok (.iconst 0, 1) := by decide +kernel
theorem dX8_pieceCount_15 : decode cX8_pieceCount 15 = .ok (.istore_n 2, 1) := by decide +kernel
theorem dX8_pieceCount_16 : decode cX8_pieceCount 16 = .ok (.iconst 0, 1) := by decide +kernel
theorem dX8_pieceCount_17 : decode cX8_pieceCount 17 = .ok (.istore_n 3, 1) := by decide +kernel
theorem dX8_pieceCount_18 : decode cX8_pieceCount 18 = .ok (.iload_n 3, 1) := by decide +kernel
theorem dX8_pieceCount_19 : decode cX8_pieceCount 19 = .ok (.aload_n 0, 1) := by decide +kernel
theorem dX8_pieceCount_20 : decode cX8_pieceCount 20 = .ok (.iload_n 1, 1) := by decide +kernel
theorem dX8_pieceCount_21 : decode cX8_pieceCount 21 = .ok (.iconst 5, 1) := by decide +kernel
theorem dX8_pieceCount_22 : decode cX8_pieceCount 22 = .ok (.invokevirtual 72, 3) := by decide +kernel
theorem dX8_pieceCount_25 : decode cX8_pieceCount 25 = .ok (.if_icmp .ge 18, 3) := by decide +kernel
theorem dX8_pieceCount_28 : decode cX8_pieceCount 28 = .ok (.iload_n 3, 1) := by decide +kernel
theorem dX8_pieceCount_29 : decode cX8_pieceCount 29 = .ok (.aload_n 0, 1) := by decide +kernel
theorem dX8_pieceCount_30 : decode cX8_pieceCount 30 = .ok (.iload_n 1, 1) := by decide +kernel
theorem dX8_pieceCount_31 : decode cX8_pieceCount 31 = .ok (.iload_n 3, 1) := by decide +kernel
theorem dX8_pieceCount_32 : decode cX8_pieceCount 32 = .ok (.invokevirtual 116, 3) := by decide +kernel
theorem dX8_pieceCount_35 : decode cX8_pieceCount 35 = .ok (.iadd, 1) := by decide +kernel
theorem dX8_pieceCount_36 : decode cX8_pieceCount 36 = .ok (.istore_n 3, 1) := by decide +kernel
theorem dX8_pieceCount_37 : decode cX8_pieceCount 37 = .ok (.iinc 2 1, 3) := by decide +kernel
theorem dX8_pieceCount_40 : decode cX8_pieceCount 40 = .ok (.goto (-22), 3) := by decide +kernel
theorem dX8_pieceCount_43 : decode cX8_pieceCount 43 = .ok (.iload_n 2, 1) := by decide +kernel
theorem dX8_pieceCount_44 : decode cX8_pieceCount 44 = .ok (.ireturn, 1) := by decide +kernel
theorem dX8_pieceLength_0 : decode cX8_pieceLength 0 = .ok (.aload_n 0, 1) := by decide +kernel
theorem dX8_pieceLength_1 : decode cX8_pieceLength 1 = .ok (.iload_n 1, 1) := by decide +kernel
theorem dX8_pieceLength_2 : decode cX8_pieceLength 2 = .ok (.invokevirtual 144, 3) := by decide +kernel
theorem dX8_pieceLength_5 : decode cX8_pieceLength 5 = .ok (.ifCond .eq 7, 3) := by decide +kernel
theorem dX8_pieceLength_8 : decode cX8_pieceLength 8 = .ok (.iload_n 2, 1) := by decide +kernel
theorem dX8_pieceLength_9 : decode cX8_pieceLength 9 = .ok (.ifCond .ge 5, 3) := by decide +kernel
theorem dX8_pieceLength_12 : decode cX8_pieceLength 12 = .ok (.iconst (-1), 1) := by decide +kernel
theorem dX8_pieceLength_13 : decode cX8_pieceLength 13 = .ok (.ireturn, 1) := by decide +kernel
theorem dX8_pieceLength_14 : decode cX8_pieceLength 14 = .ok (.aload_n 0, 1) := by decide +kernel
theorem dX8_pieceLength_15 : decode cX8_pieceLength 15 = .ok (.invokevirtual 129, 3) := by decide +kernel
theorem dX8_pieceLength_18 : decode cX8_pieceLength 18 = .ok (.iload_n 2, 1) := by decide +kernel
theorem dX8_pieceLength_19 : decode cX8_pieceLength 19 = .ok (.istore_n 3, 1) := by decide +kernel
theorem dX8_pieceLength_20 : decode cX8_pieceLength 20 = .ok (.iconst 0, 1) := by decide +kernel
theorem dX8_pieceLength_21 : decode cX8_pieceLength 21 = .ok (.istore 4, 2) := by decide +kernel
theorem dX8_pieceLength_23 : decode cX8_pieceLength 23 = .ok (.iload 4, 2) := by decide +kernel
theorem dX8_pieceLength_25 : decode cX8_pieceLength 25 = .ok (.aload_n 0, 1) := by decide +kernel
theorem dX8_pieceLength_26 : decode cX8_pieceLength 26 = .ok (.iload_n 1, 1) := by decide +kernel
theorem dX8_pieceLength_27 : decode cX8_pieceLength 27 = .ok (.iconst 5, 1) := by decide +kernel
theorem dX8_pieceLength_28 : decode cX8_pieceLength 28 = .ok (.invokevirtual 72, 3) := by decide +kernel
theorem dX8_pieceLength_31 : decode cX8_pieceLength 31 = .ok (.if_icmp .ge 32, 3) := by decide +kernel
theorem dX8_pieceLength_34 : decode cX8_pieceLength 34 = .ok (.aload_n 0, 1) := by decide +kernel
theorem dX8_pieceLength_35 : decode cX8_pieceLength 35 = .ok (.iload_n 1, 1) := by decide +kernel
theorem dX8_pieceLength_36 : decode cX8_pieceLength 36 = .ok (.iload 4, 2) := by decide +kernel
theorem dX8_pieceLength_38 : decode cX8_pieceLength 38 = .ok (.invokevirtual 116, 3) := by decide +kernel
theorem dX8_pieceLength_41 : decode cX8_pieceLength 41 = .ok (.istore 5, 2) := by decide +kernel
theorem dX8_pieceLength_43 : decode cX8_pieceLength 43 = .ok (.iload_n 3, 1) := by decide +kernel
theorem dX8_pieceLength_44 : decode cX8_pieceLength 44 = .ok (.ifCond .ne 6, 3) := by decide +kernel
theorem dX8_pieceLength_47 : decode cX8_pieceLength 47 = .ok (.iload 5, 2) := by decide +kernel
theorem dX8_pieceLength_49 : decode cX8_pieceLength 49 = .ok (.ireturn, 1) := by decide +kernel
theorem dX8_pieceLength_50 : decode cX8_pieceLength 50 = .ok (.iinc 3 (-1), 3) := by decide +kernel
theorem dX8_pieceLength_53 : decode cX8_pieceLength 53 = .ok (.iload 4, 2) := by decide +kernel
theorem dX8_pieceLength_55 : decode cX8_pieceLength 55 = .ok (.iload 5, 2) := by decide +kernel
theorem dX8_pieceLength_57 : decode cX8_pieceLength 57 = .ok (.iadd, 1) := by decide +kernel
theorem dX8_pieceLength_58 : decode cX8_pieceLength 58 = .ok (.istore 4, 2) := by decide +kernel
theorem dX8_pieceLength_60 : decode cX8_pieceLength 60 = .ok (.goto (-37), 3) := by decide +kernel
theorem dX8_pieceLength_63 : decode cX8_pieceLength 63 = .ok (.iconst (-1), 1) := by decide +kernel
theorem dX8_pieceLength_64 : decode cX8_pieceLength 64 = .ok (.ireturn, 1) := by decide +kernel
theorem dX8_scalarCount_0 : decode cX8_scalarCount 0 = .ok (.aload_n 0, 1) := by decide +kernel
theorem dX8_scalarCount_1 : decode cX8_scalarCount 1 = .ok (.invokevirtual 138, 3) := by decide +kernel
theorem dX8_scalarCount_4 : decode cX8_scalarCount 4 = .ok (.iconst 0, 1) := by decide +kernel
theorem dX8_scalarCount_5 : decode cX8_scalarCount 5 = .ok (.istore_n 1, 1) := by decide +kernel
theorem dX8_scalarCount_6 : decode cX8_scalarCount 6 = .ok (.iconst 0, 1) := by decide +kernel
theorem dX8_scalarCount_7 : decode cX8_scalarCount 7 = .ok (.istore_n 2, 1) := by decide +kernel
theorem dX8_scalarCount_8 : decode cX8_scalarCount 8 = .ok (.iload_n 2, 1) := by decide +kernel
theorem dX8_scalarCount_9 : decode cX8_scalarCount 9 = .ok (.aload_n 0, 1) := by decide +kernel
theorem dX8_scalarCount_10 : decode cX8_scalarCount 10 = .ok (.getfield 7, 3) := by decide +kernel
theorem dX8_scalarCount_13 : decode cX8_scalarCount 13 = .ok (.iconst 0, 1) := by decide +kernel
theorem dX8_scalarCount_14 : decode cX8_scalarCount 14 = .ok (.iaload, 1) := by decide +kernel
theorem dX8_scalarCount_15 : decode cX8_scalarCount 15 = .ok (.if_icmp .ge 63, 3) := by decide +kernel
theorem dX8_scalarCount_18 : decode cX8_scalarCount 18 = .ok (.iconst 0, 1) := by decide +kernel
theorem dX8_scalarCount_19 : decode cX8_scalarCount 19 = .ok (.istore_n 3, 1) := by decide +kernel
theorem dX8_scalarCount_20 : decode cX8_scalarCount 20 = .ok (.iload_n 3, 1) := by decide +kernel
theorem dX8_scalarCount_21 : decode cX8_scalarCount 21 = .ok (.aload_n 0, 1) := by decide +kernel
theorem dX8_scalarCount_22 : decode cX8_scalarCount 22 = .ok (.getfield 25, 3) := by decide +kernel
theorem dX8_scalarCount_25 : decode cX8_scalarCount 25 = .ok (.iload_n 2, 1) := by decide +kernel
theorem dX8_scalarCount_26 : decode cX8_scalarCount 26 = .ok (.iaload, 1) := by decide +kernel
theorem dX8_scalarCount_27 : decode cX8_scalarCount 27 = .ok (.if_icmp .ge 45, 3) := by decide +kernel
theorem dX8_scalarCount_30 : decode cX8_scalarCount 30 = .ok (.iload_n 1, 1) := by decide +kernel
theorem dX8_scalarCount_31 : decode cX8_scalarCount 31 = .ok (.aload_n 0, 1) := by decide +kernel
theorem dX8_scalarCount_32 : decode cX8_scalarCount 32 = .ok (.getfield 32, 3) := by decide +kernel
theorem dX8_scalarCount_35 : decode cX8_scalarCount 35 = .ok (.bipush 16, 2) := by decide +kernel
theorem dX8_scalarCount_37 : decode cX8_scalarCount 37 = .ok (.iload_n 2, 1) := by decide +kernel
theorem dX8_scalarCount_38 : decode cX8_scalarCount 38 = .ok (.imul, 1) := by decide +kernel
theorem dX8_scalarCount_39 : decode cX8_scalarCount 39 = .ok (.iload_n 3, 1) := by decide +kernel
theorem dX8_scalarCount_40 : decode cX8_scalarCount 40 = .ok (.iadd, 1) := by decide +kernel
theorem dX8_scalarCount_41 : decode cX8_scalarCount 41 = .ok (.baload, 1) := by decide +kernel
theorem dX8_scalarCount_42 : decode cX8_scalarCount 42 = .ok (.ifCond .eq 21, 3) := by decide +kernel
theorem dX8_scalarCount_45 : decode cX8_scalarCount 45 = .ok (.aload_n 0, 1) := by decide +kernel
theorem dX8_scalarCount_46 : decode cX8_scalarCount 46 = .ok (.getfield 28, 3) := by decide +kernel
theorem dX8_scalarCount_49 : decode cX8_scalarCount 49 = .ok (.bipush 16, 2) := by decide +kernel
theorem dX8_scalarCount_51 : decode cX8_scalarCount 51 = .ok (.iload_n 2, 1) := by decide +kernel
theorem dX8_scalarCount_52 : decode cX8_scalarCount 52 = .ok (.imul, 1) := by decide +kernel
theorem dX8_scalarCount_53 : decode cX8_scalarCount 53 = .ok (.iload_n 3, 1) := by decide +kernel
theorem dX8_scalarCount_54 : decode cX8_scalarCount 54 = .ok (.iadd, 1) := by decide +kernel
theorem dX8_scalarCount_55 : decode cX8_scalarCount 55 = .ok (.baload, 1) := by decide +kernel
theorem dX8_scalarCount_56 : decode cX8_scalarCount 56 = .ok (.ifCond .eq 7, 3) := by decide +kernel
theorem dX8_scalarCount_59 : decode cX8_scalarCount 59 = .ok (.iconst 1, 1) := by decide +kernel
theorem dX8_scalarCount_60 : decode cX8_scalarCount 60 = .ok (.goto 4, 3) := by decide +kernel
theorem dX8_scalarCount_63 : decode cX8_scalarCount 63 = .ok (.iconst 0, 1) := by decide +kernel
theorem dX8_scalarCount_64 : decode cX8_scalarCount 64 = .ok (.iadd, 1) := by decide +kernel
theorem dX8_scalarCount_65 : decode cX8_scalarCount 65 = .ok (.istore_n 1, 1) := by decide +kernel
theorem dX8_scalarCount_66 : decode cX8_scalarCount 66 = .ok (.iinc 3 1, 3) := by decide +kernel
theorem dX8_scalarCount_69 : decode cX8_scalarCount 69 = .ok (.goto (-49), 3) := by decide +kernel
theorem dX8_scalarCount_72 : decode cX8_scalarCount 72 = .ok (.iinc 2 1, 3) := by decide +kernel
theorem dX8_scalarCount_75 : decode cX8_scalarCount 75 = .ok (.goto (-67), 3) := by decide +kernel
theorem dX8_scalarCount_78 : decode cX8_scalarCount 78 = .ok (.iload_n 1, 1) := by decide +kernel
theorem dX8_scalarCount_79 : decode cX8_scalarCount 79 = .ok (.ireturn, 1) := by decide +kernel
theorem dX8_liveBytes_0 : decode cX8_liveBytes 0 = .ok (.aload_n 0, 1) := by decide +kernel
theorem dX8_liveBytes_1 : decode cX8_liveBytes 1 = .ok (.invokevirtual 138, 3) := by decide +kernel
theorem dX8_liveBytes_4 : decode cX8_liveBytes 4 = .ok (.iconst 0, 1) := by decide +kernel
theorem dX8_liveBytes_5 : decode cX8_liveBytes 5 = .ok (.istore_n 1, 1) := by decide +kernel
theorem dX8_liveBytes_6 : decode cX8_liveBytes 6 = .ok (.iconst 0, 1) := by decide +kernel
theorem dX8_liveBytes_7 : decode cX8_liveBytes 7 = .ok (.istore_n 2, 1) := by decide +kernel
theorem dX8_liveBytes_8 : decode cX8_liveBytes 8 = .ok (.iload_n 2, 1) := by decide +kernel
theorem dX8_liveBytes_9 : decode cX8_liveBytes 9 = .ok (.aload_n 0, 1) := by decide +kernel
theorem dX8_liveBytes_10 : decode cX8_liveBytes 10 = .ok (.getfield 7, 3) := by decide +kernel
theorem dX8_liveBytes_13 : decode cX8_liveBytes 13 = .ok (.iconst 0, 1) := by decide +kernel
theorem dX8_liveBytes_14 : decode cX8_liveBytes 14 = .ok (.iaload, 1) := by decide +kernel
theorem dX8_liveBytes_15 : decode cX8_liveBytes 15 = .ok (.if_icmp .ge 59, 3) := by decide +kernel
theorem dX8_liveBytes_18 : decode cX8_liveBytes 18 = .ok (.iconst 0, 1) := by decide +kernel
theorem dX8_liveBytes_19 : decode cX8_liveBytes 19 = .ok (.istore_n 3, 1) := by decide +kernel
theorem dX8_liveBytes_20 : decode cX8_liveBytes 20 = .ok (.iload_n 3, 1) := by decide +kernel
theorem dX8_liveBytes_21 : decode cX8_liveBytes 21 = .ok (.aload_n 0, 1) := by decide +kernel
theorem dX8_liveBytes_22 : decode cX8_liveBytes 22 = .ok (.getfield 25, 3) := by decide +kernel
theorem dX8_liveBytes_25 : decode cX8_liveBytes 25 = .ok (.iload_n 2, 1) := by decide +kernel
theorem dX8_liveBytes_26 : decode cX8_liveBytes 26 = .ok (.iaload, 1) := by decide +kernel
theorem dX8_liveBytes_27 : decode cX8_liveBytes 27 = .ok (.if_icmp .ge 41, 3) := by decide +kernel
theorem dX8_liveBytes_30 : decode cX8_liveBytes 30 = .ok (.iload_n 1, 1) := by decide +kernel
theorem dX8_liveBytes_31 : decode cX8_liveBytes 31 = .ok (.aload_n 0, 1) := by decide +kernel
theorem dX8_liveBytes_32 : decode cX8_liveBytes 32 = .ok (.getfield 32, 3) := by decide +kernel
theorem dX8_liveBytes_35 : decode cX8_liveBytes 35 = .ok (.bipush 16, 2) := by decide +kernel
theorem dX8_liveBytes_37 : decode cX8_liveBytes 37 = .ok (.iload_n 2, 1) := by decide +kernel
theorem dX8_liveBytes_38 : decode cX8_liveBytes 38 = .ok (.imul, 1) := by decide +kernel
theorem dX8_liveBytes_39 : decode cX8_liveBytes 39 = .ok (.iload_n 3, 1) := by decide +kernel
theorem dX8_liveBytes_40 : decode cX8_liveBytes 40 = .ok (.iadd, 1) := by decide +kernel
theorem dX8_liveBytes_41 : decode cX8_liveBytes 41 = .ok (.baload, 1) := by decide +kernel
theorem dX8_liveBytes_42 : decode cX8_liveBytes 42 = .ok (.ifCond .eq 17, 3) := by decide +kernel
theorem dX8_liveBytes_45 : decode cX8_liveBytes 45 = .ok (.aload_n 0, 1) := by decide +kernel
theorem dX8_liveBytes_46 : decode cX8_liveBytes 46 = .ok (.getfield 22, 3) := by decide +kernel
theorem dX8_liveBytes_49 : decode cX8_liveBytes 49 = .ok (.bipush 16, 2) := by decide +kernel
theorem dX8_liveBytes_51 : decode cX8_liveBytes 51 = .ok (.iload_n 2, 1) := by decide +kernel
theorem dX8_liveBytes_52 : decode cX8_liveBytes 52 = .ok (.imul, 1) := by decide +kernel
theorem dX8_liveBytes_53 : decode cX8_liveBytes 53 = .ok (.iload_n 3, 1) := by decide +kernel
theorem dX8_liveBytes_54 : decode cX8_liveBytes 54 = .ok (.iadd, 1) := by decide +kernel
theorem dX8_liveBytes_55 : decode cX8_liveBytes 55 = .ok (.iaload, 1) := by decide +kernel
theorem dX8_liveBytes_56 : decode cX8_liveBytes 56 = .ok (.goto 4, 3) := by decide +kernel
theorem dX8_liveBytes_59 : decode cX8_liveBytes 59 = .ok (.iconst 0, 1) := by decide +kernel
theorem dX8_liveBytes_60 : decode cX8_liveBytes 60 = .ok (.iadd, 1) := by decide +kernel
theorem dX8_liveBytes_61 : decode cX8_liveBytes 61 = .ok (.istore_n 1, 1) := by decide +kernel
theorem dX8_liveBytes_62 : decode cX8_liveBytes 62 = .ok (.iinc 3 1, 3) := by decide +kernel
theorem dX8_liveBytes_65 : decode cX8_liveBytes 65 = .ok (.goto (-45), 3) := by decide +kernel
theorem dX8_liveBytes_68 : decode cX8_liveBytes 68 = .ok (.iinc 2 1, 3) := by decide +kernel
theorem dX8_liveBytes_71 : decode cX8_liveBytes 71 = .ok (.goto (-63), 3) := by decide +kernel
theorem dX8_liveBytes_74 : decode cX8_liveBytes 74 = .ok (.iload_n 1, 1) := by decide +kernel
theorem dX8_liveBytes_75 : decode cX8_liveBytes 75 = .ok (.ireturn, 1) := by decide +kernel
theorem dX8_store_0 : decode cX8_store 0 = .ok (.iconst 0, 1) := by decide +kernel
theorem dX8_store_1 : decode cX8_store 1 = .ok (.istore_n 2, 1) := by decide +kernel
theorem dX8_store_2 : decode cX8_store 2 = .ok (.iload_n 2, 1) := by decide +kernel
theorem dX8_store_3 : decode cX8_store 3 = .ok (.aload_n 0, 1) := by decide +kernel
theorem dX8_store_4 : decode cX8_store 4 = .ok (.iload_n 1, 1) := by decide +kernel
theorem dX8_store_5 : decode cX8_store 5 = .ok (.iconst 3, 1) := by decide +kernel
theorem dX8_store_6 : decode cX8_store 6 = .ok (.invokevirtual 72, 3) := by decide +kernel
theorem dX8_store_9 : decode cX8_store 9 = .ok (.if_icmp .ge 52, 3) := by decide +kernel
theorem dX8_store_12 : decode cX8_store 12 = .ok (.aload_n 0, 1) := by decide +kernel
theorem dX8_store_13 : decode cX8_store 13 = .ok (.getfield 35, 3) := by decide +kernel
theorem dX8_store_16 : decode cX8_store 16 = .ok (.bipush 16, 2) := by decide +kernel
theorem dX8_store_18 : decode cX8_store 18 = .ok (.aload_n 0, 1) := by decide +kernel
theorem dX8_store_19 : decode cX8_store 19 = .ok (.iload_n 1, 1) := by decide +kernel
theorem dX8_store_20 : decode cX8_store 20 = .ok (.iconst 1, 1) := by decide +kernel
theorem dX8_store_21 : decode cX8_store 21 = .ok (.invokevirtual 72, 3) := by decide +kernel
theorem dX8_store_24 : decode cX8_store 24 = .ok (.imul, 1) := by decide +kernel
theorem dX8_store_25 : decode cX8_store 25 = .ok (.aload_n 0, 1) := by decide +kernel
theorem dX8_store_26 : decode cX8_store 26 = .ok (.iload_n 1, 1) := by decide +kernel
theorem dX8_store_27 : decode cX8_store 27 = .ok (.iconst 2, 1) := by decide +kernel
theorem dX8_store_28 : decode cX8_store 28 = .ok (.invokevirtual 72, 3) := by decide +kernel
theorem dX8_store_31 : decode cX8_store 31 = .ok (.iadd, 1) := by decide +kernel
theorem dX8_store_32 : decode cX8_store 32 = .ok (.iload_n 2, 1) := by decide +kernel
theorem dX8_store_33 : decode cX8_store 33 = .ok (.iadd, 1) := by decide +kernel
theorem dX8_store_34 : decode cX8_store 34 = .ok (.aload_n 0, 1) := by decide +kernel
theorem dX8_store_35 : decode cX8_store 35 = .ok (.getfield 38, 3) := by decide +kernel
theorem dX8_store_38 : decode cX8_store 38 = .ok (.aload_n 0, 1) := by decide +kernel
theorem dX8_store_39 : decode cX8_store 39 = .ok (.iload_n 1, 1) := by decide +kernel
theorem dX8_store_40 : decode cX8_store 40 = .ok (.iconst 4, 1) := by decide +kernel
theorem dX8_store_41 : decode cX8_store 41 = .ok (.invokevirtual 72, 3) := by decide +kernel
theorem dX8_store_44 : decode cX8_store 44 = .ok (.iaload, 1) := by decide +kernel
theorem dX8_store_45 : decode cX8_store 45 = .ok (.bipush 8, 2) := by decide +kernel
theorem dX8_store_47 : decode cX8_store 47 = .ok (.iload_n 2, 1) := by decide +kernel
theorem dX8_store_48 : decode cX8_store 48 = .ok (.imul, 1) := by decide +kernel
theorem dX8_store_49 : decode cX8_store 49 = .ok (.ishr, 1) := by decide +kernel
theorem dX8_store_50 : decode cX8_store 50 = .ok (.sipush 255, 3) := by decide +kernel
theorem dX8_store_53 : decode cX8_store 53 = .ok (.iand, 1) := by decide +kernel
theorem dX8_store_54 : decode cX8_store 54 = .ok (.iastore, 1) := by decide +kernel
theorem dX8_store_55 : decode cX8_store 55 = .ok (.iinc 2 1, 3) := by decide +kernel
theorem dX8_store_58 : decode cX8_store 58 = .ok (.goto (-56), 3) := by decide +kernel
theorem dX8_store_61 : decode cX8_store 61 = .ok (.return_, 1) := by decide +kernel
theorem dX8_load_0 : decode cX8_load 0 = .ok (.iconst 0, 1) := by decide +kernel
theorem dX8_load_1 : decode cX8_load 1 = .ok (.istore_n 2, 1) := by decide +kernel
theorem dX8_load_2 : decode cX8_load 2 = .ok (.iconst 0, 1) := by decide +kernel
theorem dX8_load_3 : decode cX8_load 3 = .ok (.istore_n 3, 1) := by decide +kernel
theorem dX8_load_4 : decode cX8_load 4 = .ok (.iload_n 3, 1) := by decide +kernel
theorem dX8_load_5 : decode cX8_load 5 = .ok (.aload_n 0, 1) := by decide +kernel
theorem dX8_load_6 : decode cX8_load 6 = .ok (.iload_n 1, 1) := by decide +kernel
theorem dX8_load_7 : decode cX8_load 7 = .ok (.iconst 3, 1) := by decide +kernel
theorem dX8_load_8 : decode cX8_load 8 = .ok (.invokevirtual 72, 3) := by decide +kernel
theorem dX8_load_11 : decode cX8_load 11 = .ok (.if_icmp .ge 40, 3) := by decide +kernel
theorem dX8_load_14 : decode cX8_load 14 = .ok (.iload_n 2, 1) := by decide +kernel
theorem dX8_load_15 : decode cX8_load 15 = .ok (.aload_n 0, 1) := by decide +kernel
theorem dX8_load_16 : decode cX8_load 16 = .ok (.getfield 35, 3) := by decide +kernel
theorem dX8_load_19 : decode cX8_load 19 = .ok (.bipush 16, 2) := by decide +kernel
theorem dX8_load_21 : decode cX8_load 21 = .ok (.aload_n 0, 1) := by decide +kernel
theorem dX8_load_22 : decode cX8_load 22 = .ok (.iload_n 1, 1) := by decide +kernel
theorem dX8_load_23 : decode cX8_load 23 = .ok (.iconst 1, 1) := by decide +kernel
theorem dX8_load_24 : decode cX8_load 24 = .ok (.invokevirtual 72, 3) := by decide +kernel
theorem dX8_load_27 : decode cX8_load 27 = .ok (.imul, 1) := by decide +kernel
theorem dX8_load_28 : decode cX8_load 28 = .ok (.aload_n 0, 1) := by decide +kernel
theorem dX8_load_29 : decode cX8_load 29 = .ok (.iload_n 1, 1) := by decide +kernel
theorem dX8_load_30 : decode cX8_load 30 = .ok (.iconst 2, 1) := by decide +kernel
theorem dX8_load_31 : decode cX8_load 31 = .ok (.invokevirtual 72, 3) := by decide +kernel
theorem dX8_load_34 : decode cX8_load 34 = .ok (.iadd, 1) := by decide +kernel
theorem dX8_load_35 : decode cX8_load 35 = .ok (.iload_n 3, 1) := by decide +kernel
theorem dX8_load_36 : decode cX8_load 36 = .ok (.iadd, 1) := by decide +kernel
theorem dX8_load_37 : decode cX8_load 37 = .ok (.iaload, 1) := by decide +kernel
theorem dX8_load_38 : decode cX8_load 38 = .ok (.bipush 8, 2) := by decide +kernel
theorem dX8_load_40 : decode cX8_load 40 = .ok (.iload_n 3, 1) := by decide +kernel
theorem dX8_load_41 : decode cX8_load 41 = .ok (.imul, 1) := by decide +kernel
theorem dX8_load_42 : decode cX8_load 42 = .ok (.ishl, 1) := by decide +kernel
theorem dX8_load_43 : decode cX8_load 43 = .ok (.ior, 1) := by decide +kernel
theorem dX8_load_44 : decode cX8_load 44 = .ok (.istore_n 2, 1) := by decide +kernel
theorem dX8_load_45 : decode cX8_load 45 = .ok (.iinc 3 1, 3) := by decide +kernel
theorem dX8_load_48 : decode cX8_load 48 = .ok (.goto (-44), 3) := by decide +kernel
theorem dX8_load_51 : decode cX8_load 51 = .ok (.aload_n 0, 1) := by decide +kernel
theorem dX8_load_52 : decode cX8_load 52 = .ok (.getfield 38, 3) := by decide +kernel
theorem dX8_load_55 : decode cX8_load 55 = .ok (.aload_n 0, 1) := by decide +kernel
theorem dX8_load_56 : decode cX8_load 56 = .ok (.iload_n 1, 1) := by decide +kernel
theorem dX8_load_57 : decode cX8_load 57 = .ok (.iconst 4, 1) := by decide +kernel
theorem dX8_load_58 : decode cX8_load 58 = .ok (.invokevirtual 72, 3) := by decide +kernel
theorem dX8_load_61 : decode cX8_load 61 = .ok (.iload_n 2, 1) := by decide +kernel
theorem dX8_load_62 : decode cX8_load 62 = .ok (.iastore, 1) := by decide +kernel
theorem dX8_load_63 : decode cX8_load 63 = .ok (.return_, 1) := by decide +kernel
theorem dX8_copyBytes_0 : decode cX8_copyBytes 0 = .ok (.iload_n 2, 1) := by decide +kernel
theorem dX8_copyBytes_1 : decode cX8_copyBytes 1 = .ok (.istore 4, 2) := by decide +kernel
theorem dX8_copyBytes_3 : decode cX8_copyBytes 3 = .ok (.iload 4, 2) := by decide +kernel
theorem dX8_copyBytes_5 : decode cX8_copyBytes 5 = .ok (.iload_n 2, 1) := by decide +kernel
theorem dX8_copyBytes_6 : decode cX8_copyBytes 6 = .ok (.iload_n 3, 1) := by decide +kernel
theorem dX8_copyBytes_7 : decode cX8_copyBytes 7 = .ok (.iadd, 1) := by decide +kernel
theorem dX8_copyBytes_8 : decode cX8_copyBytes 8 = .ok (.if_icmp .ge 57, 3) := by decide +kernel
theorem dX8_copyBytes_11 : decode cX8_copyBytes 11 = .ok (.aload_n 0, 1) := by decide +kernel
theorem dX8_copyBytes_12 : decode cX8_copyBytes 12 = .ok (.getfield 35, 3) := by decide +kernel
theorem dX8_copyBytes_15 : decode cX8_copyBytes 15 = .ok (.bipush 16, 2) := by decide +kernel
theorem dX8_copyBytes_17 : decode cX8_copyBytes 17 = .ok (.aload_n 0, 1) := by decide +kernel
theorem dX8_copyBytes_18 : decode cX8_copyBytes 18 = .ok (.iload_n 1, 1) := by decide +kernel
theorem dX8_copyBytes_19 : decode cX8_copyBytes 19 = .ok (.iconst 1, 1) := by decide +kernel
theorem dX8_copyBytes_20 : decode cX8_copyBytes 20 = .ok (.invokevirtual 72, 3) := by decide +kernel
theorem dX8_copyBytes_23 : decode cX8_copyBytes 23 = .ok (.imul, 1) := by decide +kernel
theorem dX8_copyBytes_24 : decode cX8_copyBytes 24 = .ok (.aload_n 0, 1) := by decide +kernel
theorem dX8_copyBytes_25 : decode cX8_copyBytes 25 = .ok (.iload_n 1, 1) := by decide +kernel
theorem dX8_copyBytes_26 : decode cX8_copyBytes 26 = .ok (.iconst 2, 1) := by decide +kernel
theorem dX8_copyBytes_27 : decode cX8_copyBytes 27 = .ok (.invokevirtual 72, 3) := by decide +kernel
theorem dX8_copyBytes_30 : decode cX8_copyBytes 30 = .ok (.iadd, 1) := by decide +kernel
theorem dX8_copyBytes_31 : decode cX8_copyBytes 31 = .ok (.iload 4, 2) := by decide +kernel
theorem dX8_copyBytes_33 : decode cX8_copyBytes 33 = .ok (.iadd, 1) := by decide +kernel
theorem dX8_copyBytes_34 : decode cX8_copyBytes 34 = .ok (.aload_n 0, 1) := by decide +kernel
theorem dX8_copyBytes_35 : decode cX8_copyBytes 35 = .ok (.getfield 35, 3) := by decide +kernel
theorem dX8_copyBytes_38 : decode cX8_copyBytes 38 = .ok (.bipush 16, 2) := by decide +kernel
theorem dX8_copyBytes_40 : decode cX8_copyBytes 40 = .ok (.aload_n 0, 1) := by decide +kernel
theorem dX8_copyBytes_41 : decode cX8_copyBytes 41 = .ok (.iload_n 1, 1) := by decide +kernel
theorem dX8_copyBytes_42 : decode cX8_copyBytes 42 = .ok (.iconst 3, 1) := by decide +kernel
theorem dX8_copyBytes_43 : decode cX8_copyBytes 43 = .ok (.invokevirtual 72, 3) := by decide +kernel
theorem dX8_copyBytes_46 : decode cX8_copyBytes 46 = .ok (.imul, 1) := by decide +kernel
theorem dX8_copyBytes_47 : decode cX8_copyBytes 47 = .ok (.aload_n 0, 1) := by decide +kernel
theorem dX8_copyBytes_48 : decode cX8_copyBytes 48 = .ok (.iload_n 1, 1) := by decide +kernel
theorem dX8_copyBytes_49 : decode cX8_copyBytes 49 = .ok (.iconst 4, 1) := by decide +kernel
theorem dX8_copyBytes_50 : decode cX8_copyBytes 50 = .ok (.invokevirtual 72, 3) := by decide +kernel
theorem dX8_copyBytes_53 : decode cX8_copyBytes 53 = .ok (.iadd, 1) := by decide +kernel
theorem dX8_copyBytes_54 : decode cX8_copyBytes 54 = .ok (.iload 4, 2) := by decide +kernel
theorem dX8_copyBytes_56 : decode cX8_copyBytes 56 = .ok (.iadd, 1) := by decide +kernel
theorem dX8_copyBytes_57 : decode cX8_copyBytes 57 = .ok (.iaload, 1) := by decide +kernel
theorem dX8_copyBytes_58 : decode cX8_copyBytes 58 = .ok (.iastore, 1) := by decide +kernel
theorem dX8_copyBytes_59 : decode cX8_copyBytes 59 = .ok (.iinc 4 1, 3) := by decide +kernel
theorem dX8_copyBytes_62 : decode cX8_copyBytes 62 = .ok (.goto (-59), 3) := by decide +kernel
theorem dX8_copyBytes_65 : decode cX8_copyBytes 65 = .ok (.return_, 1) := by decide +kernel
theorem dX8_escape_0 : decode cX8_escape 0 = .ok (.iconst 0, 1) := by decide +kernel
theorem dX8_escape_1 : decode cX8_escape 1 = .ok (.istore_n 2, 1) := by decide +kernel
theorem dX8_escape_2 : decode cX8_escape 2 = .ok (.iload_n 2, 1) := by decide +kernel
theorem dX8_escape_3 : decode cX8_escape 3 = .ok (.aload_n 0, 1) := by decide +kernel
theorem dX8_escape_4 : decode cX8_escape 4 = .ok (.getfield 7, 3) := by decide +kernel
theorem dX8_escape_7 : decode cX8_escape 7 = .ok (.iconst 1, 1) := by decide +kernel
theorem dX8_escape_8 : decode cX8_escape 8 = .ok (.iload_n 1, 1) := by decide +kernel
theorem dX8_escape_9 : decode cX8_escape 9 = .ok (.iadd, 1) := by decide +kernel
theorem dX8_escape_10 : decode cX8_escape 10 = .ok (.iaload, 1) := by decide +kernel
theorem dX8_escape_11 : decode cX8_escape 11 = .ok (.if_icmp .ge 32, 3) := by decide +kernel
theorem dX8_escape_14 : decode cX8_escape 14 = .ok (.aload_n 0, 1) := by decide +kernel
theorem dX8_escape_15 : decode cX8_escape 15 = .ok (.bipush 31, 2) := by decide +kernel
theorem dX8_escape_17 : decode cX8_escape 17 = .ok (.aload_n 0, 1) := by decide +kernel
theorem dX8_escape_18 : decode cX8_escape 18 = .ok (.getfield 147, 3) := by decide +kernel
theorem dX8_escape_21 : decode cX8_escape 21 = .ok (.imul, 1) := by decide +kernel
theorem dX8_escape_22 : decode cX8_escape 22 = .ok (.aload_n 0, 1) := by decide +kernel
theorem dX8_escape_23 : decode cX8_escape 23 = .ok (.getfield 35, 3) := by decide +kernel
theorem dX8_escape_26 : decode cX8_escape 26 = .ok (.bipush 16, 2) := by decide +kernel
theorem dX8_escape_28 : decode cX8_escape 28 = .ok (.iload_n 1, 1) := by decide +kernel
theorem dX8_escape_29 : decode cX8_escape 29 = .ok (.imul, 1) := by decide +kernel
theorem dX8_escape_30 : decode cX8_escape 30 = .ok (.iload_n 2, 1) := by decide +kernel
theorem dX8_escape_31 : decode cX8_escape 31 = .ok (.iadd, 1) := by decide +kernel
theorem dX8_escape_32 : decode cX8_escape 32 = .ok (.iaload, 1) := by decide +kernel
theorem dX8_escape_33 : decode cX8_escape 33 = .ok (.iadd, 1) := by decide +kernel
theorem dX8_escape_34 : decode cX8_escape 34 = .ok (.putfield 147, 3) := by decide +kernel
theorem dX8_escape_37 : decode cX8_escape 37 = .ok (.iinc 2 1, 3) := by decide +kernel
theorem dX8_escape_40 : decode cX8_escape 40 = .ok (.goto (-38), 3) := by decide +kernel
theorem dX8_escape_43 : decode cX8_escape 43 = .ok (.aload_n 0, 1) := by decide +kernel
theorem dX8_escape_44 : decode cX8_escape 44 = .ok (.getfield 35, 3) := by decide +kernel
theorem dX8_escape_47 : decode cX8_escape 47 = .ok (.bipush 16, 2) := by decide +kernel
theorem dX8_escape_49 : decode cX8_escape 49 = .ok (.iload_n 1, 1) := by decide +kernel
theorem dX8_escape_50 : decode cX8_escape 50 = .ok (.imul, 1) := by decide +kernel
theorem dX8_escape_51 : decode cX8_escape 51 = .ok (.aload_n 0, 1) := by decide +kernel
theorem dX8_escape_52 : decode cX8_escape 52 = .ok (.getfield 35, 3) := by decide +kernel
theorem dX8_escape_55 : decode cX8_escape 55 = .ok (.bipush 16, 2) := by decide +kernel
theorem dX8_escape_57 : decode cX8_escape 57 = .ok (.iload_n 1, 1) := by decide +kernel
theorem dX8_escape_58 : decode cX8_escape 58 = .ok (.imul, 1) := by decide +kernel
theorem dX8_escape_59 : decode cX8_escape 59 = .ok (.iaload, 1) := by decide +kernel
theorem dX8_escape_60 : decode cX8_escape 60 = .ok (.iconst 1, 1) := by decide +kernel
theorem dX8_escape_61 : decode cX8_escape 61 = .ok (.iadd, 1) := by decide +kernel
theorem dX8_escape_62 : decode cX8_escape 62 = .ok (.sipush 255, 3) := by decide +kernel
theorem dX8_escape_65 : decode cX8_escape 65 = .ok (.iand, 1) := by decide +kernel
theorem dX8_escape_66 : decode cX8_escape 66 = .ok (.iastore, 1) := by decide +kernel
theorem dX8_escape_67 : decode cX8_escape 67 = .ok (.return_, 1) := by decide +kernel
theorem dX8_adds_0 : decode cX8_adds 0 = .ok (.aload_n 0, 1) := by decide +kernel
theorem dX8_adds_1 : decode cX8_adds 1 = .ok (.getfield 38, 3) := by decide +kernel
theorem dX8_adds_4 : decode cX8_adds 4 = .ok (.aload_n 0, 1) := by decide +kernel
theorem dX8_adds_5 : decode cX8_adds 5 = .ok (.iload_n 1, 1) := by decide +kernel
theorem dX8_adds_6 : decode cX8_adds 6 = .ok (.iconst 2, 1) := by decide +kernel
theorem dX8_adds_7 : decode cX8_adds 7 = .ok (.invokevirtual 72, 3) := by decide +kernel
theorem dX8_adds_10 : decode cX8_adds 10 = .ok (.iaload, 1) := by decide +kernel
theorem dX8_adds_11 : decode cX8_adds 11 = .ok (.i2l, 1) := by decide +kernel
theorem dX8_adds_12 : decode cX8_adds 12 = .ok (.aload_n 0, 1) := by decide +kernel
theorem dX8_adds_13 : decode cX8_adds 13 = .ok (.getfield 38, 3) := by decide +kernel
theorem dX8_adds_16 : decode cX8_adds 16 = .ok (.aload_n 0, 1) := by decide +kernel
theorem dX8_adds_17 : decode cX8_adds 17 = .ok (.iload_n 1, 1) := by decide +kernel
theorem dX8_adds_18 : decode cX8_adds 18 = .ok (.iconst 3, 1) := by decide +kernel
theorem dX8_adds_19 : decode cX8_adds 19 = .ok (.invokevirtual 72, 3) := by decide +kernel
theorem dX8_adds_22 : decode cX8_adds 22 = .ok (.iaload, 1) := by decide +kernel
theorem dX8_adds_23 : decode cX8_adds 23 = .ok (.i2l, 1) := by decide +kernel
theorem dX8_adds_24 : decode cX8_adds 24 = .ok (.ladd, 1) := by decide +kernel
theorem dX8_adds_25 : decode cX8_adds 25 = .ok (.lstore_n 2, 1) := by decide +kernel
theorem dX8_adds_26 : decode cX8_adds 26 = .ok (.lload_n 2, 1) := by decide +kernel
theorem dX8_adds_27 : decode cX8_adds 27 = .ok (.l2i, 1) := by decide +kernel
theorem dX8_adds_28 : decode cX8_adds 28 = .ok (.istore 4, 2) := by decide +kernel
theorem dX8_adds_30 : decode cX8_adds 30 = .ok (.iload 4, 2) := by decide +kernel
theorem dX8_adds_32 : decode cX8_adds 32 = .ok (.i2l, 1) := by decide +kernel
theorem dX8_adds_33 : decode cX8_adds 33 = .ok (.lload_n 2, 1) := by decide +kernel
theorem dX8_adds_34 : decode cX8_adds 34 = .ok (.lcmp, 1) := by decide +kernel
theorem dX8_adds_35 : decode cX8_adds 35 = .ok (.ifCond .eq 5, 3) := by decide +kernel
theorem dX8_adds_38 : decode cX8_adds 38 = .ok (.iconst 1, 1) := by decide +kernel
theorem dX8_adds_39 : decode cX8_adds 39 = .ok (.ireturn, 1) := by decide +kernel
theorem dX8_adds_40 : decode cX8_adds 40 = .ok (.aload_n 0, 1) := by decide +kernel
theorem dX8_adds_41 : decode cX8_adds 41 = .ok (.getfield 38, 3) := by decide +kernel
theorem dX8_adds_44 : decode cX8_adds 44 = .ok (.aload_n 0, 1) := by decide +kernel
theorem dX8_adds_45 : decode cX8_adds 45 = .ok (.iload_n 1, 1) := by decide +kernel
theorem dX8_adds_46 : decode cX8_adds 46 = .ok (.iconst 1, 1) := by decide +kernel
theorem dX8_adds_47 : decode cX8_adds 47 = .ok (.invokevirtual 72, 3) := by decide +kernel
theorem dX8_adds_50 : decode cX8_adds 50 = .ok (.iload 4, 2) := by decide +kernel
theorem dX8_adds_52 : decode cX8_adds 52 = .ok (.iastore, 1) := by decide +kernel
theorem dX8_adds_53 : decode cX8_adds 53 = .ok (.iconst 0, 1) := by decide +kernel
theorem dX8_adds_54 : decode cX8_adds 54 = .ok (.ireturn, 1) := by decide +kernel
theorem dX8_access_0 : decode cX8_access 0 = .ok (.aload_n 0, 1) := by decide +kernel
theorem dX8_access_1 : decode cX8_access 1 = .ok (.aload_n 0, 1) := by decide +kernel
theorem dX8_access_2 : decode cX8_access 2 = .ok (.iload_n 1, 1) := by decide +kernel
theorem dX8_access_3 : decode cX8_access 3 = .ok (.iconst 1, 1) := by decide +kernel
theorem dX8_access_4 : decode cX8_access 4 = .ok (.invokevirtual 72, 3) := by decide +kernel
theorem dX8_access_7 : decode cX8_access 7 = .ok (.aload_n 0, 1) := by decide +kernel
theorem dX8_access_8 : decode cX8_access 8 = .ok (.iload_n 1, 1) := by decide +kernel
theorem dX8_access_9 : decode cX8_access 9 = .ok (.iconst 2, 1) := by decide +kernel
theorem dX8_access_10 : decode cX8_access 10 = .ok (.invokevirtual 72, 3) := by decide +kernel
theorem dX8_access_13 : decode cX8_access 13 = .ok (.invokevirtual 110, 3) := by decide +kernel
theorem dX8_access_16 : decode cX8_access 16 = .ok (.istore_n 3, 1) := by decide +kernel
theorem dX8_access_17 : decode cX8_access 17 = .ok (.aload_n 0, 1) := by decide +kernel
theorem dX8_access_18 : decode cX8_access 18 = .ok (.dup, 1) := by decide +kernel
theorem dX8_access_19 : decode cX8_access 19 = .ok (.getfield 150, 3) := by decide +kernel
theorem dX8_access_22 : decode cX8_access 22 = .ok (.iload_n 2, 1) := by decide +kernel
theorem dX8_access_23 : decode cX8_access 23 = .ok (.ifCond .eq 25, 3) := by decide +kernel
theorem dX8_access_26 : decode cX8_access 26 = .ok (.aload_n 0, 1) := by decide +kernel
theorem dX8_access_27 : decode cX8_access 27 = .ok (.getfield 28, 3) := by decide +kernel
theorem dX8_access_30 : decode cX8_access 30 = .ok (.iload_n 3, 1) := by decide +kernel
theorem dX8_access_31 : decode cX8_access 31 = .ok (.baload, 1) := by decide +kernel
theorem dX8_access_32 : decode cX8_access 32 = .ok (.ifCond .ne 12, 3) := by decide +kernel
theorem dX8_access_35 : decode cX8_access 35 = .ok (.aload_n 0, 1) := by decide +kernel
theorem dX8_access_36 : decode cX8_access 36 = .ok (.getfield 32, 3) := by decide +kernel
theorem dX8_access_39 : decode cX8_access 39 = .ok (.iload_n 3, 1) := by decide +kernel
theorem dX8_access_40 : decode cX8_access 40 = .ok (.baload, 1) := by decide +kernel
theorem dX8_access_41 : decode cX8_access 41 = .ok (.ifCond .ne 7, 3) := by decide +kernel
theorem dX8_access_44 : decode cX8_access 44 = .ok (.iconst 0, 1) := by decide +kernel
theorem dX8_access_45 : decode cX8_access 45 = .ok (.goto 4, 3) := by decide +kernel
theorem dX8_access_48 : decode cX8_access 48 = .ok (.iconst 1, 1) := by decide +kernel
theorem dX8_access_49 : decode cX8_access 49 = .ok (.iadd, 1) := by decide +kernel
theorem dX8_access_50 : decode cX8_access 50 = .ok (.putfield 150, 3) := by decide +kernel
theorem dX8_access_53 : decode cX8_access 53 = .ok (.aload_n 0, 1) := by decide +kernel
theorem dX8_access_54 : decode cX8_access 54 = .ok (.iload_n 1, 1) := by decide +kernel
theorem dX8_access_55 : decode cX8_access 55 = .ok (.iconst 0, 1) := by decide +kernel
theorem dX8_access_56 : decode cX8_access 56 = .ok (.invokevirtual 72, 3) := by decide +kernel
theorem dX8_access_59 : decode cX8_access 59 = .ok (.iconst 2, 1) := by decide +kernel
theorem dX8_access_60 : decode cX8_access 60 = .ok (.if_icmp .ne 11, 3) := by decide +kernel
theorem dX8_access_63 : decode cX8_access 63 = .ok (.aload_n 0, 1) := by decide +kernel
theorem dX8_access_64 : decode cX8_access 64 = .ok (.iload_n 1, 1) := by decide +kernel
theorem dX8_access_65 : decode cX8_access 65 = .ok (.invokevirtual 153, 3) := by decide +kernel
theorem dX8_access_68 : decode cX8_access 68 = .ok (.goto 21, 3) := by decide +kernel
theorem dX8_access_71 : decode cX8_access 71 = .ok (.iload_n 2, 1) := by decide +kernel
theorem dX8_access_72 : decode cX8_access 72 = .ok (.ifCond .eq 12, 3) := by decide +kernel
theorem dX8_access_75 : decode cX8_access 75 = .ok (.aload_n 0, 1) := by decide +kernel
theorem dX8_access_76 : decode cX8_access 76 = .ok (.getfield 32, 3) := by decide +kernel
theorem dX8_access_79 : decode cX8_access 79 = .ok (.iload_n 3, 1) := by decide +kernel
theorem dX8_access_80 : decode cX8_access 80 = .ok (.baload, 1) := by decide +kernel
theorem dX8_access_81 : decode cX8_access 81 = .ok (.ifCond .eq 8, 3) := by decide +kernel
theorem dX8_access_84 : decode cX8_access 84 = .ok (.aload_n 0, 1) := by decide +kernel
theorem dX8_access_85 : decode cX8_access 85 = .ok (.iload_n 1, 1) := by decide +kernel
theorem dX8_access_86 : decode cX8_access 86 = .ok (.invokevirtual 156, 3) := by decide +kernel
theorem dX8_access_89 : decode cX8_access 89 = .ok (.return_, 1) := by decide +kernel
theorem dX8_copyPieces_0 : decode cX8_copyPieces 0 = .ok (.iconst 0, 1) := by decide +kernel
theorem dX8_copyPieces_1 : decode cX8_copyPieces 1 = .ok (.istore_n 2, 1) := by decide +kernel
theorem dX8_copyPieces_2 : decode cX8_copyPieces 2 = .ok (.iload_n 2, 1) := by decide +kernel
theorem dX8_copyPieces_3 : decode cX8_copyPieces 3 = .ok (.aload_n 0, 1) := by decide +kernel
theorem dX8_copyPieces_4 : decode cX8_copyPieces 4 = .ok (.iload_n 1, 1) := by decide +kernel
theorem dX8_copyPieces_5 : decode cX8_copyPieces 5 = .ok (.iconst 5, 1) := by decide +kernel
theorem dX8_copyPieces_6 : decode cX8_copyPieces 6 = .ok (.invokevirtual 72, 3) := by decide +kernel
theorem dX8_copyPieces_9 : decode cX8_copyPieces 9 = .ok (.if_icmp .ge 132, 3) := by decide +kernel
theorem dX8_copyPieces_12 : decode cX8_copyPieces 12 = .ok (.aload_n 0, 1) := by decide +kernel
theorem dX8_copyPieces_13 : decode cX8_copyPieces 13 = .ok (.iload_n 1, 1) := by decide +kernel
theorem dX8_copyPieces_14 : decode cX8_copyPieces 14 = .ok (.iload_n 2, 1) := by decide +kernel
theorem dX8_copyPieces_15 : decode cX8_copyPieces 15 = .ok (.invokevirtual 116, 3) := by decide +kernel
theorem dX8_copyPieces_18 : decode cX8_copyPieces 18 = .ok (.istore_n 3, 1) := by decide +kernel
theorem dX8_copyPieces_19 : decode cX8_copyPieces 19 = .ok (.aload_n 0, 1) := by decide +kernel
theorem dX8_copyPieces_20 : decode cX8_copyPieces 20 = .ok (.aload_n 0, 1) := by decide +kernel
theorem dX8_copyPieces_21 : decode cX8_copyPieces 21 = .ok (.iload_n 1, 1) := by decide +kernel
theorem dX8_copyPieces_22 : decode cX8_copyPieces 22 = .ok (.iconst 1, 1) := by decide +kernel
theorem dX8_copyPieces_23 : decode cX8_copyPieces 23 = .ok (.invokevirtual 72, 3) := by decide +kernel
theorem dX8_copyPieces_26 : decode cX8_copyPieces 26 = .ok (.aload_n 0, 1) := by decide +kernel
theorem dX8_copyPieces_27 : decode cX8_copyPieces 27 = .ok (.iload_n 1, 1) := by decide +kernel
theorem dX8_copyPieces_28 : decode cX8_copyPieces 28 = .ok (.iconst 2, 1) := by decide +kernel
theorem dX8_copyPieces_29 : decode cX8_copyPieces 29 = .ok (.invokevirtual 72, 3) := by decide +kernel
theorem dX8_copyPieces_32 : decode cX8_copyPieces 32 = .ok (.iload_n 2, 1) := by decide +kernel
theorem dX8_copyPieces_33 : decode cX8_copyPieces 33 = .ok (.iadd, 1) := by decide +kernel
theorem dX8_copyPieces_34 : decode cX8_copyPieces 34 = .ok (.invokevirtual 110, 3) := by decide +kernel
theorem dX8_copyPieces_37 : decode cX8_copyPieces 37 = .ok (.istore 4, 2) := by decide +kernel
theorem dX8_copyPieces_39 : decode cX8_copyPieces 39 = .ok (.aload_n 0, 1) := by decide +kernel
theorem dX8_copyPieces_40 : decode cX8_copyPieces 40 = .ok (.aload_n 0, 1) := by decide +kernel
theorem dX8_copyPieces_41 : decode cX8_copyPieces 41 = .ok (.iload_n 1, 1) := by decide +kernel
theorem dX8_copyPieces_42 : decode cX8_copyPieces 42 = .ok (.iconst 3, 1) := by decide +kernel
theorem dX8_copyPieces_43 : decode cX8_copyPieces 43 = .ok (.invokevirtual 72, 3) := by decide +kernel
theorem dX8_copyPieces_46 : decode cX8_copyPieces 46 = .ok (.aload_n 0, 1) := by decide +kernel
theorem dX8_copyPieces_47 : decode cX8_copyPieces 47 = .ok (.iload_n 1, 1) := by decide +kernel
theorem dX8_copyPieces_48 : decode cX8_copyPieces 48 = .ok (.iconst 4, 1) := by decide +kernel
theorem dX8_copyPieces_49 : decode cX8_copyPieces 49 = .ok (.invokevirtual 72, 3) := by decide +kernel
theorem dX8_copyPieces_52 : decode cX8_copyPieces 52 = .ok (.iload_n 2, 1) := by decide +kernel
theorem dX8_copyPieces_53 : decode cX8_copyPieces 53 = .ok (.iadd, 1) := by decide +kernel
theorem dX8_copyPieces_54 : decode cX8_copyPieces 54 = .ok (.invokevirtual 110, 3) := by decide +kernel
theorem dX8_copyPieces_57 : decode cX8_copyPieces 57 = .ok (.istore 5, 2) := by decide +kernel
theorem dX8_copyPieces_59 : decode cX8_copyPieces 59 = .ok (.aload_n 0, 1) := by decide +kernel
theorem dX8_copyPieces_60 : decode cX8_copyPieces 60 = .ok (.getfield 32, 3) := by decide +kernel
theorem dX8_copyPieces_63 : decode cX8_copyPieces 63 = .ok (.iload 4, 2) := by decide +kernel
theorem dX8_copyPieces_65 : decode cX8_copyPieces 65 = .ok (.baload, 1) := by decide +kernel
theorem dX8_copyPieces_66 : decode cX8_copyPieces 66 = .ok (.ifCond .eq 68, 3) := by decide +kernel
theorem dX8_copyPieces_69 : decode cX8_copyPieces 69 = .ok (.aload_n 0, 1) := by decide +kernel
theorem dX8_copyPieces_70 : decode cX8_copyPieces 70 = .ok (.dup, 1) := by decide +kernel
theorem dX8_copyPieces_71 : decode cX8_copyPieces 71 = .ok (.getfield 150, 3) := by decide +kernel
theorem dX8_copyPieces_74 : decode cX8_copyPieces 74 = .ok (.aload_n 0, 1) := by decide +kernel
theorem dX8_copyPieces_75 : decode cX8_copyPieces 75 = .ok (.getfield 28, 3) := by decide +kernel
theorem dX8_copyPieces_78 : decode cX8_copyPieces 78 = .ok (.iload 4, 2) := by decide +kernel
theorem dX8_copyPieces_80 : decode cX8_copyPieces 80 = .ok (.baload, 1) := by decide +kernel
theorem dX8_copyPieces_81 : decode cX8_copyPieces 81 = .ok (.ifCond .eq 17, 3) := by decide +kernel
theorem dX8_copyPieces_84 : decode cX8_copyPieces 84 = .ok (.aload_n 0, 1) := by decide +kernel
theorem dX8_copyPieces_85 : decode cX8_copyPieces 85 = .ok (.getfield 28, 3) := by decide +kernel
theorem dX8_copyPieces_88 : decode cX8_copyPieces 88 = .ok (.iload 5, 2) := by decide +kernel
theorem dX8_copyPieces_90 : decode cX8_copyPieces 90 = .ok (.baload, 1) := by decide +kernel
theorem dX8_copyPieces_91 : decode cX8_copyPieces 91 = .ok (.ifCond .eq 7, 3) := by decide +kernel
theorem dX8_copyPieces_94 : decode cX8_copyPieces 94 = .ok (.iconst 0, 1) := by decide +kernel
theorem dX8_copyPieces_95 : decode cX8_copyPieces 95 = .ok (.goto 28, 3) := by decide +kernel
theorem dX8_copyPieces_98 : decode cX8_copyPieces 98 = .ok (.aload_n 0, 1) := by decide +kernel
theorem dX8_copyPieces_99 : decode cX8_copyPieces 99 = .ok (.getfield 28, 3) := by decide +kernel
theorem dX8_copyPieces_102 : decode cX8_copyPieces 102 = .ok (.iload 4, 2) := by decide +kernel
theorem dX8_copyPieces_104 : decode cX8_copyPieces 104 = .ok (.baload, 1) := by decide +kernel
theorem dX8_copyPieces_105 : decode cX8_copyPieces 105 = .ok (.ifCond .ne 13, 3) := by decide +kernel
theorem dX8_copyPieces_108 : decode cX8_copyPieces 108 = .ok (.aload_n 0, 1) := by decide +kernel
theorem dX8_copyPieces_109 : decode cX8_copyPieces 109 = .ok (.getfield 28, 3) := by decide +kernel
theorem dX8_copyPieces_112 : decode cX8_copyPieces 112 = .ok (.iload 5, 2) := by decide +kernel
theorem dX8_copyPieces_114 : decode cX8_copyPieces 114 = .ok (.baload, 1) := by decide +kernel
theorem dX8_copyPieces_115 : decode cX8_copyPieces 115 = .ok (.ifCond .eq 7, 3) := by decide +kernel
theorem dX8_copyPieces_118 : decode cX8_copyPieces 118 = .ok (.iconst 1, 1) := by decide +kernel
theorem dX8_copyPieces_119 : decode cX8_copyPieces 119 = .ok (.goto 4, 3) := by decide +kernel
theorem dX8_copyPieces_122 : decode cX8_copyPieces 122 = .ok (.iload_n 3, 1) := by decide +kernel
theorem dX8_copyPieces_123 : decode cX8_copyPieces 123 = .ok (.iadd, 1) := by decide +kernel
theorem dX8_copyPieces_124 : decode cX8_copyPieces 124 = .ok (.putfield 150, 3) := by decide +kernel
theorem dX8_copyPieces_127 : decode cX8_copyPieces 127 = .ok (.aload_n 0, 1) := by decide +kernel
theorem dX8_copyPieces_128 : decode cX8_copyPieces 128 = .ok (.iload_n 1, 1) := by decide +kernel
theorem dX8_copyPieces_129 : decode cX8_copyPieces 129 = .ok (.iload_n 2, 1) := by decide +kernel
theorem dX8_copyPieces_130 : decode cX8_copyPieces 130 = .ok (.iload_n 3, 1) := by decide +kernel
theorem dX8_copyPieces_131 : decode cX8_copyPieces 131 = .ok (.invokevirtual 159, 3) := by decide +kernel
theorem dX8_copyPieces_134 : decode cX8_copyPieces 134 = .ok (.iload_n 2, 1) := by decide +kernel
theorem dX8_copyPieces_135 : decode cX8_copyPieces 135 = .ok (.iload_n 3, 1) := by decide +kernel
theorem dX8_copyPieces_136 : decode cX8_copyPieces 136 = .ok (.iadd, 1) := by decide +kernel
theorem dX8_copyPieces_137 : decode cX8_copyPieces 137 = .ok (.istore_n 2, 1) := by decide +kernel
theorem dX8_copyPieces_138 : decode cX8_copyPieces 138 = .ok (.goto (-136), 3) := by decide +kernel
theorem dX8_copyPieces_141 : decode cX8_copyPieces 141 = .ok (.return_, 1) := by decide +kernel
theorem dX8_runs_0 : decode cX8_runs 0 = .ok (.aload_n 0, 1) := by decide +kernel
theorem dX8_runs_1 : decode cX8_runs 1 = .ok (.invokevirtual 138, 3) := by decide +kernel
theorem dX8_runs_4 : decode cX8_runs 4 = .ok (.iconst 0, 1) := by decide +kernel
theorem dX8_runs_5 : decode cX8_runs 5 = .ok (.istore_n 2, 1) := by decide +kernel
theorem dX8_runs_6 : decode cX8_runs 6 = .ok (.iload_n 2, 1) := by decide +kernel
theorem dX8_runs_7 : decode cX8_runs 7 = .ok (.bipush 64, 2) := by decide +kernel
theorem dX8_runs_9 : decode cX8_runs 9 = .ok (.if_icmp .ge 16, 3) := by decide +kernel
theorem dX8_runs_12 : decode cX8_runs 12 = .ok (.aload_n 0, 1) := by decide +kernel
theorem dX8_runs_13 : decode cX8_runs 13 = .ok (.getfield 35, 3) := by decide +kernel
theorem dX8_runs_16 : decode cX8_runs 16 = .ok (.iload_n 2, 1) := by decide +kernel
theorem dX8_runs_17 : decode cX8_runs 17 = .ok (.iconst 0, 1) := by decide +kernel
theorem dX8_runs_18 : decode cX8_runs 18 = .ok (.iastore, 1) := by decide +kernel
theorem dX8_runs_19 : decode cX8_runs 19 = .ok (.iinc 2 1, 3) := by decide +kernel
theorem dX8_runs_22 : decode cX8_runs 22 = .ok (.goto (-16), 3) := by decide +kernel
theorem dX8_runs_25 : decode cX8_runs 25 = .ok (.iconst 0, 1) := by decide +kernel
theorem dX8_runs_26 : decode cX8_runs 26 = .ok (.istore_n 2, 1) := by decide +kernel
theorem dX8_runs_27 : decode cX8_runs 27 = .ok (.iload_n 2, 1) := by decide +kernel
theorem dX8_runs_28 : decode cX8_runs 28 = .ok (.bipush 8, 2) := by decide +kernel
theorem dX8_runs_30 : decode cX8_runs 30 = .ok (.if_icmp .ge 16, 3) := by decide +kernel
theorem dX8_runs_33 : decode cX8_runs 33 = .ok (.aload_n 0, 1) := by decide +kernel
theorem dX8_runs_34 : decode cX8_runs 34 = .ok (.getfield 38, 3) := by decide +kernel
theorem dX8_runs_37 : decode cX8_runs 37 = .ok (.iload_n 2, 1) := by decide +kernel
theorem dX8_runs_38 : decode cX8_runs 38 = .ok (.iconst 0, 1) := by decide +kernel
theorem dX8_runs_39 : decode cX8_runs 39 = .ok (.iastore, 1) := by decide +kernel
theorem dX8_runs_40 : decode cX8_runs 40 = .ok (.iinc 2 1, 3) := by decide +kernel
theorem dX8_runs_43 : decode cX8_runs 43 = .ok (.goto (-16), 3) := by decide +kernel
theorem dX8_runs_46 : decode cX8_runs 46 = .ok (.aload_n 0, 1) := by decide +kernel
theorem dX8_runs_47 : decode cX8_runs 47 = .ok (.iconst 0, 1) := by decide +kernel
theorem dX8_runs_48 : decode cX8_runs 48 = .ok (.putfield 162, 3) := by decide +kernel
theorem dX8_runs_51 : decode cX8_runs 51 = .ok (.aload_n 0, 1) := by decide +kernel
theorem dX8_runs_52 : decode cX8_runs 52 = .ok (.iconst 0, 1) := by decide +kernel
theorem dX8_runs_53 : decode cX8_runs 53 = .ok (.putfield 147, 3) := by decide +kernel
theorem dX8_runs_56 : decode cX8_runs 56 = .ok (.aload_n 0, 1) := by decide +kernel
theorem dX8_runs_57 : decode cX8_runs 57 = .ok (.iconst 0, 1) := by decide +kernel
theorem dX8_runs_58 : decode cX8_runs 58 = .ok (.putfield 150, 3) := by decide +kernel
theorem dX8_runs_61 : decode cX8_runs 61 = .ok (.aload_n 0, 1) := by decide +kernel
theorem dX8_runs_62 : decode cX8_runs 62 = .ok (.bipush (-9), 2) := by decide +kernel
theorem dX8_runs_64 : decode cX8_runs 64 = .ok (.putfield 165, 3) := by decide +kernel
theorem dX8_runs_67 : decode cX8_runs 67 = .ok (.iconst 0, 1) := by decide +kernel
theorem dX8_runs_68 : decode cX8_runs 68 = .ok (.istore_n 2, 1) := by decide +kernel
theorem dX8_runs_69 : decode cX8_runs 69 = .ok (.iload_n 2, 1) := by decide +kernel
theorem dX8_runs_70 : decode cX8_runs 70 = .ok (.aload_n 0, 1) := by decide +kernel
theorem dX8_runs_71 : decode cX8_runs 71 = .ok (.getfield 7, 3) := by decide +kernel
theorem dX8_runs_74 : decode cX8_runs 74 = .ok (.iconst 5, 1) := by decide +kernel
theorem dX8_runs_75 : decode cX8_runs 75 = .ok (.iaload, 1) := by decide +kernel
theorem dX8_runs_76 : decode cX8_runs 76 = .ok (.if_icmp .ge 28, 3) := by decide +kernel
theorem dX8_runs_79 : decode cX8_runs 79 = .ok (.aload_n 0, 1) := by decide +kernel
theorem dX8_runs_80 : decode cX8_runs 80 = .ok (.getfield 165, 3) := by decide +kernel
theorem dX8_runs_83 : decode cX8_runs 83 = .ok (.bipush (-9), 2) := by decide +kernel
theorem dX8_runs_85 : decode cX8_runs 85 = .ok (.if_icmp .ne 19, 3) := by decide +kernel
theorem dX8_runs_88 : decode cX8_runs 88 = .ok (.aload_n 0, 1) := by decide +kernel
theorem dX8_runs_89 : decode cX8_runs 89 = .ok (.iload_n 2, 1) := by decide +kernel
theorem dX8_runs_90 : decode cX8_runs 90 = .ok (.iload_n 1, 1) := by decide +kernel
theorem dX8_runs_91 : decode cX8_runs 91 = .ok (.invokevirtual 168, 3) := by decide +kernel
theorem dX8_runs_94 : decode cX8_runs 94 = .ok (.istore_n 3, 1) := by decide +kernel
theorem dX8_runs_95 : decode cX8_runs 95 = .ok (.iload_n 2, 1) := by decide +kernel
theorem dX8_runs_96 : decode cX8_runs 96 = .ok (.iconst 1, 1) := by decide +kernel
theorem dX8_runs_97 : decode cX8_runs 97 = .ok (.iload_n 3, 1) := by decide +kernel
theorem dX8_runs_98 : decode cX8_runs 98 = .ok (.iadd, 1) := by decide +kernel
theorem dX8_runs_99 : decode cX8_runs 99 = .ok (.iadd, 1) := by decide +kernel
theorem dX8_runs_100 : decode cX8_runs 100 = .ok (.istore_n 2, 1) := by decide +kernel
theorem dX8_runs_101 : decode cX8_runs 101 = .ok (.goto (-32), 3) := by decide +kernel
theorem dX8_runs_104 : decode cX8_runs 104 = .ok (.return_, 1) := by decide +kernel
theorem dX8_executes_0 : decode cX8_executes 0 = .ok (.aload_n 0, 1) := by decide +kernel
theorem dX8_executes_1 : decode cX8_executes 1 = .ok (.iload_n 1, 1) := by decide +kernel
theorem dX8_executes_2 : decode cX8_executes 2 = .ok (.iconst 0, 1) := by decide +kernel
theorem dX8_executes_3 : decode cX8_executes 3 = .ok (.invokevirtual 72, 3) := by decide +kernel
theorem dX8_executes_6 : decode cX8_executes 6 = .ok (.tableswitch 189 1 7 #[42, 42, 50, 91, 125, 144, 164], 42) := by decide +kernel
theorem dX8_executes_48 : decode cX8_executes 48 = .ok (.aload_n 0, 1) := by decide +kernel
theorem dX8_executes_49 : decode cX8_executes 49 = .ok (.iload_n 1, 1) := by decide +kernel
theorem dX8_executes_50 : decode cX8_executes 50 = .ok (.iload_n 2, 1) := by decide +kernel
theorem dX8_executes_51 : decode cX8_executes 51 = .ok (.invokevirtual 172, 3) := by decide +kernel
theorem dX8_executes_54 : decode cX8_executes 54 = .ok (.iconst 0, 1) := by decide +kernel
theorem dX8_executes_55 : decode cX8_executes 55 = .ok (.ireturn, 1) := by decide +kernel
theorem dX8_executes_56 : decode cX8_executes 56 = .ok (.iload_n 2, 1) := by decide +kernel
theorem dX8_executes_57 : decode cX8_executes 57 = .ok (.ifCond .eq 11, 3) := by decide +kernel
theorem dX8_executes_60 : decode cX8_executes 60 = .ok (.aload_n 0, 1) := by decide +kernel
theorem dX8_executes_61 : decode cX8_executes 61 = .ok (.iload_n 1, 1) := by decide +kernel
theorem dX8_executes_62 : decode cX8_executes 62 = .ok (.invokevirtual 176, 3) := by decide +kernel
theorem dX8_executes_65 : decode cX8_executes 65 = .ok (.goto 30, 3) := by decide +kernel
theorem dX8_executes_68 : decode cX8_executes 68 = .ok (.aload_n 0, 1) := by decide +kernel
theorem dX8_executes_69 : decode cX8_executes 69 = .ok (.dup, 1) := by decide +kernel
theorem dX8_executes_70 : decode cX8_executes 70 = .ok (.getfield 150, 3) := by decide +kernel
theorem dX8_executes_73 : decode cX8_executes 73 = .ok (.aload_n 0, 1) := by decide +kernel
theorem dX8_executes_74 : decode cX8_executes 74 = .ok (.iload_n 1, 1) := by decide +kernel
theorem dX8_executes_75 : decode cX8_executes 75 = .ok (.iconst 5, 1) := by decide +kernel
theorem dX8_executes_76 : decode cX8_executes 76 = .ok (.invokevirtual 72, 3) := by decide +kernel
theorem dX8_executes_79 : decode cX8_executes 79 = .ok (.iadd, 1) := by decide +kernel
theorem dX8_executes_80 : decode cX8_executes 80 = .ok (.putfield 150, 3) := by decide +kernel
theorem dX8_executes_83 : decode cX8_executes 83 = .ok (.aload_n 0, 1) := by decide +kernel
theorem dX8_executes_84 : decode cX8_executes 84 = .ok (.iload_n 1, 1) := by decide +kernel
theorem dX8_executes_85 : decode cX8_executes 85 = .ok (.iconst 0, 1) := by decide +kernel
theorem dX8_executes_86 : decode cX8_executes 86 = .ok (.aload_n 0, 1) := by decide +kernel
theorem dX8_executes_87 : decode cX8_executes 87 = .ok (.iload_n 1, 1) := by decide +kernel
theorem dX8_executes_88 : decode cX8_executes 88 = .ok (.iconst 5, 1) := by decide +kernel
theorem dX8_executes_89 : decode cX8_executes 89 = .ok (.invokevirtual 72, 3) := by decide +kernel
theorem dX8_executes_92 : decode cX8_executes 92 = .ok (.invokevirtual 159, 3) := by decide +kernel
theorem dX8_executes_95 : decode cX8_executes 95 = .ok (.iconst 0, 1) := by decide +kernel
theorem dX8_executes_96 : decode cX8_executes 96 = .ok (.ireturn, 1) := by decide +kernel
theorem dX8_executes_97 : decode cX8_executes 97 = .ok (.aload_n 0, 1) := by decide +kernel
theorem dX8_executes_98 : decode cX8_executes 98 = .ok (.dup, 1) := by decide +kernel
theorem dX8_executes_99 : decode cX8_executes 99 = .ok (.getfield 150, 3) := by decide +kernel
theorem dX8_executes_102 : decode cX8_executes 102 = .ok (.aload_n 0, 1) := by decide +kernel
theorem dX8_executes_103 : decode cX8_executes 103 = .ok (.getfield 7, 3) := by decide +kernel
theorem dX8_executes_106 : decode cX8_executes 106 = .ok (.iconst 1, 1) := by decide +kernel
theorem dX8_executes_107 : decode cX8_executes 107 = .ok (.aload_n 0, 1) := by decide +kernel
theorem dX8_executes_108 : decode cX8_executes 108 = .ok (.iload_n 1, 1) := by decide +kernel
theorem dX8_executes_109 : decode cX8_executes 109 = .ok (.iconst 1, 1) := by decide +kernel
theorem dX8_executes_110 : decode cX8_executes 110 = .ok (.invokevirtual 72, 3) := by decide +kernel
theorem dX8_executes_113 : decode cX8_executes 113 = .ok (.iadd, 1) := by decide +kernel
theorem dX8_executes_114 : decode cX8_executes 114 = .ok (.iaload, 1) := by decide +kernel
theorem dX8_executes_115 : decode cX8_executes 115 = .ok (.iadd, 1) := by decide +kernel
theorem dX8_executes_116 : decode cX8_executes 116 = .ok (.putfield 150, 3) := by decide +kernel
theorem dX8_executes_119 : decode cX8_executes 119 = .ok (.aload_n 0, 1) := by decide +kernel
theorem dX8_executes_120 : decode cX8_executes 120 = .ok (.aload_n 0, 1) := by decide +kernel
theorem dX8_executes_121 : decode cX8_executes 121 = .ok (.iload_n 1, 1) := by decide +kernel
theorem dX8_executes_122 : decode cX8_executes 122 = .ok (.iconst 1, 1) := by decide +kernel
theorem dX8_executes_123 : decode cX8_executes 123 = .ok (.invokevirtual 72, 3) := by decide +kernel
theorem dX8_executes_126 : decode cX8_executes 126 = .ok (.invokevirtual 179, 3) := by decide +kernel
theorem dX8_executes_129 : decode cX8_executes 129 = .ok (.iconst 0, 1) := by decide +kernel
theorem dX8_executes_130 : decode cX8_executes 130 = .ok (.ireturn, 1) := by decide +kernel
theorem dX8_executes_131 : decode cX8_executes 131 = .ok (.aload_n 0, 1) := by decide +kernel
theorem dX8_executes_132 : decode cX8_executes 132 = .ok (.getfield 38, 3) := by decide +kernel
theorem dX8_executes_135 : decode cX8_executes 135 = .ok (.aload_n 0, 1) := by decide +kernel
theorem dX8_executes_136 : decode cX8_executes 136 = .ok (.iload_n 1, 1) := by decide +kernel
theorem dX8_executes_137 : decode cX8_executes 137 = .ok (.iconst 1, 1) := by decide +kernel
theorem dX8_executes_138 : decode cX8_executes 138 = .ok (.invokevirtual 72, 3) := by decide +kernel
theorem dX8_executes_141 : decode cX8_executes 141 = .ok (.aload_n 0, 1) := by decide +kernel
theorem dX8_executes_142 : decode cX8_executes 142 = .ok (.iload_n 1, 1) := by decide +kernel
theorem dX8_executes_143 : decode cX8_executes 143 = .ok (.iconst 2, 1) := by decide +kernel
theorem dX8_executes_144 : decode cX8_executes 144 = .ok (.invokevirtual 72, 3) := by decide +kernel
theorem dX8_executes_147 : decode cX8_executes 147 = .ok (.iastore, 1) := by decide +kernel
theorem dX8_executes_148 : decode cX8_executes 148 = .ok (.iconst 0, 1) := by decide +kernel
theorem dX8_executes_149 : decode cX8_executes 149 = .ok (.ireturn, 1) := by decide +kernel
theorem dX8_executes_150 : decode cX8_executes 150 = .ok (.aload_n 0, 1) := by decide +kernel
theorem dX8_executes_151 : decode cX8_executes 151 = .ok (.aload_n 0, 1) := by decide +kernel
theorem dX8_executes_152 : decode cX8_executes 152 = .ok (.iload_n 1, 1) := by decide +kernel
theorem dX8_executes_153 : decode cX8_executes 153 = .ok (.invokevirtual 182, 3) := by decide +kernel
theorem dX8_executes_156 : decode cX8_executes 156 = .ok (.ifCond .eq 7, 3) := by decide +kernel
theorem dX8_executes_159 : decode cX8_executes 159 = .ok (.iload_n 1, 1) := by decide +kernel
theorem dX8_executes_160 : decode cX8_executes 160 = .ok (.goto 5, 3) := by decide +kernel
theorem dX8_executes_163 : decode cX8_executes 163 = .ok (.bipush (-9), 2) := by decide +kernel
theorem dX8_executes_165 : decode cX8_executes 165 = .ok (.putfield 165, 3) := by decide +kernel
theorem dX8_executes_168 : decode cX8_executes 168 = .ok (.iconst 0, 1) := by decide +kernel
theorem dX8_executes_169 : decode cX8_executes 169 = .ok (.ireturn, 1) := by decide +kernel
theorem dX8_executes_170 : decode cX8_executes 170 = .ok (.aload_n 0, 1) := by decide +kernel
theorem dX8_executes_171 : decode cX8_executes 171 = .ok (.getfield 38, 3) := by decide +kernel
theorem dX8_executes_174 : decode cX8_executes 174 = .ok (.aload_n 0, 1) := by decide +kernel
theorem dX8_executes_175 : decode cX8_executes 175 = .ok (.iload_n 1, 1) := by decide +kernel
theorem dX8_executes_176 : decode cX8_executes 176 = .ok (.iconst 1, 1) := by decide +kernel
theorem dX8_executes_177 : decode cX8_executes 177 = .ok (.invokevirtual 72, 3) := by decide +kernel
theorem dX8_executes_180 : decode cX8_executes 180 = .ok (.iaload, 1) := by decide +kernel
theorem dX8_executes_181 : decode cX8_executes 181 = .ok (.ifCond .ne 12, 3) := by decide +kernel
theorem dX8_executes_184 : decode cX8_executes 184 = .ok (.aload_n 0, 1) := by decide +kernel
theorem dX8_executes_185 : decode cX8_executes 185 = .ok (.iload_n 1, 1) := by decide +kernel
theorem dX8_executes_186 : decode cX8_executes 186 = .ok (.iconst 2, 1) := by decide +kernel
theorem dX8_executes_187 : decode cX8_executes 187 = .ok (.invokevirtual 72, 3) := by decide +kernel
theorem dX8_executes_190 : decode cX8_executes 190 = .ok (.goto 4, 3) := by decide +kernel
theorem dX8_executes_193 : decode cX8_executes 193 = .ok (.iconst 0, 1) := by decide +kernel
theorem dX8_executes_194 : decode cX8_executes 194 = .ok (.ireturn, 1) := by decide +kernel
theorem dX8_executes_195 : decode cX8_executes 195 = .ok (.aload_n 0, 1) := by decide +kernel
theorem dX8_executes_196 : decode cX8_executes 196 = .ok (.getfield 41, 3) := by decide +kernel
theorem dX8_executes_199 : decode cX8_executes 199 = .ok (.aload_n 0, 1) := by decide +kernel
theorem dX8_executes_200 : decode cX8_executes 200 = .ok (.getfield 162, 3) := by decide +kernel
theorem dX8_executes_203 : decode cX8_executes 203 = .ok (.aload_n 0, 1) := by decide +kernel
theorem dX8_executes_204 : decode cX8_executes 204 = .ok (.getfield 38, 3) := by decide +kernel
theorem dX8_executes_207 : decode cX8_executes 207 = .ok (.aload_n 0, 1) := by decide +kernel
theorem dX8_executes_208 : decode cX8_executes 208 = .ok (.iload_n 1, 1) := by decide +kernel
theorem dX8_executes_209 : decode cX8_executes 209 = .ok (.iconst 1, 1) := by decide +kernel
theorem dX8_executes_210 : decode cX8_executes 210 = .ok (.invokevirtual 72, 3) := by decide +kernel
theorem dX8_executes_213 : decode cX8_executes 213 = .ok (.iaload, 1) := by decide +kernel
theorem dX8_executes_214 : decode cX8_executes 214 = .ok (.iastore, 1) := by decide +kernel
theorem dX8_executes_215 : decode cX8_executes 215 = .ok (.aload_n 0, 1) := by decide +kernel
theorem dX8_executes_216 : decode cX8_executes 216 = .ok (.dup, 1) := by decide +kernel
theorem dX8_executes_217 : decode cX8_executes 217 = .ok (.getfield 162, 3) := by decide +kernel
theorem dX8_executes_220 : decode cX8_executes 220 = .ok (.iconst 1, 1) := by decide +kernel
theorem dX8_executes_221 : decode cX8_executes 221 = .ok (.iadd, 1) := by decide +kernel
theorem dX8_executes_222 : decode cX8_executes 222 = .ok (.putfield 162, 3) := by decide +kernel
theorem dX8_executes_225 : decode cX8_executes 225 = .ok (.iconst 0, 1) := by decide +kernel
theorem dX8_executes_226 : decode cX8_executes 226 = .ok (.ireturn, 1) := by decide +kernel
theorem dX8_trapPosition_0 : decode cX8_trapPosition 0 = .ok (.aload_n 0, 1) := by decide +kernel
theorem dX8_trapPosition_1 : decode cX8_trapPosition 1 = .ok (.iconst 0, 1) := by decide +kernel
theorem dX8_trapPosition_2 : decode cX8_trapPosition 2 = .ok (.invokevirtual 185, 3) := by decide +kernel
theorem dX8_trapPosition_5 : decode cX8_trapPosition 5 = .ok (.aload_n 0, 1) := by decide +kernel
theorem dX8_trapPosition_6 : decode cX8_trapPosition 6 = .ok (.getfield 165, 3) := by decide +kernel
theorem dX8_trapPosition_9 : decode cX8_trapPosition 9 = .ok (.ireturn, 1) := by decide +kernel
theorem dX8_isProgram_0 : decode cX8_isProgram 0 = .ok (.iload_n 0, 1) := by decide +kernel
theorem dX8_isProgram_1 : decode cX8_isProgram 1 = .ok (.iconst 0, 1) := by decide +kernel
theorem dX8_isProgram_2 : decode cX8_isProgram 2 = .ok (.iconst 1, 1) := by decide +kernel
theorem dX8_isProgram_3 : decode cX8_isProgram 3 = .ok (.invokestatic 48, 3) := by decide +kernel
theorem dX8_isProgram_6 : decode cX8_isProgram 6 = .ok (.ireturn, 1) := by decide +kernel
theorem dX8_outputCount_0 : decode cX8_outputCount 0 = .ok (.iload_n 1, 1) := by decide +kernel
theorem dX8_outputCount_1 : decode cX8_outputCount 1 = .ok (.invokestatic 189, 3) := by decide +kernel
theorem dX8_outputCount_4 : decode cX8_outputCount 4 = .ok (.ifCond .ne 5, 3) := by decide +kernel
theorem dX8_outputCount_7 : decode cX8_outputCount 7 = .ok (.iconst (-1), 1) := by decide +kernel
theorem dX8_outputCount_8 : decode cX8_outputCount 8 = .ok (.ireturn, 1) := by decide +kernel
theorem dX8_outputCount_9 : decode cX8_outputCount 9 = .ok (.aload_n 0, 1) := by decide +kernel
theorem dX8_outputCount_10 : decode cX8_outputCount 10 = .ok (.iload_n 1, 1) := by decide +kernel
theorem dX8_outputCount_11 : decode cX8_outputCount 11 = .ok (.iconst 1, 1) := by decide +kernel
theorem dX8_outputCount_12 : decode cX8_outputCount 12 = .ok (.if_icmp .ne 7, 3) := by decide +kernel
theorem dX8_outputCount_15 : decode cX8_outputCount 15 = .ok (.iconst 1, 1) := by decide +kernel
theorem dX8_outputCount_16 : decode cX8_outputCount 16 = .ok (.goto 4, 3) := by decide +kernel
theorem dX8_outputCount_19 : decode cX8_outputCount 19 = .ok (.iconst 0, 1) := by decide +kernel
theorem dX8_outputCount_20 : decode cX8_outputCount 20 = .ok (.invokevirtual 185, 3) := by decide +kernel
theorem dX8_outputCount_23 : decode cX8_outputCount 23 = .ok (.aload_n 0, 1) := by decide +kernel
theorem dX8_outputCount_24 : decode cX8_outputCount 24 = .ok (.getfield 162, 3) := by decide +kernel
theorem dX8_outputCount_27 : decode cX8_outputCount 27 = .ok (.ireturn, 1) := by decide +kernel
theorem dX8_outputAt_0 : decode cX8_outputAt 0 = .ok (.iload_n 1, 1) := by decide +kernel
theorem dX8_outputAt_1 : decode cX8_outputAt 1 = .ok (.invokestatic 189, 3) := by decide +kernel
theorem dX8_outputAt_4 : decode cX8_outputAt 4 = .ok (.ifCond .ne 5, 3) := by decide +kernel
theorem dX8_outputAt_7 : decode cX8_outputAt 7 = .ok (.iconst 0, 1) := by decide +kernel
theorem dX8_outputAt_8 : decode cX8_outputAt 8 = .ok (.ireturn, 1) := by decide +kernel
theorem dX8_outputAt_9 : decode cX8_outputAt 9 = .ok (.aload_n 0, 1) := by decide +kernel
theorem dX8_outputAt_10 : decode cX8_outputAt 10 = .ok (.iload_n 1, 1) := by decide +kernel
theorem dX8_outputAt_11 : decode cX8_outputAt 11 = .ok (.iconst 1, 1) := by decide +kernel
theorem dX8_outputAt_12 : decode cX8_outputAt 12 = .ok (.if_icmp .ne 7, 3) := by decide +kernel
theorem dX8_outputAt_15 : decode cX8_outputAt 15 = .ok (.iconst 1, 1) := by decide +kernel
theorem dX8_outputAt_16 : decode cX8_outputAt 16 = .ok (.goto 4, 3) := by decide +kernel
theorem dX8_outputAt_19 : decode cX8_outputAt 19 = .ok (.iconst 0, 1) := by decide +kernel
theorem dX8_outputAt_20 : decode cX8_outputAt 20 = .ok (.invokevirtual 185, 3) := by decide +kernel
theorem dX8_outputAt_23 : decode cX8_outputAt 23 = .ok (.iload_n 2, 1) := by decide +kernel
theorem dX8_outputAt_24 : decode cX8_outputAt 24 = .ok (.iconst 0, 1) := by decide +kernel
theorem dX8_outputAt_25 : decode cX8_outputAt 25 = .ok (.aload_n 0, 1) := by decide +kernel
theorem dX8_outputAt_26 : decode cX8_outputAt 26 = .ok (.getfield 162, 3) := by decide +kernel
theorem dX8_outputAt_29 : decode cX8_outputAt 29 = .ok (.iconst 1, 1) := by decide +kernel
theorem dX8_outputAt_30 : decode cX8_outputAt 30 = .ok (.isub, 1) := by decide +kernel
theorem dX8_outputAt_31 : decode cX8_outputAt 31 = .ok (.invokestatic 48, 3) := by decide +kernel
theorem dX8_outputAt_34 : decode cX8_outputAt 34 = .ok (.ifCond .eq 12, 3) := by decide +kernel
theorem dX8_outputAt_37 : decode cX8_outputAt 37 = .ok (.aload_n 0, 1) := by decide +kernel
theorem dX8_outputAt_38 : decode cX8_outputAt 38 = .ok (.getfield 41, 3) := by decide +kernel
theorem dX8_outputAt_41 : decode cX8_outputAt 41 = .ok (.iload_n 2, 1) := by decide +kernel
theorem dX8_outputAt_42 : decode cX8_outputAt 42 = .ok (.iaload, 1) := by decide +kernel
theorem dX8_outputAt_43 : decode cX8_outputAt 43 = .ok (.goto 4, 3) := by decide +kernel
theorem dX8_outputAt_46 : decode cX8_outputAt 46 = .ok (.iconst 0, 1) := by decide +kernel
theorem dX8_outputAt_47 : decode cX8_outputAt 47 = .ok (.ireturn, 1) := by decide +kernel
theorem dX8_checksum_0 : decode cX8_checksum 0 = .ok (.iload_n 1, 1) := by decide +kernel
theorem dX8_checksum_1 : decode cX8_checksum 1 = .ok (.invokestatic 189, 3) := by decide +kernel
theorem dX8_checksum_4 : decode cX8_checksum 4 = .ok (.ifCond .ne 5, 3) := by decide +kernel
theorem dX8_checksum_7 : decode cX8_checksum 7 = .ok (.iconst 0, 1) := by decide +kernel
theorem dX8_checksum_8 : decode cX8_checksum 8 = .ok (.ireturn, 1) := by decide +kernel
theorem dX8_checksum_9 : decode cX8_checksum 9 = .ok (.aload_n 0, 1) := by decide +kernel
theorem dX8_checksum_10 : decode cX8_checksum 10 = .ok (.iload_n 1, 1) := by decide +kernel
theorem dX8_checksum_11 : decode cX8_checksum 11 = .ok (.iconst 1, 1) := by decide +kernel
theorem dX8_checksum_12 : decode cX8_checksum 12 = .ok (.if_icmp .ne 7, 3) := by decide +kernel
theorem dX8_checksum_15 : decode cX8_checksum 15 = .ok (.iconst 1, 1) := by decide +kernel
theorem dX8_checksum_16 : decode cX8_checksum 16 = .ok (.goto 4, 3) := by decide +kernel
theorem dX8_checksum_19 : decode cX8_checksum 19 = .ok (.iconst 0, 1) := by decide +kernel
theorem dX8_checksum_20 : decode cX8_checksum 20 = .ok (.invokevirtual 185, 3) := by decide +kernel
theorem dX8_checksum_23 : decode cX8_checksum 23 = .ok (.aload_n 0, 1) := by decide +kernel
theorem dX8_checksum_24 : decode cX8_checksum 24 = .ok (.getfield 147, 3) := by decide +kernel
theorem dX8_checksum_27 : decode cX8_checksum 27 = .ok (.ireturn, 1) := by decide +kernel
theorem dX8_cost_0 : decode cX8_cost 0 = .ok (.iload_n 1, 1) := by decide +kernel
theorem dX8_cost_1 : decode cX8_cost 1 = .ok (.invokestatic 189, 3) := by decide +kernel
theorem dX8_cost_4 : decode cX8_cost 4 = .ok (.ifCond .ne 5, 3) := by decide +kernel
theorem dX8_cost_7 : decode cX8_cost 7 = .ok (.iconst (-1), 1) := by decide +kernel
theorem dX8_cost_8 : decode cX8_cost 8 = .ok (.ireturn, 1) := by decide +kernel
theorem dX8_cost_9 : decode cX8_cost 9 = .ok (.aload_n 0, 1) := by decide +kernel
theorem dX8_cost_10 : decode cX8_cost 10 = .ok (.iload_n 1, 1) := by decide +kernel
theorem dX8_cost_11 : decode cX8_cost 11 = .ok (.iconst 1, 1) := by decide +kernel
theorem dX8_cost_12 : decode cX8_cost 12 = .ok (.if_icmp .ne 7, 3) := by decide +kernel
theorem dX8_cost_15 : decode cX8_cost 15 = .ok (.iconst 1, 1) := by decide +kernel
theorem dX8_cost_16 : decode cX8_cost 16 = .ok (.goto 4, 3) := by decide +kernel
theorem dX8_cost_19 : decode cX8_cost 19 = .ok (.iconst 0, 1) := by decide +kernel
theorem dX8_cost_20 : decode cX8_cost 20 = .ok (.invokevirtual 185, 3) := by decide +kernel
theorem dX8_cost_23 : decode cX8_cost 23 = .ok (.aload_n 0, 1) := by decide +kernel
theorem dX8_cost_24 : decode cX8_cost 24 = .ok (.getfield 150, 3) := by decide +kernel
theorem dX8_cost_27 : decode cX8_cost 27 = .ok (.ireturn, 1) := by decide +kernel
end
section
theorem dX0_init_0 : decode cX0_init 0 = .ok (.aload_n 0, 1) := by decide +kernel
theorem dX0_init_1 : decode cX0_init 1 = .ok (.invokespecial 3, 3) := by decide +kernel
theorem dX0_init_4 : decode cX0_init 4 = .ok (.aload_n 0, 1) := by decide +kernel
theorem dX0_init_5 : decode cX0_init 5 = .ok (.iconst 4, 1) := by decide +kernel
theorem dX0_init_6 : decode cX0_init 6 = .ok (.anewarray 9, 3) := by decide +kernel
theorem dX0_init_9 : decode cX0_init 9 = .ok (.putfield 11, 3) := by decide +kernel
theorem dX0_init_12 : decode cX0_init 12 = .ok (.aload_n 0, 1) := by decide +kernel
theorem dX0_init_13 : decode cX0_init 13 = .ok (.new 9, 3) := by decide +kernel
theorem dX0_init_16 : decode cX0_init 16 = .ok (.dup, 1) := by decide +kernel
theorem dX0_init_17 : decode cX0_init 17 = .ok (.invokespecial 17, 3) := by decide +kernel
theorem dX0_init_20 : decode cX0_init 20 = .ok (.putfield 18, 3) := by decide +kernel
theorem dX0_init_23 : decode cX0_init 23 = .ok (.aload_n 0, 1) := by decide +kernel
theorem dX0_init_24 : decode cX0_init 24 = .ok (.bipush 24, 2) := by decide +kernel
theorem dX0_init_26 : decode cX0_init 26 = .ok (.bipush 16, 2) := by decide +kernel
theorem dX0_init_28 : decode cX0_init 28 = .ok (.multianewarray 22 2, 4) := by decide +kernel
theorem dX0_init_32 : decode cX0_init 32 = .ok (.putfield 24, 3) := by decide +kernel
theorem dX0_init_35 : decode cX0_init 35 = .ok (.aload_n 0, 1) := by decide +kernel
theorem dX0_init_36 : decode cX0_init 36 = .ok (.iconst 1, 1) := by decide +kernel
theorem dX0_init_37 : decode cX0_init 37 = .ok (.putfield 27, 3) := by decide +kernel
theorem dX0_init_40 : decode cX0_init 40 = .ok (.iconst 0, 1) := by decide +kernel
theorem dX0_init_41 : decode cX0_init 41 = .ok (.istore_n 1, 1) := by decide +kernel
theorem dX0_init_42 : decode cX0_init 42 = .ok (.iload_n 1, 1) := by decide +kernel
theorem dX0_init_43 : decode cX0_init 43 = .ok (.iconst 4, 1) := by decide +kernel
theorem dX0_init_44 : decode cX0_init 44 = .ok (.if_icmp .ge 22, 3) := by decide +kernel
theorem dX0_init_47 : decode cX0_init 47 = .ok (.aload_n 0, 1) := by decide +kernel
theorem dX0_init_48 : decode cX0_init 48 = .ok (.getfield 11, 3) := by decide +kernel
theorem dX0_init_51 : decode cX0_init 51 = .ok (.iload_n 1, 1) := by decide +kernel
theorem dX0_init_52 : decode cX0_init 52 = .ok (.new 9, 3) := by decide +kernel
theorem dX0_init_55 : decode cX0_init 55 = .ok (.dup, 1) := by decide +kernel
theorem dX0_init_56 : decode cX0_init 56 = .ok (.invokespecial 17, 3) := by decide +kernel
theorem dX0_init_59 : decode cX0_init 59 = .ok (.aastore, 1) := by decide +kernel
theorem dX0_init_60 : decode cX0_init 60 = .ok (.iinc 1 1, 3) := by decide +kernel
theorem dX0_init_63 : decode cX0_init 63 = .ok (.goto (-21), 3) := by decide +kernel
theorem dX0_init_66 : decode cX0_init 66 = .ok (.return_, 1) := by decide +kernel
theorem dX0_layoutOf_0 : decode cX0_layoutOf 0 = .ok (.iload_n 1, 1) := by decide +kernel
theorem dX0_layoutOf_1 : decode cX0_layoutOf 1 = .ok (.ifCond .lt 17, 3) := by decide +kernel
theorem dX0_layoutOf_4 : decode cX0_layoutOf 4 = .ok (.iload_n 1, 1) := by decide +kernel
theorem dX0_layoutOf_5 : decode cX0_layoutOf 5 = .ok (.iconst 4, 1) := by decide +kernel
theorem dX0_layoutOf_6 : decode cX0_layoutOf 6 = .ok (.if_icmp .ge 12, 3) := by decide +kernel
theorem dX0_layoutOf_9 : decode cX0_layoutOf 9 = .ok (.aload_n 0, 1) := by decide +kernel
theorem dX0_layoutOf_10 : decode cX0_layoutOf 10 = .ok (.getfield 11, 3) := by decide +kernel
theorem dX0_layoutOf_13 : decode cX0_layoutOf 13 = .ok (.iload_n 1, 1) := by decide +kernel
theorem dX0_layoutOf_14 : decode cX0_layoutOf 14 = .ok (.aaload, 1) := by decide +kernel
theorem dX0_layoutOf_15 : decode cX0_layoutOf 15 = .ok (.goto 7, 3) := by decide +kernel
theorem dX0_layoutOf_18 : decode cX0_layoutOf 18 = .ok (.aload_n 0, 1) := by decide +kernel
theorem dX0_layoutOf_19 : decode cX0_layoutOf 19 = .ok (.getfield 18, 3) := by decide +kernel
theorem dX0_layoutOf_22 : decode cX0_layoutOf 22 = .ok (.areturn, 1) := by decide +kernel
theorem dX0_refresh_0 : decode cX0_refresh 0 = .ok (.aload_n 0, 1) := by decide +kernel
theorem dX0_refresh_1 : decode cX0_refresh 1 = .ok (.getfield 27, 3) := by decide +kernel
theorem dX0_refresh_4 : decode cX0_refresh 4 = .ok (.ifCond .ne 4, 3) := by decide +kernel
theorem dX0_refresh_7 : decode cX0_refresh 7 = .ok (.return_, 1) := by decide +kernel
theorem dX0_refresh_8 : decode cX0_refresh 8 = .ok (.aload_n 0, 1) := by decide +kernel
theorem dX0_refresh_9 : decode cX0_refresh 9 = .ok (.iconst 0, 1) := by decide +kernel
theorem dX0_refresh_10 : decode cX0_refresh 10 = .ok (.putfield 27, 3) := by decide +kernel
theorem dX0_refresh_13 : decode cX0_refresh 13 = .ok (.iconst 0, 1) := by decide +kernel
theorem dX0_refresh_14 : decode cX0_refresh 14 = .ok (.istore_n 2, 1) := by decide +kernel
theorem dX0_refresh_15 : decode cX0_refresh 15 = .ok (.iload_n 2, 1) := by decide +kernel
theorem dX0_refresh_16 : decode cX0_refresh 16 = .ok (.iconst 4, 1) := by decide +kernel
theorem dX0_refresh_17 : decode cX0_refresh 17 = .ok (.if_icmp .ge 23, 3) := by decide +kernel
theorem dX0_refresh_20 : decode cX0_refresh 20 = .ok (.aload_n 0, 1) := by decide +kernel
theorem dX0_refresh_21 : decode cX0_refresh 21 = .ok (.getfield 11, 3) := by decide +kernel
theorem dX0_refresh_24 : decode cX0_refresh 24 = .ok (.iload_n 2, 1) := by decide +kernel
theorem dX0_refresh_25 : decode cX0_refresh 25 = .ok (.aaload, 1) := by decide +kernel
theorem dX0_refresh_26 : decode cX0_refresh 26 = .ok (.aload_n 1, 1) := by decide +kernel
theorem dX0_refresh_27 : decode cX0_refresh 27 = .ok (.iload_n 2, 1) := by decide +kernel
theorem dX0_refresh_28 : decode cX0_refresh 28 = .ok (.invokevirtual 31, 3) := by decide +kernel
theorem dX0_refresh_31 : decode cX0_refresh 31 = .ok (.invokevirtual 37, 3) := by decide +kernel
theorem dX0_refresh_34 : decode cX0_refresh 34 = .ok (.iinc 2 1, 3) := by decide +kernel
theorem dX0_refresh_37 : decode cX0_refresh 37 = .ok (.goto (-22), 3) := by decide +kernel
theorem dX0_refresh_40 : decode cX0_refresh 40 = .ok (.iconst 0, 1) := by decide +kernel
theorem dX0_refresh_41 : decode cX0_refresh 41 = .ok (.istore_n 2, 1) := by decide +kernel
theorem dX0_refresh_42 : decode cX0_refresh 42 = .ok (.iload_n 2, 1) := by decide +kernel
theorem dX0_refresh_43 : decode cX0_refresh 43 = .ok (.aload_n 1, 1) := by decide +kernel
theorem dX0_refresh_44 : decode cX0_refresh 44 = .ok (.getfield 41, 3) := by decide +kernel
theorem dX0_refresh_47 : decode cX0_refresh 47 = .ok (.if_icmp .ge 19, 3) := by decide +kernel
theorem dX0_refresh_50 : decode cX0_refresh 50 = .ok (.aload_n 0, 1) := by decide +kernel
theorem dX0_refresh_51 : decode cX0_refresh 51 = .ok (.aload_n 1, 1) := by decide +kernel
theorem dX0_refresh_52 : decode cX0_refresh 52 = .ok (.iload_n 2, 1) := by decide +kernel
theorem dX0_refresh_53 : decode cX0_refresh 53 = .ok (.invokevirtual 45, 3) := by decide +kernel
theorem dX0_refresh_56 : decode cX0_refresh 56 = .ok (.iload_n 2, 1) := by decide +kernel
theorem dX0_refresh_57 : decode cX0_refresh 57 = .ok (.invokevirtual 49, 3) := by decide +kernel
theorem dX0_refresh_60 : decode cX0_refresh 60 = .ok (.iinc 2 1, 3) := by decide +kernel
theorem dX0_refresh_63 : decode cX0_refresh 63 = .ok (.goto (-21), 3) := by decide +kernel
theorem dX0_refresh_66 : decode cX0_refresh 66 = .ok (.iconst 0, 1) := by decide +kernel
theorem dX0_refresh_67 : decode cX0_refresh 67 = .ok (.istore_n 2, 1) := by decide +kernel
theorem dX0_refresh_68 : decode cX0_refresh 68 = .ok (.iload_n 2, 1) := by decide +kernel
theorem dX0_refresh_69 : decode cX0_refresh 69 = .ok (.iconst 4, 1) := by decide +kernel
theorem dX0_refresh_70 : decode cX0_refresh 70 = .ok (.if_icmp .ge 18, 3) := by decide +kernel
theorem dX0_refresh_73 : decode cX0_refresh 73 = .ok (.aload_n 0, 1) := by decide +kernel
theorem dX0_refresh_74 : decode cX0_refresh 74 = .ok (.getfield 11, 3) := by decide +kernel
theorem dX0_refresh_77 : decode cX0_refresh 77 = .ok (.iload_n 2, 1) := by decide +kernel
theorem dX0_refresh_78 : decode cX0_refresh 78 = .ok (.aaload, 1) := by decide +kernel
theorem dX0_refresh_79 : decode cX0_refresh 79 = .ok (.invokevirtual 53, 3) := by decide +kernel
theorem dX0_refresh_82 : decode cX0_refresh 82 = .ok (.iinc 2 1, 3) := by decide +kernel
theorem dX0_refresh_85 : decode cX0_refresh 85 = .ok (.goto (-17), 3) := by decide +kernel
theorem dX0_refresh_88 : decode cX0_refresh 88 = .ok (.iconst 0, 1) := by decide +kernel
theorem dX0_refresh_89 : decode cX0_refresh 89 = .ok (.istore_n 2, 1) := by decide +kernel
theorem dX0_refresh_90 : decode cX0_refresh 90 = .ok (.iload_n 2, 1) := by decide +kernel
theorem dX0_refresh_91 : decode cX0_refresh 91 = .ok (.aload_n 1, 1) := by decide +kernel
theorem dX0_refresh_92 : decode cX0_refresh 92 = .ok (.getfield 41, 3) := by decide +kernel
theorem dX0_refresh_95 : decode cX0_refresh 95 = .ok (.if_icmp .ge 29, 3) := by decide +kernel
theorem dX0_refresh_98 : decode cX0_refresh 98 = .ok (.aload_n 0, 1) := by decide +kernel
theorem dX0_refresh_99 : decode cX0_refresh 99 = .ok (.aload_n 1, 1) := by decide +kernel
theorem dX0_refresh_100 : decode cX0_refresh 100 = .ok (.iload_n 2, 1) := by decide +kernel
theorem dX0_refresh_101 : decode cX0_refresh 101 = .ok (.invokevirtual 45, 3) := by decide +kernel
theorem dX0_refresh_104 : decode cX0_refresh 104 = .ok (.iload_n 2, 1) := by decide +kernel
theorem dX0_refresh_105 : decode cX0_refresh 105 = .ok (.invokevirtual 56, 3) := by decide +kernel
theorem dX0_refresh_108 : decode cX0_refresh 108 = .ok (.aload_n 0, 1) := by decide +kernel
theorem dX0_refresh_109 : decode cX0_refresh 109 = .ok (.aload_n 1, 1) := by decide +kernel
theorem dX0_refresh_110 : decode cX0_refresh 110 = .ok (.iload_n 2, 1) := by decide +kernel
theorem dX0_refresh_111 : decode cX0_refresh 111 = .ok (.invokevirtual 45, 3) := by decide +kernel
theorem dX0_refresh_114 : decode cX0_refresh 114 = .ok (.iload_n 2, 1) := by decide +kernel
theorem dX0_refresh_115 : decode cX0_refresh 115 = .ok (.invokevirtual 59, 3) := by decide +kernel
theorem dX0_refresh_118 : decode cX0_refresh 118 = .ok (.iinc 2 1, 3) := by decide +kernel
theorem dX0_refresh_121 : decode cX0_refresh 121 = .ok (.goto (-31), 3) := by decide +kernel
theorem dX0_refresh_124 : decode cX0_refresh 124 = .ok (.aload_n 0, 1) := by decide +kernel
theorem dX0_refresh_125 : decode cX0_refresh 125 = .ok (.aload_n 1, 1) := by decide +kernel
theorem dX0_refresh_126 : decode cX0_refresh 126 = .ok (.invokevirtual 62, 3) := by decide +kernel
theorem dX0_refresh_129 : decode cX0_refresh 129 = .ok (.return_, 1) := by decide +kernel
theorem dX0_collectRanges_0 : decode cX0_collectRanges 0 = .ok (.aload_n 0, 1) := by decide +kernel
theorem dX0_collectRanges_1 : decode cX0_collectRanges 1 = .ok (.aload_n 1, 1) := by decide +kernel
theorem dX0_collectRanges_2 : decode cX0_collectRanges 2 = .ok (.getfield 66, 3) := by decide +kernel
theorem dX0_collectRanges_5 : decode cX0_collectRanges 5 = .ok (.invokevirtual 71, 3) := by decide +kernel
theorem dX0_collectRanges_8 : decode cX0_collectRanges 8 = .ok (.astore_n 3, 1) := by decide +kernel
theorem dX0_collectRanges_9 : decode cX0_collectRanges 9 = .ok (.aload_n 1, 1) := by decide +kernel
theorem dX0_collectRanges_10 : decode cX0_collectRanges 10 = .ok (.invokevirtual 75, 3) := by decide +kernel
theorem dX0_collectRanges_13 : decode cX0_collectRanges 13 = .ok (.ifCond .eq 18, 3) := by decide +kernel
theorem dX0_collectRanges_16 : decode cX0_collectRanges 16 = .ok (.aload_n 3, 1) := by decide +kernel
theorem dX0_collectRanges_17 : decode cX0_collectRanges 17 = .ok (.aload_n 1, 1) := by decide +kernel
theorem dX0_collectRanges_18 : decode cX0_collectRanges 18 = .ok (.getfield 79, 3) := by decide +kernel
theorem dX0_collectRanges_21 : decode cX0_collectRanges 21 = .ok (.aload_n 1, 1) := by decide +kernel
theorem dX0_collectRanges_22 : decode cX0_collectRanges 22 = .ok (.getfield 82, 3) := by decide +kernel
theorem dX0_collectRanges_25 : decode cX0_collectRanges 25 = .ok (.invokevirtual 85, 3) := by decide +kernel
theorem dX0_collectRanges_28 : decode cX0_collectRanges 28 = .ok (.goto 70, 3) := by decide +kernel
theorem dX0_collectRanges_31 : decode cX0_collectRanges 31 = .ok (.aload_n 1, 1) := by decide +kernel
theorem dX0_collectRanges_32 : decode cX0_collectRanges 32 = .ok (.getfield 89, 3) := by decide +kernel
theorem dX0_collectRanges_35 : decode cX0_collectRanges 35 = .ok (.iconst 4, 1) := by decide +kernel
theorem dX0_collectRanges_36 : decode cX0_collectRanges 36 = .ok (.if_icmp .ne 11, 3) := by decide +kernel
theorem dX0_collectRanges_39 : decode cX0_collectRanges 39 = .ok (.aload_n 3, 1) := by decide +kernel
theorem dX0_collectRanges_40 : decode cX0_collectRanges 40 = .ok (.iconst 1, 1) := by decide +kernel
theorem dX0_collectRanges_41 : decode cX0_collectRanges 41 = .ok (.putfield 92, 3) := by decide +kernel
theorem dX0_collectRanges_44 : decode cX0_collectRanges 44 = .ok (.goto 54, 3) := by decide +kernel
theorem dX0_collectRanges_47 : decode cX0_collectRanges 47 = .ok (.aload_n 1, 1) := by decide +kernel
theorem dX0_collectRanges_48 : decode cX0_collectRanges 48 = .ok (.getfield 89, 3) := by decide +kernel
theorem dX0_collectRanges_51 : decode cX0_collectRanges 51 = .ok (.iconst 3, 1) := by decide +kernel
theorem dX0_collectRanges_52 : decode cX0_collectRanges 52 = .ok (.if_icmp .ne 46, 3) := by decide +kernel
theorem dX0_collectRanges_55 : decode cX0_collectRanges 55 = .ok (.aload_n 3, 1) := by decide +kernel
theorem dX0_collectRanges_56 : decode cX0_collectRanges 56 = .ok (.aload_n 1, 1) := by decide +kernel
theorem dX0_collectRanges_57 : decode cX0_collectRanges 57 = .ok (.getfield 79, 3) := by decide +kernel
theorem dX0_collectRanges_60 : decode cX0_collectRanges 60 = .ok (.aload_n 1, 1) := by decide +kernel
theorem dX0_collectRanges_61 : decode cX0_collectRanges 61 = .ok (.getfield 82, 3) := by decide +kernel
theorem dX0_collectRanges_64 : decode cX0_collectRanges 64 = .ok (.lconst 1, 1) := by decide +kernel
theorem dX0_collectRanges_65 : decode cX0_collectRanges 65 = .ok (.iconst 2, 1) := by decide +kernel
theorem dX0_collectRanges_66 : decode cX0_collectRanges 66 = .ok (.iload_n 2, 1) := by decide +kernel
theorem dX0_collectRanges_67 : decode cX0_collectRanges 67 = .ok (.imul, 1) := by decide +kernel
theorem dX0_collectRanges_68 : decode cX0_collectRanges 68 = .ok (.lshl, 1) := by decide +kernel
theorem dX0_collectRanges_69 : decode cX0_collectRanges 69 = .ok (.invokevirtual 95, 3) := by decide +kernel
theorem dX0_collectRanges_72 : decode cX0_collectRanges 72 = .ok (.aload_n 0, 1) := by decide +kernel
theorem dX0_collectRanges_73 : decode cX0_collectRanges 73 = .ok (.aload_n 1, 1) := by decide +kernel
theorem dX0_collectRanges_74 : decode cX0_collectRanges 74 = .ok (.getfield 99, 3) := by decide +kernel
theorem dX0_collectRanges_77 : decode cX0_collectRanges 77 = .ok (.invokevirtual 71, 3) := by decide +kernel
theorem dX0_collectRanges_80 : decode cX0_collectRanges 80 = .ok (.aload_n 1, 1) := by decide +kernel
theorem dX0_collectRanges_81 : decode cX0_collectRanges 81 = .ok (.getfield 102, 3) := by decide +kernel
theorem dX0_collectRanges_84 : decode cX0_collectRanges 84 = .ok (.aload_n 1, 1) := by decide +kernel
theorem dX0_collectRanges_85 : decode cX0_collectRanges 85 = .ok (.getfield 82, 3) := by decide +kernel
theorem dX0_collectRanges_88 : decode cX0_collectRanges 88 = .ok (.lconst 1, 1) := by decide +kernel
theorem dX0_collectRanges_89 : decode cX0_collectRanges 89 = .ok (.iconst 2, 1) := by decide +kernel
theorem dX0_collectRanges_90 : decode cX0_collectRanges 90 = .ok (.iload_n 2, 1) := by decide +kernel
theorem dX0_collectRanges_91 : decode cX0_collectRanges 91 = .ok (.imul, 1) := by decide +kernel
theorem dX0_collectRanges_92 : decode cX0_collectRanges 92 = .ok (.iconst 1, 1) := by decide +kernel
theorem dX0_collectRanges_93 : decode cX0_collectRanges 93 = .ok (.iadd, 1) := by decide +kernel
theorem dX0_collectRanges_94 : decode cX0_collectRanges 94 = .ok (.lshl, 1) := by decide +kernel
theorem dX0_collectRanges_95 : decode cX0_collectRanges 95 = .ok (.invokevirtual 95, 3) := by decide +kernel
theorem dX0_collectRanges_98 : decode cX0_collectRanges 98 = .ok (.return_, 1) := by decide +kernel
theorem dX0_cutIntoPieces_0 : decode cX0_cutIntoPieces 0 = .ok (.aload_n 1, 1) := by decide +kernel
theorem dX0_cutIntoPieces_1 : decode cX0_cutIntoPieces 1 = .ok (.getfield 89, 3) := by decide +kernel
theorem dX0_cutIntoPieces_4 : decode cX0_cutIntoPieces 4 = .ok (.iconst 3, 1) := by decide +kernel
theorem dX0_cutIntoPieces_5 : decode cX0_cutIntoPieces 5 = .ok (.if_icmp .ne 10, 3) := by decide +kernel
theorem dX0_cutIntoPieces_8 : decode cX0_cutIntoPieces 8 = .ok (.aload_n 1, 1) := by decide +kernel
theorem dX0_cutIntoPieces_9 : decode cX0_cutIntoPieces 9 = .ok (.getfield 82, 3) := by decide +kernel
theorem dX0_cutIntoPieces_12 : decode cX0_cutIntoPieces 12 = .ok (.goto 4, 3) := by decide +kernel
theorem dX0_cutIntoPieces_15 : decode cX0_cutIntoPieces 15 = .ok (.iconst 0, 1) := by decide +kernel
theorem dX0_cutIntoPieces_16 : decode cX0_cutIntoPieces 16 = .ok (.istore_n 3, 1) := by decide +kernel
theorem dX0_cutIntoPieces_17 : decode cX0_cutIntoPieces 17 = .ok (.bipush 15, 2) := by decide +kernel
theorem dX0_cutIntoPieces_19 : decode cX0_cutIntoPieces 19 = .ok (.istore 4, 2) := by decide +kernel
theorem dX0_cutIntoPieces_21 : decode cX0_cutIntoPieces 21 = .ok (.iload 4, 2) := by decide +kernel
theorem dX0_cutIntoPieces_23 : decode cX0_cutIntoPieces 23 = .ok (.ifCond .lt 51, 3) := by decide +kernel
theorem dX0_cutIntoPieces_26 : decode cX0_cutIntoPieces 26 = .ok (.aload_n 0, 1) := by decide +kernel
theorem dX0_cutIntoPieces_27 : decode cX0_cutIntoPieces 27 = .ok (.getfield 24, 3) := by decide +kernel
theorem dX0_cutIntoPieces_30 : decode cX0_cutIntoPieces 30 = .ok (.iload_n 2, 1) := by decide +kernel
theorem dX0_cutIntoPieces_31 : decode cX0_cutIntoPieces 31 = .ok (.aaload, 1) := by decide +kernel
theorem dX0_cutIntoPieces_32 : decode cX0_cutIntoPieces 32 = .ok (.iload 4, 2) := by decide +kernel
theorem dX0_cutIntoPieces_34 : decode cX0_cutIntoPieces 34 = .ok (.iconst 0, 1) := by decide +kernel
theorem dX0_cutIntoPieces_35 : decode cX0_cutIntoPieces 35 = .ok (.iastore, 1) := by decide +kernel
theorem dX0_cutIntoPieces_36 : decode cX0_cutIntoPieces 36 = .ok (.iload 4, 2) := by decide +kernel
theorem dX0_cutIntoPieces_38 : decode cX0_cutIntoPieces 38 = .ok (.iload_n 3, 1) := by decide +kernel
theorem dX0_cutIntoPieces_39 : decode cX0_cutIntoPieces 39 = .ok (.if_icmp .ge 29, 3) := by decide +kernel
theorem dX0_cutIntoPieces_42 : decode cX0_cutIntoPieces 42 = .ok (.aload_n 0, 1) := by decide +kernel
theorem dX0_cutIntoPieces_43 : decode cX0_cutIntoPieces 43 = .ok (.aload_n 1, 1) := by decide +kernel
theorem dX0_cutIntoPieces_44 : decode cX0_cutIntoPieces 44 = .ok (.iload 4, 2) := by decide +kernel
theorem dX0_cutIntoPieces_46 : decode cX0_cutIntoPieces 46 = .ok (.invokevirtual 105, 3) := by decide +kernel
theorem dX0_cutIntoPieces_49 : decode cX0_cutIntoPieces 49 = .ok (.ifCond .eq 19, 3) := by decide +kernel
theorem dX0_cutIntoPieces_52 : decode cX0_cutIntoPieces 52 = .ok (.aload_n 0, 1) := by decide +kernel
theorem dX0_cutIntoPieces_53 : decode cX0_cutIntoPieces 53 = .ok (.getfield 24, 3) := by decide +kernel
theorem dX0_cutIntoPieces_56 : decode cX0_cutIntoPieces 56 = .ok (.iload_n 2, 1) := by decide +kernel
theorem dX0_cutIntoPieces_57 : decode cX0_cutIntoPieces 57 = .ok (.aaload, 1) := by decide +kernel
theorem dX0_cutIntoPieces_58 : decode cX0_cutIntoPieces 58 = .ok (.iload 4, 2) := by decide +kernel
theorem dX0_cutIntoPieces_60 : decode cX0_cutIntoPieces 60 = .ok (.iload_n 3, 1) := by decide +kernel
theorem dX0_cutIntoPieces_61 : decode cX0_cutIntoPieces 61 = .ok (.iload 4, 2) := by decide +kernel
theorem dX0_cutIntoPieces_63 : decode cX0_cutIntoPieces 63 = .ok (.isub, 1) := by decide +kernel
theorem dX0_cutIntoPieces_64 : decode cX0_cutIntoPieces 64 = .ok (.iastore, 1) := by decide +kernel
theorem dX0_cutIntoPieces_65 : decode cX0_cutIntoPieces 65 = .ok (.iload 4, 2) := by decide +kernel
theorem dX0_cutIntoPieces_67 : decode cX0_cutIntoPieces 67 = .ok (.istore_n 3, 1) := by decide +kernel
theorem dX0_cutIntoPieces_68 : decode cX0_cutIntoPieces 68 = .ok (.iinc 4 (-1), 3) := by decide +kernel
theorem dX0_cutIntoPieces_71 : decode cX0_cutIntoPieces 71 = .ok (.goto (-50), 3) := by decide +kernel
theorem dX0_cutIntoPieces_74 : decode cX0_cutIntoPieces 74 = .ok (.return_, 1) := by decide +kernel
theorem dX0_beginsPiece_0 : decode cX0_beginsPiece 0 = .ok (.iload_n 2, 1) := by decide +kernel
theorem dX0_beginsPiece_1 : decode cX0_beginsPiece 1 = .ok (.ifCond .eq 43, 3) := by decide +kernel
theorem dX0_beginsPiece_4 : decode cX0_beginsPiece 4 = .ok (.aload_n 0, 1) := by decide +kernel
theorem dX0_beginsPiece_5 : decode cX0_beginsPiece 5 = .ok (.aload_n 1, 1) := by decide +kernel
theorem dX0_beginsPiece_6 : decode cX0_beginsPiece 6 = .ok (.getfield 66, 3) := by decide +kernel
theorem dX0_beginsPiece_9 : decode cX0_beginsPiece 9 = .ok (.invokevirtual 71, 3) := by decide +kernel
theorem dX0_beginsPiece_12 : decode cX0_beginsPiece 12 = .ok (.aload_n 1, 1) := by decide +kernel
theorem dX0_beginsPiece_13 : decode cX0_beginsPiece 13 = .ok (.getfield 79, 3) := by decide +kernel
theorem dX0_beginsPiece_16 : decode cX0_beginsPiece 16 = .ok (.iload_n 2, 1) := by decide +kernel
theorem dX0_beginsPiece_17 : decode cX0_beginsPiece 17 = .ok (.iadd, 1) := by decide +kernel
theorem dX0_beginsPiece_18 : decode cX0_beginsPiece 18 = .ok (.invokevirtual 109, 3) := by decide +kernel
theorem dX0_beginsPiece_21 : decode cX0_beginsPiece 21 = .ok (.ifCond .ne 23, 3) := by decide +kernel
theorem dX0_beginsPiece_24 : decode cX0_beginsPiece 24 = .ok (.aload_n 0, 1) := by decide +kernel
theorem dX0_beginsPiece_25 : decode cX0_beginsPiece 25 = .ok (.aload_n 1, 1) := by decide +kernel
theorem dX0_beginsPiece_26 : decode cX0_beginsPiece 26 = .ok (.getfield 99, 3) := by decide +kernel
theorem dX0_beginsPiece_29 : decode cX0_beginsPiece 29 = .ok (.invokevirtual 71, 3) := by decide +kernel
theorem dX0_beginsPiece_32 : decode cX0_beginsPiece 32 = .ok (.aload_n 1, 1) := by decide +kernel
theorem dX0_beginsPiece_33 : decode cX0_beginsPiece 33 = .ok (.getfield 102, 3) := by decide +kernel
theorem dX0_beginsPiece_36 : decode cX0_beginsPiece 36 = .ok (.iload_n 2, 1) := by decide +kernel
theorem dX0_beginsPiece_37 : decode cX0_beginsPiece 37 = .ok (.iadd, 1) := by decide +kernel
theorem dX0_beginsPiece_38 : decode cX0_beginsPiece 38 = .ok (.invokevirtual 109, 3) := by decide +kernel
theorem dX0_beginsPiece_41 : decode cX0_beginsPiece 41 = .ok (.ifCond .eq 7, 3) := by decide +kernel
theorem dX0_beginsPiece_44 : decode cX0_beginsPiece 44 = .ok (.iconst 1, 1) := by decide +kernel
theorem dX0_beginsPiece_45 : decode cX0_beginsPiece 45 = .ok (.goto 4, 3) := by decide +kernel
theorem dX0_beginsPiece_48 : decode cX0_beginsPiece 48 = .ok (.iconst 0, 1) := by decide +kernel
theorem dX0_beginsPiece_49 : decode cX0_beginsPiece 49 = .ok (.ireturn, 1) := by decide +kernel
theorem dX0_touchPartitions_0 : decode cX0_touchPartitions 0 = .ok (.aload_n 1, 1) := by decide +kernel
theorem dX0_touchPartitions_1 : decode cX0_touchPartitions 1 = .ok (.invokevirtual 75, 3) := by decide +kernel
theorem dX0_touchPartitions_4 : decode cX0_touchPartitions 4 = .ok (.ifCond .eq 40, 3) := by decide +kernel
theorem dX0_touchPartitions_7 : decode cX0_touchPartitions 7 = .ok (.aload_n 0, 1) := by decide +kernel
theorem dX0_touchPartitions_8 : decode cX0_touchPartitions 8 = .ok (.aload_n 1, 1) := by decide +kernel
theorem dX0_touchPartitions_9 : decode cX0_touchPartitions 9 = .ok (.iconst 0, 1) := by decide +kernel
theorem dX0_touchPartitions_10 : decode cX0_touchPartitions 10 = .ok (.invokevirtual 113, 3) := by decide +kernel
theorem dX0_touchPartitions_13 : decode cX0_touchPartitions 13 = .ok (.astore_n 3, 1) := by decide +kernel
theorem dX0_touchPartitions_14 : decode cX0_touchPartitions 14 = .ok (.aload_n 3, 1) := by decide +kernel
theorem dX0_touchPartitions_15 : decode cX0_touchPartitions 15 = .ok (.aload_n 1, 1) := by decide +kernel
theorem dX0_touchPartitions_16 : decode cX0_touchPartitions 16 = .ok (.getfield 82, 3) := by decide +kernel
theorem dX0_touchPartitions_19 : decode cX0_touchPartitions 19 = .ok (.invokevirtual 117, 3) := by decide +kernel
theorem dX0_touchPartitions_22 : decode cX0_touchPartitions 22 = .ok (.aload_n 3, 1) := by decide +kernel
theorem dX0_touchPartitions_23 : decode cX0_touchPartitions 23 = .ok (.dup, 1) := by decide +kernel
theorem dX0_touchPartitions_24 : decode cX0_touchPartitions 24 = .ok (.getfield 122, 3) := by decide +kernel
theorem dX0_touchPartitions_27 : decode cX0_touchPartitions 27 = .ok (.aload_n 1, 1) := by decide +kernel
theorem dX0_touchPartitions_28 : decode cX0_touchPartitions 28 = .ok (.getfield 89, 3) := by decide +kernel
theorem dX0_touchPartitions_31 : decode cX0_touchPartitions 31 = .ok (.iconst 2, 1) := by decide +kernel
theorem dX0_touchPartitions_32 : decode cX0_touchPartitions 32 = .ok (.if_icmp .ne 7, 3) := by decide +kernel
theorem dX0_touchPartitions_35 : decode cX0_touchPartitions 35 = .ok (.iconst 1, 1) := by decide +kernel
theorem dX0_touchPartitions_36 : decode cX0_touchPartitions 36 = .ok (.goto 4, 3) := by decide +kernel
theorem dX0_touchPartitions_39 : decode cX0_touchPartitions 39 = .ok (.iconst 0, 1) := by decide +kernel
theorem dX0_touchPartitions_40 : decode cX0_touchPartitions 40 = .ok (.ior, 1) := by decide +kernel
theorem dX0_touchPartitions_41 : decode cX0_touchPartitions 41 = .ok (.putfield 122, 3) := by decide +kernel
theorem dX0_touchPartitions_44 : decode cX0_touchPartitions 44 = .ok (.iconst 0, 1) := by decide +kernel
theorem dX0_touchPartitions_45 : decode cX0_touchPartitions 45 = .ok (.istore_n 3, 1) := by decide +kernel
theorem dX0_touchPartitions_46 : decode cX0_touchPartitions 46 = .ok (.iload_n 3, 1) := by decide +kernel
theorem dX0_touchPartitions_47 : decode cX0_touchPartitions 47 = .ok (.bipush 16, 2) := by decide +kernel
theorem dX0_touchPartitions_49 : decode cX0_touchPartitions 49 = .ok (.if_icmp .ge 46, 3) := by decide +kernel
theorem dX0_touchPartitions_52 : decode cX0_touchPartitions 52 = .ok (.aload_n 0, 1) := by decide +kernel
theorem dX0_touchPartitions_53 : decode cX0_touchPartitions 53 = .ok (.getfield 24, 3) := by decide +kernel
theorem dX0_touchPartitions_56 : decode cX0_touchPartitions 56 = .ok (.iload_n 2, 1) := by decide +kernel
theorem dX0_touchPartitions_57 : decode cX0_touchPartitions 57 = .ok (.aaload, 1) := by decide +kernel
theorem dX0_touchPartitions_58 : decode cX0_touchPartitions 58 = .ok (.iload_n 3, 1) := by decide +kernel
theorem dX0_touchPartitions_59 : decode cX0_touchPartitions 59 = .ok (.iaload, 1) := by decide +kernel
theorem dX0_touchPartitions_60 : decode cX0_touchPartitions 60 = .ok (.istore 4, 2) := by decide +kernel
theorem dX0_touchPartitions_62 : decode cX0_touchPartitions 62 = .ok (.iload 4, 2) := by decide +kernel
theorem dX0_touchPartitions_64 : decode cX0_touchPartitions 64 = .ok (.ifCond .le 25, 3) := by decide +kernel
theorem dX0_touchPartitions_67 : decode cX0_touchPartitions 67 = .ok (.aload_n 0, 1) := by decide +kernel
theorem dX0_touchPartitions_68 : decode cX0_touchPartitions 68 = .ok (.aload_n 1, 1) := by decide +kernel
theorem dX0_touchPartitions_69 : decode cX0_touchPartitions 69 = .ok (.iload_n 3, 1) := by decide +kernel
theorem dX0_touchPartitions_70 : decode cX0_touchPartitions 70 = .ok (.invokevirtual 113, 3) := by decide +kernel
theorem dX0_touchPartitions_73 : decode cX0_touchPartitions 73 = .ok (.iload 4, 2) := by decide +kernel
theorem dX0_touchPartitions_75 : decode cX0_touchPartitions 75 = .ok (.invokevirtual 117, 3) := by decide +kernel
theorem dX0_touchPartitions_78 : decode cX0_touchPartitions 78 = .ok (.aload_n 0, 1) := by decide +kernel
theorem dX0_touchPartitions_79 : decode cX0_touchPartitions 79 = .ok (.aload_n 1, 1) := by decide +kernel
theorem dX0_touchPartitions_80 : decode cX0_touchPartitions 80 = .ok (.iload_n 3, 1) := by decide +kernel
theorem dX0_touchPartitions_81 : decode cX0_touchPartitions 81 = .ok (.invokevirtual 125, 3) := by decide +kernel
theorem dX0_touchPartitions_84 : decode cX0_touchPartitions 84 = .ok (.iload 4, 2) := by decide +kernel
theorem dX0_touchPartitions_86 : decode cX0_touchPartitions 86 = .ok (.invokevirtual 117, 3) := by decide +kernel
theorem dX0_touchPartitions_89 : decode cX0_touchPartitions 89 = .ok (.iinc 3 1, 3) := by decide +kernel
theorem dX0_touchPartitions_92 : decode cX0_touchPartitions 92 = .ok (.goto (-46), 3) := by decide +kernel
theorem dX0_touchPartitions_95 : decode cX0_touchPartitions 95 = .ok (.return_, 1) := by decide +kernel
theorem dX0_markLive_0 : decode cX0_markLive 0 = .ok (.iconst 1, 1) := by decide +kernel
theorem dX0_markLive_1 : decode cX0_markLive 1 = .ok (.istore_n 2, 1) := by decide +kernel
theorem dX0_markLive_2 : decode cX0_markLive 2 = .ok (.iconst 0, 1) := by decide +kernel
theorem dX0_markLive_3 : decode cX0_markLive 3 = .ok (.istore_n 3, 1) := by decide +kernel
theorem dX0_markLive_4 : decode cX0_markLive 4 = .ok (.iload_n 2, 1) := by decide +kernel
theorem dX0_markLive_5 : decode cX0_markLive 5 = .ok (.ifCond .eq 51, 3) := by decide +kernel
theorem dX0_markLive_8 : decode cX0_markLive 8 = .ok (.iload_n 3, 1) := by decide +kernel
theorem dX0_markLive_9 : decode cX0_markLive 9 = .ok (.bipush 64, 2) := by decide +kernel
theorem dX0_markLive_11 : decode cX0_markLive 11 = .ok (.if_icmp .gt 45, 3) := by decide +kernel
theorem dX0_markLive_14 : decode cX0_markLive 14 = .ok (.iconst 0, 1) := by decide +kernel
theorem dX0_markLive_15 : decode cX0_markLive 15 = .ok (.istore_n 2, 1) := by decide +kernel
theorem dX0_markLive_16 : decode cX0_markLive 16 = .ok (.aload_n 1, 1) := by decide +kernel
theorem dX0_markLive_17 : decode cX0_markLive 17 = .ok (.getfield 41, 3) := by decide +kernel
theorem dX0_markLive_20 : decode cX0_markLive 20 = .ok (.iconst 1, 1) := by decide +kernel
theorem dX0_markLive_21 : decode cX0_markLive 21 = .ok (.isub, 1) := by decide +kernel
theorem dX0_markLive_22 : decode cX0_markLive 22 = .ok (.istore 4, 2) := by decide +kernel
theorem dX0_markLive_24 : decode cX0_markLive 24 = .ok (.iload 4, 2) := by decide +kernel
theorem dX0_markLive_26 : decode cX0_markLive 26 = .ok (.ifCond .lt 24, 3) := by decide +kernel
theorem dX0_markLive_29 : decode cX0_markLive 29 = .ok (.iload_n 2, 1) := by decide +kernel
theorem dX0_markLive_30 : decode cX0_markLive 30 = .ok (.aload_n 0, 1) := by decide +kernel
theorem dX0_markLive_31 : decode cX0_markLive 31 = .ok (.aload_n 1, 1) := by decide +kernel
theorem dX0_markLive_32 : decode cX0_markLive 32 = .ok (.iload 4, 2) := by decide +kernel
theorem dX0_markLive_34 : decode cX0_markLive 34 = .ok (.invokevirtual 45, 3) := by decide +kernel
theorem dX0_markLive_37 : decode cX0_markLive 37 = .ok (.iload 4, 2) := by decide +kernel
theorem dX0_markLive_39 : decode cX0_markLive 39 = .ok (.invokevirtual 128, 3) := by decide +kernel
theorem dX0_markLive_42 : decode cX0_markLive 42 = .ok (.ior, 1) := by decide +kernel
theorem dX0_markLive_43 : decode cX0_markLive 43 = .ok (.istore_n 2, 1) := by decide +kernel
theorem dX0_markLive_44 : decode cX0_markLive 44 = .ok (.iinc 4 (-1), 3) := by decide +kernel
theorem dX0_markLive_47 : decode cX0_markLive 47 = .ok (.goto (-23), 3) := by decide +kernel
theorem dX0_markLive_50 : decode cX0_markLive 50 = .ok (.iinc 3 1, 3) := by decide +kernel
theorem dX0_markLive_53 : decode cX0_markLive 53 = .ok (.goto (-49), 3) := by decide +kernel
theorem dX0_markLive_56 : decode cX0_markLive 56 = .ok (.return_, 1) := by decide +kernel
theorem dX0_passLifeToOrigins_0 : decode cX0_passLifeToOrigins 0 = .ok (.iconst 0, 1) := by decide +kernel
theorem dX0_passLifeToOrigins_1 : decode cX0_passLifeToOrigins 1 = .ok (.istore_n 3, 1) := by decide +kernel
theorem dX0_passLifeToOrigins_2 : decode cX0_passLifeToOrigins 2 = .ok (.iconst 0, 1) := by decide +kernel
theorem dX0_passLifeToOrigins_3 : decode cX0_passLifeToOrigins 3 = .ok (.istore 4, 2) := by decide +kernel
theorem dX0_passLifeToOrigins_5 : decode cX0_passLifeToOrigins 5 = .ok (.iload 4, 2) := by decide +kernel
theorem dX0_passLifeToOrigins_7 : decode cX0_passLifeToOrigins 7 = .ok (.bipush 16, 2) := by decide +kernel
theorem dX0_passLifeToOrigins_9 : decode cX0_passLifeToOrigins 9 = .ok (.if_icmp .ge 60, 3) := by decide +kernel
theorem dX0_passLifeToOrigins_12 : decode cX0_passLifeToOrigins 12 = .ok (.aload_n 0, 1) := by decide +kernel
theorem dX0_passLifeToOrigins_13 : decode cX0_passLifeToOrigins 13 = .ok (.getfield 24, 3) := by decide +kernel
theorem dX0_passLifeToOrigins_16 : decode cX0_passLifeToOrigins 16 = .ok (.iload_n 2, 1) := by decide +kernel
theorem dX0_passLifeToOrigins_17 : decode cX0_passLifeToOrigins 17 = .ok (.aaload, 1) := by decide +kernel
theorem dX0_passLifeToOrigins_18 : decode cX0_passLifeToOrigins 18 = .ok (.iload 4, 2) := by decide +kernel
theorem dX0_passLifeToOrigins_20 : decode cX0_passLifeToOrigins 20 = .ok (.iaload, 1) := by decide +kernel
theorem dX0_passLifeToOrigins_21 : decode cX0_passLifeToOrigins 21 = .ok (.ifCond .le 42, 3) := by decide +kernel
theorem dX0_passLifeToOrigins_24 : decode cX0_passLifeToOrigins 24 = .ok (.aload_n 0, 1) := by decide +kernel
theorem dX0_passLifeToOrigins_25 : decode cX0_passLifeToOrigins 25 = .ok (.aload_n 1, 1) := by decide +kernel
theorem dX0_passLifeToOrigins_26 : decode cX0_passLifeToOrigins 26 = .ok (.iload 4, 2) := by decide +kernel
theorem dX0_passLifeToOrigins_28 : decode cX0_passLifeToOrigins 28 = .ok (.invokevirtual 113, 3) := by decide +kernel
theorem dX0_passLifeToOrigins_31 : decode cX0_passLifeToOrigins 31 = .ok (.getfield 122, 3) := by decide +kernel
theorem dX0_passLifeToOrigins_34 : decode cX0_passLifeToOrigins 34 = .ok (.ifCond .eq 29, 3) := by decide +kernel
theorem dX0_passLifeToOrigins_37 : decode cX0_passLifeToOrigins 37 = .ok (.aload_n 0, 1) := by decide +kernel
theorem dX0_passLifeToOrigins_38 : decode cX0_passLifeToOrigins 38 = .ok (.aload_n 1, 1) := by decide +kernel
theorem dX0_passLifeToOrigins_39 : decode cX0_passLifeToOrigins 39 = .ok (.iload 4, 2) := by decide +kernel
theorem dX0_passLifeToOrigins_41 : decode cX0_passLifeToOrigins 41 = .ok (.invokevirtual 125, 3) := by decide +kernel
theorem dX0_passLifeToOrigins_44 : decode cX0_passLifeToOrigins 44 = .ok (.getfield 122, 3) := by decide +kernel
theorem dX0_passLifeToOrigins_47 : decode cX0_passLifeToOrigins 47 = .ok (.ifCond .ne 16, 3) := by decide +kernel
theorem dX0_passLifeToOrigins_50 : decode cX0_passLifeToOrigins 50 = .ok (.aload_n 0, 1) := by decide +kernel
theorem dX0_passLifeToOrigins_51 : decode cX0_passLifeToOrigins 51 = .ok (.aload_n 1, 1) := by decide +kernel
theorem dX0_passLifeToOrigins_52 : decode cX0_passLifeToOrigins 52 = .ok (.iload 4, 2) := by decide +kernel
theorem dX0_passLifeToOrigins_54 : decode cX0_passLifeToOrigins 54 = .ok (.invokevirtual 125, 3) := by decide +kernel
theorem dX0_passLifeToOrigins_57 : decode cX0_passLifeToOrigins 57 = .ok (.iconst 1, 1) := by decide +kernel
theorem dX0_passLifeToOrigins_58 : decode cX0_passLifeToOrigins 58 = .ok (.putfield 122, 3) := by decide +kernel
theorem dX0_passLifeToOrigins_61 : decode cX0_passLifeToOrigins 61 = .ok (.iconst 1, 1) := by decide +kernel
theorem dX0_passLifeToOrigins_62 : decode cX0_passLifeToOrigins 62 = .ok (.istore_n 3, 1) := by decide +kernel
theorem dX0_passLifeToOrigins_63 : decode cX0_passLifeToOrigins 63 = .ok (.iinc 4 1, 3) := by decide +kernel
theorem dX0_passLifeToOrigins_66 : decode cX0_passLifeToOrigins 66 = .ok (.goto (-61), 3) := by decide +kernel
theorem dX0_passLifeToOrigins_69 : decode cX0_passLifeToOrigins 69 = .ok (.iload_n 3, 1) := by decide +kernel
theorem dX0_passLifeToOrigins_70 : decode cX0_passLifeToOrigins 70 = .ok (.ireturn, 1) := by decide +kernel
theorem dX0_target_0 : decode cX0_target 0 = .ok (.aload_n 0, 1) := by decide +kernel
theorem dX0_target_1 : decode cX0_target 1 = .ok (.aload_n 1, 1) := by decide +kernel
theorem dX0_target_2 : decode cX0_target 2 = .ok (.getfield 66, 3) := by decide +kernel
theorem dX0_target_5 : decode cX0_target 5 = .ok (.invokevirtual 71, 3) := by decide +kernel
theorem dX0_target_8 : decode cX0_target 8 = .ok (.aload_n 1, 1) := by decide +kernel
theorem dX0_target_9 : decode cX0_target 9 = .ok (.getfield 79, 3) := by decide +kernel
theorem dX0_target_12 : decode cX0_target 12 = .ok (.iload_n 2, 1) := by decide +kernel
theorem dX0_target_13 : decode cX0_target 13 = .ok (.iadd, 1) := by decide +kernel
theorem dX0_target_14 : decode cX0_target 14 = .ok (.invokevirtual 131, 3) := by decide +kernel
theorem dX0_target_17 : decode cX0_target 17 = .ok (.areturn, 1) := by decide +kernel
theorem dX0_origin_0 : decode cX0_origin 0 = .ok (.aload_n 0, 1) := by decide +kernel
theorem dX0_origin_1 : decode cX0_origin 1 = .ok (.aload_n 1, 1) := by decide +kernel
theorem dX0_origin_2 : decode cX0_origin 2 = .ok (.getfield 99, 3) := by decide +kernel
theorem dX0_origin_5 : decode cX0_origin 5 = .ok (.invokevirtual 71, 3) := by decide +kernel
theorem dX0_origin_8 : decode cX0_origin 8 = .ok (.aload_n 1, 1) := by decide +kernel
theorem dX0_origin_9 : decode cX0_origin 9 = .ok (.getfield 102, 3) := by decide +kernel
theorem dX0_origin_12 : decode cX0_origin 12 = .ok (.iload_n 2, 1) := by decide +kernel
theorem dX0_origin_13 : decode cX0_origin 13 = .ok (.iadd, 1) := by decide +kernel
theorem dX0_origin_14 : decode cX0_origin 14 = .ok (.invokevirtual 131, 3) := by decide +kernel
theorem dX0_origin_17 : decode cX0_origin 17 = .ok (.areturn, 1) := by decide +kernel
theorem dX0_countPieces_0 : decode cX0_countPieces 0 = .ok (.iconst 0, 1) := by decide +kernel
theorem dX0_countPieces_1 : decode cX0_countPieces 1 = .ok (.istore_n 2, 1) := by decide +kernel
theorem dX0_countPieces_2 : decode cX0_countPieces 2 = .ok (.iconst 0, 1) := by decide +kernel
theorem dX0_countPieces_3 : decode cX0_countPieces 3 = .ok (.istore_n 3, 1) := by decide +kernel
theorem dX0_countPieces_4 : decode cX0_countPieces 4 = .ok (.iload_n 3, 1) := by decide +kernel
theorem dX0_countPieces_5 : decode cX0_countPieces 5 = .ok (.bipush 16, 2) := by decide +kernel
theorem dX0_countPieces_7 : decode cX0_countPieces 7 = .ok (.if_icmp .ge 31, 3) := by decide +kernel
theorem dX0_countPieces_10 : decode cX0_countPieces 10 = .ok (.iload_n 2, 1) := by decide +kernel
theorem dX0_countPieces_11 : decode cX0_countPieces 11 = .ok (.aload_n 0, 1) := by decide +kernel
theorem dX0_countPieces_12 : decode cX0_countPieces 12 = .ok (.getfield 24, 3) := by decide +kernel
theorem dX0_countPieces_15 : decode cX0_countPieces 15 = .ok (.iload_n 1, 1) := by decide +kernel
theorem dX0_countPieces_16 : decode cX0_countPieces 16 = .ok (.aaload, 1) := by decide +kernel
theorem dX0_countPieces_17 : decode cX0_countPieces 17 = .ok (.iload_n 3, 1) := by decide +kernel
theorem dX0_countPieces_18 : decode cX0_countPieces 18 = .ok (.iaload, 1) := by decide +kernel
theorem dX0_countPieces_19 : decode cX0_countPieces 19 = .ok (.ifCond .le 7, 3) := by decide +kernel
theorem dX0_countPieces_22 : decode cX0_countPieces 22 = .ok (.iconst 1, 1) := by decide +kernel
theorem dX0_countPieces_23 : decode cX0_countPieces 23 = .ok (.goto 4, 3) := by decide +kernel
theorem dX0_countPieces_26 : decode cX0_countPieces 26 = .ok (.iconst 0, 1) := by decide +kernel
theorem dX0_countPieces_27 : decode cX0_countPieces 27 = .ok (.invokestatic 135, 3) := by decide +kernel
theorem dX0_countPieces_30 : decode cX0_countPieces 30 = .ok (.iadd, 1) := by decide +kernel
theorem dX0_countPieces_31 : decode cX0_countPieces 31 = .ok (.istore_n 2, 1) := by decide +kernel
theorem dX0_countPieces_32 : decode cX0_countPieces 32 = .ok (.iinc 3 1, 3) := by decide +kernel
theorem dX0_countPieces_35 : decode cX0_countPieces 35 = .ok (.goto (-31), 3) := by decide +kernel
theorem dX0_countPieces_38 : decode cX0_countPieces 38 = .ok (.iload_n 2, 1) := by decide +kernel
theorem dX0_countPieces_39 : decode cX0_countPieces 39 = .ok (.ireturn, 1) := by decide +kernel
theorem dX0_lengthOfPiece_0 : decode cX0_lengthOfPiece 0 = .ok (.iconst 0, 1) := by decide +kernel
theorem dX0_lengthOfPiece_1 : decode cX0_lengthOfPiece 1 = .ok (.istore_n 3, 1) := by decide +kernel
theorem dX0_lengthOfPiece_2 : decode cX0_lengthOfPiece 2 = .ok (.iconst 0, 1) := by decide +kernel
theorem dX0_lengthOfPiece_3 : decode cX0_lengthOfPiece 3 = .ok (.istore 4, 2) := by decide +kernel
theorem dX0_lengthOfPiece_5 : decode cX0_lengthOfPiece 5 = .ok (.iload 4, 2) := by decide +kernel
theorem dX0_lengthOfPiece_7 : decode cX0_lengthOfPiece 7 = .ok (.bipush 16, 2) := by decide +kernel
theorem dX0_lengthOfPiece_9 : decode cX0_lengthOfPiece 9 = .ok (.if_icmp .ge 36, 3) := by decide +kernel
theorem dX0_lengthOfPiece_12 : decode cX0_lengthOfPiece 12 = .ok (.aload_n 0, 1) := by decide +kernel
theorem dX0_lengthOfPiece_13 : decode cX0_lengthOfPiece 13 = .ok (.getfield 24, 3) := by decide +kernel
theorem dX0_lengthOfPiece_16 : decode cX0_lengthOfPiece 16 = .ok (.iload_n 1, 1) := by decide +kernel
theorem dX0_lengthOfPiece_17 : decode cX0_lengthOfPiece 17 = .ok (.aaload, 1) := by decide +kernel
theorem dX0_lengthOfPiece_18 : decode cX0_lengthOfPiece 18 = .ok (.iload 4, 2) := by decide +kernel
theorem dX0_lengthOfPiece_20 : decode cX0_lengthOfPiece 20 = .ok (.iaload, 1) := by decide +kernel
theorem dX0_lengthOfPiece_21 : decode cX0_lengthOfPiece 21 = .ok (.istore 5, 2) := by decide +kernel
theorem dX0_lengthOfPiece_23 : decode cX0_lengthOfPiece 23 = .ok (.iload 5, 2) := by decide +kernel
theorem dX0_lengthOfPiece_25 : decode cX0_lengthOfPiece 25 = .ok (.ifCond .le 14, 3) := by decide +kernel
theorem dX0_lengthOfPiece_28 : decode cX0_lengthOfPiece 28 = .ok (.iload_n 3, 1) := by decide +kernel
theorem dX0_lengthOfPiece_29 : decode cX0_lengthOfPiece 29 = .ok (.iload_n 2, 1) := by decide +kernel
theorem dX0_lengthOfPiece_30 : decode cX0_lengthOfPiece 30 = .ok (.if_icmp .ne 6, 3) := by decide +kernel
theorem dX0_lengthOfPiece_33 : decode cX0_lengthOfPiece 33 = .ok (.iload 5, 2) := by decide +kernel
theorem dX0_lengthOfPiece_35 : decode cX0_lengthOfPiece 35 = .ok (.ireturn, 1) := by decide +kernel
theorem dX0_lengthOfPiece_36 : decode cX0_lengthOfPiece 36 = .ok (.iinc 3 1, 3) := by decide +kernel
theorem dX0_lengthOfPiece_39 : decode cX0_lengthOfPiece 39 = .ok (.iinc 4 1, 3) := by decide +kernel
theorem dX0_lengthOfPiece_42 : decode cX0_lengthOfPiece 42 = .ok (.goto (-37), 3) := by decide +kernel
theorem dX0_lengthOfPiece_45 : decode cX0_lengthOfPiece 45 = .ok (.iconst 0, 1) := by decide +kernel
theorem dX0_lengthOfPiece_46 : decode cX0_lengthOfPiece 46 = .ok (.ireturn, 1) := by decide +kernel
theorem dX1_init_0 : decode cX1_init 0 = .ok (.aload_n 0, 1) := by decide +kernel
theorem dX1_init_1 : decode cX1_init 1 = .ok (.invokespecial 3, 3) := by decide +kernel
theorem dX1_init_4 : decode cX1_init 4 = .ok (.aload_n 0, 1) := by decide +kernel
theorem dX1_init_5 : decode cX1_init 5 = .ok (.bipush 8, 2) := by decide +kernel
theorem dX1_init_7 : decode cX1_init 7 = .ok (.newarray .int, 2) := by decide +kernel
theorem dX1_init_9 : decode cX1_init 9 = .ok (.putfield 9, 3) := by decide +kernel
theorem dX1_init_12 : decode cX1_init 12 = .ok (.aload_n 0, 1) := by decide +kernel
theorem dX1_init_13 : decode cX1_init 13 = .ok (.bipush 8, 2) := by decide +kernel
theorem dX1_init_15 : decode cX1_init 15 = .ok (.newarray .int, 2) := by decide +kernel
theorem dX1_init_17 : decode cX1_init 17 = .ok (.putfield 15, 3) := by decide +kernel
theorem dX1_init_20 : decode cX1_init 20 = .ok (.aload_n 0, 1) := by decide +kernel
theorem dX1_init_21 : decode cX1_init 21 = .ok (.bipush 8, 2) := by decide +kernel
theorem dX1_init_23 : decode cX1_init 23 = .ok (.anewarray 18, 3) := by decide +kernel
theorem dX1_init_26 : decode cX1_init 26 = .ok (.putfield 20, 3) := by decide +kernel
theorem dX1_init_29 : decode cX1_init 29 = .ok (.return_, 1) := by decide +kernel
theorem dX1_note_0 : decode cX1_note 0 = .ok (.aload_n 0, 1) := by decide +kernel
theorem dX1_note_1 : decode cX1_note 1 = .ok (.getfield 9, 3) := by decide +kernel
theorem dX1_note_4 : decode cX1_note 4 = .ok (.aload_n 0, 1) := by decide +kernel
theorem dX1_note_5 : decode cX1_note 5 = .ok (.getfield 24, 3) := by decide +kernel
theorem dX1_note_8 : decode cX1_note 8 = .ok (.iload_n 1, 1) := by decide +kernel
theorem dX1_note_9 : decode cX1_note 9 = .ok (.iastore, 1) := by decide +kernel
theorem dX1_note_10 : decode cX1_note 10 = .ok (.aload_n 0, 1) := by decide +kernel
theorem dX1_note_11 : decode cX1_note 11 = .ok (.getfield 15, 3) := by decide +kernel
theorem dX1_note_14 : decode cX1_note 14 = .ok (.aload_n 0, 1) := by decide +kernel
theorem dX1_note_15 : decode cX1_note 15 = .ok (.getfield 24, 3) := by decide +kernel
theorem dX1_note_18 : decode cX1_note 18 = .ok (.iload_n 2, 1) := by decide +kernel
theorem dX1_note_19 : decode cX1_note 19 = .ok (.iastore, 1) := by decide +kernel
theorem dX1_note_20 : decode cX1_note 20 = .ok (.aload_n 0, 1) := by decide +kernel
theorem dX1_note_21 : decode cX1_note 21 = .ok (.getfield 20, 3) := by decide +kernel
theorem dX1_note_24 : decode cX1_note 24 = .ok (.aload_n 0, 1) := by decide +kernel
theorem dX1_note_25 : decode cX1_note 25 = .ok (.getfield 24, 3) := by decide +kernel
theorem dX1_note_28 : decode cX1_note 28 = .ok (.aload_n 3, 1) := by decide +kernel
theorem dX1_note_29 : decode cX1_note 29 = .ok (.aastore, 1) := by decide +kernel
theorem dX1_note_30 : decode cX1_note 30 = .ok (.aload_n 0, 1) := by decide +kernel
theorem dX1_note_31 : decode cX1_note 31 = .ok (.aload_n 0, 1) := by decide +kernel
theorem dX1_note_32 : decode cX1_note 32 = .ok (.getfield 24, 3) := by decide +kernel
theorem dX1_note_35 : decode cX1_note 35 = .ok (.iconst 1, 1) := by decide +kernel
theorem dX1_note_36 : decode cX1_note 36 = .ok (.iadd, 1) := by decide +kernel
theorem dX1_note_37 : decode cX1_note 37 = .ok (.bipush 8, 2) := by decide +kernel
theorem dX1_note_39 : decode cX1_note 39 = .ok (.irem, 1) := by decide +kernel
theorem dX1_note_40 : decode cX1_note 40 = .ok (.putfield 24, 3) := by decide +kernel
theorem dX1_note_43 : decode cX1_note 43 = .ok (.aload_n 0, 1) := by decide +kernel
theorem dX1_note_44 : decode cX1_note 44 = .ok (.aload_n 0, 1) := by decide +kernel
theorem dX1_note_45 : decode cX1_note 45 = .ok (.getfield 28, 3) := by decide +kernel
theorem dX1_note_48 : decode cX1_note 48 = .ok (.iconst 1, 1) := by decide +kernel
theorem dX1_note_49 : decode cX1_note 49 = .ok (.iadd, 1) := by decide +kernel
theorem dX1_note_50 : decode cX1_note 50 = .ok (.bipush 8, 2) := by decide +kernel
theorem dX1_note_52 : decode cX1_note 52 = .ok (.invokestatic 31, 3) := by decide +kernel
theorem dX1_note_55 : decode cX1_note 55 = .ok (.putfield 28, 3) := by decide +kernel
theorem dX1_note_58 : decode cX1_note 58 = .ok (.return_, 1) := by decide +kernel
theorem dX1_takeBack_0 : decode cX1_takeBack 0 = .ok (.aload_n 0, 1) := by decide +kernel
theorem dX1_takeBack_1 : decode cX1_takeBack 1 = .ok (.getfield 28, 3) := by decide +kernel
theorem dX1_takeBack_4 : decode cX1_takeBack 4 = .ok (.ifCond .ne 4, 3) := by decide +kernel
theorem dX1_takeBack_7 : decode cX1_takeBack 7 = .ok (.return_, 1) := by decide +kernel
theorem dX1_takeBack_8 : decode cX1_takeBack 8 = .ok (.aload_n 0, 1) := by decide +kernel
theorem dX1_takeBack_9 : decode cX1_takeBack 9 = .ok (.dup, 1) := by decide +kernel
theorem dX1_takeBack_10 : decode cX1_takeBack 10 = .ok (.getfield 28, 3) := by decide +kernel
theorem dX1_takeBack_13 : decode cX1_takeBack 13 = .ok (.iconst 1, 1) := by decide +kernel
theorem dX1_takeBack_14 : decode cX1_takeBack 14 = .ok (.isub, 1) := by decide +kernel
theorem dX1_takeBack_15 : decode cX1_takeBack 15 = .ok (.putfield 28, 3) := by decide +kernel
theorem dX1_takeBack_18 : decode cX1_takeBack 18 = .ok (.aload_n 0, 1) := by decide +kernel
theorem dX1_takeBack_19 : decode cX1_takeBack 19 = .ok (.aload_n 0, 1) := by decide +kernel
theorem dX1_takeBack_20 : decode cX1_takeBack 20 = .ok (.getfield 24, 3) := by decide +kernel
theorem dX1_takeBack_23 : decode cX1_takeBack 23 = .ok (.bipush 8, 2) := by decide +kernel
theorem dX1_takeBack_25 : decode cX1_takeBack 25 = .ok (.iadd, 1) := by decide +kernel
theorem dX1_takeBack_26 : decode cX1_takeBack 26 = .ok (.iconst 1, 1) := by decide +kernel
theorem dX1_takeBack_27 : decode cX1_takeBack 27 = .ok (.isub, 1) := by decide +kernel
theorem dX1_takeBack_28 : decode cX1_takeBack 28 = .ok (.bipush 8, 2) := by decide +kernel
theorem dX1_takeBack_30 : decode cX1_takeBack 30 = .ok (.irem, 1) := by decide +kernel
theorem dX1_takeBack_31 : decode cX1_takeBack 31 = .ok (.putfield 24, 3) := by decide +kernel
theorem dX1_takeBack_34 : decode cX1_takeBack 34 = .ok (.aload_n 0, 1) := by decide +kernel
theorem dX1_takeBack_35 : decode cX1_takeBack 35 = .ok (.getfield 9, 3) := by decide +kernel
theorem dX1_takeBack_38 : decode cX1_takeBack 38 = .ok (.aload_n 0, 1) := by decide +kernel
theorem dX1_takeBack_39 : decode cX1_takeBack 39 = .ok (.getfield 24, 3) := by decide +kernel
theorem dX1_takeBack_42 : decode cX1_takeBack 42 = .ok (.iaload, 1) := by decide +kernel
theorem dX1_takeBack_43 : decode cX1_takeBack 43 = .ok (.iconst 1, 1) := by decide +kernel
theorem dX1_takeBack_44 : decode cX1_takeBack 44 = .ok (.if_icmp .ne 10, 3) := by decide +kernel
theorem dX1_takeBack_47 : decode cX1_takeBack 47 = .ok (.aload_n 1, 1) := by decide +kernel
theorem dX1_takeBack_48 : decode cX1_takeBack 48 = .ok (.invokevirtual 37, 3) := by decide +kernel
theorem dX1_takeBack_51 : decode cX1_takeBack 51 = .ok (.goto 54, 3) := by decide +kernel
theorem dX1_takeBack_54 : decode cX1_takeBack 54 = .ok (.aload_n 0, 1) := by decide +kernel
theorem dX1_takeBack_55 : decode cX1_takeBack 55 = .ok (.getfield 9, 3) := by decide +kernel
theorem dX1_takeBack_58 : decode cX1_takeBack 58 = .ok (.aload_n 0, 1) := by decide +kernel
theorem dX1_takeBack_59 : decode cX1_takeBack 59 = .ok (.getfield 24, 3) := by decide +kernel
theorem dX1_takeBack_62 : decode cX1_takeBack 62 = .ok (.iaload, 1) := by decide +kernel
theorem dX1_takeBack_63 : decode cX1_takeBack 63 = .ok (.iconst 2, 1) := by decide +kernel
theorem dX1_takeBack_64 : decode cX1_takeBack 64 = .ok (.if_icmp .ne 19, 3) := by decide +kernel
theorem dX1_takeBack_67 : decode cX1_takeBack 67 = .ok (.aload_n 1, 1) := by decide +kernel
theorem dX1_takeBack_68 : decode cX1_takeBack 68 = .ok (.aload_n 0, 1) := by decide +kernel
theorem dX1_takeBack_69 : decode cX1_takeBack 69 = .ok (.getfield 15, 3) := by decide +kernel
theorem dX1_takeBack_72 : decode cX1_takeBack 72 = .ok (.aload_n 0, 1) := by decide +kernel
theorem dX1_takeBack_73 : decode cX1_takeBack 73 = .ok (.getfield 24, 3) := by decide +kernel
theorem dX1_takeBack_76 : decode cX1_takeBack 76 = .ok (.iaload, 1) := by decide +kernel
theorem dX1_takeBack_77 : decode cX1_takeBack 77 = .ok (.invokevirtual 42, 3) := by decide +kernel
theorem dX1_takeBack_80 : decode cX1_takeBack 80 = .ok (.goto 25, 3) := by decide +kernel
theorem dX1_takeBack_83 : decode cX1_takeBack 83 = .ok (.aload_n 1, 1) := by decide +kernel
theorem dX1_takeBack_84 : decode cX1_takeBack 84 = .ok (.aload_n 0, 1) := by decide +kernel
theorem dX1_takeBack_85 : decode cX1_takeBack 85 = .ok (.getfield 15, 3) := by decide +kernel
theorem dX1_takeBack_88 : decode cX1_takeBack 88 = .ok (.aload_n 0, 1) := by decide +kernel
theorem dX1_takeBack_89 : decode cX1_takeBack 89 = .ok (.getfield 24, 3) := by decide +kernel
theorem dX1_takeBack_92 : decode cX1_takeBack 92 = .ok (.iaload, 1) := by decide +kernel
theorem dX1_takeBack_93 : decode cX1_takeBack 93 = .ok (.aload_n 0, 1) := by decide +kernel
theorem dX1_takeBack_94 : decode cX1_takeBack 94 = .ok (.getfield 20, 3) := by decide +kernel
theorem dX1_takeBack_97 : decode cX1_takeBack 97 = .ok (.aload_n 0, 1) := by decide +kernel
theorem dX1_takeBack_98 : decode cX1_takeBack 98 = .ok (.getfield 24, 3) := by decide +kernel
theorem dX1_takeBack_101 : decode cX1_takeBack 101 = .ok (.aaload, 1) := by decide +kernel
theorem dX1_takeBack_102 : decode cX1_takeBack 102 = .ok (.invokevirtual 46, 3) := by decide +kernel
theorem dX1_takeBack_105 : decode cX1_takeBack 105 = .ok (.return_, 1) := by decide +kernel
theorem dX2_init_0 : decode cX2_init 0 = .ok (.aload_n 0, 1) := by decide +kernel
theorem dX2_init_1 : decode cX2_init 1 = .ok (.invokespecial 3, 3) := by decide +kernel
theorem dX2_init_4 : decode cX2_init 4 = .ok (.aload_n 0, 1) := by decide +kernel
theorem dX2_init_5 : decode cX2_init 5 = .ok (.iload_n 1, 1) := by decide +kernel
theorem dX2_init_6 : decode cX2_init 6 = .ok (.putfield 9, 3) := by decide +kernel
theorem dX2_init_9 : decode cX2_init 9 = .ok (.return_, 1) := by decide +kernel
theorem dX2_ofAccess_0 : decode cX2_ofAccess 0 = .ok (.new 10, 3) := by decide +kernel
theorem dX2_ofAccess_3 : decode cX2_ofAccess 3 = .ok (.dup, 1) := by decide +kernel
theorem dX2_ofAccess_4 : decode cX2_ofAccess 4 = .ok (.iload_n 0, 1) := by decide +kernel
theorem dX2_ofAccess_5 : decode cX2_ofAccess 5 = .ok (.invokespecial 15, 3) := by decide +kernel
theorem dX2_ofAccess_8 : decode cX2_ofAccess 8 = .ok (.astore 5, 2) := by decide +kernel
theorem dX2_ofAccess_10 : decode cX2_ofAccess 10 = .ok (.aload 5, 2) := by decide +kernel
theorem dX2_ofAccess_12 : decode cX2_ofAccess 12 = .ok (.iload_n 1, 1) := by decide +kernel
theorem dX2_ofAccess_13 : decode cX2_ofAccess 13 = .ok (.putfield 18, 3) := by decide +kernel
theorem dX2_ofAccess_16 : decode cX2_ofAccess 16 = .ok (.aload 5, 2) := by decide +kernel
theorem dX2_ofAccess_18 : decode cX2_ofAccess 18 = .ok (.iload_n 2, 1) := by decide +kernel
theorem dX2_ofAccess_19 : decode cX2_ofAccess 19 = .ok (.putfield 21, 3) := by decide +kernel
theorem dX2_ofAccess_22 : decode cX2_ofAccess 22 = .ok (.aload 5, 2) := by decide +kernel
theorem dX2_ofAccess_24 : decode cX2_ofAccess 24 = .ok (.iload_n 3, 1) := by decide +kernel
theorem dX2_ofAccess_25 : decode cX2_ofAccess 25 = .ok (.putfield 24, 3) := by decide +kernel
theorem dX2_ofAccess_28 : decode cX2_ofAccess 28 = .ok (.aload 5, 2) := by decide +kernel
theorem dX2_ofAccess_30 : decode cX2_ofAccess 30 = .ok (.iload 4, 2) := by decide +kernel
theorem dX2_ofAccess_32 : decode cX2_ofAccess 32 = .ok (.putfield 27, 3) := by decide +kernel
theorem dX2_ofAccess_35 : decode cX2_ofAccess 35 = .ok (.aload 5, 2) := by decide +kernel
theorem dX2_ofAccess_37 : decode cX2_ofAccess 37 = .ok (.areturn, 1) := by decide +kernel
theorem dX2_ofCopy_0 : decode cX2_ofCopy 0 = .ok (.new 10, 3) := by decide +kernel
theorem dX2_ofCopy_3 : decode cX2_ofCopy 3 = .ok (.dup, 1) := by decide +kernel
theorem dX2_ofCopy_4 : decode cX2_ofCopy 4 = .ok (.iconst 3, 1) := by decide +kernel
theorem dX2_ofCopy_5 : decode cX2_ofCopy 5 = .ok (.invokespecial 15, 3) := by decide +kernel
theorem dX2_ofCopy_8 : decode cX2_ofCopy 8 = .ok (.astore 5, 2) := by decide +kernel
theorem dX2_ofCopy_10 : decode cX2_ofCopy 10 = .ok (.aload 5, 2) := by decide +kernel
theorem dX2_ofCopy_12 : decode cX2_ofCopy 12 = .ok (.iload_n 0, 1) := by decide +kernel
theorem dX2_ofCopy_13 : decode cX2_ofCopy 13 = .ok (.putfield 18, 3) := by decide +kernel
theorem dX2_ofCopy_16 : decode cX2_ofCopy 16 = .ok (.aload 5, 2) := by decide +kernel
theorem dX2_ofCopy_18 : decode cX2_ofCopy 18 = .ok (.iload_n 1, 1) := by decide +kernel
theorem dX2_ofCopy_19 : decode cX2_ofCopy 19 = .ok (.putfield 21, 3) := by decide +kernel
theorem dX2_ofCopy_22 : decode cX2_ofCopy 22 = .ok (.aload 5, 2) := by decide +kernel
theorem dX2_ofCopy_24 : decode cX2_ofCopy 24 = .ok (.iload_n 2, 1) := by decide +kernel
theorem dX2_ofCopy_25 : decode cX2_ofCopy 25 = .ok (.putfield 30, 3) := by decide +kernel
theorem dX2_ofCopy_28 : decode cX2_ofCopy 28 = .ok (.aload 5, 2) := by decide +kernel
theorem dX2_ofCopy_30 : decode cX2_ofCopy 30 = .ok (.iload_n 3, 1) := by decide +kernel
theorem dX2_ofCopy_31 : decode cX2_ofCopy 31 = .ok (.putfield 33, 3) := by decide +kernel
theorem dX2_ofCopy_34 : decode cX2_ofCopy 34 = .ok (.aload 5, 2) := by decide +kernel
theorem dX2_ofCopy_36 : decode cX2_ofCopy 36 = .ok (.iload 4, 2) := by decide +kernel
theorem dX2_ofCopy_38 : decode cX2_ofCopy 38 = .ok (.putfield 24, 3) := by decide +kernel
theorem dX2_ofCopy_41 : decode cX2_ofCopy 41 = .ok (.aload 5, 2) := by decide +kernel
theorem dX2_ofCopy_43 : decode cX2_ofCopy 43 = .ok (.areturn, 1) := by decide +kernel
theorem dX2_ofEscape_0 : decode cX2_ofEscape 0 = .ok (.new 10, 3) := by decide +kernel
theorem dX2_ofEscape_3 : decode cX2_ofEscape 3 = .ok (.dup, 1) := by decide +kernel
theorem dX2_ofEscape_4 : decode cX2_ofEscape 4 = .ok (.iconst 4, 1) := by decide +kernel
theorem dX2_ofEscape_5 : decode cX2_ofEscape 5 = .ok (.invokespecial 15, 3) := by decide +kernel
theorem dX2_ofEscape_8 : decode cX2_ofEscape 8 = .ok (.astore_n 1, 1) := by decide +kernel
theorem dX2_ofEscape_9 : decode cX2_ofEscape 9 = .ok (.aload_n 1, 1) := by decide +kernel
theorem dX2_ofEscape_10 : decode cX2_ofEscape 10 = .ok (.iload_n 0, 1) := by decide +kernel
theorem dX2_ofEscape_11 : decode cX2_ofEscape 11 = .ok (.putfield 18, 3) := by decide +kernel
theorem dX2_ofEscape_14 : decode cX2_ofEscape 14 = .ok (.aload_n 1, 1) := by decide +kernel
theorem dX2_ofEscape_15 : decode cX2_ofEscape 15 = .ok (.areturn, 1) := by decide +kernel
theorem dX2_ofAdd_0 : decode cX2_ofAdd 0 = .ok (.new 10, 3) := by decide +kernel
theorem dX2_ofAdd_3 : decode cX2_ofAdd 3 = .ok (.dup, 1) := by decide +kernel
theorem dX2_ofAdd_4 : decode cX2_ofAdd 4 = .ok (.bipush 6, 2) := by decide +kernel
theorem dX2_ofAdd_6 : decode cX2_ofAdd 6 = .ok (.invokespecial 15, 3) := by decide +kernel
theorem dX2_ofAdd_9 : decode cX2_ofAdd 9 = .ok (.astore_n 3, 1) := by decide +kernel
theorem dX2_ofAdd_10 : decode cX2_ofAdd 10 = .ok (.aload_n 3, 1) := by decide +kernel
theorem dX2_ofAdd_11 : decode cX2_ofAdd 11 = .ok (.iload_n 0, 1) := by decide +kernel
theorem dX2_ofAdd_12 : decode cX2_ofAdd 12 = .ok (.putfield 27, 3) := by decide +kernel
theorem dX2_ofAdd_15 : decode cX2_ofAdd 15 = .ok (.aload_n 3, 1) := by decide +kernel
theorem dX2_ofAdd_16 : decode cX2_ofAdd 16 = .ok (.iload_n 1, 1) := by decide +kernel
theorem dX2_ofAdd_17 : decode cX2_ofAdd 17 = .ok (.putfield 36, 3) := by decide +kernel
theorem dX2_ofAdd_20 : decode cX2_ofAdd 20 = .ok (.aload_n 3, 1) := by decide +kernel
theorem dX2_ofAdd_21 : decode cX2_ofAdd 21 = .ok (.iload_n 2, 1) := by decide +kernel
theorem dX2_ofAdd_22 : decode cX2_ofAdd 22 = .ok (.putfield 39, 3) := by decide +kernel
theorem dX2_ofAdd_25 : decode cX2_ofAdd 25 = .ok (.aload_n 3, 1) := by decide +kernel
theorem dX2_ofAdd_26 : decode cX2_ofAdd 26 = .ok (.areturn, 1) := by decide +kernel
theorem dX2_ofNumber_0 : decode cX2_ofNumber 0 = .ok (.new 10, 3) := by decide +kernel
theorem dX2_ofNumber_3 : decode cX2_ofNumber 3 = .ok (.dup, 1) := by decide +kernel
theorem dX2_ofNumber_4 : decode cX2_ofNumber 4 = .ok (.iload_n 0, 1) := by decide +kernel
theorem dX2_ofNumber_5 : decode cX2_ofNumber 5 = .ok (.invokespecial 15, 3) := by decide +kernel
theorem dX2_ofNumber_8 : decode cX2_ofNumber 8 = .ok (.astore_n 3, 1) := by decide +kernel
theorem dX2_ofNumber_9 : decode cX2_ofNumber 9 = .ok (.aload_n 3, 1) := by decide +kernel
theorem dX2_ofNumber_10 : decode cX2_ofNumber 10 = .ok (.iload_n 1, 1) := by decide +kernel
theorem dX2_ofNumber_11 : decode cX2_ofNumber 11 = .ok (.putfield 27, 3) := by decide +kernel
theorem dX2_ofNumber_14 : decode cX2_ofNumber 14 = .ok (.aload_n 3, 1) := by decide +kernel
theorem dX2_ofNumber_15 : decode cX2_ofNumber 15 = .ok (.iload_n 2, 1) := by decide +kernel
theorem dX2_ofNumber_16 : decode cX2_ofNumber 16 = .ok (.putfield 42, 3) := by decide +kernel
theorem dX2_ofNumber_19 : decode cX2_ofNumber 19 = .ok (.aload_n 3, 1) := by decide +kernel
theorem dX2_ofNumber_20 : decode cX2_ofNumber 20 = .ok (.areturn, 1) := by decide +kernel
theorem dX2_isLoadOrStore_0 : decode cX2_isLoadOrStore 0 = .ok (.aload_n 0, 1) := by decide +kernel
theorem dX2_isLoadOrStore_1 : decode cX2_isLoadOrStore 1 = .ok (.getfield 9, 3) := by decide +kernel
theorem dX2_isLoadOrStore_4 : decode cX2_isLoadOrStore 4 = .ok (.iconst 2, 1) := by decide +kernel
theorem dX2_isLoadOrStore_5 : decode cX2_isLoadOrStore 5 = .ok (.if_icmp .eq 11, 3) := by decide +kernel
theorem dX2_isLoadOrStore_8 : decode cX2_isLoadOrStore 8 = .ok (.aload_n 0, 1) := by decide +kernel
theorem dX2_isLoadOrStore_9 : decode cX2_isLoadOrStore 9 = .ok (.getfield 9, 3) := by decide +kernel
theorem dX2_isLoadOrStore_12 : decode cX2_isLoadOrStore 12 = .ok (.iconst 1, 1) := by decide +kernel
theorem dX2_isLoadOrStore_13 : decode cX2_isLoadOrStore 13 = .ok (.if_icmp .ne 7, 3) := by decide +kernel
theorem dX2_isLoadOrStore_16 : decode cX2_isLoadOrStore 16 = .ok (.iconst 1, 1) := by decide +kernel
theorem dX2_isLoadOrStore_17 : decode cX2_isLoadOrStore 17 = .ok (.goto 4, 3) := by decide +kernel
theorem dX2_isLoadOrStore_20 : decode cX2_isLoadOrStore 20 = .ok (.iconst 0, 1) := by decide +kernel
theorem dX2_isLoadOrStore_21 : decode cX2_isLoadOrStore 21 = .ok (.ireturn, 1) := by decide +kernel
theorem dX3_init_0 : decode cX3_init 0 = .ok (.aload_n 0, 1) := by decide +kernel
theorem dX3_init_1 : decode cX3_init 1 = .ok (.invokespecial 3, 3) := by decide +kernel
theorem dX3_init_4 : decode cX3_init 4 = .ok (.aload_n 0, 1) := by decide +kernel
theorem dX3_init_5 : decode cX3_init 5 = .ok (.bipush 16, 2) := by decide +kernel
theorem dX3_init_7 : decode cX3_init 7 = .ok (.anewarray 9, 3) := by decide +kernel
theorem dX3_init_10 : decode cX3_init 10 = .ok (.putfield 11, 3) := by decide +kernel
theorem dX3_init_13 : decode cX3_init 13 = .ok (.aload_n 0, 1) := by decide +kernel
theorem dX3_init_14 : decode cX3_init 14 = .ok (.new 9, 3) := by decide +kernel
theorem dX3_init_17 : decode cX3_init 17 = .ok (.dup, 1) := by decide +kernel
theorem dX3_init_18 : decode cX3_init 18 = .ok (.invokespecial 17, 3) := by decide +kernel
theorem dX3_init_21 : decode cX3_init 21 = .ok (.putfield 18, 3) := by decide +kernel
theorem dX3_init_24 : decode cX3_init 24 = .ok (.aload_n 0, 1) := by decide +kernel
theorem dX3_init_25 : decode cX3_init 25 = .ok (.bipush 16, 2) := by decide +kernel
theorem dX3_init_27 : decode cX3_init 27 = .ok (.anewarray 9, 3) := by decide +kernel
theorem dX3_init_30 : decode cX3_init 30 = .ok (.putfield 22, 3) := by decide +kernel
theorem dX3_init_33 : decode cX3_init 33 = .ok (.aload_n 0, 1) := by decide +kernel
theorem dX3_init_34 : decode cX3_init 34 = .ok (.bipush 16, 2) := by decide +kernel
theorem dX3_init_36 : decode cX3_init 36 = .ok (.newarray .boolean, 2) := by decide +kernel
theorem dX3_init_38 : decode cX3_init 38 = .ok (.putfield 25, 3) := by decide +kernel
theorem dX3_init_41 : decode cX3_init 41 = .ok (.aload_n 0, 1) := by decide +kernel
theorem dX3_init_42 : decode cX3_init 42 = .ok (.bipush 16, 2) := by decide +kernel
theorem dX3_init_44 : decode cX3_init 44 = .ok (.newarray .boolean, 2) := by decide +kernel
theorem dX3_init_46 : decode cX3_init 46 = .ok (.putfield 29, 3) := by decide +kernel
theorem dX3_init_49 : decode cX3_init 49 = .ok (.aload_n 0, 1) := by decide +kernel
theorem dX3_init_50 : decode cX3_init 50 = .ok (.bipush 16, 2) := by decide +kernel
theorem dX3_init_52 : decode cX3_init 52 = .ok (.newarray .long, 2) := by decide +kernel
theorem dX3_init_54 : decode cX3_init 54 = .ok (.putfield 32, 3) := by decide +kernel
theorem dX3_init_57 : decode cX3_init 57 = .ok (.iconst 0, 1) := by decide +kernel
theorem dX3_init_58 : decode cX3_init 58 = .ok (.istore_n 1, 1) := by decide +kernel
theorem dX3_init_59 : decode cX3_init 59 = .ok (.iload_n 1, 1) := by decide +kernel
theorem dX3_init_60 : decode cX3_init 60 = .ok (.bipush 16, 2) := by decide +kernel
theorem dX3_init_62 : decode cX3_init 62 = .ok (.if_icmp .ge 32, 3) := by decide +kernel
theorem dX3_init_65 : decode cX3_init 65 = .ok (.aload_n 0, 1) := by decide +kernel
theorem dX3_init_66 : decode cX3_init 66 = .ok (.getfield 11, 3) := by decide +kernel
theorem dX3_init_69 : decode cX3_init 69 = .ok (.iload_n 1, 1) := by decide +kernel
theorem dX3_init_70 : decode cX3_init 70 = .ok (.new 9, 3) := by decide +kernel
theorem dX3_init_73 : decode cX3_init 73 = .ok (.dup, 1) := by decide +kernel
theorem dX3_init_74 : decode cX3_init 74 = .ok (.invokespecial 17, 3) := by decide +kernel
theorem dX3_init_77 : decode cX3_init 77 = .ok (.aastore, 1) := by decide +kernel
theorem dX3_init_78 : decode cX3_init 78 = .ok (.aload_n 0, 1) := by decide +kernel
theorem dX3_init_79 : decode cX3_init 79 = .ok (.getfield 22, 3) := by decide +kernel
theorem dX3_init_82 : decode cX3_init 82 = .ok (.iload_n 1, 1) := by decide +kernel
theorem dX3_init_83 : decode cX3_init 83 = .ok (.aload_n 0, 1) := by decide +kernel
theorem dX3_init_84 : decode cX3_init 84 = .ok (.getfield 18, 3) := by decide +kernel
theorem dX3_init_87 : decode cX3_init 87 = .ok (.aastore, 1) := by decide +kernel
theorem dX3_init_88 : decode cX3_init 88 = .ok (.iinc 1 1, 3) := by decide +kernel
theorem dX3_init_91 : decode cX3_init 91 = .ok (.goto (-32), 3) := by decide +kernel
theorem dX3_init_94 : decode cX3_init 94 = .ok (.return_, 1) := by decide +kernel
theorem dX3_clear_0 : decode cX3_clear 0 = .ok (.aload_n 0, 1) := by decide +kernel
theorem dX3_clear_1 : decode cX3_clear 1 = .ok (.iload_n 1, 1) := by decide +kernel
theorem dX3_clear_2 : decode cX3_clear 2 = .ok (.bipush 16, 2) := by decide +kernel
theorem dX3_clear_4 : decode cX3_clear 4 = .ok (.invokestatic 36, 3) := by decide +kernel
theorem dX3_clear_7 : decode cX3_clear 7 = .ok (.putfield 42, 3) := by decide +kernel
theorem dX3_clear_10 : decode cX3_clear 10 = .ok (.aload_n 0, 1) := by decide +kernel
theorem dX3_clear_11 : decode cX3_clear 11 = .ok (.iconst 0, 1) := by decide +kernel
theorem dX3_clear_12 : decode cX3_clear 12 = .ok (.putfield 46, 3) := by decide +kernel
theorem dX3_clear_15 : decode cX3_clear 15 = .ok (.aload_n 0, 1) := by decide +kernel
theorem dX3_clear_16 : decode cX3_clear 16 = .ok (.iconst 0, 1) := by decide +kernel
theorem dX3_clear_17 : decode cX3_clear 17 = .ok (.putfield 49, 3) := by decide +kernel
theorem dX3_clear_20 : decode cX3_clear 20 = .ok (.iconst 0, 1) := by decide +kernel
theorem dX3_clear_21 : decode cX3_clear 21 = .ok (.istore_n 2, 1) := by decide +kernel
theorem dX3_clear_22 : decode cX3_clear 22 = .ok (.iload_n 2, 1) := by decide +kernel
theorem dX3_clear_23 : decode cX3_clear 23 = .ok (.bipush 16, 2) := by decide +kernel
theorem dX3_clear_25 : decode cX3_clear 25 = .ok (.if_icmp .ge 40, 3) := by decide +kernel
theorem dX3_clear_28 : decode cX3_clear 28 = .ok (.aload_n 0, 1) := by decide +kernel
theorem dX3_clear_29 : decode cX3_clear 29 = .ok (.getfield 22, 3) := by decide +kernel
theorem dX3_clear_32 : decode cX3_clear 32 = .ok (.iload_n 2, 1) := by decide +kernel
theorem dX3_clear_33 : decode cX3_clear 33 = .ok (.aload_n 0, 1) := by decide +kernel
theorem dX3_clear_34 : decode cX3_clear 34 = .ok (.getfield 18, 3) := by decide +kernel
theorem dX3_clear_37 : decode cX3_clear 37 = .ok (.aastore, 1) := by decide +kernel
theorem dX3_clear_38 : decode cX3_clear 38 = .ok (.aload_n 0, 1) := by decide +kernel
theorem dX3_clear_39 : decode cX3_clear 39 = .ok (.getfield 25, 3) := by decide +kernel
theorem dX3_clear_42 : decode cX3_clear 42 = .ok (.iload_n 2, 1) := by decide +kernel
theorem dX3_clear_43 : decode cX3_clear 43 = .ok (.iconst 0, 1) := by decide +kernel
theorem dX3_clear_44 : decode cX3_clear 44 = .ok (.bastore, 1) := by decide +kernel
theorem dX3_clear_45 : decode cX3_clear 45 = .ok (.aload_n 0, 1) := by decide +kernel
theorem dX3_clear_46 : decode cX3_clear 46 = .ok (.getfield 29, 3) := by decide +kernel
theorem dX3_clear_49 : decode cX3_clear 49 = .ok (.iload_n 2, 1) := by decide +kernel
theorem dX3_clear_50 : decode cX3_clear 50 = .ok (.iconst 0, 1) := by decide +kernel
theorem dX3_clear_51 : decode cX3_clear 51 = .ok (.bastore, 1) := by decide +kernel
theorem dX3_clear_52 : decode cX3_clear 52 = .ok (.aload_n 0, 1) := by decide +kernel
theorem dX3_clear_53 : decode cX3_clear 53 = .ok (.getfield 32, 3) := by decide +kernel
theorem dX3_clear_56 : decode cX3_clear 56 = .ok (.iload_n 2, 1) := by decide +kernel
theorem dX3_clear_57 : decode cX3_clear 57 = .ok (.lconst 0, 1) := by decide +kernel
theorem dX3_clear_58 : decode cX3_clear 58 = .ok (.lastore, 1) := by decide +kernel
theorem dX3_clear_59 : decode cX3_clear 59 = .ok (.iinc 2 1, 3) := by decide +kernel
theorem dX3_clear_62 : decode cX3_clear 62 = .ok (.goto (-40), 3) := by decide +kernel
theorem dX3_clear_65 : decode cX3_clear 65 = .ok (.return_, 1) := by decide +kernel
theorem dX3_addAccess_0 : decode cX3_addAccess 0 = .ok (.iconst 0, 1) := by decide +kernel
theorem dX3_addAccess_1 : decode cX3_addAccess 1 = .ok (.istore_n 3, 1) := by decide +kernel
theorem dX3_addAccess_2 : decode cX3_addAccess 2 = .ok (.iload_n 3, 1) := by decide +kernel
theorem dX3_addAccess_3 : decode cX3_addAccess 3 = .ok (.iload_n 2, 1) := by decide +kernel
theorem dX3_addAccess_4 : decode cX3_addAccess 4 = .ok (.if_icmp .ge 48, 3) := by decide +kernel
theorem dX3_addAccess_7 : decode cX3_addAccess 7 = .ok (.aload_n 0, 1) := by decide +kernel
theorem dX3_addAccess_8 : decode cX3_addAccess 8 = .ok (.iload_n 1, 1) := by decide +kernel
theorem dX3_addAccess_9 : decode cX3_addAccess 9 = .ok (.iload_n 3, 1) := by decide +kernel
theorem dX3_addAccess_10 : decode cX3_addAccess 10 = .ok (.iadd, 1) := by decide +kernel
theorem dX3_addAccess_11 : decode cX3_addAccess 11 = .ok (.invokevirtual 53, 3) := by decide +kernel
theorem dX3_addAccess_14 : decode cX3_addAccess 14 = .ok (.ifCond .eq 32, 3) := by decide +kernel
theorem dX3_addAccess_17 : decode cX3_addAccess 17 = .ok (.aload_n 0, 1) := by decide +kernel
theorem dX3_addAccess_18 : decode cX3_addAccess 18 = .ok (.getfield 25, 3) := by decide +kernel
theorem dX3_addAccess_21 : decode cX3_addAccess 21 = .ok (.iload_n 1, 1) := by decide +kernel
theorem dX3_addAccess_22 : decode cX3_addAccess 22 = .ok (.iload_n 3, 1) := by decide +kernel
theorem dX3_addAccess_23 : decode cX3_addAccess 23 = .ok (.iadd, 1) := by decide +kernel
theorem dX3_addAccess_24 : decode cX3_addAccess 24 = .ok (.iconst 1, 1) := by decide +kernel
theorem dX3_addAccess_25 : decode cX3_addAccess 25 = .ok (.bastore, 1) := by decide +kernel
theorem dX3_addAccess_26 : decode cX3_addAccess 26 = .ok (.aload_n 0, 1) := by decide +kernel
theorem dX3_addAccess_27 : decode cX3_addAccess 27 = .ok (.getfield 29, 3) := by decide +kernel
theorem dX3_addAccess_30 : decode cX3_addAccess 30 = .ok (.iload_n 1, 1) := by decide +kernel
theorem dX3_addAccess_31 : decode cX3_addAccess 31 = .ok (.iload_n 3, 1) := by decide +kernel
theorem dX3_addAccess_32 : decode cX3_addAccess 32 = .ok (.iadd, 1) := by decide +kernel
theorem dX3_addAccess_33 : decode cX3_addAccess 33 = .ok (.dup2, 1) := by decide +kernel
theorem dX3_addAccess_34 : decode cX3_addAccess 34 = .ok (.baload, 1) := by decide +kernel
theorem dX3_addAccess_35 : decode cX3_addAccess 35 = .ok (.iload_n 3, 1) := by decide +kernel
theorem dX3_addAccess_36 : decode cX3_addAccess 36 = .ok (.ifCond .le 7, 3) := by decide +kernel
theorem dX3_addAccess_39 : decode cX3_addAccess 39 = .ok (.iconst 1, 1) := by decide +kernel
theorem dX3_addAccess_40 : decode cX3_addAccess 40 = .ok (.goto 4, 3) := by decide +kernel
theorem dX3_addAccess_43 : decode cX3_addAccess 43 = .ok (.iconst 0, 1) := by decide +kernel
theorem dX3_addAccess_44 : decode cX3_addAccess 44 = .ok (.ior, 1) := by decide +kernel
theorem dX3_addAccess_45 : decode cX3_addAccess 45 = .ok (.bastore, 1) := by decide +kernel
theorem dX3_addAccess_46 : decode cX3_addAccess 46 = .ok (.iinc 3 1, 3) := by decide +kernel
theorem dX3_addAccess_49 : decode cX3_addAccess 49 = .ok (.goto (-47), 3) := by decide +kernel
theorem dX3_addAccess_52 : decode cX3_addAccess 52 = .ok (.return_, 1) := by decide +kernel
theorem dX3_addCopyRange_0 : decode cX3_addCopyRange 0 = .ok (.iconst 0, 1) := by decide +kernel
theorem dX3_addCopyRange_1 : decode cX3_addCopyRange 1 = .ok (.istore 5, 2) := by decide +kernel
theorem dX3_addCopyRange_3 : decode cX3_addCopyRange 3 = .ok (.iload 5, 2) := by decide +kernel
theorem dX3_addCopyRange_5 : decode cX3_addCopyRange 5 = .ok (.iload_n 2, 1) := by decide +kernel
theorem dX3_addCopyRange_6 : decode cX3_addCopyRange 6 = .ok (.if_icmp .ge 33, 3) := by decide +kernel
theorem dX3_addCopyRange_9 : decode cX3_addCopyRange 9 = .ok (.aload_n 0, 1) := by decide +kernel
theorem dX3_addCopyRange_10 : decode cX3_addCopyRange 10 = .ok (.iload_n 1, 1) := by decide +kernel
theorem dX3_addCopyRange_11 : decode cX3_addCopyRange 11 = .ok (.iload 5, 2) := by decide +kernel
theorem dX3_addCopyRange_13 : decode cX3_addCopyRange 13 = .ok (.iadd, 1) := by decide +kernel
theorem dX3_addCopyRange_14 : decode cX3_addCopyRange 14 = .ok (.invokevirtual 53, 3) := by decide +kernel
theorem dX3_addCopyRange_17 : decode cX3_addCopyRange 17 = .ok (.ifCond .eq 16, 3) := by decide +kernel
theorem dX3_addCopyRange_20 : decode cX3_addCopyRange 20 = .ok (.aload_n 0, 1) := by decide +kernel
theorem dX3_addCopyRange_21 : decode cX3_addCopyRange 21 = .ok (.getfield 32, 3) := by decide +kernel
theorem dX3_addCopyRange_24 : decode cX3_addCopyRange 24 = .ok (.iload_n 1, 1) := by decide +kernel
theorem dX3_addCopyRange_25 : decode cX3_addCopyRange 25 = .ok (.iload 5, 2) := by decide +kernel
theorem dX3_addCopyRange_27 : decode cX3_addCopyRange 27 = .ok (.iadd, 1) := by decide +kernel
theorem dX3_addCopyRange_28 : decode cX3_addCopyRange 28 = .ok (.dup2, 1) := by decide +kernel
theorem dX3_addCopyRange_29 : decode cX3_addCopyRange 29 = .ok (.laload, 1) := by decide +kernel
theorem dX3_addCopyRange_30 : decode cX3_addCopyRange 30 = .ok (.lload_n 3, 1) := by decide +kernel
theorem dX3_addCopyRange_31 : decode cX3_addCopyRange 31 = .ok (.lor, 1) := by decide +kernel
theorem dX3_addCopyRange_32 : decode cX3_addCopyRange 32 = .ok (.lastore, 1) := by decide +kernel
theorem dX3_addCopyRange_33 : decode cX3_addCopyRange 33 = .ok (.iinc 5 1, 3) := by decide +kernel
theorem dX3_addCopyRange_36 : decode cX3_addCopyRange 36 = .ok (.goto (-33), 3) := by decide +kernel
theorem dX3_addCopyRange_39 : decode cX3_addCopyRange 39 = .ok (.return_, 1) := by decide +kernel
theorem dX3_formPartitions_0 : decode cX3_formPartitions 0 = .ok (.iconst 0, 1) := by decide +kernel
theorem dX3_formPartitions_1 : decode cX3_formPartitions 1 = .ok (.istore_n 1, 1) := by decide +kernel
theorem dX3_formPartitions_2 : decode cX3_formPartitions 2 = .ok (.iload_n 1, 1) := by decide +kernel
theorem dX3_formPartitions_3 : decode cX3_formPartitions 3 = .ok (.aload_n 0, 1) := by decide +kernel
theorem dX3_formPartitions_4 : decode cX3_formPartitions 4 = .ok (.getfield 42, 3) := by decide +kernel
theorem dX3_formPartitions_7 : decode cX3_formPartitions 7 = .ok (.if_icmp .ge 81, 3) := by decide +kernel
theorem dX3_formPartitions_10 : decode cX3_formPartitions 10 = .ok (.aload_n 0, 1) := by decide +kernel
theorem dX3_formPartitions_11 : decode cX3_formPartitions 11 = .ok (.iload_n 1, 1) := by decide +kernel
theorem dX3_formPartitions_12 : decode cX3_formPartitions 12 = .ok (.invokevirtual 57, 3) := by decide +kernel
theorem dX3_formPartitions_15 : decode cX3_formPartitions 15 = .ok (.ifCond .ne 67, 3) := by decide +kernel
theorem dX3_formPartitions_18 : decode cX3_formPartitions 18 = .ok (.aload_n 0, 1) := by decide +kernel
theorem dX3_formPartitions_19 : decode cX3_formPartitions 19 = .ok (.iload_n 1, 1) := by decide +kernel
theorem dX3_formPartitions_20 : decode cX3_formPartitions 20 = .ok (.invokevirtual 60, 3) := by decide +kernel
theorem dX3_formPartitions_23 : decode cX3_formPartitions 23 = .ok (.ifCond .eq 30, 3) := by decide +kernel
theorem dX3_formPartitions_26 : decode cX3_formPartitions 26 = .ok (.aload_n 0, 1) := by decide +kernel
theorem dX3_formPartitions_27 : decode cX3_formPartitions 27 = .ok (.getfield 11, 3) := by decide +kernel
theorem dX3_formPartitions_30 : decode cX3_formPartitions 30 = .ok (.aload_n 0, 1) := by decide +kernel
theorem dX3_formPartitions_31 : decode cX3_formPartitions 31 = .ok (.getfield 46, 3) := by decide +kernel
theorem dX3_formPartitions_34 : decode cX3_formPartitions 34 = .ok (.aaload, 1) := by decide +kernel
theorem dX3_formPartitions_35 : decode cX3_formPartitions 35 = .ok (.iload_n 1, 1) := by decide +kernel
theorem dX3_formPartitions_36 : decode cX3_formPartitions 36 = .ok (.aload_n 0, 1) := by decide +kernel
theorem dX3_formPartitions_37 : decode cX3_formPartitions 37 = .ok (.getfield 49, 3) := by decide +kernel
theorem dX3_formPartitions_40 : decode cX3_formPartitions 40 = .ok (.invokevirtual 63, 3) := by decide +kernel
theorem dX3_formPartitions_43 : decode cX3_formPartitions 43 = .ok (.aload_n 0, 1) := by decide +kernel
theorem dX3_formPartitions_44 : decode cX3_formPartitions 44 = .ok (.dup, 1) := by decide +kernel
theorem dX3_formPartitions_45 : decode cX3_formPartitions 45 = .ok (.getfield 46, 3) := by decide +kernel
theorem dX3_formPartitions_48 : decode cX3_formPartitions 48 = .ok (.iconst 1, 1) := by decide +kernel
theorem dX3_formPartitions_49 : decode cX3_formPartitions 49 = .ok (.iadd, 1) := by decide +kernel
theorem dX3_formPartitions_50 : decode cX3_formPartitions 50 = .ok (.putfield 46, 3) := by decide +kernel
theorem dX3_formPartitions_53 : decode cX3_formPartitions 53 = .ok (.aload_n 0, 1) := by decide +kernel
theorem dX3_formPartitions_54 : decode cX3_formPartitions 54 = .ok (.getfield 22, 3) := by decide +kernel
theorem dX3_formPartitions_57 : decode cX3_formPartitions 57 = .ok (.iload_n 1, 1) := by decide +kernel
theorem dX3_formPartitions_58 : decode cX3_formPartitions 58 = .ok (.aload_n 0, 1) := by decide +kernel
theorem dX3_formPartitions_59 : decode cX3_formPartitions 59 = .ok (.aload_n 0, 1) := by decide +kernel
theorem dX3_formPartitions_60 : decode cX3_formPartitions 60 = .ok (.getfield 46, 3) := by decide +kernel
theorem dX3_formPartitions_63 : decode cX3_formPartitions 63 = .ok (.iconst 1, 1) := by decide +kernel
theorem dX3_formPartitions_64 : decode cX3_formPartitions 64 = .ok (.isub, 1) := by decide +kernel
theorem dX3_formPartitions_65 : decode cX3_formPartitions 65 = .ok (.invokevirtual 67, 3) := by decide +kernel
theorem dX3_formPartitions_68 : decode cX3_formPartitions 68 = .ok (.aastore, 1) := by decide +kernel
theorem dX3_formPartitions_69 : decode cX3_formPartitions 69 = .ok (.aload_n 0, 1) := by decide +kernel
theorem dX3_formPartitions_70 : decode cX3_formPartitions 70 = .ok (.getfield 22, 3) := by decide +kernel
theorem dX3_formPartitions_73 : decode cX3_formPartitions 73 = .ok (.iload_n 1, 1) := by decide +kernel
theorem dX3_formPartitions_74 : decode cX3_formPartitions 74 = .ok (.aaload, 1) := by decide +kernel
theorem dX3_formPartitions_75 : decode cX3_formPartitions 75 = .ok (.aload_n 0, 1) := by decide +kernel
theorem dX3_formPartitions_76 : decode cX3_formPartitions 76 = .ok (.getfield 49, 3) := by decide +kernel
theorem dX3_formPartitions_79 : decode cX3_formPartitions 79 = .ok (.invokevirtual 71, 3) := by decide +kernel
theorem dX3_formPartitions_82 : decode cX3_formPartitions 82 = .ok (.iinc 1 1, 3) := by decide +kernel
theorem dX3_formPartitions_85 : decode cX3_formPartitions 85 = .ok (.goto (-83), 3) := by decide +kernel
theorem dX3_formPartitions_88 : decode cX3_formPartitions 88 = .ok (.return_, 1) := by decide +kernel
theorem dX3_isByte_0 : decode cX3_isByte 0 = .ok (.iload_n 1, 1) := by decide +kernel
theorem dX3_isByte_1 : decode cX3_isByte 1 = .ok (.ifCond .lt 15, 3) := by decide +kernel
theorem dX3_isByte_4 : decode cX3_isByte 4 = .ok (.iload_n 1, 1) := by decide +kernel
theorem dX3_isByte_5 : decode cX3_isByte 5 = .ok (.aload_n 0, 1) := by decide +kernel
theorem dX3_isByte_6 : decode cX3_isByte 6 = .ok (.getfield 42, 3) := by decide +kernel
theorem dX3_isByte_9 : decode cX3_isByte 9 = .ok (.if_icmp .ge 7, 3) := by decide +kernel
theorem dX3_isByte_12 : decode cX3_isByte 12 = .ok (.iconst 1, 1) := by decide +kernel
theorem dX3_isByte_13 : decode cX3_isByte 13 = .ok (.goto 4, 3) := by decide +kernel
theorem dX3_isByte_16 : decode cX3_isByte 16 = .ok (.iconst 0, 1) := by decide +kernel
theorem dX3_isByte_17 : decode cX3_isByte 17 = .ok (.ireturn, 1) := by decide +kernel
theorem dX3_isPadding_0 : decode cX3_isPadding 0 = .ok (.aload_n 0, 1) := by decide +kernel
theorem dX3_isPadding_1 : decode cX3_isPadding 1 = .ok (.getfield 49, 3) := by decide +kernel
theorem dX3_isPadding_4 : decode cX3_isPadding 4 = .ok (.ifCond .ne 27, 3) := by decide +kernel
theorem dX3_isPadding_7 : decode cX3_isPadding 7 = .ok (.aload_n 0, 1) := by decide +kernel
theorem dX3_isPadding_8 : decode cX3_isPadding 8 = .ok (.getfield 25, 3) := by decide +kernel
theorem dX3_isPadding_11 : decode cX3_isPadding 11 = .ok (.iload_n 1, 1) := by decide +kernel
theorem dX3_isPadding_12 : decode cX3_isPadding 12 = .ok (.baload, 1) := by decide +kernel
theorem dX3_isPadding_13 : decode cX3_isPadding 13 = .ok (.ifCond .ne 18, 3) := by decide +kernel
theorem dX3_isPadding_16 : decode cX3_isPadding 16 = .ok (.aload_n 0, 1) := by decide +kernel
theorem dX3_isPadding_17 : decode cX3_isPadding 17 = .ok (.getfield 32, 3) := by decide +kernel
theorem dX3_isPadding_20 : decode cX3_isPadding 20 = .ok (.iload_n 1, 1) := by decide +kernel
theorem dX3_isPadding_21 : decode cX3_isPadding 21 = .ok (.laload, 1) := by decide +kernel
theorem dX3_isPadding_22 : decode cX3_isPadding 22 = .ok (.lconst 0, 1) := by decide +kernel
theorem dX3_isPadding_23 : decode cX3_isPadding 23 = .ok (.lcmp, 1) := by decide +kernel
theorem dX3_isPadding_24 : decode cX3_isPadding 24 = .ok (.ifCond .ne 7, 3) := by decide +kernel
theorem dX3_isPadding_27 : decode cX3_isPadding 27 = .ok (.iconst 1, 1) := by decide +kernel
theorem dX3_isPadding_28 : decode cX3_isPadding 28 = .ok (.goto 4, 3) := by decide +kernel
theorem dX3_isPadding_31 : decode cX3_isPadding 31 = .ok (.iconst 0, 1) := by decide +kernel
theorem dX3_isPadding_32 : decode cX3_isPadding 32 = .ok (.ireturn, 1) := by decide +kernel
theorem dX3_beginsPartition_0 : decode cX3_beginsPartition 0 = .ok (.iload_n 1, 1) := by decide +kernel
theorem dX3_beginsPartition_1 : decode cX3_beginsPartition 1 = .ok (.ifCond .ne 5, 3) := by decide +kernel
theorem dX3_beginsPartition_4 : decode cX3_beginsPartition 4 = .ok (.iconst 1, 1) := by decide +kernel
theorem dX3_beginsPartition_5 : decode cX3_beginsPartition 5 = .ok (.ireturn, 1) := by decide +kernel
theorem dX3_beginsPartition_6 : decode cX3_beginsPartition 6 = .ok (.aload_n 0, 1) := by decide +kernel
theorem dX3_beginsPartition_7 : decode cX3_beginsPartition 7 = .ok (.getfield 49, 3) := by decide +kernel
theorem dX3_beginsPartition_10 : decode cX3_beginsPartition 10 = .ok (.ifCond .eq 5, 3) := by decide +kernel
theorem dX3_beginsPartition_13 : decode cX3_beginsPartition 13 = .ok (.iconst 0, 1) := by decide +kernel
theorem dX3_beginsPartition_14 : decode cX3_beginsPartition 14 = .ok (.ireturn, 1) := by decide +kernel
theorem dX3_beginsPartition_15 : decode cX3_beginsPartition 15 = .ok (.aload_n 0, 1) := by decide +kernel
theorem dX3_beginsPartition_16 : decode cX3_beginsPartition 16 = .ok (.getfield 25, 3) := by decide +kernel
theorem dX3_beginsPartition_19 : decode cX3_beginsPartition 19 = .ok (.iload_n 1, 1) := by decide +kernel
theorem dX3_beginsPartition_20 : decode cX3_beginsPartition 20 = .ok (.baload, 1) := by decide +kernel
theorem dX3_beginsPartition_21 : decode cX3_beginsPartition 21 = .ok (.ifCond .eq 18, 3) := by decide +kernel
theorem dX3_beginsPartition_24 : decode cX3_beginsPartition 24 = .ok (.aload_n 0, 1) := by decide +kernel
theorem dX3_beginsPartition_25 : decode cX3_beginsPartition 25 = .ok (.getfield 29, 3) := by decide +kernel
theorem dX3_beginsPartition_28 : decode cX3_beginsPartition 28 = .ok (.iload_n 1, 1) := by decide +kernel
theorem dX3_beginsPartition_29 : decode cX3_beginsPartition 29 = .ok (.baload, 1) := by decide +kernel
theorem dX3_beginsPartition_30 : decode cX3_beginsPartition 30 = .ok (.ifCond .ne 7, 3) := by decide +kernel
theorem dX3_beginsPartition_33 : decode cX3_beginsPartition 33 = .ok (.iconst 1, 1) := by decide +kernel
theorem dX3_beginsPartition_34 : decode cX3_beginsPartition 34 = .ok (.goto 4, 3) := by decide +kernel
theorem dX3_beginsPartition_37 : decode cX3_beginsPartition 37 = .ok (.iconst 0, 1) := by decide +kernel
theorem dX3_beginsPartition_38 : decode cX3_beginsPartition 38 = .ok (.ireturn, 1) := by decide +kernel
theorem dX3_beginsPartition_39 : decode cX3_beginsPartition 39 = .ok (.aload_n 0, 1) := by decide +kernel
theorem dX3_beginsPartition_40 : decode cX3_beginsPartition 40 = .ok (.getfield 25, 3) := by decide +kernel
theorem dX3_beginsPartition_43 : decode cX3_beginsPartition 43 = .ok (.iload_n 1, 1) := by decide +kernel
theorem dX3_beginsPartition_44 : decode cX3_beginsPartition 44 = .ok (.iconst 1, 1) := by decide +kernel
theorem dX3_beginsPartition_45 : decode cX3_beginsPartition 45 = .ok (.isub, 1) := by decide +kernel
theorem dX3_beginsPartition_46 : decode cX3_beginsPartition 46 = .ok (.baload, 1) := by decide +kernel
theorem dX3_beginsPartition_47 : decode cX3_beginsPartition 47 = .ok (.ifCond .ne 21, 3) := by decide +kernel
theorem dX3_beginsPartition_50 : decode cX3_beginsPartition 50 = .ok (.aload_n 0, 1) := by decide +kernel
theorem dX3_beginsPartition_51 : decode cX3_beginsPartition 51 = .ok (.getfield 32, 3) := by decide +kernel
theorem dX3_beginsPartition_54 : decode cX3_beginsPartition 54 = .ok (.iload_n 1, 1) := by decide +kernel
theorem dX3_beginsPartition_55 : decode cX3_beginsPartition 55 = .ok (.iconst 1, 1) := by decide +kernel
theorem dX3_beginsPartition_56 : decode cX3_beginsPartition 56 = .ok (.isub, 1) := by decide +kernel
theorem dX3_beginsPartition_57 : decode cX3_beginsPartition 57 = .ok (.laload, 1) := by decide +kernel
theorem dX3_beginsPartition_58 : decode cX3_beginsPartition 58 = .ok (.aload_n 0, 1) := by decide +kernel
theorem dX3_beginsPartition_59 : decode cX3_beginsPartition 59 = .ok (.getfield 32, 3) := by decide +kernel
theorem dX3_beginsPartition_62 : decode cX3_beginsPartition 62 = .ok (.iload_n 1, 1) := by decide +kernel
theorem dX3_beginsPartition_63 : decode cX3_beginsPartition 63 = .ok (.laload, 1) := by decide +kernel
theorem dX3_beginsPartition_64 : decode cX3_beginsPartition 64 = .ok (.lcmp, 1) := by decide +kernel
theorem dX3_beginsPartition_65 : decode cX3_beginsPartition 65 = .ok (.ifCond .eq 7, 3) := by decide +kernel
theorem dX3_beginsPartition_68 : decode cX3_beginsPartition 68 = .ok (.iconst 1, 1) := by decide +kernel
theorem dX3_beginsPartition_69 : decode cX3_beginsPartition 69 = .ok (.goto 4, 3) := by decide +kernel
theorem dX3_beginsPartition_72 : decode cX3_beginsPartition 72 = .ok (.iconst 0, 1) := by decide +kernel
theorem dX3_beginsPartition_73 : decode cX3_beginsPartition 73 = .ok (.ireturn, 1) := by decide +kernel
theorem dX3_numbered_0 : decode cX3_numbered 0 = .ok (.iload_n 1, 1) := by decide +kernel
theorem dX3_numbered_1 : decode cX3_numbered 1 = .ok (.ifCond .lt 20, 3) := by decide +kernel
theorem dX3_numbered_4 : decode cX3_numbered 4 = .ok (.iload_n 1, 1) := by decide +kernel
theorem dX3_numbered_5 : decode cX3_numbered 5 = .ok (.aload_n 0, 1) := by decide +kernel
theorem dX3_numbered_6 : decode cX3_numbered 6 = .ok (.getfield 46, 3) := by decide +kernel
theorem dX3_numbered_9 : decode cX3_numbered 9 = .ok (.if_icmp .ge 12, 3) := by decide +kernel
theorem dX3_numbered_12 : decode cX3_numbered 12 = .ok (.aload_n 0, 1) := by decide +kernel
theorem dX3_numbered_13 : decode cX3_numbered 13 = .ok (.getfield 11, 3) := by decide +kernel
theorem dX3_numbered_16 : decode cX3_numbered 16 = .ok (.iload_n 1, 1) := by decide +kernel
theorem dX3_numbered_17 : decode cX3_numbered 17 = .ok (.aaload, 1) := by decide +kernel
theorem dX3_numbered_18 : decode cX3_numbered 18 = .ok (.goto 7, 3) := by decide +kernel
theorem dX3_numbered_21 : decode cX3_numbered 21 = .ok (.aload_n 0, 1) := by decide +kernel
theorem dX3_numbered_22 : decode cX3_numbered 22 = .ok (.getfield 18, 3) := by decide +kernel
theorem dX3_numbered_25 : decode cX3_numbered 25 = .ok (.areturn, 1) := by decide +kernel
theorem dX3_holding_0 : decode cX3_holding 0 = .ok (.iload_n 1, 1) := by decide +kernel
theorem dX3_holding_1 : decode cX3_holding 1 = .ok (.ifCond .lt 18, 3) := by decide +kernel
theorem dX3_holding_4 : decode cX3_holding 4 = .ok (.iload_n 1, 1) := by decide +kernel
theorem dX3_holding_5 : decode cX3_holding 5 = .ok (.bipush 16, 2) := by decide +kernel
theorem dX3_holding_7 : decode cX3_holding 7 = .ok (.if_icmp .ge 12, 3) := by decide +kernel
theorem dX3_holding_10 : decode cX3_holding 10 = .ok (.aload_n 0, 1) := by decide +kernel
theorem dX3_holding_11 : decode cX3_holding 11 = .ok (.getfield 22, 3) := by decide +kernel
theorem dX3_holding_14 : decode cX3_holding 14 = .ok (.iload_n 1, 1) := by decide +kernel
theorem dX3_holding_15 : decode cX3_holding 15 = .ok (.aaload, 1) := by decide +kernel
theorem dX3_holding_16 : decode cX3_holding 16 = .ok (.goto 7, 3) := by decide +kernel
theorem dX3_holding_19 : decode cX3_holding 19 = .ok (.aload_n 0, 1) := by decide +kernel
theorem dX3_holding_20 : decode cX3_holding 20 = .ok (.getfield 18, 3) := by decide +kernel
theorem dX3_holding_23 : decode cX3_holding 23 = .ok (.areturn, 1) := by decide +kernel
theorem dX3_isStart_0 : decode cX3_isStart 0 = .ok (.aload_n 0, 1) := by decide +kernel
theorem dX3_isStart_1 : decode cX3_isStart 1 = .ok (.iload_n 1, 1) := by decide +kernel
theorem dX3_isStart_2 : decode cX3_isStart 2 = .ok (.invokevirtual 75, 3) := by decide +kernel
theorem dX3_isStart_5 : decode cX3_isStart 5 = .ok (.astore_n 2, 1) := by decide +kernel
theorem dX3_isStart_6 : decode cX3_isStart 6 = .ok (.aload_n 2, 1) := by decide +kernel
theorem dX3_isStart_7 : decode cX3_isStart 7 = .ok (.getfield 78, 3) := by decide +kernel
theorem dX3_isStart_10 : decode cX3_isStart 10 = .ok (.ifCond .le 15, 3) := by decide +kernel
theorem dX3_isStart_13 : decode cX3_isStart 13 = .ok (.aload_n 2, 1) := by decide +kernel
theorem dX3_isStart_14 : decode cX3_isStart 14 = .ok (.getfield 81, 3) := by decide +kernel
theorem dX3_isStart_17 : decode cX3_isStart 17 = .ok (.iload_n 1, 1) := by decide +kernel
theorem dX3_isStart_18 : decode cX3_isStart 18 = .ok (.if_icmp .ne 7, 3) := by decide +kernel
theorem dX3_isStart_21 : decode cX3_isStart 21 = .ok (.iconst 1, 1) := by decide +kernel
theorem dX3_isStart_22 : decode cX3_isStart 22 = .ok (.goto 4, 3) := by decide +kernel
theorem dX3_isStart_25 : decode cX3_isStart 25 = .ok (.iconst 0, 1) := by decide +kernel
theorem dX3_isStart_26 : decode cX3_isStart 26 = .ok (.ireturn, 1) := by decide +kernel
theorem dX3_countPadding_0 : decode cX3_countPadding 0 = .ok (.aload_n 0, 1) := by decide +kernel
theorem dX3_countPadding_1 : decode cX3_countPadding 1 = .ok (.getfield 42, 3) := by decide +kernel
theorem dX3_countPadding_4 : decode cX3_countPadding 4 = .ok (.istore_n 1, 1) := by decide +kernel
theorem dX3_countPadding_5 : decode cX3_countPadding 5 = .ok (.iconst 0, 1) := by decide +kernel
theorem dX3_countPadding_6 : decode cX3_countPadding 6 = .ok (.istore_n 2, 1) := by decide +kernel
theorem dX3_countPadding_7 : decode cX3_countPadding 7 = .ok (.iload_n 2, 1) := by decide +kernel
theorem dX3_countPadding_8 : decode cX3_countPadding 8 = .ok (.aload_n 0, 1) := by decide +kernel
theorem dX3_countPadding_9 : decode cX3_countPadding 9 = .ok (.getfield 46, 3) := by decide +kernel
theorem dX3_countPadding_12 : decode cX3_countPadding 12 = .ok (.if_icmp .ge 21, 3) := by decide +kernel
theorem dX3_countPadding_15 : decode cX3_countPadding 15 = .ok (.iload_n 1, 1) := by decide +kernel
theorem dX3_countPadding_16 : decode cX3_countPadding 16 = .ok (.aload_n 0, 1) := by decide +kernel
theorem dX3_countPadding_17 : decode cX3_countPadding 17 = .ok (.getfield 11, 3) := by decide +kernel
theorem dX3_countPadding_20 : decode cX3_countPadding 20 = .ok (.iload_n 2, 1) := by decide +kernel
theorem dX3_countPadding_21 : decode cX3_countPadding 21 = .ok (.aaload, 1) := by decide +kernel
theorem dX3_countPadding_22 : decode cX3_countPadding 22 = .ok (.getfield 78, 3) := by decide +kernel
theorem dX3_countPadding_25 : decode cX3_countPadding 25 = .ok (.isub, 1) := by decide +kernel
theorem dX3_countPadding_26 : decode cX3_countPadding 26 = .ok (.istore_n 1, 1) := by decide +kernel
theorem dX3_countPadding_27 : decode cX3_countPadding 27 = .ok (.iinc 2 1, 3) := by decide +kernel
theorem dX3_countPadding_30 : decode cX3_countPadding 30 = .ok (.goto (-23), 3) := by decide +kernel
theorem dX3_countPadding_33 : decode cX3_countPadding 33 = .ok (.iload_n 1, 1) := by decide +kernel
theorem dX3_countPadding_34 : decode cX3_countPadding 34 = .ok (.ireturn, 1) := by decide +kernel
theorem dX3_countScalars_0 : decode cX3_countScalars 0 = .ok (.iconst 0, 1) := by decide +kernel
theorem dX3_countScalars_1 : decode cX3_countScalars 1 = .ok (.istore_n 1, 1) := by decide +kernel
theorem dX3_countScalars_2 : decode cX3_countScalars 2 = .ok (.iconst 0, 1) := by decide +kernel
theorem dX3_countScalars_3 : decode cX3_countScalars 3 = .ok (.istore_n 2, 1) := by decide +kernel
theorem dX3_countScalars_4 : decode cX3_countScalars 4 = .ok (.iload_n 2, 1) := by decide +kernel
theorem dX3_countScalars_5 : decode cX3_countScalars 5 = .ok (.aload_n 0, 1) := by decide +kernel
theorem dX3_countScalars_6 : decode cX3_countScalars 6 = .ok (.getfield 46, 3) := by decide +kernel
theorem dX3_countScalars_9 : decode cX3_countScalars 9 = .ok (.if_icmp .ge 44, 3) := by decide +kernel
theorem dX3_countScalars_12 : decode cX3_countScalars 12 = .ok (.iload_n 1, 1) := by decide +kernel
theorem dX3_countScalars_13 : decode cX3_countScalars 13 = .ok (.aload_n 0, 1) := by decide +kernel
theorem dX3_countScalars_14 : decode cX3_countScalars 14 = .ok (.getfield 11, 3) := by decide +kernel
theorem dX3_countScalars_17 : decode cX3_countScalars 17 = .ok (.iload_n 2, 1) := by decide +kernel
theorem dX3_countScalars_18 : decode cX3_countScalars 18 = .ok (.aaload, 1) := by decide +kernel
theorem dX3_countScalars_19 : decode cX3_countScalars 19 = .ok (.getfield 84, 3) := by decide +kernel
theorem dX3_countScalars_22 : decode cX3_countScalars 22 = .ok (.ifCond .eq 19, 3) := by decide +kernel
theorem dX3_countScalars_25 : decode cX3_countScalars 25 = .ok (.aload_n 0, 1) := by decide +kernel
theorem dX3_countScalars_26 : decode cX3_countScalars 26 = .ok (.getfield 11, 3) := by decide +kernel
theorem dX3_countScalars_29 : decode cX3_countScalars 29 = .ok (.iload_n 2, 1) := by decide +kernel
theorem dX3_countScalars_30 : decode cX3_countScalars 30 = .ok (.aaload, 1) := by decide +kernel
theorem dX3_countScalars_31 : decode cX3_countScalars 31 = .ok (.getfield 87, 3) := by decide +kernel
theorem dX3_countScalars_34 : decode cX3_countScalars 34 = .ok (.ifCond .eq 7, 3) := by decide +kernel
theorem dX3_countScalars_37 : decode cX3_countScalars 37 = .ok (.iconst 1, 1) := by decide +kernel
theorem dX3_countScalars_38 : decode cX3_countScalars 38 = .ok (.goto 4, 3) := by decide +kernel
theorem dX3_countScalars_41 : decode cX3_countScalars 41 = .ok (.iconst 0, 1) := by decide +kernel
theorem dX3_countScalars_42 : decode cX3_countScalars 42 = .ok (.invokestatic 90, 3) := by decide +kernel
theorem dX3_countScalars_45 : decode cX3_countScalars 45 = .ok (.iadd, 1) := by decide +kernel
theorem dX3_countScalars_46 : decode cX3_countScalars 46 = .ok (.istore_n 1, 1) := by decide +kernel
theorem dX3_countScalars_47 : decode cX3_countScalars 47 = .ok (.iinc 2 1, 3) := by decide +kernel
theorem dX3_countScalars_50 : decode cX3_countScalars 50 = .ok (.goto (-46), 3) := by decide +kernel
theorem dX3_countScalars_53 : decode cX3_countScalars 53 = .ok (.iload_n 1, 1) := by decide +kernel
theorem dX3_countScalars_54 : decode cX3_countScalars 54 = .ok (.ireturn, 1) := by decide +kernel
theorem dX3_countLiveBytes_0 : decode cX3_countLiveBytes 0 = .ok (.iconst 0, 1) := by decide +kernel
theorem dX3_countLiveBytes_1 : decode cX3_countLiveBytes 1 = .ok (.istore_n 1, 1) := by decide +kernel
theorem dX3_countLiveBytes_2 : decode cX3_countLiveBytes 2 = .ok (.iconst 0, 1) := by decide +kernel
theorem dX3_countLiveBytes_3 : decode cX3_countLiveBytes 3 = .ok (.istore_n 2, 1) := by decide +kernel
theorem dX3_countLiveBytes_4 : decode cX3_countLiveBytes 4 = .ok (.iload_n 2, 1) := by decide +kernel
theorem dX3_countLiveBytes_5 : decode cX3_countLiveBytes 5 = .ok (.aload_n 0, 1) := by decide +kernel
theorem dX3_countLiveBytes_6 : decode cX3_countLiveBytes 6 = .ok (.getfield 46, 3) := by decide +kernel
theorem dX3_countLiveBytes_9 : decode cX3_countLiveBytes 9 = .ok (.if_icmp .ge 37, 3) := by decide +kernel
theorem dX3_countLiveBytes_12 : decode cX3_countLiveBytes 12 = .ok (.iload_n 1, 1) := by decide +kernel
theorem dX3_countLiveBytes_13 : decode cX3_countLiveBytes 13 = .ok (.aload_n 0, 1) := by decide +kernel
theorem dX3_countLiveBytes_14 : decode cX3_countLiveBytes 14 = .ok (.getfield 11, 3) := by decide +kernel
theorem dX3_countLiveBytes_17 : decode cX3_countLiveBytes 17 = .ok (.iload_n 2, 1) := by decide +kernel
theorem dX3_countLiveBytes_18 : decode cX3_countLiveBytes 18 = .ok (.aaload, 1) := by decide +kernel
theorem dX3_countLiveBytes_19 : decode cX3_countLiveBytes 19 = .ok (.getfield 84, 3) := by decide +kernel
theorem dX3_countLiveBytes_22 : decode cX3_countLiveBytes 22 = .ok (.ifCond .eq 15, 3) := by decide +kernel
theorem dX3_countLiveBytes_25 : decode cX3_countLiveBytes 25 = .ok (.aload_n 0, 1) := by decide +kernel
theorem dX3_countLiveBytes_26 : decode cX3_countLiveBytes 26 = .ok (.getfield 11, 3) := by decide +kernel
theorem dX3_countLiveBytes_29 : decode cX3_countLiveBytes 29 = .ok (.iload_n 2, 1) := by decide +kernel
theorem dX3_countLiveBytes_30 : decode cX3_countLiveBytes 30 = .ok (.aaload, 1) := by decide +kernel
theorem dX3_countLiveBytes_31 : decode cX3_countLiveBytes 31 = .ok (.getfield 78, 3) := by decide +kernel
theorem dX3_countLiveBytes_34 : decode cX3_countLiveBytes 34 = .ok (.goto 4, 3) := by decide +kernel
theorem dX3_countLiveBytes_37 : decode cX3_countLiveBytes 37 = .ok (.iconst 0, 1) := by decide +kernel
theorem dX3_countLiveBytes_38 : decode cX3_countLiveBytes 38 = .ok (.iadd, 1) := by decide +kernel
theorem dX3_countLiveBytes_39 : decode cX3_countLiveBytes 39 = .ok (.istore_n 1, 1) := by decide +kernel
theorem dX3_countLiveBytes_40 : decode cX3_countLiveBytes 40 = .ok (.iinc 2 1, 3) := by decide +kernel
theorem dX3_countLiveBytes_43 : decode cX3_countLiveBytes 43 = .ok (.goto (-39), 3) := by decide +kernel
theorem dX3_countLiveBytes_46 : decode cX3_countLiveBytes 46 = .ok (.iload_n 1, 1) := by decide +kernel
theorem dX3_countLiveBytes_47 : decode cX3_countLiveBytes 47 = .ok (.ireturn, 1) := by decide +kernel
theorem dX4_init_0 : decode cX4_init 0 = .ok (.aload_n 0, 1) := by decide +kernel
theorem dX4_init_1 : decode cX4_init 1 = .ok (.invokespecial 1, 3) := by decide +kernel
theorem dX4_init_4 : decode cX4_init 4 = .ok (.return_, 1) := by decide +kernel
theorem dX4_beginAt_0 : decode cX4_beginAt 0 = .ok (.aload_n 0, 1) := by decide +kernel
theorem dX4_beginAt_1 : decode cX4_beginAt 1 = .ok (.iload_n 1, 1) := by decide +kernel
theorem dX4_beginAt_2 : decode cX4_beginAt 2 = .ok (.putfield 7, 3) := by decide +kernel
theorem dX4_beginAt_5 : decode cX4_beginAt 5 = .ok (.aload_n 0, 1) := by decide +kernel
theorem dX4_beginAt_6 : decode cX4_beginAt 6 = .ok (.iconst 0, 1) := by decide +kernel
theorem dX4_beginAt_7 : decode cX4_beginAt 7 = .ok (.putfield 13, 3) := by decide +kernel
theorem dX4_beginAt_10 : decode cX4_beginAt 10 = .ok (.aload_n 0, 1) := by decide +kernel
theorem dX4_beginAt_11 : decode cX4_beginAt 11 = .ok (.iload_n 2, 1) := by decide +kernel
theorem dX4_beginAt_12 : decode cX4_beginAt 12 = .ok (.putfield 16, 3) := by decide +kernel
theorem dX4_beginAt_15 : decode cX4_beginAt 15 = .ok (.return_, 1) := by decide +kernel
theorem dX4_grow_0 : decode cX4_grow 0 = .ok (.aload_n 0, 1) := by decide +kernel
theorem dX4_grow_1 : decode cX4_grow 1 = .ok (.dup, 1) := by decide +kernel
theorem dX4_grow_2 : decode cX4_grow 2 = .ok (.getfield 13, 3) := by decide +kernel
theorem dX4_grow_5 : decode cX4_grow 5 = .ok (.iconst 1, 1) := by decide +kernel
theorem dX4_grow_6 : decode cX4_grow 6 = .ok (.iadd, 1) := by decide +kernel
theorem dX4_grow_7 : decode cX4_grow 7 = .ok (.putfield 13, 3) := by decide +kernel
theorem dX4_grow_10 : decode cX4_grow 10 = .ok (.aload_n 0, 1) := by decide +kernel
theorem dX4_grow_11 : decode cX4_grow 11 = .ok (.iload_n 1, 1) := by decide +kernel
theorem dX4_grow_12 : decode cX4_grow 12 = .ok (.ifCond .ne 17, 3) := by decide +kernel
theorem dX4_grow_15 : decode cX4_grow 15 = .ok (.aload_n 0, 1) := by decide +kernel
theorem dX4_grow_16 : decode cX4_grow 16 = .ok (.getfield 13, 3) := by decide +kernel
theorem dX4_grow_19 : decode cX4_grow 19 = .ok (.invokestatic 20, 3) := by decide +kernel
theorem dX4_grow_22 : decode cX4_grow 22 = .ok (.ifCond .eq 7, 3) := by decide +kernel
theorem dX4_grow_25 : decode cX4_grow 25 = .ok (.iconst 1, 1) := by decide +kernel
theorem dX4_grow_26 : decode cX4_grow 26 = .ok (.goto 4, 3) := by decide +kernel
theorem dX4_grow_29 : decode cX4_grow 29 = .ok (.iconst 0, 1) := by decide +kernel
theorem dX4_grow_30 : decode cX4_grow 30 = .ok (.putfield 26, 3) := by decide +kernel
theorem dX4_grow_33 : decode cX4_grow 33 = .ok (.return_, 1) := by decide +kernel
theorem dX4_touchWith_0 : decode cX4_touchWith 0 = .ok (.iload_n 1, 1) := by decide +kernel
theorem dX4_touchWith_1 : decode cX4_touchWith 1 = .ok (.aload_n 0, 1) := by decide +kernel
theorem dX4_touchWith_2 : decode cX4_touchWith 2 = .ok (.getfield 13, 3) := by decide +kernel
theorem dX4_touchWith_5 : decode cX4_touchWith 5 = .ok (.if_icmp .eq 8, 3) := by decide +kernel
theorem dX4_touchWith_8 : decode cX4_touchWith 8 = .ok (.aload_n 0, 1) := by decide +kernel
theorem dX4_touchWith_9 : decode cX4_touchWith 9 = .ok (.iconst 0, 1) := by decide +kernel
theorem dX4_touchWith_10 : decode cX4_touchWith 10 = .ok (.putfield 26, 3) := by decide +kernel
theorem dX4_touchWith_13 : decode cX4_touchWith 13 = .ok (.return_, 1) := by decide +kernel
theorem dX5_init_0 : decode cX5_init 0 = .ok (.aload_n 0, 1) := by decide +kernel
theorem dX5_init_1 : decode cX5_init 1 = .ok (.invokespecial 3, 3) := by decide +kernel
theorem dX5_init_4 : decode cX5_init 4 = .ok (.aload_n 0, 1) := by decide +kernel
theorem dX5_init_5 : decode cX5_init 5 = .ok (.iconst 4, 1) := by decide +kernel
theorem dX5_init_6 : decode cX5_init 6 = .ok (.newarray .int, 2) := by decide +kernel
theorem dX5_init_8 : decode cX5_init 8 = .ok (.putfield 9, 3) := by decide +kernel
theorem dX5_init_11 : decode cX5_init 11 = .ok (.aload_n 0, 1) := by decide +kernel
theorem dX5_init_12 : decode cX5_init 12 = .ok (.bipush 24, 2) := by decide +kernel
theorem dX5_init_14 : decode cX5_init 14 = .ok (.anewarray 15, 3) := by decide +kernel
theorem dX5_init_17 : decode cX5_init 17 = .ok (.putfield 17, 3) := by decide +kernel
theorem dX5_init_20 : decode cX5_init 20 = .ok (.aload_n 0, 1) := by decide +kernel
theorem dX5_init_21 : decode cX5_init 21 = .ok (.new 15, 3) := by decide +kernel
theorem dX5_init_24 : decode cX5_init 24 = .ok (.dup, 1) := by decide +kernel
theorem dX5_init_25 : decode cX5_init 25 = .ok (.iconst 0, 1) := by decide +kernel
theorem dX5_init_26 : decode cX5_init 26 = .ok (.invokespecial 21, 3) := by decide +kernel
theorem dX5_init_29 : decode cX5_init 29 = .ok (.putfield 24, 3) := by decide +kernel
theorem dX5_init_32 : decode cX5_init 32 = .ok (.iconst 0, 1) := by decide +kernel
theorem dX5_init_33 : decode cX5_init 33 = .ok (.istore_n 1, 1) := by decide +kernel
theorem dX5_init_34 : decode cX5_init 34 = .ok (.iload_n 1, 1) := by decide +kernel
theorem dX5_init_35 : decode cX5_init 35 = .ok (.bipush 24, 2) := by decide +kernel
theorem dX5_init_37 : decode cX5_init 37 = .ok (.if_icmp .ge 19, 3) := by decide +kernel
theorem dX5_init_40 : decode cX5_init 40 = .ok (.aload_n 0, 1) := by decide +kernel
theorem dX5_init_41 : decode cX5_init 41 = .ok (.getfield 17, 3) := by decide +kernel
theorem dX5_init_44 : decode cX5_init 44 = .ok (.iload_n 1, 1) := by decide +kernel
theorem dX5_init_45 : decode cX5_init 45 = .ok (.aload_n 0, 1) := by decide +kernel
theorem dX5_init_46 : decode cX5_init 46 = .ok (.getfield 24, 3) := by decide +kernel
theorem dX5_init_49 : decode cX5_init 49 = .ok (.aastore, 1) := by decide +kernel
theorem dX5_init_50 : decode cX5_init 50 = .ok (.iinc 1 1, 3) := by decide +kernel
theorem dX5_init_53 : decode cX5_init 53 = .ok (.goto (-19), 3) := by decide +kernel
theorem dX5_init_56 : decode cX5_init 56 = .ok (.return_, 1) := by decide +kernel
theorem dX5_hasRecord_0 : decode cX5_hasRecord 0 = .ok (.iload_n 1, 1) := by decide +kernel
theorem dX5_hasRecord_1 : decode cX5_hasRecord 1 = .ok (.ifCond .lt 15, 3) := by decide +kernel
theorem dX5_hasRecord_4 : decode cX5_hasRecord 4 = .ok (.iload_n 1, 1) := by decide +kernel
theorem dX5_hasRecord_5 : decode cX5_hasRecord 5 = .ok (.aload_n 0, 1) := by decide +kernel
theorem dX5_hasRecord_6 : decode cX5_hasRecord 6 = .ok (.getfield 28, 3) := by decide +kernel
theorem dX5_hasRecord_9 : decode cX5_hasRecord 9 = .ok (.if_icmp .ge 7, 3) := by decide +kernel
theorem dX5_hasRecord_12 : decode cX5_hasRecord 12 = .ok (.iconst 1, 1) := by decide +kernel
theorem dX5_hasRecord_13 : decode cX5_hasRecord 13 = .ok (.goto 4, 3) := by decide +kernel
theorem dX5_hasRecord_16 : decode cX5_hasRecord 16 = .ok (.iconst 0, 1) := by decide +kernel
theorem dX5_hasRecord_17 : decode cX5_hasRecord 17 = .ok (.ireturn, 1) := by decide +kernel
theorem dX5_hasInstruction_0 : decode cX5_hasInstruction 0 = .ok (.iload_n 1, 1) := by decide +kernel
theorem dX5_hasInstruction_1 : decode cX5_hasInstruction 1 = .ok (.ifCond .lt 15, 3) := by decide +kernel
theorem dX5_hasInstruction_4 : decode cX5_hasInstruction 4 = .ok (.iload_n 1, 1) := by decide +kernel
theorem dX5_hasInstruction_5 : decode cX5_hasInstruction 5 = .ok (.aload_n 0, 1) := by decide +kernel
theorem dX5_hasInstruction_6 : decode cX5_hasInstruction 6 = .ok (.getfield 32, 3) := by decide +kernel
theorem dX5_hasInstruction_9 : decode cX5_hasInstruction 9 = .ok (.if_icmp .ge 7, 3) := by decide +kernel
theorem dX5_hasInstruction_12 : decode cX5_hasInstruction 12 = .ok (.iconst 1, 1) := by decide +kernel
theorem dX5_hasInstruction_13 : decode cX5_hasInstruction 13 = .ok (.goto 4, 3) := by decide +kernel
theorem dX5_hasInstruction_16 : decode cX5_hasInstruction 16 = .ok (.iconst 0, 1) := by decide +kernel
theorem dX5_hasInstruction_17 : decode cX5_hasInstruction 17 = .ok (.ireturn, 1) := by decide +kernel
theorem dX5_sizeOf_0 : decode cX5_sizeOf 0 = .ok (.aload_n 0, 1) := by decide +kernel
theorem dX5_sizeOf_1 : decode cX5_sizeOf 1 = .ok (.iload_n 1, 1) := by decide +kernel
theorem dX5_sizeOf_2 : decode cX5_sizeOf 2 = .ok (.invokevirtual 35, 3) := by decide +kernel
theorem dX5_sizeOf_5 : decode cX5_sizeOf 5 = .ok (.ifCond .eq 12, 3) := by decide +kernel
theorem dX5_sizeOf_8 : decode cX5_sizeOf 8 = .ok (.aload_n 0, 1) := by decide +kernel
theorem dX5_sizeOf_9 : decode cX5_sizeOf 9 = .ok (.getfield 9, 3) := by decide +kernel
theorem dX5_sizeOf_12 : decode cX5_sizeOf 12 = .ok (.iload_n 1, 1) := by decide +kernel
theorem dX5_sizeOf_13 : decode cX5_sizeOf 13 = .ok (.iaload, 1) := by decide +kernel
theorem dX5_sizeOf_14 : decode cX5_sizeOf 14 = .ok (.goto 4, 3) := by decide +kernel
theorem dX5_sizeOf_17 : decode cX5_sizeOf 17 = .ok (.iconst 0, 1) := by decide +kernel
theorem dX5_sizeOf_18 : decode cX5_sizeOf 18 = .ok (.ireturn, 1) := by decide +kernel
theorem dX5_holdsRange_0 : decode cX5_holdsRange 0 = .ok (.aload_n 0, 1) := by decide +kernel
theorem dX5_holdsRange_1 : decode cX5_holdsRange 1 = .ok (.iload_n 1, 1) := by decide +kernel
theorem dX5_holdsRange_2 : decode cX5_holdsRange 2 = .ok (.invokevirtual 39, 3) := by decide +kernel
theorem dX5_holdsRange_5 : decode cX5_holdsRange 5 = .ok (.istore 4, 2) := by decide +kernel
theorem dX5_holdsRange_7 : decode cX5_holdsRange 7 = .ok (.iload_n 3, 1) := by decide +kernel
theorem dX5_holdsRange_8 : decode cX5_holdsRange 8 = .ok (.iconst 1, 1) := by decide +kernel
theorem dX5_holdsRange_9 : decode cX5_holdsRange 9 = .ok (.if_icmp .lt 25, 3) := by decide +kernel
theorem dX5_holdsRange_12 : decode cX5_holdsRange 12 = .ok (.iload_n 3, 1) := by decide +kernel
theorem dX5_holdsRange_13 : decode cX5_holdsRange 13 = .ok (.iload 4, 2) := by decide +kernel
theorem dX5_holdsRange_15 : decode cX5_holdsRange 15 = .ok (.if_icmp .gt 19, 3) := by decide +kernel
theorem dX5_holdsRange_18 : decode cX5_holdsRange 18 = .ok (.iload_n 2, 1) := by decide +kernel
theorem dX5_holdsRange_19 : decode cX5_holdsRange 19 = .ok (.ifCond .lt 15, 3) := by decide +kernel
theorem dX5_holdsRange_22 : decode cX5_holdsRange 22 = .ok (.iload_n 2, 1) := by decide +kernel
theorem dX5_holdsRange_23 : decode cX5_holdsRange 23 = .ok (.iload 4, 2) := by decide +kernel
theorem dX5_holdsRange_25 : decode cX5_holdsRange 25 = .ok (.iload_n 3, 1) := by decide +kernel
theorem dX5_holdsRange_26 : decode cX5_holdsRange 26 = .ok (.isub, 1) := by decide +kernel
theorem dX5_holdsRange_27 : decode cX5_holdsRange 27 = .ok (.if_icmp .gt 7, 3) := by decide +kernel
theorem dX5_holdsRange_30 : decode cX5_holdsRange 30 = .ok (.iconst 1, 1) := by decide +kernel
theorem dX5_holdsRange_31 : decode cX5_holdsRange 31 = .ok (.goto 4, 3) := by decide +kernel
theorem dX5_holdsRange_34 : decode cX5_holdsRange 34 = .ok (.iconst 0, 1) := by decide +kernel
theorem dX5_holdsRange_35 : decode cX5_holdsRange 35 = .ok (.ireturn, 1) := by decide +kernel
theorem dX5_at_0 : decode cX5_at 0 = .ok (.aload_n 0, 1) := by decide +kernel
theorem dX5_at_1 : decode cX5_at 1 = .ok (.iload_n 1, 1) := by decide +kernel
theorem dX5_at_2 : decode cX5_at 2 = .ok (.invokevirtual 43, 3) := by decide +kernel
theorem dX5_at_5 : decode cX5_at 5 = .ok (.ifCond .eq 12, 3) := by decide +kernel
theorem dX5_at_8 : decode cX5_at 8 = .ok (.aload_n 0, 1) := by decide +kernel
theorem dX5_at_9 : decode cX5_at 9 = .ok (.getfield 17, 3) := by decide +kernel
theorem dX5_at_12 : decode cX5_at 12 = .ok (.iload_n 1, 1) := by decide +kernel
theorem dX5_at_13 : decode cX5_at 13 = .ok (.aaload, 1) := by decide +kernel
theorem dX5_at_14 : decode cX5_at 14 = .ok (.goto 7, 3) := by decide +kernel
theorem dX5_at_17 : decode cX5_at 17 = .ok (.aload_n 0, 1) := by decide +kernel
theorem dX5_at_18 : decode cX5_at 18 = .ok (.getfield 24, 3) := by decide +kernel
theorem dX5_at_21 : decode cX5_at 21 = .ok (.areturn, 1) := by decide +kernel
theorem dX5_addRecord_0 : decode cX5_addRecord 0 = .ok (.aload_n 0, 1) := by decide +kernel
theorem dX5_addRecord_1 : decode cX5_addRecord 1 = .ok (.getfield 28, 3) := by decide +kernel
theorem dX5_addRecord_4 : decode cX5_addRecord 4 = .ok (.iconst 4, 1) := by decide +kernel
theorem dX5_addRecord_5 : decode cX5_addRecord 5 = .ok (.if_icmp .ge 23, 3) := by decide +kernel
theorem dX5_addRecord_8 : decode cX5_addRecord 8 = .ok (.aload_n 0, 1) := by decide +kernel
theorem dX5_addRecord_9 : decode cX5_addRecord 9 = .ok (.getfield 9, 3) := by decide +kernel
theorem dX5_addRecord_12 : decode cX5_addRecord 12 = .ok (.aload_n 0, 1) := by decide +kernel
theorem dX5_addRecord_13 : decode cX5_addRecord 13 = .ok (.getfield 28, 3) := by decide +kernel
theorem dX5_addRecord_16 : decode cX5_addRecord 16 = .ok (.iload_n 1, 1) := by decide +kernel
theorem dX5_addRecord_17 : decode cX5_addRecord 17 = .ok (.iastore, 1) := by decide +kernel
theorem dX5_addRecord_18 : decode cX5_addRecord 18 = .ok (.aload_n 0, 1) := by decide +kernel
theorem dX5_addRecord_19 : decode cX5_addRecord 19 = .ok (.dup, 1) := by decide +kernel
theorem dX5_addRecord_20 : decode cX5_addRecord 20 = .ok (.getfield 28, 3) := by decide +kernel
theorem dX5_addRecord_23 : decode cX5_addRecord 23 = .ok (.iconst 1, 1) := by decide +kernel
theorem dX5_addRecord_24 : decode cX5_addRecord 24 = .ok (.iadd, 1) := by decide +kernel
theorem dX5_addRecord_25 : decode cX5_addRecord 25 = .ok (.putfield 28, 3) := by decide +kernel
theorem dX5_addRecord_28 : decode cX5_addRecord 28 = .ok (.return_, 1) := by decide +kernel
theorem dX5_dropRecord_0 : decode cX5_dropRecord 0 = .ok (.aload_n 0, 1) := by decide +kernel
theorem dX5_dropRecord_1 : decode cX5_dropRecord 1 = .ok (.getfield 28, 3) := by decide +kernel
theorem dX5_dropRecord_4 : decode cX5_dropRecord 4 = .ok (.ifCond .le 13, 3) := by decide +kernel
theorem dX5_dropRecord_7 : decode cX5_dropRecord 7 = .ok (.aload_n 0, 1) := by decide +kernel
theorem dX5_dropRecord_8 : decode cX5_dropRecord 8 = .ok (.dup, 1) := by decide +kernel
theorem dX5_dropRecord_9 : decode cX5_dropRecord 9 = .ok (.getfield 28, 3) := by decide +kernel
theorem dX5_dropRecord_12 : decode cX5_dropRecord 12 = .ok (.iconst 1, 1) := by decide +kernel
theorem dX5_dropRecord_13 : decode cX5_dropRecord 13 = .ok (.isub, 1) := by decide +kernel
theorem dX5_dropRecord_14 : decode cX5_dropRecord 14 = .ok (.putfield 28, 3) := by decide +kernel
theorem dX5_dropRecord_17 : decode cX5_dropRecord 17 = .ok (.return_, 1) := by decide +kernel
theorem dX5_insert_0 : decode cX5_insert 0 = .ok (.iload_n 1, 1) := by decide +kernel
theorem dX5_insert_1 : decode cX5_insert 1 = .ok (.ifCond .lt 20, 3) := by decide +kernel
theorem dX5_insert_4 : decode cX5_insert 4 = .ok (.iload_n 1, 1) := by decide +kernel
theorem dX5_insert_5 : decode cX5_insert 5 = .ok (.aload_n 0, 1) := by decide +kernel
theorem dX5_insert_6 : decode cX5_insert 6 = .ok (.getfield 32, 3) := by decide +kernel
theorem dX5_insert_9 : decode cX5_insert 9 = .ok (.if_icmp .gt 12, 3) := by decide +kernel
theorem dX5_insert_12 : decode cX5_insert 12 = .ok (.aload_n 0, 1) := by decide +kernel
theorem dX5_insert_13 : decode cX5_insert 13 = .ok (.getfield 32, 3) := by decide +kernel
theorem dX5_insert_16 : decode cX5_insert 16 = .ok (.bipush 24, 2) := by decide +kernel
theorem dX5_insert_18 : decode cX5_insert 18 = .ok (.if_icmp .lt 4, 3) := by decide +kernel
theorem dX5_insert_21 : decode cX5_insert 21 = .ok (.return_, 1) := by decide +kernel
theorem dX5_insert_22 : decode cX5_insert 22 = .ok (.aload_n 0, 1) := by decide +kernel
theorem dX5_insert_23 : decode cX5_insert 23 = .ok (.getfield 32, 3) := by decide +kernel
theorem dX5_insert_26 : decode cX5_insert 26 = .ok (.istore_n 3, 1) := by decide +kernel
theorem dX5_insert_27 : decode cX5_insert 27 = .ok (.iload_n 3, 1) := by decide +kernel
theorem dX5_insert_28 : decode cX5_insert 28 = .ok (.iload_n 1, 1) := by decide +kernel
theorem dX5_insert_29 : decode cX5_insert 29 = .ok (.if_icmp .le 23, 3) := by decide +kernel
theorem dX5_insert_32 : decode cX5_insert 32 = .ok (.aload_n 0, 1) := by decide +kernel
theorem dX5_insert_33 : decode cX5_insert 33 = .ok (.getfield 17, 3) := by decide +kernel
theorem dX5_insert_36 : decode cX5_insert 36 = .ok (.iload_n 3, 1) := by decide +kernel
theorem dX5_insert_37 : decode cX5_insert 37 = .ok (.aload_n 0, 1) := by decide +kernel
theorem dX5_insert_38 : decode cX5_insert 38 = .ok (.getfield 17, 3) := by decide +kernel
theorem dX5_insert_41 : decode cX5_insert 41 = .ok (.iload_n 3, 1) := by decide +kernel
theorem dX5_insert_42 : decode cX5_insert 42 = .ok (.iconst 1, 1) := by decide +kernel
theorem dX5_insert_43 : decode cX5_insert 43 = .ok (.isub, 1) := by decide +kernel
theorem dX5_insert_44 : decode cX5_insert 44 = .ok (.aaload, 1) := by decide +kernel
theorem dX5_insert_45 : decode cX5_insert 45 = .ok (.aastore, 1) := by decide +kernel
theorem dX5_insert_46 : decode cX5_insert 46 = .ok (.iinc 3 (-1), 3) := by decide +kernel
theorem dX5_insert_49 : decode cX5_insert 49 = .ok (.goto (-22), 3) := by decide +kernel
theorem dX5_insert_52 : decode cX5_insert 52 = .ok (.aload_n 0, 1) := by decide +kernel
theorem dX5_insert_53 : decode cX5_insert 53 = .ok (.getfield 17, 3) := by decide +kernel
theorem dX5_insert_56 : decode cX5_insert 56 = .ok (.iload_n 1, 1) := by decide +kernel
theorem dX5_insert_57 : decode cX5_insert 57 = .ok (.aload_n 2, 1) := by decide +kernel
theorem dX5_insert_58 : decode cX5_insert 58 = .ok (.aastore, 1) := by decide +kernel
theorem dX5_insert_59 : decode cX5_insert 59 = .ok (.aload_n 0, 1) := by decide +kernel
theorem dX5_insert_60 : decode cX5_insert 60 = .ok (.dup, 1) := by decide +kernel
theorem dX5_insert_61 : decode cX5_insert 61 = .ok (.getfield 32, 3) := by decide +kernel
theorem dX5_insert_64 : decode cX5_insert 64 = .ok (.iconst 1, 1) := by decide +kernel
theorem dX5_insert_65 : decode cX5_insert 65 = .ok (.iadd, 1) := by decide +kernel
theorem dX5_insert_66 : decode cX5_insert 66 = .ok (.putfield 32, 3) := by decide +kernel
theorem dX5_insert_69 : decode cX5_insert 69 = .ok (.return_, 1) := by decide +kernel
theorem dX5_delete_0 : decode cX5_delete 0 = .ok (.aload_n 0, 1) := by decide +kernel
theorem dX5_delete_1 : decode cX5_delete 1 = .ok (.iload_n 1, 1) := by decide +kernel
theorem dX5_delete_2 : decode cX5_delete 2 = .ok (.invokevirtual 43, 3) := by decide +kernel
theorem dX5_delete_5 : decode cX5_delete 5 = .ok (.ifCond .ne 4, 3) := by decide +kernel
theorem dX5_delete_8 : decode cX5_delete 8 = .ok (.return_, 1) := by decide +kernel
theorem dX5_delete_9 : decode cX5_delete 9 = .ok (.aload_n 0, 1) := by decide +kernel
theorem dX5_delete_10 : decode cX5_delete 10 = .ok (.dup, 1) := by decide +kernel
theorem dX5_delete_11 : decode cX5_delete 11 = .ok (.getfield 32, 3) := by decide +kernel
theorem dX5_delete_14 : decode cX5_delete 14 = .ok (.iconst 1, 1) := by decide +kernel
theorem dX5_delete_15 : decode cX5_delete 15 = .ok (.isub, 1) := by decide +kernel
theorem dX5_delete_16 : decode cX5_delete 16 = .ok (.putfield 32, 3) := by decide +kernel
theorem dX5_delete_19 : decode cX5_delete 19 = .ok (.iload_n 1, 1) := by decide +kernel
theorem dX5_delete_20 : decode cX5_delete 20 = .ok (.istore_n 2, 1) := by decide +kernel
theorem dX5_delete_21 : decode cX5_delete 21 = .ok (.iload_n 2, 1) := by decide +kernel
theorem dX5_delete_22 : decode cX5_delete 22 = .ok (.aload_n 0, 1) := by decide +kernel
theorem dX5_delete_23 : decode cX5_delete 23 = .ok (.getfield 32, 3) := by decide +kernel
theorem dX5_delete_26 : decode cX5_delete 26 = .ok (.if_icmp .ge 23, 3) := by decide +kernel
theorem dX5_delete_29 : decode cX5_delete 29 = .ok (.aload_n 0, 1) := by decide +kernel
theorem dX5_delete_30 : decode cX5_delete 30 = .ok (.getfield 17, 3) := by decide +kernel
theorem dX5_delete_33 : decode cX5_delete 33 = .ok (.iload_n 2, 1) := by decide +kernel
theorem dX5_delete_34 : decode cX5_delete 34 = .ok (.aload_n 0, 1) := by decide +kernel
theorem dX5_delete_35 : decode cX5_delete 35 = .ok (.getfield 17, 3) := by decide +kernel
theorem dX5_delete_38 : decode cX5_delete 38 = .ok (.iload_n 2, 1) := by decide +kernel
theorem dX5_delete_39 : decode cX5_delete 39 = .ok (.iconst 1, 1) := by decide +kernel
theorem dX5_delete_40 : decode cX5_delete 40 = .ok (.iadd, 1) := by decide +kernel
theorem dX5_delete_41 : decode cX5_delete 41 = .ok (.aaload, 1) := by decide +kernel
theorem dX5_delete_42 : decode cX5_delete 42 = .ok (.aastore, 1) := by decide +kernel
theorem dX5_delete_43 : decode cX5_delete 43 = .ok (.iinc 2 1, 3) := by decide +kernel
theorem dX5_delete_46 : decode cX5_delete 46 = .ok (.goto (-25), 3) := by decide +kernel
theorem dX5_delete_49 : decode cX5_delete 49 = .ok (.aload_n 0, 1) := by decide +kernel
theorem dX5_delete_50 : decode cX5_delete 50 = .ok (.getfield 17, 3) := by decide +kernel
theorem dX5_delete_53 : decode cX5_delete 53 = .ok (.aload_n 0, 1) := by decide +kernel
theorem dX5_delete_54 : decode cX5_delete 54 = .ok (.getfield 32, 3) := by decide +kernel
theorem dX5_delete_57 : decode cX5_delete 57 = .ok (.aload_n 0, 1) := by decide +kernel
theorem dX5_delete_58 : decode cX5_delete 58 = .ok (.getfield 24, 3) := by decide +kernel
theorem dX5_delete_61 : decode cX5_delete 61 = .ok (.aastore, 1) := by decide +kernel
theorem dX5_delete_62 : decode cX5_delete 62 = .ok (.return_, 1) := by decide +kernel
theorem dX6_init_0 : decode cX6_init 0 = .ok (.aload_n 0, 1) := by decide +kernel
theorem dX6_init_1 : decode cX6_init 1 = .ok (.invokespecial 3, 3) := by decide +kernel
theorem dX6_init_4 : decode cX6_init 4 = .ok (.aload_n 0, 1) := by decide +kernel
theorem dX6_init_5 : decode cX6_init 5 = .ok (.bipush 8, 2) := by decide +kernel
theorem dX6_init_7 : decode cX6_init 7 = .ok (.newarray .int, 2) := by decide +kernel
theorem dX6_init_9 : decode cX6_init 9 = .ok (.putfield 9, 3) := by decide +kernel
theorem dX6_init_12 : decode cX6_init 12 = .ok (.aload_n 0, 1) := by decide +kernel
theorem dX6_init_13 : decode cX6_init 13 = .ok (.iconst 4, 1) := by decide +kernel
theorem dX6_init_14 : decode cX6_init 14 = .ok (.bipush 16, 2) := by decide +kernel
theorem dX6_init_16 : decode cX6_init 16 = .ok (.multianewarray 15 2, 4) := by decide +kernel
theorem dX6_init_20 : decode cX6_init 20 = .ok (.putfield 17, 3) := by decide +kernel
theorem dX6_init_23 : decode cX6_init 23 = .ok (.aload_n 0, 1) := by decide +kernel
theorem dX6_init_24 : decode cX6_init 24 = .ok (.bipush 24, 2) := by decide +kernel
theorem dX6_init_26 : decode cX6_init 26 = .ok (.newarray .int, 2) := by decide +kernel
theorem dX6_init_28 : decode cX6_init 28 = .ok (.putfield 20, 3) := by decide +kernel
theorem dX6_init_31 : decode cX6_init 31 = .ok (.aload_n 0, 1) := by decide +kernel
theorem dX6_init_32 : decode cX6_init 32 = .ok (.aload_n 1, 1) := by decide +kernel
theorem dX6_init_33 : decode cX6_init 33 = .ok (.putfield 23, 3) := by decide +kernel
theorem dX6_init_36 : decode cX6_init 36 = .ok (.aload_n 0, 1) := by decide +kernel
theorem dX6_init_37 : decode cX6_init 37 = .ok (.aload_n 2, 1) := by decide +kernel
theorem dX6_init_38 : decode cX6_init 38 = .ok (.putfield 27, 3) := by decide +kernel
theorem dX6_init_41 : decode cX6_init 41 = .ok (.return_, 1) := by decide +kernel
theorem dX6_execute_0 : decode cX6_execute 0 = .ok (.aload_n 0, 1) := by decide +kernel
theorem dX6_execute_1 : decode cX6_execute 1 = .ok (.iload_n 1, 1) := by decide +kernel
theorem dX6_execute_2 : decode cX6_execute 2 = .ok (.invokevirtual 31, 3) := by decide +kernel
theorem dX6_execute_5 : decode cX6_execute 5 = .ok (.iconst 0, 1) := by decide +kernel
theorem dX6_execute_6 : decode cX6_execute 6 = .ok (.istore_n 2, 1) := by decide +kernel
theorem dX6_execute_7 : decode cX6_execute 7 = .ok (.iload_n 2, 1) := by decide +kernel
theorem dX6_execute_8 : decode cX6_execute 8 = .ok (.aload_n 0, 1) := by decide +kernel
theorem dX6_execute_9 : decode cX6_execute 9 = .ok (.getfield 23, 3) := by decide +kernel
theorem dX6_execute_12 : decode cX6_execute 12 = .ok (.getfield 35, 3) := by decide +kernel
theorem dX6_execute_15 : decode cX6_execute 15 = .ok (.if_icmp .ge 39, 3) := by decide +kernel
theorem dX6_execute_18 : decode cX6_execute 18 = .ok (.aload_n 0, 1) := by decide +kernel
theorem dX6_execute_19 : decode cX6_execute 19 = .ok (.getfield 41, 3) := by decide +kernel
theorem dX6_execute_22 : decode cX6_execute 22 = .ok (.bipush (-9), 2) := by decide +kernel
theorem dX6_execute_24 : decode cX6_execute 24 = .ok (.if_icmp .ne 30, 3) := by decide +kernel
theorem dX6_execute_27 : decode cX6_execute 27 = .ok (.iload_n 2, 1) := by decide +kernel
theorem dX6_execute_28 : decode cX6_execute 28 = .ok (.aload_n 0, 1) := by decide +kernel
theorem dX6_execute_29 : decode cX6_execute 29 = .ok (.getfield 44, 3) := by decide +kernel
theorem dX6_execute_32 : decode cX6_execute 32 = .ok (.if_icmp .lt 16, 3) := by decide +kernel
theorem dX6_execute_35 : decode cX6_execute 35 = .ok (.aload_n 0, 1) := by decide +kernel
theorem dX6_execute_36 : decode cX6_execute 36 = .ok (.aload_n 0, 1) := by decide +kernel
theorem dX6_execute_37 : decode cX6_execute 37 = .ok (.getfield 23, 3) := by decide +kernel
theorem dX6_execute_40 : decode cX6_execute 40 = .ok (.iload_n 2, 1) := by decide +kernel
theorem dX6_execute_41 : decode cX6_execute 41 = .ok (.invokevirtual 47, 3) := by decide +kernel
theorem dX6_execute_44 : decode cX6_execute 44 = .ok (.iload_n 2, 1) := by decide +kernel
theorem dX6_execute_45 : decode cX6_execute 45 = .ok (.invokevirtual 51, 3) := by decide +kernel
theorem dX6_execute_48 : decode cX6_execute 48 = .ok (.iinc 2 1, 3) := by decide +kernel
theorem dX6_execute_51 : decode cX6_execute 51 = .ok (.goto (-44), 3) := by decide +kernel
theorem dX6_execute_54 : decode cX6_execute 54 = .ok (.return_, 1) := by decide +kernel
theorem dX6_outputOf_0 : decode cX6_outputOf 0 = .ok (.iload_n 1, 1) := by decide +kernel
theorem dX6_outputOf_1 : decode cX6_outputOf 1 = .ok (.ifCond .lt 20, 3) := by decide +kernel
theorem dX6_outputOf_4 : decode cX6_outputOf 4 = .ok (.iload_n 1, 1) := by decide +kernel
theorem dX6_outputOf_5 : decode cX6_outputOf 5 = .ok (.aload_n 0, 1) := by decide +kernel
theorem dX6_outputOf_6 : decode cX6_outputOf 6 = .ok (.getfield 55, 3) := by decide +kernel
theorem dX6_outputOf_9 : decode cX6_outputOf 9 = .ok (.if_icmp .ge 12, 3) := by decide +kernel
theorem dX6_outputOf_12 : decode cX6_outputOf 12 = .ok (.aload_n 0, 1) := by decide +kernel
theorem dX6_outputOf_13 : decode cX6_outputOf 13 = .ok (.getfield 20, 3) := by decide +kernel
theorem dX6_outputOf_16 : decode cX6_outputOf 16 = .ok (.iload_n 1, 1) := by decide +kernel
theorem dX6_outputOf_17 : decode cX6_outputOf 17 = .ok (.iaload, 1) := by decide +kernel
theorem dX6_outputOf_18 : decode cX6_outputOf 18 = .ok (.goto 4, 3) := by decide +kernel
theorem dX6_outputOf_21 : decode cX6_outputOf 21 = .ok (.iconst 0, 1) := by decide +kernel
theorem dX6_outputOf_22 : decode cX6_outputOf 22 = .ok (.ireturn, 1) := by decide +kernel
theorem dX6_clear_0 : decode cX6_clear 0 = .ok (.iconst 0, 1) := by decide +kernel
theorem dX6_clear_1 : decode cX6_clear 1 = .ok (.istore_n 2, 1) := by decide +kernel
theorem dX6_clear_2 : decode cX6_clear 2 = .ok (.iload_n 2, 1) := by decide +kernel
theorem dX6_clear_3 : decode cX6_clear 3 = .ok (.bipush 8, 2) := by decide +kernel
theorem dX6_clear_5 : decode cX6_clear 5 = .ok (.if_icmp .ge 16, 3) := by decide +kernel
theorem dX6_clear_8 : decode cX6_clear 8 = .ok (.aload_n 0, 1) := by decide +kernel
theorem dX6_clear_9 : decode cX6_clear 9 = .ok (.getfield 9, 3) := by decide +kernel
theorem dX6_clear_12 : decode cX6_clear 12 = .ok (.iload_n 2, 1) := by decide +kernel
theorem dX6_clear_13 : decode cX6_clear 13 = .ok (.iconst 0, 1) := by decide +kernel
theorem dX6_clear_14 : decode cX6_clear 14 = .ok (.iastore, 1) := by decide +kernel
theorem dX6_clear_15 : decode cX6_clear 15 = .ok (.iinc 2 1, 3) := by decide +kernel
theorem dX6_clear_18 : decode cX6_clear 18 = .ok (.goto (-16), 3) := by decide +kernel
theorem dX6_clear_21 : decode cX6_clear 21 = .ok (.iconst 0, 1) := by decide +kernel
theorem dX6_clear_22 : decode cX6_clear 22 = .ok (.istore_n 2, 1) := by decide +kernel
theorem dX6_clear_23 : decode cX6_clear 23 = .ok (.iload_n 2, 1) := by decide +kernel
theorem dX6_clear_24 : decode cX6_clear 24 = .ok (.iconst 4, 1) := by decide +kernel
theorem dX6_clear_25 : decode cX6_clear 25 = .ok (.if_icmp .ge 32, 3) := by decide +kernel
theorem dX6_clear_28 : decode cX6_clear 28 = .ok (.iconst 0, 1) := by decide +kernel
theorem dX6_clear_29 : decode cX6_clear 29 = .ok (.istore_n 3, 1) := by decide +kernel
theorem dX6_clear_30 : decode cX6_clear 30 = .ok (.iload_n 3, 1) := by decide +kernel
theorem dX6_clear_31 : decode cX6_clear 31 = .ok (.bipush 16, 2) := by decide +kernel
theorem dX6_clear_33 : decode cX6_clear 33 = .ok (.if_icmp .ge 18, 3) := by decide +kernel
theorem dX6_clear_36 : decode cX6_clear 36 = .ok (.aload_n 0, 1) := by decide +kernel
theorem dX6_clear_37 : decode cX6_clear 37 = .ok (.getfield 17, 3) := by decide +kernel
theorem dX6_clear_40 : decode cX6_clear 40 = .ok (.iload_n 2, 1) := by decide +kernel
theorem dX6_clear_41 : decode cX6_clear 41 = .ok (.aaload, 1) := by decide +kernel
theorem dX6_clear_42 : decode cX6_clear 42 = .ok (.iload_n 3, 1) := by decide +kernel
theorem dX6_clear_43 : decode cX6_clear 43 = .ok (.iconst 0, 1) := by decide +kernel
theorem dX6_clear_44 : decode cX6_clear 44 = .ok (.iastore, 1) := by decide +kernel
theorem dX6_clear_45 : decode cX6_clear 45 = .ok (.iinc 3 1, 3) := by decide +kernel
theorem dX6_clear_48 : decode cX6_clear 48 = .ok (.goto (-18), 3) := by decide +kernel
theorem dX6_clear_51 : decode cX6_clear 51 = .ok (.iinc 2 1, 3) := by decide +kernel
theorem dX6_clear_54 : decode cX6_clear 54 = .ok (.goto (-31), 3) := by decide +kernel
theorem dX6_clear_57 : decode cX6_clear 57 = .ok (.aload_n 0, 1) := by decide +kernel
theorem dX6_clear_58 : decode cX6_clear 58 = .ok (.iload_n 1, 1) := by decide +kernel
theorem dX6_clear_59 : decode cX6_clear 59 = .ok (.putfield 58, 3) := by decide +kernel
theorem dX6_clear_62 : decode cX6_clear 62 = .ok (.aload_n 0, 1) := by decide +kernel
theorem dX6_clear_63 : decode cX6_clear 63 = .ok (.iconst 0, 1) := by decide +kernel
theorem dX6_clear_64 : decode cX6_clear 64 = .ok (.putfield 55, 3) := by decide +kernel
theorem dX6_clear_67 : decode cX6_clear 67 = .ok (.aload_n 0, 1) := by decide +kernel
theorem dX6_clear_68 : decode cX6_clear 68 = .ok (.iconst 0, 1) := by decide +kernel
theorem dX6_clear_69 : decode cX6_clear 69 = .ok (.putfield 62, 3) := by decide +kernel
theorem dX6_clear_72 : decode cX6_clear 72 = .ok (.aload_n 0, 1) := by decide +kernel
theorem dX6_clear_73 : decode cX6_clear 73 = .ok (.iconst 0, 1) := by decide +kernel
theorem dX6_clear_74 : decode cX6_clear 74 = .ok (.putfield 65, 3) := by decide +kernel
theorem dX6_clear_77 : decode cX6_clear 77 = .ok (.aload_n 0, 1) := by decide +kernel
theorem dX6_clear_78 : decode cX6_clear 78 = .ok (.bipush (-9), 2) := by decide +kernel
theorem dX6_clear_80 : decode cX6_clear 80 = .ok (.putfield 41, 3) := by decide +kernel
theorem dX6_clear_83 : decode cX6_clear 83 = .ok (.aload_n 0, 1) := by decide +kernel
theorem dX6_clear_84 : decode cX6_clear 84 = .ok (.iconst 0, 1) := by decide +kernel
theorem dX6_clear_85 : decode cX6_clear 85 = .ok (.putfield 44, 3) := by decide +kernel
theorem dX6_clear_88 : decode cX6_clear 88 = .ok (.return_, 1) := by decide +kernel
theorem dX6_perform_0 : decode cX6_perform 0 = .ok (.aload_n 1, 1) := by decide +kernel
theorem dX6_perform_1 : decode cX6_perform 1 = .ok (.getfield 68, 3) := by decide +kernel
theorem dX6_perform_4 : decode cX6_perform 4 = .ok (.tableswitch 175 1 8 #[48, 56, 64, 96, 107, 123, 132, 159], 48) := by decide +kernel
theorem dX6_perform_52 : decode cX6_perform 52 = .ok (.aload_n 0, 1) := by decide +kernel
theorem dX6_perform_53 : decode cX6_perform 53 = .ok (.aload_n 1, 1) := by decide +kernel
theorem dX6_perform_54 : decode cX6_perform 54 = .ok (.invokevirtual 73, 3) := by decide +kernel
theorem dX6_perform_57 : decode cX6_perform 57 = .ok (.goto 122, 3) := by decide +kernel
theorem dX6_perform_60 : decode cX6_perform 60 = .ok (.aload_n 0, 1) := by decide +kernel
theorem dX6_perform_61 : decode cX6_perform 61 = .ok (.aload_n 1, 1) := by decide +kernel
theorem dX6_perform_62 : decode cX6_perform 62 = .ok (.invokevirtual 77, 3) := by decide +kernel
theorem dX6_perform_65 : decode cX6_perform 65 = .ok (.goto 114, 3) := by decide +kernel
theorem dX6_perform_68 : decode cX6_perform 68 = .ok (.aload_n 0, 1) := by decide +kernel
theorem dX6_perform_69 : decode cX6_perform 69 = .ok (.getfield 58, 3) := by decide +kernel
theorem dX6_perform_72 : decode cX6_perform 72 = .ok (.ifCond .eq 20, 3) := by decide +kernel
theorem dX6_perform_75 : decode cX6_perform 75 = .ok (.aload_n 0, 1) := by decide +kernel
theorem dX6_perform_76 : decode cX6_perform 76 = .ok (.aload_n 1, 1) := by decide +kernel
theorem dX6_perform_77 : decode cX6_perform 77 = .ok (.aload_n 0, 1) := by decide +kernel
theorem dX6_perform_78 : decode cX6_perform 78 = .ok (.getfield 27, 3) := by decide +kernel
theorem dX6_perform_81 : decode cX6_perform 81 = .ok (.getfield 80, 3) := by decide +kernel
theorem dX6_perform_84 : decode cX6_perform 84 = .ok (.iload_n 2, 1) := by decide +kernel
theorem dX6_perform_85 : decode cX6_perform 85 = .ok (.aaload, 1) := by decide +kernel
theorem dX6_perform_86 : decode cX6_perform 86 = .ok (.invokevirtual 85, 3) := by decide +kernel
theorem dX6_perform_89 : decode cX6_perform 89 = .ok (.goto 90, 3) := by decide +kernel
theorem dX6_perform_92 : decode cX6_perform 92 = .ok (.aload_n 0, 1) := by decide +kernel
theorem dX6_perform_93 : decode cX6_perform 93 = .ok (.aload_n 1, 1) := by decide +kernel
theorem dX6_perform_94 : decode cX6_perform 94 = .ok (.invokevirtual 89, 3) := by decide +kernel
theorem dX6_perform_97 : decode cX6_perform 97 = .ok (.goto 82, 3) := by decide +kernel
theorem dX6_perform_100 : decode cX6_perform 100 = .ok (.aload_n 0, 1) := by decide +kernel
theorem dX6_perform_101 : decode cX6_perform 101 = .ok (.aload_n 1, 1) := by decide +kernel
theorem dX6_perform_102 : decode cX6_perform 102 = .ok (.getfield 92, 3) := by decide +kernel
theorem dX6_perform_105 : decode cX6_perform 105 = .ok (.invokevirtual 95, 3) := by decide +kernel
theorem dX6_perform_108 : decode cX6_perform 108 = .ok (.goto 71, 3) := by decide +kernel
theorem dX6_perform_111 : decode cX6_perform 111 = .ok (.aload_n 0, 1) := by decide +kernel
theorem dX6_perform_112 : decode cX6_perform 112 = .ok (.getfield 9, 3) := by decide +kernel
theorem dX6_perform_115 : decode cX6_perform 115 = .ok (.aload_n 1, 1) := by decide +kernel
theorem dX6_perform_116 : decode cX6_perform 116 = .ok (.getfield 99, 3) := by decide +kernel
theorem dX6_perform_119 : decode cX6_perform 119 = .ok (.aload_n 1, 1) := by decide +kernel
theorem dX6_perform_120 : decode cX6_perform 120 = .ok (.getfield 102, 3) := by decide +kernel
theorem dX6_perform_123 : decode cX6_perform 123 = .ok (.iastore, 1) := by decide +kernel
theorem dX6_perform_124 : decode cX6_perform 124 = .ok (.goto 55, 3) := by decide +kernel
theorem dX6_perform_127 : decode cX6_perform 127 = .ok (.aload_n 0, 1) := by decide +kernel
theorem dX6_perform_128 : decode cX6_perform 128 = .ok (.aload_n 1, 1) := by decide +kernel
theorem dX6_perform_129 : decode cX6_perform 129 = .ok (.iload_n 2, 1) := by decide +kernel
theorem dX6_perform_130 : decode cX6_perform 130 = .ok (.invokevirtual 105, 3) := by decide +kernel
theorem dX6_perform_133 : decode cX6_perform 133 = .ok (.goto 46, 3) := by decide +kernel
theorem dX6_perform_136 : decode cX6_perform 136 = .ok (.aload_n 0, 1) := by decide +kernel
theorem dX6_perform_137 : decode cX6_perform 137 = .ok (.getfield 9, 3) := by decide +kernel
theorem dX6_perform_140 : decode cX6_perform 140 = .ok (.aload_n 1, 1) := by decide +kernel
theorem dX6_perform_141 : decode cX6_perform 141 = .ok (.getfield 99, 3) := by decide +kernel
theorem dX6_perform_144 : decode cX6_perform 144 = .ok (.iaload, 1) := by decide +kernel
theorem dX6_perform_145 : decode cX6_perform 145 = .ok (.ifCond .ne 34, 3) := by decide +kernel
theorem dX6_perform_148 : decode cX6_perform 148 = .ok (.aload_n 0, 1) := by decide +kernel
theorem dX6_perform_149 : decode cX6_perform 149 = .ok (.iload_n 2, 1) := by decide +kernel
theorem dX6_perform_150 : decode cX6_perform 150 = .ok (.iconst 1, 1) := by decide +kernel
theorem dX6_perform_151 : decode cX6_perform 151 = .ok (.iadd, 1) := by decide +kernel
theorem dX6_perform_152 : decode cX6_perform 152 = .ok (.aload_n 1, 1) := by decide +kernel
theorem dX6_perform_153 : decode cX6_perform 153 = .ok (.getfield 102, 3) := by decide +kernel
theorem dX6_perform_156 : decode cX6_perform 156 = .ok (.iadd, 1) := by decide +kernel
theorem dX6_perform_157 : decode cX6_perform 157 = .ok (.putfield 44, 3) := by decide +kernel
theorem dX6_perform_160 : decode cX6_perform 160 = .ok (.goto 19, 3) := by decide +kernel
theorem dX6_perform_163 : decode cX6_perform 163 = .ok (.aload_n 0, 1) := by decide +kernel
theorem dX6_perform_164 : decode cX6_perform 164 = .ok (.aload_n 0, 1) := by decide +kernel
theorem dX6_perform_165 : decode cX6_perform 165 = .ok (.getfield 9, 3) := by decide +kernel
theorem dX6_perform_168 : decode cX6_perform 168 = .ok (.aload_n 1, 1) := by decide +kernel
theorem dX6_perform_169 : decode cX6_perform 169 = .ok (.getfield 99, 3) := by decide +kernel
theorem dX6_perform_172 : decode cX6_perform 172 = .ok (.iaload, 1) := by decide +kernel
theorem dX6_perform_173 : decode cX6_perform 173 = .ok (.invokevirtual 108, 3) := by decide +kernel
theorem dX6_perform_176 : decode cX6_perform 176 = .ok (.goto 3, 3) := by decide +kernel
theorem dX6_perform_179 : decode cX6_perform 179 = .ok (.return_, 1) := by decide +kernel
theorem dX6_store_0 : decode cX6_store 0 = .ok (.aload_n 0, 1) := by decide +kernel
theorem dX6_store_1 : decode cX6_store 1 = .ok (.getfield 27, 3) := by decide +kernel
theorem dX6_store_4 : decode cX6_store 4 = .ok (.aload_n 1, 1) := by decide +kernel
theorem dX6_store_5 : decode cX6_store 5 = .ok (.iconst 0, 1) := by decide +kernel
theorem dX6_store_6 : decode cX6_store 6 = .ok (.invokevirtual 111, 3) := by decide +kernel
theorem dX6_store_9 : decode cX6_store 9 = .ok (.astore_n 2, 1) := by decide +kernel
theorem dX6_store_10 : decode cX6_store 10 = .ok (.aload_n 0, 1) := by decide +kernel
theorem dX6_store_11 : decode cX6_store 11 = .ok (.getfield 58, 3) := by decide +kernel
theorem dX6_store_14 : decode cX6_store 14 = .ok (.ifCond .eq 11, 3) := by decide +kernel
theorem dX6_store_17 : decode cX6_store 17 = .ok (.aload_n 2, 1) := by decide +kernel
theorem dX6_store_18 : decode cX6_store 18 = .ok (.getfield 115, 3) := by decide +kernel
theorem dX6_store_21 : decode cX6_store 21 = .ok (.ifCond .ne 4, 3) := by decide +kernel
theorem dX6_store_24 : decode cX6_store 24 = .ok (.return_, 1) := by decide +kernel
theorem dX6_store_25 : decode cX6_store 25 = .ok (.aload_n 0, 1) := by decide +kernel
theorem dX6_store_26 : decode cX6_store 26 = .ok (.getfield 9, 3) := by decide +kernel
theorem dX6_store_29 : decode cX6_store 29 = .ok (.aload_n 1, 1) := by decide +kernel
theorem dX6_store_30 : decode cX6_store 30 = .ok (.getfield 99, 3) := by decide +kernel
theorem dX6_store_33 : decode cX6_store 33 = .ok (.iaload, 1) := by decide +kernel
theorem dX6_store_34 : decode cX6_store 34 = .ok (.istore_n 3, 1) := by decide +kernel
theorem dX6_store_35 : decode cX6_store 35 = .ok (.iconst 0, 1) := by decide +kernel
theorem dX6_store_36 : decode cX6_store 36 = .ok (.istore 4, 2) := by decide +kernel
theorem dX6_store_38 : decode cX6_store 38 = .ok (.iload 4, 2) := by decide +kernel
theorem dX6_store_40 : decode cX6_store 40 = .ok (.aload_n 1, 1) := by decide +kernel
theorem dX6_store_41 : decode cX6_store 41 = .ok (.getfield 120, 3) := by decide +kernel
theorem dX6_store_44 : decode cX6_store 44 = .ok (.if_icmp .ge 37, 3) := by decide +kernel
theorem dX6_store_47 : decode cX6_store 47 = .ok (.aload_n 0, 1) := by decide +kernel
theorem dX6_store_48 : decode cX6_store 48 = .ok (.getfield 17, 3) := by decide +kernel
theorem dX6_store_51 : decode cX6_store 51 = .ok (.aload_n 1, 1) := by decide +kernel
theorem dX6_store_52 : decode cX6_store 52 = .ok (.getfield 92, 3) := by decide +kernel
theorem dX6_store_55 : decode cX6_store 55 = .ok (.aaload, 1) := by decide +kernel
theorem dX6_store_56 : decode cX6_store 56 = .ok (.aload_n 1, 1) := by decide +kernel
theorem dX6_store_57 : decode cX6_store 57 = .ok (.getfield 123, 3) := by decide +kernel
theorem dX6_store_60 : decode cX6_store 60 = .ok (.iload 4, 2) := by decide +kernel
theorem dX6_store_62 : decode cX6_store 62 = .ok (.iadd, 1) := by decide +kernel
theorem dX6_store_63 : decode cX6_store 63 = .ok (.iload_n 3, 1) := by decide +kernel
theorem dX6_store_64 : decode cX6_store 64 = .ok (.bipush 8, 2) := by decide +kernel
theorem dX6_store_66 : decode cX6_store 66 = .ok (.iload 4, 2) := by decide +kernel
theorem dX6_store_68 : decode cX6_store 68 = .ok (.imul, 1) := by decide +kernel
theorem dX6_store_69 : decode cX6_store 69 = .ok (.iushr, 1) := by decide +kernel
theorem dX6_store_70 : decode cX6_store 70 = .ok (.sipush 255, 3) := by decide +kernel
theorem dX6_store_73 : decode cX6_store 73 = .ok (.iand, 1) := by decide +kernel
theorem dX6_store_74 : decode cX6_store 74 = .ok (.iastore, 1) := by decide +kernel
theorem dX6_store_75 : decode cX6_store 75 = .ok (.iinc 4 1, 3) := by decide +kernel
theorem dX6_store_78 : decode cX6_store 78 = .ok (.goto (-40), 3) := by decide +kernel
theorem dX6_store_81 : decode cX6_store 81 = .ok (.aload_n 0, 1) := by decide +kernel
theorem dX6_store_82 : decode cX6_store 82 = .ok (.dup, 1) := by decide +kernel
theorem dX6_store_83 : decode cX6_store 83 = .ok (.getfield 65, 3) := by decide +kernel
theorem dX6_store_86 : decode cX6_store 86 = .ok (.aload_n 0, 1) := by decide +kernel
theorem dX6_store_87 : decode cX6_store 87 = .ok (.aload_n 2, 1) := by decide +kernel
theorem dX6_store_88 : decode cX6_store 88 = .ok (.invokevirtual 126, 3) := by decide +kernel
theorem dX6_store_91 : decode cX6_store 91 = .ok (.iadd, 1) := by decide +kernel
theorem dX6_store_92 : decode cX6_store 92 = .ok (.putfield 65, 3) := by decide +kernel
theorem dX6_store_95 : decode cX6_store 95 = .ok (.return_, 1) := by decide +kernel
theorem dX6_load_0 : decode cX6_load 0 = .ok (.iconst 0, 1) := by decide +kernel
theorem dX6_load_1 : decode cX6_load 1 = .ok (.istore_n 2, 1) := by decide +kernel
theorem dX6_load_2 : decode cX6_load 2 = .ok (.iconst 0, 1) := by decide +kernel
theorem dX6_load_3 : decode cX6_load 3 = .ok (.istore_n 3, 1) := by decide +kernel
theorem dX6_load_4 : decode cX6_load 4 = .ok (.iload_n 3, 1) := by decide +kernel
theorem dX6_load_5 : decode cX6_load 5 = .ok (.aload_n 1, 1) := by decide +kernel
theorem dX6_load_6 : decode cX6_load 6 = .ok (.getfield 120, 3) := by decide +kernel
theorem dX6_load_9 : decode cX6_load 9 = .ok (.if_icmp .ge 33, 3) := by decide +kernel
theorem dX6_load_12 : decode cX6_load 12 = .ok (.iload_n 2, 1) := by decide +kernel
theorem dX6_load_13 : decode cX6_load 13 = .ok (.aload_n 0, 1) := by decide +kernel
theorem dX6_load_14 : decode cX6_load 14 = .ok (.getfield 17, 3) := by decide +kernel
theorem dX6_load_17 : decode cX6_load 17 = .ok (.aload_n 1, 1) := by decide +kernel
theorem dX6_load_18 : decode cX6_load 18 = .ok (.getfield 92, 3) := by decide +kernel
theorem dX6_load_21 : decode cX6_load 21 = .ok (.aaload, 1) := by decide +kernel
theorem dX6_load_22 : decode cX6_load 22 = .ok (.aload_n 1, 1) := by decide +kernel
theorem dX6_load_23 : decode cX6_load 23 = .ok (.getfield 123, 3) := by decide +kernel
theorem dX6_load_26 : decode cX6_load 26 = .ok (.iload_n 3, 1) := by decide +kernel
theorem dX6_load_27 : decode cX6_load 27 = .ok (.iadd, 1) := by decide +kernel
theorem dX6_load_28 : decode cX6_load 28 = .ok (.iaload, 1) := by decide +kernel
theorem dX6_load_29 : decode cX6_load 29 = .ok (.bipush 8, 2) := by decide +kernel
theorem dX6_load_31 : decode cX6_load 31 = .ok (.iload_n 3, 1) := by decide +kernel
theorem dX6_load_32 : decode cX6_load 32 = .ok (.imul, 1) := by decide +kernel
theorem dX6_load_33 : decode cX6_load 33 = .ok (.ishl, 1) := by decide +kernel
theorem dX6_load_34 : decode cX6_load 34 = .ok (.ior, 1) := by decide +kernel
theorem dX6_load_35 : decode cX6_load 35 = .ok (.istore_n 2, 1) := by decide +kernel
theorem dX6_load_36 : decode cX6_load 36 = .ok (.iinc 3 1, 3) := by decide +kernel
theorem dX6_load_39 : decode cX6_load 39 = .ok (.goto (-35), 3) := by decide +kernel
theorem dX6_load_42 : decode cX6_load 42 = .ok (.aload_n 0, 1) := by decide +kernel
theorem dX6_load_43 : decode cX6_load 43 = .ok (.getfield 9, 3) := by decide +kernel
theorem dX6_load_46 : decode cX6_load 46 = .ok (.aload_n 1, 1) := by decide +kernel
theorem dX6_load_47 : decode cX6_load 47 = .ok (.getfield 99, 3) := by decide +kernel
theorem dX6_load_50 : decode cX6_load 50 = .ok (.iload_n 2, 1) := by decide +kernel
theorem dX6_load_51 : decode cX6_load 51 = .ok (.iastore, 1) := by decide +kernel
theorem dX6_load_52 : decode cX6_load 52 = .ok (.aload_n 0, 1) := by decide +kernel
theorem dX6_load_53 : decode cX6_load 53 = .ok (.dup, 1) := by decide +kernel
theorem dX6_load_54 : decode cX6_load 54 = .ok (.getfield 65, 3) := by decide +kernel
theorem dX6_load_57 : decode cX6_load 57 = .ok (.aload_n 0, 1) := by decide +kernel
theorem dX6_load_58 : decode cX6_load 58 = .ok (.aload_n 0, 1) := by decide +kernel
theorem dX6_load_59 : decode cX6_load 59 = .ok (.getfield 27, 3) := by decide +kernel
theorem dX6_load_62 : decode cX6_load 62 = .ok (.aload_n 1, 1) := by decide +kernel
theorem dX6_load_63 : decode cX6_load 63 = .ok (.iconst 0, 1) := by decide +kernel
theorem dX6_load_64 : decode cX6_load 64 = .ok (.invokevirtual 111, 3) := by decide +kernel
theorem dX6_load_67 : decode cX6_load 67 = .ok (.invokevirtual 126, 3) := by decide +kernel
theorem dX6_load_70 : decode cX6_load 70 = .ok (.iadd, 1) := by decide +kernel
theorem dX6_load_71 : decode cX6_load 71 = .ok (.putfield 65, 3) := by decide +kernel
theorem dX6_load_74 : decode cX6_load 74 = .ok (.return_, 1) := by decide +kernel
theorem dX6_priceOfAccess_0 : decode cX6_priceOfAccess 0 = .ok (.aload_n 0, 1) := by decide +kernel
theorem dX6_priceOfAccess_1 : decode cX6_priceOfAccess 1 = .ok (.getfield 58, 3) := by decide +kernel
theorem dX6_priceOfAccess_4 : decode cX6_priceOfAccess 4 = .ok (.ifCond .eq 14, 3) := by decide +kernel
theorem dX6_priceOfAccess_7 : decode cX6_priceOfAccess 7 = .ok (.aload_n 1, 1) := by decide +kernel
theorem dX6_priceOfAccess_8 : decode cX6_priceOfAccess 8 = .ok (.getfield 130, 3) := by decide +kernel
theorem dX6_priceOfAccess_11 : decode cX6_priceOfAccess 11 = .ok (.ifCond .eq 7, 3) := by decide +kernel
theorem dX6_priceOfAccess_14 : decode cX6_priceOfAccess 14 = .ok (.iconst 0, 1) := by decide +kernel
theorem dX6_priceOfAccess_15 : decode cX6_priceOfAccess 15 = .ok (.goto 4, 3) := by decide +kernel
theorem dX6_priceOfAccess_18 : decode cX6_priceOfAccess 18 = .ok (.iconst 1, 1) := by decide +kernel
theorem dX6_priceOfAccess_19 : decode cX6_priceOfAccess 19 = .ok (.ireturn, 1) := by decide +kernel
theorem dX6_copyWhole_0 : decode cX6_copyWhole 0 = .ok (.aload_n 0, 1) := by decide +kernel
theorem dX6_copyWhole_1 : decode cX6_copyWhole 1 = .ok (.aload_n 1, 1) := by decide +kernel
theorem dX6_copyWhole_2 : decode cX6_copyWhole 2 = .ok (.iconst 0, 1) := by decide +kernel
theorem dX6_copyWhole_3 : decode cX6_copyWhole 3 = .ok (.aload_n 1, 1) := by decide +kernel
theorem dX6_copyWhole_4 : decode cX6_copyWhole 4 = .ok (.getfield 120, 3) := by decide +kernel
theorem dX6_copyWhole_7 : decode cX6_copyWhole 7 = .ok (.invokevirtual 133, 3) := by decide +kernel
theorem dX6_copyWhole_10 : decode cX6_copyWhole 10 = .ok (.aload_n 0, 1) := by decide +kernel
theorem dX6_copyWhole_11 : decode cX6_copyWhole 11 = .ok (.dup, 1) := by decide +kernel
theorem dX6_copyWhole_12 : decode cX6_copyWhole 12 = .ok (.getfield 65, 3) := by decide +kernel
theorem dX6_copyWhole_15 : decode cX6_copyWhole 15 = .ok (.aload_n 1, 1) := by decide +kernel
theorem dX6_copyWhole_16 : decode cX6_copyWhole 16 = .ok (.getfield 120, 3) := by decide +kernel
theorem dX6_copyWhole_19 : decode cX6_copyWhole 19 = .ok (.iadd, 1) := by decide +kernel
theorem dX6_copyWhole_20 : decode cX6_copyWhole 20 = .ok (.putfield 65, 3) := by decide +kernel
theorem dX6_copyWhole_23 : decode cX6_copyWhole 23 = .ok (.return_, 1) := by decide +kernel
theorem dX6_copyLivePieces_0 : decode cX6_copyLivePieces 0 = .ok (.iconst 0, 1) := by decide +kernel
theorem dX6_copyLivePieces_1 : decode cX6_copyLivePieces 1 = .ok (.istore_n 3, 1) := by decide +kernel
theorem dX6_copyLivePieces_2 : decode cX6_copyLivePieces 2 = .ok (.iload_n 3, 1) := by decide +kernel
theorem dX6_copyLivePieces_3 : decode cX6_copyLivePieces 3 = .ok (.aload_n 1, 1) := by decide +kernel
theorem dX6_copyLivePieces_4 : decode cX6_copyLivePieces 4 = .ok (.getfield 120, 3) := by decide +kernel
theorem dX6_copyLivePieces_7 : decode cX6_copyLivePieces 7 = .ok (.if_icmp .ge 69, 3) := by decide +kernel
theorem dX6_copyLivePieces_10 : decode cX6_copyLivePieces 10 = .ok (.aload_n 0, 1) := by decide +kernel
theorem dX6_copyLivePieces_11 : decode cX6_copyLivePieces 11 = .ok (.getfield 27, 3) := by decide +kernel
theorem dX6_copyLivePieces_14 : decode cX6_copyLivePieces 14 = .ok (.aload_n 1, 1) := by decide +kernel
theorem dX6_copyLivePieces_15 : decode cX6_copyLivePieces 15 = .ok (.iload_n 3, 1) := by decide +kernel
theorem dX6_copyLivePieces_16 : decode cX6_copyLivePieces 16 = .ok (.invokevirtual 111, 3) := by decide +kernel
theorem dX6_copyLivePieces_19 : decode cX6_copyLivePieces 19 = .ok (.astore 4, 2) := by decide +kernel
theorem dX6_copyLivePieces_21 : decode cX6_copyLivePieces 21 = .ok (.aload_n 2, 1) := by decide +kernel
theorem dX6_copyLivePieces_22 : decode cX6_copyLivePieces 22 = .ok (.iload_n 3, 1) := by decide +kernel
theorem dX6_copyLivePieces_23 : decode cX6_copyLivePieces 23 = .ok (.iaload, 1) := by decide +kernel
theorem dX6_copyLivePieces_24 : decode cX6_copyLivePieces 24 = .ok (.ifCond .le 46, 3) := by decide +kernel
theorem dX6_copyLivePieces_27 : decode cX6_copyLivePieces 27 = .ok (.aload 4, 2) := by decide +kernel
theorem dX6_copyLivePieces_29 : decode cX6_copyLivePieces 29 = .ok (.getfield 115, 3) := by decide +kernel
theorem dX6_copyLivePieces_32 : decode cX6_copyLivePieces 32 = .ok (.ifCond .eq 38, 3) := by decide +kernel
theorem dX6_copyLivePieces_35 : decode cX6_copyLivePieces 35 = .ok (.aload_n 0, 1) := by decide +kernel
theorem dX6_copyLivePieces_36 : decode cX6_copyLivePieces 36 = .ok (.aload_n 1, 1) := by decide +kernel
theorem dX6_copyLivePieces_37 : decode cX6_copyLivePieces 37 = .ok (.iload_n 3, 1) := by decide +kernel
theorem dX6_copyLivePieces_38 : decode cX6_copyLivePieces 38 = .ok (.aload_n 2, 1) := by decide +kernel
theorem dX6_copyLivePieces_39 : decode cX6_copyLivePieces 39 = .ok (.iload_n 3, 1) := by decide +kernel
theorem dX6_copyLivePieces_40 : decode cX6_copyLivePieces 40 = .ok (.iaload, 1) := by decide +kernel
theorem dX6_copyLivePieces_41 : decode cX6_copyLivePieces 41 = .ok (.invokevirtual 133, 3) := by decide +kernel
theorem dX6_copyLivePieces_44 : decode cX6_copyLivePieces 44 = .ok (.aload_n 0, 1) := by decide +kernel
theorem dX6_copyLivePieces_45 : decode cX6_copyLivePieces 45 = .ok (.dup, 1) := by decide +kernel
theorem dX6_copyLivePieces_46 : decode cX6_copyLivePieces 46 = .ok (.getfield 65, 3) := by decide +kernel
theorem dX6_copyLivePieces_49 : decode cX6_copyLivePieces 49 = .ok (.aload 4, 2) := by decide +kernel
theorem dX6_copyLivePieces_51 : decode cX6_copyLivePieces 51 = .ok (.aload_n 0, 1) := by decide +kernel
theorem dX6_copyLivePieces_52 : decode cX6_copyLivePieces 52 = .ok (.getfield 27, 3) := by decide +kernel
theorem dX6_copyLivePieces_55 : decode cX6_copyLivePieces 55 = .ok (.aload_n 1, 1) := by decide +kernel
theorem dX6_copyLivePieces_56 : decode cX6_copyLivePieces 56 = .ok (.iload_n 3, 1) := by decide +kernel
theorem dX6_copyLivePieces_57 : decode cX6_copyLivePieces 57 = .ok (.invokevirtual 137, 3) := by decide +kernel
theorem dX6_copyLivePieces_60 : decode cX6_copyLivePieces 60 = .ok (.aload_n 2, 1) := by decide +kernel
theorem dX6_copyLivePieces_61 : decode cX6_copyLivePieces 61 = .ok (.iload_n 3, 1) := by decide +kernel
theorem dX6_copyLivePieces_62 : decode cX6_copyLivePieces 62 = .ok (.iaload, 1) := by decide +kernel
theorem dX6_copyLivePieces_63 : decode cX6_copyLivePieces 63 = .ok (.invokestatic 140, 3) := by decide +kernel
theorem dX6_copyLivePieces_66 : decode cX6_copyLivePieces 66 = .ok (.iadd, 1) := by decide +kernel
theorem dX6_copyLivePieces_67 : decode cX6_copyLivePieces 67 = .ok (.putfield 65, 3) := by decide +kernel
theorem dX6_copyLivePieces_70 : decode cX6_copyLivePieces 70 = .ok (.iinc 3 1, 3) := by decide +kernel
theorem dX6_copyLivePieces_73 : decode cX6_copyLivePieces 73 = .ok (.goto (-71), 3) := by decide +kernel
theorem dX6_copyLivePieces_76 : decode cX6_copyLivePieces 76 = .ok (.return_, 1) := by decide +kernel
theorem dX6_priceOfPiece_0 : decode cX6_priceOfPiece 0 = .ok (.aload_n 0, 1) := by decide +kernel
theorem dX6_priceOfPiece_1 : decode cX6_priceOfPiece 1 = .ok (.getfield 130, 3) := by decide +kernel
theorem dX6_priceOfPiece_4 : decode cX6_priceOfPiece 4 = .ok (.ifCond .eq 12, 3) := by decide +kernel
theorem dX6_priceOfPiece_7 : decode cX6_priceOfPiece 7 = .ok (.aload_n 1, 1) := by decide +kernel
theorem dX6_priceOfPiece_8 : decode cX6_priceOfPiece 8 = .ok (.getfield 130, 3) := by decide +kernel
theorem dX6_priceOfPiece_11 : decode cX6_priceOfPiece 11 = .ok (.ifCond .eq 5, 3) := by decide +kernel
theorem dX6_priceOfPiece_14 : decode cX6_priceOfPiece 14 = .ok (.iconst 0, 1) := by decide +kernel
theorem dX6_priceOfPiece_15 : decode cX6_priceOfPiece 15 = .ok (.ireturn, 1) := by decide +kernel
theorem dX6_priceOfPiece_16 : decode cX6_priceOfPiece 16 = .ok (.aload_n 0, 1) := by decide +kernel
theorem dX6_priceOfPiece_17 : decode cX6_priceOfPiece 17 = .ok (.getfield 130, 3) := by decide +kernel
theorem dX6_priceOfPiece_20 : decode cX6_priceOfPiece 20 = .ok (.ifCond .ne 10, 3) := by decide +kernel
theorem dX6_priceOfPiece_23 : decode cX6_priceOfPiece 23 = .ok (.aload_n 1, 1) := by decide +kernel
theorem dX6_priceOfPiece_24 : decode cX6_priceOfPiece 24 = .ok (.getfield 130, 3) := by decide +kernel
theorem dX6_priceOfPiece_27 : decode cX6_priceOfPiece 27 = .ok (.ifCond .eq 7, 3) := by decide +kernel
theorem dX6_priceOfPiece_30 : decode cX6_priceOfPiece 30 = .ok (.iconst 1, 1) := by decide +kernel
theorem dX6_priceOfPiece_31 : decode cX6_priceOfPiece 31 = .ok (.goto 4, 3) := by decide +kernel
theorem dX6_priceOfPiece_34 : decode cX6_priceOfPiece 34 = .ok (.iload_n 2, 1) := by decide +kernel
theorem dX6_priceOfPiece_35 : decode cX6_priceOfPiece 35 = .ok (.ireturn, 1) := by decide +kernel
theorem dX6_moveBytes_0 : decode cX6_moveBytes 0 = .ok (.iload_n 2, 1) := by decide +kernel
theorem dX6_moveBytes_1 : decode cX6_moveBytes 1 = .ok (.istore 4, 2) := by decide +kernel
theorem dX6_moveBytes_3 : decode cX6_moveBytes 3 = .ok (.iload 4, 2) := by decide +kernel
theorem dX6_moveBytes_5 : decode cX6_moveBytes 5 = .ok (.iload_n 2, 1) := by decide +kernel
theorem dX6_moveBytes_6 : decode cX6_moveBytes 6 = .ok (.iload_n 3, 1) := by decide +kernel
theorem dX6_moveBytes_7 : decode cX6_moveBytes 7 = .ok (.iadd, 1) := by decide +kernel
theorem dX6_moveBytes_8 : decode cX6_moveBytes 8 = .ok (.if_icmp .ge 43, 3) := by decide +kernel
theorem dX6_moveBytes_11 : decode cX6_moveBytes 11 = .ok (.aload_n 0, 1) := by decide +kernel
theorem dX6_moveBytes_12 : decode cX6_moveBytes 12 = .ok (.getfield 17, 3) := by decide +kernel
theorem dX6_moveBytes_15 : decode cX6_moveBytes 15 = .ok (.aload_n 1, 1) := by decide +kernel
theorem dX6_moveBytes_16 : decode cX6_moveBytes 16 = .ok (.getfield 92, 3) := by decide +kernel
theorem dX6_moveBytes_19 : decode cX6_moveBytes 19 = .ok (.aaload, 1) := by decide +kernel
theorem dX6_moveBytes_20 : decode cX6_moveBytes 20 = .ok (.aload_n 1, 1) := by decide +kernel
theorem dX6_moveBytes_21 : decode cX6_moveBytes 21 = .ok (.getfield 123, 3) := by decide +kernel
theorem dX6_moveBytes_24 : decode cX6_moveBytes 24 = .ok (.iload 4, 2) := by decide +kernel
theorem dX6_moveBytes_26 : decode cX6_moveBytes 26 = .ok (.iadd, 1) := by decide +kernel
theorem dX6_moveBytes_27 : decode cX6_moveBytes 27 = .ok (.aload_n 0, 1) := by decide +kernel
theorem dX6_moveBytes_28 : decode cX6_moveBytes 28 = .ok (.getfield 17, 3) := by decide +kernel
theorem dX6_moveBytes_31 : decode cX6_moveBytes 31 = .ok (.aload_n 1, 1) := by decide +kernel
theorem dX6_moveBytes_32 : decode cX6_moveBytes 32 = .ok (.getfield 144, 3) := by decide +kernel
theorem dX6_moveBytes_35 : decode cX6_moveBytes 35 = .ok (.aaload, 1) := by decide +kernel
theorem dX6_moveBytes_36 : decode cX6_moveBytes 36 = .ok (.aload_n 1, 1) := by decide +kernel
theorem dX6_moveBytes_37 : decode cX6_moveBytes 37 = .ok (.getfield 147, 3) := by decide +kernel
theorem dX6_moveBytes_40 : decode cX6_moveBytes 40 = .ok (.iload 4, 2) := by decide +kernel
theorem dX6_moveBytes_42 : decode cX6_moveBytes 42 = .ok (.iadd, 1) := by decide +kernel
theorem dX6_moveBytes_43 : decode cX6_moveBytes 43 = .ok (.iaload, 1) := by decide +kernel
theorem dX6_moveBytes_44 : decode cX6_moveBytes 44 = .ok (.iastore, 1) := by decide +kernel
theorem dX6_moveBytes_45 : decode cX6_moveBytes 45 = .ok (.iinc 4 1, 3) := by decide +kernel
theorem dX6_moveBytes_48 : decode cX6_moveBytes 48 = .ok (.goto (-45), 3) := by decide +kernel
theorem dX6_moveBytes_51 : decode cX6_moveBytes 51 = .ok (.return_, 1) := by decide +kernel
theorem dX6_escape_0 : decode cX6_escape 0 = .ok (.aload_n 0, 1) := by decide +kernel
theorem dX6_escape_1 : decode cX6_escape 1 = .ok (.getfield 23, 3) := by decide +kernel
theorem dX6_escape_4 : decode cX6_escape 4 = .ok (.iload_n 1, 1) := by decide +kernel
theorem dX6_escape_5 : decode cX6_escape 5 = .ok (.invokevirtual 150, 3) := by decide +kernel
theorem dX6_escape_8 : decode cX6_escape 8 = .ok (.istore_n 2, 1) := by decide +kernel
theorem dX6_escape_9 : decode cX6_escape 9 = .ok (.iconst 0, 1) := by decide +kernel
theorem dX6_escape_10 : decode cX6_escape 10 = .ok (.istore_n 3, 1) := by decide +kernel
theorem dX6_escape_11 : decode cX6_escape 11 = .ok (.iload_n 3, 1) := by decide +kernel
theorem dX6_escape_12 : decode cX6_escape 12 = .ok (.iload_n 2, 1) := by decide +kernel
theorem dX6_escape_13 : decode cX6_escape 13 = .ok (.if_icmp .ge 29, 3) := by decide +kernel
theorem dX6_escape_16 : decode cX6_escape 16 = .ok (.aload_n 0, 1) := by decide +kernel
theorem dX6_escape_17 : decode cX6_escape 17 = .ok (.bipush 31, 2) := by decide +kernel
theorem dX6_escape_19 : decode cX6_escape 19 = .ok (.aload_n 0, 1) := by decide +kernel
theorem dX6_escape_20 : decode cX6_escape 20 = .ok (.getfield 62, 3) := by decide +kernel
theorem dX6_escape_23 : decode cX6_escape 23 = .ok (.imul, 1) := by decide +kernel
theorem dX6_escape_24 : decode cX6_escape 24 = .ok (.aload_n 0, 1) := by decide +kernel
theorem dX6_escape_25 : decode cX6_escape 25 = .ok (.getfield 17, 3) := by decide +kernel
theorem dX6_escape_28 : decode cX6_escape 28 = .ok (.iload_n 1, 1) := by decide +kernel
theorem dX6_escape_29 : decode cX6_escape 29 = .ok (.aaload, 1) := by decide +kernel
theorem dX6_escape_30 : decode cX6_escape 30 = .ok (.iload_n 3, 1) := by decide +kernel
theorem dX6_escape_31 : decode cX6_escape 31 = .ok (.iaload, 1) := by decide +kernel
theorem dX6_escape_32 : decode cX6_escape 32 = .ok (.iadd, 1) := by decide +kernel
theorem dX6_escape_33 : decode cX6_escape 33 = .ok (.putfield 62, 3) := by decide +kernel
theorem dX6_escape_36 : decode cX6_escape 36 = .ok (.iinc 3 1, 3) := by decide +kernel
theorem dX6_escape_39 : decode cX6_escape 39 = .ok (.goto (-28), 3) := by decide +kernel
theorem dX6_escape_42 : decode cX6_escape 42 = .ok (.aload_n 0, 1) := by decide +kernel
theorem dX6_escape_43 : decode cX6_escape 43 = .ok (.getfield 17, 3) := by decide +kernel
theorem dX6_escape_46 : decode cX6_escape 46 = .ok (.iload_n 1, 1) := by decide +kernel
theorem dX6_escape_47 : decode cX6_escape 47 = .ok (.aaload, 1) := by decide +kernel
theorem dX6_escape_48 : decode cX6_escape 48 = .ok (.iconst 0, 1) := by decide +kernel
theorem dX6_escape_49 : decode cX6_escape 49 = .ok (.aload_n 0, 1) := by decide +kernel
theorem dX6_escape_50 : decode cX6_escape 50 = .ok (.getfield 17, 3) := by decide +kernel
theorem dX6_escape_53 : decode cX6_escape 53 = .ok (.iload_n 1, 1) := by decide +kernel
theorem dX6_escape_54 : decode cX6_escape 54 = .ok (.aaload, 1) := by decide +kernel
theorem dX6_escape_55 : decode cX6_escape 55 = .ok (.iconst 0, 1) := by decide +kernel
theorem dX6_escape_56 : decode cX6_escape 56 = .ok (.iaload, 1) := by decide +kernel
theorem dX6_escape_57 : decode cX6_escape 57 = .ok (.iconst 1, 1) := by decide +kernel
theorem dX6_escape_58 : decode cX6_escape 58 = .ok (.iadd, 1) := by decide +kernel
theorem dX6_escape_59 : decode cX6_escape 59 = .ok (.sipush 255, 3) := by decide +kernel
theorem dX6_escape_62 : decode cX6_escape 62 = .ok (.iand, 1) := by decide +kernel
theorem dX6_escape_63 : decode cX6_escape 63 = .ok (.iastore, 1) := by decide +kernel
theorem dX6_escape_64 : decode cX6_escape 64 = .ok (.aload_n 0, 1) := by decide +kernel
theorem dX6_escape_65 : decode cX6_escape 65 = .ok (.dup, 1) := by decide +kernel
theorem dX6_escape_66 : decode cX6_escape 66 = .ok (.getfield 65, 3) := by decide +kernel
theorem dX6_escape_69 : decode cX6_escape 69 = .ok (.iload_n 2, 1) := by decide +kernel
theorem dX6_escape_70 : decode cX6_escape 70 = .ok (.iadd, 1) := by decide +kernel
theorem dX6_escape_71 : decode cX6_escape 71 = .ok (.putfield 65, 3) := by decide +kernel
theorem dX6_escape_74 : decode cX6_escape 74 = .ok (.return_, 1) := by decide +kernel
theorem dX6_add_0 : decode cX6_add 0 = .ok (.aload_n 0, 1) := by decide +kernel
theorem dX6_add_1 : decode cX6_add 1 = .ok (.getfield 9, 3) := by decide +kernel
theorem dX6_add_4 : decode cX6_add 4 = .ok (.aload_n 1, 1) := by decide +kernel
theorem dX6_add_5 : decode cX6_add 5 = .ok (.getfield 154, 3) := by decide +kernel
theorem dX6_add_8 : decode cX6_add 8 = .ok (.iaload, 1) := by decide +kernel
theorem dX6_add_9 : decode cX6_add 9 = .ok (.i2l, 1) := by decide +kernel
theorem dX6_add_10 : decode cX6_add 10 = .ok (.aload_n 0, 1) := by decide +kernel
theorem dX6_add_11 : decode cX6_add 11 = .ok (.getfield 9, 3) := by decide +kernel
theorem dX6_add_14 : decode cX6_add 14 = .ok (.aload_n 1, 1) := by decide +kernel
theorem dX6_add_15 : decode cX6_add 15 = .ok (.getfield 157, 3) := by decide +kernel
theorem dX6_add_18 : decode cX6_add 18 = .ok (.iaload, 1) := by decide +kernel
theorem dX6_add_19 : decode cX6_add 19 = .ok (.i2l, 1) := by decide +kernel
theorem dX6_add_20 : decode cX6_add 20 = .ok (.ladd, 1) := by decide +kernel
theorem dX6_add_21 : decode cX6_add 21 = .ok (.lstore_n 3, 1) := by decide +kernel
theorem dX6_add_22 : decode cX6_add 22 = .ok (.lload_n 3, 1) := by decide +kernel
theorem dX6_add_23 : decode cX6_add 23 = .ok (.lload_n 3, 1) := by decide +kernel
theorem dX6_add_24 : decode cX6_add 24 = .ok (.l2i, 1) := by decide +kernel
theorem dX6_add_25 : decode cX6_add 25 = .ok (.i2l, 1) := by decide +kernel
theorem dX6_add_26 : decode cX6_add 26 = .ok (.lcmp, 1) := by decide +kernel
theorem dX6_add_27 : decode cX6_add 27 = .ok (.ifCond .ne 17, 3) := by decide +kernel
theorem dX6_add_30 : decode cX6_add 30 = .ok (.aload_n 0, 1) := by decide +kernel
theorem dX6_add_31 : decode cX6_add 31 = .ok (.getfield 9, 3) := by decide +kernel
theorem dX6_add_34 : decode cX6_add 34 = .ok (.aload_n 1, 1) := by decide +kernel
theorem dX6_add_35 : decode cX6_add 35 = .ok (.getfield 99, 3) := by decide +kernel
theorem dX6_add_38 : decode cX6_add 38 = .ok (.lload_n 3, 1) := by decide +kernel
theorem dX6_add_39 : decode cX6_add 39 = .ok (.l2i, 1) := by decide +kernel
theorem dX6_add_40 : decode cX6_add 40 = .ok (.iastore, 1) := by decide +kernel
theorem dX6_add_41 : decode cX6_add 41 = .ok (.goto 8, 3) := by decide +kernel
theorem dX6_add_44 : decode cX6_add 44 = .ok (.aload_n 0, 1) := by decide +kernel
theorem dX6_add_45 : decode cX6_add 45 = .ok (.iload_n 2, 1) := by decide +kernel
theorem dX6_add_46 : decode cX6_add 46 = .ok (.putfield 41, 3) := by decide +kernel
theorem dX6_add_49 : decode cX6_add 49 = .ok (.return_, 1) := by decide +kernel
theorem dX6_output_0 : decode cX6_output 0 = .ok (.aload_n 0, 1) := by decide +kernel
theorem dX6_output_1 : decode cX6_output 1 = .ok (.getfield 55, 3) := by decide +kernel
theorem dX6_output_4 : decode cX6_output 4 = .ok (.bipush 24, 2) := by decide +kernel
theorem dX6_output_6 : decode cX6_output 6 = .ok (.if_icmp .ge 23, 3) := by decide +kernel
theorem dX6_output_9 : decode cX6_output 9 = .ok (.aload_n 0, 1) := by decide +kernel
theorem dX6_output_10 : decode cX6_output 10 = .ok (.getfield 20, 3) := by decide +kernel
theorem dX6_output_13 : decode cX6_output 13 = .ok (.aload_n 0, 1) := by decide +kernel
theorem dX6_output_14 : decode cX6_output 14 = .ok (.getfield 55, 3) := by decide +kernel
theorem dX6_output_17 : decode cX6_output 17 = .ok (.iload_n 1, 1) := by decide +kernel
theorem dX6_output_18 : decode cX6_output 18 = .ok (.iastore, 1) := by decide +kernel
theorem dX6_output_19 : decode cX6_output 19 = .ok (.aload_n 0, 1) := by decide +kernel
theorem dX6_output_20 : decode cX6_output 20 = .ok (.dup, 1) := by decide +kernel
theorem dX6_output_21 : decode cX6_output 21 = .ok (.getfield 55, 3) := by decide +kernel
theorem dX6_output_24 : decode cX6_output 24 = .ok (.iconst 1, 1) := by decide +kernel
theorem dX6_output_25 : decode cX6_output 25 = .ok (.iadd, 1) := by decide +kernel
theorem dX6_output_26 : decode cX6_output 26 = .ok (.putfield 55, 3) := by decide +kernel
theorem dX6_output_29 : decode cX6_output 29 = .ok (.return_, 1) := by decide +kernel
theorem dX7_init_0 : decode cX7_init 0 = .ok (.aload_n 0, 1) := by decide +kernel
theorem dX7_init_1 : decode cX7_init 1 = .ok (.invokespecial 1, 3) := by decide +kernel
theorem dX7_init_4 : decode cX7_init 4 = .ok (.aload_n 0, 1) := by decide +kernel
theorem dX7_init_5 : decode cX7_init 5 = .ok (.new 7, 3) := by decide +kernel
theorem dX7_init_8 : decode cX7_init 8 = .ok (.dup, 1) := by decide +kernel
theorem dX7_init_9 : decode cX7_init 9 = .ok (.invokespecial 9, 3) := by decide +kernel
theorem dX7_init_12 : decode cX7_init 12 = .ok (.putfield 10, 3) := by decide +kernel
theorem dX7_init_15 : decode cX7_init 15 = .ok (.aload_n 0, 1) := by decide +kernel
theorem dX7_init_16 : decode cX7_init 16 = .ok (.new 16, 3) := by decide +kernel
theorem dX7_init_19 : decode cX7_init 19 = .ok (.dup, 1) := by decide +kernel
theorem dX7_init_20 : decode cX7_init 20 = .ok (.invokespecial 18, 3) := by decide +kernel
theorem dX7_init_23 : decode cX7_init 23 = .ok (.putfield 19, 3) := by decide +kernel
theorem dX7_init_26 : decode cX7_init 26 = .ok (.aload_n 0, 1) := by decide +kernel
theorem dX7_init_27 : decode cX7_init 27 = .ok (.new 23, 3) := by decide +kernel
theorem dX7_init_30 : decode cX7_init 30 = .ok (.dup, 1) := by decide +kernel
theorem dX7_init_31 : decode cX7_init 31 = .ok (.invokespecial 25, 3) := by decide +kernel
theorem dX7_init_34 : decode cX7_init 34 = .ok (.putfield 26, 3) := by decide +kernel
theorem dX7_init_37 : decode cX7_init 37 = .ok (.aload_n 0, 1) := by decide +kernel
theorem dX7_init_38 : decode cX7_init 38 = .ok (.new 30, 3) := by decide +kernel
theorem dX7_init_41 : decode cX7_init 41 = .ok (.dup, 1) := by decide +kernel
theorem dX7_init_42 : decode cX7_init 42 = .ok (.aload_n 0, 1) := by decide +kernel
theorem dX7_init_43 : decode cX7_init 43 = .ok (.getfield 10, 3) := by decide +kernel
theorem dX7_init_46 : decode cX7_init 46 = .ok (.aload_n 0, 1) := by decide +kernel
theorem dX7_init_47 : decode cX7_init 47 = .ok (.getfield 26, 3) := by decide +kernel
theorem dX7_init_50 : decode cX7_init 50 = .ok (.invokespecial 32, 3) := by decide +kernel
theorem dX7_init_53 : decode cX7_init 53 = .ok (.putfield 35, 3) := by decide +kernel
theorem dX7_init_56 : decode cX7_init 56 = .ok (.return_, 1) := by decide +kernel
theorem dX7_declareRecord_0 : decode cX7_declareRecord 0 = .ok (.iload_n 1, 1) := by decide +kernel
theorem dX7_declareRecord_1 : decode cX7_declareRecord 1 = .ok (.iconst 1, 1) := by decide +kernel
theorem dX7_declareRecord_2 : decode cX7_declareRecord 2 = .ok (.if_icmp .lt 9, 3) := by decide +kernel
theorem dX7_declareRecord_5 : decode cX7_declareRecord 5 = .ok (.iload_n 1, 1) := by decide +kernel
theorem dX7_declareRecord_6 : decode cX7_declareRecord 6 = .ok (.bipush 16, 2) := by decide +kernel
theorem dX7_declareRecord_8 : decode cX7_declareRecord 8 = .ok (.if_icmp .le 5, 3) := by decide +kernel
theorem dX7_declareRecord_11 : decode cX7_declareRecord 11 = .ok (.iconst (-1), 1) := by decide +kernel
theorem dX7_declareRecord_12 : decode cX7_declareRecord 12 = .ok (.ireturn, 1) := by decide +kernel
theorem dX7_declareRecord_13 : decode cX7_declareRecord 13 = .ok (.aload_n 0, 1) := by decide +kernel
theorem dX7_declareRecord_14 : decode cX7_declareRecord 14 = .ok (.getfield 10, 3) := by decide +kernel
theorem dX7_declareRecord_17 : decode cX7_declareRecord 17 = .ok (.getfield 39, 3) := by decide +kernel
theorem dX7_declareRecord_20 : decode cX7_declareRecord 20 = .ok (.istore_n 2, 1) := by decide +kernel
theorem dX7_declareRecord_21 : decode cX7_declareRecord 21 = .ok (.iload_n 2, 1) := by decide +kernel
theorem dX7_declareRecord_22 : decode cX7_declareRecord 22 = .ok (.iconst 4, 1) := by decide +kernel
theorem dX7_declareRecord_23 : decode cX7_declareRecord 23 = .ok (.if_icmp .lt 6, 3) := by decide +kernel
theorem dX7_declareRecord_26 : decode cX7_declareRecord 26 = .ok (.bipush (-3), 2) := by decide +kernel
theorem dX7_declareRecord_28 : decode cX7_declareRecord 28 = .ok (.ireturn, 1) := by decide +kernel
theorem dX7_declareRecord_29 : decode cX7_declareRecord 29 = .ok (.aload_n 0, 1) := by decide +kernel
theorem dX7_declareRecord_30 : decode cX7_declareRecord 30 = .ok (.getfield 10, 3) := by decide +kernel
theorem dX7_declareRecord_33 : decode cX7_declareRecord 33 = .ok (.iload_n 1, 1) := by decide +kernel
theorem dX7_declareRecord_34 : decode cX7_declareRecord 34 = .ok (.invokevirtual 43, 3) := by decide +kernel
theorem dX7_declareRecord_37 : decode cX7_declareRecord 37 = .ok (.aload_n 0, 1) := by decide +kernel
theorem dX7_declareRecord_38 : decode cX7_declareRecord 38 = .ok (.getfield 19, 3) := by decide +kernel
theorem dX7_declareRecord_41 : decode cX7_declareRecord 41 = .ok (.iconst 1, 1) := by decide +kernel
theorem dX7_declareRecord_42 : decode cX7_declareRecord 42 = .ok (.iload_n 2, 1) := by decide +kernel
theorem dX7_declareRecord_43 : decode cX7_declareRecord 43 = .ok (.aload_n 0, 1) := by decide +kernel
theorem dX7_declareRecord_44 : decode cX7_declareRecord 44 = .ok (.getfield 10, 3) := by decide +kernel
theorem dX7_declareRecord_47 : decode cX7_declareRecord 47 = .ok (.getfield 47, 3) := by decide +kernel
theorem dX7_declareRecord_50 : decode cX7_declareRecord 50 = .ok (.invokevirtual 51, 3) := by decide +kernel
theorem dX7_declareRecord_53 : decode cX7_declareRecord 53 = .ok (.aload_n 0, 1) := by decide +kernel
theorem dX7_declareRecord_54 : decode cX7_declareRecord 54 = .ok (.getfield 26, 3) := by decide +kernel
theorem dX7_declareRecord_57 : decode cX7_declareRecord 57 = .ok (.iconst 1, 1) := by decide +kernel
theorem dX7_declareRecord_58 : decode cX7_declareRecord 58 = .ok (.putfield 55, 3) := by decide +kernel
theorem dX7_declareRecord_61 : decode cX7_declareRecord 61 = .ok (.iload_n 2, 1) := by decide +kernel
theorem dX7_declareRecord_62 : decode cX7_declareRecord 62 = .ok (.ireturn, 1) := by decide +kernel
theorem dX7_appendStore_0 : decode cX7_appendStore 0 = .ok (.aload_n 0, 1) := by decide +kernel
theorem dX7_appendStore_1 : decode cX7_appendStore 1 = .ok (.iload_n 1, 1) := by decide +kernel
theorem dX7_appendStore_2 : decode cX7_appendStore 2 = .ok (.iload_n 2, 1) := by decide +kernel
theorem dX7_appendStore_3 : decode cX7_appendStore 3 = .ok (.iload_n 3, 1) := by decide +kernel
theorem dX7_appendStore_4 : decode cX7_appendStore 4 = .ok (.invokevirtual 59, 3) := by decide +kernel
theorem dX7_appendStore_7 : decode cX7_appendStore 7 = .ok (.ifCond .eq 11, 3) := by decide +kernel
theorem dX7_appendStore_10 : decode cX7_appendStore 10 = .ok (.iload 4, 2) := by decide +kernel
theorem dX7_appendStore_12 : decode cX7_appendStore 12 = .ok (.invokestatic 63, 3) := by decide +kernel
theorem dX7_appendStore_15 : decode cX7_appendStore 15 = .ok (.ifCond .ne 5, 3) := by decide +kernel
theorem dX7_appendStore_18 : decode cX7_appendStore 18 = .ok (.iconst (-1), 1) := by decide +kernel
theorem dX7_appendStore_19 : decode cX7_appendStore 19 = .ok (.ireturn, 1) := by decide +kernel
theorem dX7_appendStore_20 : decode cX7_appendStore 20 = .ok (.aload_n 0, 1) := by decide +kernel
theorem dX7_appendStore_21 : decode cX7_appendStore 21 = .ok (.iconst 1, 1) := by decide +kernel
theorem dX7_appendStore_22 : decode cX7_appendStore 22 = .ok (.iload_n 1, 1) := by decide +kernel
theorem dX7_appendStore_23 : decode cX7_appendStore 23 = .ok (.iload_n 2, 1) := by decide +kernel
theorem dX7_appendStore_24 : decode cX7_appendStore 24 = .ok (.iload_n 3, 1) := by decide +kernel
theorem dX7_appendStore_25 : decode cX7_appendStore 25 = .ok (.iload 4, 2) := by decide +kernel
theorem dX7_appendStore_27 : decode cX7_appendStore 27 = .ok (.invokestatic 67, 3) := by decide +kernel
theorem dX7_appendStore_30 : decode cX7_appendStore 30 = .ok (.invokevirtual 73, 3) := by decide +kernel
theorem dX7_appendStore_33 : decode cX7_appendStore 33 = .ok (.ireturn, 1) := by decide +kernel
theorem dX7_appendLoad_0 : decode cX7_appendLoad 0 = .ok (.aload_n 0, 1) := by decide +kernel
theorem dX7_appendLoad_1 : decode cX7_appendLoad 1 = .ok (.iload_n 2, 1) := by decide +kernel
theorem dX7_appendLoad_2 : decode cX7_appendLoad 2 = .ok (.iload_n 3, 1) := by decide +kernel
theorem dX7_appendLoad_3 : decode cX7_appendLoad 3 = .ok (.iload 4, 2) := by decide +kernel
theorem dX7_appendLoad_5 : decode cX7_appendLoad 5 = .ok (.invokevirtual 59, 3) := by decide +kernel
theorem dX7_appendLoad_8 : decode cX7_appendLoad 8 = .ok (.ifCond .eq 10, 3) := by decide +kernel
theorem dX7_appendLoad_11 : decode cX7_appendLoad 11 = .ok (.iload_n 1, 1) := by decide +kernel
theorem dX7_appendLoad_12 : decode cX7_appendLoad 12 = .ok (.invokestatic 63, 3) := by decide +kernel
theorem dX7_appendLoad_15 : decode cX7_appendLoad 15 = .ok (.ifCond .ne 5, 3) := by decide +kernel
theorem dX7_appendLoad_18 : decode cX7_appendLoad 18 = .ok (.iconst (-1), 1) := by decide +kernel
theorem dX7_appendLoad_19 : decode cX7_appendLoad 19 = .ok (.ireturn, 1) := by decide +kernel
theorem dX7_appendLoad_20 : decode cX7_appendLoad 20 = .ok (.aload_n 0, 1) := by decide +kernel
theorem dX7_appendLoad_21 : decode cX7_appendLoad 21 = .ok (.iconst 2, 1) := by decide +kernel
theorem dX7_appendLoad_22 : decode cX7_appendLoad 22 = .ok (.iload_n 2, 1) := by decide +kernel
theorem dX7_appendLoad_23 : decode cX7_appendLoad 23 = .ok (.iload_n 3, 1) := by decide +kernel
theorem dX7_appendLoad_24 : decode cX7_appendLoad 24 = .ok (.iload 4, 2) := by decide +kernel
theorem dX7_appendLoad_26 : decode cX7_appendLoad 26 = .ok (.iload_n 1, 1) := by decide +kernel
theorem dX7_appendLoad_27 : decode cX7_appendLoad 27 = .ok (.invokestatic 67, 3) := by decide +kernel
theorem dX7_appendLoad_30 : decode cX7_appendLoad 30 = .ok (.invokevirtual 73, 3) := by decide +kernel
theorem dX7_appendLoad_33 : decode cX7_appendLoad 33 = .ok (.ireturn, 1) := by decide +kernel
theorem dX7_appendCopy_0 : decode cX7_appendCopy 0 = .ok (.aload_n 0, 1) := by decide +kernel
theorem dX7_appendCopy_1 : decode cX7_appendCopy 1 = .ok (.getfield 10, 3) := by decide +kernel
theorem dX7_appendCopy_4 : decode cX7_appendCopy 4 = .ok (.iload_n 1, 1) := by decide +kernel
theorem dX7_appendCopy_5 : decode cX7_appendCopy 5 = .ok (.iload_n 2, 1) := by decide +kernel
theorem dX7_appendCopy_6 : decode cX7_appendCopy 6 = .ok (.iload 5, 2) := by decide +kernel
theorem dX7_appendCopy_8 : decode cX7_appendCopy 8 = .ok (.invokevirtual 77, 3) := by decide +kernel
theorem dX7_appendCopy_11 : decode cX7_appendCopy 11 = .ok (.ifCond .eq 18, 3) := by decide +kernel
theorem dX7_appendCopy_14 : decode cX7_appendCopy 14 = .ok (.aload_n 0, 1) := by decide +kernel
theorem dX7_appendCopy_15 : decode cX7_appendCopy 15 = .ok (.getfield 10, 3) := by decide +kernel
theorem dX7_appendCopy_18 : decode cX7_appendCopy 18 = .ok (.iload_n 3, 1) := by decide +kernel
theorem dX7_appendCopy_19 : decode cX7_appendCopy 19 = .ok (.iload 4, 2) := by decide +kernel
theorem dX7_appendCopy_21 : decode cX7_appendCopy 21 = .ok (.iload 5, 2) := by decide +kernel
theorem dX7_appendCopy_23 : decode cX7_appendCopy 23 = .ok (.invokevirtual 77, 3) := by decide +kernel
theorem dX7_appendCopy_26 : decode cX7_appendCopy 26 = .ok (.ifCond .ne 5, 3) := by decide +kernel
theorem dX7_appendCopy_29 : decode cX7_appendCopy 29 = .ok (.iconst (-1), 1) := by decide +kernel
theorem dX7_appendCopy_30 : decode cX7_appendCopy 30 = .ok (.ireturn, 1) := by decide +kernel
theorem dX7_appendCopy_31 : decode cX7_appendCopy 31 = .ok (.iload_n 1, 1) := by decide +kernel
theorem dX7_appendCopy_32 : decode cX7_appendCopy 32 = .ok (.iload_n 3, 1) := by decide +kernel
theorem dX7_appendCopy_33 : decode cX7_appendCopy 33 = .ok (.if_icmp .ne 17, 3) := by decide +kernel
theorem dX7_appendCopy_36 : decode cX7_appendCopy 36 = .ok (.iload_n 2, 1) := by decide +kernel
theorem dX7_appendCopy_37 : decode cX7_appendCopy 37 = .ok (.iload 4, 2) := by decide +kernel
theorem dX7_appendCopy_39 : decode cX7_appendCopy 39 = .ok (.isub, 1) := by decide +kernel
theorem dX7_appendCopy_40 : decode cX7_appendCopy 40 = .ok (.invokestatic 80, 3) := by decide +kernel
theorem dX7_appendCopy_43 : decode cX7_appendCopy 43 = .ok (.iload 5, 2) := by decide +kernel
theorem dX7_appendCopy_45 : decode cX7_appendCopy 45 = .ok (.if_icmp .ge 5, 3) := by decide +kernel
theorem dX7_appendCopy_48 : decode cX7_appendCopy 48 = .ok (.iconst (-1), 1) := by decide +kernel
theorem dX7_appendCopy_49 : decode cX7_appendCopy 49 = .ok (.ireturn, 1) := by decide +kernel
theorem dX7_appendCopy_50 : decode cX7_appendCopy 50 = .ok (.aload_n 0, 1) := by decide +kernel
theorem dX7_appendCopy_51 : decode cX7_appendCopy 51 = .ok (.iload_n 1, 1) := by decide +kernel
theorem dX7_appendCopy_52 : decode cX7_appendCopy 52 = .ok (.iload_n 2, 1) := by decide +kernel
theorem dX7_appendCopy_53 : decode cX7_appendCopy 53 = .ok (.iload_n 3, 1) := by decide +kernel
theorem dX7_appendCopy_54 : decode cX7_appendCopy 54 = .ok (.iload 4, 2) := by decide +kernel
theorem dX7_appendCopy_56 : decode cX7_appendCopy 56 = .ok (.iload 5, 2) := by decide +kernel
theorem dX7_appendCopy_58 : decode cX7_appendCopy 58 = .ok (.invokestatic 86, 3) := by decide +kernel
theorem dX7_appendCopy_61 : decode cX7_appendCopy 61 = .ok (.invokevirtual 73, 3) := by decide +kernel
theorem dX7_appendCopy_64 : decode cX7_appendCopy 64 = .ok (.ireturn, 1) := by decide +kernel
theorem dX7_appendEscape_0 : decode cX7_appendEscape 0 = .ok (.aload_n 0, 1) := by decide +kernel
theorem dX7_appendEscape_1 : decode cX7_appendEscape 1 = .ok (.getfield 10, 3) := by decide +kernel
theorem dX7_appendEscape_4 : decode cX7_appendEscape 4 = .ok (.iload_n 1, 1) := by decide +kernel
theorem dX7_appendEscape_5 : decode cX7_appendEscape 5 = .ok (.invokevirtual 89, 3) := by decide +kernel
theorem dX7_appendEscape_8 : decode cX7_appendEscape 8 = .ok (.ifCond .ne 5, 3) := by decide +kernel
theorem dX7_appendEscape_11 : decode cX7_appendEscape 11 = .ok (.iconst (-1), 1) := by decide +kernel
theorem dX7_appendEscape_12 : decode cX7_appendEscape 12 = .ok (.ireturn, 1) := by decide +kernel
theorem dX7_appendEscape_13 : decode cX7_appendEscape 13 = .ok (.aload_n 0, 1) := by decide +kernel
theorem dX7_appendEscape_14 : decode cX7_appendEscape 14 = .ok (.iload_n 1, 1) := by decide +kernel
theorem dX7_appendEscape_15 : decode cX7_appendEscape 15 = .ok (.invokestatic 92, 3) := by decide +kernel
theorem dX7_appendEscape_18 : decode cX7_appendEscape 18 = .ok (.invokevirtual 73, 3) := by decide +kernel
theorem dX7_appendEscape_21 : decode cX7_appendEscape 21 = .ok (.ireturn, 1) := by decide +kernel
theorem dX7_appendConstant_0 : decode cX7_appendConstant 0 = .ok (.iload_n 1, 1) := by decide +kernel
theorem dX7_appendConstant_1 : decode cX7_appendConstant 1 = .ok (.invokestatic 63, 3) := by decide +kernel
theorem dX7_appendConstant_4 : decode cX7_appendConstant 4 = .ok (.ifCond .ne 5, 3) := by decide +kernel
theorem dX7_appendConstant_7 : decode cX7_appendConstant 7 = .ok (.iconst (-1), 1) := by decide +kernel
theorem dX7_appendConstant_8 : decode cX7_appendConstant 8 = .ok (.ireturn, 1) := by decide +kernel
theorem dX7_appendConstant_9 : decode cX7_appendConstant 9 = .ok (.aload_n 0, 1) := by decide +kernel
theorem dX7_appendConstant_10 : decode cX7_appendConstant 10 = .ok (.iconst 5, 1) := by decide +kernel
theorem dX7_appendConstant_11 : decode cX7_appendConstant 11 = .ok (.iload_n 1, 1) := by decide +kernel
theorem dX7_appendConstant_12 : decode cX7_appendConstant 12 = .ok (.iload_n 2, 1) := by decide +kernel
theorem dX7_appendConstant_13 : decode cX7_appendConstant 13 = .ok (.invokestatic 96, 3) := by decide +kernel
theorem dX7_appendConstant_16 : decode cX7_appendConstant 16 = .ok (.invokevirtual 73, 3) := by decide +kernel
theorem dX7_appendConstant_19 : decode cX7_appendConstant 19 = .ok (.ireturn, 1) := by decide +kernel
theorem dX7_appendAdd_0 : decode cX7_appendAdd 0 = .ok (.iload_n 1, 1) := by decide +kernel
theorem dX7_appendAdd_1 : decode cX7_appendAdd 1 = .ok (.invokestatic 63, 3) := by decide +kernel
theorem dX7_appendAdd_4 : decode cX7_appendAdd 4 = .ok (.ifCond .eq 17, 3) := by decide +kernel
theorem dX7_appendAdd_7 : decode cX7_appendAdd 7 = .ok (.iload_n 2, 1) := by decide +kernel
theorem dX7_appendAdd_8 : decode cX7_appendAdd 8 = .ok (.invokestatic 63, 3) := by decide +kernel
theorem dX7_appendAdd_11 : decode cX7_appendAdd 11 = .ok (.ifCond .eq 10, 3) := by decide +kernel
theorem dX7_appendAdd_14 : decode cX7_appendAdd 14 = .ok (.iload_n 3, 1) := by decide +kernel
theorem dX7_appendAdd_15 : decode cX7_appendAdd 15 = .ok (.invokestatic 63, 3) := by decide +kernel
theorem dX7_appendAdd_18 : decode cX7_appendAdd 18 = .ok (.ifCond .ne 5, 3) := by decide +kernel
theorem dX7_appendAdd_21 : decode cX7_appendAdd 21 = .ok (.iconst (-1), 1) := by decide +kernel
theorem dX7_appendAdd_22 : decode cX7_appendAdd 22 = .ok (.ireturn, 1) := by decide +kernel
theorem dX7_appendAdd_23 : decode cX7_appendAdd 23 = .ok (.aload_n 0, 1) := by decide +kernel
theorem dX7_appendAdd_24 : decode cX7_appendAdd 24 = .ok (.iload_n 1, 1) := by decide +kernel
theorem dX7_appendAdd_25 : decode cX7_appendAdd 25 = .ok (.iload_n 2, 1) := by decide +kernel
theorem dX7_appendAdd_26 : decode cX7_appendAdd 26 = .ok (.iload_n 3, 1) := by decide +kernel
theorem dX7_appendAdd_27 : decode cX7_appendAdd 27 = .ok (.invokestatic 100, 3) := by decide +kernel
theorem dX7_appendAdd_30 : decode cX7_appendAdd 30 = .ok (.invokevirtual 73, 3) := by decide +kernel
theorem dX7_appendAdd_33 : decode cX7_appendAdd 33 = .ok (.ireturn, 1) := by decide +kernel
theorem dX7_appendSkip_0 : decode cX7_appendSkip 0 = .ok (.iload_n 1, 1) := by decide +kernel
theorem dX7_appendSkip_1 : decode cX7_appendSkip 1 = .ok (.invokestatic 63, 3) := by decide +kernel
theorem dX7_appendSkip_4 : decode cX7_appendSkip 4 = .ok (.ifCond .eq 14, 3) := by decide +kernel
theorem dX7_appendSkip_7 : decode cX7_appendSkip 7 = .ok (.iload_n 2, 1) := by decide +kernel
theorem dX7_appendSkip_8 : decode cX7_appendSkip 8 = .ok (.iconst 1, 1) := by decide +kernel
theorem dX7_appendSkip_9 : decode cX7_appendSkip 9 = .ok (.if_icmp .lt 9, 3) := by decide +kernel
theorem dX7_appendSkip_12 : decode cX7_appendSkip 12 = .ok (.iload_n 2, 1) := by decide +kernel
theorem dX7_appendSkip_13 : decode cX7_appendSkip 13 = .ok (.bipush 9, 2) := by decide +kernel
theorem dX7_appendSkip_15 : decode cX7_appendSkip 15 = .ok (.if_icmp .le 5, 3) := by decide +kernel
theorem dX7_appendSkip_18 : decode cX7_appendSkip 18 = .ok (.iconst (-1), 1) := by decide +kernel
theorem dX7_appendSkip_19 : decode cX7_appendSkip 19 = .ok (.ireturn, 1) := by decide +kernel
theorem dX7_appendSkip_20 : decode cX7_appendSkip 20 = .ok (.aload_n 0, 1) := by decide +kernel
theorem dX7_appendSkip_21 : decode cX7_appendSkip 21 = .ok (.bipush 7, 2) := by decide +kernel
theorem dX7_appendSkip_23 : decode cX7_appendSkip 23 = .ok (.iload_n 1, 1) := by decide +kernel
theorem dX7_appendSkip_24 : decode cX7_appendSkip 24 = .ok (.iload_n 2, 1) := by decide +kernel
theorem dX7_appendSkip_25 : decode cX7_appendSkip 25 = .ok (.invokestatic 96, 3) := by decide +kernel
theorem dX7_appendSkip_28 : decode cX7_appendSkip 28 = .ok (.invokevirtual 73, 3) := by decide +kernel
theorem dX7_appendSkip_31 : decode cX7_appendSkip 31 = .ok (.ireturn, 1) := by decide +kernel
theorem dX7_appendOutput_0 : decode cX7_appendOutput 0 = .ok (.iload_n 1, 1) := by decide +kernel
theorem dX7_appendOutput_1 : decode cX7_appendOutput 1 = .ok (.invokestatic 63, 3) := by decide +kernel
theorem dX7_appendOutput_4 : decode cX7_appendOutput 4 = .ok (.ifCond .ne 5, 3) := by decide +kernel
theorem dX7_appendOutput_7 : decode cX7_appendOutput 7 = .ok (.iconst (-1), 1) := by decide +kernel
theorem dX7_appendOutput_8 : decode cX7_appendOutput 8 = .ok (.ireturn, 1) := by decide +kernel
theorem dX7_appendOutput_9 : decode cX7_appendOutput 9 = .ok (.aload_n 0, 1) := by decide +kernel
theorem dX7_appendOutput_10 : decode cX7_appendOutput 10 = .ok (.bipush 8, 2) := by decide +kernel
theorem dX7_appendOutput_12 : decode cX7_appendOutput 12 = .ok (.iload_n 1, 1) := by decide +kernel
theorem dX7_appendOutput_13 : decode cX7_appendOutput 13 = .ok (.iconst 0, 1) := by decide +kernel
theorem dX7_appendOutput_14 : decode cX7_appendOutput 14 = .ok (.invokestatic 96, 3) := by decide +kernel
theorem dX7_appendOutput_17 : decode cX7_appendOutput 17 = .ok (.invokevirtual 73, 3) := by decide +kernel
theorem dX7_appendOutput_20 : decode cX7_appendOutput 20 = .ok (.ireturn, 1) := by decide +kernel
theorem dX7_removeInstruction_0 : decode cX7_removeInstruction 0 = .ok (.aload_n 0, 1) := by decide +kernel
theorem dX7_removeInstruction_1 : decode cX7_removeInstruction 1 = .ok (.getfield 10, 3) := by decide +kernel
theorem dX7_removeInstruction_4 : decode cX7_removeInstruction 4 = .ok (.iload_n 1, 1) := by decide +kernel
theorem dX7_removeInstruction_5 : decode cX7_removeInstruction 5 = .ok (.invokevirtual 103, 3) := by decide +kernel
theorem dX7_removeInstruction_8 : decode cX7_removeInstruction 8 = .ok (.ifCond .ne 5, 3) := by decide +kernel
theorem dX7_removeInstruction_11 : decode cX7_removeInstruction 11 = .ok (.iconst (-1), 1) := by decide +kernel
theorem dX7_removeInstruction_12 : decode cX7_removeInstruction 12 = .ok (.ireturn, 1) := by decide +kernel
theorem dX7_removeInstruction_13 : decode cX7_removeInstruction 13 = .ok (.aload_n 0, 1) := by decide +kernel
theorem dX7_removeInstruction_14 : decode cX7_removeInstruction 14 = .ok (.getfield 19, 3) := by decide +kernel
theorem dX7_removeInstruction_17 : decode cX7_removeInstruction 17 = .ok (.iconst 3, 1) := by decide +kernel
theorem dX7_removeInstruction_18 : decode cX7_removeInstruction 18 = .ok (.iload_n 1, 1) := by decide +kernel
theorem dX7_removeInstruction_19 : decode cX7_removeInstruction 19 = .ok (.aload_n 0, 1) := by decide +kernel
theorem dX7_removeInstruction_20 : decode cX7_removeInstruction 20 = .ok (.getfield 10, 3) := by decide +kernel
theorem dX7_removeInstruction_23 : decode cX7_removeInstruction 23 = .ok (.iload_n 1, 1) := by decide +kernel
theorem dX7_removeInstruction_24 : decode cX7_removeInstruction 24 = .ok (.invokevirtual 106, 3) := by decide +kernel
theorem dX7_removeInstruction_27 : decode cX7_removeInstruction 27 = .ok (.invokevirtual 51, 3) := by decide +kernel
theorem dX7_removeInstruction_30 : decode cX7_removeInstruction 30 = .ok (.aload_n 0, 1) := by decide +kernel
theorem dX7_removeInstruction_31 : decode cX7_removeInstruction 31 = .ok (.getfield 10, 3) := by decide +kernel
theorem dX7_removeInstruction_34 : decode cX7_removeInstruction 34 = .ok (.iload_n 1, 1) := by decide +kernel
theorem dX7_removeInstruction_35 : decode cX7_removeInstruction 35 = .ok (.invokevirtual 109, 3) := by decide +kernel
theorem dX7_removeInstruction_38 : decode cX7_removeInstruction 38 = .ok (.aload_n 0, 1) := by decide +kernel
theorem dX7_removeInstruction_39 : decode cX7_removeInstruction 39 = .ok (.getfield 26, 3) := by decide +kernel
theorem dX7_removeInstruction_42 : decode cX7_removeInstruction 42 = .ok (.iconst 1, 1) := by decide +kernel
theorem dX7_removeInstruction_43 : decode cX7_removeInstruction 43 = .ok (.putfield 55, 3) := by decide +kernel
theorem dX7_removeInstruction_46 : decode cX7_removeInstruction 46 = .ok (.aload_n 0, 1) := by decide +kernel
theorem dX7_removeInstruction_47 : decode cX7_removeInstruction 47 = .ok (.getfield 10, 3) := by decide +kernel
theorem dX7_removeInstruction_50 : decode cX7_removeInstruction 50 = .ok (.getfield 112, 3) := by decide +kernel
theorem dX7_removeInstruction_53 : decode cX7_removeInstruction 53 = .ok (.ireturn, 1) := by decide +kernel
theorem dX7_undo_0 : decode cX7_undo 0 = .ok (.aload_n 0, 1) := by decide +kernel
theorem dX7_undo_1 : decode cX7_undo 1 = .ok (.getfield 19, 3) := by decide +kernel
theorem dX7_undo_4 : decode cX7_undo 4 = .ok (.getfield 115, 3) := by decide +kernel
theorem dX7_undo_7 : decode cX7_undo 7 = .ok (.ifCond .ne 6, 3) := by decide +kernel
theorem dX7_undo_10 : decode cX7_undo 10 = .ok (.bipush (-2), 2) := by decide +kernel
theorem dX7_undo_12 : decode cX7_undo 12 = .ok (.ireturn, 1) := by decide +kernel
theorem dX7_undo_13 : decode cX7_undo 13 = .ok (.aload_n 0, 1) := by decide +kernel
theorem dX7_undo_14 : decode cX7_undo 14 = .ok (.getfield 19, 3) := by decide +kernel
theorem dX7_undo_17 : decode cX7_undo 17 = .ok (.aload_n 0, 1) := by decide +kernel
theorem dX7_undo_18 : decode cX7_undo 18 = .ok (.getfield 10, 3) := by decide +kernel
theorem dX7_undo_21 : decode cX7_undo 21 = .ok (.invokevirtual 118, 3) := by decide +kernel
theorem dX7_undo_24 : decode cX7_undo 24 = .ok (.aload_n 0, 1) := by decide +kernel
theorem dX7_undo_25 : decode cX7_undo 25 = .ok (.getfield 26, 3) := by decide +kernel
theorem dX7_undo_28 : decode cX7_undo 28 = .ok (.iconst 1, 1) := by decide +kernel
theorem dX7_undo_29 : decode cX7_undo 29 = .ok (.putfield 55, 3) := by decide +kernel
theorem dX7_undo_32 : decode cX7_undo 32 = .ok (.aload_n 0, 1) := by decide +kernel
theorem dX7_undo_33 : decode cX7_undo 33 = .ok (.getfield 19, 3) := by decide +kernel
theorem dX7_undo_36 : decode cX7_undo 36 = .ok (.getfield 115, 3) := by decide +kernel
theorem dX7_undo_39 : decode cX7_undo 39 = .ok (.ireturn, 1) := by decide +kernel
theorem dX7_recordCount_0 : decode cX7_recordCount 0 = .ok (.aload_n 0, 1) := by decide +kernel
theorem dX7_recordCount_1 : decode cX7_recordCount 1 = .ok (.getfield 10, 3) := by decide +kernel
theorem dX7_recordCount_4 : decode cX7_recordCount 4 = .ok (.getfield 39, 3) := by decide +kernel
theorem dX7_recordCount_7 : decode cX7_recordCount 7 = .ok (.ireturn, 1) := by decide +kernel
theorem dX7_instructionCount_0 : decode cX7_instructionCount 0 = .ok (.aload_n 0, 1) := by decide +kernel
theorem dX7_instructionCount_1 : decode cX7_instructionCount 1 = .ok (.getfield 10, 3) := by decide +kernel
theorem dX7_instructionCount_4 : decode cX7_instructionCount 4 = .ok (.getfield 112, 3) := by decide +kernel
theorem dX7_instructionCount_7 : decode cX7_instructionCount 7 = .ok (.ireturn, 1) := by decide +kernel
theorem dX7_escapes_0 : decode cX7_escapes 0 = .ok (.aload_n 0, 1) := by decide +kernel
theorem dX7_escapes_1 : decode cX7_escapes 1 = .ok (.getfield 10, 3) := by decide +kernel
theorem dX7_escapes_4 : decode cX7_escapes 4 = .ok (.iload_n 1, 1) := by decide +kernel
theorem dX7_escapes_5 : decode cX7_escapes 5 = .ok (.invokevirtual 89, 3) := by decide +kernel
theorem dX7_escapes_8 : decode cX7_escapes 8 = .ok (.ifCond .ne 5, 3) := by decide +kernel
theorem dX7_escapes_11 : decode cX7_escapes 11 = .ok (.iconst (-1), 1) := by decide +kernel
theorem dX7_escapes_12 : decode cX7_escapes 12 = .ok (.ireturn, 1) := by decide +kernel
theorem dX7_escapes_13 : decode cX7_escapes 13 = .ok (.aload_n 0, 1) := by decide +kernel
theorem dX7_escapes_14 : decode cX7_escapes 14 = .ok (.iload_n 1, 1) := by decide +kernel
theorem dX7_escapes_15 : decode cX7_escapes 15 = .ok (.invokevirtual 122, 3) := by decide +kernel
theorem dX7_escapes_18 : decode cX7_escapes 18 = .ok (.getfield 126, 3) := by decide +kernel
theorem dX7_escapes_21 : decode cX7_escapes 21 = .ok (.invokestatic 131, 3) := by decide +kernel
theorem dX7_escapes_24 : decode cX7_escapes 24 = .ok (.ireturn, 1) := by decide +kernel
theorem dX7_partitionCount_0 : decode cX7_partitionCount 0 = .ok (.aload_n 0, 1) := by decide +kernel
theorem dX7_partitionCount_1 : decode cX7_partitionCount 1 = .ok (.getfield 10, 3) := by decide +kernel
theorem dX7_partitionCount_4 : decode cX7_partitionCount 4 = .ok (.iload_n 1, 1) := by decide +kernel
theorem dX7_partitionCount_5 : decode cX7_partitionCount 5 = .ok (.invokevirtual 89, 3) := by decide +kernel
theorem dX7_partitionCount_8 : decode cX7_partitionCount 8 = .ok (.ifCond .ne 5, 3) := by decide +kernel
theorem dX7_partitionCount_11 : decode cX7_partitionCount 11 = .ok (.iconst (-1), 1) := by decide +kernel
theorem dX7_partitionCount_12 : decode cX7_partitionCount 12 = .ok (.ireturn, 1) := by decide +kernel
theorem dX7_partitionCount_13 : decode cX7_partitionCount 13 = .ok (.aload_n 0, 1) := by decide +kernel
theorem dX7_partitionCount_14 : decode cX7_partitionCount 14 = .ok (.iload_n 1, 1) := by decide +kernel
theorem dX7_partitionCount_15 : decode cX7_partitionCount 15 = .ok (.invokevirtual 122, 3) := by decide +kernel
theorem dX7_partitionCount_18 : decode cX7_partitionCount 18 = .ok (.getfield 135, 3) := by decide +kernel
theorem dX7_partitionCount_21 : decode cX7_partitionCount 21 = .ok (.ireturn, 1) := by decide +kernel
theorem dX7_partitionStart_0 : decode cX7_partitionStart 0 = .ok (.aload_n 0, 1) := by decide +kernel
theorem dX7_partitionStart_1 : decode cX7_partitionStart 1 = .ok (.iload_n 1, 1) := by decide +kernel
theorem dX7_partitionStart_2 : decode cX7_partitionStart 2 = .ok (.iload_n 2, 1) := by decide +kernel
theorem dX7_partitionStart_3 : decode cX7_partitionStart 3 = .ok (.invokevirtual 138, 3) := by decide +kernel
theorem dX7_partitionStart_6 : decode cX7_partitionStart 6 = .ok (.astore_n 3, 1) := by decide +kernel
theorem dX7_partitionStart_7 : decode cX7_partitionStart 7 = .ok (.aload_n 3, 1) := by decide +kernel
theorem dX7_partitionStart_8 : decode cX7_partitionStart 8 = .ok (.getfield 142, 3) := by decide +kernel
theorem dX7_partitionStart_11 : decode cX7_partitionStart 11 = .ok (.ifCond .ne 7, 3) := by decide +kernel
theorem dX7_partitionStart_14 : decode cX7_partitionStart 14 = .ok (.iconst (-1), 1) := by decide +kernel
theorem dX7_partitionStart_15 : decode cX7_partitionStart 15 = .ok (.goto 7, 3) := by decide +kernel
theorem dX7_partitionStart_18 : decode cX7_partitionStart 18 = .ok (.aload_n 3, 1) := by decide +kernel
theorem dX7_partitionStart_19 : decode cX7_partitionStart 19 = .ok (.getfield 147, 3) := by decide +kernel
theorem dX7_partitionStart_22 : decode cX7_partitionStart 22 = .ok (.ireturn, 1) := by decide +kernel
theorem dX7_partitionLength_0 : decode cX7_partitionLength 0 = .ok (.aload_n 0, 1) := by decide +kernel
theorem dX7_partitionLength_1 : decode cX7_partitionLength 1 = .ok (.iload_n 1, 1) := by decide +kernel
theorem dX7_partitionLength_2 : decode cX7_partitionLength 2 = .ok (.iload_n 2, 1) := by decide +kernel
theorem dX7_partitionLength_3 : decode cX7_partitionLength 3 = .ok (.invokevirtual 138, 3) := by decide +kernel
theorem dX7_partitionLength_6 : decode cX7_partitionLength 6 = .ok (.astore_n 3, 1) := by decide +kernel
theorem dX7_partitionLength_7 : decode cX7_partitionLength 7 = .ok (.aload_n 3, 1) := by decide +kernel
theorem dX7_partitionLength_8 : decode cX7_partitionLength 8 = .ok (.getfield 142, 3) := by decide +kernel
theorem dX7_partitionLength_11 : decode cX7_partitionLength 11 = .ok (.ifCond .ne 7, 3) := by decide +kernel
theorem dX7_partitionLength_14 : decode cX7_partitionLength 14 = .ok (.iconst (-1), 1) := by decide +kernel
theorem dX7_partitionLength_15 : decode cX7_partitionLength 15 = .ok (.goto 7, 3) := by decide +kernel
theorem dX7_partitionLength_18 : decode cX7_partitionLength 18 = .ok (.aload_n 3, 1) := by decide +kernel
theorem dX7_partitionLength_19 : decode cX7_partitionLength 19 = .ok (.getfield 142, 3) := by decide +kernel
theorem dX7_partitionLength_22 : decode cX7_partitionLength 22 = .ok (.ireturn, 1) := by decide +kernel
theorem dX7_isPromotable_0 : decode cX7_isPromotable 0 = .ok (.aload_n 0, 1) := by decide +kernel
theorem dX7_isPromotable_1 : decode cX7_isPromotable 1 = .ok (.iload_n 1, 1) := by decide +kernel
theorem dX7_isPromotable_2 : decode cX7_isPromotable 2 = .ok (.iload_n 2, 1) := by decide +kernel
theorem dX7_isPromotable_3 : decode cX7_isPromotable 3 = .ok (.invokevirtual 138, 3) := by decide +kernel
theorem dX7_isPromotable_6 : decode cX7_isPromotable 6 = .ok (.astore_n 3, 1) := by decide +kernel
theorem dX7_isPromotable_7 : decode cX7_isPromotable 7 = .ok (.aload_n 3, 1) := by decide +kernel
theorem dX7_isPromotable_8 : decode cX7_isPromotable 8 = .ok (.getfield 142, 3) := by decide +kernel
theorem dX7_isPromotable_11 : decode cX7_isPromotable 11 = .ok (.ifCond .ne 7, 3) := by decide +kernel
theorem dX7_isPromotable_14 : decode cX7_isPromotable 14 = .ok (.iconst (-1), 1) := by decide +kernel
theorem dX7_isPromotable_15 : decode cX7_isPromotable 15 = .ok (.goto 10, 3) := by decide +kernel
theorem dX7_isPromotable_18 : decode cX7_isPromotable 18 = .ok (.aload_n 3, 1) := by decide +kernel
theorem dX7_isPromotable_19 : decode cX7_isPromotable 19 = .ok (.getfield 150, 3) := by decide +kernel
theorem dX7_isPromotable_22 : decode cX7_isPromotable 22 = .ok (.invokestatic 131, 3) := by decide +kernel
theorem dX7_isPromotable_25 : decode cX7_isPromotable 25 = .ok (.ireturn, 1) := by decide +kernel
theorem dX7_isLive_0 : decode cX7_isLive 0 = .ok (.aload_n 0, 1) := by decide +kernel
theorem dX7_isLive_1 : decode cX7_isLive 1 = .ok (.iload_n 1, 1) := by decide +kernel
theorem dX7_isLive_2 : decode cX7_isLive 2 = .ok (.iload_n 2, 1) := by decide +kernel
theorem dX7_isLive_3 : decode cX7_isLive 3 = .ok (.invokevirtual 138, 3) := by decide +kernel
theorem dX7_isLive_6 : decode cX7_isLive 6 = .ok (.astore_n 3, 1) := by decide +kernel
theorem dX7_isLive_7 : decode cX7_isLive 7 = .ok (.aload_n 3, 1) := by decide +kernel
theorem dX7_isLive_8 : decode cX7_isLive 8 = .ok (.getfield 142, 3) := by decide +kernel
theorem dX7_isLive_11 : decode cX7_isLive 11 = .ok (.ifCond .ne 7, 3) := by decide +kernel
theorem dX7_isLive_14 : decode cX7_isLive 14 = .ok (.iconst (-1), 1) := by decide +kernel
theorem dX7_isLive_15 : decode cX7_isLive 15 = .ok (.goto 10, 3) := by decide +kernel
theorem dX7_isLive_18 : decode cX7_isLive 18 = .ok (.aload_n 3, 1) := by decide +kernel
theorem dX7_isLive_19 : decode cX7_isLive 19 = .ok (.getfield 153, 3) := by decide +kernel
theorem dX7_isLive_22 : decode cX7_isLive 22 = .ok (.invokestatic 131, 3) := by decide +kernel
theorem dX7_isLive_25 : decode cX7_isLive 25 = .ok (.ireturn, 1) := by decide +kernel
theorem dX7_paddingBytes_0 : decode cX7_paddingBytes 0 = .ok (.aload_n 0, 1) := by decide +kernel
theorem dX7_paddingBytes_1 : decode cX7_paddingBytes 1 = .ok (.getfield 10, 3) := by decide +kernel
theorem dX7_paddingBytes_4 : decode cX7_paddingBytes 4 = .ok (.iload_n 1, 1) := by decide +kernel
theorem dX7_paddingBytes_5 : decode cX7_paddingBytes 5 = .ok (.invokevirtual 89, 3) := by decide +kernel
theorem dX7_paddingBytes_8 : decode cX7_paddingBytes 8 = .ok (.ifCond .ne 5, 3) := by decide +kernel
theorem dX7_paddingBytes_11 : decode cX7_paddingBytes 11 = .ok (.iconst (-1), 1) := by decide +kernel
theorem dX7_paddingBytes_12 : decode cX7_paddingBytes 12 = .ok (.ireturn, 1) := by decide +kernel
theorem dX7_paddingBytes_13 : decode cX7_paddingBytes 13 = .ok (.aload_n 0, 1) := by decide +kernel
theorem dX7_paddingBytes_14 : decode cX7_paddingBytes 14 = .ok (.iload_n 1, 1) := by decide +kernel
theorem dX7_paddingBytes_15 : decode cX7_paddingBytes 15 = .ok (.invokevirtual 122, 3) := by decide +kernel
theorem dX7_paddingBytes_18 : decode cX7_paddingBytes 18 = .ok (.invokevirtual 156, 3) := by decide +kernel
theorem dX7_paddingBytes_21 : decode cX7_paddingBytes 21 = .ok (.ireturn, 1) := by decide +kernel
theorem dX7_pieceCount_0 : decode cX7_pieceCount 0 = .ok (.aload_n 0, 1) := by decide +kernel
theorem dX7_pieceCount_1 : decode cX7_pieceCount 1 = .ok (.getfield 10, 3) := by decide +kernel
theorem dX7_pieceCount_4 : decode cX7_pieceCount 4 = .ok (.iload_n 1, 1) := by decide +kernel
theorem dX7_pieceCount_5 : decode cX7_pieceCount 5 = .ok (.invokevirtual 106, 3) := by decide +kernel
theorem dX7_pieceCount_8 : decode cX7_pieceCount 8 = .ok (.getfield 160, 3) := by decide +kernel
theorem dX7_pieceCount_11 : decode cX7_pieceCount 11 = .ok (.iconst 3, 1) := by decide +kernel
theorem dX7_pieceCount_12 : decode cX7_pieceCount 12 = .ok (.if_icmp .eq 5, 3) := by decide +kernel
theorem dX7_pieceCount_15 : decode cX7_pieceCount 15 = .ok (.iconst (-1), 1) := by decide +kernel
theorem dX7_pieceCount_16 : decode cX7_pieceCount 16 = .ok (.ireturn, 1) := by decide +kernel
theorem dX7_pieceCount_17 : decode cX7_pieceCount 17 = .ok (.aload_n 0, 1) := by decide +kernel
theorem dX7_pieceCount_18 : decode cX7_pieceCount 18 = .ok (.getfield 26, 3) := by decide +kernel
theorem dX7_pieceCount_21 : decode cX7_pieceCount 21 = .ok (.aload_n 0, 1) := by decide +kernel
theorem dX7_pieceCount_22 : decode cX7_pieceCount 22 = .ok (.getfield 10, 3) := by decide +kernel
theorem dX7_pieceCount_25 : decode cX7_pieceCount 25 = .ok (.invokevirtual 163, 3) := by decide +kernel
theorem dX7_pieceCount_28 : decode cX7_pieceCount 28 = .ok (.aload_n 0, 1) := by decide +kernel
theorem dX7_pieceCount_29 : decode cX7_pieceCount 29 = .ok (.getfield 26, 3) := by decide +kernel
theorem dX7_pieceCount_32 : decode cX7_pieceCount 32 = .ok (.iload_n 1, 1) := by decide +kernel
theorem dX7_pieceCount_33 : decode cX7_pieceCount 33 = .ok (.invokevirtual 166, 3) := by decide +kernel
theorem dX7_pieceCount_36 : decode cX7_pieceCount 36 = .ok (.ireturn, 1) := by decide +kernel
theorem dX7_pieceLength_0 : decode cX7_pieceLength 0 = .ok (.aload_n 0, 1) := by decide +kernel
theorem dX7_pieceLength_1 : decode cX7_pieceLength 1 = .ok (.getfield 10, 3) := by decide +kernel
theorem dX7_pieceLength_4 : decode cX7_pieceLength 4 = .ok (.iload_n 1, 1) := by decide +kernel
theorem dX7_pieceLength_5 : decode cX7_pieceLength 5 = .ok (.invokevirtual 106, 3) := by decide +kernel
theorem dX7_pieceLength_8 : decode cX7_pieceLength 8 = .ok (.getfield 160, 3) := by decide +kernel
theorem dX7_pieceLength_11 : decode cX7_pieceLength 11 = .ok (.iconst 3, 1) := by decide +kernel
theorem dX7_pieceLength_12 : decode cX7_pieceLength 12 = .ok (.if_icmp .eq 5, 3) := by decide +kernel
theorem dX7_pieceLength_15 : decode cX7_pieceLength 15 = .ok (.iconst (-1), 1) := by decide +kernel
theorem dX7_pieceLength_16 : decode cX7_pieceLength 16 = .ok (.ireturn, 1) := by decide +kernel
theorem dX7_pieceLength_17 : decode cX7_pieceLength 17 = .ok (.aload_n 0, 1) := by decide +kernel
theorem dX7_pieceLength_18 : decode cX7_pieceLength 18 = .ok (.getfield 26, 3) := by decide +kernel
theorem dX7_pieceLength_21 : decode cX7_pieceLength 21 = .ok (.aload_n 0, 1) := by decide +kernel
theorem dX7_pieceLength_22 : decode cX7_pieceLength 22 = .ok (.getfield 10, 3) := by decide +kernel
theorem dX7_pieceLength_25 : decode cX7_pieceLength 25 = .ok (.invokevirtual 163, 3) := by decide +kernel
theorem dX7_pieceLength_28 : decode cX7_pieceLength 28 = .ok (.aload_n 0, 1) := by decide +kernel
theorem dX7_pieceLength_29 : decode cX7_pieceLength 29 = .ok (.getfield 26, 3) := by decide +kernel
theorem dX7_pieceLength_32 : decode cX7_pieceLength 32 = .ok (.iload_n 1, 1) := by decide +kernel
theorem dX7_pieceLength_33 : decode cX7_pieceLength 33 = .ok (.iload_n 2, 1) := by decide +kernel
theorem dX7_pieceLength_34 : decode cX7_pieceLength 34 = .ok (.invokevirtual 169, 3) := by decide +kernel
theorem dX7_pieceLength_37 : decode cX7_pieceLength 37 = .ok (.istore_n 3, 1) := by decide +kernel
theorem dX7_pieceLength_38 : decode cX7_pieceLength 38 = .ok (.iload_n 3, 1) := by decide +kernel
theorem dX7_pieceLength_39 : decode cX7_pieceLength 39 = .ok (.ifCond .ne 7, 3) := by decide +kernel
theorem dX7_pieceLength_42 : decode cX7_pieceLength 42 = .ok (.iconst (-1), 1) := by decide +kernel
theorem dX7_pieceLength_43 : decode cX7_pieceLength 43 = .ok (.goto 4, 3) := by decide +kernel
theorem dX7_pieceLength_46 : decode cX7_pieceLength 46 = .ok (.iload_n 3, 1) := by decide +kernel
theorem dX7_pieceLength_47 : decode cX7_pieceLength 47 = .ok (.ireturn, 1) := by decide +kernel
theorem dX7_scalarCount_0 : decode cX7_scalarCount 0 = .ok (.iconst 0, 1) := by decide +kernel
theorem dX7_scalarCount_1 : decode cX7_scalarCount 1 = .ok (.istore_n 1, 1) := by decide +kernel
theorem dX7_scalarCount_2 : decode cX7_scalarCount 2 = .ok (.iconst 0, 1) := by decide +kernel
theorem dX7_scalarCount_3 : decode cX7_scalarCount 3 = .ok (.istore_n 2, 1) := by decide +kernel
theorem dX7_scalarCount_4 : decode cX7_scalarCount 4 = .ok (.iload_n 2, 1) := by decide +kernel
theorem dX7_scalarCount_5 : decode cX7_scalarCount 5 = .ok (.aload_n 0, 1) := by decide +kernel
theorem dX7_scalarCount_6 : decode cX7_scalarCount 6 = .ok (.getfield 10, 3) := by decide +kernel
theorem dX7_scalarCount_9 : decode cX7_scalarCount 9 = .ok (.getfield 39, 3) := by decide +kernel
theorem dX7_scalarCount_12 : decode cX7_scalarCount 12 = .ok (.if_icmp .ge 20, 3) := by decide +kernel
theorem dX7_scalarCount_15 : decode cX7_scalarCount 15 = .ok (.iload_n 1, 1) := by decide +kernel
theorem dX7_scalarCount_16 : decode cX7_scalarCount 16 = .ok (.aload_n 0, 1) := by decide +kernel
theorem dX7_scalarCount_17 : decode cX7_scalarCount 17 = .ok (.iload_n 2, 1) := by decide +kernel
theorem dX7_scalarCount_18 : decode cX7_scalarCount 18 = .ok (.invokevirtual 122, 3) := by decide +kernel
theorem dX7_scalarCount_21 : decode cX7_scalarCount 21 = .ok (.invokevirtual 173, 3) := by decide +kernel
theorem dX7_scalarCount_24 : decode cX7_scalarCount 24 = .ok (.iadd, 1) := by decide +kernel
theorem dX7_scalarCount_25 : decode cX7_scalarCount 25 = .ok (.istore_n 1, 1) := by decide +kernel
theorem dX7_scalarCount_26 : decode cX7_scalarCount 26 = .ok (.iinc 2 1, 3) := by decide +kernel
theorem dX7_scalarCount_29 : decode cX7_scalarCount 29 = .ok (.goto (-25), 3) := by decide +kernel
theorem dX7_scalarCount_32 : decode cX7_scalarCount 32 = .ok (.iload_n 1, 1) := by decide +kernel
theorem dX7_scalarCount_33 : decode cX7_scalarCount 33 = .ok (.ireturn, 1) := by decide +kernel
theorem dX7_liveBytes_0 : decode cX7_liveBytes 0 = .ok (.iconst 0, 1) := by decide +kernel
theorem dX7_liveBytes_1 : decode cX7_liveBytes 1 = .ok (.istore_n 1, 1) := by decide +kernel
theorem dX7_liveBytes_2 : decode cX7_liveBytes 2 = .ok (.iconst 0, 1) := by decide +kernel
theorem dX7_liveBytes_3 : decode cX7_liveBytes 3 = .ok (.istore_n 2, 1) := by decide +kernel
theorem dX7_liveBytes_4 : decode cX7_liveBytes 4 = .ok (.iload_n 2, 1) := by decide +kernel
theorem dX7_liveBytes_5 : decode cX7_liveBytes 5 = .ok (.aload_n 0, 1) := by decide +kernel
theorem dX7_liveBytes_6 : decode cX7_liveBytes 6 = .ok (.getfield 10, 3) := by decide +kernel
theorem dX7_liveBytes_9 : decode cX7_liveBytes 9 = .ok (.getfield 39, 3) := by decide +kernel
theorem dX7_liveBytes_12 : decode cX7_liveBytes 12 = .ok (.if_icmp .ge 20, 3) := by decide +kernel
theorem dX7_liveBytes_15 : decode cX7_liveBytes 15 = .ok (.iload_n 1, 1) := by decide +kernel
theorem dX7_liveBytes_16 : decode cX7_liveBytes 16 = .ok (.aload_n 0, 1) := by decide +kernel
theorem dX7_liveBytes_17 : decode cX7_liveBytes 17 = .ok (.iload_n 2, 1) := by decide +kernel
theorem dX7_liveBytes_18 : decode cX7_liveBytes 18 = .ok (.invokevirtual 122, 3) := by decide +kernel
theorem dX7_liveBytes_21 : decode cX7_liveBytes 21 = .ok (.invokevirtual 176, 3) := by decide +kernel
theorem dX7_liveBytes_24 : decode cX7_liveBytes 24 = .ok (.iadd, 1) := by decide +kernel
theorem dX7_liveBytes_25 : decode cX7_liveBytes 25 = .ok (.istore_n 1, 1) := by decide +kernel
theorem dX7_liveBytes_26 : decode cX7_liveBytes 26 = .ok (.iinc 2 1, 3) := by decide +kernel
theorem dX7_liveBytes_29 : decode cX7_liveBytes 29 = .ok (.goto (-25), 3) := by decide +kernel
theorem dX7_liveBytes_32 : decode cX7_liveBytes 32 = .ok (.iload_n 1, 1) := by decide +kernel
theorem dX7_liveBytes_33 : decode cX7_liveBytes 33 = .ok (.ireturn, 1) := by decide +kernel
theorem dX7_trapPosition_0 : decode cX7_trapPosition 0 = .ok (.aload_n 0, 1) := by decide +kernel
theorem dX7_trapPosition_1 : decode cX7_trapPosition 1 = .ok (.iconst 0, 1) := by decide +kernel
theorem dX7_trapPosition_2 : decode cX7_trapPosition 2 = .ok (.invokevirtual 179, 3) := by decide +kernel
theorem dX7_trapPosition_5 : decode cX7_trapPosition 5 = .ok (.getfield 183, 3) := by decide +kernel
theorem dX7_trapPosition_8 : decode cX7_trapPosition 8 = .ok (.ireturn, 1) := by decide +kernel
theorem dX7_outputCount_0 : decode cX7_outputCount 0 = .ok (.iload_n 1, 1) := by decide +kernel
theorem dX7_outputCount_1 : decode cX7_outputCount 1 = .ok (.invokestatic 186, 3) := by decide +kernel
theorem dX7_outputCount_4 : decode cX7_outputCount 4 = .ok (.ifCond .eq 14, 3) := by decide +kernel
theorem dX7_outputCount_7 : decode cX7_outputCount 7 = .ok (.aload_n 0, 1) := by decide +kernel
theorem dX7_outputCount_8 : decode cX7_outputCount 8 = .ok (.iload_n 1, 1) := by decide +kernel
theorem dX7_outputCount_9 : decode cX7_outputCount 9 = .ok (.invokevirtual 179, 3) := by decide +kernel
theorem dX7_outputCount_12 : decode cX7_outputCount 12 = .ok (.getfield 189, 3) := by decide +kernel
theorem dX7_outputCount_15 : decode cX7_outputCount 15 = .ok (.goto 4, 3) := by decide +kernel
theorem dX7_outputCount_18 : decode cX7_outputCount 18 = .ok (.iconst (-1), 1) := by decide +kernel
theorem dX7_outputCount_19 : decode cX7_outputCount 19 = .ok (.ireturn, 1) := by decide +kernel
theorem dX7_outputAt_0 : decode cX7_outputAt 0 = .ok (.iload_n 1, 1) := by decide +kernel
theorem dX7_outputAt_1 : decode cX7_outputAt 1 = .ok (.invokestatic 186, 3) := by decide +kernel
theorem dX7_outputAt_4 : decode cX7_outputAt 4 = .ok (.ifCond .eq 15, 3) := by decide +kernel
theorem dX7_outputAt_7 : decode cX7_outputAt 7 = .ok (.aload_n 0, 1) := by decide +kernel
theorem dX7_outputAt_8 : decode cX7_outputAt 8 = .ok (.iload_n 1, 1) := by decide +kernel
theorem dX7_outputAt_9 : decode cX7_outputAt 9 = .ok (.invokevirtual 179, 3) := by decide +kernel
theorem dX7_outputAt_12 : decode cX7_outputAt 12 = .ok (.iload_n 2, 1) := by decide +kernel
theorem dX7_outputAt_13 : decode cX7_outputAt 13 = .ok (.invokevirtual 192, 3) := by decide +kernel
theorem dX7_outputAt_16 : decode cX7_outputAt 16 = .ok (.goto 4, 3) := by decide +kernel
theorem dX7_outputAt_19 : decode cX7_outputAt 19 = .ok (.iconst 0, 1) := by decide +kernel
theorem dX7_outputAt_20 : decode cX7_outputAt 20 = .ok (.ireturn, 1) := by decide +kernel
theorem dX7_checksum_0 : decode cX7_checksum 0 = .ok (.iload_n 1, 1) := by decide +kernel
theorem dX7_checksum_1 : decode cX7_checksum 1 = .ok (.invokestatic 186, 3) := by decide +kernel
theorem dX7_checksum_4 : decode cX7_checksum 4 = .ok (.ifCond .eq 14, 3) := by decide +kernel
theorem dX7_checksum_7 : decode cX7_checksum 7 = .ok (.aload_n 0, 1) := by decide +kernel
theorem dX7_checksum_8 : decode cX7_checksum 8 = .ok (.iload_n 1, 1) := by decide +kernel
theorem dX7_checksum_9 : decode cX7_checksum 9 = .ok (.invokevirtual 179, 3) := by decide +kernel
theorem dX7_checksum_12 : decode cX7_checksum 12 = .ok (.getfield 195, 3) := by decide +kernel
theorem dX7_checksum_15 : decode cX7_checksum 15 = .ok (.goto 4, 3) := by decide +kernel
theorem dX7_checksum_18 : decode cX7_checksum 18 = .ok (.iconst 0, 1) := by decide +kernel
theorem dX7_checksum_19 : decode cX7_checksum 19 = .ok (.ireturn, 1) := by decide +kernel
theorem dX7_cost_0 : decode cX7_cost 0 = .ok (.iload_n 1, 1) := by decide +kernel
theorem dX7_cost_1 : decode cX7_cost 1 = .ok (.invokestatic 186, 3) := by decide +kernel
theorem dX7_cost_4 : decode cX7_cost 4 = .ok (.ifCond .eq 14, 3) := by decide +kernel
theorem dX7_cost_7 : decode cX7_cost 7 = .ok (.aload_n 0, 1) := by decide +kernel
theorem dX7_cost_8 : decode cX7_cost 8 = .ok (.iload_n 1, 1) := by decide +kernel
theorem dX7_cost_9 : decode cX7_cost 9 = .ok (.invokevirtual 179, 3) := by decide +kernel
theorem dX7_cost_12 : decode cX7_cost 12 = .ok (.getfield 198, 3) := by decide +kernel
theorem dX7_cost_15 : decode cX7_cost 15 = .ok (.goto 4, 3) := by decide +kernel
theorem dX7_cost_18 : decode cX7_cost 18 = .ok (.iconst (-1), 1) := by decide +kernel
theorem dX7_cost_19 : decode cX7_cost 19 = .ok (.ireturn, 1) := by decide +kernel
theorem dX7_append_0 : decode cX7_append 0 = .ok (.aload_n 0, 1) := by decide +kernel
theorem dX7_append_1 : decode cX7_append 1 = .ok (.getfield 10, 3) := by decide +kernel
theorem dX7_append_4 : decode cX7_append 4 = .ok (.getfield 112, 3) := by decide +kernel
theorem dX7_append_7 : decode cX7_append 7 = .ok (.istore_n 2, 1) := by decide +kernel
theorem dX7_append_8 : decode cX7_append 8 = .ok (.iload_n 2, 1) := by decide +kernel
theorem dX7_append_9 : decode cX7_append 9 = .ok (.bipush 24, 2) := by decide +kernel
theorem dX7_append_11 : decode cX7_append 11 = .ok (.if_icmp .lt 6, 3) := by decide +kernel
theorem dX7_append_14 : decode cX7_append 14 = .ok (.bipush (-3), 2) := by decide +kernel
theorem dX7_append_16 : decode cX7_append 16 = .ok (.ireturn, 1) := by decide +kernel
theorem dX7_append_17 : decode cX7_append 17 = .ok (.aload_n 0, 1) := by decide +kernel
theorem dX7_append_18 : decode cX7_append 18 = .ok (.getfield 10, 3) := by decide +kernel
theorem dX7_append_21 : decode cX7_append 21 = .ok (.iload_n 2, 1) := by decide +kernel
theorem dX7_append_22 : decode cX7_append 22 = .ok (.aload_n 1, 1) := by decide +kernel
theorem dX7_append_23 : decode cX7_append 23 = .ok (.invokevirtual 201, 3) := by decide +kernel
theorem dX7_append_26 : decode cX7_append 26 = .ok (.aload_n 0, 1) := by decide +kernel
theorem dX7_append_27 : decode cX7_append 27 = .ok (.getfield 19, 3) := by decide +kernel
theorem dX7_append_30 : decode cX7_append 30 = .ok (.iconst 2, 1) := by decide +kernel
theorem dX7_append_31 : decode cX7_append 31 = .ok (.iload_n 2, 1) := by decide +kernel
theorem dX7_append_32 : decode cX7_append 32 = .ok (.aload_n 1, 1) := by decide +kernel
theorem dX7_append_33 : decode cX7_append 33 = .ok (.invokevirtual 51, 3) := by decide +kernel
theorem dX7_append_36 : decode cX7_append 36 = .ok (.aload_n 0, 1) := by decide +kernel
theorem dX7_append_37 : decode cX7_append 37 = .ok (.getfield 26, 3) := by decide +kernel
theorem dX7_append_40 : decode cX7_append 40 = .ok (.iconst 1, 1) := by decide +kernel
theorem dX7_append_41 : decode cX7_append 41 = .ok (.putfield 55, 3) := by decide +kernel
theorem dX7_append_44 : decode cX7_append 44 = .ok (.iload_n 2, 1) := by decide +kernel
theorem dX7_append_45 : decode cX7_append 45 = .ok (.ireturn, 1) := by decide +kernel
theorem dX7_isAccess_0 : decode cX7_isAccess 0 = .ok (.iload_n 3, 1) := by decide +kernel
theorem dX7_isAccess_1 : decode cX7_isAccess 1 = .ok (.invokestatic 205, 3) := by decide +kernel
theorem dX7_isAccess_4 : decode cX7_isAccess 4 = .ok (.ifCond .eq 20, 3) := by decide +kernel
theorem dX7_isAccess_7 : decode cX7_isAccess 7 = .ok (.aload_n 0, 1) := by decide +kernel
theorem dX7_isAccess_8 : decode cX7_isAccess 8 = .ok (.getfield 10, 3) := by decide +kernel
theorem dX7_isAccess_11 : decode cX7_isAccess 11 = .ok (.iload_n 1, 1) := by decide +kernel
theorem dX7_isAccess_12 : decode cX7_isAccess 12 = .ok (.iload_n 2, 1) := by decide +kernel
theorem dX7_isAccess_13 : decode cX7_isAccess 13 = .ok (.iload_n 3, 1) := by decide +kernel
theorem dX7_isAccess_14 : decode cX7_isAccess 14 = .ok (.invokevirtual 77, 3) := by decide +kernel
theorem dX7_isAccess_17 : decode cX7_isAccess 17 = .ok (.ifCond .eq 7, 3) := by decide +kernel
theorem dX7_isAccess_20 : decode cX7_isAccess 20 = .ok (.iconst 1, 1) := by decide +kernel
theorem dX7_isAccess_21 : decode cX7_isAccess 21 = .ok (.goto 4, 3) := by decide +kernel
theorem dX7_isAccess_24 : decode cX7_isAccess 24 = .ok (.iconst 0, 1) := by decide +kernel
theorem dX7_isAccess_25 : decode cX7_isAccess 25 = .ok (.ireturn, 1) := by decide +kernel
theorem dX7_layoutNow_0 : decode cX7_layoutNow 0 = .ok (.aload_n 0, 1) := by decide +kernel
theorem dX7_layoutNow_1 : decode cX7_layoutNow 1 = .ok (.getfield 26, 3) := by decide +kernel
theorem dX7_layoutNow_4 : decode cX7_layoutNow 4 = .ok (.aload_n 0, 1) := by decide +kernel
theorem dX7_layoutNow_5 : decode cX7_layoutNow 5 = .ok (.getfield 10, 3) := by decide +kernel
theorem dX7_layoutNow_8 : decode cX7_layoutNow 8 = .ok (.invokevirtual 163, 3) := by decide +kernel
theorem dX7_layoutNow_11 : decode cX7_layoutNow 11 = .ok (.aload_n 0, 1) := by decide +kernel
theorem dX7_layoutNow_12 : decode cX7_layoutNow 12 = .ok (.getfield 26, 3) := by decide +kernel
theorem dX7_layoutNow_15 : decode cX7_layoutNow 15 = .ok (.iload_n 1, 1) := by decide +kernel
theorem dX7_layoutNow_16 : decode cX7_layoutNow 16 = .ok (.invokevirtual 208, 3) := by decide +kernel
theorem dX7_layoutNow_19 : decode cX7_layoutNow 19 = .ok (.areturn, 1) := by decide +kernel
theorem dX7_partitionNow_0 : decode cX7_partitionNow 0 = .ok (.aload_n 0, 1) := by decide +kernel
theorem dX7_partitionNow_1 : decode cX7_partitionNow 1 = .ok (.getfield 26, 3) := by decide +kernel
theorem dX7_partitionNow_4 : decode cX7_partitionNow 4 = .ok (.aload_n 0, 1) := by decide +kernel
theorem dX7_partitionNow_5 : decode cX7_partitionNow 5 = .ok (.getfield 10, 3) := by decide +kernel
theorem dX7_partitionNow_8 : decode cX7_partitionNow 8 = .ok (.invokevirtual 163, 3) := by decide +kernel
theorem dX7_partitionNow_11 : decode cX7_partitionNow 11 = .ok (.aload_n 0, 1) := by decide +kernel
theorem dX7_partitionNow_12 : decode cX7_partitionNow 12 = .ok (.getfield 26, 3) := by decide +kernel
theorem dX7_partitionNow_15 : decode cX7_partitionNow 15 = .ok (.iload_n 1, 1) := by decide +kernel
theorem dX7_partitionNow_16 : decode cX7_partitionNow 16 = .ok (.invokevirtual 208, 3) := by decide +kernel
theorem dX7_partitionNow_19 : decode cX7_partitionNow 19 = .ok (.iload_n 2, 1) := by decide +kernel
theorem dX7_partitionNow_20 : decode cX7_partitionNow 20 = .ok (.invokevirtual 211, 3) := by decide +kernel
theorem dX7_partitionNow_23 : decode cX7_partitionNow 23 = .ok (.areturn, 1) := by decide +kernel
theorem dX7_runOf_0 : decode cX7_runOf 0 = .ok (.aload_n 0, 1) := by decide +kernel
theorem dX7_runOf_1 : decode cX7_runOf 1 = .ok (.getfield 26, 3) := by decide +kernel
theorem dX7_runOf_4 : decode cX7_runOf 4 = .ok (.aload_n 0, 1) := by decide +kernel
theorem dX7_runOf_5 : decode cX7_runOf 5 = .ok (.getfield 10, 3) := by decide +kernel
theorem dX7_runOf_8 : decode cX7_runOf 8 = .ok (.invokevirtual 163, 3) := by decide +kernel
theorem dX7_runOf_11 : decode cX7_runOf 11 = .ok (.aload_n 0, 1) := by decide +kernel
theorem dX7_runOf_12 : decode cX7_runOf 12 = .ok (.getfield 35, 3) := by decide +kernel
theorem dX7_runOf_15 : decode cX7_runOf 15 = .ok (.iload_n 1, 1) := by decide +kernel
theorem dX7_runOf_16 : decode cX7_runOf 16 = .ok (.iconst 1, 1) := by decide +kernel
theorem dX7_runOf_17 : decode cX7_runOf 17 = .ok (.if_icmp .ne 7, 3) := by decide +kernel
theorem dX7_runOf_20 : decode cX7_runOf 20 = .ok (.iconst 1, 1) := by decide +kernel
theorem dX7_runOf_21 : decode cX7_runOf 21 = .ok (.goto 4, 3) := by decide +kernel
theorem dX7_runOf_24 : decode cX7_runOf 24 = .ok (.iconst 0, 1) := by decide +kernel
theorem dX7_runOf_25 : decode cX7_runOf 25 = .ok (.invokevirtual 215, 3) := by decide +kernel
theorem dX7_runOf_28 : decode cX7_runOf 28 = .ok (.aload_n 0, 1) := by decide +kernel
theorem dX7_runOf_29 : decode cX7_runOf 29 = .ok (.getfield 35, 3) := by decide +kernel
theorem dX7_runOf_32 : decode cX7_runOf 32 = .ok (.areturn, 1) := by decide +kernel
theorem dX7_isForm_0 : decode cX7_isForm 0 = .ok (.iload_n 0, 1) := by decide +kernel
theorem dX7_isForm_1 : decode cX7_isForm 1 = .ok (.ifCond .eq 8, 3) := by decide +kernel
theorem dX7_isForm_4 : decode cX7_isForm 4 = .ok (.iload_n 0, 1) := by decide +kernel
theorem dX7_isForm_5 : decode cX7_isForm 5 = .ok (.iconst 1, 1) := by decide +kernel
theorem dX7_isForm_6 : decode cX7_isForm 6 = .ok (.if_icmp .ne 7, 3) := by decide +kernel
theorem dX7_isForm_9 : decode cX7_isForm 9 = .ok (.iconst 1, 1) := by decide +kernel
theorem dX7_isForm_10 : decode cX7_isForm 10 = .ok (.goto 4, 3) := by decide +kernel
theorem dX7_isForm_13 : decode cX7_isForm 13 = .ok (.iconst 0, 1) := by decide +kernel
theorem dX7_isForm_14 : decode cX7_isForm 14 = .ok (.ireturn, 1) := by decide +kernel
theorem dX7_isRegister_0 : decode cX7_isRegister 0 = .ok (.iload_n 0, 1) := by decide +kernel
theorem dX7_isRegister_1 : decode cX7_isRegister 1 = .ok (.ifCond .lt 13, 3) := by decide +kernel
theorem dX7_isRegister_4 : decode cX7_isRegister 4 = .ok (.iload_n 0, 1) := by decide +kernel
theorem dX7_isRegister_5 : decode cX7_isRegister 5 = .ok (.bipush 8, 2) := by decide +kernel
theorem dX7_isRegister_7 : decode cX7_isRegister 7 = .ok (.if_icmp .ge 7, 3) := by decide +kernel
theorem dX7_isRegister_10 : decode cX7_isRegister 10 = .ok (.iconst 1, 1) := by decide +kernel
theorem dX7_isRegister_11 : decode cX7_isRegister 11 = .ok (.goto 4, 3) := by decide +kernel
theorem dX7_isRegister_14 : decode cX7_isRegister 14 = .ok (.iconst 0, 1) := by decide +kernel
theorem dX7_isRegister_15 : decode cX7_isRegister 15 = .ok (.ireturn, 1) := by decide +kernel
theorem dX7_isScalarLength_0 : decode cX7_isScalarLength 0 = .ok (.iload_n 0, 1) := by decide +kernel
theorem dX7_isScalarLength_1 : decode cX7_isScalarLength 1 = .ok (.iconst 1, 1) := by decide +kernel
theorem dX7_isScalarLength_2 : decode cX7_isScalarLength 2 = .ok (.if_icmp .eq 13, 3) := by decide +kernel
theorem dX7_isScalarLength_5 : decode cX7_isScalarLength 5 = .ok (.iload_n 0, 1) := by decide +kernel
theorem dX7_isScalarLength_6 : decode cX7_isScalarLength 6 = .ok (.iconst 2, 1) := by decide +kernel
theorem dX7_isScalarLength_7 : decode cX7_isScalarLength 7 = .ok (.if_icmp .eq 8, 3) := by decide +kernel
theorem dX7_isScalarLength_10 : decode cX7_isScalarLength 10 = .ok (.iload_n 0, 1) := by decide +kernel
theorem dX7_isScalarLength_11 : decode cX7_isScalarLength 11 = .ok (.iconst 4, 1) := by decide +kernel
theorem dX7_isScalarLength_12 : decode cX7_isScalarLength 12 = .ok (.if_icmp .ne 7, 3) := by decide +kernel
theorem dX7_isScalarLength_15 : decode cX7_isScalarLength 15 = .ok (.iconst 1, 1) := by decide +kernel
theorem dX7_isScalarLength_16 : decode cX7_isScalarLength 16 = .ok (.goto 4, 3) := by decide +kernel
theorem dX7_isScalarLength_19 : decode cX7_isScalarLength 19 = .ok (.iconst 0, 1) := by decide +kernel
theorem dX7_isScalarLength_20 : decode cX7_isScalarLength 20 = .ok (.ireturn, 1) := by decide +kernel
theorem dX7_oneIf_0 : decode cX7_oneIf 0 = .ok (.iload_n 0, 1) := by decide +kernel
theorem dX7_oneIf_1 : decode cX7_oneIf 1 = .ok (.ifCond .eq 7, 3) := by decide +kernel
theorem dX7_oneIf_4 : decode cX7_oneIf 4 = .ok (.iconst 1, 1) := by decide +kernel
theorem dX7_oneIf_5 : decode cX7_oneIf 5 = .ok (.goto 4, 3) := by decide +kernel
theorem dX7_oneIf_8 : decode cX7_oneIf 8 = .ok (.iconst 0, 1) := by decide +kernel
theorem dX7_oneIf_9 : decode cX7_oneIf 9 = .ok (.ireturn, 1) := by decide +kernel
theorem dL_law_0 : decode cL_law 0 = .ok (.new 7, 3) := by decide +kernel
theorem dL_law_3 : decode cL_law 3 = .ok (.dup, 1) := by decide +kernel
theorem dL_law_4 : decode cL_law 4 = .ok (.invokespecial 9, 3) := by decide +kernel
theorem dL_law_7 : decode cL_law 7 = .ok (.astore_n 1, 1) := by decide +kernel
theorem dL_law_8 : decode cL_law 8 = .ok (.new 10, 3) := by decide +kernel
theorem dL_law_11 : decode cL_law 11 = .ok (.dup, 1) := by decide +kernel
theorem dL_law_12 : decode cL_law 12 = .ok (.invokespecial 12, 3) := by decide +kernel
theorem dL_law_15 : decode cL_law 15 = .ok (.astore_n 2, 1) := by decide +kernel
theorem dL_law_16 : decode cL_law 16 = .ok (.iconst 0, 1) := by decide +kernel
theorem dL_law_17 : decode cL_law 17 = .ok (.istore_n 3, 1) := by decide +kernel
theorem dL_law_18 : decode cL_law 18 = .ok (.iload_n 3, 1) := by decide +kernel
theorem dL_law_19 : decode cL_law 19 = .ok (.aload_n 0, 1) := by decide +kernel
theorem dL_law_20 : decode cL_law 20 = .ok (.arraylength, 1) := by decide +kernel
theorem dL_law_21 : decode cL_law 21 = .ok (.bipush 6, 2) := by decide +kernel
theorem dL_law_23 : decode cL_law 23 = .ok (.isub, 1) := by decide +kernel
theorem dL_law_24 : decode cL_law 24 = .ok (.if_icmp .gt 953, 3) := by decide +kernel
theorem dL_law_27 : decode cL_law 27 = .ok (.aload_n 0, 1) := by decide +kernel
theorem dL_law_28 : decode cL_law 28 = .ok (.iload_n 3, 1) := by decide +kernel
theorem dL_law_29 : decode cL_law 29 = .ok (.iaload, 1) := by decide +kernel
theorem dL_law_30 : decode cL_law 30 = .ok (.bipush 31, 2) := by decide +kernel
theorem dL_law_32 : decode cL_law 32 = .ok (.iand, 1) := by decide +kernel
theorem dL_law_33 : decode cL_law 33 = .ok (.tableswitch 938 0 28 #[131, 154, 207, 260, 323, 346, 379, 422, 455, 478, 501, 514, 527, 540, 563, 586, 619, 652, 685, 718, 741, 764, 797, 810, 823, 836, 859, 892, 915], 131) := by decide +kernel
theorem dL_law_164 : decode cL_law 164 = .ok (.aload_n 1, 1) := by decide +kernel
theorem dL_law_165 : decode cL_law 165 = .ok (.aload_n 0, 1) := by decide +kernel
theorem dL_law_166 : decode cL_law 166 = .ok (.iload_n 3, 1) := by decide +kernel
theorem dL_law_167 : decode cL_law 167 = .ok (.iconst 1, 1) := by decide +kernel
theorem dL_law_168 : decode cL_law 168 = .ok (.iadd, 1) := by decide +kernel
theorem dL_law_169 : decode cL_law 169 = .ok (.iaload, 1) := by decide +kernel
theorem dL_law_170 : decode cL_law 170 = .ok (.invokevirtual 13, 3) := by decide +kernel
theorem dL_law_173 : decode cL_law 173 = .ok (.aload_n 2, 1) := by decide +kernel
theorem dL_law_174 : decode cL_law 174 = .ok (.aload_n 0, 1) := by decide +kernel
theorem dL_law_175 : decode cL_law 175 = .ok (.iload_n 3, 1) := by decide +kernel
theorem dL_law_176 : decode cL_law 176 = .ok (.iconst 1, 1) := by decide +kernel
theorem dL_law_177 : decode cL_law 177 = .ok (.iadd, 1) := by decide +kernel
theorem dL_law_178 : decode cL_law 178 = .ok (.iaload, 1) := by decide +kernel
theorem dL_law_179 : decode cL_law 179 = .ok (.invokevirtual 17, 3) := by decide +kernel
theorem dL_law_182 : decode cL_law 182 = .ok (.if_icmp .eq 789, 3) := by decide +kernel
theorem dL_law_185 : decode cL_law 185 = .ok (.iconst 0, 1) := by decide +kernel
theorem dL_law_186 : decode cL_law 186 = .ok (.ireturn, 1) := by decide +kernel
theorem dL_law_187 : decode cL_law 187 = .ok (.aload_n 1, 1) := by decide +kernel
theorem dL_law_188 : decode cL_law 188 = .ok (.aload_n 0, 1) := by decide +kernel
theorem dL_law_189 : decode cL_law 189 = .ok (.iload_n 3, 1) := by decide +kernel
theorem dL_law_190 : decode cL_law 190 = .ok (.iconst 1, 1) := by decide +kernel
theorem dL_law_191 : decode cL_law 191 = .ok (.iadd, 1) := by decide +kernel
theorem dL_law_192 : decode cL_law 192 = .ok (.iaload, 1) := by decide +kernel
theorem dL_law_193 : decode cL_law 193 = .ok (.aload_n 0, 1) := by decide +kernel
theorem dL_law_194 : decode cL_law 194 = .ok (.iload_n 3, 1) := by decide +kernel
theorem dL_law_195 : decode cL_law 195 = .ok (.iconst 2, 1) := by decide +kernel
theorem dL_law_196 : decode cL_law 196 = .ok (.iadd, 1) := by decide +kernel
theorem dL_law_197 : decode cL_law 197 = .ok (.iaload, 1) := by decide +kernel
theorem dL_law_198 : decode cL_law 198 = .ok (.aload_n 0, 1) := by decide +kernel
theorem dL_law_199 : decode cL_law 199 = .ok (.iload_n 3, 1) := by decide +kernel
theorem dL_law_200 : decode cL_law 200 = .ok (.iconst 3, 1) := by decide +kernel
theorem dL_law_201 : decode cL_law 201 = .ok (.iadd, 1) := by decide +kernel
theorem dL_law_202 : decode cL_law 202 = .ok (.iaload, 1) := by decide +kernel
theorem dL_law_203 : decode cL_law 203 = .ok (.aload_n 0, 1) := by decide +kernel
theorem dL_law_204 : decode cL_law 204 = .ok (.iload_n 3, 1) := by decide +kernel
theorem dL_law_205 : decode cL_law 205 = .ok (.iconst 4, 1) := by decide +kernel
theorem dL_law_206 : decode cL_law 206 = .ok (.iadd, 1) := by decide +kernel
theorem dL_law_207 : decode cL_law 207 = .ok (.iaload, 1) := by decide +kernel
theorem dL_law_208 : decode cL_law 208 = .ok (.invokevirtual 18, 3) := by decide +kernel
theorem dL_law_211 : decode cL_law 211 = .ok (.aload_n 2, 1) := by decide +kernel
theorem dL_law_212 : decode cL_law 212 = .ok (.aload_n 0, 1) := by decide +kernel
theorem dL_law_213 : decode cL_law 213 = .ok (.iload_n 3, 1) := by decide +kernel
theorem dL_law_214 : decode cL_law 214 = .ok (.iconst 1, 1) := by decide +kernel
theorem dL_law_215 : decode cL_law 215 = .ok (.iadd, 1) := by decide +kernel
theorem dL_law_216 : decode cL_law 216 = .ok (.iaload, 1) := by decide +kernel
theorem dL_law_217 : decode cL_law 217 = .ok (.aload_n 0, 1) := by decide +kernel
theorem dL_law_218 : decode cL_law 218 = .ok (.iload_n 3, 1) := by decide +kernel
theorem dL_law_219 : decode cL_law 219 = .ok (.iconst 2, 1) := by decide +kernel
theorem dL_law_220 : decode cL_law 220 = .ok (.iadd, 1) := by decide +kernel
theorem dL_law_221 : decode cL_law 221 = .ok (.iaload, 1) := by decide +kernel
theorem dL_law_222 : decode cL_law 222 = .ok (.aload_n 0, 1) := by decide +kernel
theorem dL_law_223 : decode cL_law 223 = .ok (.iload_n 3, 1) := by decide +kernel
theorem dL_law_224 : decode cL_law 224 = .ok (.iconst 3, 1) := by decide +kernel
theorem dL_law_225 : decode cL_law 225 = .ok (.iadd, 1) := by decide +kernel
theorem dL_law_226 : decode cL_law 226 = .ok (.iaload, 1) := by decide +kernel
theorem dL_law_227 : decode cL_law 227 = .ok (.aload_n 0, 1) := by decide +kernel
theorem dL_law_228 : decode cL_law 228 = .ok (.iload_n 3, 1) := by decide +kernel
theorem dL_law_229 : decode cL_law 229 = .ok (.iconst 4, 1) := by decide +kernel
theorem dL_law_230 : decode cL_law 230 = .ok (.iadd, 1) := by decide +kernel
theorem dL_law_231 : decode cL_law 231 = .ok (.iaload, 1) := by decide +kernel
theorem dL_law_232 : decode cL_law 232 = .ok (.invokevirtual 22, 3) := by decide +kernel
theorem dL_law_235 : decode cL_law 235 = .ok (.if_icmp .eq 736, 3) := by decide +kernel
theorem dL_law_238 : decode cL_law 238 = .ok (.iconst 0, 1) := by decide +kernel
theorem dL_law_239 : decode cL_law 239 = .ok (.ireturn, 1) := by decide +kernel
theorem dL_law_240 : decode cL_law 240 = .ok (.aload_n 1, 1) := by decide +kernel
theorem dL_law_241 : decode cL_law 241 = .ok (.aload_n 0, 1) := by decide +kernel
theorem dL_law_242 : decode cL_law 242 = .ok (.iload_n 3, 1) := by decide +kernel
theorem dL_law_243 : decode cL_law 243 = .ok (.iconst 1, 1) := by decide +kernel
theorem dL_law_244 : decode cL_law 244 = .ok (.iadd, 1) := by decide +kernel
theorem dL_law_245 : decode cL_law 245 = .ok (.iaload, 1) := by decide +kernel
theorem dL_law_246 : decode cL_law 246 = .ok (.aload_n 0, 1) := by decide +kernel
theorem dL_law_247 : decode cL_law 247 = .ok (.iload_n 3, 1) := by decide +kernel
theorem dL_law_248 : decode cL_law 248 = .ok (.iconst 2, 1) := by decide +kernel
theorem dL_law_249 : decode cL_law 249 = .ok (.iadd, 1) := by decide +kernel
theorem dL_law_250 : decode cL_law 250 = .ok (.iaload, 1) := by decide +kernel
theorem dL_law_251 : decode cL_law 251 = .ok (.aload_n 0, 1) := by decide +kernel
theorem dL_law_252 : decode cL_law 252 = .ok (.iload_n 3, 1) := by decide +kernel
theorem dL_law_253 : decode cL_law 253 = .ok (.iconst 3, 1) := by decide +kernel
theorem dL_law_254 : decode cL_law 254 = .ok (.iadd, 1) := by decide +kernel
theorem dL_law_255 : decode cL_law 255 = .ok (.iaload, 1) := by decide +kernel
theorem dL_law_256 : decode cL_law 256 = .ok (.aload_n 0, 1) := by decide +kernel
theorem dL_law_257 : decode cL_law 257 = .ok (.iload_n 3, 1) := by decide +kernel
theorem dL_law_258 : decode cL_law 258 = .ok (.iconst 4, 1) := by decide +kernel
theorem dL_law_259 : decode cL_law 259 = .ok (.iadd, 1) := by decide +kernel
theorem dL_law_260 : decode cL_law 260 = .ok (.iaload, 1) := by decide +kernel
theorem dL_law_261 : decode cL_law 261 = .ok (.invokevirtual 23, 3) := by decide +kernel
theorem dL_law_264 : decode cL_law 264 = .ok (.aload_n 2, 1) := by decide +kernel
theorem dL_law_265 : decode cL_law 265 = .ok (.aload_n 0, 1) := by decide +kernel
theorem dL_law_266 : decode cL_law 266 = .ok (.iload_n 3, 1) := by decide +kernel
theorem dL_law_267 : decode cL_law 267 = .ok (.iconst 1, 1) := by decide +kernel
theorem dL_law_268 : decode cL_law 268 = .ok (.iadd, 1) := by decide +kernel
theorem dL_law_269 : decode cL_law 269 = .ok (.iaload, 1) := by decide +kernel
theorem dL_law_270 : decode cL_law 270 = .ok (.aload_n 0, 1) := by decide +kernel
theorem dL_law_271 : decode cL_law 271 = .ok (.iload_n 3, 1) := by decide +kernel
theorem dL_law_272 : decode cL_law 272 = .ok (.iconst 2, 1) := by decide +kernel
theorem dL_law_273 : decode cL_law 273 = .ok (.iadd, 1) := by decide +kernel
theorem dL_law_274 : decode cL_law 274 = .ok (.iaload, 1) := by decide +kernel
theorem dL_law_275 : decode cL_law 275 = .ok (.aload_n 0, 1) := by decide +kernel
theorem dL_law_276 : decode cL_law 276 = .ok (.iload_n 3, 1) := by decide +kernel
theorem dL_law_277 : decode cL_law 277 = .ok (.iconst 3, 1) := by decide +kernel
theorem dL_law_278 : decode cL_law 278 = .ok (.iadd, 1) := by decide +kernel
theorem dL_law_279 : decode cL_law 279 = .ok (.iaload, 1) := by decide +kernel
theorem dL_law_280 : decode cL_law 280 = .ok (.aload_n 0, 1) := by decide +kernel
theorem dL_law_281 : decode cL_law 281 = .ok (.iload_n 3, 1) := by decide +kernel
theorem dL_law_282 : decode cL_law 282 = .ok (.iconst 4, 1) := by decide +kernel
theorem dL_law_283 : decode cL_law 283 = .ok (.iadd, 1) := by decide +kernel
theorem dL_law_284 : decode cL_law 284 = .ok (.iaload, 1) := by decide +kernel
theorem dL_law_285 : decode cL_law 285 = .ok (.invokevirtual 26, 3) := by decide +kernel
theorem dL_law_288 : decode cL_law 288 = .ok (.if_icmp .eq 683, 3) := by decide +kernel
theorem dL_law_291 : decode cL_law 291 = .ok (.iconst 0, 1) := by decide +kernel
theorem dL_law_292 : decode cL_law 292 = .ok (.ireturn, 1) := by decide +kernel
theorem dL_law_293 : decode cL_law 293 = .ok (.aload_n 1, 1) := by decide +kernel
theorem dL_law_294 : decode cL_law 294 = .ok (.aload_n 0, 1) := by decide +kernel
theorem dL_law_295 : decode cL_law 295 = .ok (.iload_n 3, 1) := by decide +kernel
theorem dL_law_296 : decode cL_law 296 = .ok (.iconst 1, 1) := by decide +kernel
theorem dL_law_297 : decode cL_law 297 = .ok (.iadd, 1) := by decide +kernel
theorem dL_law_298 : decode cL_law 298 = .ok (.iaload, 1) := by decide +kernel
theorem dL_law_299 : decode cL_law 299 = .ok (.aload_n 0, 1) := by decide +kernel
theorem dL_law_300 : decode cL_law 300 = .ok (.iload_n 3, 1) := by decide +kernel
theorem dL_law_301 : decode cL_law 301 = .ok (.iconst 2, 1) := by decide +kernel
theorem dL_law_302 : decode cL_law 302 = .ok (.iadd, 1) := by decide +kernel
theorem dL_law_303 : decode cL_law 303 = .ok (.iaload, 1) := by decide +kernel
theorem dL_law_304 : decode cL_law 304 = .ok (.aload_n 0, 1) := by decide +kernel
theorem dL_law_305 : decode cL_law 305 = .ok (.iload_n 3, 1) := by decide +kernel
theorem dL_law_306 : decode cL_law 306 = .ok (.iconst 3, 1) := by decide +kernel
theorem dL_law_307 : decode cL_law 307 = .ok (.iadd, 1) := by decide +kernel
theorem dL_law_308 : decode cL_law 308 = .ok (.iaload, 1) := by decide +kernel
theorem dL_law_309 : decode cL_law 309 = .ok (.aload_n 0, 1) := by decide +kernel
theorem dL_law_310 : decode cL_law 310 = .ok (.iload_n 3, 1) := by decide +kernel
theorem dL_law_311 : decode cL_law 311 = .ok (.iconst 4, 1) := by decide +kernel
theorem dL_law_312 : decode cL_law 312 = .ok (.iadd, 1) := by decide +kernel
theorem dL_law_313 : decode cL_law 313 = .ok (.iaload, 1) := by decide +kernel
theorem dL_law_314 : decode cL_law 314 = .ok (.aload_n 0, 1) := by decide +kernel
theorem dL_law_315 : decode cL_law 315 = .ok (.iload_n 3, 1) := by decide +kernel
theorem dL_law_316 : decode cL_law 316 = .ok (.iconst 5, 1) := by decide +kernel
theorem dL_law_317 : decode cL_law 317 = .ok (.iadd, 1) := by decide +kernel
theorem dL_law_318 : decode cL_law 318 = .ok (.iaload, 1) := by decide +kernel
theorem dL_law_319 : decode cL_law 319 = .ok (.invokevirtual 27, 3) := by decide +kernel
theorem dL_law_322 : decode cL_law 322 = .ok (.aload_n 2, 1) := by decide +kernel
theorem dL_law_323 : decode cL_law 323 = .ok (.aload_n 0, 1) := by decide +kernel
theorem dL_law_324 : decode cL_law 324 = .ok (.iload_n 3, 1) := by decide +kernel
theorem dL_law_325 : decode cL_law 325 = .ok (.iconst 1, 1) := by decide +kernel
theorem dL_law_326 : decode cL_law 326 = .ok (.iadd, 1) := by decide +kernel
theorem dL_law_327 : decode cL_law 327 = .ok (.iaload, 1) := by decide +kernel
theorem dL_law_328 : decode cL_law 328 = .ok (.aload_n 0, 1) := by decide +kernel
theorem dL_law_329 : decode cL_law 329 = .ok (.iload_n 3, 1) := by decide +kernel
theorem dL_law_330 : decode cL_law 330 = .ok (.iconst 2, 1) := by decide +kernel
theorem dL_law_331 : decode cL_law 331 = .ok (.iadd, 1) := by decide +kernel
theorem dL_law_332 : decode cL_law 332 = .ok (.iaload, 1) := by decide +kernel
theorem dL_law_333 : decode cL_law 333 = .ok (.aload_n 0, 1) := by decide +kernel
theorem dL_law_334 : decode cL_law 334 = .ok (.iload_n 3, 1) := by decide +kernel
theorem dL_law_335 : decode cL_law 335 = .ok (.iconst 3, 1) := by decide +kernel
theorem dL_law_336 : decode cL_law 336 = .ok (.iadd, 1) := by decide +kernel
theorem dL_law_337 : decode cL_law 337 = .ok (.iaload, 1) := by decide +kernel
theorem dL_law_338 : decode cL_law 338 = .ok (.aload_n 0, 1) := by decide +kernel
theorem dL_law_339 : decode cL_law 339 = .ok (.iload_n 3, 1) := by decide +kernel
theorem dL_law_340 : decode cL_law 340 = .ok (.iconst 4, 1) := by decide +kernel
theorem dL_law_341 : decode cL_law 341 = .ok (.iadd, 1) := by decide +kernel
theorem dL_law_342 : decode cL_law 342 = .ok (.iaload, 1) := by decide +kernel
theorem dL_law_343 : decode cL_law 343 = .ok (.aload_n 0, 1) := by decide +kernel
theorem dL_law_344 : decode cL_law 344 = .ok (.iload_n 3, 1) := by decide +kernel
theorem dL_law_345 : decode cL_law 345 = .ok (.iconst 5, 1) := by decide +kernel
theorem dL_law_346 : decode cL_law 346 = .ok (.iadd, 1) := by decide +kernel
theorem dL_law_347 : decode cL_law 347 = .ok (.iaload, 1) := by decide +kernel
theorem dL_law_348 : decode cL_law 348 = .ok (.invokevirtual 31, 3) := by decide +kernel
theorem dL_law_351 : decode cL_law 351 = .ok (.if_icmp .eq 620, 3) := by decide +kernel
theorem dL_law_354 : decode cL_law 354 = .ok (.iconst 0, 1) := by decide +kernel
theorem dL_law_355 : decode cL_law 355 = .ok (.ireturn, 1) := by decide +kernel
theorem dL_law_356 : decode cL_law 356 = .ok (.aload_n 1, 1) := by decide +kernel
theorem dL_law_357 : decode cL_law 357 = .ok (.aload_n 0, 1) := by decide +kernel
theorem dL_law_358 : decode cL_law 358 = .ok (.iload_n 3, 1) := by decide +kernel
theorem dL_law_359 : decode cL_law 359 = .ok (.iconst 1, 1) := by decide +kernel
theorem dL_law_360 : decode cL_law 360 = .ok (.iadd, 1) := by decide +kernel
theorem dL_law_361 : decode cL_law 361 = .ok (.iaload, 1) := by decide +kernel
theorem dL_law_362 : decode cL_law 362 = .ok (.invokevirtual 32, 3) := by decide +kernel
theorem dL_law_365 : decode cL_law 365 = .ok (.aload_n 2, 1) := by decide +kernel
theorem dL_law_366 : decode cL_law 366 = .ok (.aload_n 0, 1) := by decide +kernel
theorem dL_law_367 : decode cL_law 367 = .ok (.iload_n 3, 1) := by decide +kernel
theorem dL_law_368 : decode cL_law 368 = .ok (.iconst 1, 1) := by decide +kernel
theorem dL_law_369 : decode cL_law 369 = .ok (.iadd, 1) := by decide +kernel
theorem dL_law_370 : decode cL_law 370 = .ok (.iaload, 1) := by decide +kernel
theorem dL_law_371 : decode cL_law 371 = .ok (.invokevirtual 35, 3) := by decide +kernel
theorem dL_law_374 : decode cL_law 374 = .ok (.if_icmp .eq 597, 3) := by decide +kernel
theorem dL_law_377 : decode cL_law 377 = .ok (.iconst 0, 1) := by decide +kernel
theorem dL_law_378 : decode cL_law 378 = .ok (.ireturn, 1) := by decide +kernel
theorem dL_law_379 : decode cL_law 379 = .ok (.aload_n 1, 1) := by decide +kernel
theorem dL_law_380 : decode cL_law 380 = .ok (.aload_n 0, 1) := by decide +kernel
theorem dL_law_381 : decode cL_law 381 = .ok (.iload_n 3, 1) := by decide +kernel
theorem dL_law_382 : decode cL_law 382 = .ok (.iconst 1, 1) := by decide +kernel
theorem dL_law_383 : decode cL_law 383 = .ok (.iadd, 1) := by decide +kernel
theorem dL_law_384 : decode cL_law 384 = .ok (.iaload, 1) := by decide +kernel
theorem dL_law_385 : decode cL_law 385 = .ok (.aload_n 0, 1) := by decide +kernel
theorem dL_law_386 : decode cL_law 386 = .ok (.iload_n 3, 1) := by decide +kernel
theorem dL_law_387 : decode cL_law 387 = .ok (.iconst 2, 1) := by decide +kernel
theorem dL_law_388 : decode cL_law 388 = .ok (.iadd, 1) := by decide +kernel
theorem dL_law_389 : decode cL_law 389 = .ok (.iaload, 1) := by decide +kernel
theorem dL_law_390 : decode cL_law 390 = .ok (.invokevirtual 36, 3) := by decide +kernel
theorem dL_law_393 : decode cL_law 393 = .ok (.aload_n 2, 1) := by decide +kernel
theorem dL_law_394 : decode cL_law 394 = .ok (.aload_n 0, 1) := by decide +kernel
theorem dL_law_395 : decode cL_law 395 = .ok (.iload_n 3, 1) := by decide +kernel
theorem dL_law_396 : decode cL_law 396 = .ok (.iconst 1, 1) := by decide +kernel
theorem dL_law_397 : decode cL_law 397 = .ok (.iadd, 1) := by decide +kernel
theorem dL_law_398 : decode cL_law 398 = .ok (.iaload, 1) := by decide +kernel
theorem dL_law_399 : decode cL_law 399 = .ok (.aload_n 0, 1) := by decide +kernel
theorem dL_law_400 : decode cL_law 400 = .ok (.iload_n 3, 1) := by decide +kernel
theorem dL_law_401 : decode cL_law 401 = .ok (.iconst 2, 1) := by decide +kernel
theorem dL_law_402 : decode cL_law 402 = .ok (.iadd, 1) := by decide +kernel
theorem dL_law_403 : decode cL_law 403 = .ok (.iaload, 1) := by decide +kernel
theorem dL_law_404 : decode cL_law 404 = .ok (.invokevirtual 40, 3) := by decide +kernel
theorem dL_law_407 : decode cL_law 407 = .ok (.if_icmp .eq 564, 3) := by decide +kernel
theorem dL_law_410 : decode cL_law 410 = .ok (.iconst 0, 1) := by decide +kernel
theorem dL_law_411 : decode cL_law 411 = .ok (.ireturn, 1) := by decide +kernel
theorem dL_law_412 : decode cL_law 412 = .ok (.aload_n 1, 1) := by decide +kernel
theorem dL_law_413 : decode cL_law 413 = .ok (.aload_n 0, 1) := by decide +kernel
theorem dL_law_414 : decode cL_law 414 = .ok (.iload_n 3, 1) := by decide +kernel
theorem dL_law_415 : decode cL_law 415 = .ok (.iconst 1, 1) := by decide +kernel
theorem dL_law_416 : decode cL_law 416 = .ok (.iadd, 1) := by decide +kernel
theorem dL_law_417 : decode cL_law 417 = .ok (.iaload, 1) := by decide +kernel
theorem dL_law_418 : decode cL_law 418 = .ok (.aload_n 0, 1) := by decide +kernel
theorem dL_law_419 : decode cL_law 419 = .ok (.iload_n 3, 1) := by decide +kernel
theorem dL_law_420 : decode cL_law 420 = .ok (.iconst 2, 1) := by decide +kernel
theorem dL_law_421 : decode cL_law 421 = .ok (.iadd, 1) := by decide +kernel
theorem dL_law_422 : decode cL_law 422 = .ok (.iaload, 1) := by decide +kernel
theorem dL_law_423 : decode cL_law 423 = .ok (.aload_n 0, 1) := by decide +kernel
theorem dL_law_424 : decode cL_law 424 = .ok (.iload_n 3, 1) := by decide +kernel
theorem dL_law_425 : decode cL_law 425 = .ok (.iconst 3, 1) := by decide +kernel
theorem dL_law_426 : decode cL_law 426 = .ok (.iadd, 1) := by decide +kernel
theorem dL_law_427 : decode cL_law 427 = .ok (.iaload, 1) := by decide +kernel
theorem dL_law_428 : decode cL_law 428 = .ok (.invokevirtual 41, 3) := by decide +kernel
theorem dL_law_431 : decode cL_law 431 = .ok (.aload_n 2, 1) := by decide +kernel
theorem dL_law_432 : decode cL_law 432 = .ok (.aload_n 0, 1) := by decide +kernel
theorem dL_law_433 : decode cL_law 433 = .ok (.iload_n 3, 1) := by decide +kernel
theorem dL_law_434 : decode cL_law 434 = .ok (.iconst 1, 1) := by decide +kernel
theorem dL_law_435 : decode cL_law 435 = .ok (.iadd, 1) := by decide +kernel
theorem dL_law_436 : decode cL_law 436 = .ok (.iaload, 1) := by decide +kernel
theorem dL_law_437 : decode cL_law 437 = .ok (.aload_n 0, 1) := by decide +kernel
theorem dL_law_438 : decode cL_law 438 = .ok (.iload_n 3, 1) := by decide +kernel
theorem dL_law_439 : decode cL_law 439 = .ok (.iconst 2, 1) := by decide +kernel
theorem dL_law_440 : decode cL_law 440 = .ok (.iadd, 1) := by decide +kernel
theorem dL_law_441 : decode cL_law 441 = .ok (.iaload, 1) := by decide +kernel
theorem dL_law_442 : decode cL_law 442 = .ok (.aload_n 0, 1) := by decide +kernel
theorem dL_law_443 : decode cL_law 443 = .ok (.iload_n 3, 1) := by decide +kernel
theorem dL_law_444 : decode cL_law 444 = .ok (.iconst 3, 1) := by decide +kernel
theorem dL_law_445 : decode cL_law 445 = .ok (.iadd, 1) := by decide +kernel
theorem dL_law_446 : decode cL_law 446 = .ok (.iaload, 1) := by decide +kernel
theorem dL_law_447 : decode cL_law 447 = .ok (.invokevirtual 45, 3) := by decide +kernel
theorem dL_law_450 : decode cL_law 450 = .ok (.if_icmp .eq 521, 3) := by decide +kernel
theorem dL_law_453 : decode cL_law 453 = .ok (.iconst 0, 1) := by decide +kernel
theorem dL_law_454 : decode cL_law 454 = .ok (.ireturn, 1) := by decide +kernel
theorem dL_law_455 : decode cL_law 455 = .ok (.aload_n 1, 1) := by decide +kernel
theorem dL_law_456 : decode cL_law 456 = .ok (.aload_n 0, 1) := by decide +kernel
theorem dL_law_457 : decode cL_law 457 = .ok (.iload_n 3, 1) := by decide +kernel
theorem dL_law_458 : decode cL_law 458 = .ok (.iconst 1, 1) := by decide +kernel
theorem dL_law_459 : decode cL_law 459 = .ok (.iadd, 1) := by decide +kernel
theorem dL_law_460 : decode cL_law 460 = .ok (.iaload, 1) := by decide +kernel
theorem dL_law_461 : decode cL_law 461 = .ok (.aload_n 0, 1) := by decide +kernel
theorem dL_law_462 : decode cL_law 462 = .ok (.iload_n 3, 1) := by decide +kernel
theorem dL_law_463 : decode cL_law 463 = .ok (.iconst 2, 1) := by decide +kernel
theorem dL_law_464 : decode cL_law 464 = .ok (.iadd, 1) := by decide +kernel
theorem dL_law_465 : decode cL_law 465 = .ok (.iaload, 1) := by decide +kernel
theorem dL_law_466 : decode cL_law 466 = .ok (.invokevirtual 46, 3) := by decide +kernel
theorem dL_law_469 : decode cL_law 469 = .ok (.aload_n 2, 1) := by decide +kernel
theorem dL_law_470 : decode cL_law 470 = .ok (.aload_n 0, 1) := by decide +kernel
theorem dL_law_471 : decode cL_law 471 = .ok (.iload_n 3, 1) := by decide +kernel
theorem dL_law_472 : decode cL_law 472 = .ok (.iconst 1, 1) := by decide +kernel
theorem dL_law_473 : decode cL_law 473 = .ok (.iadd, 1) := by decide +kernel
theorem dL_law_474 : decode cL_law 474 = .ok (.iaload, 1) := by decide +kernel
theorem dL_law_475 : decode cL_law 475 = .ok (.aload_n 0, 1) := by decide +kernel
theorem dL_law_476 : decode cL_law 476 = .ok (.iload_n 3, 1) := by decide +kernel
theorem dL_law_477 : decode cL_law 477 = .ok (.iconst 2, 1) := by decide +kernel
theorem dL_law_478 : decode cL_law 478 = .ok (.iadd, 1) := by decide +kernel
theorem dL_law_479 : decode cL_law 479 = .ok (.iaload, 1) := by decide +kernel
theorem dL_law_480 : decode cL_law 480 = .ok (.invokevirtual 49, 3) := by decide +kernel
theorem dL_law_483 : decode cL_law 483 = .ok (.if_icmp .eq 488, 3) := by decide +kernel
theorem dL_law_486 : decode cL_law 486 = .ok (.iconst 0, 1) := by decide +kernel
theorem dL_law_487 : decode cL_law 487 = .ok (.ireturn, 1) := by decide +kernel
theorem dL_law_488 : decode cL_law 488 = .ok (.aload_n 1, 1) := by decide +kernel
theorem dL_law_489 : decode cL_law 489 = .ok (.aload_n 0, 1) := by decide +kernel
theorem dL_law_490 : decode cL_law 490 = .ok (.iload_n 3, 1) := by decide +kernel
theorem dL_law_491 : decode cL_law 491 = .ok (.iconst 1, 1) := by decide +kernel
theorem dL_law_492 : decode cL_law 492 = .ok (.iadd, 1) := by decide +kernel
theorem dL_law_493 : decode cL_law 493 = .ok (.iaload, 1) := by decide +kernel
theorem dL_law_494 : decode cL_law 494 = .ok (.invokevirtual 50, 3) := by decide +kernel
theorem dL_law_497 : decode cL_law 497 = .ok (.aload_n 2, 1) := by decide +kernel
theorem dL_law_498 : decode cL_law 498 = .ok (.aload_n 0, 1) := by decide +kernel
theorem dL_law_499 : decode cL_law 499 = .ok (.iload_n 3, 1) := by decide +kernel
theorem dL_law_500 : decode cL_law 500 = .ok (.iconst 1, 1) := by decide +kernel
theorem dL_law_501 : decode cL_law 501 = .ok (.iadd, 1) := by decide +kernel
theorem dL_law_502 : decode cL_law 502 = .ok (.iaload, 1) := by decide +kernel
theorem dL_law_503 : decode cL_law 503 = .ok (.invokevirtual 53, 3) := by decide +kernel
theorem dL_law_506 : decode cL_law 506 = .ok (.if_icmp .eq 465, 3) := by decide +kernel
theorem dL_law_509 : decode cL_law 509 = .ok (.iconst 0, 1) := by decide +kernel
theorem dL_law_510 : decode cL_law 510 = .ok (.ireturn, 1) := by decide +kernel
theorem dL_law_511 : decode cL_law 511 = .ok (.aload_n 1, 1) := by decide +kernel
theorem dL_law_512 : decode cL_law 512 = .ok (.aload_n 0, 1) := by decide +kernel
theorem dL_law_513 : decode cL_law 513 = .ok (.iload_n 3, 1) := by decide +kernel
theorem dL_law_514 : decode cL_law 514 = .ok (.iconst 1, 1) := by decide +kernel
theorem dL_law_515 : decode cL_law 515 = .ok (.iadd, 1) := by decide +kernel
theorem dL_law_516 : decode cL_law 516 = .ok (.iaload, 1) := by decide +kernel
theorem dL_law_517 : decode cL_law 517 = .ok (.invokevirtual 54, 3) := by decide +kernel
theorem dL_law_520 : decode cL_law 520 = .ok (.aload_n 2, 1) := by decide +kernel
theorem dL_law_521 : decode cL_law 521 = .ok (.aload_n 0, 1) := by decide +kernel
theorem dL_law_522 : decode cL_law 522 = .ok (.iload_n 3, 1) := by decide +kernel
theorem dL_law_523 : decode cL_law 523 = .ok (.iconst 1, 1) := by decide +kernel
theorem dL_law_524 : decode cL_law 524 = .ok (.iadd, 1) := by decide +kernel
theorem dL_law_525 : decode cL_law 525 = .ok (.iaload, 1) := by decide +kernel
theorem dL_law_526 : decode cL_law 526 = .ok (.invokevirtual 57, 3) := by decide +kernel
theorem dL_law_529 : decode cL_law 529 = .ok (.if_icmp .eq 442, 3) := by decide +kernel
theorem dL_law_532 : decode cL_law 532 = .ok (.iconst 0, 1) := by decide +kernel
theorem dL_law_533 : decode cL_law 533 = .ok (.ireturn, 1) := by decide +kernel
theorem dL_law_534 : decode cL_law 534 = .ok (.aload_n 1, 1) := by decide +kernel
theorem dL_law_535 : decode cL_law 535 = .ok (.invokevirtual 58, 3) := by decide +kernel
theorem dL_law_538 : decode cL_law 538 = .ok (.aload_n 2, 1) := by decide +kernel
theorem dL_law_539 : decode cL_law 539 = .ok (.invokevirtual 62, 3) := by decide +kernel
theorem dL_law_542 : decode cL_law 542 = .ok (.if_icmp .eq 429, 3) := by decide +kernel
theorem dL_law_545 : decode cL_law 545 = .ok (.iconst 0, 1) := by decide +kernel
theorem dL_law_546 : decode cL_law 546 = .ok (.ireturn, 1) := by decide +kernel
theorem dL_law_547 : decode cL_law 547 = .ok (.aload_n 1, 1) := by decide +kernel
theorem dL_law_548 : decode cL_law 548 = .ok (.invokevirtual 63, 3) := by decide +kernel
theorem dL_law_551 : decode cL_law 551 = .ok (.aload_n 2, 1) := by decide +kernel
theorem dL_law_552 : decode cL_law 552 = .ok (.invokevirtual 66, 3) := by decide +kernel
theorem dL_law_555 : decode cL_law 555 = .ok (.if_icmp .eq 416, 3) := by decide +kernel
theorem dL_law_558 : decode cL_law 558 = .ok (.iconst 0, 1) := by decide +kernel
theorem dL_law_559 : decode cL_law 559 = .ok (.ireturn, 1) := by decide +kernel
theorem dL_law_560 : decode cL_law 560 = .ok (.aload_n 1, 1) := by decide +kernel
theorem dL_law_561 : decode cL_law 561 = .ok (.invokevirtual 67, 3) := by decide +kernel
theorem dL_law_564 : decode cL_law 564 = .ok (.aload_n 2, 1) := by decide +kernel
theorem dL_law_565 : decode cL_law 565 = .ok (.invokevirtual 70, 3) := by decide +kernel
theorem dL_law_568 : decode cL_law 568 = .ok (.if_icmp .eq 403, 3) := by decide +kernel
theorem dL_law_571 : decode cL_law 571 = .ok (.iconst 0, 1) := by decide +kernel
theorem dL_law_572 : decode cL_law 572 = .ok (.ireturn, 1) := by decide +kernel
theorem dL_law_573 : decode cL_law 573 = .ok (.aload_n 1, 1) := by decide +kernel
theorem dL_law_574 : decode cL_law 574 = .ok (.aload_n 0, 1) := by decide +kernel
theorem dL_law_575 : decode cL_law 575 = .ok (.iload_n 3, 1) := by decide +kernel
theorem dL_law_576 : decode cL_law 576 = .ok (.iconst 1, 1) := by decide +kernel
theorem dL_law_577 : decode cL_law 577 = .ok (.iadd, 1) := by decide +kernel
theorem dL_law_578 : decode cL_law 578 = .ok (.iaload, 1) := by decide +kernel
theorem dL_law_579 : decode cL_law 579 = .ok (.invokevirtual 71, 3) := by decide +kernel
theorem dL_law_582 : decode cL_law 582 = .ok (.aload_n 2, 1) := by decide +kernel
theorem dL_law_583 : decode cL_law 583 = .ok (.aload_n 0, 1) := by decide +kernel
theorem dL_law_584 : decode cL_law 584 = .ok (.iload_n 3, 1) := by decide +kernel
theorem dL_law_585 : decode cL_law 585 = .ok (.iconst 1, 1) := by decide +kernel
theorem dL_law_586 : decode cL_law 586 = .ok (.iadd, 1) := by decide +kernel
theorem dL_law_587 : decode cL_law 587 = .ok (.iaload, 1) := by decide +kernel
theorem dL_law_588 : decode cL_law 588 = .ok (.invokevirtual 74, 3) := by decide +kernel
theorem dL_law_591 : decode cL_law 591 = .ok (.if_icmp .eq 380, 3) := by decide +kernel
theorem dL_law_594 : decode cL_law 594 = .ok (.iconst 0, 1) := by decide +kernel
theorem dL_law_595 : decode cL_law 595 = .ok (.ireturn, 1) := by decide +kernel
theorem dL_law_596 : decode cL_law 596 = .ok (.aload_n 1, 1) := by decide +kernel
theorem dL_law_597 : decode cL_law 597 = .ok (.aload_n 0, 1) := by decide +kernel
theorem dL_law_598 : decode cL_law 598 = .ok (.iload_n 3, 1) := by decide +kernel
theorem dL_law_599 : decode cL_law 599 = .ok (.iconst 1, 1) := by decide +kernel
theorem dL_law_600 : decode cL_law 600 = .ok (.iadd, 1) := by decide +kernel
theorem dL_law_601 : decode cL_law 601 = .ok (.iaload, 1) := by decide +kernel
theorem dL_law_602 : decode cL_law 602 = .ok (.invokevirtual 75, 3) := by decide +kernel
theorem dL_law_605 : decode cL_law 605 = .ok (.aload_n 2, 1) := by decide +kernel
theorem dL_law_606 : decode cL_law 606 = .ok (.aload_n 0, 1) := by decide +kernel
theorem dL_law_607 : decode cL_law 607 = .ok (.iload_n 3, 1) := by decide +kernel
theorem dL_law_608 : decode cL_law 608 = .ok (.iconst 1, 1) := by decide +kernel
theorem dL_law_609 : decode cL_law 609 = .ok (.iadd, 1) := by decide +kernel
theorem dL_law_610 : decode cL_law 610 = .ok (.iaload, 1) := by decide +kernel
theorem dL_law_611 : decode cL_law 611 = .ok (.invokevirtual 78, 3) := by decide +kernel
theorem dL_law_614 : decode cL_law 614 = .ok (.if_icmp .eq 357, 3) := by decide +kernel
theorem dL_law_617 : decode cL_law 617 = .ok (.iconst 0, 1) := by decide +kernel
theorem dL_law_618 : decode cL_law 618 = .ok (.ireturn, 1) := by decide +kernel
theorem dL_law_619 : decode cL_law 619 = .ok (.aload_n 1, 1) := by decide +kernel
theorem dL_law_620 : decode cL_law 620 = .ok (.aload_n 0, 1) := by decide +kernel
theorem dL_law_621 : decode cL_law 621 = .ok (.iload_n 3, 1) := by decide +kernel
theorem dL_law_622 : decode cL_law 622 = .ok (.iconst 1, 1) := by decide +kernel
theorem dL_law_623 : decode cL_law 623 = .ok (.iadd, 1) := by decide +kernel
theorem dL_law_624 : decode cL_law 624 = .ok (.iaload, 1) := by decide +kernel
theorem dL_law_625 : decode cL_law 625 = .ok (.aload_n 0, 1) := by decide +kernel
theorem dL_law_626 : decode cL_law 626 = .ok (.iload_n 3, 1) := by decide +kernel
theorem dL_law_627 : decode cL_law 627 = .ok (.iconst 2, 1) := by decide +kernel
theorem dL_law_628 : decode cL_law 628 = .ok (.iadd, 1) := by decide +kernel
theorem dL_law_629 : decode cL_law 629 = .ok (.iaload, 1) := by decide +kernel
theorem dL_law_630 : decode cL_law 630 = .ok (.invokevirtual 79, 3) := by decide +kernel
theorem dL_law_633 : decode cL_law 633 = .ok (.aload_n 2, 1) := by decide +kernel
theorem dL_law_634 : decode cL_law 634 = .ok (.aload_n 0, 1) := by decide +kernel
theorem dL_law_635 : decode cL_law 635 = .ok (.iload_n 3, 1) := by decide +kernel
theorem dL_law_636 : decode cL_law 636 = .ok (.iconst 1, 1) := by decide +kernel
theorem dL_law_637 : decode cL_law 637 = .ok (.iadd, 1) := by decide +kernel
theorem dL_law_638 : decode cL_law 638 = .ok (.iaload, 1) := by decide +kernel
theorem dL_law_639 : decode cL_law 639 = .ok (.aload_n 0, 1) := by decide +kernel
theorem dL_law_640 : decode cL_law 640 = .ok (.iload_n 3, 1) := by decide +kernel
theorem dL_law_641 : decode cL_law 641 = .ok (.iconst 2, 1) := by decide +kernel
theorem dL_law_642 : decode cL_law 642 = .ok (.iadd, 1) := by decide +kernel
theorem dL_law_643 : decode cL_law 643 = .ok (.iaload, 1) := by decide +kernel
theorem dL_law_644 : decode cL_law 644 = .ok (.invokevirtual 82, 3) := by decide +kernel
theorem dL_law_647 : decode cL_law 647 = .ok (.if_icmp .eq 324, 3) := by decide +kernel
theorem dL_law_650 : decode cL_law 650 = .ok (.iconst 0, 1) := by decide +kernel
theorem dL_law_651 : decode cL_law 651 = .ok (.ireturn, 1) := by decide +kernel
theorem dL_law_652 : decode cL_law 652 = .ok (.aload_n 1, 1) := by decide +kernel
theorem dL_law_653 : decode cL_law 653 = .ok (.aload_n 0, 1) := by decide +kernel
theorem dL_law_654 : decode cL_law 654 = .ok (.iload_n 3, 1) := by decide +kernel
theorem dL_law_655 : decode cL_law 655 = .ok (.iconst 1, 1) := by decide +kernel
theorem dL_law_656 : decode cL_law 656 = .ok (.iadd, 1) := by decide +kernel
theorem dL_law_657 : decode cL_law 657 = .ok (.iaload, 1) := by decide +kernel
theorem dL_law_658 : decode cL_law 658 = .ok (.aload_n 0, 1) := by decide +kernel
theorem dL_law_659 : decode cL_law 659 = .ok (.iload_n 3, 1) := by decide +kernel
theorem dL_law_660 : decode cL_law 660 = .ok (.iconst 2, 1) := by decide +kernel
theorem dL_law_661 : decode cL_law 661 = .ok (.iadd, 1) := by decide +kernel
theorem dL_law_662 : decode cL_law 662 = .ok (.iaload, 1) := by decide +kernel
theorem dL_law_663 : decode cL_law 663 = .ok (.invokevirtual 83, 3) := by decide +kernel
theorem dL_law_666 : decode cL_law 666 = .ok (.aload_n 2, 1) := by decide +kernel
theorem dL_law_667 : decode cL_law 667 = .ok (.aload_n 0, 1) := by decide +kernel
theorem dL_law_668 : decode cL_law 668 = .ok (.iload_n 3, 1) := by decide +kernel
theorem dL_law_669 : decode cL_law 669 = .ok (.iconst 1, 1) := by decide +kernel
theorem dL_law_670 : decode cL_law 670 = .ok (.iadd, 1) := by decide +kernel
theorem dL_law_671 : decode cL_law 671 = .ok (.iaload, 1) := by decide +kernel
theorem dL_law_672 : decode cL_law 672 = .ok (.aload_n 0, 1) := by decide +kernel
theorem dL_law_673 : decode cL_law 673 = .ok (.iload_n 3, 1) := by decide +kernel
theorem dL_law_674 : decode cL_law 674 = .ok (.iconst 2, 1) := by decide +kernel
theorem dL_law_675 : decode cL_law 675 = .ok (.iadd, 1) := by decide +kernel
theorem dL_law_676 : decode cL_law 676 = .ok (.iaload, 1) := by decide +kernel
theorem dL_law_677 : decode cL_law 677 = .ok (.invokevirtual 86, 3) := by decide +kernel
theorem dL_law_680 : decode cL_law 680 = .ok (.if_icmp .eq 291, 3) := by decide +kernel
theorem dL_law_683 : decode cL_law 683 = .ok (.iconst 0, 1) := by decide +kernel
theorem dL_law_684 : decode cL_law 684 = .ok (.ireturn, 1) := by decide +kernel
theorem dL_law_685 : decode cL_law 685 = .ok (.aload_n 1, 1) := by decide +kernel
theorem dL_law_686 : decode cL_law 686 = .ok (.aload_n 0, 1) := by decide +kernel
theorem dL_law_687 : decode cL_law 687 = .ok (.iload_n 3, 1) := by decide +kernel
theorem dL_law_688 : decode cL_law 688 = .ok (.iconst 1, 1) := by decide +kernel
theorem dL_law_689 : decode cL_law 689 = .ok (.iadd, 1) := by decide +kernel
theorem dL_law_690 : decode cL_law 690 = .ok (.iaload, 1) := by decide +kernel
theorem dL_law_691 : decode cL_law 691 = .ok (.aload_n 0, 1) := by decide +kernel
theorem dL_law_692 : decode cL_law 692 = .ok (.iload_n 3, 1) := by decide +kernel
theorem dL_law_693 : decode cL_law 693 = .ok (.iconst 2, 1) := by decide +kernel
theorem dL_law_694 : decode cL_law 694 = .ok (.iadd, 1) := by decide +kernel
theorem dL_law_695 : decode cL_law 695 = .ok (.iaload, 1) := by decide +kernel
theorem dL_law_696 : decode cL_law 696 = .ok (.invokevirtual 87, 3) := by decide +kernel
theorem dL_law_699 : decode cL_law 699 = .ok (.aload_n 2, 1) := by decide +kernel
theorem dL_law_700 : decode cL_law 700 = .ok (.aload_n 0, 1) := by decide +kernel
theorem dL_law_701 : decode cL_law 701 = .ok (.iload_n 3, 1) := by decide +kernel
theorem dL_law_702 : decode cL_law 702 = .ok (.iconst 1, 1) := by decide +kernel
theorem dL_law_703 : decode cL_law 703 = .ok (.iadd, 1) := by decide +kernel
theorem dL_law_704 : decode cL_law 704 = .ok (.iaload, 1) := by decide +kernel
theorem dL_law_705 : decode cL_law 705 = .ok (.aload_n 0, 1) := by decide +kernel
theorem dL_law_706 : decode cL_law 706 = .ok (.iload_n 3, 1) := by decide +kernel
theorem dL_law_707 : decode cL_law 707 = .ok (.iconst 2, 1) := by decide +kernel
theorem dL_law_708 : decode cL_law 708 = .ok (.iadd, 1) := by decide +kernel
theorem dL_law_709 : decode cL_law 709 = .ok (.iaload, 1) := by decide +kernel
theorem dL_law_710 : decode cL_law 710 = .ok (.invokevirtual 90, 3) := by decide +kernel
theorem dL_law_713 : decode cL_law 713 = .ok (.if_icmp .eq 258, 3) := by decide +kernel
theorem dL_law_716 : decode cL_law 716 = .ok (.iconst 0, 1) := by decide +kernel
theorem dL_law_717 : decode cL_law 717 = .ok (.ireturn, 1) := by decide +kernel
theorem dL_law_718 : decode cL_law 718 = .ok (.aload_n 1, 1) := by decide +kernel
theorem dL_law_719 : decode cL_law 719 = .ok (.aload_n 0, 1) := by decide +kernel
theorem dL_law_720 : decode cL_law 720 = .ok (.iload_n 3, 1) := by decide +kernel
theorem dL_law_721 : decode cL_law 721 = .ok (.iconst 1, 1) := by decide +kernel
theorem dL_law_722 : decode cL_law 722 = .ok (.iadd, 1) := by decide +kernel
theorem dL_law_723 : decode cL_law 723 = .ok (.iaload, 1) := by decide +kernel
theorem dL_law_724 : decode cL_law 724 = .ok (.aload_n 0, 1) := by decide +kernel
theorem dL_law_725 : decode cL_law 725 = .ok (.iload_n 3, 1) := by decide +kernel
theorem dL_law_726 : decode cL_law 726 = .ok (.iconst 2, 1) := by decide +kernel
theorem dL_law_727 : decode cL_law 727 = .ok (.iadd, 1) := by decide +kernel
theorem dL_law_728 : decode cL_law 728 = .ok (.iaload, 1) := by decide +kernel
theorem dL_law_729 : decode cL_law 729 = .ok (.invokevirtual 91, 3) := by decide +kernel
theorem dL_law_732 : decode cL_law 732 = .ok (.aload_n 2, 1) := by decide +kernel
theorem dL_law_733 : decode cL_law 733 = .ok (.aload_n 0, 1) := by decide +kernel
theorem dL_law_734 : decode cL_law 734 = .ok (.iload_n 3, 1) := by decide +kernel
theorem dL_law_735 : decode cL_law 735 = .ok (.iconst 1, 1) := by decide +kernel
theorem dL_law_736 : decode cL_law 736 = .ok (.iadd, 1) := by decide +kernel
theorem dL_law_737 : decode cL_law 737 = .ok (.iaload, 1) := by decide +kernel
theorem dL_law_738 : decode cL_law 738 = .ok (.aload_n 0, 1) := by decide +kernel
theorem dL_law_739 : decode cL_law 739 = .ok (.iload_n 3, 1) := by decide +kernel
theorem dL_law_740 : decode cL_law 740 = .ok (.iconst 2, 1) := by decide +kernel
theorem dL_law_741 : decode cL_law 741 = .ok (.iadd, 1) := by decide +kernel
theorem dL_law_742 : decode cL_law 742 = .ok (.iaload, 1) := by decide +kernel
theorem dL_law_743 : decode cL_law 743 = .ok (.invokevirtual 94, 3) := by decide +kernel
theorem dL_law_746 : decode cL_law 746 = .ok (.if_icmp .eq 225, 3) := by decide +kernel
theorem dL_law_749 : decode cL_law 749 = .ok (.iconst 0, 1) := by decide +kernel
theorem dL_law_750 : decode cL_law 750 = .ok (.ireturn, 1) := by decide +kernel
theorem dL_law_751 : decode cL_law 751 = .ok (.aload_n 1, 1) := by decide +kernel
theorem dL_law_752 : decode cL_law 752 = .ok (.aload_n 0, 1) := by decide +kernel
theorem dL_law_753 : decode cL_law 753 = .ok (.iload_n 3, 1) := by decide +kernel
theorem dL_law_754 : decode cL_law 754 = .ok (.iconst 1, 1) := by decide +kernel
theorem dL_law_755 : decode cL_law 755 = .ok (.iadd, 1) := by decide +kernel
theorem dL_law_756 : decode cL_law 756 = .ok (.iaload, 1) := by decide +kernel
theorem dL_law_757 : decode cL_law 757 = .ok (.invokevirtual 95, 3) := by decide +kernel
theorem dL_law_760 : decode cL_law 760 = .ok (.aload_n 2, 1) := by decide +kernel
theorem dL_law_761 : decode cL_law 761 = .ok (.aload_n 0, 1) := by decide +kernel
theorem dL_law_762 : decode cL_law 762 = .ok (.iload_n 3, 1) := by decide +kernel
theorem dL_law_763 : decode cL_law 763 = .ok (.iconst 1, 1) := by decide +kernel
theorem dL_law_764 : decode cL_law 764 = .ok (.iadd, 1) := by decide +kernel
theorem dL_law_765 : decode cL_law 765 = .ok (.iaload, 1) := by decide +kernel
theorem dL_law_766 : decode cL_law 766 = .ok (.invokevirtual 98, 3) := by decide +kernel
theorem dL_law_769 : decode cL_law 769 = .ok (.if_icmp .eq 202, 3) := by decide +kernel
theorem dL_law_772 : decode cL_law 772 = .ok (.iconst 0, 1) := by decide +kernel
theorem dL_law_773 : decode cL_law 773 = .ok (.ireturn, 1) := by decide +kernel
theorem dL_law_774 : decode cL_law 774 = .ok (.aload_n 1, 1) := by decide +kernel
theorem dL_law_775 : decode cL_law 775 = .ok (.aload_n 0, 1) := by decide +kernel
theorem dL_law_776 : decode cL_law 776 = .ok (.iload_n 3, 1) := by decide +kernel
theorem dL_law_777 : decode cL_law 777 = .ok (.iconst 1, 1) := by decide +kernel
theorem dL_law_778 : decode cL_law 778 = .ok (.iadd, 1) := by decide +kernel
theorem dL_law_779 : decode cL_law 779 = .ok (.iaload, 1) := by decide +kernel
theorem dL_law_780 : decode cL_law 780 = .ok (.invokevirtual 99, 3) := by decide +kernel
theorem dL_law_783 : decode cL_law 783 = .ok (.aload_n 2, 1) := by decide +kernel
theorem dL_law_784 : decode cL_law 784 = .ok (.aload_n 0, 1) := by decide +kernel
theorem dL_law_785 : decode cL_law 785 = .ok (.iload_n 3, 1) := by decide +kernel
theorem dL_law_786 : decode cL_law 786 = .ok (.iconst 1, 1) := by decide +kernel
theorem dL_law_787 : decode cL_law 787 = .ok (.iadd, 1) := by decide +kernel
theorem dL_law_788 : decode cL_law 788 = .ok (.iaload, 1) := by decide +kernel
theorem dL_law_789 : decode cL_law 789 = .ok (.invokevirtual 102, 3) := by decide +kernel
theorem dL_law_792 : decode cL_law 792 = .ok (.if_icmp .eq 179, 3) := by decide +kernel
theorem dL_law_795 : decode cL_law 795 = .ok (.iconst 0, 1) := by decide +kernel
theorem dL_law_796 : decode cL_law 796 = .ok (.ireturn, 1) := by decide +kernel
theorem dL_law_797 : decode cL_law 797 = .ok (.aload_n 1, 1) := by decide +kernel
theorem dL_law_798 : decode cL_law 798 = .ok (.aload_n 0, 1) := by decide +kernel
theorem dL_law_799 : decode cL_law 799 = .ok (.iload_n 3, 1) := by decide +kernel
theorem dL_law_800 : decode cL_law 800 = .ok (.iconst 1, 1) := by decide +kernel
theorem dL_law_801 : decode cL_law 801 = .ok (.iadd, 1) := by decide +kernel
theorem dL_law_802 : decode cL_law 802 = .ok (.iaload, 1) := by decide +kernel
theorem dL_law_803 : decode cL_law 803 = .ok (.aload_n 0, 1) := by decide +kernel
theorem dL_law_804 : decode cL_law 804 = .ok (.iload_n 3, 1) := by decide +kernel
theorem dL_law_805 : decode cL_law 805 = .ok (.iconst 2, 1) := by decide +kernel
theorem dL_law_806 : decode cL_law 806 = .ok (.iadd, 1) := by decide +kernel
theorem dL_law_807 : decode cL_law 807 = .ok (.iaload, 1) := by decide +kernel
theorem dL_law_808 : decode cL_law 808 = .ok (.invokevirtual 103, 3) := by decide +kernel
theorem dL_law_811 : decode cL_law 811 = .ok (.aload_n 2, 1) := by decide +kernel
theorem dL_law_812 : decode cL_law 812 = .ok (.aload_n 0, 1) := by decide +kernel
theorem dL_law_813 : decode cL_law 813 = .ok (.iload_n 3, 1) := by decide +kernel
theorem dL_law_814 : decode cL_law 814 = .ok (.iconst 1, 1) := by decide +kernel
theorem dL_law_815 : decode cL_law 815 = .ok (.iadd, 1) := by decide +kernel
theorem dL_law_816 : decode cL_law 816 = .ok (.iaload, 1) := by decide +kernel
theorem dL_law_817 : decode cL_law 817 = .ok (.aload_n 0, 1) := by decide +kernel
theorem dL_law_818 : decode cL_law 818 = .ok (.iload_n 3, 1) := by decide +kernel
theorem dL_law_819 : decode cL_law 819 = .ok (.iconst 2, 1) := by decide +kernel
theorem dL_law_820 : decode cL_law 820 = .ok (.iadd, 1) := by decide +kernel
theorem dL_law_821 : decode cL_law 821 = .ok (.iaload, 1) := by decide +kernel
theorem dL_law_822 : decode cL_law 822 = .ok (.invokevirtual 106, 3) := by decide +kernel
theorem dL_law_825 : decode cL_law 825 = .ok (.if_icmp .eq 146, 3) := by decide +kernel
theorem dL_law_828 : decode cL_law 828 = .ok (.iconst 0, 1) := by decide +kernel
theorem dL_law_829 : decode cL_law 829 = .ok (.ireturn, 1) := by decide +kernel
theorem dL_law_830 : decode cL_law 830 = .ok (.aload_n 1, 1) := by decide +kernel
theorem dL_law_831 : decode cL_law 831 = .ok (.invokevirtual 107, 3) := by decide +kernel
theorem dL_law_834 : decode cL_law 834 = .ok (.aload_n 2, 1) := by decide +kernel
theorem dL_law_835 : decode cL_law 835 = .ok (.invokevirtual 110, 3) := by decide +kernel
theorem dL_law_838 : decode cL_law 838 = .ok (.if_icmp .eq 133, 3) := by decide +kernel
theorem dL_law_841 : decode cL_law 841 = .ok (.iconst 0, 1) := by decide +kernel
theorem dL_law_842 : decode cL_law 842 = .ok (.ireturn, 1) := by decide +kernel
theorem dL_law_843 : decode cL_law 843 = .ok (.aload_n 1, 1) := by decide +kernel
theorem dL_law_844 : decode cL_law 844 = .ok (.invokevirtual 111, 3) := by decide +kernel
theorem dL_law_847 : decode cL_law 847 = .ok (.aload_n 2, 1) := by decide +kernel
theorem dL_law_848 : decode cL_law 848 = .ok (.invokevirtual 114, 3) := by decide +kernel
theorem dL_law_851 : decode cL_law 851 = .ok (.if_icmp .eq 120, 3) := by decide +kernel
theorem dL_law_854 : decode cL_law 854 = .ok (.iconst 0, 1) := by decide +kernel
theorem dL_law_855 : decode cL_law 855 = .ok (.ireturn, 1) := by decide +kernel
theorem dL_law_856 : decode cL_law 856 = .ok (.aload_n 1, 1) := by decide +kernel
theorem dL_law_857 : decode cL_law 857 = .ok (.invokevirtual 115, 3) := by decide +kernel
theorem dL_law_860 : decode cL_law 860 = .ok (.aload_n 2, 1) := by decide +kernel
theorem dL_law_861 : decode cL_law 861 = .ok (.invokevirtual 118, 3) := by decide +kernel
theorem dL_law_864 : decode cL_law 864 = .ok (.if_icmp .eq 107, 3) := by decide +kernel
theorem dL_law_867 : decode cL_law 867 = .ok (.iconst 0, 1) := by decide +kernel
theorem dL_law_868 : decode cL_law 868 = .ok (.ireturn, 1) := by decide +kernel
theorem dL_law_869 : decode cL_law 869 = .ok (.aload_n 1, 1) := by decide +kernel
theorem dL_law_870 : decode cL_law 870 = .ok (.aload_n 0, 1) := by decide +kernel
theorem dL_law_871 : decode cL_law 871 = .ok (.iload_n 3, 1) := by decide +kernel
theorem dL_law_872 : decode cL_law 872 = .ok (.iconst 1, 1) := by decide +kernel
theorem dL_law_873 : decode cL_law 873 = .ok (.iadd, 1) := by decide +kernel
theorem dL_law_874 : decode cL_law 874 = .ok (.iaload, 1) := by decide +kernel
theorem dL_law_875 : decode cL_law 875 = .ok (.invokevirtual 119, 3) := by decide +kernel
theorem dL_law_878 : decode cL_law 878 = .ok (.aload_n 2, 1) := by decide +kernel
theorem dL_law_879 : decode cL_law 879 = .ok (.aload_n 0, 1) := by decide +kernel
theorem dL_law_880 : decode cL_law 880 = .ok (.iload_n 3, 1) := by decide +kernel
theorem dL_law_881 : decode cL_law 881 = .ok (.iconst 1, 1) := by decide +kernel
theorem dL_law_882 : decode cL_law 882 = .ok (.iadd, 1) := by decide +kernel
theorem dL_law_883 : decode cL_law 883 = .ok (.iaload, 1) := by decide +kernel
theorem dL_law_884 : decode cL_law 884 = .ok (.invokevirtual 122, 3) := by decide +kernel
theorem dL_law_887 : decode cL_law 887 = .ok (.if_icmp .eq 84, 3) := by decide +kernel
theorem dL_law_890 : decode cL_law 890 = .ok (.iconst 0, 1) := by decide +kernel
theorem dL_law_891 : decode cL_law 891 = .ok (.ireturn, 1) := by decide +kernel
theorem dL_law_892 : decode cL_law 892 = .ok (.aload_n 1, 1) := by decide +kernel
theorem dL_law_893 : decode cL_law 893 = .ok (.aload_n 0, 1) := by decide +kernel
theorem dL_law_894 : decode cL_law 894 = .ok (.iload_n 3, 1) := by decide +kernel
theorem dL_law_895 : decode cL_law 895 = .ok (.iconst 1, 1) := by decide +kernel
theorem dL_law_896 : decode cL_law 896 = .ok (.iadd, 1) := by decide +kernel
theorem dL_law_897 : decode cL_law 897 = .ok (.iaload, 1) := by decide +kernel
theorem dL_law_898 : decode cL_law 898 = .ok (.aload_n 0, 1) := by decide +kernel
theorem dL_law_899 : decode cL_law 899 = .ok (.iload_n 3, 1) := by decide +kernel
theorem dL_law_900 : decode cL_law 900 = .ok (.iconst 2, 1) := by decide +kernel
theorem dL_law_901 : decode cL_law 901 = .ok (.iadd, 1) := by decide +kernel
theorem dL_law_902 : decode cL_law 902 = .ok (.iaload, 1) := by decide +kernel
theorem dL_law_903 : decode cL_law 903 = .ok (.invokevirtual 123, 3) := by decide +kernel
theorem dL_law_906 : decode cL_law 906 = .ok (.aload_n 2, 1) := by decide +kernel
theorem dL_law_907 : decode cL_law 907 = .ok (.aload_n 0, 1) := by decide +kernel
theorem dL_law_908 : decode cL_law 908 = .ok (.iload_n 3, 1) := by decide +kernel
theorem dL_law_909 : decode cL_law 909 = .ok (.iconst 1, 1) := by decide +kernel
theorem dL_law_910 : decode cL_law 910 = .ok (.iadd, 1) := by decide +kernel
theorem dL_law_911 : decode cL_law 911 = .ok (.iaload, 1) := by decide +kernel
theorem dL_law_912 : decode cL_law 912 = .ok (.aload_n 0, 1) := by decide +kernel
theorem dL_law_913 : decode cL_law 913 = .ok (.iload_n 3, 1) := by decide +kernel
theorem dL_law_914 : decode cL_law 914 = .ok (.iconst 2, 1) := by decide +kernel
theorem dL_law_915 : decode cL_law 915 = .ok (.iadd, 1) := by decide +kernel
theorem dL_law_916 : decode cL_law 916 = .ok (.iaload, 1) := by decide +kernel
theorem dL_law_917 : decode cL_law 917 = .ok (.invokevirtual 126, 3) := by decide +kernel
theorem dL_law_920 : decode cL_law 920 = .ok (.if_icmp .eq 51, 3) := by decide +kernel
theorem dL_law_923 : decode cL_law 923 = .ok (.iconst 0, 1) := by decide +kernel
theorem dL_law_924 : decode cL_law 924 = .ok (.ireturn, 1) := by decide +kernel
theorem dL_law_925 : decode cL_law 925 = .ok (.aload_n 1, 1) := by decide +kernel
theorem dL_law_926 : decode cL_law 926 = .ok (.aload_n 0, 1) := by decide +kernel
theorem dL_law_927 : decode cL_law 927 = .ok (.iload_n 3, 1) := by decide +kernel
theorem dL_law_928 : decode cL_law 928 = .ok (.iconst 1, 1) := by decide +kernel
theorem dL_law_929 : decode cL_law 929 = .ok (.iadd, 1) := by decide +kernel
theorem dL_law_930 : decode cL_law 930 = .ok (.iaload, 1) := by decide +kernel
theorem dL_law_931 : decode cL_law 931 = .ok (.invokevirtual 127, 3) := by decide +kernel
theorem dL_law_934 : decode cL_law 934 = .ok (.aload_n 2, 1) := by decide +kernel
theorem dL_law_935 : decode cL_law 935 = .ok (.aload_n 0, 1) := by decide +kernel
theorem dL_law_936 : decode cL_law 936 = .ok (.iload_n 3, 1) := by decide +kernel
theorem dL_law_937 : decode cL_law 937 = .ok (.iconst 1, 1) := by decide +kernel
theorem dL_law_938 : decode cL_law 938 = .ok (.iadd, 1) := by decide +kernel
theorem dL_law_939 : decode cL_law 939 = .ok (.iaload, 1) := by decide +kernel
theorem dL_law_940 : decode cL_law 940 = .ok (.invokevirtual 130, 3) := by decide +kernel
theorem dL_law_943 : decode cL_law 943 = .ok (.if_icmp .eq 28, 3) := by decide +kernel
theorem dL_law_946 : decode cL_law 946 = .ok (.iconst 0, 1) := by decide +kernel
theorem dL_law_947 : decode cL_law 947 = .ok (.ireturn, 1) := by decide +kernel
theorem dL_law_948 : decode cL_law 948 = .ok (.aload_n 1, 1) := by decide +kernel
theorem dL_law_949 : decode cL_law 949 = .ok (.aload_n 0, 1) := by decide +kernel
theorem dL_law_950 : decode cL_law 950 = .ok (.iload_n 3, 1) := by decide +kernel
theorem dL_law_951 : decode cL_law 951 = .ok (.iconst 1, 1) := by decide +kernel
theorem dL_law_952 : decode cL_law 952 = .ok (.iadd, 1) := by decide +kernel
theorem dL_law_953 : decode cL_law 953 = .ok (.iaload, 1) := by decide +kernel
theorem dL_law_954 : decode cL_law 954 = .ok (.invokevirtual 131, 3) := by decide +kernel
theorem dL_law_957 : decode cL_law 957 = .ok (.aload_n 2, 1) := by decide +kernel
theorem dL_law_958 : decode cL_law 958 = .ok (.aload_n 0, 1) := by decide +kernel
theorem dL_law_959 : decode cL_law 959 = .ok (.iload_n 3, 1) := by decide +kernel
theorem dL_law_960 : decode cL_law 960 = .ok (.iconst 1, 1) := by decide +kernel
theorem dL_law_961 : decode cL_law 961 = .ok (.iadd, 1) := by decide +kernel
theorem dL_law_962 : decode cL_law 962 = .ok (.iaload, 1) := by decide +kernel
theorem dL_law_963 : decode cL_law 963 = .ok (.invokevirtual 134, 3) := by decide +kernel
theorem dL_law_966 : decode cL_law 966 = .ok (.if_icmp .eq 5, 3) := by decide +kernel
theorem dL_law_969 : decode cL_law 969 = .ok (.iconst 0, 1) := by decide +kernel
theorem dL_law_970 : decode cL_law 970 = .ok (.ireturn, 1) := by decide +kernel
theorem dL_law_971 : decode cL_law 971 = .ok (.iinc 3 6, 3) := by decide +kernel
theorem dL_law_974 : decode cL_law 974 = .ok (.goto (-956), 3) := by decide +kernel
theorem dL_law_977 : decode cL_law 977 = .ok (.iconst 1, 1) := by decide +kernel
theorem dL_law_978 : decode cL_law 978 = .ok (.ireturn, 1) := by decide +kernel
end
section
/-! THE ABSTRACT HEAP. A cell has a kind and a length (its shape); its contents are three functions (ints, longs, references) of the cell's number and the slot's.
    Kinds 0 to 8: objects of the classes of vwCl; 9 int[], 10 boolean[], 11 long[], 12 Instruction[], 13 Partition[], 14 Layout[], 15 int[][].
    The cell of number a lies at the machine's address 'base + a'. -/
abbrev AH : Type := List (Nat × Nat) × (Nat → Nat → Int32) × (Nat → Nat → Int64) × (Nat → Nat → Option Nat)
abbrev hI (h : AH) : Nat → Nat → Int32 := h.2.1
abbrev hJ (h : AH) : Nat → Nat → Int64 := h.2.2.1
abbrev hP (h : AH) : Nat → Nat → Option Nat := h.2.2.2
/-- launch, base, the script's address, the classes, the classes of arrays -/
abbrev GX : Type := Launch × Nat × Nat × va_G × (Nat → ClassId)
abbrev gB (g : GX) : Nat := g.2.1
abbrev gb (g : GX) : Nat := g.2.2.1
abbrev gD (g : GX) : va_G := g.2.2.2.1
abbrev gC (g : GX) : Nat → ClassId := g.2.2.2.2
/-- method: name, bytes, locals, type of the answer -/
abbrev MT : Type := MethodName × ByteArray × Nat × Option FieldType
/-- a walk's frame: room, what else is known at the entry, what is to be reached -/
abbrev TH : Type := Room × (Array Value → State → Prop) × (Array Value → State → List Frame → State → Prop)
/-- 0 int (boolean), 1 long, 2 reference -/
def sty (c k : Nat) : Nat := match c with
  | 0 => if k < 3 then 2 else 0
  | 1 => if k < 3 then 2 else 0
  | 2 => 0
  | 3 => if k < 6 then 2 else 0
  | 4 => 0
  | 5 => if k < 3 then 2 else 0
  | 6 => if k < 5 then 2 else 0
  | 7 => 2
  | 8 => if k = 2 then 0 else if k < 12 then 2 else 0
  | 9 => 0
  | 10 => 0
  | 11 => 1
  | _ => 2
def rv (g : GX) (o : Option Nat) : Value := match o with
  | none => .null
  | some r => .ref (gB g + r)
/-- an abstract value as the machine's; 'float' stands for the script -/
def tv (g : GX) (v : Value) : Value := match v with
  | .ref a => .ref (gB g + a)
  | .float _ => .ref (gb g)
  | v => v
def cv (g : GX) (h : AH) (c a k : Nat) : Value := if sty c k = 0 then .int (hI h a k) else if sty c k = 1 then .long (hJ h a k) else rv g (hP h a k)
def cellOk (g : GX) (h : AH) (a : Nat) (q : Nat × Nat) (H : Heap) : Prop :=
  if q.1 < 9 then ∃ r : vw_C, vwCl[q.1]? = some r ∧ r.2.2 = q.2 ∧ t_OB (gB g + a) ((gD g).1 q.1) q.2 ((gD g).2 q.1) H (cv g h q.1 a)
  else H[gB g + a]? = some (arrV (gC g q.1) q.2 (cv g h q.1 a))
def Rep (g : GX) (h : AH) (H : Heap) : Prop := H.size = gB g + h.1.length ∧ ∀ (a : Nat) (q : Nat × Nat), h.1[a]? = some q → cellOk g h a q H
def tys (g : GX) : List (ClassId × FieldType) := [(gC g 9, .int), (gC g 10, .boolean), (gC g 11, .long), (gC g 12, .object "AggregateSplitter$Instruction"), (gC g 13, .object "AggregateSplitter$Partition"), (gC g 14, .object "AggregateSplitter$Layout"), (gC g 15, .array .int)]
/-- the calls to a nest mate's private members -/
def nws : List Cond := [.methodLinkNest "AggregateSplitter" 18 ⟨"AggregateSplitter$History", "<init>", "()V"⟩ "AggregateSplitter", .methodLinkNest "AggregateSplitter$Layout" 17 ⟨"AggregateSplitter$Partition", "<init>", "()V"⟩ "AggregateSplitter", .methodLinkNest "AggregateSplitter$Partition" 20 ⟨"AggregateSplitter", "isScalarLength", "(I)Z"⟩ "AggregateSplitter", .methodLinkNest "AggregateSplitter$Analysis" 135 ⟨"AggregateSplitter", "oneIf", "(Z)I"⟩ "AggregateSplitter", .methodLinkNest "AggregateSplitter$Layout" 90 ⟨"AggregateSplitter", "oneIf", "(Z)I"⟩ "AggregateSplitter"]
/-- what the tables say of the classes -/
def gK (g : GX) (s : State) : Prop := va_K (gD g) vwCl (tys g) s ∧ (va_AO "AggregateSplitter$Instruction" s ∧ va_AO "AggregateSplitter$Partition" s ∧ va_AO "AggregateSplitter$Layout" s ∧ (Cond.arrayOver (.array .int)).before #[] s = true) ∧ ∀ w ∈ nws, va_Nw w s
/-- the tables' words that a callee may be given -/
def gt : List Cond := lw_tbl.filter goodWord
theorem gt_good : GoodIn gt gt := fun w hw => ⟨hw, good_of_word (List.mem_filter.mp hw).2⟩
theorem gt_mem {i : Nat} {w : Cond} (h : lw_tbl[i]? = some w) (hg : goodWord w = true) : w ∈ gt := List.mem_filter.mpr ⟨List.mem_of_getElem? h, hg⟩
def gA (g : GX) : Nat → Prop := fun q => gB g ≤ q
def Bd (g : GX) (μ : MT) (θ : TH) (p : Program) (e : Env) (s : State) (m : MethodId) (args : Array Value) (meth : Method) (c : Code) : Prop :=
  p.tables.exec = Jvm.exec ∧ c.code = μ.2.1 ∧ meth.sig.returnType = μ.2.2.2 ∧ c.maxLocals = μ.2.2.1 ∧ s.vm.findClass μ.1.cls = some m.cls ∧ (∀ w ∈ gt, w.before args s = true) ∧ meth.locks = false ∧ (μ.1.name = "<init>" → meth.name = "<init>") ∧ gK g s ∧ θ.2.1 args s
/-- THE JUDGEMENT: the method μ, at pc with the abstract heap h, locals L, stack S, comes to what θ wants; k cells of n slots have been made so far -/
def V (g : GX) (μ : MT) (θ : TH) (h : AH) (k n : Nat) (L : List (Nat × Value)) (pc : Nat) (S : List Value) : Prop :=
  ∀ (p : Program) (e : Env) (s : State) (m : MethodId) (args : Array Value) (below : List Frame) (meth : Method) (c : Code) (H : Heap) (locs : List Loc) (ls : Array Slot),
    Bd g μ θ p e s m args meth c → Rep g h H → va_S (gA g) s.heap H locs → lv_has ls μ.2.2.1 (L.map fun q => (q.1, tv g q.2)) →
    W p g.1 e θ.1 s m args below meth c H locs k n (θ.2.2 args s below) (F0 m pc ls (S.map (tv g)))
def Qc (g : GX) (post : Option Value → AH → Prop) : Array Value → State → Outcome → State → Prop := fun _ st o t =>
  (∃ (r : Option Value) (h' : AH), o = .returned (r.map (tv g)) ∧ post r h' ∧ Rep g h' t.heap) ∧ va_F (gA g) st t
def rmd (d mc ms : Nat) : Room := { frames := d, cells := mc, slots := ms, locals := 40 * d }
def thM (g : GX) (d mc ms : Nat) (post : Option Value → AH → Prop) : TH := (rmd d mc ms, fun _ _ => True, fun args s below => MQ below (Qc g post) args s mc ms (gA g))
def wsM (μ : MT) : List Cond := Cond.code μ.1 μ.2.1 μ.2.2.1 μ.2.2.2 :: gt
/-- A CONTRACT: called with av at the abstract heap h, in room for d frames, the method answers and leaves what 'post' says; at most mc cells of ms slots are new -/
def Ct (g : GX) (μ : MT) (d mc ms : Nat) (av : List Value) (h : AH) (post : Option Value → AH → Prop) : Prop :=
  Met g.1 μ.1 (wsM μ) (rmd d mc ms) (va_Pc (av.map (tv g)) (fun U => Rep g h U.heap ∧ gK g U)) (Qc g post) mc ms (gA g)
/-- a contract of a method that changes nothing -/
abbrev Cp (g : GX) (μ : MT) (d : Nat) (av : List Value) (h : AH) (v : Value) : Prop := Ct g μ d 0 0 av h (fun r h' => r = some v ∧ h' = h)
theorem tv_cat (g : GX) (v : Value) : (tv g v).category = v.category := by cases v <;> rfl
theorem lv_args_tv (g : GX) : ∀ (i : Nat) (vs : List Value), lv_args i (vs.map (tv g)) = (lv_args i vs).map fun q => (q.1, tv g q.2)
  | _, [] => rfl
  | i, v :: vs => by
    simp only [List.map_cons, lv_args, tv_cat]
    rw [lv_args_tv g _ vs]
theorem lg_sl_tv (g : GX) : ∀ (vs : List Value), (lg_sl (vs.map (tv g))).length = (lg_sl vs).length
  | [] => rfl
  | v :: vs => by
    have ih := lg_sl_tv g vs
    cases v <;> simp [lg_sl, tv, Value.category] at ih ⊢ <;> omega
set_option maxHeartbeats 4000000 in
theorem Ct_intro {g : GX} {μ : MT} {d mc ms : Nat} {av : List Value} {h : AH} {post : Option Value → AH → Prop} (hy : plainName μ.1.cls = true) (hn : (lg_sl av).length ≤ μ.2.2.1)
    (k : V g μ (thM g d mc ms post) h 0 0 (lv_args 0 av) 0 []) : Ct g μ d mc ms av h post := by
  refine Met.ofW (cc := μ.2.1) (maxL := μ.2.2.1) (ret := μ.2.2.2) hy rfl ?_
  intro p e s m args below meth c s₁ B hml hv
  obtain ⟨rfl, hR, hK⟩ := hv
  have hts := atoms_spec (ws := wsM μ) B.pre
  have hl := lv_entry (av.map (tv g)) (n := μ.2.2.1) (by rw [lg_sl_tv]; exact hn)
  rw [lg_entry_eq]
  generalize (lg_sl (av.map (tv g)) ++ List.replicate (μ.2.2.1 - (lg_sl (av.map (tv g))).length) Slot.unset).toArray = ls at hl ⊢
  rw [lv_args_tv] at hl
  exact k p e s m _ below meth c s.heap [] ls ⟨B.exec, B.bytes, B.returns, hml, findClass_of_methodNamed B.named, fun w h => hts w (List.mem_cons_of_mem _ h), B.notSynchronized, fun hi => (name_of_methodNamed B.named B.method).1.trans hi, hK, trivial⟩ hR va_S.rf hl
end
section
/-- booleans as the machine has them -/
def bi (b : Bool) : Int32 := if b = true then 1 else 0
theorem bi_t : bi true = 1 := rfl
theorem bi_f : bi false = 0 := rfl
theorem bi_eq0 {b : Bool} : bi b = 0 ↔ b = false := by cases b <;> decide
theorem bi_ne0 {b : Bool} : ¬ bi b = 0 ↔ b = true := by cases b <;> decide
theorem bi_nar (b : Bool) : narrow .boolean (.int (bi b)) = .int (bi b) := by cases b <;> decide +kernel
def lfi (i : Nat) (L : List (Nat × Value)) : List (Nat × Value) := L.filter (fun q => !(q.1 == i) && !(q.1 + 1 == i && q.2.category == 2))
def lfl (i : Nat) (L : List (Nat × Value)) : List (Nat × Value) := L.filter (fun q => !(q.1 == i) && (!(q.1 == i + 1) && !(q.1 + 1 == i && q.2.category == 2)))
theorem lfi_tv (g : GX) (i : Nat) : ∀ L : List (Nat × Value), (L.map fun q => (q.1, tv g q.2)).filter (fun q => !(q.1 == i) && !(q.1 + 1 == i && q.2.category == 2)) = (lfi i L).map fun q => (q.1, tv g q.2)
  | [] => rfl
  | a :: L => by
    have ih := lfi_tv g i L
    simp only [lfi, List.map_cons, List.filter_cons, tv_cat] at ih ⊢
    rw [ih]
    split <;> rfl
theorem lfl_tv (g : GX) (i : Nat) : ∀ L : List (Nat × Value), (L.map fun q => (q.1, tv g q.2)).filter (fun q => !(q.1 == i) && (!(q.1 == i + 1) && !(q.1 + 1 == i && q.2.category == 2))) = (lfl i L).map fun q => (q.1, tv g q.2)
  | [] => rfl
  | a :: L => by
    have ih := lfl_tv g i L
    simp only [lfl, List.map_cons, List.filter_cons, tv_cat] at ih ⊢
    rw [ih]
    split <;> rfl
theorem lat {g : GX} {ls : Array Slot} {nL : Nat} {L : List (Nat × Value)} (hl : lv_has ls nL (L.map fun q => (q.1, tv g q.2))) (j : Nat) {i : Nat} {v : Value} (h : L[j]? = some (i, v)) : ls[i]? = some (.val (tv g v)) :=
  lv_at hl j (by rw [List.getElem?_map, h]; rfl)
section ROWS
variable {g : GX} {μ : MT} {θ : TH} {h : AH} {k n : Nat} {L L' : List (Nat × Value)} {pc q : Nat} {S : List Value}
theorem V_iconst {c : Int} {v : Int32} (hd : decode μ.2.1 pc = .ok (.iconst c, 1)) (hq : pc + 1 = q) (hv : Int32.ofInt c = v) (kk : V g μ θ h k n L q (.int v :: S)) : V g μ θ h k n L pc S := by
  subst hq
  exact fun p e s m args below meth c H locs ls B R hS hl => lv_iconst B.1 B.2.1 hd hv (kk p e s m args below meth c H locs ls B R hS hl)
theorem V_bipush {c : Int} {v : Int32} (hd : decode μ.2.1 pc = .ok (.bipush c, 2)) (hq : pc + 2 = q) (hv : (Int8.ofInt c).toInt32 = v) (kk : V g μ θ h k n L q (.int v :: S)) : V g μ θ h k n L pc S := by
  subst hq
  exact fun p e s m args below meth c H locs ls B R hS hl => lv_bipush B.1 B.2.1 hd hv (kk p e s m args below meth c H locs ls B R hS hl)
theorem V_sipush {c : Int} {v : Int32} (hd : decode μ.2.1 pc = .ok (.sipush c, 3)) (hq : pc + 3 = q) (hv : (Int16.ofInt c).toInt32 = v) (kk : V g μ θ h k n L q (.int v :: S)) : V g μ θ h k n L pc S := by
  subst hq
  exact fun p e s m args below meth c H locs ls B R hS hl => lv_sipush B.1 B.2.1 hd hv (kk p e s m args below meth c H locs ls B R hS hl)
theorem V_iload_n {j : Nat} {i : Fin 4} {x : Int32} (hd : decode μ.2.1 pc = .ok (.iload_n i, 1)) (hq : pc + 1 = q) (hj : L[j]? = some ((i : Nat), .int x)) (kk : V g μ θ h k n L q (.int x :: S)) : V g μ θ h k n L pc S := by
  subst hq
  exact fun p e s m args below meth c H locs ls B R hS hl => lv_iload_n B.1 B.2.1 hd rfl (lat hl j hj) (kk p e s m args below meth c H locs ls B R hS hl)
theorem V_iload {j i : Nat} {x : Int32} (hd : decode μ.2.1 pc = .ok (.iload i, 2)) (hq : pc + 2 = q) (hj : L[j]? = some (i, .int x)) (kk : V g μ θ h k n L q (.int x :: S)) : V g μ θ h k n L pc S := by
  subst hq
  exact fun p e s m args below meth c H locs ls B R hS hl => lv_iload B.1 B.2.1 hd (lat hl j hj) (kk p e s m args below meth c H locs ls B R hS hl)
theorem V_aload_n {j : Nat} {i : Fin 4} {a : Nat} (hd : decode μ.2.1 pc = .ok (.aload_n i, 1)) (hq : pc + 1 = q) (hj : L[j]? = some ((i : Nat), .ref a)) (kk : V g μ θ h k n L q (.ref a :: S)) : V g μ θ h k n L pc S := by
  subst hq
  exact fun p e s m args below meth c H locs ls B R hS hl => lv_aload_n B.1 B.2.1 hd rfl (lat hl j hj) (kk p e s m args below meth c H locs ls B R hS hl)
theorem V_aload {j i a : Nat} (hd : decode μ.2.1 pc = .ok (.aload i, 2)) (hq : pc + 2 = q) (hj : L[j]? = some (i, .ref a)) (kk : V g μ θ h k n L q (.ref a :: S)) : V g μ θ h k n L pc S := by
  subst hq
  exact fun p e s m args below meth c H locs ls B R hS hl => lv_aload B.1 B.2.1 hd (lat hl j hj) (kk p e s m args below meth c H locs ls B R hS hl)
theorem V_sload_n {j : Nat} {i : Fin 4} (hd : decode μ.2.1 pc = .ok (.aload_n i, 1)) (hq : pc + 1 = q) (hj : L[j]? = some ((i : Nat), .float 0)) (kk : V g μ θ h k n L q (.float 0 :: S)) : V g μ θ h k n L pc S := by
  subst hq
  exact fun p e s m args below meth c H locs ls B R hS hl => lv_aload_n B.1 B.2.1 hd rfl (lat hl j hj) (kk p e s m args below meth c H locs ls B R hS hl)
theorem V_lload_n {j : Nat} {i : Fin 4} {x : Int64} (hd : decode μ.2.1 pc = .ok (.lload_n i, 1)) (hq : pc + 1 = q) (hj : L[j]? = some ((i : Nat), .long x)) (kk : V g μ θ h k n L q (.long x :: S)) : V g μ θ h k n L pc S := by
  subst hq
  exact fun p e s m args below meth c H locs ls B R hS hl => lv_lload_n B.1 B.2.1 hd rfl (lat hl j hj) (kk p e s m args below meth c H locs ls B R hS hl)
theorem V_istore_n {i : Fin 4} {x : Int32} (hd : decode μ.2.1 pc = .ok (.istore_n i, 1)) (hq : pc + 1 = q) (hi : Nat.blt i μ.2.2.1 = true) (hL : ((i : Nat), Value.int x) :: lfi i L = L') (kk : V g μ θ h k n L' q S) : V g μ θ h k n L pc (.int x :: S) := by
  subst hq; subst hL
  exact fun p e s m args below meth c H locs ls B R hS hl => lv_istore_n B.1 B.2.1 hd rfl hl (Nat.le_of_ble_eq_true hi) (by rw [lfi_tv]; rfl) (fun ls hl => kk p e s m args below meth c H locs ls B R hS hl)
theorem V_istore {i : Nat} {x : Int32} (hd : decode μ.2.1 pc = .ok (.istore i, 2)) (hq : pc + 2 = q) (hi : Nat.blt i μ.2.2.1 = true) (hL : (i, Value.int x) :: lfi i L = L') (kk : V g μ θ h k n L' q S) : V g μ θ h k n L pc (.int x :: S) := by
  subst hq; subst hL
  exact fun p e s m args below meth c H locs ls B R hS hl => lv_istore B.1 B.2.1 hd hl (Nat.le_of_ble_eq_true hi) (by rw [lfi_tv]; rfl) (fun ls hl => kk p e s m args below meth c H locs ls B R hS hl)
theorem V_astore_n {i : Fin 4} {a : Nat} (hd : decode μ.2.1 pc = .ok (.astore_n i, 1)) (hq : pc + 1 = q) (hi : Nat.blt i μ.2.2.1 = true) (hL : ((i : Nat), Value.ref a) :: lfi i L = L') (kk : V g μ θ h k n L' q S) : V g μ θ h k n L pc (.ref a :: S) := by
  subst hq; subst hL
  exact fun p e s m args below meth c H locs ls B R hS hl => lv_astore_n B.1 B.2.1 hd rfl hl (Nat.le_of_ble_eq_true hi) (by rw [lfi_tv]; rfl) (fun ls hl => kk p e s m args below meth c H locs ls B R hS hl)
theorem V_astore {i a : Nat} (hd : decode μ.2.1 pc = .ok (.astore i, 2)) (hq : pc + 2 = q) (hi : Nat.blt i μ.2.2.1 = true) (hL : (i, Value.ref a) :: lfi i L = L') (kk : V g μ θ h k n L' q S) : V g μ θ h k n L pc (.ref a :: S) := by
  subst hq; subst hL
  exact fun p e s m args below meth c H locs ls B R hS hl => lv_astore B.1 B.2.1 hd hl (Nat.le_of_ble_eq_true hi) (by rw [lfi_tv]; rfl) (fun ls hl => kk p e s m args below meth c H locs ls B R hS hl)
theorem V_lstore_n {i : Fin 4} {x : Int64} (hd : decode μ.2.1 pc = .ok (.lstore_n i, 1)) (hq : pc + 1 = q) (hi : Nat.blt (i + 1) μ.2.2.1 = true) (hL : ((i : Nat), Value.long x) :: lfl i L = L') (kk : V g μ θ h k n L' q S) : V g μ θ h k n L pc (.long x :: S) := by
  subst hq; subst hL
  exact fun p e s m args below meth c H locs ls B R hS hl => lv_lstore_n B.1 B.2.1 hd rfl hl (Nat.le_of_ble_eq_true hi) (by rw [lfl_tv]; rfl) (fun ls hl => kk p e s m args below meth c H locs ls B R hS hl)
theorem V_iinc {j i : Nat} {c : Int} {x v : Int32} (hd : decode μ.2.1 pc = .ok (.iinc i c, 3)) (hq : pc + 3 = q) (hj : L[j]? = some (i, .int x)) (hv : x + Int32.ofInt c = v) (hi : Nat.blt i μ.2.2.1 = true) (hL : (i, Value.int v) :: lfi i L = L') (kk : V g μ θ h k n L' q S) : V g μ θ h k n L pc S := by
  subst hq; subst hL
  exact fun p e s m args below meth c H locs ls B R hS hl => lv_iinc B.1 B.2.1 hd hl (k := j) (by rw [List.getElem?_map, hj]; rfl) hv (Nat.le_of_ble_eq_true hi) (by rw [lfi_tv]; rfl) (fun ls hl => kk p e s m args below meth c H locs ls B R hS hl)
theorem V_iadd {x y : Int32} (hd : decode μ.2.1 pc = .ok (.iadd, 1)) (hq : pc + 1 = q) (kk : V g μ θ h k n L q (.int (x + y) :: S)) : V g μ θ h k n L pc (.int y :: .int x :: S) := by
  subst hq
  exact fun p e s m args below meth c H locs ls B R hS hl => lv_iadd B.1 B.2.1 hd (kk p e s m args below meth c H locs ls B R hS hl)
theorem V_isub {x y : Int32} (hd : decode μ.2.1 pc = .ok (.isub, 1)) (hq : pc + 1 = q) (kk : V g μ θ h k n L q (.int (x - y) :: S)) : V g μ θ h k n L pc (.int y :: .int x :: S) := by
  subst hq
  exact fun p e s m args below meth c H locs ls B R hS hl => lv_isub B.1 B.2.1 hd (kk p e s m args below meth c H locs ls B R hS hl)
theorem V_imul {x y : Int32} (hd : decode μ.2.1 pc = .ok (.imul, 1)) (hq : pc + 1 = q) (kk : V g μ θ h k n L q (.int (x * y) :: S)) : V g μ θ h k n L pc (.int y :: .int x :: S) := by
  subst hq
  exact fun p e s m args below meth c H locs ls B R hS hl => lv_imul B.1 B.2.1 hd (kk p e s m args below meth c H locs ls B R hS hl)
theorem V_iand {x y : Int32} (hd : decode μ.2.1 pc = .ok (.iand, 1)) (hq : pc + 1 = q) (kk : V g μ θ h k n L q (.int (x &&& y) :: S)) : V g μ θ h k n L pc (.int y :: .int x :: S) := by
  subst hq
  exact fun p e s m args below meth c H locs ls B R hS hl => lv_iand B.1 B.2.1 hd (kk p e s m args below meth c H locs ls B R hS hl)
theorem V_ior {x y : Int32} (hd : decode μ.2.1 pc = .ok (.ior, 1)) (hq : pc + 1 = q) (kk : V g μ θ h k n L q (.int (x ||| y) :: S)) : V g μ θ h k n L pc (.int y :: .int x :: S) := by
  subst hq
  exact fun p e s m args below meth c H locs ls B R hS hl => lv_ior B.1 B.2.1 hd (kk p e s m args below meth c H locs ls B R hS hl)
theorem V_ishl {x y : Int32} (hd : decode μ.2.1 pc = .ok (.ishl, 1)) (hq : pc + 1 = q) (kk : V g μ θ h k n L q (.int (x <<< (y &&& 31)) :: S)) : V g μ θ h k n L pc (.int y :: .int x :: S) := by
  subst hq
  exact fun p e s m args below meth c H locs ls B R hS hl => lv_ishl B.1 B.2.1 hd (kk p e s m args below meth c H locs ls B R hS hl)
theorem V_ishr {x y : Int32} (hd : decode μ.2.1 pc = .ok (.ishr, 1)) (hq : pc + 1 = q) (kk : V g μ θ h k n L q (.int (x >>> (y &&& 31)) :: S)) : V g μ θ h k n L pc (.int y :: .int x :: S) := by
  subst hq
  exact fun p e s m args below meth c H locs ls B R hS hl => lv_ishr B.1 B.2.1 hd (kk p e s m args below meth c H locs ls B R hS hl)
theorem V_iushr {x y : Int32} (hd : decode μ.2.1 pc = .ok (.iushr, 1)) (hq : pc + 1 = q) (kk : V g μ θ h k n L q (.int ((x.toUInt32 >>> (y.toUInt32 &&& Int32.toUInt32 31)).toInt32) :: S)) : V g μ θ h k n L pc (.int y :: .int x :: S) := by
  subst hq
  exact fun p e s m args below meth c H locs ls B R hS hl => lv_iushr B.1 B.2.1 hd rfl (kk p e s m args below meth c H locs ls B R hS hl)
theorem V_irem {x y : Int32} (hd : decode μ.2.1 pc = .ok (.irem, 1)) (hq : pc + 1 = q) (hy : ¬ y = 0) (kk : V g μ θ h k n L q (.int (x - x / y * y) :: S)) : V g μ θ h k n L pc (.int y :: .int x :: S) := by
  subst hq
  exact fun p e s m args below meth c H locs ls B R hS hl => lv_irem B.1 B.2.1 hd hy (kk p e s m args below meth c H locs ls B R hS hl)
theorem V_dup {v : Value} (hd : decode μ.2.1 pc = .ok (.dup, 1)) (hq : pc + 1 = q) (hv : v.category = 1) (kk : V g μ θ h k n L q (v :: v :: S)) : V g μ θ h k n L pc (v :: S) := by
  subst hq
  exact fun p e s m args below meth c H locs ls B R hS hl => lv_dup B.1 B.2.1 hd (by rw [tv_cat]; exact hv) (kk p e s m args below meth c H locs ls B R hS hl)
theorem V_dup2 {v w : Value} (hd : decode μ.2.1 pc = .ok (.dup2, 1)) (hq : pc + 1 = q) (hv : v.category = 1) (hw : w.category = 1) (kk : V g μ θ h k n L q (v :: w :: v :: w :: S)) : V g μ θ h k n L pc (v :: w :: S) := by
  subst hq
  exact fun p e s m args below meth c H locs ls B R hS hl => lv_dup2_11 B.1 B.2.1 hd (by rw [tv_cat]; exact hv) (by rw [tv_cat]; exact hw) (kk p e s m args below meth c H locs ls B R hS hl)
theorem V_goto {off : Int} (hd : decode μ.2.1 pc = .ok (.goto off, 3)) (ht : (pc : Int) + off = (q : Int)) (kk : V g μ θ h k n L q S) : V g μ θ h k n L pc S :=
  fun p e s m args below meth c H locs ls B R hS hl => lv_goto B.1 B.2.1 hd ht (kk p e s m args below meth c H locs ls B R hS hl)
end ROWS
end
section
section ROWS
variable {g : GX} {μ : MT} {θ : TH} {h : AH} {k n : Nat} {L L' : List (Nat × Value)} {pc q tgt : Nat} {S : List Value}
theorem V_icmp_eq {x y : Int32} {off : Int} (hd : decode μ.2.1 pc = .ok (.if_icmp .eq off, 3)) (ht : (pc : Int) + off = (tgt : Int)) (hq : pc + 3 = q) (kt : x = y → V g μ θ h k n L tgt S) (kf : ¬ x = y → V g μ θ h k n L q S) : V g μ θ h k n L pc (.int y :: .int x :: S) := by
  subst hq
  exact fun p e s m args below meth c H locs ls B R hS hl => lv_icmp_eq B.1 B.2.1 hd ht (fun z => kt z p e s m args below meth c H locs ls B R hS hl) (fun z => kf z p e s m args below meth c H locs ls B R hS hl)
theorem V_if_eq {x : Int32} {off : Int} (hd : decode μ.2.1 pc = .ok (.ifCond .eq off, 3)) (ht : (pc : Int) + off = (tgt : Int)) (hq : pc + 3 = q) (kt : x = 0 → V g μ θ h k n L tgt S) (kf : ¬ x = 0 → V g μ θ h k n L q S) : V g μ θ h k n L pc (.int x :: S) := by
  subst hq
  exact fun p e s m args below meth c H locs ls B R hS hl => lv_if_eq B.1 B.2.1 hd ht (fun z => kt z p e s m args below meth c H locs ls B R hS hl) (fun z => kf z p e s m args below meth c H locs ls B R hS hl)
theorem V_icmp_ne {x y : Int32} {off : Int} (hd : decode μ.2.1 pc = .ok (.if_icmp .ne off, 3)) (ht : (pc : Int) + off = (tgt : Int)) (hq : pc + 3 = q) (kt : ¬ x = y → V g μ θ h k n L tgt S) (kf : x = y → V g μ θ h k n L q S) : V g μ θ h k n L pc (.int y :: .int x :: S) := by
  subst hq
  exact fun p e s m args below meth c H locs ls B R hS hl => lv_icmp_ne B.1 B.2.1 hd ht (fun z => kt z p e s m args below meth c H locs ls B R hS hl) (fun z => kf z p e s m args below meth c H locs ls B R hS hl)
theorem V_if_ne {x : Int32} {off : Int} (hd : decode μ.2.1 pc = .ok (.ifCond .ne off, 3)) (ht : (pc : Int) + off = (tgt : Int)) (hq : pc + 3 = q) (kt : ¬ x = 0 → V g μ θ h k n L tgt S) (kf : x = 0 → V g μ θ h k n L q S) : V g μ θ h k n L pc (.int x :: S) := by
  subst hq
  exact fun p e s m args below meth c H locs ls B R hS hl => lv_if_ne B.1 B.2.1 hd ht (fun z => kt z p e s m args below meth c H locs ls B R hS hl) (fun z => kf z p e s m args below meth c H locs ls B R hS hl)
theorem V_icmp_lt {x y : Int32} {off : Int} (hd : decode μ.2.1 pc = .ok (.if_icmp .lt off, 3)) (ht : (pc : Int) + off = (tgt : Int)) (hq : pc + 3 = q) (kt : x < y → V g μ θ h k n L tgt S) (kf : ¬ x < y → V g μ θ h k n L q S) : V g μ θ h k n L pc (.int y :: .int x :: S) := by
  subst hq
  exact fun p e s m args below meth c H locs ls B R hS hl => lv_icmp_lt B.1 B.2.1 hd ht (fun z => kt z p e s m args below meth c H locs ls B R hS hl) (fun z => kf z p e s m args below meth c H locs ls B R hS hl)
theorem V_if_lt {x : Int32} {off : Int} (hd : decode μ.2.1 pc = .ok (.ifCond .lt off, 3)) (ht : (pc : Int) + off = (tgt : Int)) (hq : pc + 3 = q) (kt : x < 0 → V g μ θ h k n L tgt S) (kf : ¬ x < 0 → V g μ θ h k n L q S) : V g μ θ h k n L pc (.int x :: S) := by
  subst hq
  exact fun p e s m args below meth c H locs ls B R hS hl => lv_if_lt B.1 B.2.1 hd ht (fun z => kt z p e s m args below meth c H locs ls B R hS hl) (fun z => kf z p e s m args below meth c H locs ls B R hS hl)
theorem V_icmp_ge {x y : Int32} {off : Int} (hd : decode μ.2.1 pc = .ok (.if_icmp .ge off, 3)) (ht : (pc : Int) + off = (tgt : Int)) (hq : pc + 3 = q) (kt : y ≤ x → V g μ θ h k n L tgt S) (kf : ¬ y ≤ x → V g μ θ h k n L q S) : V g μ θ h k n L pc (.int y :: .int x :: S) := by
  subst hq
  exact fun p e s m args below meth c H locs ls B R hS hl => lv_icmp_ge B.1 B.2.1 hd ht (fun z => kt z p e s m args below meth c H locs ls B R hS hl) (fun z => kf z p e s m args below meth c H locs ls B R hS hl)
theorem V_if_ge {x : Int32} {off : Int} (hd : decode μ.2.1 pc = .ok (.ifCond .ge off, 3)) (ht : (pc : Int) + off = (tgt : Int)) (hq : pc + 3 = q) (kt : 0 ≤ x → V g μ θ h k n L tgt S) (kf : ¬ 0 ≤ x → V g μ θ h k n L q S) : V g μ θ h k n L pc (.int x :: S) := by
  subst hq
  exact fun p e s m args below meth c H locs ls B R hS hl => lv_if_ge B.1 B.2.1 hd ht (fun z => kt z p e s m args below meth c H locs ls B R hS hl) (fun z => kf z p e s m args below meth c H locs ls B R hS hl)
theorem V_icmp_gt {x y : Int32} {off : Int} (hd : decode μ.2.1 pc = .ok (.if_icmp .gt off, 3)) (ht : (pc : Int) + off = (tgt : Int)) (hq : pc + 3 = q) (kt : y < x → V g μ θ h k n L tgt S) (kf : ¬ y < x → V g μ θ h k n L q S) : V g μ θ h k n L pc (.int y :: .int x :: S) := by
  subst hq
  exact fun p e s m args below meth c H locs ls B R hS hl => lv_icmp_gt B.1 B.2.1 hd ht (fun z => kt z p e s m args below meth c H locs ls B R hS hl) (fun z => kf z p e s m args below meth c H locs ls B R hS hl)
theorem V_if_gt {x : Int32} {off : Int} (hd : decode μ.2.1 pc = .ok (.ifCond .gt off, 3)) (ht : (pc : Int) + off = (tgt : Int)) (hq : pc + 3 = q) (kt : 0 < x → V g μ θ h k n L tgt S) (kf : ¬ 0 < x → V g μ θ h k n L q S) : V g μ θ h k n L pc (.int x :: S) := by
  subst hq
  exact fun p e s m args below meth c H locs ls B R hS hl => lv_if_gt B.1 B.2.1 hd ht (fun z => kt z p e s m args below meth c H locs ls B R hS hl) (fun z => kf z p e s m args below meth c H locs ls B R hS hl)
theorem V_icmp_le {x y : Int32} {off : Int} (hd : decode μ.2.1 pc = .ok (.if_icmp .le off, 3)) (ht : (pc : Int) + off = (tgt : Int)) (hq : pc + 3 = q) (kt : x ≤ y → V g μ θ h k n L tgt S) (kf : ¬ x ≤ y → V g μ θ h k n L q S) : V g μ θ h k n L pc (.int y :: .int x :: S) := by
  subst hq
  exact fun p e s m args below meth c H locs ls B R hS hl => lv_icmp_le B.1 B.2.1 hd ht (fun z => kt z p e s m args below meth c H locs ls B R hS hl) (fun z => kf z p e s m args below meth c H locs ls B R hS hl)
theorem V_if_le {x : Int32} {off : Int} (hd : decode μ.2.1 pc = .ok (.ifCond .le off, 3)) (ht : (pc : Int) + off = (tgt : Int)) (hq : pc + 3 = q) (kt : x ≤ 0 → V g μ θ h k n L tgt S) (kf : ¬ x ≤ 0 → V g μ θ h k n L q S) : V g μ θ h k n L pc (.int x :: S) := by
  subst hq
  exact fun p e s m args below meth c H locs ls B R hS hl => lv_if_le B.1 B.2.1 hd ht (fun z => kt z p e s m args below meth c H locs ls B R hS hl) (fun z => kf z p e s m args below meth c H locs ls B R hS hl)
theorem V_icmp_eqN {a b : Nat} {off : Int} (hd : decode μ.2.1 pc = .ok (.if_icmp .eq off, 3)) (ht : (pc : Int) + off = (tgt : Int)) (hq : pc + 3 = q) (ha : a < 2 ^ 31) (hb : b < 2 ^ 31) (kt : a = b → V g μ θ h k n L tgt S) (kf : ¬ a = b → V g μ θ h k n L q S) : V g μ θ h k n L pc (.int (nI b) :: .int (nI a) :: S) :=
  V_icmp_eq hd ht hq (fun z => kt ((nI_eq ha hb).mp z)) (fun z => kf (fun w => z ((nI_eq ha hb).mpr w)))
theorem V_if_eqN {a : Nat} {off : Int} (hd : decode μ.2.1 pc = .ok (.ifCond .eq off, 3)) (ht : (pc : Int) + off = (tgt : Int)) (hq : pc + 3 = q) (ha : a < 2 ^ 31) (kt : a = 0 → V g μ θ h k n L tgt S) (kf : 0 < a → V g μ θ h k n L q S) : V g μ θ h k n L pc (.int (nI a) :: S) :=
  V_if_eq hd ht hq (fun z => kt ((nI_eq ha (by decide)).mp (z.trans nI_0.symm))) (fun z => kf (Nat.pos_of_ne_zero (fun w => z (by rw [w]; rfl))))
theorem V_icmp_neN {a b : Nat} {off : Int} (hd : decode μ.2.1 pc = .ok (.if_icmp .ne off, 3)) (ht : (pc : Int) + off = (tgt : Int)) (hq : pc + 3 = q) (ha : a < 2 ^ 31) (hb : b < 2 ^ 31) (kt : ¬ a = b → V g μ θ h k n L tgt S) (kf : a = b → V g μ θ h k n L q S) : V g μ θ h k n L pc (.int (nI b) :: .int (nI a) :: S) :=
  V_icmp_ne hd ht hq (fun z => kt (fun w => z ((nI_eq ha hb).mpr w))) (fun z => kf ((nI_eq ha hb).mp z))
theorem V_if_neN {a : Nat} {off : Int} (hd : decode μ.2.1 pc = .ok (.ifCond .ne off, 3)) (ht : (pc : Int) + off = (tgt : Int)) (hq : pc + 3 = q) (ha : a < 2 ^ 31) (kt : 0 < a → V g μ θ h k n L tgt S) (kf : a = 0 → V g μ θ h k n L q S) : V g μ θ h k n L pc (.int (nI a) :: S) :=
  V_if_ne hd ht hq (fun z => kt (Nat.pos_of_ne_zero (fun w => z (by rw [w]; rfl)))) (fun z => kf ((nI_eq ha (by decide)).mp (z.trans nI_0.symm)))
theorem V_icmp_ltN {a b : Nat} {off : Int} (hd : decode μ.2.1 pc = .ok (.if_icmp .lt off, 3)) (ht : (pc : Int) + off = (tgt : Int)) (hq : pc + 3 = q) (ha : a < 2 ^ 31) (hb : b < 2 ^ 31) (kt : a < b → V g μ θ h k n L tgt S) (kf : b ≤ a → V g μ θ h k n L q S) : V g μ θ h k n L pc (.int (nI b) :: .int (nI a) :: S) :=
  V_icmp_lt hd ht hq (fun z => kt ((nI_ltI ha hb).mp z)) (fun z => kf (Nat.le_of_not_lt (fun w => z ((nI_ltI ha hb).mpr w))))
theorem V_if_ltN {a : Nat} {off : Int} (hd : decode μ.2.1 pc = .ok (.ifCond .lt off, 3)) (ht : (pc : Int) + off = (tgt : Int)) (hq : pc + 3 = q) (ha : a < 2 ^ 31) (kf : True → V g μ θ h k n L q S) : V g μ θ h k n L pc (.int (nI a) :: S) :=
  V_if_lt hd ht hq (fun z => absurd z (nI_pos ha)) (fun _ => kf trivial)
theorem V_icmp_geN {a b : Nat} {off : Int} (hd : decode μ.2.1 pc = .ok (.if_icmp .ge off, 3)) (ht : (pc : Int) + off = (tgt : Int)) (hq : pc + 3 = q) (ha : a < 2 ^ 31) (hb : b < 2 ^ 31) (kt : b ≤ a → V g μ θ h k n L tgt S) (kf : a < b → V g μ θ h k n L q S) : V g μ θ h k n L pc (.int (nI b) :: .int (nI a) :: S) :=
  V_icmp_ge hd ht hq (fun z => kt ((nI_leI hb ha).mp z)) (fun z => kf (Nat.lt_of_not_le (fun w => z ((nI_leI hb ha).mpr w))))
theorem V_if_geN {a : Nat} {off : Int} (hd : decode μ.2.1 pc = .ok (.ifCond .ge off, 3)) (ht : (pc : Int) + off = (tgt : Int)) (hq : pc + 3 = q) (ha : a < 2 ^ 31) (kt : True → V g μ θ h k n L tgt S) : V g μ θ h k n L pc (.int (nI a) :: S) :=
  V_if_ge hd ht hq (fun _ => kt trivial) (fun z => absurd (nI_pos' ha) z)
theorem V_icmp_gtN {a b : Nat} {off : Int} (hd : decode μ.2.1 pc = .ok (.if_icmp .gt off, 3)) (ht : (pc : Int) + off = (tgt : Int)) (hq : pc + 3 = q) (ha : a < 2 ^ 31) (hb : b < 2 ^ 31) (kt : b < a → V g μ θ h k n L tgt S) (kf : a ≤ b → V g μ θ h k n L q S) : V g μ θ h k n L pc (.int (nI b) :: .int (nI a) :: S) :=
  V_icmp_gt hd ht hq (fun z => kt ((nI_ltI hb ha).mp z)) (fun z => kf (Nat.le_of_not_lt (fun w => z ((nI_ltI hb ha).mpr w))))
theorem V_if_gtN {a : Nat} {off : Int} (hd : decode μ.2.1 pc = .ok (.ifCond .gt off, 3)) (ht : (pc : Int) + off = (tgt : Int)) (hq : pc + 3 = q) (ha : a < 2 ^ 31) (kt : 0 < a → V g μ θ h k n L tgt S) (kf : a = 0 → V g μ θ h k n L q S) : V g μ θ h k n L pc (.int (nI a) :: S) :=
  V_if_gt hd ht hq (fun z => kt ((nI_ltI (by decide) ha).mp (show nI 0 < nI a from z))) (fun z => kf (Nat.eq_zero_of_not_pos (fun w => z (show nI 0 < nI a from (nI_ltI (by decide) ha).mpr w))))
theorem V_icmp_leN {a b : Nat} {off : Int} (hd : decode μ.2.1 pc = .ok (.if_icmp .le off, 3)) (ht : (pc : Int) + off = (tgt : Int)) (hq : pc + 3 = q) (ha : a < 2 ^ 31) (hb : b < 2 ^ 31) (kt : a ≤ b → V g μ θ h k n L tgt S) (kf : b < a → V g μ θ h k n L q S) : V g μ θ h k n L pc (.int (nI b) :: .int (nI a) :: S) :=
  V_icmp_le hd ht hq (fun z => kt ((nI_leI ha hb).mp z)) (fun z => kf (Nat.lt_of_not_le (fun w => z ((nI_leI ha hb).mpr w))))
theorem V_if_leN {a : Nat} {off : Int} (hd : decode μ.2.1 pc = .ok (.ifCond .le off, 3)) (ht : (pc : Int) + off = (tgt : Int)) (hq : pc + 3 = q) (ha : a < 2 ^ 31) (kt : a = 0 → V g μ θ h k n L tgt S) (kf : 0 < a → V g μ θ h k n L q S) : V g μ θ h k n L pc (.int (nI a) :: S) :=
  V_if_le hd ht hq (fun z => kt (Nat.le_zero.mp ((nI_leI ha (by decide)).mp (show nI a ≤ nI 0 from z)))) (fun z => kf (Nat.pos_of_ne_zero (fun w => z (by rw [w]; decide))))
theorem V_if_eqB {b : Bool} {off : Int} (hd : decode μ.2.1 pc = .ok (.ifCond .eq off, 3)) (ht : (pc : Int) + off = (tgt : Int)) (hq : pc + 3 = q) (kt : b = false → V g μ θ h k n L tgt S) (kf : b = true → V g μ θ h k n L q S) : V g μ θ h k n L pc (.int (bi b) :: S) :=
  V_if_eq hd ht hq (fun z => kt (bi_eq0.mp z)) (fun z => kf (bi_ne0.mp z))
theorem V_if_neB {b : Bool} {off : Int} (hd : decode μ.2.1 pc = .ok (.ifCond .ne off, 3)) (ht : (pc : Int) + off = (tgt : Int)) (hq : pc + 3 = q) (kt : b = true → V g μ θ h k n L tgt S) (kf : b = false → V g μ θ h k n L q S) : V g μ θ h k n L pc (.int (bi b) :: S) :=
  V_if_ne hd ht hq (fun z => kt (bi_ne0.mp z)) (fun z => kf (bi_eq0.mp z))
theorem bi_inj {a b : Bool} (z : bi a = bi b) : a = b := by cases a <;> cases b <;> first | rfl | exact absurd z (by decide)
theorem V_icmp_neB {a b : Bool} {off : Int} (hd : decode μ.2.1 pc = .ok (.if_icmp .ne off, 3)) (ht : (pc : Int) + off = (tgt : Int)) (hq : pc + 3 = q) (kt : ¬ a = b → V g μ θ h k n L tgt S) (kf : a = b → V g μ θ h k n L q S) : V g μ θ h k n L pc (.int (bi b) :: .int (bi a) :: S) :=
  V_icmp_ne hd ht hq (fun z => kt (fun w => z (by rw [w]))) (fun z => kf (bi_inj z))
/-- arithmetic of small numbers -/
theorem V_iaddN {a b : Nat} (hd : decode μ.2.1 pc = .ok (.iadd, 1)) (hq : pc + 1 = q) (kk : V g μ θ h k n L q (.int (nI (a + b)) :: S)) : V g μ θ h k n L pc (.int (nI b) :: .int (nI a) :: S) := V_iadd hd hq (by rw [nI_add]; exact kk)
theorem V_imulN {a b : Nat} (hd : decode μ.2.1 pc = .ok (.imul, 1)) (hq : pc + 1 = q) (kk : V g μ θ h k n L q (.int (nI (a * b)) :: S)) : V g μ θ h k n L pc (.int (nI b) :: .int (nI a) :: S) := V_imul hd hq (by rw [pk_mul]; exact kk)
theorem V_isubN {a b : Nat} (hd : decode μ.2.1 pc = .ok (.isub, 1)) (hq : pc + 1 = q) (hab : b ≤ a) (kk : V g μ θ h k n L q (.int (nI (a - b)) :: S)) : V g μ θ h k n L pc (.int (nI b) :: .int (nI a) :: S) := V_isub hd hq (by rw [pk_sub hab]; exact kk)
theorem V_iremN {a b : Nat} (hd : decode μ.2.1 pc = .ok (.irem, 1)) (hq : pc + 1 = q) (ha : a < 2 ^ 31) (h0 : 0 < b) (hb : b < 2 ^ 31) (kk : V g μ θ h k n L q (.int (nI (a % b)) :: S)) : V g μ θ h k n L pc (.int (nI b) :: .int (nI a) :: S) := V_irem hd hq (nI_ne0 h0 hb) (by rw [pk_rem ha h0 hb]; exact kk)
theorem V_iincN {j i : Nat} {a : Nat} (hd : decode μ.2.1 pc = .ok (.iinc i 1, 3)) (hq : pc + 3 = q) (hj : L[j]? = some (i, .int (nI a))) (hi : Nat.blt i μ.2.2.1 = true) (hL : (i, Value.int (nI (a + 1))) :: lfi i L = L') (kk : V g μ θ h k n L' q S) : V g μ θ h k n L pc S := V_iinc hd hq hj (by rw [nI_succ]; rfl) hi hL kk
/-- the top of the stack under another name -/
theorem V_rw {x y : Int32} (e : x = y) (kk : V g μ θ h k n L pc (.int y :: S)) : V g μ θ h k n L pc (.int x :: S) := by rw [e]; exact kk
theorem V_st {S' : List Value} (e : S = S') (kk : V g μ θ h k n L pc S') : V g μ θ h k n L pc S := by rw [e]; exact kk
theorem V_lc (e : L = L') (kk : V g μ θ h k n L' pc S) : V g μ θ h k n L pc S := by rw [e]; exact kk
theorem V_hp {h' : AH} (e : h = h') (kk : V g μ θ h' k n L pc S) : V g μ θ h k n L pc S := by rw [e]; exact kk
theorem V_sub (ks : List Nat) (hl : ks.filterMap (fun i => L[i]?) = L') (kk : V g μ θ h k n L' pc S) : V g μ θ h k n L pc S :=
  fun p e s m args below meth c H locs ls B R hS hl' => kk p e s m args below meth c H locs ls B R hS (by
    refine ⟨hl'.1, hl'.2.1, fun q hq => ?_⟩
    obtain ⟨w, hw, rfl⟩ := List.mem_map.mp hq
    rw [← hl] at hw
    obtain ⟨i, -, hi⟩ := List.mem_filterMap.mp hw
    exact hl'.2.2 _ (List.mem_map.mpr ⟨w, List.mem_of_getElem? hi, rfl⟩))
/-- longs -/
theorem V_i2l {x : Int32} (hd : decode μ.2.1 pc = .ok (.i2l, 1)) (hq : pc + 1 = q) (kk : V g μ θ h k n L q (.long x.toInt64 :: S)) : V g μ θ h k n L pc (.int x :: S) := by
  subst hq
  exact fun p e s m args below meth c H locs ls B R hS hl => lv_i2l B.1 B.2.1 hd rfl (kk p e s m args below meth c H locs ls B R hS hl)
theorem V_l2i {x : Int64} (hd : decode μ.2.1 pc = .ok (.l2i, 1)) (hq : pc + 1 = q) (kk : V g μ θ h k n L q (.int x.toInt32 :: S)) : V g μ θ h k n L pc (.long x :: S) := by
  subst hq
  exact fun p e s m args below meth c H locs ls B R hS hl => lv_l2i B.1 B.2.1 hd rfl (kk p e s m args below meth c H locs ls B R hS hl)
theorem V_lconst {c : Fin 2} {v : Int64} (hd : decode μ.2.1 pc = .ok (.lconst c, 1)) (hq : pc + 1 = q) (hv : Int64.ofNat (c : Nat) = v) (kk : V g μ θ h k n L q (.long v :: S)) : V g μ θ h k n L pc S := by
  subst hq
  exact fun p e s m args below meth c H locs ls B R hS hl => lv_lconst B.1 B.2.1 hd hv (kk p e s m args below meth c H locs ls B R hS hl)
theorem V_lshl {x : Int64} {y : Int32} (hd : decode μ.2.1 pc = .ok (.lshl, 1)) (hq : pc + 1 = q) (kk : V g μ θ h k n L q (.long (x <<< (y.toInt64 &&& 63)) :: S)) : V g μ θ h k n L pc (.int y :: .long x :: S) := by
  subst hq
  exact fun p e s m args below meth c H locs ls B R hS hl => lv_lshl B.1 B.2.1 hd rfl (kk p e s m args below meth c H locs ls B R hS hl)
theorem V_lor {x y : Int64} (hd : decode μ.2.1 pc = .ok (.lor, 1)) (hq : pc + 1 = q) (kk : V g μ θ h k n L q (.long (x ||| y) :: S)) : V g μ θ h k n L pc (.long y :: .long x :: S) := by
  subst hq
  exact fun p e s m args below meth c H locs ls B R hS hl => lv_lor B.1 B.2.1 hd (kk p e s m args below meth c H locs ls B R hS hl)
theorem V_ladd {x y : Int64} (hd : decode μ.2.1 pc = .ok (.ladd, 1)) (hq : pc + 1 = q) (kk : V g μ θ h k n L q (.long (x + y) :: S)) : V g μ θ h k n L pc (.long y :: .long x :: S) := by
  subst hq
  exact fun p e s m args below meth c H locs ls B R hS hl => lv_ladd B.1 B.2.1 hd (kk p e s m args below meth c H locs ls B R hS hl)
theorem V_lcmp {x y : Int64} (hd : decode μ.2.1 pc = .ok (.lcmp, 1)) (hq : pc + 1 = q) (kk : V g μ θ h k n L q (.int (lg_cmp x y) :: S)) : V g μ θ h k n L pc (.long y :: .long x :: S) := by
  subst hq
  exact fun p e s m args below meth c H locs ls B R hS hl => W.lcmp B.1 B.2.1 hd (kk p e s m args below meth c H locs ls B R hS hl)
/-- switches -/
theorem V_tableIn {dflt lo hi : Int} {offs : Array Int} {len : Nat} {x : Int32} {off : Int} (hd : decode μ.2.1 pc = .ok (.tableswitch dflt lo hi offs, len)) (h1 : ¬ x.toInt < lo) (h2 : ¬ hi < x.toInt) (ho : offs[(x.toInt - lo).toNat]? = some off) (ht : (pc : Int) + off = (tgt : Int)) (kk : V g μ θ h k n L tgt S) : V g μ θ h k n L pc (.int x :: S) :=
  fun p e s m args below meth c H locs ls B R hS hl => lv_tableIn B.1 B.2.1 hd h1 h2 ho ht (kk p e s m args below meth c H locs ls B R hS hl)
theorem V_tableOut {dflt lo hi : Int} {offs : Array Int} {len : Nat} {x : Int32} (hd : decode μ.2.1 pc = .ok (.tableswitch dflt lo hi offs, len)) (h1 : x.toInt < lo ∨ hi < x.toInt) (ht : (pc : Int) + dflt = (tgt : Int)) (kk : V g μ θ h k n L tgt S) : V g μ θ h k n L pc (.int x :: S) :=
  fun p e s m args below meth c H locs ls B R hS hl => lv_tableOut B.1 B.2.1 hd h1 ht (kk p e s m args below meth c H locs ls B R hS hl)
end ROWS
section RETS
variable {g : GX} {μ : MT} {d mc ms : Nat} {post : Option Value → AH → Prop} {h : AH} {k n : Nat} {L : List (Nat × Value)} {pc : Nat}
theorem V_iret {v : Int32} (hr : μ.2.2.2 = some .int) (hd : decode μ.2.1 pc = .ok (.ireturn, 1)) (hk : Nat.ble k mc = true) (hn : Nat.ble n ms = true) (hp : post (some (.int v)) h) : V g μ (thM g d mc ms post) h k n L pc [.int v] :=
  fun p e s m args below meth c H locs ls B R hS hl => W.widen (Nat.le_of_ble_eq_true hk) (Nat.le_of_ble_eq_true hn) (W.iret (v := v) B.1 B.2.1 (B.2.2.1.trans hr) (fun t ht hW => ⟨⟨_, h, rfl, hp, by rw [ht]; exact R⟩, hS.F ht⟩) hS.2.2 hd B.2.2.2.2.2.2.1)
theorem V_zret {b : Bool} (hr : μ.2.2.2 = some .boolean) (hd : decode μ.2.1 pc = .ok (.ireturn, 1)) (hk : Nat.ble k mc = true) (hn : Nat.ble n ms = true) (hp : post (some (.int (bi b))) h) : V g μ (thM g d mc ms post) h k n L pc [.int (bi b)] :=
  fun p e s m args below meth c H locs ls B R hS hl => W.widen (Nat.le_of_ble_eq_true hk) (Nat.le_of_ble_eq_true hn) (W.zret (v := bi b) B.1 B.2.1 (B.2.2.1.trans hr) (bi_nar b) (fun t ht hW => ⟨⟨_, h, rfl, hp, by rw [ht]; exact R⟩, hS.F ht⟩) hS.2.2 hd B.2.2.2.2.2.2.1)
theorem V_vret (hr : μ.2.2.2 = none) (hd : decode μ.2.1 pc = .ok (.return_, 1)) (hk : Nat.ble k mc = true) (hn : Nat.ble n ms = true) (hp : post none h) : V g μ (thM g d mc ms post) h k n L pc [] :=
  fun p e s m args below meth c H locs ls B R hS hl => W.widen (Nat.le_of_ble_eq_true hk) (Nat.le_of_ble_eq_true hn) (W.vret B.1 B.2.1 (B.2.2.1.trans hr) (fun t ht hW => ⟨⟨_, h, rfl, hp, by rw [ht]; exact R⟩, hS.F ht⟩) hS.2.2 hd B.2.2.2.2.2.2.1)
theorem V_aret {a : Nat} {C : String} (hr : μ.2.2.2 = some (.object C)) (hd : decode μ.2.1 pc = .ok (.areturn, 1)) (hk : Nat.ble k mc = true) (hn : Nat.ble n ms = true) (hp : post (some (.ref a)) h) : V g μ (thM g d mc ms post) h k n L pc [.ref a] :=
  fun p e s m args below meth c H locs ls B R hS hl => W.widen (Nat.le_of_ble_eq_true hk) (Nat.le_of_ble_eq_true hn) (W.aret (v := tv g (.ref a)) B.1 B.2.1 (B.2.2.1.trans hr) (Or.inl ⟨C, rfl⟩) (Or.inr ⟨_, rfl⟩) (fun t ht hW => ⟨⟨some (.ref a), h, rfl, hp, by rw [ht]; exact R⟩, hS.F ht⟩) hS.2.2 hd B.2.2.2.2.2.2.1)
end RETS
end
section
/-- one slot changed -/
def sI (h : AH) (a j : Nat) (v : Int32) : AH := (h.1, fun b i => if b = a ∧ i = j then v else hI h b i, hJ h, hP h)
def sJ (h : AH) (a j : Nat) (v : Int64) : AH := (h.1, hI h, fun b i => if b = a ∧ i = j then v else hJ h b i, hP h)
def sP (h : AH) (a j : Nat) (v : Option Nat) : AH := (h.1, hI h, hJ h, fun b i => if b = a ∧ i = j then v else hP h b i)
/-- a field under its number in the constant pool of 'own' -/
def FL (own : String) (idx ci fk : Nat) : Prop := ∃ (C : String) (T : u_T) (ty : Nat → FieldType) (N : Nat), vwCl[ci]? = some (C, T, N) ∧ fk < N ∧ ci < 9 ∧ Cond.fieldLink own idx (T fk).1 (T fk).2.1 (T fk).2.2.1 ∈ gt ∧ (∀ w ∈ u_ws C T N, w ∈ gt) ∧
  (∀ k, k < N → parseFieldDescriptor (T k).2.2.1 = some (ty k)) ∧ (∀ a, a < N → ∀ b, b < N → a ≠ b → (T a).2.1 ≠ (T b).2.1)
/-- the same, the field may be written: it isn't final -/
def FW (own : String) (idx ci fk : Nat) (t : FieldType) : Prop := FL own idx ci fk ∧ ∀ (C : String) (T : u_T) (N : Nat), vwCl[ci]? = some (C, T, N) → (T fk).2.2.2 = false ∧ parseFieldDescriptor (T fk).2.2.1 = some t
/-- the same, a final field of the class whose constructor writes it -/
def FF (own : String) (idx ci fk : Nat) (t : FieldType) : Prop := FL own idx ci fk ∧ ∀ (C : String) (T : u_T) (N : Nat), vwCl[ci]? = some (C, T, N) → (T fk).2.2.2 = true ∧ (T fk).1 = own ∧ parseFieldDescriptor (T fk).2.2.1 = some t
theorem Rep.obj {g : GX} {h : AH} {H : Heap} {a ci N : Nat} (R : Rep g h H) (hs : h.1[a]? = some (ci, N)) (hc : ci < 9) : ∃ r : vw_C, vwCl[ci]? = some r ∧ r.2.2 = N ∧ t_OB (gB g + a) ((gD g).1 ci) N ((gD g).2 ci) H (cv g h ci a) := by
  have := R.2 a _ hs
  unfold cellOk at this
  rw [if_pos hc] at this
  exact this
theorem Rep.arr {g : GX} {h : AH} {H : Heap} {a ci N : Nat} (R : Rep g h H) (hs : h.1[a]? = some (ci, N)) (hc : ¬ ci < 9) : H[gB g + a]? = some (arrV (gC g ci) N (cv g h ci a)) := by
  have := R.2 a _ hs
  unfold cellOk at this
  rw [if_neg hc] at this
  exact this
/-- a heap in which one cell has changed -/
theorem Rep.put {g : GX} {h h' : AH} {H H' : Heap} {a : Nat} {q : Nat × Nat} (R : Rep g h H) (hs : h.1[a]? = some q) (e1 : h'.1 = h.1) (ho : ∀ b c j, b ≠ a → cv g h' c b j = cv g h c b j) (hz : H'.size = H.size) (oq : ∀ x, x ≠ gB g + a → H'[x]? = H[x]?) (hn : cellOk g h' a q H') : Rep g h' H' := by
  refine ⟨by rw [hz, e1]; exact R.1, fun b qb hb => ?_⟩
  rw [e1] at hb
  by_cases e : b = a
  · subst e
    cases hs.symm.trans hb
    exact hn
  · have h0 := R.2 b qb hb
    have hx : H'[gB g + b]? = H[gB g + b]? := oq _ (by omega)
    unfold cellOk at h0 ⊢
    split
    · rename_i hc
      rw [if_pos hc] at h0
      obtain ⟨r, h1, h2, h3⟩ := h0
      exact ⟨r, h1, h2, (h3.kept hx).to (fun j _ => (ho b qb.1 j e).symm)⟩
    · rename_i hc
      rw [if_neg hc] at h0
      rw [hx, h0]
      congr 2
      funext j
      exact (ho b qb.1 j e).symm
theorem cv_sI (g : GX) (h : AH) (a j : Nat) (v : Int32) (c b i : Nat) : cv g (sI h a j v) c b i = if b = a ∧ i = j ∧ sty c i = 0 then .int v else cv g h c b i := by
  show (if sty c i = 0 then Value.int (if b = a ∧ i = j then v else hI h b i) else if sty c i = 1 then .long (hJ h b i) else rv g (hP h b i)) = _
  unfold cv
  by_cases e : b = a ∧ i = j
  · obtain ⟨rfl, rfl⟩ := e
    by_cases h0 : sty c i = 0 <;> simp [h0]
  · have e2 : ¬ (b = a ∧ i = j ∧ sty c i = 0) := fun w => e ⟨w.1, w.2.1⟩
    simp only [if_neg e, if_neg e2]
theorem cv_sJ (g : GX) (h : AH) (a j : Nat) (v : Int64) (c b i : Nat) : cv g (sJ h a j v) c b i = if b = a ∧ i = j ∧ sty c i = 1 then .long v else cv g h c b i := by
  show (if sty c i = 0 then Value.int (hI h b i) else if sty c i = 1 then .long (if b = a ∧ i = j then v else hJ h b i) else rv g (hP h b i)) = _
  unfold cv
  by_cases e : b = a ∧ i = j
  · obtain ⟨rfl, rfl⟩ := e
    by_cases h0 : sty c i = 1 <;> simp [h0]
  · have e2 : ¬ (b = a ∧ i = j ∧ sty c i = 1) := fun w => e ⟨w.1, w.2.1⟩
    simp only [if_neg e, if_neg e2]
theorem sty_3 (c j : Nat) : sty c j = 0 ∨ sty c j = 1 ∨ sty c j = 2 := by
  unfold sty
  split <;> first | decide | (split <;> first | decide | (split <;> decide))
theorem cv_sP (g : GX) (h : AH) (a j : Nat) (v : Option Nat) (c b i : Nat) : cv g (sP h a j v) c b i = if b = a ∧ i = j ∧ sty c i = 2 then rv g v else cv g h c b i := by
  show (if sty c i = 0 then Value.int (hI h b i) else if sty c i = 1 then .long (hJ h b i) else rv g (if b = a ∧ i = j then v else hP h b i)) = _
  unfold cv
  by_cases e : b = a ∧ i = j
  · obtain ⟨rfl, rfl⟩ := e
    rcases sty_3 c i with h0 | h0 | h0 <;> simp [h0]
  · have e2 : ¬ (b = a ∧ i = j ∧ sty c i = 2) := fun w => e ⟨w.1, w.2.1⟩
    simp only [if_neg e, if_neg e2]
section HEAP
variable {g : GX} {μ : MT} {θ : TH} {h : AH} {k n : Nat} {L L' : List (Nat × Value)} {pc q tgt : Nat} {S : List Value}
theorem V_getc {a idx ci fk N : Nat} {v : Value} (hl : FL μ.1.cls idx ci fk) (hs : h.1[a]? = some (ci, N)) (hv : cv g h ci a fk = tv g v) (hd : decode μ.2.1 pc = .ok (.getfield idx, 3)) (hq : pc + 3 = q) (kk : V g μ θ h k n L q (v :: S)) : V g μ θ h k n L pc (.ref a :: S) := by
  subst hq
  intro p e s m args below meth c H locs ls B R hS hl'
  obtain ⟨C, T, ty, N', hc, hk, hci, hlk, hin, -, -⟩ := hl
  obtain ⟨r, h1, h2, cell, q1, q2, q3, q4⟩ := R.obj hs hci
  have hr : r = (C, T, N') := Option.some.inj (h1.symm.trans hc)
  subst hr
  subst h2
  obtain ⟨hS', hfc, kC, hkC, hkind⟩ := B.2.2.2.2.2.2.2.2.1.1.1 ci _ hc
  obtain ⟨cf, kf, fi, f, hi, hsl⟩ := hS' fk hk
  refine W.getf B.1 B.2.1 B.2.2.2.2.1 (B.2.2.2.2.2.1 _ hlk) hi (u_facts hfc hkC (u_lays B.2.2.2.2.2.1 hin hk) hi).1 q1 (by rw [q3]; exact fun h => by cases h) (v := tv g v) ?_ rfl rfl hd (kk p e s m args below meth c H locs ls B R hS hl')
  rw [hsl, q4 fk hk, hv]
theorem V_getI {a idx ci fk N : Nat} (hl : FL μ.1.cls idx ci fk) (hs : h.1[a]? = some (ci, N)) (hy : sty ci fk = 0) (hd : decode μ.2.1 pc = .ok (.getfield idx, 3)) (hq : pc + 3 = q) (kk : V g μ θ h k n L q (.int (hI h a fk) :: S)) : V g μ θ h k n L pc (.ref a :: S) :=
  V_getc hl hs (by unfold cv; rw [if_pos hy]; rfl) hd hq kk
theorem V_getP {a idx ci fk N r : Nat} (hl : FL μ.1.cls idx ci fk) (hs : h.1[a]? = some (ci, N)) (hy : sty ci fk = 2) (hr : hP h a fk = some r) (hd : decode μ.2.1 pc = .ok (.getfield idx, 3)) (hq : pc + 3 = q) (kk : V g μ θ h k n L q (.ref r :: S)) : V g μ θ h k n L pc (.ref a :: S) :=
  V_getc hl hs (by unfold cv; rw [if_neg (by rw [hy]; decide), if_neg (by rw [hy]; decide), hr]; rfl) hd hq kk
/-- a field is written -/
theorem V_putc {a idx ci fk N : Nat} {v : Value} {t : FieldType} {h' : AH} (hl : FW μ.1.cls idx ci fk t) (hs : h.1[a]? = some (ci, N)) (hn : narrow t (tv g v) = tv g v) (hf : fits t (tv g v) = true) (e1 : h'.1 = h.1) (hc' : ∀ c b j, cv g h' c b j = if b = a ∧ j = fk ∧ sty c j = sty ci fk then tv g v else cv g h c b j) (hd : decode μ.2.1 pc = .ok (.putfield idx, 3)) (hq : pc + 3 = q) (kk : V g μ θ h' k n L q S) : V g μ θ h k n L pc (v :: .ref a :: S) := by
  subst hq
  intro p e s m args below meth c H locs ls B R hS hl'
  obtain ⟨⟨C, T, ty0, N', hc, hk, hci, hlk, hin, hty, hnm⟩, hw⟩ := hl
  obtain ⟨r, h1, h2, cell, q1, q2, q3, q4⟩ := R.obj hs hci
  have hr : r = (C, T, N') := Option.some.inj (h1.symm.trans hc)
  subst hr
  subst h2
  obtain ⟨hfin, hdesc⟩ := hw C T N' hc
  have hts := B.2.2.2.2.2.1
  have hap := va_apart (own := μ.1.cls) hts hin ty0 hty hnm B.2.2.2.2.2.2.2.2.1.1 hc
  obtain ⟨hS', hfc, kC, hkC, hkind⟩ := B.2.2.2.2.2.2.2.2.1.1.1 ci _ hc
  obtain ⟨cf, kf, fi, f, hi, hsl⟩ := hS' fk hk
  have hlay := hts _ (hin _ (u_in_lay hk))
  unfold u_lay at hlay
  rw [if_neg (by rw [hfin]; decide)] at hlay
  have hst := (u_facts hfc hkC (u_lays hts hin hk) hi).1
  have h6 := u_store hfc hkC hkind hlay hi hdesc hn hf
  refine W.putK B.1 B.2.1 (f := f) ⟨B.2.2.2.2.1, hts _ hlk, ⟨_, _, _, hi⟩, hst⟩ (by rw [q2]; exact h6) q1 q3 (by rw [hsl]; exact k2_hasslot (q4 fk hk)) rfl rfl hd fun H' x1 x2 x3 => ?_
  rw [hsl] at x1 ⊢
  refine kk p e s m args below meth c H' _ ls B (R.put hs e1 (fun b c j hb => by rw [hc', if_neg (fun w => hb w.1)]) x2 x3 ?_) (hS.put x2 x3 (Nat.le_add_right _ _)) hl'
  unfold cellOk
  rw [if_pos hci]
  refine ⟨(C, T, N'), hc, rfl, t_OB.to (V := updV (cv g h ci a) fk (tv g v)) ⟨_, x1, q2, q3, t_set q4 hap hk (tv g v)⟩ (fun j _ => ?_)⟩
  rw [hc']
  unfold updV
  by_cases hj : j = fk
  · subst hj
    simp
  · rw [if_neg hj, if_neg (fun w => hj w.2.1)]
theorem V_putI {a idx ci fk N : Nat} {v : Int32} (hl : FW μ.1.cls idx ci fk .int) (hs : h.1[a]? = some (ci, N)) (hy : sty ci fk = 0) (hd : decode μ.2.1 pc = .ok (.putfield idx, 3)) (hq : pc + 3 = q) (kk : V g μ θ (sI h a fk v) k n L q S) : V g μ θ h k n L pc (.int v :: .ref a :: S) :=
  V_putc (h' := sI h a fk v) hl hs rfl rfl rfl (fun c b j => by rw [cv_sI, hy]; rfl) hd hq kk
theorem V_putZ {a idx ci fk N : Nat} {b : Bool} (hl : FW μ.1.cls idx ci fk .boolean) (hs : h.1[a]? = some (ci, N)) (hy : sty ci fk = 0) (hd : decode μ.2.1 pc = .ok (.putfield idx, 3)) (hq : pc + 3 = q) (kk : V g μ θ (sI h a fk (bi b)) k n L q S) : V g μ θ h k n L pc (.int (bi b) :: .ref a :: S) :=
  V_putc (h' := sI h a fk (bi b)) hl hs (bi_nar b) (by cases b <;> rfl) rfl (fun c b j => by rw [cv_sI, hy]; rfl) hd hq kk
/-- a final field is written by its constructor -/
theorem V_putFc {a idx ci fk N : Nat} {v : Value} {t : FieldType} {h' : AH} (hl : FF μ.1.cls idx ci fk t) (hin2 : μ.1.name = "<init>") (hs : h.1[a]? = some (ci, N)) (hn : narrow t (tv g v) = tv g v) (hf : fits t (tv g v) = true) (e1 : h'.1 = h.1) (hc' : ∀ c b j, cv g h' c b j = if b = a ∧ j = fk ∧ sty c j = sty ci fk then tv g v else cv g h c b j) (hd : decode μ.2.1 pc = .ok (.putfield idx, 3)) (hq : pc + 3 = q) (kk : V g μ θ h' k n L q S) : V g μ θ h k n L pc (v :: .ref a :: S) := by
  subst hq
  intro p e s m args below meth c H locs ls B R hS hl'
  obtain ⟨⟨C, T, ty0, N', hc, hk, hci, hlk, hin, hty, hnm⟩, hw⟩ := hl
  obtain ⟨r, h1, h2, cell, q1, q2, q3, q4⟩ := R.obj hs hci
  have hr : r = (C, T, N') := Option.some.inj (h1.symm.trans hc)
  subst hr
  subst h2
  obtain ⟨hfin, hdecl, hdesc⟩ := hw C T N' hc
  have hts := B.2.2.2.2.2.1
  have hap := va_apart (own := μ.1.cls) hts hin ty0 hty hnm B.2.2.2.2.2.2.2.2.1.1 hc
  obtain ⟨hS', hfc, kC, hkC, hkind⟩ := B.2.2.2.2.2.2.2.2.1.1.1 ci _ hc
  obtain ⟨cf, kf, fi, f, hi, hsl⟩ := hS' fk hk
  have hlay := hts _ (hin _ (u_in_lay hk))
  unfold u_lay at hlay
  rw [if_pos hfin] at hlay
  have hst := (u_facts hfc hkC (u_lays hts hin hk) hi).1
  have hcf : m.cls = cf := by
    obtain ⟨_, _, c', _, _, _, -, -, hf', -, -, -, hown2, -⟩ := Cond.laysFinal_spec hlay
    have e1 : c' = cf := by have := hi.symm.trans hf'; simp at this; exact this.1.symm
    rw [hdecl] at hown2
    rw [← e1]; exact Option.some.inj (B.2.2.2.2.1.symm.trans hown2)
  have h6 := u_fits hfc hkC hkind (Or.inr hlay) hi hdesc hn hf
  refine W.putFinK B.1 B.2.1 B.2.2.2.2.1 (hts _ hlk) hi hst hcf (B.2.2.2.2.2.2.2.1 hin2) (by rw [q2]; exact h6) q1 q3 (by rw [hsl]; exact k2_hasslot (q4 fk hk)) rfl rfl hd fun H' x1 x2 x3 => ?_
  rw [hsl] at x1 ⊢
  refine kk p e s m args below meth c H' _ ls B (R.put hs e1 (fun b c j hb => by rw [hc', if_neg (fun w => hb w.1)]) x2 x3 ?_) (hS.put x2 x3 (Nat.le_add_right _ _)) hl'
  unfold cellOk
  rw [if_pos hci]
  refine ⟨(C, T, N'), hc, rfl, t_OB.to (V := updV (cv g h ci a) fk (tv g v)) ⟨_, x1, q2, q3, t_set q4 hap hk (tv g v)⟩ (fun j _ => ?_)⟩
  rw [hc']
  unfold updV
  by_cases hj : j = fk
  · subst hj
    simp
  · rw [if_neg hj, if_neg (fun w => hj w.2.1)]
theorem V_putFI {a idx ci fk N : Nat} {v : Int32} (hl : FF μ.1.cls idx ci fk .int) (hin2 : μ.1.name = "<init>") (hs : h.1[a]? = some (ci, N)) (hy : sty ci fk = 0) (hd : decode μ.2.1 pc = .ok (.putfield idx, 3)) (hq : pc + 3 = q) (kk : V g μ θ (sI h a fk v) k n L q S) : V g μ θ h k n L pc (.int v :: .ref a :: S) :=
  V_putFc (h' := sI h a fk v) hl hin2 hs rfl rfl rfl (fun c b j => by rw [cv_sI, hy]; rfl) hd hq kk
theorem V_putFP {a idx ci fk N r : Nat} {t : FieldType} (hl : FF μ.1.cls idx ci fk t) (ht : (∃ C, t = .object C) ∨ ∃ u, t = .array u) (hin2 : μ.1.name = "<init>") (hs : h.1[a]? = some (ci, N)) (hy : sty ci fk = 2) (hd : decode μ.2.1 pc = .ok (.putfield idx, 3)) (hq : pc + 3 = q) (kk : V g μ θ (sP h a fk (some r)) k n L q S) : V g μ θ h k n L pc (.ref r :: .ref a :: S) :=
  V_putFc (h' := sP h a fk (some r)) hl hin2 hs (by rcases ht with ⟨C, rfl⟩ | ⟨u, rfl⟩ <;> rfl) (by rcases ht with ⟨C, rfl⟩ | ⟨u, rfl⟩ <;> rfl) rfl (fun c b j => by rw [cv_sP, hy]; rfl) hd hq kk
/-- arrays -/
theorem V_iald {a i N : Nat} (hs : h.1[a]? = some (9, N)) (hi : i < N) (hN : N < 2 ^ 31) (hd : decode μ.2.1 pc = .ok (.iaload, 1)) (hq : pc + 1 = q) (kk : V g μ θ h k n L q (.int (hI h a i) :: S)) : V g μ θ h k n L pc (.int (nI i) :: .ref a :: S) := by
  subst hq
  intro p e s m args below meth c H locs ls B R hS hl'
  have hcl := nI_clamp (n := i) (by omega)
  exact W.iald (v := .int (hI h a i)) B.1 B.2.1 (R.arr hs (by decide)) ((B.2.2.2.2.2.2.2.2.1.1.2 0 _ rfl).1 N _) (fun q => by cases q) (by rw [arrV_size]; exact nI_in hi hN) (by rw [hcl, arrV_read _ _ hi]; rfl) rfl rfl hd (kk p e s m args below meth c H locs ls B R hS hl')
theorem V_zald {a i N : Nat} (hs : h.1[a]? = some (10, N)) (hi : i < N) (hN : N < 2 ^ 31) (hd : decode μ.2.1 pc = .ok (.baload, 1)) (hq : pc + 1 = q) (kk : V g μ θ h k n L q (.int (hI h a i) :: S)) : V g μ θ h k n L pc (.int (nI i) :: .ref a :: S) := by
  subst hq
  intro p e s m args below meth c H locs ls B R hS hl'
  have hcl := nI_clamp (n := i) (by omega)
  exact W.zald (v := .int (hI h a i)) B.1 B.2.1 (R.arr hs (by decide)) ((B.2.2.2.2.2.2.2.2.1.1.2 1 _ rfl).1 N _) (fun q => by cases q) (by rw [arrV_size]; exact nI_in hi hN) (by rw [hcl, arrV_read _ _ hi]; rfl) rfl rfl hd (kk p e s m args below meth c H locs ls B R hS hl')
theorem V_lald {a i N : Nat} (hs : h.1[a]? = some (11, N)) (hi : i < N) (hN : N < 2 ^ 31) (hd : decode μ.2.1 pc = .ok (.laload, 1)) (hq : pc + 1 = q) (kk : V g μ θ h k n L q (.long (hJ h a i) :: S)) : V g μ θ h k n L pc (.int (nI i) :: .ref a :: S) := by
  subst hq
  intro p e s m args below meth c H locs ls B R hS hl'
  have hcl := nI_clamp (n := i) (by omega)
  exact W.lald (v := .long (hJ h a i)) B.1 B.2.1 (R.arr hs (by decide)) ((B.2.2.2.2.2.2.2.2.1.1.2 2 _ rfl).1 N _) (fun q => by cases q) (by rw [arrV_size]; exact nI_in hi hN) (by rw [hcl, arrV_read _ _ hi]; rfl) rfl rfl hd (kk p e s m args below meth c H locs ls B R hS hl')
theorem V_aald {a c i N r : Nat} (hc : 12 ≤ c ∧ c ≤ 15) (hs : h.1[a]? = some (c, N)) (hi : i < N) (hN : N < 2 ^ 31) (hr : hP h a i = some r) (hd : decode μ.2.1 pc = .ok (.aaload, 1)) (hq : pc + 1 = q) (kk : V g μ θ h k n L q (.ref r :: S)) : V g μ θ h k n L pc (.int (nI i) :: .ref a :: S) := by
  subst hq
  intro p e s m args below meth cc H locs ls B R hS hl'
  have hcl := nI_clamp (n := i) (by omega)
  have hcv : cv g h c a i = tv g (.ref r) := by
    have : sty c i = 2 := by rcases (show c = 12 ∨ c = 13 ∨ c = 14 ∨ c = 15 by omega) with rfl | rfl | rfl | rfl <;> rfl
    unfold cv; rw [if_neg (by rw [this]; decide), if_neg (by rw [this]; decide), hr]; rfl
  have key : ∀ {ty : FieldType} {t0 : Nat}, (tys g)[t0]? = some (gC g c, ty) → ty.isReference = true → W p g.1 e θ.1 s m args below meth cc H locs k n (θ.2.2 args s below) (F0 m pc ls ((.int (nI i) :: .ref a :: S).map (tv g))) := fun ht hrf =>
    W.aald (v := tv g (.ref r)) B.1 B.2.1 (R.arr hs (by omega)) ((B.2.2.2.2.2.2.2.2.1.1.2 _ _ ht).1 N _) hrf (fun q => by cases q) (by rw [arrV_size]; exact nI_in hi hN) (by rw [hcl, arrV_read _ _ hi, hcv]) rfl rfl hd (kk p e s m args below meth cc H locs ls B R hS hl')
  rcases (show c = 12 ∨ c = 13 ∨ c = 14 ∨ c = 15 by omega) with rfl | rfl | rfl | rfl
  · exact key (t0 := 3) rfl rfl
  · exact key (t0 := 4) rfl rfl
  · exact key (t0 := 5) rfl rfl
  · exact key (t0 := 6) rfl rfl
theorem V_iast {a i N : Nat} {v : Int32} (hs : h.1[a]? = some (9, N)) (hi : i < N) (hN : N < 2 ^ 31) (hd : decode μ.2.1 pc = .ok (.iastore, 1)) (hq : pc + 1 = q) (kk : V g μ θ (sI h a i v) k n L q S) : V g μ θ h k n L pc (.int v :: .int (nI i) :: .ref a :: S) := by
  subst hq
  intro p e s m args below meth c H locs ls B R hS hl'
  have hcl := nI_clamp (n := i) (by omega)
  refine W.iast B.1 B.2.1 (R.arr hs (by decide)) ((B.2.2.2.2.2.2.2.2.1.1.2 0 _ rfl).1 N _) (fun q => by cases q) (by rw [arrV_size]; exact nI_in hi hN) rfl rfl hd fun H' x1 x2 x3 => ?_
  refine kk p e s m args below meth c H' _ ls B (R.put hs rfl (fun b c j hb => by rw [cv_sI, if_neg (fun w => hb w.1)]) x2 x3 ?_) (hS.put x2 x3 (Nat.le_add_right _ _)) hl'
  unfold cellOk
  rw [if_neg (by simp), x1, hcl, arrV_store]
  congr 2
  funext j
  rw [cv_sI]
  unfold updV
  by_cases hj : j = i
  · subst hj
    simp [sty]
  · rw [if_neg hj, if_neg (fun w => hj w.2.1)]
theorem V_zast {a i N : Nat} {b : Bool} (hs : h.1[a]? = some (10, N)) (hi : i < N) (hN : N < 2 ^ 31) (hd : decode μ.2.1 pc = .ok (.bastore, 1)) (hq : pc + 1 = q) (kk : V g μ θ (sI h a i (bi b)) k n L q S) : V g μ θ h k n L pc (.int (bi b) :: .int (nI i) :: .ref a :: S) := by
  subst hq
  intro p e s m args below meth c H locs ls B R hS hl'
  have hcl := nI_clamp (n := i) (by omega)
  refine W.zast B.1 B.2.1 (R.arr hs (by decide)) ((B.2.2.2.2.2.2.2.2.1.1.2 1 _ rfl).1 N _) (fun q => by cases q) (by rw [arrV_size]; exact nI_in hi hN) rfl rfl hd fun H' x1 x2 x3 => ?_
  refine kk p e s m args below meth c H' _ ls B (R.put hs rfl (fun b c j hb => by rw [cv_sI, if_neg (fun w => hb w.1)]) x2 x3 ?_) (hS.put x2 x3 (Nat.le_add_right _ _)) hl'
  unfold cellOk
  rw [if_neg (by simp), x1, hcl, arrV_store]
  congr 2
  funext j
  rw [cv_sI]
  unfold updV
  by_cases hj : j = i
  · subst hj
    simp [sty, bi_nar]
  · rw [if_neg hj, if_neg (fun w => hj w.2.1)]
theorem V_last {a i N : Nat} {v : Int64} (hs : h.1[a]? = some (11, N)) (hi : i < N) (hN : N < 2 ^ 31) (hd : decode μ.2.1 pc = .ok (.lastore, 1)) (hq : pc + 1 = q) (kk : V g μ θ (sJ h a i v) k n L q S) : V g μ θ h k n L pc (.long v :: .int (nI i) :: .ref a :: S) := by
  subst hq
  intro p e s m args below meth c H locs ls B R hS hl'
  have hcl := nI_clamp (n := i) (by omega)
  refine W.last B.1 B.2.1 (R.arr hs (by decide)) ((B.2.2.2.2.2.2.2.2.1.1.2 2 _ rfl).1 N _) (fun q => by cases q) (by rw [arrV_size]; exact nI_in hi hN) rfl rfl hd fun H' x1 x2 x3 => ?_
  refine kk p e s m args below meth c H' _ ls B (R.put hs rfl (fun b c j hb => by rw [cv_sJ, if_neg (fun w => hb w.1)]) x2 x3 ?_) (hS.put x2 x3 (Nat.le_add_right _ _)) hl'
  unfold cellOk
  rw [if_neg (by simp), x1, hcl, arrV_store]
  congr 2
  funext j
  rw [cv_sJ]
  unfold updV
  by_cases hj : j = i
  · subst hj
    simp [sty]
  · rw [if_neg hj, if_neg (fun w => hj w.2.1)]
/-- an array of references gets an object of its class: kind 12 of class 2, 13 of 4, 14 of 3 -/
theorem V_aast {a c i N r cr Nr : Nat} (hc : (c = 12 ∧ cr = 2) ∨ (c = 13 ∧ cr = 4) ∨ (c = 14 ∧ cr = 3)) (hs : h.1[a]? = some (c, N)) (hr : h.1[r]? = some (cr, Nr)) (hi : i < N) (hN : N < 2 ^ 31) (hd : decode μ.2.1 pc = .ok (.aastore, 1)) (hq : pc + 1 = q) (kk : V g μ θ (sP h a i (some r)) k n L q S) : V g μ θ h k n L pc (.ref r :: .int (nI i) :: .ref a :: S) := by
  subst hq
  intro p e s m args below meth cc H locs ls B R hS hl'
  have hcl := nI_clamp (n := i) (by omega)
  have hc9 : ¬ c < 9 := by omega
  have hr9 : cr < 9 := by omega
  obtain ⟨rr, hrr, hN2, cellV, g1, g2, g3, -⟩ := R.obj hr hr9
  have hK := B.2.2.2.2.2.2.2.2.1.1
  have hcls := (hK.1 cr rr hrr).2
  obtain ⟨C, t0, ht, hrn⟩ : ∃ (C : String) (t0 : Nat), (tys g)[t0]? = some (gC g c, .object C) ∧ rr.1 = C := by
    rcases hc with ⟨rfl, rfl⟩ | ⟨rfl, rfl⟩ | ⟨rfl, rfl⟩
    · exact ⟨_, 3, rfl, by cases hrr; rfl⟩
    · exact ⟨_, 4, rfl, by cases hrr; rfl⟩
    · exact ⟨_, 5, rfl, by cases hrr; rfl⟩
  obtain ⟨kA, comp, k1, k2, k3, -⟩ := (hK.2 t0 _ ht).2
  have hcomp : comp = (gD g).1 cr := Option.some.inj (k3.symm.trans (by rw [← hrn]; exact hcls.1))
  subst hcomp
  obtain ⟨kC, hkC, -⟩ := hcls.2
  refine W.aast B.1 B.2.1 (R.arr hs hc9) (fun q h => by cases h) (fun h => by cases h) k1 k2 rfl hkC ⟨nI_pos (by omega), by rw [hcl, arrV_size]; exact hi⟩ g1 (fun q h => by rw [g3] at h; cases h) (by rw [g2]; exact hkC) (by rw [g2]; exact va_assign hcls) rfl rfl hd fun H' x1 x2 x3 => ?_
  refine kk p e s m args below meth cc H' _ ls B (R.put hs rfl (fun b c j hb => by rw [cv_sP, if_neg (fun w => hb w.1)]) x2 x3 ?_) (hS.put x2 x3 (Nat.le_add_right _ _)) hl'
  unfold cellOk
  rw [if_neg hc9, x1, hcl, arrV_store]
  congr 2
  funext j
  rw [cv_sP]
  have hsy : ∀ j, sty c j = 2 := fun j => by rcases hc with ⟨rfl, -⟩ | ⟨rfl, -⟩ | ⟨rfl, -⟩ <;> rfl
  unfold updV
  by_cases hj : j = i
  · subst hj
    simp [hsy, rv]
  · rw [if_neg hj, if_neg (fun w => hj w.2.1)]
end HEAP
end
section
/-- of a method: its code stands in the tables, its class is initialised; it takes 'na' arguments beside the receiver -/
def MO (μ : MT) (na : Nat) : Prop := Cond.code μ.1 μ.2.1 μ.2.2.1 μ.2.2.2 ∈ gt ∧ Cond.initialized μ.1.cls ∈ gt ∧ (μ.1.cls ≠ "java/lang/invoke/MethodHandle" ∧ μ.1.cls ≠ "java/lang/invoke/VarHandle" ∧ (parseMethodDescriptor μ.1.desc).map (fun d => d.parameters.length) = some na) ∧ plainName μ.1.cls = true ∧ Nat.ble μ.2.2.1 21 = true
theorem wsM_good {μ : MT} {na : Nat} (h : MO μ na) : GoodIn gt (wsM μ) := fun w hw => by
  rcases List.mem_cons.mp hw with rfl | hw
  · exact gt_good _ h.1
  · exact gt_good _ hw
/-- an instance method under its number in the pool of 'own', of class number ci -/
def KV (own : String) (idx ci : Nat) (μ : MT) (na : Nat) : Prop := MO μ na ∧ Cond.methodLink own idx μ.1 ∈ gt ∧ Cond.instanceMethod μ.1 ∈ gt ∧ Cond.selects μ.1.cls μ.1 μ.1 ∈ gt ∧ ci < 9 ∧ ∀ r : vw_C, vwCl[ci]? = some r → r.1 = μ.1.cls
def KS (own : String) (idx : Nat) (μ : MT) (na : Nat) : Prop := MO μ na ∧ Cond.methodLink own idx μ.1 ∈ gt ∧ Cond.static μ.1 ∈ gt
def KSN (own : String) (idx : Nat) (μ : MT) (na : Nat) : Prop := MO μ na ∧ (∃ host, Cond.methodLinkNest own idx μ.1 host ∈ nws) ∧ Cond.static μ.1 ∈ gt
def KI (own : String) (idx : Nat) (μ : MT) (na : Nat) : Prop := MO μ na ∧ Cond.methodLink own idx μ.1 ∈ gt ∧ Cond.instanceMethod μ.1 ∈ gt ∧ μ.1.name = "<init>" ∧ μ.2.2.2 = none
def KIN (own : String) (idx : Nat) (μ : MT) (na : Nat) : Prop := MO μ na ∧ (∃ host, Cond.methodLinkNest own idx μ.1 host ∈ nws) ∧ Cond.instanceMethod μ.1 ∈ gt ∧ μ.1.name = "<init>" ∧ μ.2.2.2 = none
theorem aoa_spec {args : Array Value} {first s : State} {o : Option Outcome} {ix : List Nat} {t : FieldType} (h : (Cond.arrayOver (.array t)).holds args first o s ix = true) :
    ∃ comp c k, s.vm.findClass (FieldType.array t).toString = some comp ∧ (s.vm.classes.findIdx? fun x => match x.kind with | .array component _ => component == comp | _ => false) = some c ∧ s.vm.classes[c]? = some k ∧ k.kind = .array comp (.array t) ∧ s.vm.findClass ("[" ++ (FieldType.array t).toString) = some c := by
  simp only [Cond.holds, Cond.value, beq_iff_eq] at h
  cases hc : s.vm.findClass (FieldType.array t).toString with
  | none => simp [hc] at h
  | some comp =>
    simp only [hc, Option.bind_some, Option.bind_eq_some_iff, Option.map_eq_some_iff] at h
    obtain ⟨c, hi, k, hk, hb⟩ := h
    obtain ⟨hlt, hp, -⟩ := Array.findIdx?_eq_some_iff_getElem.mp hi
    have hkk : s.vm.classes[c] = k := (Array.getElem?_eq_some_iff.mp hk).2
    rw [hkk] at hp
    cases hkind : k.kind with
    | array component ty =>
      rw [hkind] at hb hp
      simp at hb hp
      exact ⟨comp, c, k, rfl, hi, hk, by rw [hkind, hp, hb.1], hb.2⟩
    | _ => rw [hkind] at hb; simp at hb
theorem aoa_moved {args args' : Array Value} {s U : State} {t : FieldType} (hal : s.vm.Alike U.vm) (h : (Cond.arrayOver (.array t)).before args s = true) : (Cond.arrayOver (.array t)).before args' U = true := by
  obtain ⟨comp, c, k, hcomp, hidx, hk, hkind, hname⟩ := aoa_spec h
  obtain ⟨k', hk', hek'⟩ := hal.2.2 _ _ hk
  have hkind' : k'.kind = .array comp (.array t) := by rw [hek']; exact hkind
  have hidx' : (U.vm.classes.findIdx? fun x => match x.kind with | .array component _ => component == comp | _ => false) = some c := by
    have e1 := va_idx_bare U.vm comp
    have e2 := va_idx_bare s.vm comp
    have e3 : U.vm.bare = s.vm.bare := by first | exact hal.bare_eq | exact hal.bare_eq.symm
    rw [e3] at e1
    exact (e1.symm.trans e2).trans hidx
  have hname' : U.vm.findClass ("[" ++ (FieldType.array t).toString) = some c := by rw [hal.findClass]; exact hname
  have hcomp' : U.vm.findClass (FieldType.array t).toString = some comp := by rw [hal.findClass]; exact hcomp
  show (Cond.arrayOver (.array t)).holds _ _ _ _ _ = true
  simp only [Cond.holds, Cond.value, hcomp', Option.bind_some, beq_iff_eq]
  rw [Option.bind_eq_some_iff]
  refine ⟨c, hidx', ?_⟩
  simp [hk', hkind', hname']
theorem gK.warm {g : GX} {s U : State} (hW : s.WarmedH U.vm) (h : gK g s) : gK g U := by
  obtain ⟨h1, ⟨a1, a2, a3, a4⟩, h3⟩ := h
  refine ⟨va_K.moved hW.alike h1, ⟨va_AO.moved hW.alike a1, va_AO.moved hW.alike a2, va_AO.moved hW.alike a3, aoa_moved hW.alike a4⟩, fun w hw => ?_⟩
  have h5 := h3 w hw
  simp only [nws, List.mem_cons, List.not_mem_nil, or_false] at hw
  rcases hw with rfl | rfl | rfl | rfl | rfl <;> exact va_Nw.warmM hW h5
theorem gK.call {g : GX} {U : State} {f : JFrame} {mk : MethodId} {a : Array Value} (h : gK g U) : gK g (U.calling f mk a) := by
  obtain ⟨h1, ⟨a1, a2, a3, a4⟩, h3⟩ := h
  refine ⟨va_K.moved (u := U) (Vm.Alike.refl U.vm) h1, ⟨va_AO.moved (u := U) (Vm.Alike.refl U.vm) a1, va_AO.moved (u := U) (Vm.Alike.refl U.vm) a2, va_AO.moved (u := U) (Vm.Alike.refl U.vm) a3, aoa_moved (s := U) (Vm.Alike.refl U.vm) a4⟩, fun w hw => ?_⟩
  have h5 := h3 w hw
  simp only [nws, List.mem_cons, List.not_mem_nil, or_false] at hw
  rcases hw with rfl | rfl | rfl | rfl | rfl <;> exact va_Nw.same rfl (u := U) rfl h5
theorem pc_blind {g : GX} {h : AH} {av : List Value} : FrameBlind (va_Pc (av.map (tv g)) (fun U => Rep g h U.heap ∧ gK g U)) := fun _ _ _ _ q => ⟨q.1, q.2.1, q.2.2.call⟩
theorem pre_S {g : GX} {h : AH} {av : List Value} {s : State} {H : Heap} (R : Rep g h H) (K : gK g s) : PreS s H (va_Pc (av.map (tv g)) (fun U => Rep g h U.heap ∧ gK g U)) (av.map (tv g)) :=
  ⟨pc_blind, fun U hU hW => ⟨rfl, by rw [hU]; exact R, K.warm hW⟩⟩
theorem rev_map {g : GX} (av S : List Value) : (av.reverse ++ S).map (tv g) = (av.map (tv g)).reverse ++ S.map (tv g) := by rw [List.map_append, List.map_reverse]
theorem cat_map {g : GX} : ∀ S : List Value, (S.map (tv g)).map (fun v => v.category) = S.map (fun v => v.category)
  | [] => rfl
  | a :: S => by rw [List.map_cons, List.map_cons, List.map_cons, tv_cat, cat_map S]
def fitR (R : Room) (d mc ms k n : Nat) (S : List Value) : Bool := Nat.ble (d + 1) R.frames && (Nat.ble (40 * (d + 1)) R.locals && (Nat.ble (k + mc) R.cells && (Nat.ble (n + ms) R.slots && Nat.ble ((S.map fun v => v.category).sum) 8)))
theorem fitR_spec {R : Room} {d mc ms k n : Nat} {S : List Value} (h : fitR R d mc ms k n S = true) : d + 1 ≤ R.frames ∧ 40 * (d + 1) ≤ R.locals ∧ k + mc ≤ R.cells ∧ n + ms ≤ R.slots ∧ (S.map fun v => v.category).sum ≤ 8 := by
  simp only [fitR, Bool.and_eq_true] at h
  exact ⟨Nat.le_of_ble_eq_true h.1, Nat.le_of_ble_eq_true h.2.1, Nat.le_of_ble_eq_true h.2.2.1, Nat.le_of_ble_eq_true h.2.2.2.1, Nat.le_of_ble_eq_true h.2.2.2.2⟩
section CALLS
variable {g : GX} {μ μ' : MT} {θ : TH} {h : AH} {k n d mc ms na idx : Nat} {L : List (Nat × Value)} {pc q : Nat} {S S' : List Value} {av : List Value} {post : Option Value → AH → Prop}
/-- behind a call -/
theorem V_after {p : Program} {e : Env} {s : State} {m : MethodId} {args : Array Value} {below : List Frame} {meth : Method} {c : Code} {H : Heap} {locs : List Loc} {ls : Array Slot} {st0 : List Value} {a : Array Value}
    (hr : va_Run p g.1 e θ.1 s m args below meth c H locs k n mc ms (F0 m pc ls st0) (S.map (tv g)) (Qc g post a) (gA g)) (B : Bd g μ θ p e s m args meth c) (hS : va_S (gA g) s.heap H locs) (hl : lv_has ls μ.2.2.1 (L.map fun q => (q.1, tv g q.2)))
    (kk : ∀ (r : Option Value) (h' : AH), post r h' → V g μ θ h' (k + mc) (n + ms) L (pc + 3) (r.toList ++ S)) : W p g.1 e θ.1 s m args below meth c H locs k n (θ.2.2 args s below) (F0 m pc ls st0) := by
  intro T hT X
  obtain ⟨v, st₀, t, T', L', h0, X', hL, e1, e2, ⟨⟨r, h', hv, hp, hR⟩, hz, hk⟩, st⟩ := hr T hT X
  cases hv
  rw [h0] at hz hk
  have hS' : va_S (gA g) s.heap T'.heap (locs ++ L') := ⟨Nat.le_trans hS.1 (by rw [e1]; exact hz), fun q h1 h2 => by rw [e1, hk q (Nat.lt_of_lt_of_le h1 hS.1) h2]; exact hS.2.1 q h1 h2, fun q hq => by
    rcases List.mem_append.mp hq with h | h
    · exact hS.2.2 q h
    · exact hL q h⟩
  obtain ⟨t2, a1, b1⟩ := kk r h' hp p e s m args below meth c T'.heap (locs ++ L') ls B (by rw [e1]; exact hR) hS' hl T' rfl X'
  refine ⟨t2, st t2 ?_, b1⟩
  have hm : ((r.toList ++ S).map (tv g)) = (r.map (tv g)).toList ++ S.map (tv g) := by cases r <;> simp
  rw [hm] at a1
  exact a1
theorem V_callV {ci N a : Nat} (hk : KV μ.1.cls idx ci μ' na) (hM : Ct g μ' d mc ms (.ref a :: av) h post) (hs : h.1[a]? = some (ci, N)) (hn : av.length = na) (hf : fitR θ.1 d mc ms k n S = true) (hS' : av.reverse ++ .ref a :: S = S') (hd : decode μ.2.1 pc = .ok (.invokevirtual idx, 3)) (hq : pc + 3 = q)
    (kk : ∀ (r : Option Value) (h' : AH), post r h' → V g μ θ h' (k + mc) (n + ms) L q (r.toList ++ S)) : V g μ θ h k n L pc S' := by
  subst hq; subst hS'
  intro p e s m args below meth c H locs ls B R hS hl
  obtain ⟨f1, f2, f3, f4, f5⟩ := fitR_spec hf
  obtain ⟨mo, hlk, hin, hse, hci, hcn⟩ := hk
  have hts := B.2.2.2.2.2.1
  obtain ⟨r, hr1, hr2, cell, g1, g2, g3, -⟩ := R.obj hs hci
  have hm9 : μ'.2.2.1 ≤ 21 := Nat.le_of_ble_eq_true mo.2.2.2.2
  have hgood : GoodIn gt (wsV μ.1.cls idx μ'.1.cls μ'.1 (wsM μ')) := fun w hw => by
    unfold wsV at hw
    rcases List.mem_append.mp hw with h1 | h1
    · simp only [List.mem_cons, List.not_mem_nil, or_false] at h1
      rcases h1 with rfl | rfl | rfl | rfl
      · exact gt_good _ hlk
      · exact gt_good _ hin
      · exact gt_good _ hse
      · exact gt_good _ mo.2.1
    · exact wsM_good mo w h1
  have hcw := cwV (R := θ.1) (s := s) (args := args) (own := μ.1.cls) (C := μ'.1.cls) (index := idx) (y := μ'.1) (bytes := μ'.2.1) (maxL := μ'.2.2.1) (ret := μ'.2.2.2) (ws := wsM μ') (rm := rmd d mc ms) (mc := mc) (ms := ms) na hts hgood rfl rfl rfl ⟨rfl, mo.2.2.1⟩ ⟨f1, by show 8 + (μ'.2.2.1 + 11) + 40 * d ≤ _; omega⟩
  have hrun := va_runV (p := p) (e := e) (below := below) (meth := meth) (locs := locs) (cells := k) (slots := n) (As := av.map (tv g)) (b := gB g + a) (rest := S.map (tv g)) (g := F0 m pc ls ((av.reverse ++ .ref a :: S).map (tv g))) (Ts := gt) ⟨B.1, B.2.1, B.2.2.2.1, B.2.2.2.2.1, hts⟩ hM hcw
    ⟨pc_blind, ⟨cell, g1, by rw [g3]; rfl, by rw [← hcn r hr1, g2]; exact (B.2.2.2.2.2.2.2.2.1.1.1 ci r hr1).2.1⟩, (pre_S (av := .ref a :: av) R B.2.2.2.2.2.2.2.2.1).2⟩ rfl (by rw [List.length_map]; exact hn) hl.1 (by show List.map (tv g) _ = _; rw [List.map_append, List.map_reverse]; rfl) (lv_room (by rw [cat_map]; exact f5)) hd ⟨f3, f4⟩
  exact V_after hrun B hS hl kk
theorem V_callS (hk : KS μ.1.cls idx μ' na) (hM : Ct g μ' d mc ms av h post) (hn : av.length = na) (hf : fitR θ.1 d mc ms k n S = true) (hS' : av.reverse ++ S = S') (hd : decode μ.2.1 pc = .ok (.invokestatic idx, 3)) (hq : pc + 3 = q)
    (kk : ∀ (r : Option Value) (h' : AH), post r h' → V g μ θ h' (k + mc) (n + ms) L q (r.toList ++ S)) : V g μ θ h k n L pc S' := by
  subst hq; subst hS'
  intro p e s m args below meth c H locs ls B R hS hl
  obtain ⟨f1, f2, f3, f4, f5⟩ := fitR_spec hf
  obtain ⟨mo, hlk, hst⟩ := hk
  have hts := B.2.2.2.2.2.1
  have hm9 : μ'.2.2.1 ≤ 21 := Nat.le_of_ble_eq_true mo.2.2.2.2
  have hgood : GoodIn gt (va_wsS μ.1.cls idx μ'.1 (wsM μ')) := fun w hw => by
    unfold va_wsS at hw
    rcases List.mem_append.mp hw with h1 | h1
    · simp only [List.mem_cons, List.not_mem_nil, or_false] at h1
      rcases h1 with rfl | rfl | rfl
      · exact gt_good _ hlk
      · exact gt_good _ hst
      · exact gt_good _ mo.2.1
    · exact wsM_good mo w h1
  have hcw := va_cwS (R := θ.1) (s := s) (args := args) (own := μ.1.cls) (index := idx) (y := μ'.1) (bytes := μ'.2.1) (maxL := μ'.2.2.1) (ret := μ'.2.2.2) (ws := wsM μ') (rm := rmd d mc ms) (mc := mc) (ms := ms) na hts hgood rfl rfl rfl mo.2.2.1 ⟨f1, by show 8 + (μ'.2.2.1 + 11) + 40 * d ≤ _; omega⟩
  have hrun := va_runS (p := p) (e := e) (below := below) (meth := meth) (locs := locs) (cells := k) (slots := n) (As := av.map (tv g)) (rest := S.map (tv g)) (g := F0 m pc ls ((av.reverse ++ S).map (tv g))) (Ts := gt) ⟨B.1, B.2.1, B.2.2.2.1, B.2.2.2.2.1, hts⟩ hM hcw
    (pre_S R B.2.2.2.2.2.2.2.2.1) rfl (by rw [List.length_map]; exact hn) hl.1 (rev_map av S) (lv_room (by rw [cat_map]; exact f5)) hd ⟨f3, f4⟩
  exact V_after hrun B hS hl kk
theorem V_callSN (hk : KSN μ.1.cls idx μ' na) (hM : Ct g μ' d mc ms av h post) (hn : av.length = na) (hf : fitR θ.1 d mc ms k n S = true) (hS' : av.reverse ++ S = S') (hd : decode μ.2.1 pc = .ok (.invokestatic idx, 3)) (hq : pc + 3 = q)
    (kk : ∀ (r : Option Value) (h' : AH), post r h' → V g μ θ h' (k + mc) (n + ms) L q (r.toList ++ S)) : V g μ θ h k n L pc S' := by
  subst hq; subst hS'
  intro p e s m args below meth c H locs ls B R hS hl
  obtain ⟨f1, f2, f3, f4, f5⟩ := fitR_spec hf
  obtain ⟨mo, ⟨host, hlk⟩, hst⟩ := hk
  have hts := B.2.2.2.2.2.1
  have hm9 : μ'.2.2.1 ≤ 21 := Nat.le_of_ble_eq_true mo.2.2.2.2
  have hcw := va_cnB (R := θ.1) (s := s) (args := args) (own := μ.1.cls) (host := host) (index := idx) (y := μ'.1) (bytes := μ'.2.1) (maxL := μ'.2.2.1) (ret := μ'.2.2.2) (ws := wsM μ') (rm := rmd d mc ms) (mc := mc) (ms := ms) na hts (wsM_good mo) rfl rfl rfl (B.2.2.2.2.2.2.2.2.1.2.2 _ hlk) (hts _ mo.2.1) mo.2.2.1 ⟨f1, by show 8 + (μ'.2.2.1 + 11) + 40 * d ≤ _; omega⟩
  have hrun := va_runSN (p := p) (e := e) (below := below) (meth := meth) (locs := locs) (cells := k) (slots := n) (As := av.map (tv g)) (rest := S.map (tv g)) (g := F0 m pc ls ((av.reverse ++ S).map (tv g))) (Ts := gt) ⟨B.1, B.2.1, B.2.2.2.1, B.2.2.2.2.1, hts⟩ hM ⟨hcw, hts _ hst, trivial⟩
    (pre_S R B.2.2.2.2.2.2.2.2.1) rfl (by rw [List.length_map]; exact hn) hl.1 (rev_map av S) (lv_room (by rw [cat_map]; exact f5)) hd ⟨f3, f4⟩
  exact V_after hrun B hS hl kk
theorem V_callI {a : Nat} (hk : KI μ.1.cls idx μ' na) (hM : Ct g μ' d mc ms (.ref a :: av) h post) (hn : av.length = na) (hf : fitR θ.1 d mc ms k n S = true) (hS' : av.reverse ++ .ref a :: S = S') (hd : decode μ.2.1 pc = .ok (.invokespecial idx, 3)) (hq : pc + 3 = q)
    (kk : ∀ (r : Option Value) (h' : AH), post r h' → V g μ θ h' (k + mc) (n + ms) L q (r.toList ++ S)) : V g μ θ h k n L pc S' := by
  subst hq; subst hS'
  intro p e s m args below meth c H locs ls B R hS hl
  obtain ⟨f1, f2, f3, f4, f5⟩ := fitR_spec hf
  obtain ⟨mo, hlk, hin, hnm, hret⟩ := hk
  have hts := B.2.2.2.2.2.1
  have hm9 : μ'.2.2.1 ≤ 21 := Nat.le_of_ble_eq_true mo.2.2.2.2
  have hcw := cwI (R := θ.1) (s := s) (args := args) (own := μ.1.cls) (index := idx) (y := μ'.1) (bytes := μ'.2.1) (maxL := μ'.2.2.1) (ws := wsM μ') (ws' := gt) (rm := rmd d mc ms) (mc := mc) (ms := ms) na hts (wsM_good mo) (by unfold wsM; rw [hret]) rfl rfl (hts _ mo.2.1) (hts _ hlk) (hts _ hin) hnm mo.2.2.1 ⟨f1, by show 8 + (μ'.2.2.1 + 11) + 40 * d ≤ _; omega⟩
  have hrun := va_runI (p := p) (e := e) (below := below) (meth := meth) (locs := locs) (cells := k) (slots := n) (As := av.map (tv g)) (b := gB g + a) (rest := S.map (tv g)) (g := F0 m pc ls ((av.reverse ++ .ref a :: S).map (tv g))) (Ts := gt) ⟨B.1, B.2.1, B.2.2.2.1, B.2.2.2.2.1, hts⟩ hM hcw
    (pre_S (av := .ref a :: av) R B.2.2.2.2.2.2.2.2.1) rfl (by rw [List.length_map]; exact hn) hl.1 (by show List.map (tv g) _ = _; rw [List.map_append, List.map_reverse]; rfl) (lv_room (by rw [cat_map]; exact f5)) hd ⟨f3, f4⟩
  exact V_after hrun B hS hl kk
theorem V_callIN {a : Nat} (hk : KIN μ.1.cls idx μ' na) (hM : Ct g μ' d mc ms (.ref a :: av) h post) (hn : av.length = na) (hf : fitR θ.1 d mc ms k n S = true) (hS' : av.reverse ++ .ref a :: S = S') (hd : decode μ.2.1 pc = .ok (.invokespecial idx, 3)) (hq : pc + 3 = q)
    (kk : ∀ (r : Option Value) (h' : AH), post r h' → V g μ θ h' (k + mc) (n + ms) L q (r.toList ++ S)) : V g μ θ h k n L pc S' := by
  subst hq; subst hS'
  intro p e s m args below meth c H locs ls B R hS hl
  obtain ⟨f1, f2, f3, f4, f5⟩ := fitR_spec hf
  obtain ⟨mo, ⟨host, hlk⟩, hin, hnm, hret⟩ := hk
  have hts := B.2.2.2.2.2.1
  have hm9 : μ'.2.2.1 ≤ 21 := Nat.le_of_ble_eq_true mo.2.2.2.2
  have hcw := va_cnB (R := θ.1) (s := s) (args := args) (own := μ.1.cls) (host := host) (index := idx) (y := μ'.1) (bytes := μ'.2.1) (maxL := μ'.2.2.1) (ret := none) (ws := wsM μ') (ws' := gt) (rm := rmd d mc ms) (mc := mc) (ms := ms) na hts (wsM_good mo) (by unfold wsM; rw [hret]) rfl rfl (B.2.2.2.2.2.2.2.2.1.2.2 _ hlk) (hts _ mo.2.1) mo.2.2.1 ⟨f1, by show 8 + (μ'.2.2.1 + 11) + 40 * d ≤ _; omega⟩
  have hrun := va_runIN (p := p) (e := e) (below := below) (meth := meth) (locs := locs) (cells := k) (slots := n) (As := av.map (tv g)) (b := gB g + a) (rest := S.map (tv g)) (g := F0 m pc ls ((av.reverse ++ .ref a :: S).map (tv g))) (Ts := gt) ⟨B.1, B.2.1, B.2.2.2.1, B.2.2.2.2.1, hts⟩ hM ⟨hcw, hnm, hts _ hin⟩
    (pre_S (av := .ref a :: av) R B.2.2.2.2.2.2.2.2.1) rfl (by rw [List.length_map]; exact hn) hl.1 (by show List.map (tv g) _ = _; rw [List.map_append, List.map_reverse]; rfl) (lv_room (by rw [cat_map]; exact f5)) hd ⟨f3, f4⟩
  exact V_after hrun B hS hl kk
/-- calls that change nothing -/
theorem V_cpV {ci N a : Nat} {v : Value} (hk : KV μ.1.cls idx ci μ' na) (hM : Cp g μ' d (.ref a :: av) h v) (hs : h.1[a]? = some (ci, N)) (hn : av.length = na) (hf : fitR θ.1 d 0 0 k n S = true) (hS' : av.reverse ++ .ref a :: S = S') (hd : decode μ.2.1 pc = .ok (.invokevirtual idx, 3)) (hq : pc + 3 = q)
    (kk : V g μ θ h k n L q (v :: S)) : V g μ θ h k n L pc S' :=
  V_callV hk hM hs hn hf hS' hd hq (fun r h' hp => by obtain ⟨rfl, rfl⟩ := hp; exact kk)
theorem V_cpS {v : Value} (hk : KS μ.1.cls idx μ' na) (hM : Cp g μ' d av h v) (hn : av.length = na) (hf : fitR θ.1 d 0 0 k n S = true) (hS' : av.reverse ++ S = S') (hd : decode μ.2.1 pc = .ok (.invokestatic idx, 3)) (hq : pc + 3 = q)
    (kk : V g μ θ h k n L q (v :: S)) : V g μ θ h k n L pc S' :=
  V_callS hk hM hn hf hS' hd hq (fun r h' hp => by obtain ⟨rfl, rfl⟩ := hp; exact kk)
theorem V_cpSN {v : Value} (hk : KSN μ.1.cls idx μ' na) (hM : Cp g μ' d av h v) (hn : av.length = na) (hf : fitR θ.1 d 0 0 k n S = true) (hS' : av.reverse ++ S = S') (hd : decode μ.2.1 pc = .ok (.invokestatic idx, 3)) (hq : pc + 3 = q)
    (kk : V g μ θ h k n L q (v :: S)) : V g μ θ h k n L pc S' :=
  V_callSN hk hM hn hf hS' hd hq (fun r h' hp => by obtain ⟨rfl, rfl⟩ := hp; exact kk)
end CALLS
end
section
theorem gt_all {ws : List Cond} (ps : List Nat) (h : ws = ps.filterMap (fun i => lw_tbl[i]?)) (hg : ws.all goodWord = true) : ∀ w ∈ ws, w ∈ gt := by
  intro w hw
  have h1 := List.all_eq_true.mp hg w hw
  rw [h] at hw
  obtain ⟨i, -, hi⟩ := List.mem_filterMap.mp hw
  exact gt_mem hi h1
theorem iX0 : ∀ w ∈ u_ws RX0 TX0 4, w ∈ gt := gt_all [271, 273, 275, 277] (by decide +kernel) (by decide +kernel)
theorem iX1 : ∀ w ∈ u_ws RX1 TX1 5, w ∈ gt := gt_all [175, 177, 179, 181, 183] (by decide +kernel) (by decide +kernel)
theorem iX2 : ∀ w ∈ u_ws RX2 TX2 10, w ∈ gt := gt_all [119, 121, 123, 125, 127, 129, 131, 133, 135, 137] (by decide +kernel) (by decide +kernel)
theorem iX3 : ∀ w ∈ u_ws RX3 TX3 9, w ∈ gt := gt_all [242, 244, 246, 248, 250, 252, 254, 256, 258] (by decide +kernel) (by decide +kernel)
theorem iX4 : ∀ w ∈ u_ws RX4 TX4 4, w ∈ gt := gt_all [221, 223, 225, 227] (by decide +kernel) (by decide +kernel)
theorem iX5 : ∀ w ∈ u_ws RX5 TX5 5, w ∈ gt := gt_all [151, 153, 155, 157, 159] (by decide +kernel) (by decide +kernel)
theorem iX6 : ∀ w ∈ u_ws RX6 TX6 11, w ∈ gt := gt_all [302, 304, 306, 308, 310, 312, 314, 316, 318, 320, 322] (by decide +kernel) (by decide +kernel)
theorem iX7 : ∀ w ∈ u_ws RX7 TX7 4, w ∈ gt := gt_all [329, 331, 333, 335] (by decide +kernel) (by decide +kernel)
theorem iX8 : ∀ w ∈ u_ws RX8 TX8 16, w ∈ gt := gt_all [763, 765, 767, 769, 771, 773, 775, 777, 779, 781, 783, 785, 787, 789, 791, 793] (by decide +kernel) (by decide +kernel)
abbrev mX0_init : MT := (yX0_init, cX0_init, 2, none)
theorem oX0_init : MO mX0_init 0 := ⟨gt_mem (i := 190) (by decide +kernel) rfl, gt_mem (i := 65) (by decide +kernel) rfl, by decide +kernel, by decide +kernel, rfl⟩
abbrev mX0_layoutOf : MT := (yX0_layoutOf, cX0_layoutOf, 2, (some (.object "AggregateSplitter$Layout")))
theorem oX0_layoutOf : MO mX0_layoutOf 1 := ⟨gt_mem (i := 501) (by decide +kernel) rfl, gt_mem (i := 65) (by decide +kernel) rfl, by decide +kernel, by decide +kernel, rfl⟩
abbrev mX0_refresh : MT := (yX0_refresh, cX0_refresh, 3, none)
theorem oX0_refresh : MO mX0_refresh 1 := ⟨gt_mem (i := 486) (by decide +kernel) rfl, gt_mem (i := 65) (by decide +kernel) rfl, by decide +kernel, by decide +kernel, rfl⟩
abbrev mX0_collectRanges : MT := (yX0_collectRanges, cX0_collectRanges, 4, none)
theorem oX0_collectRanges : MO mX0_collectRanges 2 := ⟨gt_mem (i := 497) (by decide +kernel) rfl, gt_mem (i := 65) (by decide +kernel) rfl, by decide +kernel, by decide +kernel, rfl⟩
abbrev mX0_cutIntoPieces : MT := (yX0_cutIntoPieces, cX0_cutIntoPieces, 5, none)
theorem oX0_cutIntoPieces : MO mX0_cutIntoPieces 2 := ⟨gt_mem (i := 546) (by decide +kernel) rfl, gt_mem (i := 65) (by decide +kernel) rfl, by decide +kernel, by decide +kernel, rfl⟩
abbrev mX0_beginsPiece : MT := (yX0_beginsPiece, cX0_beginsPiece, 3, (some .boolean))
theorem oX0_beginsPiece : MO mX0_beginsPiece 2 := ⟨gt_mem (i := 550) (by decide +kernel) rfl, gt_mem (i := 65) (by decide +kernel) rfl, by decide +kernel, by decide +kernel, rfl⟩
abbrev mX0_touchPartitions : MT := (yX0_touchPartitions, cX0_touchPartitions, 5, none)
theorem oX0_touchPartitions : MO mX0_touchPartitions 2 := ⟨gt_mem (i := 562) (by decide +kernel) rfl, gt_mem (i := 65) (by decide +kernel) rfl, by decide +kernel, by decide +kernel, rfl⟩
abbrev mX0_markLive : MT := (yX0_markLive, cX0_markLive, 5, none)
theorem oX0_markLive : MO mX0_markLive 1 := ⟨gt_mem (i := 579) (by decide +kernel) rfl, gt_mem (i := 65) (by decide +kernel) rfl, by decide +kernel, by decide +kernel, rfl⟩
abbrev mX0_passLifeToOrigins : MT := (yX0_passLifeToOrigins, cX0_passLifeToOrigins, 5, (some .boolean))
theorem oX0_passLifeToOrigins : MO mX0_passLifeToOrigins 2 := ⟨gt_mem (i := 583) (by decide +kernel) rfl, gt_mem (i := 65) (by decide +kernel) rfl, by decide +kernel, by decide +kernel, rfl⟩
abbrev mX0_target : MT := (yX0_target, cX0_target, 3, (some (.object "AggregateSplitter$Partition")))
theorem oX0_target : MO mX0_target 2 := ⟨gt_mem (i := 566) (by decide +kernel) rfl, gt_mem (i := 65) (by decide +kernel) rfl, by decide +kernel, by decide +kernel, rfl⟩
abbrev mX0_origin : MT := (yX0_origin, cX0_origin, 3, (some (.object "AggregateSplitter$Partition")))
theorem oX0_origin : MO mX0_origin 2 := ⟨gt_mem (i := 575) (by decide +kernel) rfl, gt_mem (i := 65) (by decide +kernel) rfl, by decide +kernel, by decide +kernel, rfl⟩
abbrev mX0_countPieces : MT := (yX0_countPieces, cX0_countPieces, 4, (some .int))
theorem oX0_countPieces : MO mX0_countPieces 1 := ⟨gt_mem (i := 628) (by decide +kernel) rfl, gt_mem (i := 65) (by decide +kernel) rfl, by decide +kernel, by decide +kernel, rfl⟩
abbrev mX0_lengthOfPiece : MT := (yX0_lengthOfPiece, cX0_lengthOfPiece, 6, (some .int))
theorem oX0_lengthOfPiece : MO mX0_lengthOfPiece 2 := ⟨gt_mem (i := 637) (by decide +kernel) rfl, gt_mem (i := 65) (by decide +kernel) rfl, by decide +kernel, by decide +kernel, rfl⟩
abbrev mX1_init : MT := (yX1_init, cX1_init, 1, none)
theorem oX1_init : MO mX1_init 0 := ⟨gt_mem (i := 166) (by decide +kernel) rfl, gt_mem (i := 64) (by decide +kernel) rfl, by decide +kernel, by decide +kernel, rfl⟩
abbrev mX1_note : MT := (yX1_note, cX1_note, 4, none)
theorem oX1_note : MO mX1_note 3 := ⟨gt_mem (i := 349) (by decide +kernel) rfl, gt_mem (i := 64) (by decide +kernel) rfl, by decide +kernel, by decide +kernel, rfl⟩
abbrev mX1_takeBack : MT := (yX1_takeBack, cX1_takeBack, 2, none)
theorem oX1_takeBack : MO mX1_takeBack 1 := ⟨gt_mem (i := 460) (by decide +kernel) rfl, gt_mem (i := 64) (by decide +kernel) rfl, by decide +kernel, by decide +kernel, rfl⟩
abbrev mX2_init : MT := (yX2_init, cX2_init, 2, none)
theorem oX2_init : MO mX2_init 1 := ⟨gt_mem (i := 90) (by decide +kernel) rfl, gt_mem (i := 63) (by decide +kernel) rfl, by decide +kernel, by decide +kernel, rfl⟩
abbrev mX2_ofAccess : MT := (yX2_ofAccess, cX2_ofAccess, 6, (some (.object "AggregateSplitter$Instruction")))
theorem oX2_ofAccess : MO mX2_ofAccess 5 := ⟨gt_mem (i := 381) (by decide +kernel) rfl, gt_mem (i := 63) (by decide +kernel) rfl, by decide +kernel, by decide +kernel, rfl⟩
abbrev mX2_ofCopy : MT := (yX2_ofCopy, cX2_ofCopy, 6, (some (.object "AggregateSplitter$Instruction")))
theorem oX2_ofCopy : MO mX2_ofCopy 5 := ⟨gt_mem (i := 405) (by decide +kernel) rfl, gt_mem (i := 63) (by decide +kernel) rfl, by decide +kernel, by decide +kernel, rfl⟩
abbrev mX2_ofEscape : MT := (yX2_ofEscape, cX2_ofEscape, 2, (some (.object "AggregateSplitter$Instruction")))
theorem oX2_ofEscape : MO mX2_ofEscape 1 := ⟨gt_mem (i := 413) (by decide +kernel) rfl, gt_mem (i := 63) (by decide +kernel) rfl, by decide +kernel, by decide +kernel, rfl⟩
abbrev mX2_ofAdd : MT := (yX2_ofAdd, cX2_ofAdd, 4, (some (.object "AggregateSplitter$Instruction")))
theorem oX2_ofAdd : MO mX2_ofAdd 3 := ⟨gt_mem (i := 427) (by decide +kernel) rfl, gt_mem (i := 63) (by decide +kernel) rfl, by decide +kernel, by decide +kernel, rfl⟩
abbrev mX2_ofNumber : MT := (yX2_ofNumber, cX2_ofNumber, 4, (some (.object "AggregateSplitter$Instruction")))
theorem oX2_ofNumber : MO mX2_ofNumber 3 := ⟨gt_mem (i := 420) (by decide +kernel) rfl, gt_mem (i := 63) (by decide +kernel) rfl, by decide +kernel, by decide +kernel, rfl⟩
abbrev mX2_isLoadOrStore : MT := (yX2_isLoadOrStore, cX2_isLoadOrStore, 1, (some .boolean))
theorem oX2_isLoadOrStore : MO mX2_isLoadOrStore 0 := ⟨gt_mem (i := 505) (by decide +kernel) rfl, gt_mem (i := 63) (by decide +kernel) rfl, by decide +kernel, by decide +kernel, rfl⟩
abbrev mX3_init : MT := (yX3_init, cX3_init, 2, none)
theorem oX3_init : MO mX3_init 0 := ⟨gt_mem (i := 197) (by decide +kernel) rfl, gt_mem (i := 66) (by decide +kernel) rfl, by decide +kernel, by decide +kernel, rfl⟩
abbrev mX3_clear : MT := (yX3_clear, cX3_clear, 3, none)
theorem oX3_clear : MO mX3_clear 1 := ⟨gt_mem (i := 491) (by decide +kernel) rfl, gt_mem (i := 66) (by decide +kernel) rfl, by decide +kernel, by decide +kernel, rfl⟩
abbrev mX3_addAccess : MT := (yX3_addAccess, cX3_addAccess, 4, none)
theorem oX3_addAccess : MO mX3_addAccess 2 := ⟨gt_mem (i := 509) (by decide +kernel) rfl, gt_mem (i := 66) (by decide +kernel) rfl, by decide +kernel, by decide +kernel, rfl⟩
abbrev mX3_addCopyRange : MT := (yX3_addCopyRange, cX3_addCopyRange, 6, none)
theorem oX3_addCopyRange : MO mX3_addCopyRange 3 := ⟨gt_mem (i := 517) (by decide +kernel) rfl, gt_mem (i := 66) (by decide +kernel) rfl, by decide +kernel, by decide +kernel, rfl⟩
abbrev mX3_formPartitions : MT := (yX3_formPartitions, cX3_formPartitions, 2, none)
theorem oX3_formPartitions : MO mX3_formPartitions 0 := ⟨gt_mem (i := 521) (by decide +kernel) rfl, gt_mem (i := 66) (by decide +kernel) rfl, by decide +kernel, by decide +kernel, rfl⟩
abbrev mX3_isByte : MT := (yX3_isByte, cX3_isByte, 2, (some .boolean))
theorem oX3_isByte : MO mX3_isByte 1 := ⟨gt_mem (i := 513) (by decide +kernel) rfl, gt_mem (i := 66) (by decide +kernel) rfl, by decide +kernel, by decide +kernel, rfl⟩
abbrev mX3_isPadding : MT := (yX3_isPadding, cX3_isPadding, 2, (some .boolean))
theorem oX3_isPadding : MO mX3_isPadding 1 := ⟨gt_mem (i := 525) (by decide +kernel) rfl, gt_mem (i := 66) (by decide +kernel) rfl, by decide +kernel, by decide +kernel, rfl⟩
abbrev mX3_beginsPartition : MT := (yX3_beginsPartition, cX3_beginsPartition, 2, (some .boolean))
theorem oX3_beginsPartition : MO mX3_beginsPartition 1 := ⟨gt_mem (i := 529) (by decide +kernel) rfl, gt_mem (i := 66) (by decide +kernel) rfl, by decide +kernel, by decide +kernel, rfl⟩
abbrev mX3_numbered : MT := (yX3_numbered, cX3_numbered, 2, (some (.object "AggregateSplitter$Partition")))
theorem oX3_numbered : MO mX3_numbered 1 := ⟨gt_mem (i := 537) (by decide +kernel) rfl, gt_mem (i := 66) (by decide +kernel) rfl, by decide +kernel, by decide +kernel, rfl⟩
abbrev mX3_holding : MT := (yX3_holding, cX3_holding, 2, (some (.object "AggregateSplitter$Partition")))
theorem oX3_holding : MO mX3_holding 1 := ⟨gt_mem (i := 558) (by decide +kernel) rfl, gt_mem (i := 66) (by decide +kernel) rfl, by decide +kernel, by decide +kernel, rfl⟩
abbrev mX3_isStart : MT := (yX3_isStart, cX3_isStart, 3, (some .boolean))
theorem oX3_isStart : MO mX3_isStart 1 := ⟨gt_mem (i := 554) (by decide +kernel) rfl, gt_mem (i := 66) (by decide +kernel) rfl, by decide +kernel, by decide +kernel, rfl⟩
abbrev mX3_countPadding : MT := (yX3_countPadding, cX3_countPadding, 3, (some .int))
theorem oX3_countPadding : MO mX3_countPadding 0 := ⟨gt_mem (i := 620) (by decide +kernel) rfl, gt_mem (i := 66) (by decide +kernel) rfl, by decide +kernel, by decide +kernel, rfl⟩
abbrev mX3_countScalars : MT := (yX3_countScalars, cX3_countScalars, 3, (some .int))
theorem oX3_countScalars : MO mX3_countScalars 0 := ⟨gt_mem (i := 645) (by decide +kernel) rfl, gt_mem (i := 66) (by decide +kernel) rfl, by decide +kernel, by decide +kernel, rfl⟩
abbrev mX3_countLiveBytes : MT := (yX3_countLiveBytes, cX3_countLiveBytes, 3, (some .int))
theorem oX3_countLiveBytes : MO mX3_countLiveBytes 0 := ⟨gt_mem (i := 654) (by decide +kernel) rfl, gt_mem (i := 66) (by decide +kernel) rfl, by decide +kernel, by decide +kernel, rfl⟩
abbrev mX4_init : MT := (yX4_init, cX4_init, 1, none)
theorem oX4_init : MO mX4_init 0 := ⟨gt_mem (i := 204) (by decide +kernel) rfl, gt_mem (i := 67) (by decide +kernel) rfl, by decide +kernel, by decide +kernel, rfl⟩
abbrev mX4_beginAt : MT := (yX4_beginAt, cX4_beginAt, 3, none)
theorem oX4_beginAt : MO mX4_beginAt 2 := ⟨gt_mem (i := 533) (by decide +kernel) rfl, gt_mem (i := 67) (by decide +kernel) rfl, by decide +kernel, by decide +kernel, rfl⟩
abbrev mX4_grow : MT := (yX4_grow, cX4_grow, 2, none)
theorem oX4_grow : MO mX4_grow 1 := ⟨gt_mem (i := 541) (by decide +kernel) rfl, gt_mem (i := 67) (by decide +kernel) rfl, by decide +kernel, by decide +kernel, rfl⟩
abbrev mX4_touchWith : MT := (yX4_touchWith, cX4_touchWith, 2, none)
theorem oX4_touchWith : MO mX4_touchWith 1 := ⟨gt_mem (i := 571) (by decide +kernel) rfl, gt_mem (i := 67) (by decide +kernel) rfl, by decide +kernel, by decide +kernel, rfl⟩
abbrev mX5_init : MT := (yX5_init, cX5_init, 2, none)
theorem oX5_init : MO mX5_init 0 := ⟨gt_mem (i := 83) (by decide +kernel) rfl, gt_mem (i := 62) (by decide +kernel) rfl, by decide +kernel, by decide +kernel, rfl⟩
abbrev mX5_hasRecord : MT := (yX5_hasRecord, cX5_hasRecord, 2, (some .boolean))
theorem oX5_hasRecord : MO mX5_hasRecord 1 := ⟨gt_mem (i := 375) (by decide +kernel) rfl, gt_mem (i := 62) (by decide +kernel) rfl, by decide +kernel, by decide +kernel, rfl⟩
abbrev mX5_hasInstruction : MT := (yX5_hasInstruction, cX5_hasInstruction, 2, (some .boolean))
theorem oX5_hasInstruction : MO mX5_hasInstruction 1 := ⟨gt_mem (i := 443) (by decide +kernel) rfl, gt_mem (i := 62) (by decide +kernel) rfl, by decide +kernel, by decide +kernel, rfl⟩
abbrev mX5_sizeOf : MT := (yX5_sizeOf, cX5_sizeOf, 2, (some .int))
theorem oX5_sizeOf : MO mX5_sizeOf 1 := ⟨gt_mem (i := 371) (by decide +kernel) rfl, gt_mem (i := 62) (by decide +kernel) rfl, by decide +kernel, by decide +kernel, rfl⟩
abbrev mX5_holdsRange : MT := (yX5_holdsRange, cX5_holdsRange, 5, (some .boolean))
theorem oX5_holdsRange : MO mX5_holdsRange 3 := ⟨gt_mem (i := 367) (by decide +kernel) rfl, gt_mem (i := 62) (by decide +kernel) rfl, by decide +kernel, by decide +kernel, rfl⟩
abbrev mX5_at : MT := (yX5_at, cX5_at, 2, (some (.object "AggregateSplitter$Instruction")))
theorem oX5_at : MO mX5_at 1 := ⟨gt_mem (i := 447) (by decide +kernel) rfl, gt_mem (i := 62) (by decide +kernel) rfl, by decide +kernel, by decide +kernel, rfl⟩
abbrev mX5_addRecord : MT := (yX5_addRecord, cX5_addRecord, 2, none)
theorem oX5_addRecord : MO mX5_addRecord 1 := ⟨gt_mem (i := 345) (by decide +kernel) rfl, gt_mem (i := 62) (by decide +kernel) rfl, by decide +kernel, by decide +kernel, rfl⟩
abbrev mX5_dropRecord : MT := (yX5_dropRecord, cX5_dropRecord, 1, none)
theorem oX5_dropRecord : MO mX5_dropRecord 0 := ⟨gt_mem (i := 464) (by decide +kernel) rfl, gt_mem (i := 62) (by decide +kernel) rfl, by decide +kernel, by decide +kernel, rfl⟩
abbrev mX5_insert : MT := (yX5_insert, cX5_insert, 4, none)
theorem oX5_insert : MO mX5_insert 2 := ⟨gt_mem (i := 391) (by decide +kernel) rfl, gt_mem (i := 62) (by decide +kernel) rfl, by decide +kernel, by decide +kernel, rfl⟩
abbrev mX5_delete : MT := (yX5_delete, cX5_delete, 3, none)
theorem oX5_delete : MO mX5_delete 1 := ⟨gt_mem (i := 452) (by decide +kernel) rfl, gt_mem (i := 62) (by decide +kernel) rfl, by decide +kernel, by decide +kernel, rfl⟩
abbrev mX6_init : MT := (yX6_init, cX6_init, 3, none)
theorem oX6_init : MO mX6_init 2 := ⟨gt_mem (i := 284) (by decide +kernel) rfl, gt_mem (i := 68) (by decide +kernel) rfl, by decide +kernel, by decide +kernel, rfl⟩
abbrev mX6_execute : MT := (yX6_execute, cX6_execute, 3, none)
theorem oX6_execute : MO mX6_execute 1 := ⟨gt_mem (i := 666) (by decide +kernel) rfl, gt_mem (i := 68) (by decide +kernel) rfl, by decide +kernel, by decide +kernel, rfl⟩
abbrev mX6_outputOf : MT := (yX6_outputOf, cX6_outputOf, 2, (some .int))
theorem oX6_outputOf : MO mX6_outputOf 1 := ⟨gt_mem (i := 732) (by decide +kernel) rfl, gt_mem (i := 68) (by decide +kernel) rfl, by decide +kernel, by decide +kernel, rfl⟩
abbrev mX6_clear : MT := (yX6_clear, cX6_clear, 4, none)
theorem oX6_clear : MO mX6_clear 1 := ⟨gt_mem (i := 670) (by decide +kernel) rfl, gt_mem (i := 68) (by decide +kernel) rfl, by decide +kernel, by decide +kernel, rfl⟩
abbrev mX6_perform : MT := (yX6_perform, cX6_perform, 3, none)
theorem oX6_perform : MO mX6_perform 2 := ⟨gt_mem (i := 675) (by decide +kernel) rfl, gt_mem (i := 68) (by decide +kernel) rfl, by decide +kernel, by decide +kernel, rfl⟩
abbrev mX6_store : MT := (yX6_store, cX6_store, 5, none)
theorem oX6_store : MO mX6_store 1 := ⟨gt_mem (i := 679) (by decide +kernel) rfl, gt_mem (i := 68) (by decide +kernel) rfl, by decide +kernel, by decide +kernel, rfl⟩
abbrev mX6_load : MT := (yX6_load, cX6_load, 4, none)
theorem oX6_load : MO mX6_load 1 := ⟨gt_mem (i := 688) (by decide +kernel) rfl, gt_mem (i := 68) (by decide +kernel) rfl, by decide +kernel, by decide +kernel, rfl⟩
abbrev mX6_priceOfAccess : MT := (yX6_priceOfAccess, cX6_priceOfAccess, 2, (some .int))
theorem oX6_priceOfAccess : MO mX6_priceOfAccess 1 := ⟨gt_mem (i := 684) (by decide +kernel) rfl, gt_mem (i := 68) (by decide +kernel) rfl, by decide +kernel, by decide +kernel, rfl⟩
abbrev mX6_copyWhole : MT := (yX6_copyWhole, cX6_copyWhole, 2, none)
theorem oX6_copyWhole : MO mX6_copyWhole 1 := ⟨gt_mem (i := 704) (by decide +kernel) rfl, gt_mem (i := 68) (by decide +kernel) rfl, by decide +kernel, by decide +kernel, rfl⟩
abbrev mX6_copyLivePieces : MT := (yX6_copyLivePieces, cX6_copyLivePieces, 5, none)
theorem oX6_copyLivePieces : MO mX6_copyLivePieces 2 := ⟨gt_mem (i := 692) (by decide +kernel) rfl, gt_mem (i := 68) (by decide +kernel) rfl, by decide +kernel, by decide +kernel, rfl⟩
abbrev mX6_priceOfPiece : MT := (yX6_priceOfPiece, cX6_priceOfPiece, 3, (some .int))
theorem oX6_priceOfPiece : MO mX6_priceOfPiece 3 := ⟨gt_mem (i := 700) (by decide +kernel) rfl, gt_mem (i := 68) (by decide +kernel) rfl, by decide +kernel, by decide +kernel, rfl⟩
abbrev mX6_moveBytes : MT := (yX6_moveBytes, cX6_moveBytes, 5, none)
theorem oX6_moveBytes : MO mX6_moveBytes 3 := ⟨gt_mem (i := 696) (by decide +kernel) rfl, gt_mem (i := 68) (by decide +kernel) rfl, by decide +kernel, by decide +kernel, rfl⟩
abbrev mX6_escape : MT := (yX6_escape, cX6_escape, 4, none)
theorem oX6_escape : MO mX6_escape 1 := ⟨gt_mem (i := 708) (by decide +kernel) rfl, gt_mem (i := 68) (by decide +kernel) rfl, by decide +kernel, by decide +kernel, rfl⟩
abbrev mX6_add : MT := (yX6_add, cX6_add, 5, none)
theorem oX6_add : MO mX6_add 2 := ⟨gt_mem (i := 713) (by decide +kernel) rfl, gt_mem (i := 68) (by decide +kernel) rfl, by decide +kernel, by decide +kernel, rfl⟩
abbrev mX6_output : MT := (yX6_output, cX6_output, 2, none)
theorem oX6_output : MO mX6_output 1 := ⟨gt_mem (i := 717) (by decide +kernel) rfl, gt_mem (i := 68) (by decide +kernel) rfl, by decide +kernel, by decide +kernel, rfl⟩
abbrev mX7_init : MT := (yX7_init, cX7_init, 1, none)
theorem oX7_init : MO mX7_init 0 := ⟨gt_mem (i := 75) (by decide +kernel) rfl, gt_mem (i := 61) (by decide +kernel) rfl, by decide +kernel, by decide +kernel, rfl⟩
abbrev mX7_declareRecord : MT := (yX7_declareRecord, cX7_declareRecord, 3, (some .int))
theorem oX7_declareRecord : MO mX7_declareRecord 1 := ⟨gt_mem (i := 341) (by decide +kernel) rfl, gt_mem (i := 61) (by decide +kernel) rfl, by decide +kernel, by decide +kernel, rfl⟩
abbrev mX7_appendStore : MT := (yX7_appendStore, cX7_appendStore, 5, (some .int))
theorem oX7_appendStore : MO mX7_appendStore 4 := ⟨gt_mem (i := 356) (by decide +kernel) rfl, gt_mem (i := 61) (by decide +kernel) rfl, by decide +kernel, by decide +kernel, rfl⟩
abbrev mX7_appendLoad : MT := (yX7_appendLoad, cX7_appendLoad, 5, (some .int))
theorem oX7_appendLoad : MO mX7_appendLoad 4 := ⟨gt_mem (i := 395) (by decide +kernel) rfl, gt_mem (i := 61) (by decide +kernel) rfl, by decide +kernel, by decide +kernel, rfl⟩
abbrev mX7_appendCopy : MT := (yX7_appendCopy, cX7_appendCopy, 6, (some .int))
theorem oX7_appendCopy : MO mX7_appendCopy 5 := ⟨gt_mem (i := 399) (by decide +kernel) rfl, gt_mem (i := 61) (by decide +kernel) rfl, by decide +kernel, by decide +kernel, rfl⟩
abbrev mX7_appendEscape : MT := (yX7_appendEscape, cX7_appendEscape, 2, (some .int))
theorem oX7_appendEscape : MO mX7_appendEscape 1 := ⟨gt_mem (i := 409) (by decide +kernel) rfl, gt_mem (i := 61) (by decide +kernel) rfl, by decide +kernel, by decide +kernel, rfl⟩
abbrev mX7_appendConstant : MT := (yX7_appendConstant, cX7_appendConstant, 3, (some .int))
theorem oX7_appendConstant : MO mX7_appendConstant 2 := ⟨gt_mem (i := 417) (by decide +kernel) rfl, gt_mem (i := 61) (by decide +kernel) rfl, by decide +kernel, by decide +kernel, rfl⟩
abbrev mX7_appendAdd : MT := (yX7_appendAdd, cX7_appendAdd, 4, (some .int))
theorem oX7_appendAdd : MO mX7_appendAdd 3 := ⟨gt_mem (i := 424) (by decide +kernel) rfl, gt_mem (i := 61) (by decide +kernel) rfl, by decide +kernel, by decide +kernel, rfl⟩
abbrev mX7_appendSkip : MT := (yX7_appendSkip, cX7_appendSkip, 3, (some .int))
theorem oX7_appendSkip : MO mX7_appendSkip 2 := ⟨gt_mem (i := 431) (by decide +kernel) rfl, gt_mem (i := 61) (by decide +kernel) rfl, by decide +kernel, by decide +kernel, rfl⟩
abbrev mX7_appendOutput : MT := (yX7_appendOutput, cX7_appendOutput, 2, (some .int))
theorem oX7_appendOutput : MO mX7_appendOutput 1 := ⟨gt_mem (i := 435) (by decide +kernel) rfl, gt_mem (i := 61) (by decide +kernel) rfl, by decide +kernel, by decide +kernel, rfl⟩
abbrev mX7_removeInstruction : MT := (yX7_removeInstruction, cX7_removeInstruction, 2, (some .int))
theorem oX7_removeInstruction : MO mX7_removeInstruction 1 := ⟨gt_mem (i := 439) (by decide +kernel) rfl, gt_mem (i := 61) (by decide +kernel) rfl, by decide +kernel, by decide +kernel, rfl⟩
abbrev mX7_undo : MT := (yX7_undo, cX7_undo, 1, (some .int))
theorem oX7_undo : MO mX7_undo 0 := ⟨gt_mem (i := 456) (by decide +kernel) rfl, gt_mem (i := 61) (by decide +kernel) rfl, by decide +kernel, by decide +kernel, rfl⟩
abbrev mX7_recordCount : MT := (yX7_recordCount, cX7_recordCount, 1, (some .int))
theorem oX7_recordCount : MO mX7_recordCount 0 := ⟨gt_mem (i := 470) (by decide +kernel) rfl, gt_mem (i := 61) (by decide +kernel) rfl, by decide +kernel, by decide +kernel, rfl⟩
abbrev mX7_instructionCount : MT := (yX7_instructionCount, cX7_instructionCount, 1, (some .int))
theorem oX7_instructionCount : MO mX7_instructionCount 0 := ⟨gt_mem (i := 474) (by decide +kernel) rfl, gt_mem (i := 61) (by decide +kernel) rfl, by decide +kernel, by decide +kernel, rfl⟩
abbrev mX7_escapes : MT := (yX7_escapes, cX7_escapes, 2, (some .int))
theorem oX7_escapes : MO mX7_escapes 1 := ⟨gt_mem (i := 478) (by decide +kernel) rfl, gt_mem (i := 61) (by decide +kernel) rfl, by decide +kernel, by decide +kernel, rfl⟩
abbrev mX7_partitionCount : MT := (yX7_partitionCount, cX7_partitionCount, 2, (some .int))
theorem oX7_partitionCount : MO mX7_partitionCount 1 := ⟨gt_mem (i := 591) (by decide +kernel) rfl, gt_mem (i := 61) (by decide +kernel) rfl, by decide +kernel, by decide +kernel, rfl⟩
abbrev mX7_partitionStart : MT := (yX7_partitionStart, cX7_partitionStart, 4, (some .int))
theorem oX7_partitionStart : MO mX7_partitionStart 2 := ⟨gt_mem (i := 595) (by decide +kernel) rfl, gt_mem (i := 61) (by decide +kernel) rfl, by decide +kernel, by decide +kernel, rfl⟩
abbrev mX7_partitionLength : MT := (yX7_partitionLength, cX7_partitionLength, 4, (some .int))
theorem oX7_partitionLength : MO mX7_partitionLength 2 := ⟨gt_mem (i := 604) (by decide +kernel) rfl, gt_mem (i := 61) (by decide +kernel) rfl, by decide +kernel, by decide +kernel, rfl⟩
abbrev mX7_isPromotable : MT := (yX7_isPromotable, cX7_isPromotable, 4, (some .int))
theorem oX7_isPromotable : MO mX7_isPromotable 2 := ⟨gt_mem (i := 608) (by decide +kernel) rfl, gt_mem (i := 61) (by decide +kernel) rfl, by decide +kernel, by decide +kernel, rfl⟩
abbrev mX7_isLive : MT := (yX7_isLive, cX7_isLive, 4, (some .int))
theorem oX7_isLive : MO mX7_isLive 2 := ⟨gt_mem (i := 612) (by decide +kernel) rfl, gt_mem (i := 61) (by decide +kernel) rfl, by decide +kernel, by decide +kernel, rfl⟩
abbrev mX7_paddingBytes : MT := (yX7_paddingBytes, cX7_paddingBytes, 2, (some .int))
theorem oX7_paddingBytes : MO mX7_paddingBytes 1 := ⟨gt_mem (i := 616) (by decide +kernel) rfl, gt_mem (i := 61) (by decide +kernel) rfl, by decide +kernel, by decide +kernel, rfl⟩
abbrev mX7_pieceCount : MT := (yX7_pieceCount, cX7_pieceCount, 2, (some .int))
theorem oX7_pieceCount : MO mX7_pieceCount 1 := ⟨gt_mem (i := 624) (by decide +kernel) rfl, gt_mem (i := 61) (by decide +kernel) rfl, by decide +kernel, by decide +kernel, rfl⟩
abbrev mX7_pieceLength : MT := (yX7_pieceLength, cX7_pieceLength, 4, (some .int))
theorem oX7_pieceLength : MO mX7_pieceLength 2 := ⟨gt_mem (i := 633) (by decide +kernel) rfl, gt_mem (i := 61) (by decide +kernel) rfl, by decide +kernel, by decide +kernel, rfl⟩
abbrev mX7_scalarCount : MT := (yX7_scalarCount, cX7_scalarCount, 3, (some .int))
theorem oX7_scalarCount : MO mX7_scalarCount 0 := ⟨gt_mem (i := 641) (by decide +kernel) rfl, gt_mem (i := 61) (by decide +kernel) rfl, by decide +kernel, by decide +kernel, rfl⟩
abbrev mX7_liveBytes : MT := (yX7_liveBytes, cX7_liveBytes, 3, (some .int))
theorem oX7_liveBytes : MO mX7_liveBytes 0 := ⟨gt_mem (i := 650) (by decide +kernel) rfl, gt_mem (i := 61) (by decide +kernel) rfl, by decide +kernel, by decide +kernel, rfl⟩
abbrev mX7_trapPosition : MT := (yX7_trapPosition, cX7_trapPosition, 1, (some .int))
theorem oX7_trapPosition : MO mX7_trapPosition 0 := ⟨gt_mem (i := 658) (by decide +kernel) rfl, gt_mem (i := 61) (by decide +kernel) rfl, by decide +kernel, by decide +kernel, rfl⟩
abbrev mX7_outputCount : MT := (yX7_outputCount, cX7_outputCount, 2, (some .int))
theorem oX7_outputCount : MO mX7_outputCount 1 := ⟨gt_mem (i := 721) (by decide +kernel) rfl, gt_mem (i := 61) (by decide +kernel) rfl, by decide +kernel, by decide +kernel, rfl⟩
abbrev mX7_outputAt : MT := (yX7_outputAt, cX7_outputAt, 3, (some .int))
theorem oX7_outputAt : MO mX7_outputAt 2 := ⟨gt_mem (i := 728) (by decide +kernel) rfl, gt_mem (i := 61) (by decide +kernel) rfl, by decide +kernel, by decide +kernel, rfl⟩
abbrev mX7_checksum : MT := (yX7_checksum, cX7_checksum, 2, (some .int))
theorem oX7_checksum : MO mX7_checksum 1 := ⟨gt_mem (i := 736) (by decide +kernel) rfl, gt_mem (i := 61) (by decide +kernel) rfl, by decide +kernel, by decide +kernel, rfl⟩
abbrev mX7_cost : MT := (yX7_cost, cX7_cost, 2, (some .int))
theorem oX7_cost : MO mX7_cost 1 := ⟨gt_mem (i := 740) (by decide +kernel) rfl, gt_mem (i := 61) (by decide +kernel) rfl, by decide +kernel, by decide +kernel, rfl⟩
abbrev mX7_append : MT := (yX7_append, cX7_append, 3, (some .int))
theorem oX7_append : MO mX7_append 1 := ⟨gt_mem (i := 387) (by decide +kernel) rfl, gt_mem (i := 61) (by decide +kernel) rfl, by decide +kernel, by decide +kernel, rfl⟩
abbrev mX7_isAccess : MT := (yX7_isAccess, cX7_isAccess, 4, (some .boolean))
theorem oX7_isAccess : MO mX7_isAccess 3 := ⟨gt_mem (i := 360) (by decide +kernel) rfl, gt_mem (i := 61) (by decide +kernel) rfl, by decide +kernel, by decide +kernel, rfl⟩
abbrev mX7_layoutNow : MT := (yX7_layoutNow, cX7_layoutNow, 2, (some (.object "AggregateSplitter$Layout")))
theorem oX7_layoutNow : MO mX7_layoutNow 1 := ⟨gt_mem (i := 482) (by decide +kernel) rfl, gt_mem (i := 61) (by decide +kernel) rfl, by decide +kernel, by decide +kernel, rfl⟩
abbrev mX7_partitionNow : MT := (yX7_partitionNow, cX7_partitionNow, 3, (some (.object "AggregateSplitter$Partition")))
theorem oX7_partitionNow : MO mX7_partitionNow 2 := ⟨gt_mem (i := 599) (by decide +kernel) rfl, gt_mem (i := 61) (by decide +kernel) rfl, by decide +kernel, by decide +kernel, rfl⟩
abbrev mX7_runOf : MT := (yX7_runOf, cX7_runOf, 2, (some (.object "AggregateSplitter$Run")))
theorem oX7_runOf : MO mX7_runOf 1 := ⟨gt_mem (i := 662) (by decide +kernel) rfl, gt_mem (i := 61) (by decide +kernel) rfl, by decide +kernel, by decide +kernel, rfl⟩
abbrev mX7_isForm : MT := (yX7_isForm, cX7_isForm, 1, (some .boolean))
theorem oX7_isForm : MO mX7_isForm 1 := ⟨gt_mem (i := 724) (by decide +kernel) rfl, gt_mem (i := 61) (by decide +kernel) rfl, by decide +kernel, by decide +kernel, rfl⟩
abbrev mX7_isRegister : MT := (yX7_isRegister, cX7_isRegister, 1, (some .boolean))
theorem oX7_isRegister : MO mX7_isRegister 1 := ⟨gt_mem (i := 378) (by decide +kernel) rfl, gt_mem (i := 61) (by decide +kernel) rfl, by decide +kernel, by decide +kernel, rfl⟩
abbrev mX7_isScalarLength : MT := (yX7_isScalarLength, cX7_isScalarLength, 1, (some .boolean))
theorem oX7_isScalarLength : MO mX7_isScalarLength 1 := ⟨gt_mem (i := 363) (by decide +kernel) rfl, gt_mem (i := 61) (by decide +kernel) rfl, by decide +kernel, by decide +kernel, rfl⟩
abbrev mX7_oneIf : MT := (yX7_oneIf, cX7_oneIf, 1, (some .int))
theorem oX7_oneIf : MO mX7_oneIf 1 := ⟨gt_mem (i := 587) (by decide +kernel) rfl, gt_mem (i := 61) (by decide +kernel) rfl, by decide +kernel, by decide +kernel, rfl⟩
abbrev mX8_init : MT := (yX8_init, cX8_init, 1, none)
theorem oX8_init : MO mX8_init 0 := ⟨gt_mem (i := 745) (by decide +kernel) rfl, gt_mem (i := 69) (by decide +kernel) rfl, by decide +kernel, by decide +kernel, rfl⟩
abbrev mX8_in : MT := (yX8_in, cX8_in, 3, (some .boolean))
theorem oX8_in : MO mX8_in 3 := ⟨gt_mem (i := 802) (by decide +kernel) rfl, gt_mem (i := 69) (by decide +kernel) rfl, by decide +kernel, by decide +kernel, rfl⟩
abbrev mX8_note : MT := (yX8_note, cX8_note, 2, none)
theorem oX8_note : MO mX8_note 0 := ⟨gt_mem (i := 806) (by decide +kernel) rfl, gt_mem (i := 69) (by decide +kernel) rfl, by decide +kernel, by decide +kernel, rfl⟩
abbrev mX8_isRecord : MT := (yX8_isRecord, cX8_isRecord, 2, (some .boolean))
theorem oX8_isRecord : MO mX8_isRecord 1 := ⟨gt_mem (i := 821) (by decide +kernel) rfl, gt_mem (i := 69) (by decide +kernel) rfl, by decide +kernel, by decide +kernel, rfl⟩
abbrev mX8_isRegister : MT := (yX8_isRegister, cX8_isRegister, 1, (some .boolean))
theorem oX8_isRegister : MO mX8_isRegister 1 := ⟨gt_mem (i := 824) (by decide +kernel) rfl, gt_mem (i := 69) (by decide +kernel) rfl, by decide +kernel, by decide +kernel, rfl⟩
abbrev mX8_isRange : MT := (yX8_isRange, cX8_isRange, 4, (some .boolean))
theorem oX8_isRange : MO mX8_isRange 3 := ⟨gt_mem (i := 817) (by decide +kernel) rfl, gt_mem (i := 69) (by decide +kernel) rfl, by decide +kernel, by decide +kernel, rfl⟩
abbrev mX8_isWidth : MT := (yX8_isWidth, cX8_isWidth, 1, (some .boolean))
theorem oX8_isWidth : MO mX8_isWidth 1 := ⟨gt_mem (i := 813) (by decide +kernel) rfl, gt_mem (i := 69) (by decide +kernel) rfl, by decide +kernel, by decide +kernel, rfl⟩
abbrev mX8_declareRecord : MT := (yX8_declareRecord, cX8_declareRecord, 2, (some .int))
theorem oX8_declareRecord : MO mX8_declareRecord 1 := ⟨gt_mem (i := 799) (by decide +kernel) rfl, gt_mem (i := 69) (by decide +kernel) rfl, by decide +kernel, by decide +kernel, rfl⟩
abbrev mX8_append : MT := (yX8_append, cX8_append, 8, (some .int))
theorem oX8_append : MO mX8_append 6 := ⟨gt_mem (i := 828) (by decide +kernel) rfl, gt_mem (i := 69) (by decide +kernel) rfl, by decide +kernel, by decide +kernel, rfl⟩
abbrev mX8_appendStore : MT := (yX8_appendStore, cX8_appendStore, 6, (some .int))
theorem oX8_appendStore : MO mX8_appendStore 4 := ⟨gt_mem (i := 810) (by decide +kernel) rfl, gt_mem (i := 69) (by decide +kernel) rfl, by decide +kernel, by decide +kernel, rfl⟩
abbrev mX8_appendLoad : MT := (yX8_appendLoad, cX8_appendLoad, 6, (some .int))
theorem oX8_appendLoad : MO mX8_appendLoad 4 := ⟨gt_mem (i := 832) (by decide +kernel) rfl, gt_mem (i := 69) (by decide +kernel) rfl, by decide +kernel, by decide +kernel, rfl⟩
abbrev mX8_appendCopy : MT := (yX8_appendCopy, cX8_appendCopy, 6, (some .int))
theorem oX8_appendCopy : MO mX8_appendCopy 5 := ⟨gt_mem (i := 836) (by decide +kernel) rfl, gt_mem (i := 69) (by decide +kernel) rfl, by decide +kernel, by decide +kernel, rfl⟩
abbrev mX8_appendEscape : MT := (yX8_appendEscape, cX8_appendEscape, 2, (some .int))
theorem oX8_appendEscape : MO mX8_appendEscape 1 := ⟨gt_mem (i := 840) (by decide +kernel) rfl, gt_mem (i := 69) (by decide +kernel) rfl, by decide +kernel, by decide +kernel, rfl⟩
abbrev mX8_appendConstant : MT := (yX8_appendConstant, cX8_appendConstant, 3, (some .int))
theorem oX8_appendConstant : MO mX8_appendConstant 2 := ⟨gt_mem (i := 844) (by decide +kernel) rfl, gt_mem (i := 69) (by decide +kernel) rfl, by decide +kernel, by decide +kernel, rfl⟩
abbrev mX8_appendAdd : MT := (yX8_appendAdd, cX8_appendAdd, 4, (some .int))
theorem oX8_appendAdd : MO mX8_appendAdd 3 := ⟨gt_mem (i := 848) (by decide +kernel) rfl, gt_mem (i := 69) (by decide +kernel) rfl, by decide +kernel, by decide +kernel, rfl⟩
abbrev mX8_appendSkip : MT := (yX8_appendSkip, cX8_appendSkip, 3, (some .int))
theorem oX8_appendSkip : MO mX8_appendSkip 2 := ⟨gt_mem (i := 852) (by decide +kernel) rfl, gt_mem (i := 69) (by decide +kernel) rfl, by decide +kernel, by decide +kernel, rfl⟩
abbrev mX8_appendOutput : MT := (yX8_appendOutput, cX8_appendOutput, 2, (some .int))
theorem oX8_appendOutput : MO mX8_appendOutput 1 := ⟨gt_mem (i := 856) (by decide +kernel) rfl, gt_mem (i := 69) (by decide +kernel) rfl, by decide +kernel, by decide +kernel, rfl⟩
abbrev mX8_removeInstruction : MT := (yX8_removeInstruction, cX8_removeInstruction, 3, (some .int))
theorem oX8_removeInstruction : MO mX8_removeInstruction 1 := ⟨gt_mem (i := 860) (by decide +kernel) rfl, gt_mem (i := 69) (by decide +kernel) rfl, by decide +kernel, by decide +kernel, rfl⟩
abbrev mX8_undo : MT := (yX8_undo, cX8_undo, 2, (some .int))
theorem oX8_undo : MO mX8_undo 0 := ⟨gt_mem (i := 864) (by decide +kernel) rfl, gt_mem (i := 69) (by decide +kernel) rfl, by decide +kernel, by decide +kernel, rfl⟩
abbrev mX8_recordCount : MT := (yX8_recordCount, cX8_recordCount, 1, (some .int))
theorem oX8_recordCount : MO mX8_recordCount 0 := ⟨gt_mem (i := 868) (by decide +kernel) rfl, gt_mem (i := 69) (by decide +kernel) rfl, by decide +kernel, by decide +kernel, rfl⟩
abbrev mX8_instructionCount : MT := (yX8_instructionCount, cX8_instructionCount, 1, (some .int))
theorem oX8_instructionCount : MO mX8_instructionCount 0 := ⟨gt_mem (i := 872) (by decide +kernel) rfl, gt_mem (i := 69) (by decide +kernel) rfl, by decide +kernel, by decide +kernel, rfl⟩
abbrev mX8_of : MT := (yX8_of, cX8_of, 3, (some .int))
theorem oX8_of : MO mX8_of 2 := ⟨gt_mem (i := 884) (by decide +kernel) rfl, gt_mem (i := 69) (by decide +kernel) rfl, by decide +kernel, by decide +kernel, rfl⟩
abbrev mX8_isAccess : MT := (yX8_isAccess, cX8_isAccess, 2, (some .boolean))
theorem oX8_isAccess : MO mX8_isAccess 1 := ⟨gt_mem (i := 904) (by decide +kernel) rfl, gt_mem (i := 69) (by decide +kernel) rfl, by decide +kernel, by decide +kernel, rfl⟩
abbrev mX8_doesEscape : MT := (yX8_doesEscape, cX8_doesEscape, 4, (some .boolean))
theorem oX8_doesEscape : MO mX8_doesEscape 1 := ⟨gt_mem (i := 880) (by decide +kernel) rfl, gt_mem (i := 69) (by decide +kernel) rfl, by decide +kernel, by decide +kernel, rfl⟩
abbrev mX8_holds : MT := (yX8_holds, cX8_holds, 3, (some .boolean))
theorem oX8_holds : MO mX8_holds 3 := ⟨gt_mem (i := 907) (by decide +kernel) rfl, gt_mem (i := 69) (by decide +kernel) rfl, by decide +kernel, by decide +kernel, rfl⟩
abbrev mX8_isAccessed : MT := (yX8_isAccessed, cX8_isAccessed, 7, (some .boolean))
theorem oX8_isAccessed : MO mX8_isAccessed 3 := ⟨gt_mem (i := 900) (by decide +kernel) rfl, gt_mem (i := 69) (by decide +kernel) rfl, by decide +kernel, by decide +kernel, rfl⟩
abbrev mX8_isCopied : MT := (yX8_isCopied, cX8_isCopied, 5, (some .boolean))
theorem oX8_isCopied : MO mX8_isCopied 4 := ⟨gt_mem (i := 915) (by decide +kernel) rfl, gt_mem (i := 69) (by decide +kernel) rfl, by decide +kernel, by decide +kernel, rfl⟩
abbrev mX8_isSoft : MT := (yX8_isSoft, cX8_isSoft, 5, (some .boolean))
theorem oX8_isSoft : MO mX8_isSoft 2 := ⟨gt_mem (i := 911) (by decide +kernel) rfl, gt_mem (i := 69) (by decide +kernel) rfl, by decide +kernel, by decide +kernel, rfl⟩
abbrev mX8_areCopiedAlike : MT := (yX8_areCopiedAlike, cX8_areCopiedAlike, 6, (some .boolean))
theorem oX8_areCopiedAlike : MO mX8_areCopiedAlike 2 := ⟨gt_mem (i := 923) (by decide +kernel) rfl, gt_mem (i := 69) (by decide +kernel) rfl, by decide +kernel, by decide +kernel, rfl⟩
abbrev mX8_goesOn : MT := (yX8_goesOn, cX8_goesOn, 3, (some .boolean))
theorem oX8_goesOn : MO mX8_goesOn 2 := ⟨gt_mem (i := 919) (by decide +kernel) rfl, gt_mem (i := 69) (by decide +kernel) rfl, by decide +kernel, by decide +kernel, rfl⟩
abbrev mX8_isParted : MT := (yX8_isParted, cX8_isParted, 3, (some .boolean))
theorem oX8_isParted : MO mX8_isParted 2 := ⟨gt_mem (i := 896) (by decide +kernel) rfl, gt_mem (i := 69) (by decide +kernel) rfl, by decide +kernel, by decide +kernel, rfl⟩
abbrev mX8_findParts : MT := (yX8_findParts, cX8_findParts, 5, none)
theorem oX8_findParts : MO mX8_findParts 1 := ⟨gt_mem (i := 892) (by decide +kernel) rfl, gt_mem (i := 69) (by decide +kernel) rfl, by decide +kernel, by decide +kernel, rfl⟩
abbrev mX8_findAllParts : MT := (yX8_findAllParts, cX8_findAllParts, 2, none)
theorem oX8_findAllParts : MO mX8_findAllParts 0 := ⟨gt_mem (i := 939) (by decide +kernel) rfl, gt_mem (i := 69) (by decide +kernel) rfl, by decide +kernel, by decide +kernel, rfl⟩
abbrev mX8_placeOf : MT := (yX8_placeOf, cX8_placeOf, 3, (some .int))
theorem oX8_placeOf : MO mX8_placeOf 2 := ⟨gt_mem (i := 951) (by decide +kernel) rfl, gt_mem (i := 69) (by decide +kernel) rfl, by decide +kernel, by decide +kernel, rfl⟩
abbrev mX8_beginsAt : MT := (yX8_beginsAt, cX8_beginsAt, 3, (some .boolean))
theorem oX8_beginsAt : MO mX8_beginsAt 2 := ⟨gt_mem (i := 963) (by decide +kernel) rfl, gt_mem (i := 69) (by decide +kernel) rfl, by decide +kernel, by decide +kernel, rfl⟩
abbrev mX8_pieceAt : MT := (yX8_pieceAt, cX8_pieceAt, 4, (some .int))
theorem oX8_pieceAt : MO mX8_pieceAt 2 := ⟨gt_mem (i := 959) (by decide +kernel) rfl, gt_mem (i := 69) (by decide +kernel) rfl, by decide +kernel, by decide +kernel, rfl⟩
abbrev mX8_restrict : MT := (yX8_restrict, cX8_restrict, 6, none)
theorem oX8_restrict : MO mX8_restrict 3 := ⟨gt_mem (i := 947) (by decide +kernel) rfl, gt_mem (i := 69) (by decide +kernel) rfl, by decide +kernel, by decide +kernel, rfl⟩
abbrev mX8_restrictPieces : MT := (yX8_restrictPieces, cX8_restrictPieces, 4, none)
theorem oX8_restrictPieces : MO mX8_restrictPieces 1 := ⟨gt_mem (i := 955) (by decide +kernel) rfl, gt_mem (i := 69) (by decide +kernel) rfl, by decide +kernel, by decide +kernel, rfl⟩
abbrev mX8_findPromotable : MT := (yX8_findPromotable, cX8_findPromotable, 4, none)
theorem oX8_findPromotable : MO mX8_findPromotable 0 := ⟨gt_mem (i := 943) (by decide +kernel) rfl, gt_mem (i := 69) (by decide +kernel) rfl, by decide +kernel, by decide +kernel, rfl⟩
abbrev mX8_enliven : MT := (yX8_enliven, cX8_enliven, 6, (some .boolean))
theorem oX8_enliven : MO mX8_enliven 1 := ⟨gt_mem (i := 971) (by decide +kernel) rfl, gt_mem (i := 69) (by decide +kernel) rfl, by decide +kernel, by decide +kernel, rfl⟩
abbrev mX8_findLive : MT := (yX8_findLive, cX8_findLive, 4, none)
theorem oX8_findLive : MO mX8_findLive 0 := ⟨gt_mem (i := 967) (by decide +kernel) rfl, gt_mem (i := 69) (by decide +kernel) rfl, by decide +kernel, by decide +kernel, rfl⟩
abbrev mX8_analyse : MT := (yX8_analyse, cX8_analyse, 1, none)
theorem oX8_analyse : MO mX8_analyse 0 := ⟨gt_mem (i := 935) (by decide +kernel) rfl, gt_mem (i := 69) (by decide +kernel) rfl, by decide +kernel, by decide +kernel, rfl⟩
abbrev mX8_escapes : MT := (yX8_escapes, cX8_escapes, 2, (some .int))
theorem oX8_escapes : MO mX8_escapes 1 := ⟨gt_mem (i := 876) (by decide +kernel) rfl, gt_mem (i := 69) (by decide +kernel) rfl, by decide +kernel, by decide +kernel, rfl⟩
abbrev mX8_partitionCount : MT := (yX8_partitionCount, cX8_partitionCount, 2, (some .int))
theorem oX8_partitionCount : MO mX8_partitionCount 1 := ⟨gt_mem (i := 888) (by decide +kernel) rfl, gt_mem (i := 69) (by decide +kernel) rfl, by decide +kernel, by decide +kernel, rfl⟩
abbrev mX8_isPart : MT := (yX8_isPart, cX8_isPart, 3, (some .boolean))
theorem oX8_isPart : MO mX8_isPart 2 := ⟨gt_mem (i := 931) (by decide +kernel) rfl, gt_mem (i := 69) (by decide +kernel) rfl, by decide +kernel, by decide +kernel, rfl⟩
abbrev mX8_partitionStart : MT := (yX8_partitionStart, cX8_partitionStart, 3, (some .int))
theorem oX8_partitionStart : MO mX8_partitionStart 2 := ⟨gt_mem (i := 927) (by decide +kernel) rfl, gt_mem (i := 69) (by decide +kernel) rfl, by decide +kernel, by decide +kernel, rfl⟩
abbrev mX8_partitionLength : MT := (yX8_partitionLength, cX8_partitionLength, 3, (some .int))
theorem oX8_partitionLength : MO mX8_partitionLength 2 := ⟨gt_mem (i := 975) (by decide +kernel) rfl, gt_mem (i := 69) (by decide +kernel) rfl, by decide +kernel, by decide +kernel, rfl⟩
abbrev mX8_isPromotable : MT := (yX8_isPromotable, cX8_isPromotable, 3, (some .int))
theorem oX8_isPromotable : MO mX8_isPromotable 2 := ⟨gt_mem (i := 979) (by decide +kernel) rfl, gt_mem (i := 69) (by decide +kernel) rfl, by decide +kernel, by decide +kernel, rfl⟩
abbrev mX8_isLive : MT := (yX8_isLive, cX8_isLive, 3, (some .int))
theorem oX8_isLive : MO mX8_isLive 2 := ⟨gt_mem (i := 983) (by decide +kernel) rfl, gt_mem (i := 69) (by decide +kernel) rfl, by decide +kernel, by decide +kernel, rfl⟩
abbrev mX8_paddingBytes : MT := (yX8_paddingBytes, cX8_paddingBytes, 4, (some .int))
theorem oX8_paddingBytes : MO mX8_paddingBytes 1 := ⟨gt_mem (i := 987) (by decide +kernel) rfl, gt_mem (i := 69) (by decide +kernel) rfl, by decide +kernel, by decide +kernel, rfl⟩
abbrev mX8_isCopy : MT := (yX8_isCopy, cX8_isCopy, 2, (some .boolean))
theorem oX8_isCopy : MO mX8_isCopy 1 := ⟨gt_mem (i := 995) (by decide +kernel) rfl, gt_mem (i := 69) (by decide +kernel) rfl, by decide +kernel, by decide +kernel, rfl⟩
abbrev mX8_pieceCount : MT := (yX8_pieceCount, cX8_pieceCount, 4, (some .int))
theorem oX8_pieceCount : MO mX8_pieceCount 1 := ⟨gt_mem (i := 991) (by decide +kernel) rfl, gt_mem (i := 69) (by decide +kernel) rfl, by decide +kernel, by decide +kernel, rfl⟩
abbrev mX8_pieceLength : MT := (yX8_pieceLength, cX8_pieceLength, 6, (some .int))
theorem oX8_pieceLength : MO mX8_pieceLength 2 := ⟨gt_mem (i := 999) (by decide +kernel) rfl, gt_mem (i := 69) (by decide +kernel) rfl, by decide +kernel, by decide +kernel, rfl⟩
abbrev mX8_scalarCount : MT := (yX8_scalarCount, cX8_scalarCount, 4, (some .int))
theorem oX8_scalarCount : MO mX8_scalarCount 0 := ⟨gt_mem (i := 1003) (by decide +kernel) rfl, gt_mem (i := 69) (by decide +kernel) rfl, by decide +kernel, by decide +kernel, rfl⟩
abbrev mX8_liveBytes : MT := (yX8_liveBytes, cX8_liveBytes, 4, (some .int))
theorem oX8_liveBytes : MO mX8_liveBytes 0 := ⟨gt_mem (i := 1007) (by decide +kernel) rfl, gt_mem (i := 69) (by decide +kernel) rfl, by decide +kernel, by decide +kernel, rfl⟩
abbrev mX8_store : MT := (yX8_store, cX8_store, 3, none)
theorem oX8_store : MO mX8_store 1 := ⟨gt_mem (i := 1031) (by decide +kernel) rfl, gt_mem (i := 69) (by decide +kernel) rfl, by decide +kernel, by decide +kernel, rfl⟩
abbrev mX8_load : MT := (yX8_load, cX8_load, 4, none)
theorem oX8_load : MO mX8_load 1 := ⟨gt_mem (i := 1027) (by decide +kernel) rfl, gt_mem (i := 69) (by decide +kernel) rfl, by decide +kernel, by decide +kernel, rfl⟩
abbrev mX8_copyBytes : MT := (yX8_copyBytes, cX8_copyBytes, 5, none)
theorem oX8_copyBytes : MO mX8_copyBytes 3 := ⟨gt_mem (i := 1039) (by decide +kernel) rfl, gt_mem (i := 69) (by decide +kernel) rfl, by decide +kernel, by decide +kernel, rfl⟩
abbrev mX8_escape : MT := (yX8_escape, cX8_escape, 3, none)
theorem oX8_escape : MO mX8_escape 1 := ⟨gt_mem (i := 1043) (by decide +kernel) rfl, gt_mem (i := 69) (by decide +kernel) rfl, by decide +kernel, by decide +kernel, rfl⟩
abbrev mX8_adds : MT := (yX8_adds, cX8_adds, 5, (some .boolean))
theorem oX8_adds : MO mX8_adds 1 := ⟨gt_mem (i := 1047) (by decide +kernel) rfl, gt_mem (i := 69) (by decide +kernel) rfl, by decide +kernel, by decide +kernel, rfl⟩
abbrev mX8_access : MT := (yX8_access, cX8_access, 4, none)
theorem oX8_access : MO mX8_access 2 := ⟨gt_mem (i := 1023) (by decide +kernel) rfl, gt_mem (i := 69) (by decide +kernel) rfl, by decide +kernel, by decide +kernel, rfl⟩
abbrev mX8_copyPieces : MT := (yX8_copyPieces, cX8_copyPieces, 6, none)
theorem oX8_copyPieces : MO mX8_copyPieces 1 := ⟨gt_mem (i := 1035) (by decide +kernel) rfl, gt_mem (i := 69) (by decide +kernel) rfl, by decide +kernel, by decide +kernel, rfl⟩
abbrev mX8_runs : MT := (yX8_runs, cX8_runs, 4, none)
theorem oX8_runs : MO mX8_runs 1 := ⟨gt_mem (i := 1015) (by decide +kernel) rfl, gt_mem (i := 69) (by decide +kernel) rfl, by decide +kernel, by decide +kernel, rfl⟩
abbrev mX8_executes : MT := (yX8_executes, cX8_executes, 3, (some .int))
theorem oX8_executes : MO mX8_executes 2 := ⟨gt_mem (i := 1019) (by decide +kernel) rfl, gt_mem (i := 69) (by decide +kernel) rfl, by decide +kernel, by decide +kernel, rfl⟩
abbrev mX8_trapPosition : MT := (yX8_trapPosition, cX8_trapPosition, 1, (some .int))
theorem oX8_trapPosition : MO mX8_trapPosition 0 := ⟨gt_mem (i := 1011) (by decide +kernel) rfl, gt_mem (i := 69) (by decide +kernel) rfl, by decide +kernel, by decide +kernel, rfl⟩
abbrev mX8_isProgram : MT := (yX8_isProgram, cX8_isProgram, 1, (some .boolean))
theorem oX8_isProgram : MO mX8_isProgram 1 := ⟨gt_mem (i := 1054) (by decide +kernel) rfl, gt_mem (i := 69) (by decide +kernel) rfl, by decide +kernel, by decide +kernel, rfl⟩
abbrev mX8_outputCount : MT := (yX8_outputCount, cX8_outputCount, 2, (some .int))
theorem oX8_outputCount : MO mX8_outputCount 1 := ⟨gt_mem (i := 1051) (by decide +kernel) rfl, gt_mem (i := 69) (by decide +kernel) rfl, by decide +kernel, by decide +kernel, rfl⟩
abbrev mX8_outputAt : MT := (yX8_outputAt, cX8_outputAt, 3, (some .int))
theorem oX8_outputAt : MO mX8_outputAt 2 := ⟨gt_mem (i := 1058) (by decide +kernel) rfl, gt_mem (i := 69) (by decide +kernel) rfl, by decide +kernel, by decide +kernel, rfl⟩
abbrev mX8_checksum : MT := (yX8_checksum, cX8_checksum, 2, (some .int))
theorem oX8_checksum : MO mX8_checksum 1 := ⟨gt_mem (i := 1062) (by decide +kernel) rfl, gt_mem (i := 69) (by decide +kernel) rfl, by decide +kernel, by decide +kernel, rfl⟩
abbrev mX8_cost : MT := (yX8_cost, cX8_cost, 2, (some .int))
theorem oX8_cost : MO mX8_cost 1 := ⟨gt_mem (i := 1066) (by decide +kernel) rfl, gt_mem (i := 69) (by decide +kernel) rfl, by decide +kernel, by decide +kernel, rfl⟩
theorem kL_9 : KI RL 9 mX7_init 0 := ⟨oX7_init, gt_mem (i := 73) (by decide +kernel) rfl, gt_mem (i := 74) (by decide +kernel) rfl, rfl, rfl⟩
theorem kX7_1 : Cond.methodLink RX7 1 objectInit ∈ gt := gt_mem (i := 76) (by decide +kernel) rfl
theorem kX7_9 : KI RX7 9 mX5_init 0 := ⟨oX5_init, gt_mem (i := 81) (by decide +kernel) rfl, gt_mem (i := 82) (by decide +kernel) rfl, rfl, rfl⟩
theorem kX5_3 : Cond.methodLink RX5 3 objectInit ∈ gt := gt_mem (i := 84) (by decide +kernel) rfl
theorem kX5_21 : KI RX5 21 mX2_init 1 := ⟨oX2_init, gt_mem (i := 88) (by decide +kernel) rfl, gt_mem (i := 89) (by decide +kernel) rfl, rfl, rfl⟩
theorem kX2_3 : Cond.methodLink RX2 3 objectInit ∈ gt := gt_mem (i := 91) (by decide +kernel) rfl
theorem kX7_18 : KIN RX7 18 mX1_init 0 := ⟨oX1_init, ⟨"AggregateSplitter", by decide +kernel⟩, gt_mem (i := 165) (by decide +kernel) rfl, rfl, rfl⟩
theorem kX1_3 : Cond.methodLink RX1 3 objectInit ∈ gt := gt_mem (i := 167) (by decide +kernel) rfl
theorem kX7_25 : KI RX7 25 mX0_init 0 := ⟨oX0_init, gt_mem (i := 188) (by decide +kernel) rfl, gt_mem (i := 189) (by decide +kernel) rfl, rfl, rfl⟩
theorem kX0_3 : Cond.methodLink RX0 3 objectInit ∈ gt := gt_mem (i := 191) (by decide +kernel) rfl
theorem kX0_17 : KI RX0 17 mX3_init 0 := ⟨oX3_init, gt_mem (i := 195) (by decide +kernel) rfl, gt_mem (i := 196) (by decide +kernel) rfl, rfl, rfl⟩
theorem kX3_3 : Cond.methodLink RX3 3 objectInit ∈ gt := gt_mem (i := 198) (by decide +kernel) rfl
theorem kX3_17 : KIN RX3 17 mX4_init 0 := ⟨oX4_init, ⟨"AggregateSplitter", by decide +kernel⟩, gt_mem (i := 203) (by decide +kernel) rfl, rfl, rfl⟩
theorem kX4_1 : Cond.methodLink RX4 1 objectInit ∈ gt := gt_mem (i := 205) (by decide +kernel) rfl
theorem kX7_32 : KI RX7 32 mX6_init 2 := ⟨oX6_init, gt_mem (i := 282) (by decide +kernel) rfl, gt_mem (i := 283) (by decide +kernel) rfl, rfl, rfl⟩
theorem kX6_3 : Cond.methodLink RX6 3 objectInit ∈ gt := gt_mem (i := 285) (by decide +kernel) rfl
theorem kL_13 : KV RL 13 7 mX7_declareRecord 1 := ⟨oX7_declareRecord, gt_mem (i := 338) (by decide +kernel) rfl, gt_mem (i := 339) (by decide +kernel) rfl, gt_mem (i := 340) (by decide +kernel) rfl, by decide, fun r hr => by cases hr; rfl⟩
theorem kX7_43 : KV RX7 43 5 mX5_addRecord 1 := ⟨oX5_addRecord, gt_mem (i := 342) (by decide +kernel) rfl, gt_mem (i := 343) (by decide +kernel) rfl, gt_mem (i := 344) (by decide +kernel) rfl, by decide, fun r hr => by cases hr; rfl⟩
theorem kX7_51 : KV RX7 51 1 mX1_note 3 := ⟨oX1_note, gt_mem (i := 346) (by decide +kernel) rfl, gt_mem (i := 347) (by decide +kernel) rfl, gt_mem (i := 348) (by decide +kernel) rfl, by decide, fun r hr => by cases hr; rfl⟩
theorem kX1_31 : Cond.methodLink RX1 31 Lib.Math.min.name ∈ gt := gt_mem (i := 350) (by decide +kernel) rfl
theorem kL_18 : KV RL 18 7 mX7_appendStore 4 := ⟨oX7_appendStore, gt_mem (i := 353) (by decide +kernel) rfl, gt_mem (i := 354) (by decide +kernel) rfl, gt_mem (i := 355) (by decide +kernel) rfl, by decide, fun r hr => by cases hr; rfl⟩
theorem kX7_59 : KV RX7 59 7 mX7_isAccess 3 := ⟨oX7_isAccess, gt_mem (i := 357) (by decide +kernel) rfl, gt_mem (i := 359) (by decide +kernel) rfl, gt_mem (i := 0) (by decide +kernel) rfl, by decide, fun r hr => by cases hr; rfl⟩
theorem kX7_205 : KS RX7 205 mX7_isScalarLength 1 := ⟨oX7_isScalarLength, gt_mem (i := 361) (by decide +kernel) rfl, gt_mem (i := 362) (by decide +kernel) rfl⟩
theorem kX7_77 : KV RX7 77 5 mX5_holdsRange 3 := ⟨oX5_holdsRange, gt_mem (i := 364) (by decide +kernel) rfl, gt_mem (i := 365) (by decide +kernel) rfl, gt_mem (i := 366) (by decide +kernel) rfl, by decide, fun r hr => by cases hr; rfl⟩
theorem kX5_39 : KV RX5 39 5 mX5_sizeOf 1 := ⟨oX5_sizeOf, gt_mem (i := 368) (by decide +kernel) rfl, gt_mem (i := 369) (by decide +kernel) rfl, gt_mem (i := 370) (by decide +kernel) rfl, by decide, fun r hr => by cases hr; rfl⟩
theorem kX5_35 : KV RX5 35 5 mX5_hasRecord 1 := ⟨oX5_hasRecord, gt_mem (i := 372) (by decide +kernel) rfl, gt_mem (i := 373) (by decide +kernel) rfl, gt_mem (i := 374) (by decide +kernel) rfl, by decide, fun r hr => by cases hr; rfl⟩
theorem kX7_63 : KS RX7 63 mX7_isRegister 1 := ⟨oX7_isRegister, gt_mem (i := 376) (by decide +kernel) rfl, gt_mem (i := 377) (by decide +kernel) rfl⟩
theorem kX7_67 : KS RX7 67 mX2_ofAccess 5 := ⟨oX2_ofAccess, gt_mem (i := 379) (by decide +kernel) rfl, gt_mem (i := 380) (by decide +kernel) rfl⟩
theorem kX2_15 : KI RX2 15 mX2_init 1 := ⟨oX2_init, gt_mem (i := 383) (by decide +kernel) rfl, gt_mem (i := 89) (by decide +kernel) rfl, rfl, rfl⟩
theorem kX7_73 : KV RX7 73 7 mX7_append 1 := ⟨oX7_append, gt_mem (i := 384) (by decide +kernel) rfl, gt_mem (i := 386) (by decide +kernel) rfl, gt_mem (i := 1) (by decide +kernel) rfl, by decide, fun r hr => by cases hr; rfl⟩
theorem kX7_201 : KV RX7 201 5 mX5_insert 2 := ⟨oX5_insert, gt_mem (i := 388) (by decide +kernel) rfl, gt_mem (i := 389) (by decide +kernel) rfl, gt_mem (i := 390) (by decide +kernel) rfl, by decide, fun r hr => by cases hr; rfl⟩
theorem kL_23 : KV RL 23 7 mX7_appendLoad 4 := ⟨oX7_appendLoad, gt_mem (i := 392) (by decide +kernel) rfl, gt_mem (i := 393) (by decide +kernel) rfl, gt_mem (i := 394) (by decide +kernel) rfl, by decide, fun r hr => by cases hr; rfl⟩
theorem kL_27 : KV RL 27 7 mX7_appendCopy 5 := ⟨oX7_appendCopy, gt_mem (i := 396) (by decide +kernel) rfl, gt_mem (i := 397) (by decide +kernel) rfl, gt_mem (i := 398) (by decide +kernel) rfl, by decide, fun r hr => by cases hr; rfl⟩
theorem kX7_80 : Cond.methodLink RX7 80 Lib.Math.abs.name ∈ gt := gt_mem (i := 400) (by decide +kernel) rfl
theorem kX7_86 : KS RX7 86 mX2_ofCopy 5 := ⟨oX2_ofCopy, gt_mem (i := 403) (by decide +kernel) rfl, gt_mem (i := 404) (by decide +kernel) rfl⟩
theorem kL_32 : KV RL 32 7 mX7_appendEscape 1 := ⟨oX7_appendEscape, gt_mem (i := 406) (by decide +kernel) rfl, gt_mem (i := 407) (by decide +kernel) rfl, gt_mem (i := 408) (by decide +kernel) rfl, by decide, fun r hr => by cases hr; rfl⟩
theorem kX7_89 : KV RX7 89 5 mX5_hasRecord 1 := ⟨oX5_hasRecord, gt_mem (i := 410) (by decide +kernel) rfl, gt_mem (i := 373) (by decide +kernel) rfl, gt_mem (i := 374) (by decide +kernel) rfl, by decide, fun r hr => by cases hr; rfl⟩
theorem kX7_92 : KS RX7 92 mX2_ofEscape 1 := ⟨oX2_ofEscape, gt_mem (i := 411) (by decide +kernel) rfl, gt_mem (i := 412) (by decide +kernel) rfl⟩
theorem kL_36 : KV RL 36 7 mX7_appendConstant 2 := ⟨oX7_appendConstant, gt_mem (i := 414) (by decide +kernel) rfl, gt_mem (i := 415) (by decide +kernel) rfl, gt_mem (i := 416) (by decide +kernel) rfl, by decide, fun r hr => by cases hr; rfl⟩
theorem kX7_96 : KS RX7 96 mX2_ofNumber 3 := ⟨oX2_ofNumber, gt_mem (i := 418) (by decide +kernel) rfl, gt_mem (i := 419) (by decide +kernel) rfl⟩
theorem kL_41 : KV RL 41 7 mX7_appendAdd 3 := ⟨oX7_appendAdd, gt_mem (i := 421) (by decide +kernel) rfl, gt_mem (i := 422) (by decide +kernel) rfl, gt_mem (i := 423) (by decide +kernel) rfl, by decide, fun r hr => by cases hr; rfl⟩
theorem kX7_100 : KS RX7 100 mX2_ofAdd 3 := ⟨oX2_ofAdd, gt_mem (i := 425) (by decide +kernel) rfl, gt_mem (i := 426) (by decide +kernel) rfl⟩
theorem kL_46 : KV RL 46 7 mX7_appendSkip 2 := ⟨oX7_appendSkip, gt_mem (i := 428) (by decide +kernel) rfl, gt_mem (i := 429) (by decide +kernel) rfl, gt_mem (i := 430) (by decide +kernel) rfl, by decide, fun r hr => by cases hr; rfl⟩
theorem kL_50 : KV RL 50 7 mX7_appendOutput 1 := ⟨oX7_appendOutput, gt_mem (i := 432) (by decide +kernel) rfl, gt_mem (i := 433) (by decide +kernel) rfl, gt_mem (i := 434) (by decide +kernel) rfl, by decide, fun r hr => by cases hr; rfl⟩
theorem kL_54 : KV RL 54 7 mX7_removeInstruction 1 := ⟨oX7_removeInstruction, gt_mem (i := 436) (by decide +kernel) rfl, gt_mem (i := 437) (by decide +kernel) rfl, gt_mem (i := 438) (by decide +kernel) rfl, by decide, fun r hr => by cases hr; rfl⟩
theorem kX7_103 : KV RX7 103 5 mX5_hasInstruction 1 := ⟨oX5_hasInstruction, gt_mem (i := 440) (by decide +kernel) rfl, gt_mem (i := 441) (by decide +kernel) rfl, gt_mem (i := 442) (by decide +kernel) rfl, by decide, fun r hr => by cases hr; rfl⟩
theorem kX7_106 : KV RX7 106 5 mX5_at 1 := ⟨oX5_at, gt_mem (i := 444) (by decide +kernel) rfl, gt_mem (i := 445) (by decide +kernel) rfl, gt_mem (i := 446) (by decide +kernel) rfl, by decide, fun r hr => by cases hr; rfl⟩
theorem kX5_43 : KV RX5 43 5 mX5_hasInstruction 1 := ⟨oX5_hasInstruction, gt_mem (i := 448) (by decide +kernel) rfl, gt_mem (i := 441) (by decide +kernel) rfl, gt_mem (i := 442) (by decide +kernel) rfl, by decide, fun r hr => by cases hr; rfl⟩
theorem kX7_109 : KV RX7 109 5 mX5_delete 1 := ⟨oX5_delete, gt_mem (i := 449) (by decide +kernel) rfl, gt_mem (i := 450) (by decide +kernel) rfl, gt_mem (i := 451) (by decide +kernel) rfl, by decide, fun r hr => by cases hr; rfl⟩
theorem kL_58 : KV RL 58 7 mX7_undo 0 := ⟨oX7_undo, gt_mem (i := 453) (by decide +kernel) rfl, gt_mem (i := 454) (by decide +kernel) rfl, gt_mem (i := 455) (by decide +kernel) rfl, by decide, fun r hr => by cases hr; rfl⟩
theorem kX7_118 : KV RX7 118 1 mX1_takeBack 1 := ⟨oX1_takeBack, gt_mem (i := 457) (by decide +kernel) rfl, gt_mem (i := 458) (by decide +kernel) rfl, gt_mem (i := 459) (by decide +kernel) rfl, by decide, fun r hr => by cases hr; rfl⟩
theorem kX1_37 : KV RX1 37 5 mX5_dropRecord 0 := ⟨oX5_dropRecord, gt_mem (i := 461) (by decide +kernel) rfl, gt_mem (i := 462) (by decide +kernel) rfl, gt_mem (i := 463) (by decide +kernel) rfl, by decide, fun r hr => by cases hr; rfl⟩
theorem kX1_42 : KV RX1 42 5 mX5_delete 1 := ⟨oX5_delete, gt_mem (i := 465) (by decide +kernel) rfl, gt_mem (i := 450) (by decide +kernel) rfl, gt_mem (i := 451) (by decide +kernel) rfl, by decide, fun r hr => by cases hr; rfl⟩
theorem kX1_46 : KV RX1 46 5 mX5_insert 2 := ⟨oX5_insert, gt_mem (i := 466) (by decide +kernel) rfl, gt_mem (i := 389) (by decide +kernel) rfl, gt_mem (i := 390) (by decide +kernel) rfl, by decide, fun r hr => by cases hr; rfl⟩
theorem kL_63 : KV RL 63 7 mX7_recordCount 0 := ⟨oX7_recordCount, gt_mem (i := 467) (by decide +kernel) rfl, gt_mem (i := 468) (by decide +kernel) rfl, gt_mem (i := 469) (by decide +kernel) rfl, by decide, fun r hr => by cases hr; rfl⟩
theorem kL_67 : KV RL 67 7 mX7_instructionCount 0 := ⟨oX7_instructionCount, gt_mem (i := 471) (by decide +kernel) rfl, gt_mem (i := 472) (by decide +kernel) rfl, gt_mem (i := 473) (by decide +kernel) rfl, by decide, fun r hr => by cases hr; rfl⟩
theorem kL_71 : KV RL 71 7 mX7_escapes 1 := ⟨oX7_escapes, gt_mem (i := 475) (by decide +kernel) rfl, gt_mem (i := 476) (by decide +kernel) rfl, gt_mem (i := 477) (by decide +kernel) rfl, by decide, fun r hr => by cases hr; rfl⟩
theorem kX7_122 : KV RX7 122 7 mX7_layoutNow 1 := ⟨oX7_layoutNow, gt_mem (i := 479) (by decide +kernel) rfl, gt_mem (i := 481) (by decide +kernel) rfl, gt_mem (i := 2) (by decide +kernel) rfl, by decide, fun r hr => by cases hr; rfl⟩
theorem kX7_163 : KV RX7 163 0 mX0_refresh 1 := ⟨oX0_refresh, gt_mem (i := 483) (by decide +kernel) rfl, gt_mem (i := 484) (by decide +kernel) rfl, gt_mem (i := 485) (by decide +kernel) rfl, by decide, fun r hr => by cases hr; rfl⟩
theorem kX0_31 : KV RX0 31 5 mX5_sizeOf 1 := ⟨oX5_sizeOf, gt_mem (i := 487) (by decide +kernel) rfl, gt_mem (i := 369) (by decide +kernel) rfl, gt_mem (i := 370) (by decide +kernel) rfl, by decide, fun r hr => by cases hr; rfl⟩
theorem kX0_37 : KV RX0 37 3 mX3_clear 1 := ⟨oX3_clear, gt_mem (i := 488) (by decide +kernel) rfl, gt_mem (i := 489) (by decide +kernel) rfl, gt_mem (i := 490) (by decide +kernel) rfl, by decide, fun r hr => by cases hr; rfl⟩
theorem kX3_36 : Cond.methodLink RX3 36 Lib.Math.min.name ∈ gt := gt_mem (i := 492) (by decide +kernel) rfl
theorem kX0_45 : KV RX0 45 5 mX5_at 1 := ⟨oX5_at, gt_mem (i := 493) (by decide +kernel) rfl, gt_mem (i := 445) (by decide +kernel) rfl, gt_mem (i := 446) (by decide +kernel) rfl, by decide, fun r hr => by cases hr; rfl⟩
theorem kX0_49 : KV RX0 49 0 mX0_collectRanges 2 := ⟨oX0_collectRanges, gt_mem (i := 494) (by decide +kernel) rfl, gt_mem (i := 496) (by decide +kernel) rfl, gt_mem (i := 3) (by decide +kernel) rfl, by decide, fun r hr => by cases hr; rfl⟩
theorem kX0_71 : KV RX0 71 0 mX0_layoutOf 1 := ⟨oX0_layoutOf, gt_mem (i := 498) (by decide +kernel) rfl, gt_mem (i := 499) (by decide +kernel) rfl, gt_mem (i := 500) (by decide +kernel) rfl, by decide, fun r hr => by cases hr; rfl⟩
theorem kX0_75 : KV RX0 75 2 mX2_isLoadOrStore 0 := ⟨oX2_isLoadOrStore, gt_mem (i := 502) (by decide +kernel) rfl, gt_mem (i := 503) (by decide +kernel) rfl, gt_mem (i := 504) (by decide +kernel) rfl, by decide, fun r hr => by cases hr; rfl⟩
theorem kX0_85 : KV RX0 85 3 mX3_addAccess 2 := ⟨oX3_addAccess, gt_mem (i := 506) (by decide +kernel) rfl, gt_mem (i := 507) (by decide +kernel) rfl, gt_mem (i := 508) (by decide +kernel) rfl, by decide, fun r hr => by cases hr; rfl⟩
theorem kX3_53 : KV RX3 53 3 mX3_isByte 1 := ⟨oX3_isByte, gt_mem (i := 510) (by decide +kernel) rfl, gt_mem (i := 512) (by decide +kernel) rfl, gt_mem (i := 4) (by decide +kernel) rfl, by decide, fun r hr => by cases hr; rfl⟩
theorem kX0_95 : KV RX0 95 3 mX3_addCopyRange 3 := ⟨oX3_addCopyRange, gt_mem (i := 514) (by decide +kernel) rfl, gt_mem (i := 515) (by decide +kernel) rfl, gt_mem (i := 516) (by decide +kernel) rfl, by decide, fun r hr => by cases hr; rfl⟩
theorem kX0_53 : KV RX0 53 3 mX3_formPartitions 0 := ⟨oX3_formPartitions, gt_mem (i := 518) (by decide +kernel) rfl, gt_mem (i := 519) (by decide +kernel) rfl, gt_mem (i := 520) (by decide +kernel) rfl, by decide, fun r hr => by cases hr; rfl⟩
theorem kX3_57 : KV RX3 57 3 mX3_isPadding 1 := ⟨oX3_isPadding, gt_mem (i := 522) (by decide +kernel) rfl, gt_mem (i := 524) (by decide +kernel) rfl, gt_mem (i := 5) (by decide +kernel) rfl, by decide, fun r hr => by cases hr; rfl⟩
theorem kX3_60 : KV RX3 60 3 mX3_beginsPartition 1 := ⟨oX3_beginsPartition, gt_mem (i := 526) (by decide +kernel) rfl, gt_mem (i := 528) (by decide +kernel) rfl, gt_mem (i := 6) (by decide +kernel) rfl, by decide, fun r hr => by cases hr; rfl⟩
theorem kX3_63 : KV RX3 63 4 mX4_beginAt 2 := ⟨oX4_beginAt, gt_mem (i := 530) (by decide +kernel) rfl, gt_mem (i := 531) (by decide +kernel) rfl, gt_mem (i := 532) (by decide +kernel) rfl, by decide, fun r hr => by cases hr; rfl⟩
theorem kX3_67 : KV RX3 67 3 mX3_numbered 1 := ⟨oX3_numbered, gt_mem (i := 534) (by decide +kernel) rfl, gt_mem (i := 535) (by decide +kernel) rfl, gt_mem (i := 536) (by decide +kernel) rfl, by decide, fun r hr => by cases hr; rfl⟩
theorem kX3_71 : KV RX3 71 4 mX4_grow 1 := ⟨oX4_grow, gt_mem (i := 538) (by decide +kernel) rfl, gt_mem (i := 539) (by decide +kernel) rfl, gt_mem (i := 540) (by decide +kernel) rfl, by decide, fun r hr => by cases hr; rfl⟩
theorem kX4_20 : KSN RX4 20 mX7_isScalarLength 1 := ⟨oX7_isScalarLength, ⟨"AggregateSplitter", by decide +kernel⟩, gt_mem (i := 362) (by decide +kernel) rfl⟩
theorem kX0_56 : KV RX0 56 0 mX0_cutIntoPieces 2 := ⟨oX0_cutIntoPieces, gt_mem (i := 543) (by decide +kernel) rfl, gt_mem (i := 545) (by decide +kernel) rfl, gt_mem (i := 7) (by decide +kernel) rfl, by decide, fun r hr => by cases hr; rfl⟩
theorem kX0_105 : KV RX0 105 0 mX0_beginsPiece 2 := ⟨oX0_beginsPiece, gt_mem (i := 547) (by decide +kernel) rfl, gt_mem (i := 549) (by decide +kernel) rfl, gt_mem (i := 8) (by decide +kernel) rfl, by decide, fun r hr => by cases hr; rfl⟩
theorem kX0_109 : KV RX0 109 3 mX3_isStart 1 := ⟨oX3_isStart, gt_mem (i := 551) (by decide +kernel) rfl, gt_mem (i := 552) (by decide +kernel) rfl, gt_mem (i := 553) (by decide +kernel) rfl, by decide, fun r hr => by cases hr; rfl⟩
theorem kX3_75 : KV RX3 75 3 mX3_holding 1 := ⟨oX3_holding, gt_mem (i := 555) (by decide +kernel) rfl, gt_mem (i := 556) (by decide +kernel) rfl, gt_mem (i := 557) (by decide +kernel) rfl, by decide, fun r hr => by cases hr; rfl⟩
theorem kX0_59 : KV RX0 59 0 mX0_touchPartitions 2 := ⟨oX0_touchPartitions, gt_mem (i := 559) (by decide +kernel) rfl, gt_mem (i := 561) (by decide +kernel) rfl, gt_mem (i := 9) (by decide +kernel) rfl, by decide, fun r hr => by cases hr; rfl⟩
theorem kX0_113 : KV RX0 113 0 mX0_target 2 := ⟨oX0_target, gt_mem (i := 563) (by decide +kernel) rfl, gt_mem (i := 564) (by decide +kernel) rfl, gt_mem (i := 565) (by decide +kernel) rfl, by decide, fun r hr => by cases hr; rfl⟩
theorem kX0_131 : KV RX0 131 3 mX3_holding 1 := ⟨oX3_holding, gt_mem (i := 567) (by decide +kernel) rfl, gt_mem (i := 556) (by decide +kernel) rfl, gt_mem (i := 557) (by decide +kernel) rfl, by decide, fun r hr => by cases hr; rfl⟩
theorem kX0_117 : KV RX0 117 4 mX4_touchWith 1 := ⟨oX4_touchWith, gt_mem (i := 568) (by decide +kernel) rfl, gt_mem (i := 569) (by decide +kernel) rfl, gt_mem (i := 570) (by decide +kernel) rfl, by decide, fun r hr => by cases hr; rfl⟩
theorem kX0_125 : KV RX0 125 0 mX0_origin 2 := ⟨oX0_origin, gt_mem (i := 572) (by decide +kernel) rfl, gt_mem (i := 573) (by decide +kernel) rfl, gt_mem (i := 574) (by decide +kernel) rfl, by decide, fun r hr => by cases hr; rfl⟩
theorem kX0_62 : KV RX0 62 0 mX0_markLive 1 := ⟨oX0_markLive, gt_mem (i := 576) (by decide +kernel) rfl, gt_mem (i := 578) (by decide +kernel) rfl, gt_mem (i := 10) (by decide +kernel) rfl, by decide, fun r hr => by cases hr; rfl⟩
theorem kX0_128 : KV RX0 128 0 mX0_passLifeToOrigins 2 := ⟨oX0_passLifeToOrigins, gt_mem (i := 580) (by decide +kernel) rfl, gt_mem (i := 582) (by decide +kernel) rfl, gt_mem (i := 11) (by decide +kernel) rfl, by decide, fun r hr => by cases hr; rfl⟩
theorem kX7_208 : KV RX7 208 0 mX0_layoutOf 1 := ⟨oX0_layoutOf, gt_mem (i := 584) (by decide +kernel) rfl, gt_mem (i := 499) (by decide +kernel) rfl, gt_mem (i := 500) (by decide +kernel) rfl, by decide, fun r hr => by cases hr; rfl⟩
theorem kX7_131 : KS RX7 131 mX7_oneIf 1 := ⟨oX7_oneIf, gt_mem (i := 585) (by decide +kernel) rfl, gt_mem (i := 586) (by decide +kernel) rfl⟩
theorem kL_75 : KV RL 75 7 mX7_partitionCount 1 := ⟨oX7_partitionCount, gt_mem (i := 588) (by decide +kernel) rfl, gt_mem (i := 589) (by decide +kernel) rfl, gt_mem (i := 590) (by decide +kernel) rfl, by decide, fun r hr => by cases hr; rfl⟩
theorem kL_79 : KV RL 79 7 mX7_partitionStart 2 := ⟨oX7_partitionStart, gt_mem (i := 592) (by decide +kernel) rfl, gt_mem (i := 593) (by decide +kernel) rfl, gt_mem (i := 594) (by decide +kernel) rfl, by decide, fun r hr => by cases hr; rfl⟩
theorem kX7_138 : KV RX7 138 7 mX7_partitionNow 2 := ⟨oX7_partitionNow, gt_mem (i := 596) (by decide +kernel) rfl, gt_mem (i := 598) (by decide +kernel) rfl, gt_mem (i := 12) (by decide +kernel) rfl, by decide, fun r hr => by cases hr; rfl⟩
theorem kX7_211 : KV RX7 211 3 mX3_numbered 1 := ⟨oX3_numbered, gt_mem (i := 600) (by decide +kernel) rfl, gt_mem (i := 535) (by decide +kernel) rfl, gt_mem (i := 536) (by decide +kernel) rfl, by decide, fun r hr => by cases hr; rfl⟩
theorem kL_83 : KV RL 83 7 mX7_partitionLength 2 := ⟨oX7_partitionLength, gt_mem (i := 601) (by decide +kernel) rfl, gt_mem (i := 602) (by decide +kernel) rfl, gt_mem (i := 603) (by decide +kernel) rfl, by decide, fun r hr => by cases hr; rfl⟩
theorem kL_87 : KV RL 87 7 mX7_isPromotable 2 := ⟨oX7_isPromotable, gt_mem (i := 605) (by decide +kernel) rfl, gt_mem (i := 606) (by decide +kernel) rfl, gt_mem (i := 607) (by decide +kernel) rfl, by decide, fun r hr => by cases hr; rfl⟩
theorem kL_91 : KV RL 91 7 mX7_isLive 2 := ⟨oX7_isLive, gt_mem (i := 609) (by decide +kernel) rfl, gt_mem (i := 610) (by decide +kernel) rfl, gt_mem (i := 611) (by decide +kernel) rfl, by decide, fun r hr => by cases hr; rfl⟩
theorem kL_95 : KV RL 95 7 mX7_paddingBytes 1 := ⟨oX7_paddingBytes, gt_mem (i := 613) (by decide +kernel) rfl, gt_mem (i := 614) (by decide +kernel) rfl, gt_mem (i := 615) (by decide +kernel) rfl, by decide, fun r hr => by cases hr; rfl⟩
theorem kX7_156 : KV RX7 156 3 mX3_countPadding 0 := ⟨oX3_countPadding, gt_mem (i := 617) (by decide +kernel) rfl, gt_mem (i := 618) (by decide +kernel) rfl, gt_mem (i := 619) (by decide +kernel) rfl, by decide, fun r hr => by cases hr; rfl⟩
theorem kL_99 : KV RL 99 7 mX7_pieceCount 1 := ⟨oX7_pieceCount, gt_mem (i := 621) (by decide +kernel) rfl, gt_mem (i := 622) (by decide +kernel) rfl, gt_mem (i := 623) (by decide +kernel) rfl, by decide, fun r hr => by cases hr; rfl⟩
theorem kX7_166 : KV RX7 166 0 mX0_countPieces 1 := ⟨oX0_countPieces, gt_mem (i := 625) (by decide +kernel) rfl, gt_mem (i := 626) (by decide +kernel) rfl, gt_mem (i := 627) (by decide +kernel) rfl, by decide, fun r hr => by cases hr; rfl⟩
theorem kX0_135 : KSN RX0 135 mX7_oneIf 1 := ⟨oX7_oneIf, ⟨"AggregateSplitter", by decide +kernel⟩, gt_mem (i := 586) (by decide +kernel) rfl⟩
theorem kL_103 : KV RL 103 7 mX7_pieceLength 2 := ⟨oX7_pieceLength, gt_mem (i := 630) (by decide +kernel) rfl, gt_mem (i := 631) (by decide +kernel) rfl, gt_mem (i := 632) (by decide +kernel) rfl, by decide, fun r hr => by cases hr; rfl⟩
theorem kX7_169 : KV RX7 169 0 mX0_lengthOfPiece 2 := ⟨oX0_lengthOfPiece, gt_mem (i := 634) (by decide +kernel) rfl, gt_mem (i := 635) (by decide +kernel) rfl, gt_mem (i := 636) (by decide +kernel) rfl, by decide, fun r hr => by cases hr; rfl⟩
theorem kL_107 : KV RL 107 7 mX7_scalarCount 0 := ⟨oX7_scalarCount, gt_mem (i := 638) (by decide +kernel) rfl, gt_mem (i := 639) (by decide +kernel) rfl, gt_mem (i := 640) (by decide +kernel) rfl, by decide, fun r hr => by cases hr; rfl⟩
theorem kX7_173 : KV RX7 173 3 mX3_countScalars 0 := ⟨oX3_countScalars, gt_mem (i := 642) (by decide +kernel) rfl, gt_mem (i := 643) (by decide +kernel) rfl, gt_mem (i := 644) (by decide +kernel) rfl, by decide, fun r hr => by cases hr; rfl⟩
theorem kX3_90 : KSN RX3 90 mX7_oneIf 1 := ⟨oX7_oneIf, ⟨"AggregateSplitter", by decide +kernel⟩, gt_mem (i := 586) (by decide +kernel) rfl⟩
theorem kL_111 : KV RL 111 7 mX7_liveBytes 0 := ⟨oX7_liveBytes, gt_mem (i := 647) (by decide +kernel) rfl, gt_mem (i := 648) (by decide +kernel) rfl, gt_mem (i := 649) (by decide +kernel) rfl, by decide, fun r hr => by cases hr; rfl⟩
theorem kX7_176 : KV RX7 176 3 mX3_countLiveBytes 0 := ⟨oX3_countLiveBytes, gt_mem (i := 651) (by decide +kernel) rfl, gt_mem (i := 652) (by decide +kernel) rfl, gt_mem (i := 653) (by decide +kernel) rfl, by decide, fun r hr => by cases hr; rfl⟩
theorem kL_115 : KV RL 115 7 mX7_trapPosition 0 := ⟨oX7_trapPosition, gt_mem (i := 655) (by decide +kernel) rfl, gt_mem (i := 656) (by decide +kernel) rfl, gt_mem (i := 657) (by decide +kernel) rfl, by decide, fun r hr => by cases hr; rfl⟩
theorem kX7_179 : KV RX7 179 7 mX7_runOf 1 := ⟨oX7_runOf, gt_mem (i := 659) (by decide +kernel) rfl, gt_mem (i := 661) (by decide +kernel) rfl, gt_mem (i := 13) (by decide +kernel) rfl, by decide, fun r hr => by cases hr; rfl⟩
theorem kX7_215 : KV RX7 215 6 mX6_execute 1 := ⟨oX6_execute, gt_mem (i := 663) (by decide +kernel) rfl, gt_mem (i := 664) (by decide +kernel) rfl, gt_mem (i := 665) (by decide +kernel) rfl, by decide, fun r hr => by cases hr; rfl⟩
theorem kX6_31 : KV RX6 31 6 mX6_clear 1 := ⟨oX6_clear, gt_mem (i := 667) (by decide +kernel) rfl, gt_mem (i := 669) (by decide +kernel) rfl, gt_mem (i := 14) (by decide +kernel) rfl, by decide, fun r hr => by cases hr; rfl⟩
theorem kX6_47 : KV RX6 47 5 mX5_at 1 := ⟨oX5_at, gt_mem (i := 671) (by decide +kernel) rfl, gt_mem (i := 445) (by decide +kernel) rfl, gt_mem (i := 446) (by decide +kernel) rfl, by decide, fun r hr => by cases hr; rfl⟩
theorem kX6_51 : KV RX6 51 6 mX6_perform 2 := ⟨oX6_perform, gt_mem (i := 672) (by decide +kernel) rfl, gt_mem (i := 674) (by decide +kernel) rfl, gt_mem (i := 15) (by decide +kernel) rfl, by decide, fun r hr => by cases hr; rfl⟩
theorem kX6_73 : KV RX6 73 6 mX6_store 1 := ⟨oX6_store, gt_mem (i := 676) (by decide +kernel) rfl, gt_mem (i := 678) (by decide +kernel) rfl, gt_mem (i := 16) (by decide +kernel) rfl, by decide, fun r hr => by cases hr; rfl⟩
theorem kX6_111 : KV RX6 111 0 mX0_target 2 := ⟨oX0_target, gt_mem (i := 680) (by decide +kernel) rfl, gt_mem (i := 564) (by decide +kernel) rfl, gt_mem (i := 565) (by decide +kernel) rfl, by decide, fun r hr => by cases hr; rfl⟩
theorem kX6_126 : KV RX6 126 6 mX6_priceOfAccess 1 := ⟨oX6_priceOfAccess, gt_mem (i := 681) (by decide +kernel) rfl, gt_mem (i := 683) (by decide +kernel) rfl, gt_mem (i := 17) (by decide +kernel) rfl, by decide, fun r hr => by cases hr; rfl⟩
theorem kX6_77 : KV RX6 77 6 mX6_load 1 := ⟨oX6_load, gt_mem (i := 685) (by decide +kernel) rfl, gt_mem (i := 687) (by decide +kernel) rfl, gt_mem (i := 18) (by decide +kernel) rfl, by decide, fun r hr => by cases hr; rfl⟩
theorem kX6_85 : KV RX6 85 6 mX6_copyLivePieces 2 := ⟨oX6_copyLivePieces, gt_mem (i := 689) (by decide +kernel) rfl, gt_mem (i := 691) (by decide +kernel) rfl, gt_mem (i := 19) (by decide +kernel) rfl, by decide, fun r hr => by cases hr; rfl⟩
theorem kX6_133 : KV RX6 133 6 mX6_moveBytes 3 := ⟨oX6_moveBytes, gt_mem (i := 693) (by decide +kernel) rfl, gt_mem (i := 695) (by decide +kernel) rfl, gt_mem (i := 20) (by decide +kernel) rfl, by decide, fun r hr => by cases hr; rfl⟩
theorem kX6_137 : KV RX6 137 0 mX0_origin 2 := ⟨oX0_origin, gt_mem (i := 697) (by decide +kernel) rfl, gt_mem (i := 573) (by decide +kernel) rfl, gt_mem (i := 574) (by decide +kernel) rfl, by decide, fun r hr => by cases hr; rfl⟩
theorem kX6_140 : KS RX6 140 mX6_priceOfPiece 3 := ⟨oX6_priceOfPiece, gt_mem (i := 698) (by decide +kernel) rfl, gt_mem (i := 699) (by decide +kernel) rfl⟩
theorem kX6_89 : KV RX6 89 6 mX6_copyWhole 1 := ⟨oX6_copyWhole, gt_mem (i := 701) (by decide +kernel) rfl, gt_mem (i := 703) (by decide +kernel) rfl, gt_mem (i := 21) (by decide +kernel) rfl, by decide, fun r hr => by cases hr; rfl⟩
theorem kX6_95 : KV RX6 95 6 mX6_escape 1 := ⟨oX6_escape, gt_mem (i := 705) (by decide +kernel) rfl, gt_mem (i := 707) (by decide +kernel) rfl, gt_mem (i := 22) (by decide +kernel) rfl, by decide, fun r hr => by cases hr; rfl⟩
theorem kX6_150 : KV RX6 150 5 mX5_sizeOf 1 := ⟨oX5_sizeOf, gt_mem (i := 709) (by decide +kernel) rfl, gt_mem (i := 369) (by decide +kernel) rfl, gt_mem (i := 370) (by decide +kernel) rfl, by decide, fun r hr => by cases hr; rfl⟩
theorem kX6_105 : KV RX6 105 6 mX6_add 2 := ⟨oX6_add, gt_mem (i := 710) (by decide +kernel) rfl, gt_mem (i := 712) (by decide +kernel) rfl, gt_mem (i := 23) (by decide +kernel) rfl, by decide, fun r hr => by cases hr; rfl⟩
theorem kX6_108 : KV RX6 108 6 mX6_output 1 := ⟨oX6_output, gt_mem (i := 714) (by decide +kernel) rfl, gt_mem (i := 716) (by decide +kernel) rfl, gt_mem (i := 24) (by decide +kernel) rfl, by decide, fun r hr => by cases hr; rfl⟩
theorem kL_119 : KV RL 119 7 mX7_outputCount 1 := ⟨oX7_outputCount, gt_mem (i := 718) (by decide +kernel) rfl, gt_mem (i := 719) (by decide +kernel) rfl, gt_mem (i := 720) (by decide +kernel) rfl, by decide, fun r hr => by cases hr; rfl⟩
theorem kX7_186 : KS RX7 186 mX7_isForm 1 := ⟨oX7_isForm, gt_mem (i := 722) (by decide +kernel) rfl, gt_mem (i := 723) (by decide +kernel) rfl⟩
theorem kL_123 : KV RL 123 7 mX7_outputAt 2 := ⟨oX7_outputAt, gt_mem (i := 725) (by decide +kernel) rfl, gt_mem (i := 726) (by decide +kernel) rfl, gt_mem (i := 727) (by decide +kernel) rfl, by decide, fun r hr => by cases hr; rfl⟩
theorem kX7_192 : KV RX7 192 6 mX6_outputOf 1 := ⟨oX6_outputOf, gt_mem (i := 729) (by decide +kernel) rfl, gt_mem (i := 730) (by decide +kernel) rfl, gt_mem (i := 731) (by decide +kernel) rfl, by decide, fun r hr => by cases hr; rfl⟩
theorem kL_127 : KV RL 127 7 mX7_checksum 1 := ⟨oX7_checksum, gt_mem (i := 733) (by decide +kernel) rfl, gt_mem (i := 734) (by decide +kernel) rfl, gt_mem (i := 735) (by decide +kernel) rfl, by decide, fun r hr => by cases hr; rfl⟩
theorem kL_131 : KV RL 131 7 mX7_cost 1 := ⟨oX7_cost, gt_mem (i := 737) (by decide +kernel) rfl, gt_mem (i := 738) (by decide +kernel) rfl, gt_mem (i := 739) (by decide +kernel) rfl, by decide, fun r hr => by cases hr; rfl⟩
theorem kL_12 : KI RL 12 mX8_init 0 := ⟨oX8_init, gt_mem (i := 743) (by decide +kernel) rfl, gt_mem (i := 744) (by decide +kernel) rfl, rfl, rfl⟩
theorem kX8_1 : Cond.methodLink RX8 1 objectInit ∈ gt := gt_mem (i := 746) (by decide +kernel) rfl
theorem kL_17 : KV RL 17 8 mX8_declareRecord 1 := ⟨oX8_declareRecord, gt_mem (i := 796) (by decide +kernel) rfl, gt_mem (i := 797) (by decide +kernel) rfl, gt_mem (i := 798) (by decide +kernel) rfl, by decide, fun r hr => by cases hr; rfl⟩
theorem kX8_48 : KS RX8 48 mX8_in 3 := ⟨oX8_in, gt_mem (i := 800) (by decide +kernel) rfl, gt_mem (i := 801) (by decide +kernel) rfl⟩
theorem kX8_56 : KV RX8 56 8 mX8_note 0 := ⟨oX8_note, gt_mem (i := 803) (by decide +kernel) rfl, gt_mem (i := 805) (by decide +kernel) rfl, gt_mem (i := 25) (by decide +kernel) rfl, by decide, fun r hr => by cases hr; rfl⟩
theorem kL_22 : KV RL 22 8 mX8_appendStore 4 := ⟨oX8_appendStore, gt_mem (i := 807) (by decide +kernel) rfl, gt_mem (i := 808) (by decide +kernel) rfl, gt_mem (i := 809) (by decide +kernel) rfl, by decide, fun r hr => by cases hr; rfl⟩
theorem kX8_59 : KS RX8 59 mX8_isWidth 1 := ⟨oX8_isWidth, gt_mem (i := 811) (by decide +kernel) rfl, gt_mem (i := 812) (by decide +kernel) rfl⟩
theorem kX8_62 : KV RX8 62 8 mX8_isRange 3 := ⟨oX8_isRange, gt_mem (i := 814) (by decide +kernel) rfl, gt_mem (i := 816) (by decide +kernel) rfl, gt_mem (i := 26) (by decide +kernel) rfl, by decide, fun r hr => by cases hr; rfl⟩
theorem kX8_52 : KV RX8 52 8 mX8_isRecord 1 := ⟨oX8_isRecord, gt_mem (i := 818) (by decide +kernel) rfl, gt_mem (i := 820) (by decide +kernel) rfl, gt_mem (i := 27) (by decide +kernel) rfl, by decide, fun r hr => by cases hr; rfl⟩
theorem kX8_65 : KS RX8 65 mX8_isRegister 1 := ⟨oX8_isRegister, gt_mem (i := 822) (by decide +kernel) rfl, gt_mem (i := 823) (by decide +kernel) rfl⟩
theorem kX8_68 : KV RX8 68 8 mX8_append 6 := ⟨oX8_append, gt_mem (i := 825) (by decide +kernel) rfl, gt_mem (i := 827) (by decide +kernel) rfl, gt_mem (i := 28) (by decide +kernel) rfl, by decide, fun r hr => by cases hr; rfl⟩
theorem kL_26 : KV RL 26 8 mX8_appendLoad 4 := ⟨oX8_appendLoad, gt_mem (i := 829) (by decide +kernel) rfl, gt_mem (i := 830) (by decide +kernel) rfl, gt_mem (i := 831) (by decide +kernel) rfl, by decide, fun r hr => by cases hr; rfl⟩
theorem kL_31 : KV RL 31 8 mX8_appendCopy 5 := ⟨oX8_appendCopy, gt_mem (i := 833) (by decide +kernel) rfl, gt_mem (i := 834) (by decide +kernel) rfl, gt_mem (i := 835) (by decide +kernel) rfl, by decide, fun r hr => by cases hr; rfl⟩
theorem kL_35 : KV RL 35 8 mX8_appendEscape 1 := ⟨oX8_appendEscape, gt_mem (i := 837) (by decide +kernel) rfl, gt_mem (i := 838) (by decide +kernel) rfl, gt_mem (i := 839) (by decide +kernel) rfl, by decide, fun r hr => by cases hr; rfl⟩
theorem kL_40 : KV RL 40 8 mX8_appendConstant 2 := ⟨oX8_appendConstant, gt_mem (i := 841) (by decide +kernel) rfl, gt_mem (i := 842) (by decide +kernel) rfl, gt_mem (i := 843) (by decide +kernel) rfl, by decide, fun r hr => by cases hr; rfl⟩
theorem kL_45 : KV RL 45 8 mX8_appendAdd 3 := ⟨oX8_appendAdd, gt_mem (i := 845) (by decide +kernel) rfl, gt_mem (i := 846) (by decide +kernel) rfl, gt_mem (i := 847) (by decide +kernel) rfl, by decide, fun r hr => by cases hr; rfl⟩
theorem kL_49 : KV RL 49 8 mX8_appendSkip 2 := ⟨oX8_appendSkip, gt_mem (i := 849) (by decide +kernel) rfl, gt_mem (i := 850) (by decide +kernel) rfl, gt_mem (i := 851) (by decide +kernel) rfl, by decide, fun r hr => by cases hr; rfl⟩
theorem kL_53 : KV RL 53 8 mX8_appendOutput 1 := ⟨oX8_appendOutput, gt_mem (i := 853) (by decide +kernel) rfl, gt_mem (i := 854) (by decide +kernel) rfl, gt_mem (i := 855) (by decide +kernel) rfl, by decide, fun r hr => by cases hr; rfl⟩
theorem kL_57 : KV RL 57 8 mX8_removeInstruction 1 := ⟨oX8_removeInstruction, gt_mem (i := 857) (by decide +kernel) rfl, gt_mem (i := 858) (by decide +kernel) rfl, gt_mem (i := 859) (by decide +kernel) rfl, by decide, fun r hr => by cases hr; rfl⟩
theorem kL_62 : KV RL 62 8 mX8_undo 0 := ⟨oX8_undo, gt_mem (i := 861) (by decide +kernel) rfl, gt_mem (i := 862) (by decide +kernel) rfl, gt_mem (i := 863) (by decide +kernel) rfl, by decide, fun r hr => by cases hr; rfl⟩
theorem kL_66 : KV RL 66 8 mX8_recordCount 0 := ⟨oX8_recordCount, gt_mem (i := 865) (by decide +kernel) rfl, gt_mem (i := 866) (by decide +kernel) rfl, gt_mem (i := 867) (by decide +kernel) rfl, by decide, fun r hr => by cases hr; rfl⟩
theorem kL_70 : KV RL 70 8 mX8_instructionCount 0 := ⟨oX8_instructionCount, gt_mem (i := 869) (by decide +kernel) rfl, gt_mem (i := 870) (by decide +kernel) rfl, gt_mem (i := 871) (by decide +kernel) rfl, by decide, fun r hr => by cases hr; rfl⟩
theorem kL_74 : KV RL 74 8 mX8_escapes 1 := ⟨oX8_escapes, gt_mem (i := 873) (by decide +kernel) rfl, gt_mem (i := 874) (by decide +kernel) rfl, gt_mem (i := 875) (by decide +kernel) rfl, by decide, fun r hr => by cases hr; rfl⟩
theorem kX8_90 : KV RX8 90 8 mX8_doesEscape 1 := ⟨oX8_doesEscape, gt_mem (i := 877) (by decide +kernel) rfl, gt_mem (i := 879) (by decide +kernel) rfl, gt_mem (i := 29) (by decide +kernel) rfl, by decide, fun r hr => by cases hr; rfl⟩
theorem kX8_72 : KV RX8 72 8 mX8_of 2 := ⟨oX8_of, gt_mem (i := 881) (by decide +kernel) rfl, gt_mem (i := 883) (by decide +kernel) rfl, gt_mem (i := 30) (by decide +kernel) rfl, by decide, fun r hr => by cases hr; rfl⟩
theorem kL_78 : KV RL 78 8 mX8_partitionCount 1 := ⟨oX8_partitionCount, gt_mem (i := 885) (by decide +kernel) rfl, gt_mem (i := 886) (by decide +kernel) rfl, gt_mem (i := 887) (by decide +kernel) rfl, by decide, fun r hr => by cases hr; rfl⟩
theorem kX8_106 : KV RX8 106 8 mX8_findParts 1 := ⟨oX8_findParts, gt_mem (i := 889) (by decide +kernel) rfl, gt_mem (i := 891) (by decide +kernel) rfl, gt_mem (i := 31) (by decide +kernel) rfl, by decide, fun r hr => by cases hr; rfl⟩
theorem kX8_100 : KV RX8 100 8 mX8_isParted 2 := ⟨oX8_isParted, gt_mem (i := 893) (by decide +kernel) rfl, gt_mem (i := 895) (by decide +kernel) rfl, gt_mem (i := 32) (by decide +kernel) rfl, by decide, fun r hr => by cases hr; rfl⟩
theorem kX8_86 : KV RX8 86 8 mX8_isAccessed 3 := ⟨oX8_isAccessed, gt_mem (i := 897) (by decide +kernel) rfl, gt_mem (i := 899) (by decide +kernel) rfl, gt_mem (i := 33) (by decide +kernel) rfl, by decide, fun r hr => by cases hr; rfl⟩
theorem kX8_76 : KV RX8 76 8 mX8_isAccess 1 := ⟨oX8_isAccess, gt_mem (i := 901) (by decide +kernel) rfl, gt_mem (i := 903) (by decide +kernel) rfl, gt_mem (i := 34) (by decide +kernel) rfl, by decide, fun r hr => by cases hr; rfl⟩
theorem kX8_79 : KS RX8 79 mX8_holds 3 := ⟨oX8_holds, gt_mem (i := 905) (by decide +kernel) rfl, gt_mem (i := 906) (by decide +kernel) rfl⟩
theorem kX8_93 : KV RX8 93 8 mX8_isSoft 2 := ⟨oX8_isSoft, gt_mem (i := 908) (by decide +kernel) rfl, gt_mem (i := 910) (by decide +kernel) rfl, gt_mem (i := 35) (by decide +kernel) rfl, by decide, fun r hr => by cases hr; rfl⟩
theorem kX8_82 : KV RX8 82 8 mX8_isCopied 4 := ⟨oX8_isCopied, gt_mem (i := 912) (by decide +kernel) rfl, gt_mem (i := 914) (by decide +kernel) rfl, gt_mem (i := 36) (by decide +kernel) rfl, by decide, fun r hr => by cases hr; rfl⟩
theorem kX8_103 : KV RX8 103 8 mX8_goesOn 2 := ⟨oX8_goesOn, gt_mem (i := 916) (by decide +kernel) rfl, gt_mem (i := 918) (by decide +kernel) rfl, gt_mem (i := 37) (by decide +kernel) rfl, by decide, fun r hr => by cases hr; rfl⟩
theorem kX8_97 : KV RX8 97 8 mX8_areCopiedAlike 2 := ⟨oX8_areCopiedAlike, gt_mem (i := 920) (by decide +kernel) rfl, gt_mem (i := 922) (by decide +kernel) rfl, gt_mem (i := 38) (by decide +kernel) rfl, by decide, fun r hr => by cases hr; rfl⟩
theorem kL_82 : KV RL 82 8 mX8_partitionStart 2 := ⟨oX8_partitionStart, gt_mem (i := 924) (by decide +kernel) rfl, gt_mem (i := 925) (by decide +kernel) rfl, gt_mem (i := 926) (by decide +kernel) rfl, by decide, fun r hr => by cases hr; rfl⟩
theorem kX8_141 : KV RX8 141 8 mX8_isPart 2 := ⟨oX8_isPart, gt_mem (i := 928) (by decide +kernel) rfl, gt_mem (i := 930) (by decide +kernel) rfl, gt_mem (i := 39) (by decide +kernel) rfl, by decide, fun r hr => by cases hr; rfl⟩
theorem kX8_138 : KV RX8 138 8 mX8_analyse 0 := ⟨oX8_analyse, gt_mem (i := 932) (by decide +kernel) rfl, gt_mem (i := 934) (by decide +kernel) rfl, gt_mem (i := 40) (by decide +kernel) rfl, by decide, fun r hr => by cases hr; rfl⟩
theorem kX8_129 : KV RX8 129 8 mX8_findAllParts 0 := ⟨oX8_findAllParts, gt_mem (i := 936) (by decide +kernel) rfl, gt_mem (i := 938) (by decide +kernel) rfl, gt_mem (i := 41) (by decide +kernel) rfl, by decide, fun r hr => by cases hr; rfl⟩
theorem kX8_132 : KV RX8 132 8 mX8_findPromotable 0 := ⟨oX8_findPromotable, gt_mem (i := 940) (by decide +kernel) rfl, gt_mem (i := 942) (by decide +kernel) rfl, gt_mem (i := 42) (by decide +kernel) rfl, by decide, fun r hr => by cases hr; rfl⟩
theorem kX8_119 : KV RX8 119 8 mX8_restrict 3 := ⟨oX8_restrict, gt_mem (i := 944) (by decide +kernel) rfl, gt_mem (i := 946) (by decide +kernel) rfl, gt_mem (i := 43) (by decide +kernel) rfl, by decide, fun r hr => by cases hr; rfl⟩
theorem kX8_110 : KV RX8 110 8 mX8_placeOf 2 := ⟨oX8_placeOf, gt_mem (i := 948) (by decide +kernel) rfl, gt_mem (i := 950) (by decide +kernel) rfl, gt_mem (i := 44) (by decide +kernel) rfl, by decide, fun r hr => by cases hr; rfl⟩
theorem kX8_123 : KV RX8 123 8 mX8_restrictPieces 1 := ⟨oX8_restrictPieces, gt_mem (i := 952) (by decide +kernel) rfl, gt_mem (i := 954) (by decide +kernel) rfl, gt_mem (i := 45) (by decide +kernel) rfl, by decide, fun r hr => by cases hr; rfl⟩
theorem kX8_116 : KV RX8 116 8 mX8_pieceAt 2 := ⟨oX8_pieceAt, gt_mem (i := 956) (by decide +kernel) rfl, gt_mem (i := 958) (by decide +kernel) rfl, gt_mem (i := 46) (by decide +kernel) rfl, by decide, fun r hr => by cases hr; rfl⟩
theorem kX8_113 : KV RX8 113 8 mX8_beginsAt 2 := ⟨oX8_beginsAt, gt_mem (i := 960) (by decide +kernel) rfl, gt_mem (i := 962) (by decide +kernel) rfl, gt_mem (i := 47) (by decide +kernel) rfl, by decide, fun r hr => by cases hr; rfl⟩
theorem kX8_135 : KV RX8 135 8 mX8_findLive 0 := ⟨oX8_findLive, gt_mem (i := 964) (by decide +kernel) rfl, gt_mem (i := 966) (by decide +kernel) rfl, gt_mem (i := 48) (by decide +kernel) rfl, by decide, fun r hr => by cases hr; rfl⟩
theorem kX8_126 : KV RX8 126 8 mX8_enliven 1 := ⟨oX8_enliven, gt_mem (i := 968) (by decide +kernel) rfl, gt_mem (i := 970) (by decide +kernel) rfl, gt_mem (i := 49) (by decide +kernel) rfl, by decide, fun r hr => by cases hr; rfl⟩
theorem kL_86 : KV RL 86 8 mX8_partitionLength 2 := ⟨oX8_partitionLength, gt_mem (i := 972) (by decide +kernel) rfl, gt_mem (i := 973) (by decide +kernel) rfl, gt_mem (i := 974) (by decide +kernel) rfl, by decide, fun r hr => by cases hr; rfl⟩
theorem kL_90 : KV RL 90 8 mX8_isPromotable 2 := ⟨oX8_isPromotable, gt_mem (i := 976) (by decide +kernel) rfl, gt_mem (i := 977) (by decide +kernel) rfl, gt_mem (i := 978) (by decide +kernel) rfl, by decide, fun r hr => by cases hr; rfl⟩
theorem kL_94 : KV RL 94 8 mX8_isLive 2 := ⟨oX8_isLive, gt_mem (i := 980) (by decide +kernel) rfl, gt_mem (i := 981) (by decide +kernel) rfl, gt_mem (i := 982) (by decide +kernel) rfl, by decide, fun r hr => by cases hr; rfl⟩
theorem kL_98 : KV RL 98 8 mX8_paddingBytes 1 := ⟨oX8_paddingBytes, gt_mem (i := 984) (by decide +kernel) rfl, gt_mem (i := 985) (by decide +kernel) rfl, gt_mem (i := 986) (by decide +kernel) rfl, by decide, fun r hr => by cases hr; rfl⟩
theorem kL_102 : KV RL 102 8 mX8_pieceCount 1 := ⟨oX8_pieceCount, gt_mem (i := 988) (by decide +kernel) rfl, gt_mem (i := 989) (by decide +kernel) rfl, gt_mem (i := 990) (by decide +kernel) rfl, by decide, fun r hr => by cases hr; rfl⟩
theorem kX8_144 : KV RX8 144 8 mX8_isCopy 1 := ⟨oX8_isCopy, gt_mem (i := 992) (by decide +kernel) rfl, gt_mem (i := 994) (by decide +kernel) rfl, gt_mem (i := 50) (by decide +kernel) rfl, by decide, fun r hr => by cases hr; rfl⟩
theorem kL_106 : KV RL 106 8 mX8_pieceLength 2 := ⟨oX8_pieceLength, gt_mem (i := 996) (by decide +kernel) rfl, gt_mem (i := 997) (by decide +kernel) rfl, gt_mem (i := 998) (by decide +kernel) rfl, by decide, fun r hr => by cases hr; rfl⟩
theorem kL_110 : KV RL 110 8 mX8_scalarCount 0 := ⟨oX8_scalarCount, gt_mem (i := 1000) (by decide +kernel) rfl, gt_mem (i := 1001) (by decide +kernel) rfl, gt_mem (i := 1002) (by decide +kernel) rfl, by decide, fun r hr => by cases hr; rfl⟩
theorem kL_114 : KV RL 114 8 mX8_liveBytes 0 := ⟨oX8_liveBytes, gt_mem (i := 1004) (by decide +kernel) rfl, gt_mem (i := 1005) (by decide +kernel) rfl, gt_mem (i := 1006) (by decide +kernel) rfl, by decide, fun r hr => by cases hr; rfl⟩
theorem kL_118 : KV RL 118 8 mX8_trapPosition 0 := ⟨oX8_trapPosition, gt_mem (i := 1008) (by decide +kernel) rfl, gt_mem (i := 1009) (by decide +kernel) rfl, gt_mem (i := 1010) (by decide +kernel) rfl, by decide, fun r hr => by cases hr; rfl⟩
theorem kX8_185 : KV RX8 185 8 mX8_runs 1 := ⟨oX8_runs, gt_mem (i := 1012) (by decide +kernel) rfl, gt_mem (i := 1014) (by decide +kernel) rfl, gt_mem (i := 51) (by decide +kernel) rfl, by decide, fun r hr => by cases hr; rfl⟩
theorem kX8_168 : KV RX8 168 8 mX8_executes 2 := ⟨oX8_executes, gt_mem (i := 1016) (by decide +kernel) rfl, gt_mem (i := 1018) (by decide +kernel) rfl, gt_mem (i := 52) (by decide +kernel) rfl, by decide, fun r hr => by cases hr; rfl⟩
theorem kX8_172 : KV RX8 172 8 mX8_access 2 := ⟨oX8_access, gt_mem (i := 1020) (by decide +kernel) rfl, gt_mem (i := 1022) (by decide +kernel) rfl, gt_mem (i := 53) (by decide +kernel) rfl, by decide, fun r hr => by cases hr; rfl⟩
theorem kX8_153 : KV RX8 153 8 mX8_load 1 := ⟨oX8_load, gt_mem (i := 1024) (by decide +kernel) rfl, gt_mem (i := 1026) (by decide +kernel) rfl, gt_mem (i := 54) (by decide +kernel) rfl, by decide, fun r hr => by cases hr; rfl⟩
theorem kX8_156 : KV RX8 156 8 mX8_store 1 := ⟨oX8_store, gt_mem (i := 1028) (by decide +kernel) rfl, gt_mem (i := 1030) (by decide +kernel) rfl, gt_mem (i := 55) (by decide +kernel) rfl, by decide, fun r hr => by cases hr; rfl⟩
theorem kX8_176 : KV RX8 176 8 mX8_copyPieces 1 := ⟨oX8_copyPieces, gt_mem (i := 1032) (by decide +kernel) rfl, gt_mem (i := 1034) (by decide +kernel) rfl, gt_mem (i := 56) (by decide +kernel) rfl, by decide, fun r hr => by cases hr; rfl⟩
theorem kX8_159 : KV RX8 159 8 mX8_copyBytes 3 := ⟨oX8_copyBytes, gt_mem (i := 1036) (by decide +kernel) rfl, gt_mem (i := 1038) (by decide +kernel) rfl, gt_mem (i := 57) (by decide +kernel) rfl, by decide, fun r hr => by cases hr; rfl⟩
theorem kX8_179 : KV RX8 179 8 mX8_escape 1 := ⟨oX8_escape, gt_mem (i := 1040) (by decide +kernel) rfl, gt_mem (i := 1042) (by decide +kernel) rfl, gt_mem (i := 58) (by decide +kernel) rfl, by decide, fun r hr => by cases hr; rfl⟩
theorem kX8_182 : KV RX8 182 8 mX8_adds 1 := ⟨oX8_adds, gt_mem (i := 1044) (by decide +kernel) rfl, gt_mem (i := 1046) (by decide +kernel) rfl, gt_mem (i := 59) (by decide +kernel) rfl, by decide, fun r hr => by cases hr; rfl⟩
theorem kL_122 : KV RL 122 8 mX8_outputCount 1 := ⟨oX8_outputCount, gt_mem (i := 1048) (by decide +kernel) rfl, gt_mem (i := 1049) (by decide +kernel) rfl, gt_mem (i := 1050) (by decide +kernel) rfl, by decide, fun r hr => by cases hr; rfl⟩
theorem kX8_189 : KS RX8 189 mX8_isProgram 1 := ⟨oX8_isProgram, gt_mem (i := 1052) (by decide +kernel) rfl, gt_mem (i := 1053) (by decide +kernel) rfl⟩
theorem kL_126 : KV RL 126 8 mX8_outputAt 2 := ⟨oX8_outputAt, gt_mem (i := 1055) (by decide +kernel) rfl, gt_mem (i := 1056) (by decide +kernel) rfl, gt_mem (i := 1057) (by decide +kernel) rfl, by decide, fun r hr => by cases hr; rfl⟩
theorem kL_130 : KV RL 130 8 mX8_checksum 1 := ⟨oX8_checksum, gt_mem (i := 1059) (by decide +kernel) rfl, gt_mem (i := 1060) (by decide +kernel) rfl, gt_mem (i := 1061) (by decide +kernel) rfl, by decide, fun r hr => by cases hr; rfl⟩
theorem kL_134 : KV RL 134 8 mX8_cost 1 := ⟨oX8_cost, gt_mem (i := 1063) (by decide +kernel) rfl, gt_mem (i := 1064) (by decide +kernel) rfl, gt_mem (i := 1065) (by decide +kernel) rfl, by decide, fun r hr => by cases hr; rfl⟩
theorem fX2_9 : FL RX2 9 2 0 := ⟨RX2, TX2, tyX2, 10, rfl, by decide, by decide, gt_mem (i := 92) (by decide +kernel) rfl, iX2, tyX2_ok, nmX2⟩
theorem wX2_9 : FF RX2 9 2 0 .int := ⟨fX2_9, fun C T N h => by cases h; exact ⟨rfl, rfl, by decide +kernel⟩⟩
theorem fX0_89 : FL RX0 89 2 0 := ⟨RX2, TX2, tyX2, 10, rfl, by decide, by decide, gt_mem (i := 93) (by decide +kernel) rfl, iX2, tyX2_ok, nmX2⟩
theorem fX6_68 : FL RX6 68 2 0 := ⟨RX2, TX2, tyX2, 10, rfl, by decide, by decide, gt_mem (i := 94) (by decide +kernel) rfl, iX2, tyX2_ok, nmX2⟩
theorem fX7_160 : FL RX7 160 2 0 := ⟨RX2, TX2, tyX2, 10, rfl, by decide, by decide, gt_mem (i := 95) (by decide +kernel) rfl, iX2, tyX2_ok, nmX2⟩
theorem fX2_27 : FL RX2 27 2 1 := ⟨RX2, TX2, tyX2, 10, rfl, by decide, by decide, gt_mem (i := 96) (by decide +kernel) rfl, iX2, tyX2_ok, nmX2⟩
theorem wX2_27 : FW RX2 27 2 1 .int := ⟨fX2_27, fun C T N h => by cases h; exact ⟨rfl, by decide +kernel⟩⟩
theorem fX6_99 : FL RX6 99 2 1 := ⟨RX2, TX2, tyX2, 10, rfl, by decide, by decide, gt_mem (i := 97) (by decide +kernel) rfl, iX2, tyX2_ok, nmX2⟩
theorem wX6_99 : FW RX6 99 2 1 .int := ⟨fX6_99, fun C T N h => by cases h; exact ⟨rfl, by decide +kernel⟩⟩
theorem fX2_18 : FL RX2 18 2 2 := ⟨RX2, TX2, tyX2, 10, rfl, by decide, by decide, gt_mem (i := 98) (by decide +kernel) rfl, iX2, tyX2_ok, nmX2⟩
theorem wX2_18 : FW RX2 18 2 2 .int := ⟨fX2_18, fun C T N h => by cases h; exact ⟨rfl, by decide +kernel⟩⟩
theorem fX0_66 : FL RX0 66 2 2 := ⟨RX2, TX2, tyX2, 10, rfl, by decide, by decide, gt_mem (i := 99) (by decide +kernel) rfl, iX2, tyX2_ok, nmX2⟩
theorem wX0_66 : FW RX0 66 2 2 .int := ⟨fX0_66, fun C T N h => by cases h; exact ⟨rfl, by decide +kernel⟩⟩
theorem fX6_92 : FL RX6 92 2 2 := ⟨RX2, TX2, tyX2, 10, rfl, by decide, by decide, gt_mem (i := 100) (by decide +kernel) rfl, iX2, tyX2_ok, nmX2⟩
theorem wX6_92 : FW RX6 92 2 2 .int := ⟨fX6_92, fun C T N h => by cases h; exact ⟨rfl, by decide +kernel⟩⟩
theorem fX2_21 : FL RX2 21 2 3 := ⟨RX2, TX2, tyX2, 10, rfl, by decide, by decide, gt_mem (i := 101) (by decide +kernel) rfl, iX2, tyX2_ok, nmX2⟩
theorem wX2_21 : FW RX2 21 2 3 .int := ⟨fX2_21, fun C T N h => by cases h; exact ⟨rfl, by decide +kernel⟩⟩
theorem fX0_79 : FL RX0 79 2 3 := ⟨RX2, TX2, tyX2, 10, rfl, by decide, by decide, gt_mem (i := 102) (by decide +kernel) rfl, iX2, tyX2_ok, nmX2⟩
theorem wX0_79 : FW RX0 79 2 3 .int := ⟨fX0_79, fun C T N h => by cases h; exact ⟨rfl, by decide +kernel⟩⟩
theorem fX6_123 : FL RX6 123 2 3 := ⟨RX2, TX2, tyX2, 10, rfl, by decide, by decide, gt_mem (i := 103) (by decide +kernel) rfl, iX2, tyX2_ok, nmX2⟩
theorem wX6_123 : FW RX6 123 2 3 .int := ⟨fX6_123, fun C T N h => by cases h; exact ⟨rfl, by decide +kernel⟩⟩
theorem fX2_24 : FL RX2 24 2 4 := ⟨RX2, TX2, tyX2, 10, rfl, by decide, by decide, gt_mem (i := 104) (by decide +kernel) rfl, iX2, tyX2_ok, nmX2⟩
theorem wX2_24 : FW RX2 24 2 4 .int := ⟨fX2_24, fun C T N h => by cases h; exact ⟨rfl, by decide +kernel⟩⟩
theorem fX0_82 : FL RX0 82 2 4 := ⟨RX2, TX2, tyX2, 10, rfl, by decide, by decide, gt_mem (i := 105) (by decide +kernel) rfl, iX2, tyX2_ok, nmX2⟩
theorem wX0_82 : FW RX0 82 2 4 .int := ⟨fX0_82, fun C T N h => by cases h; exact ⟨rfl, by decide +kernel⟩⟩
theorem fX6_120 : FL RX6 120 2 4 := ⟨RX2, TX2, tyX2, 10, rfl, by decide, by decide, gt_mem (i := 106) (by decide +kernel) rfl, iX2, tyX2_ok, nmX2⟩
theorem wX6_120 : FW RX6 120 2 4 .int := ⟨fX6_120, fun C T N h => by cases h; exact ⟨rfl, by decide +kernel⟩⟩
theorem fX2_30 : FL RX2 30 2 5 := ⟨RX2, TX2, tyX2, 10, rfl, by decide, by decide, gt_mem (i := 107) (by decide +kernel) rfl, iX2, tyX2_ok, nmX2⟩
theorem wX2_30 : FW RX2 30 2 5 .int := ⟨fX2_30, fun C T N h => by cases h; exact ⟨rfl, by decide +kernel⟩⟩
theorem fX0_99 : FL RX0 99 2 5 := ⟨RX2, TX2, tyX2, 10, rfl, by decide, by decide, gt_mem (i := 108) (by decide +kernel) rfl, iX2, tyX2_ok, nmX2⟩
theorem wX0_99 : FW RX0 99 2 5 .int := ⟨fX0_99, fun C T N h => by cases h; exact ⟨rfl, by decide +kernel⟩⟩
theorem fX6_144 : FL RX6 144 2 5 := ⟨RX2, TX2, tyX2, 10, rfl, by decide, by decide, gt_mem (i := 109) (by decide +kernel) rfl, iX2, tyX2_ok, nmX2⟩
theorem wX6_144 : FW RX6 144 2 5 .int := ⟨fX6_144, fun C T N h => by cases h; exact ⟨rfl, by decide +kernel⟩⟩
theorem fX2_33 : FL RX2 33 2 6 := ⟨RX2, TX2, tyX2, 10, rfl, by decide, by decide, gt_mem (i := 110) (by decide +kernel) rfl, iX2, tyX2_ok, nmX2⟩
theorem wX2_33 : FW RX2 33 2 6 .int := ⟨fX2_33, fun C T N h => by cases h; exact ⟨rfl, by decide +kernel⟩⟩
theorem fX0_102 : FL RX0 102 2 6 := ⟨RX2, TX2, tyX2, 10, rfl, by decide, by decide, gt_mem (i := 111) (by decide +kernel) rfl, iX2, tyX2_ok, nmX2⟩
theorem wX0_102 : FW RX0 102 2 6 .int := ⟨fX0_102, fun C T N h => by cases h; exact ⟨rfl, by decide +kernel⟩⟩
theorem fX6_147 : FL RX6 147 2 6 := ⟨RX2, TX2, tyX2, 10, rfl, by decide, by decide, gt_mem (i := 112) (by decide +kernel) rfl, iX2, tyX2_ok, nmX2⟩
theorem wX6_147 : FW RX6 147 2 6 .int := ⟨fX6_147, fun C T N h => by cases h; exact ⟨rfl, by decide +kernel⟩⟩
theorem fX2_36 : FL RX2 36 2 7 := ⟨RX2, TX2, tyX2, 10, rfl, by decide, by decide, gt_mem (i := 113) (by decide +kernel) rfl, iX2, tyX2_ok, nmX2⟩
theorem wX2_36 : FW RX2 36 2 7 .int := ⟨fX2_36, fun C T N h => by cases h; exact ⟨rfl, by decide +kernel⟩⟩
theorem fX6_154 : FL RX6 154 2 7 := ⟨RX2, TX2, tyX2, 10, rfl, by decide, by decide, gt_mem (i := 114) (by decide +kernel) rfl, iX2, tyX2_ok, nmX2⟩
theorem wX6_154 : FW RX6 154 2 7 .int := ⟨fX6_154, fun C T N h => by cases h; exact ⟨rfl, by decide +kernel⟩⟩
theorem fX2_39 : FL RX2 39 2 8 := ⟨RX2, TX2, tyX2, 10, rfl, by decide, by decide, gt_mem (i := 115) (by decide +kernel) rfl, iX2, tyX2_ok, nmX2⟩
theorem wX2_39 : FW RX2 39 2 8 .int := ⟨fX2_39, fun C T N h => by cases h; exact ⟨rfl, by decide +kernel⟩⟩
theorem fX6_157 : FL RX6 157 2 8 := ⟨RX2, TX2, tyX2, 10, rfl, by decide, by decide, gt_mem (i := 116) (by decide +kernel) rfl, iX2, tyX2_ok, nmX2⟩
theorem wX6_157 : FW RX6 157 2 8 .int := ⟨fX6_157, fun C T N h => by cases h; exact ⟨rfl, by decide +kernel⟩⟩
theorem fX6_102 : FL RX6 102 2 9 := ⟨RX2, TX2, tyX2, 10, rfl, by decide, by decide, gt_mem (i := 117) (by decide +kernel) rfl, iX2, tyX2_ok, nmX2⟩
theorem wX6_102 : FW RX6 102 2 9 .int := ⟨fX6_102, fun C T N h => by cases h; exact ⟨rfl, by decide +kernel⟩⟩
theorem fX2_42 : FL RX2 42 2 9 := ⟨RX2, TX2, tyX2, 10, rfl, by decide, by decide, gt_mem (i := 118) (by decide +kernel) rfl, iX2, tyX2_ok, nmX2⟩
theorem wX2_42 : FW RX2 42 2 9 .int := ⟨fX2_42, fun C T N h => by cases h; exact ⟨rfl, by decide +kernel⟩⟩
theorem fX5_9 : FL RX5 9 5 0 := ⟨RX5, TX5, tyX5, 5, rfl, by decide, by decide, gt_mem (i := 141) (by decide +kernel) rfl, iX5, tyX5_ok, nmX5⟩
theorem wX5_9 : FF RX5 9 5 0 (.array .int) := ⟨fX5_9, fun C T N h => by cases h; exact ⟨rfl, rfl, by decide +kernel⟩⟩
theorem fX5_17 : FL RX5 17 5 1 := ⟨RX5, TX5, tyX5, 5, rfl, by decide, by decide, gt_mem (i := 142) (by decide +kernel) rfl, iX5, tyX5_ok, nmX5⟩
theorem wX5_17 : FF RX5 17 5 1 (.array (.object "AggregateSplitter$Instruction")) := ⟨fX5_17, fun C T N h => by cases h; exact ⟨rfl, rfl, by decide +kernel⟩⟩
theorem fX5_24 : FL RX5 24 5 2 := ⟨RX5, TX5, tyX5, 5, rfl, by decide, by decide, gt_mem (i := 143) (by decide +kernel) rfl, iX5, tyX5_ok, nmX5⟩
theorem wX5_24 : FF RX5 24 5 2 (.object "AggregateSplitter$Instruction") := ⟨fX5_24, fun C T N h => by cases h; exact ⟨rfl, rfl, by decide +kernel⟩⟩
theorem fX7_47 : FL RX7 47 5 2 := ⟨RX5, TX5, tyX5, 5, rfl, by decide, by decide, gt_mem (i := 144) (by decide +kernel) rfl, iX5, tyX5_ok, nmX5⟩
theorem fX5_28 : FL RX5 28 5 3 := ⟨RX5, TX5, tyX5, 5, rfl, by decide, by decide, gt_mem (i := 145) (by decide +kernel) rfl, iX5, tyX5_ok, nmX5⟩
theorem wX5_28 : FW RX5 28 5 3 .int := ⟨fX5_28, fun C T N h => by cases h; exact ⟨rfl, by decide +kernel⟩⟩
theorem fX7_39 : FL RX7 39 5 3 := ⟨RX5, TX5, tyX5, 5, rfl, by decide, by decide, gt_mem (i := 146) (by decide +kernel) rfl, iX5, tyX5_ok, nmX5⟩
theorem wX7_39 : FW RX7 39 5 3 .int := ⟨fX7_39, fun C T N h => by cases h; exact ⟨rfl, by decide +kernel⟩⟩
theorem fX6_35 : FL RX6 35 5 4 := ⟨RX5, TX5, tyX5, 5, rfl, by decide, by decide, gt_mem (i := 147) (by decide +kernel) rfl, iX5, tyX5_ok, nmX5⟩
theorem wX6_35 : FW RX6 35 5 4 .int := ⟨fX6_35, fun C T N h => by cases h; exact ⟨rfl, by decide +kernel⟩⟩
theorem fX5_32 : FL RX5 32 5 4 := ⟨RX5, TX5, tyX5, 5, rfl, by decide, by decide, gt_mem (i := 148) (by decide +kernel) rfl, iX5, tyX5_ok, nmX5⟩
theorem wX5_32 : FW RX5 32 5 4 .int := ⟨fX5_32, fun C T N h => by cases h; exact ⟨rfl, by decide +kernel⟩⟩
theorem fX0_41 : FL RX0 41 5 4 := ⟨RX5, TX5, tyX5, 5, rfl, by decide, by decide, gt_mem (i := 149) (by decide +kernel) rfl, iX5, tyX5_ok, nmX5⟩
theorem wX0_41 : FW RX0 41 5 4 .int := ⟨fX0_41, fun C T N h => by cases h; exact ⟨rfl, by decide +kernel⟩⟩
theorem fX7_112 : FL RX7 112 5 4 := ⟨RX5, TX5, tyX5, 5, rfl, by decide, by decide, gt_mem (i := 150) (by decide +kernel) rfl, iX5, tyX5_ok, nmX5⟩
theorem wX7_112 : FW RX7 112 5 4 .int := ⟨fX7_112, fun C T N h => by cases h; exact ⟨rfl, by decide +kernel⟩⟩
theorem fX1_9 : FL RX1 9 1 0 := ⟨RX1, TX1, tyX1, 5, rfl, by decide, by decide, gt_mem (i := 169) (by decide +kernel) rfl, iX1, tyX1_ok, nmX1⟩
theorem wX1_9 : FF RX1 9 1 0 (.array .int) := ⟨fX1_9, fun C T N h => by cases h; exact ⟨rfl, rfl, by decide +kernel⟩⟩
theorem fX1_15 : FL RX1 15 1 1 := ⟨RX1, TX1, tyX1, 5, rfl, by decide, by decide, gt_mem (i := 170) (by decide +kernel) rfl, iX1, tyX1_ok, nmX1⟩
theorem wX1_15 : FF RX1 15 1 1 (.array .int) := ⟨fX1_15, fun C T N h => by cases h; exact ⟨rfl, rfl, by decide +kernel⟩⟩
theorem fX1_20 : FL RX1 20 1 2 := ⟨RX1, TX1, tyX1, 5, rfl, by decide, by decide, gt_mem (i := 171) (by decide +kernel) rfl, iX1, tyX1_ok, nmX1⟩
theorem wX1_20 : FF RX1 20 1 2 (.array (.object "AggregateSplitter$Instruction")) := ⟨fX1_20, fun C T N h => by cases h; exact ⟨rfl, rfl, by decide +kernel⟩⟩
theorem fX1_24 : FL RX1 24 1 3 := ⟨RX1, TX1, tyX1, 5, rfl, by decide, by decide, gt_mem (i := 172) (by decide +kernel) rfl, iX1, tyX1_ok, nmX1⟩
theorem wX1_24 : FW RX1 24 1 3 .int := ⟨fX1_24, fun C T N h => by cases h; exact ⟨rfl, by decide +kernel⟩⟩
theorem fX1_28 : FL RX1 28 1 4 := ⟨RX1, TX1, tyX1, 5, rfl, by decide, by decide, gt_mem (i := 173) (by decide +kernel) rfl, iX1, tyX1_ok, nmX1⟩
theorem wX1_28 : FW RX1 28 1 4 .int := ⟨fX1_28, fun C T N h => by cases h; exact ⟨rfl, by decide +kernel⟩⟩
theorem fX7_115 : FL RX7 115 1 4 := ⟨RX1, TX1, tyX1, 5, rfl, by decide, by decide, gt_mem (i := 174) (by decide +kernel) rfl, iX1, tyX1_ok, nmX1⟩
theorem wX7_115 : FW RX7 115 1 4 .int := ⟨fX7_115, fun C T N h => by cases h; exact ⟨rfl, by decide +kernel⟩⟩
theorem fX4_7 : FL RX4 7 4 0 := ⟨RX4, TX4, tyX4, 4, rfl, by decide, by decide, gt_mem (i := 206) (by decide +kernel) rfl, iX4, tyX4_ok, nmX4⟩
theorem wX4_7 : FW RX4 7 4 0 .int := ⟨fX4_7, fun C T N h => by cases h; exact ⟨rfl, by decide +kernel⟩⟩
theorem fX3_81 : FL RX3 81 4 0 := ⟨RX4, TX4, tyX4, 4, rfl, by decide, by decide, gt_mem (i := 207) (by decide +kernel) rfl, iX4, tyX4_ok, nmX4⟩
theorem wX3_81 : FW RX3 81 4 0 .int := ⟨fX3_81, fun C T N h => by cases h; exact ⟨rfl, by decide +kernel⟩⟩
theorem fX7_147 : FL RX7 147 4 0 := ⟨RX4, TX4, tyX4, 4, rfl, by decide, by decide, gt_mem (i := 208) (by decide +kernel) rfl, iX4, tyX4_ok, nmX4⟩
theorem wX7_147 : FW RX7 147 4 0 .int := ⟨fX7_147, fun C T N h => by cases h; exact ⟨rfl, by decide +kernel⟩⟩
theorem fX4_13 : FL RX4 13 4 1 := ⟨RX4, TX4, tyX4, 4, rfl, by decide, by decide, gt_mem (i := 209) (by decide +kernel) rfl, iX4, tyX4_ok, nmX4⟩
theorem wX4_13 : FW RX4 13 4 1 .int := ⟨fX4_13, fun C T N h => by cases h; exact ⟨rfl, by decide +kernel⟩⟩
theorem fX3_78 : FL RX3 78 4 1 := ⟨RX4, TX4, tyX4, 4, rfl, by decide, by decide, gt_mem (i := 210) (by decide +kernel) rfl, iX4, tyX4_ok, nmX4⟩
theorem wX3_78 : FW RX3 78 4 1 .int := ⟨fX3_78, fun C T N h => by cases h; exact ⟨rfl, by decide +kernel⟩⟩
theorem fX7_142 : FL RX7 142 4 1 := ⟨RX4, TX4, tyX4, 4, rfl, by decide, by decide, gt_mem (i := 211) (by decide +kernel) rfl, iX4, tyX4_ok, nmX4⟩
theorem wX7_142 : FW RX7 142 4 1 .int := ⟨fX7_142, fun C T N h => by cases h; exact ⟨rfl, by decide +kernel⟩⟩
theorem fX4_26 : FL RX4 26 4 2 := ⟨RX4, TX4, tyX4, 4, rfl, by decide, by decide, gt_mem (i := 212) (by decide +kernel) rfl, iX4, tyX4_ok, nmX4⟩
theorem wX4_26 : FW RX4 26 4 2 .boolean := ⟨fX4_26, fun C T N h => by cases h; exact ⟨rfl, by decide +kernel⟩⟩
theorem fX6_130 : FL RX6 130 4 2 := ⟨RX4, TX4, tyX4, 4, rfl, by decide, by decide, gt_mem (i := 213) (by decide +kernel) rfl, iX4, tyX4_ok, nmX4⟩
theorem wX6_130 : FW RX6 130 4 2 .boolean := ⟨fX6_130, fun C T N h => by cases h; exact ⟨rfl, by decide +kernel⟩⟩
theorem fX3_87 : FL RX3 87 4 2 := ⟨RX4, TX4, tyX4, 4, rfl, by decide, by decide, gt_mem (i := 214) (by decide +kernel) rfl, iX4, tyX4_ok, nmX4⟩
theorem wX3_87 : FW RX3 87 4 2 .boolean := ⟨fX3_87, fun C T N h => by cases h; exact ⟨rfl, by decide +kernel⟩⟩
theorem fX7_150 : FL RX7 150 4 2 := ⟨RX4, TX4, tyX4, 4, rfl, by decide, by decide, gt_mem (i := 215) (by decide +kernel) rfl, iX4, tyX4_ok, nmX4⟩
theorem wX7_150 : FW RX7 150 4 2 .boolean := ⟨fX7_150, fun C T N h => by cases h; exact ⟨rfl, by decide +kernel⟩⟩
theorem fX4_16 : FL RX4 16 4 3 := ⟨RX4, TX4, tyX4, 4, rfl, by decide, by decide, gt_mem (i := 216) (by decide +kernel) rfl, iX4, tyX4_ok, nmX4⟩
theorem wX4_16 : FW RX4 16 4 3 .boolean := ⟨fX4_16, fun C T N h => by cases h; exact ⟨rfl, by decide +kernel⟩⟩
theorem fX6_115 : FL RX6 115 4 3 := ⟨RX4, TX4, tyX4, 4, rfl, by decide, by decide, gt_mem (i := 217) (by decide +kernel) rfl, iX4, tyX4_ok, nmX4⟩
theorem wX6_115 : FW RX6 115 4 3 .boolean := ⟨fX6_115, fun C T N h => by cases h; exact ⟨rfl, by decide +kernel⟩⟩
theorem fX0_122 : FL RX0 122 4 3 := ⟨RX4, TX4, tyX4, 4, rfl, by decide, by decide, gt_mem (i := 218) (by decide +kernel) rfl, iX4, tyX4_ok, nmX4⟩
theorem wX0_122 : FW RX0 122 4 3 .boolean := ⟨fX0_122, fun C T N h => by cases h; exact ⟨rfl, by decide +kernel⟩⟩
theorem fX3_84 : FL RX3 84 4 3 := ⟨RX4, TX4, tyX4, 4, rfl, by decide, by decide, gt_mem (i := 219) (by decide +kernel) rfl, iX4, tyX4_ok, nmX4⟩
theorem wX3_84 : FW RX3 84 4 3 .boolean := ⟨fX3_84, fun C T N h => by cases h; exact ⟨rfl, by decide +kernel⟩⟩
theorem fX7_153 : FL RX7 153 4 3 := ⟨RX4, TX4, tyX4, 4, rfl, by decide, by decide, gt_mem (i := 220) (by decide +kernel) rfl, iX4, tyX4_ok, nmX4⟩
theorem wX7_153 : FW RX7 153 4 3 .boolean := ⟨fX7_153, fun C T N h => by cases h; exact ⟨rfl, by decide +kernel⟩⟩
theorem fX3_11 : FL RX3 11 3 0 := ⟨RX3, TX3, tyX3, 9, rfl, by decide, by decide, gt_mem (i := 230) (by decide +kernel) rfl, iX3, tyX3_ok, nmX3⟩
theorem wX3_11 : FF RX3 11 3 0 (.array (.object "AggregateSplitter$Partition")) := ⟨fX3_11, fun C T N h => by cases h; exact ⟨rfl, rfl, by decide +kernel⟩⟩
theorem fX3_18 : FL RX3 18 3 1 := ⟨RX3, TX3, tyX3, 9, rfl, by decide, by decide, gt_mem (i := 231) (by decide +kernel) rfl, iX3, tyX3_ok, nmX3⟩
theorem wX3_18 : FF RX3 18 3 1 (.object "AggregateSplitter$Partition") := ⟨fX3_18, fun C T N h => by cases h; exact ⟨rfl, rfl, by decide +kernel⟩⟩
theorem fX3_22 : FL RX3 22 3 2 := ⟨RX3, TX3, tyX3, 9, rfl, by decide, by decide, gt_mem (i := 232) (by decide +kernel) rfl, iX3, tyX3_ok, nmX3⟩
theorem wX3_22 : FF RX3 22 3 2 (.array (.object "AggregateSplitter$Partition")) := ⟨fX3_22, fun C T N h => by cases h; exact ⟨rfl, rfl, by decide +kernel⟩⟩
theorem fX3_25 : FL RX3 25 3 3 := ⟨RX3, TX3, tyX3, 9, rfl, by decide, by decide, gt_mem (i := 233) (by decide +kernel) rfl, iX3, tyX3_ok, nmX3⟩
theorem wX3_25 : FF RX3 25 3 3 (.array .boolean) := ⟨fX3_25, fun C T N h => by cases h; exact ⟨rfl, rfl, by decide +kernel⟩⟩
theorem fX3_29 : FL RX3 29 3 4 := ⟨RX3, TX3, tyX3, 9, rfl, by decide, by decide, gt_mem (i := 234) (by decide +kernel) rfl, iX3, tyX3_ok, nmX3⟩
theorem wX3_29 : FF RX3 29 3 4 (.array .boolean) := ⟨fX3_29, fun C T N h => by cases h; exact ⟨rfl, rfl, by decide +kernel⟩⟩
theorem fX3_32 : FL RX3 32 3 5 := ⟨RX3, TX3, tyX3, 9, rfl, by decide, by decide, gt_mem (i := 235) (by decide +kernel) rfl, iX3, tyX3_ok, nmX3⟩
theorem wX3_32 : FF RX3 32 3 5 (.array .long) := ⟨fX3_32, fun C T N h => by cases h; exact ⟨rfl, rfl, by decide +kernel⟩⟩
theorem fX3_42 : FL RX3 42 3 6 := ⟨RX3, TX3, tyX3, 9, rfl, by decide, by decide, gt_mem (i := 236) (by decide +kernel) rfl, iX3, tyX3_ok, nmX3⟩
theorem wX3_42 : FW RX3 42 3 6 .int := ⟨fX3_42, fun C T N h => by cases h; exact ⟨rfl, by decide +kernel⟩⟩
theorem fX3_46 : FL RX3 46 3 7 := ⟨RX3, TX3, tyX3, 9, rfl, by decide, by decide, gt_mem (i := 237) (by decide +kernel) rfl, iX3, tyX3_ok, nmX3⟩
theorem wX3_46 : FW RX3 46 3 7 .int := ⟨fX3_46, fun C T N h => by cases h; exact ⟨rfl, by decide +kernel⟩⟩
theorem fX7_135 : FL RX7 135 3 7 := ⟨RX3, TX3, tyX3, 9, rfl, by decide, by decide, gt_mem (i := 238) (by decide +kernel) rfl, iX3, tyX3_ok, nmX3⟩
theorem wX7_135 : FW RX7 135 3 7 .int := ⟨fX7_135, fun C T N h => by cases h; exact ⟨rfl, by decide +kernel⟩⟩
theorem fX3_49 : FL RX3 49 3 8 := ⟨RX3, TX3, tyX3, 9, rfl, by decide, by decide, gt_mem (i := 239) (by decide +kernel) rfl, iX3, tyX3_ok, nmX3⟩
theorem wX3_49 : FW RX3 49 3 8 .boolean := ⟨fX3_49, fun C T N h => by cases h; exact ⟨rfl, by decide +kernel⟩⟩
theorem fX0_92 : FL RX0 92 3 8 := ⟨RX3, TX3, tyX3, 9, rfl, by decide, by decide, gt_mem (i := 240) (by decide +kernel) rfl, iX3, tyX3_ok, nmX3⟩
theorem wX0_92 : FW RX0 92 3 8 .boolean := ⟨fX0_92, fun C T N h => by cases h; exact ⟨rfl, by decide +kernel⟩⟩
theorem fX7_126 : FL RX7 126 3 8 := ⟨RX3, TX3, tyX3, 9, rfl, by decide, by decide, gt_mem (i := 241) (by decide +kernel) rfl, iX3, tyX3_ok, nmX3⟩
theorem wX7_126 : FW RX7 126 3 8 .boolean := ⟨fX7_126, fun C T N h => by cases h; exact ⟨rfl, by decide +kernel⟩⟩
theorem fX0_11 : FL RX0 11 0 0 := ⟨RX0, TX0, tyX0, 4, rfl, by decide, by decide, gt_mem (i := 265) (by decide +kernel) rfl, iX0, tyX0_ok, nmX0⟩
theorem wX0_11 : FF RX0 11 0 0 (.array (.object "AggregateSplitter$Layout")) := ⟨fX0_11, fun C T N h => by cases h; exact ⟨rfl, rfl, by decide +kernel⟩⟩
theorem fX0_18 : FL RX0 18 0 1 := ⟨RX0, TX0, tyX0, 4, rfl, by decide, by decide, gt_mem (i := 266) (by decide +kernel) rfl, iX0, tyX0_ok, nmX0⟩
theorem wX0_18 : FF RX0 18 0 1 (.object "AggregateSplitter$Layout") := ⟨fX0_18, fun C T N h => by cases h; exact ⟨rfl, rfl, by decide +kernel⟩⟩
theorem fX0_24 : FL RX0 24 0 2 := ⟨RX0, TX0, tyX0, 4, rfl, by decide, by decide, gt_mem (i := 267) (by decide +kernel) rfl, iX0, tyX0_ok, nmX0⟩
theorem wX0_24 : FF RX0 24 0 2 (.array (.array .int)) := ⟨fX0_24, fun C T N h => by cases h; exact ⟨rfl, rfl, by decide +kernel⟩⟩
theorem fX6_80 : FL RX6 80 0 2 := ⟨RX0, TX0, tyX0, 4, rfl, by decide, by decide, gt_mem (i := 268) (by decide +kernel) rfl, iX0, tyX0_ok, nmX0⟩
theorem fX0_27 : FL RX0 27 0 3 := ⟨RX0, TX0, tyX0, 4, rfl, by decide, by decide, gt_mem (i := 269) (by decide +kernel) rfl, iX0, tyX0_ok, nmX0⟩
theorem wX0_27 : FW RX0 27 0 3 .boolean := ⟨fX0_27, fun C T N h => by cases h; exact ⟨rfl, by decide +kernel⟩⟩
theorem fX7_55 : FL RX7 55 0 3 := ⟨RX0, TX0, tyX0, 4, rfl, by decide, by decide, gt_mem (i := 270) (by decide +kernel) rfl, iX0, tyX0_ok, nmX0⟩
theorem wX7_55 : FW RX7 55 0 3 .boolean := ⟨fX7_55, fun C T N h => by cases h; exact ⟨rfl, by decide +kernel⟩⟩
theorem fX6_23 : FL RX6 23 6 0 := ⟨RX6, TX6, tyX6, 11, rfl, by decide, by decide, gt_mem (i := 287) (by decide +kernel) rfl, iX6, tyX6_ok, nmX6⟩
theorem wX6_23 : FF RX6 23 6 0 (.object "AggregateSplitter$Program") := ⟨fX6_23, fun C T N h => by cases h; exact ⟨rfl, rfl, by decide +kernel⟩⟩
theorem fX6_27 : FL RX6 27 6 1 := ⟨RX6, TX6, tyX6, 11, rfl, by decide, by decide, gt_mem (i := 288) (by decide +kernel) rfl, iX6, tyX6_ok, nmX6⟩
theorem wX6_27 : FF RX6 27 6 1 (.object "AggregateSplitter$Analysis") := ⟨fX6_27, fun C T N h => by cases h; exact ⟨rfl, rfl, by decide +kernel⟩⟩
theorem fX6_9 : FL RX6 9 6 2 := ⟨RX6, TX6, tyX6, 11, rfl, by decide, by decide, gt_mem (i := 289) (by decide +kernel) rfl, iX6, tyX6_ok, nmX6⟩
theorem wX6_9 : FF RX6 9 6 2 (.array .int) := ⟨fX6_9, fun C T N h => by cases h; exact ⟨rfl, rfl, by decide +kernel⟩⟩
theorem fX6_17 : FL RX6 17 6 3 := ⟨RX6, TX6, tyX6, 11, rfl, by decide, by decide, gt_mem (i := 290) (by decide +kernel) rfl, iX6, tyX6_ok, nmX6⟩
theorem wX6_17 : FF RX6 17 6 3 (.array (.array .int)) := ⟨fX6_17, fun C T N h => by cases h; exact ⟨rfl, rfl, by decide +kernel⟩⟩
theorem fX6_20 : FL RX6 20 6 4 := ⟨RX6, TX6, tyX6, 11, rfl, by decide, by decide, gt_mem (i := 291) (by decide +kernel) rfl, iX6, tyX6_ok, nmX6⟩
theorem wX6_20 : FF RX6 20 6 4 (.array .int) := ⟨fX6_20, fun C T N h => by cases h; exact ⟨rfl, rfl, by decide +kernel⟩⟩
theorem fX6_58 : FL RX6 58 6 5 := ⟨RX6, TX6, tyX6, 11, rfl, by decide, by decide, gt_mem (i := 292) (by decide +kernel) rfl, iX6, tyX6_ok, nmX6⟩
theorem wX6_58 : FW RX6 58 6 5 .boolean := ⟨fX6_58, fun C T N h => by cases h; exact ⟨rfl, by decide +kernel⟩⟩
theorem fX6_55 : FL RX6 55 6 6 := ⟨RX6, TX6, tyX6, 11, rfl, by decide, by decide, gt_mem (i := 293) (by decide +kernel) rfl, iX6, tyX6_ok, nmX6⟩
theorem wX6_55 : FW RX6 55 6 6 .int := ⟨fX6_55, fun C T N h => by cases h; exact ⟨rfl, by decide +kernel⟩⟩
theorem fX7_189 : FL RX7 189 6 6 := ⟨RX6, TX6, tyX6, 11, rfl, by decide, by decide, gt_mem (i := 294) (by decide +kernel) rfl, iX6, tyX6_ok, nmX6⟩
theorem wX7_189 : FW RX7 189 6 6 .int := ⟨fX7_189, fun C T N h => by cases h; exact ⟨rfl, by decide +kernel⟩⟩
theorem fX6_62 : FL RX6 62 6 7 := ⟨RX6, TX6, tyX6, 11, rfl, by decide, by decide, gt_mem (i := 295) (by decide +kernel) rfl, iX6, tyX6_ok, nmX6⟩
theorem wX6_62 : FW RX6 62 6 7 .int := ⟨fX6_62, fun C T N h => by cases h; exact ⟨rfl, by decide +kernel⟩⟩
theorem fX7_195 : FL RX7 195 6 7 := ⟨RX6, TX6, tyX6, 11, rfl, by decide, by decide, gt_mem (i := 296) (by decide +kernel) rfl, iX6, tyX6_ok, nmX6⟩
theorem wX7_195 : FW RX7 195 6 7 .int := ⟨fX7_195, fun C T N h => by cases h; exact ⟨rfl, by decide +kernel⟩⟩
theorem fX6_65 : FL RX6 65 6 8 := ⟨RX6, TX6, tyX6, 11, rfl, by decide, by decide, gt_mem (i := 297) (by decide +kernel) rfl, iX6, tyX6_ok, nmX6⟩
theorem wX6_65 : FW RX6 65 6 8 .int := ⟨fX6_65, fun C T N h => by cases h; exact ⟨rfl, by decide +kernel⟩⟩
theorem fX7_198 : FL RX7 198 6 8 := ⟨RX6, TX6, tyX6, 11, rfl, by decide, by decide, gt_mem (i := 298) (by decide +kernel) rfl, iX6, tyX6_ok, nmX6⟩
theorem wX7_198 : FW RX7 198 6 8 .int := ⟨fX7_198, fun C T N h => by cases h; exact ⟨rfl, by decide +kernel⟩⟩
theorem fX6_41 : FL RX6 41 6 9 := ⟨RX6, TX6, tyX6, 11, rfl, by decide, by decide, gt_mem (i := 299) (by decide +kernel) rfl, iX6, tyX6_ok, nmX6⟩
theorem wX6_41 : FW RX6 41 6 9 .int := ⟨fX6_41, fun C T N h => by cases h; exact ⟨rfl, by decide +kernel⟩⟩
theorem fX7_183 : FL RX7 183 6 9 := ⟨RX6, TX6, tyX6, 11, rfl, by decide, by decide, gt_mem (i := 300) (by decide +kernel) rfl, iX6, tyX6_ok, nmX6⟩
theorem wX7_183 : FW RX7 183 6 9 .int := ⟨fX7_183, fun C T N h => by cases h; exact ⟨rfl, by decide +kernel⟩⟩
theorem fX6_44 : FL RX6 44 6 10 := ⟨RX6, TX6, tyX6, 11, rfl, by decide, by decide, gt_mem (i := 301) (by decide +kernel) rfl, iX6, tyX6_ok, nmX6⟩
theorem wX6_44 : FW RX6 44 6 10 .int := ⟨fX6_44, fun C T N h => by cases h; exact ⟨rfl, by decide +kernel⟩⟩
theorem fX7_10 : FL RX7 10 7 0 := ⟨RX7, TX7, tyX7, 4, rfl, by decide, by decide, gt_mem (i := 325) (by decide +kernel) rfl, iX7, tyX7_ok, nmX7⟩
theorem wX7_10 : FF RX7 10 7 0 (.object "AggregateSplitter$Program") := ⟨fX7_10, fun C T N h => by cases h; exact ⟨rfl, rfl, by decide +kernel⟩⟩
theorem fX7_19 : FL RX7 19 7 1 := ⟨RX7, TX7, tyX7, 4, rfl, by decide, by decide, gt_mem (i := 326) (by decide +kernel) rfl, iX7, tyX7_ok, nmX7⟩
theorem wX7_19 : FF RX7 19 7 1 (.object "AggregateSplitter$History") := ⟨fX7_19, fun C T N h => by cases h; exact ⟨rfl, rfl, by decide +kernel⟩⟩
theorem fX7_26 : FL RX7 26 7 2 := ⟨RX7, TX7, tyX7, 4, rfl, by decide, by decide, gt_mem (i := 327) (by decide +kernel) rfl, iX7, tyX7_ok, nmX7⟩
theorem wX7_26 : FF RX7 26 7 2 (.object "AggregateSplitter$Analysis") := ⟨fX7_26, fun C T N h => by cases h; exact ⟨rfl, rfl, by decide +kernel⟩⟩
theorem fX7_35 : FL RX7 35 7 3 := ⟨RX7, TX7, tyX7, 4, rfl, by decide, by decide, gt_mem (i := 328) (by decide +kernel) rfl, iX7, tyX7_ok, nmX7⟩
theorem wX7_35 : FF RX7 35 7 3 (.object "AggregateSplitter$Run") := ⟨fX7_35, fun C T N h => by cases h; exact ⟨rfl, rfl, by decide +kernel⟩⟩
theorem fX8_7 : FL RX8 7 8 0 := ⟨RX8, TX8, tyX8, 16, rfl, by decide, by decide, gt_mem (i := 747) (by decide +kernel) rfl, iX8, tyX8_ok, nmX8⟩
theorem wX8_7 : FF RX8 7 8 0 (.array .int) := ⟨fX8_7, fun C T N h => by cases h; exact ⟨rfl, rfl, by decide +kernel⟩⟩
theorem fX8_13 : FL RX8 13 8 1 := ⟨RX8, TX8, tyX8, 16, rfl, by decide, by decide, gt_mem (i := 748) (by decide +kernel) rfl, iX8, tyX8_ok, nmX8⟩
theorem wX8_13 : FF RX8 13 8 1 (.array .int) := ⟨fX8_13, fun C T N h => by cases h; exact ⟨rfl, rfl, by decide +kernel⟩⟩
theorem fX8_44 : FL RX8 44 8 2 := ⟨RX8, TX8, tyX8, 16, rfl, by decide, by decide, gt_mem (i := 749) (by decide +kernel) rfl, iX8, tyX8_ok, nmX8⟩
theorem wX8_44 : FW RX8 44 8 2 .int := ⟨fX8_44, fun C T N h => by cases h; exact ⟨rfl, by decide +kernel⟩⟩
theorem fX8_16 : FL RX8 16 8 3 := ⟨RX8, TX8, tyX8, 16, rfl, by decide, by decide, gt_mem (i := 750) (by decide +kernel) rfl, iX8, tyX8_ok, nmX8⟩
theorem wX8_16 : FF RX8 16 8 3 (.array .int) := ⟨fX8_16, fun C T N h => by cases h; exact ⟨rfl, rfl, by decide +kernel⟩⟩
theorem fX8_19 : FL RX8 19 8 4 := ⟨RX8, TX8, tyX8, 16, rfl, by decide, by decide, gt_mem (i := 751) (by decide +kernel) rfl, iX8, tyX8_ok, nmX8⟩
theorem wX8_19 : FF RX8 19 8 4 (.array .int) := ⟨fX8_19, fun C T N h => by cases h; exact ⟨rfl, rfl, by decide +kernel⟩⟩
theorem fX8_22 : FL RX8 22 8 5 := ⟨RX8, TX8, tyX8, 16, rfl, by decide, by decide, gt_mem (i := 752) (by decide +kernel) rfl, iX8, tyX8_ok, nmX8⟩
theorem wX8_22 : FF RX8 22 8 5 (.array .int) := ⟨fX8_22, fun C T N h => by cases h; exact ⟨rfl, rfl, by decide +kernel⟩⟩
theorem fX8_25 : FL RX8 25 8 6 := ⟨RX8, TX8, tyX8, 16, rfl, by decide, by decide, gt_mem (i := 753) (by decide +kernel) rfl, iX8, tyX8_ok, nmX8⟩
theorem wX8_25 : FF RX8 25 8 6 (.array .int) := ⟨fX8_25, fun C T N h => by cases h; exact ⟨rfl, rfl, by decide +kernel⟩⟩
theorem fX8_28 : FL RX8 28 8 7 := ⟨RX8, TX8, tyX8, 16, rfl, by decide, by decide, gt_mem (i := 754) (by decide +kernel) rfl, iX8, tyX8_ok, nmX8⟩
theorem wX8_28 : FF RX8 28 8 7 (.array .boolean) := ⟨fX8_28, fun C T N h => by cases h; exact ⟨rfl, rfl, by decide +kernel⟩⟩
theorem fX8_32 : FL RX8 32 8 8 := ⟨RX8, TX8, tyX8, 16, rfl, by decide, by decide, gt_mem (i := 755) (by decide +kernel) rfl, iX8, tyX8_ok, nmX8⟩
theorem wX8_32 : FF RX8 32 8 8 (.array .boolean) := ⟨fX8_32, fun C T N h => by cases h; exact ⟨rfl, rfl, by decide +kernel⟩⟩
theorem fX8_35 : FL RX8 35 8 9 := ⟨RX8, TX8, tyX8, 16, rfl, by decide, by decide, gt_mem (i := 756) (by decide +kernel) rfl, iX8, tyX8_ok, nmX8⟩
theorem wX8_35 : FF RX8 35 8 9 (.array .int) := ⟨fX8_35, fun C T N h => by cases h; exact ⟨rfl, rfl, by decide +kernel⟩⟩
theorem fX8_38 : FL RX8 38 8 10 := ⟨RX8, TX8, tyX8, 16, rfl, by decide, by decide, gt_mem (i := 757) (by decide +kernel) rfl, iX8, tyX8_ok, nmX8⟩
theorem wX8_38 : FF RX8 38 8 10 (.array .int) := ⟨fX8_38, fun C T N h => by cases h; exact ⟨rfl, rfl, by decide +kernel⟩⟩
theorem fX8_41 : FL RX8 41 8 11 := ⟨RX8, TX8, tyX8, 16, rfl, by decide, by decide, gt_mem (i := 758) (by decide +kernel) rfl, iX8, tyX8_ok, nmX8⟩
theorem wX8_41 : FF RX8 41 8 11 (.array .int) := ⟨fX8_41, fun C T N h => by cases h; exact ⟨rfl, rfl, by decide +kernel⟩⟩
theorem fX8_162 : FL RX8 162 8 12 := ⟨RX8, TX8, tyX8, 16, rfl, by decide, by decide, gt_mem (i := 759) (by decide +kernel) rfl, iX8, tyX8_ok, nmX8⟩
theorem wX8_162 : FW RX8 162 8 12 .int := ⟨fX8_162, fun C T N h => by cases h; exact ⟨rfl, by decide +kernel⟩⟩
theorem fX8_147 : FL RX8 147 8 13 := ⟨RX8, TX8, tyX8, 16, rfl, by decide, by decide, gt_mem (i := 760) (by decide +kernel) rfl, iX8, tyX8_ok, nmX8⟩
theorem wX8_147 : FW RX8 147 8 13 .int := ⟨fX8_147, fun C T N h => by cases h; exact ⟨rfl, by decide +kernel⟩⟩
theorem fX8_150 : FL RX8 150 8 14 := ⟨RX8, TX8, tyX8, 16, rfl, by decide, by decide, gt_mem (i := 761) (by decide +kernel) rfl, iX8, tyX8_ok, nmX8⟩
theorem wX8_150 : FW RX8 150 8 14 .int := ⟨fX8_150, fun C T N h => by cases h; exact ⟨rfl, by decide +kernel⟩⟩
theorem fX8_165 : FL RX8 165 8 15 := ⟨RX8, TX8, tyX8, 16, rfl, by decide, by decide, gt_mem (i := 762) (by decide +kernel) rfl, iX8, tyX8_ok, nmX8⟩
theorem wX8_165 : FW RX8 165 8 15 .int := ⟨fX8_165, fun C T N h => by cases h; exact ⟨rfl, by decide +kernel⟩⟩
theorem nL_7 : Cond.classLink RL 7 "AggregateSplitter" ∈ gt := gt_mem (i := 71) (by decide +kernel) rfl
theorem nX7_7 : Cond.classLink RX7 7 "AggregateSplitter$Program" ∈ gt := gt_mem (i := 79) (by decide +kernel) rfl
theorem nX5_15 : Cond.classLink RX5 15 "AggregateSplitter$Instruction" ∈ gt := gt_mem (i := 85) (by decide +kernel) rfl
theorem nX7_16 : Cond.classLink RX7 16 "AggregateSplitter$History" ∈ gt := gt_mem (i := 162) (by decide +kernel) rfl
theorem nX1_18 : Cond.classLink RX1 18 "AggregateSplitter$Instruction" ∈ gt := gt_mem (i := 168) (by decide +kernel) rfl
theorem nX7_23 : Cond.classLink RX7 23 "AggregateSplitter$Analysis" ∈ gt := gt_mem (i := 186) (by decide +kernel) rfl
theorem nX0_9 : Cond.classLink RX0 9 "AggregateSplitter$Layout" ∈ gt := gt_mem (i := 192) (by decide +kernel) rfl
theorem nX3_9 : Cond.classLink RX3 9 "AggregateSplitter$Partition" ∈ gt := gt_mem (i := 199) (by decide +kernel) rfl
theorem nX0_22 : Cond.classLink RX0 22 "[[I" ∈ gt := gt_mem (i := 263) (by decide +kernel) rfl
theorem nX7_30 : Cond.classLink RX7 30 "AggregateSplitter$Run" ∈ gt := gt_mem (i := 280) (by decide +kernel) rfl
theorem nX6_15 : Cond.classLink RX6 15 "[[I" ∈ gt := gt_mem (i := 286) (by decide +kernel) rfl
theorem nX2_10 : Cond.classLink RX2 10 "AggregateSplitter$Instruction" ∈ gt := gt_mem (i := 382) (by decide +kernel) rfl
theorem nL_10 : Cond.classLink RL 10 "AggregateSplitterModel" ∈ gt := gt_mem (i := 741) (by decide +kernel) rfl
theorem qX7 : Cond.instantiable RX7 4 ∈ gt := gt_mem (i := 72) (by decide +kernel) rfl
theorem jX7 : Cond.initialized RX7 ∈ gt := gt_mem (i := 61) (by decide +kernel) rfl
theorem qX5 : Cond.instantiable RX5 5 ∈ gt := gt_mem (i := 80) (by decide +kernel) rfl
theorem jX5 : Cond.initialized RX5 ∈ gt := gt_mem (i := 62) (by decide +kernel) rfl
theorem qX2 : Cond.instantiable RX2 10 ∈ gt := gt_mem (i := 87) (by decide +kernel) rfl
theorem jX2 : Cond.initialized RX2 ∈ gt := gt_mem (i := 63) (by decide +kernel) rfl
theorem qX1 : Cond.instantiable RX1 5 ∈ gt := gt_mem (i := 163) (by decide +kernel) rfl
theorem jX1 : Cond.initialized RX1 ∈ gt := gt_mem (i := 64) (by decide +kernel) rfl
theorem qX0 : Cond.instantiable RX0 4 ∈ gt := gt_mem (i := 187) (by decide +kernel) rfl
theorem jX0 : Cond.initialized RX0 ∈ gt := gt_mem (i := 65) (by decide +kernel) rfl
theorem qX3 : Cond.instantiable RX3 9 ∈ gt := gt_mem (i := 194) (by decide +kernel) rfl
theorem jX3 : Cond.initialized RX3 ∈ gt := gt_mem (i := 66) (by decide +kernel) rfl
theorem qX4 : Cond.instantiable RX4 4 ∈ gt := gt_mem (i := 201) (by decide +kernel) rfl
theorem jX4 : Cond.initialized RX4 ∈ gt := gt_mem (i := 67) (by decide +kernel) rfl
theorem qX6 : Cond.instantiable RX6 11 ∈ gt := gt_mem (i := 281) (by decide +kernel) rfl
theorem jX6 : Cond.initialized RX6 ∈ gt := gt_mem (i := 68) (by decide +kernel) rfl
theorem qX8 : Cond.instantiable RX8 16 ∈ gt := gt_mem (i := 742) (by decide +kernel) rfl
theorem jX8 : Cond.initialized RX8 ∈ gt := gt_mem (i := 69) (by decide +kernel) rfl
theorem ac_int : Cond.arrayClass .int ∈ gt := gt_mem (i := 140) (by decide +kernel) rfl
theorem ac_boolean : Cond.arrayClass .boolean ∈ gt := gt_mem (i := 261) (by decide +kernel) rfl
theorem ac_long : Cond.arrayClass .long ∈ gt := gt_mem (i := 262) (by decide +kernel) rfl
theorem im_obj : Cond.instanceMethod objectInit ∈ gt := gt_mem (i := 77) (by decide +kernel) rfl
theorem co_obj : Cond.code objectInit ⟨#[0xb1]⟩ 1 none ∈ gt := gt_mem (i := 78) (by decide +kernel) rfl
theorem st_min : Cond.static Lib.Math.min.name ∈ gt := gt_mem (i := 351) (by decide +kernel) rfl
theorem co_min : Cond.code Lib.Math.min.name Lib.Math.min.code 2 (some .int) ∈ gt := gt_mem (i := 352) (by decide +kernel) rfl
theorem st_abs : Cond.static Lib.Math.abs.name ∈ gt := gt_mem (i := 401) (by decide +kernel) rfl
theorem co_abs : Cond.code Lib.Math.abs.name Lib.Math.abs.code 1 (some .int) ∈ gt := gt_mem (i := 402) (by decide +kernel) rfl
theorem in_math : Cond.initialized "java/lang/Math" ∈ gt := gt_mem (i := 70) (by decide +kernel) rfl
end
section
/-! WHAT A PROGRAM IS: records (how many, their sizes), instructions (how many, six numbers each: kind, then as the reference lays them). A value of CONSTANT is a number below 2^32. -/
abbrev PG : Type := Nat × (Nat → Nat) × Nat × (Nat → Nat → Nat)
abbrev pNr (P : PG) : Nat := P.1
abbrev pSz (P : PG) (r : Nat) : Nat := P.2.1 r
abbrev pNi (P : PG) : Nat := P.2.2.1
abbrev pFd (P : PG) (i w : Nat) : Nat := P.2.2.2 i w
def OkI (P : PG) (i : Nat) : Prop :=
  (1 ≤ pFd P i 0 ∧ pFd P i 0 ≤ 8) ∧
  ((pFd P i 0 = 1 ∨ pFd P i 0 = 2) → pFd P i 1 < pNr P ∧ (pFd P i 3 = 1 ∨ pFd P i 3 = 2 ∨ pFd P i 3 = 4) ∧ pFd P i 2 + pFd P i 3 ≤ pSz P (pFd P i 1) ∧ pFd P i 4 < 8) ∧
  (pFd P i 0 = 3 → pFd P i 1 < pNr P ∧ pFd P i 3 < pNr P ∧ 1 ≤ pFd P i 5 ∧ pFd P i 2 + pFd P i 5 ≤ pSz P (pFd P i 1) ∧ pFd P i 4 + pFd P i 5 ≤ pSz P (pFd P i 3) ∧ (pFd P i 1 = pFd P i 3 → pFd P i 2 + pFd P i 5 ≤ pFd P i 4 ∨ pFd P i 4 + pFd P i 5 ≤ pFd P i 2)) ∧
  (pFd P i 0 = 4 → pFd P i 1 < pNr P) ∧ (pFd P i 0 = 5 → pFd P i 1 < 8) ∧ (pFd P i 0 = 6 → pFd P i 1 < 8 ∧ pFd P i 2 < 8 ∧ pFd P i 3 < 8) ∧ (pFd P i 0 = 7 → pFd P i 1 < 8 ∧ 1 ≤ pFd P i 2 ∧ pFd P i 2 ≤ 9) ∧ (pFd P i 0 = 8 → pFd P i 1 < 8)
def OkP (P : PG) : Prop := pNr P ≤ 4 ∧ (∀ r, r < pNr P → 1 ≤ pSz P r ∧ pSz P r ≤ 16) ∧ pNi P ≤ 24 ∧ ∀ i, i < pNi P → OkI P i
def anyN : Nat → (Nat → Bool) → Bool
  | 0, _ => false
  | n + 1, f => anyN n f || f n
def allN : Nat → (Nat → Bool) → Bool
  | 0, _ => true
  | n + 1, f => allN n f && f n
theorem anyN_iff {n : Nat} {f : Nat → Bool} : anyN n f = true ↔ ∃ i, i < n ∧ f i = true := by
  induction n with
  | zero => simp [anyN]
  | succ n ih =>
    simp only [anyN, Bool.or_eq_true, ih]
    constructor
    · rintro (⟨i, h1, h2⟩ | h)
      · exact ⟨i, by omega, h2⟩
      · exact ⟨n, by omega, h⟩
    · rintro ⟨i, h1, h2⟩
      rcases Nat.lt_or_eq_of_le (Nat.le_of_lt_succ h1) with h | h
      · exact Or.inl ⟨i, h, h2⟩
      · subst h; exact Or.inr h2
theorem allN_iff {n : Nat} {f : Nat → Bool} : allN n f = true ↔ ∀ i, i < n → f i = true := by
  induction n with
  | zero => simp [allN]
  | succ n ih =>
    simp only [allN, Bool.and_eq_true, ih]
    constructor
    · rintro ⟨h1, h2⟩ i hi
      rcases Nat.lt_or_eq_of_le (Nat.le_of_lt_succ hi) with h | h
      · exact h1 i h
      · subst h; exact h2
    · intro h
      exact ⟨fun i hi => h i (by omega), h n (by omega)⟩
/-! partitions -/
def isAc (P : PG) (i : Nat) : Bool := decide (pFd P i 0 = 1) || decide (pFd P i 0 = 2)
def hld (o l k : Nat) : Bool := decide (o ≤ k) && decide (k < o + l)
def esc (P : PG) (r : Nat) : Bool := anyN (pNi P) fun i => decide (pFd P i 0 = 4) && decide (pFd P i 1 = r)
def acI (P : PG) (r k i : Nat) : Bool := isAc P i && (decide (pFd P i 1 = r) && hld (pFd P i 2) (pFd P i 3) k)
def acc (P : PG) (r k : Nat) : Bool := anyN (pNi P) (acI P r k)
/-- bytes k and k + 1 are in one access -/
def jnd (P : PG) (r k : Nat) : Bool := anyN (pNi P) fun i => acI P r k i && hld (pFd P i 2) (pFd P i 3) (k + 1)
def cpd (P : PG) (i side r k : Nat) : Bool := decide (pFd P i 0 = 3) && (decide (pFd P i (1 + 2 * side) = r) && hld (pFd P i (2 + 2 * side)) (pFd P i 5) k)
def inC (P : PG) (r k : Nat) : Bool := anyN (pNi P) fun i => cpd P i 0 r k || cpd P i 1 r k
def sft (P : PG) (r k : Nat) : Bool := inC P r k && !acc P r k
def alk (P : PG) (r k : Nat) : Bool := allN (pNi P) fun i => (cpd P i 0 r k == cpd P i 0 r (k + 1)) && (cpd P i 1 r k == cpd P i 1 r (k + 1))
def gon (P : PG) (r k : Nat) : Bool := if esc P r = true then decide (0 < k) else if k = 0 then false else jnd P r (k - 1) || (sft P r (k - 1) && (sft P r k && alk P r (k - 1)))
def ptd (P : PG) (r k : Nat) : Bool := esc P r || (acc P r k || sft P r k)
/-! THE REFERENCE'S CELLS: the object at m, its eleven arrays behind it -/
def mdS : List (Nat × Nat) := [(8, 16), (9, 150), (9, 1200), (9, 64), (9, 64), (9, 64), (9, 4), (10, 64), (10, 64), (9, 64), (9, 8), (9, 24)]
def mdP (k : Nat) : Option Nat := if k < 2 then some (k + 1) else if k = 2 then none else if k < 12 then some k else none
def Md (sh : List (Nat × Nat)) (p : Nat → Nat → Option Nat) (m : Nat) : Prop := (∀ i q, mdS[i]? = some q → sh[m + i]? = some q) ∧ ∀ k r, mdP k = some r → p m k = some (m + r)
/-- its row s holds the program -/
def RS (s : Nat → Int32) (P : PG) : Prop := s 0 = nI (pNr P) ∧ (∀ r, r < pNr P → s (1 + r) = nI (pSz P r)) ∧ s 5 = nI (pNi P) ∧ ∀ i, i < pNi P → ∀ w, w < 6 → s (6 + 6 * i + w) = nI (pFd P i w)
def RF (h : AH) (m : Nat) (P : PG) : Prop := Md h.1 (hP h) m ∧ RS (hI h (m + 1)) P ∧ OkP P
theorem pv {x y : Int32} (e : x = y) : some (Value.int x) = some (Value.int y) := by rw [e]
theorem pvb {x y : Bool} (e : x = y) : some (Value.int (bi x)) = some (Value.int (bi y)) := by rw [e]
/-- numbers as the machine compares them -/
theorem i_lt {x y : Int32} : x < y ↔ x.toInt < y.toInt := Int32.lt_iff_toInt_lt
theorem i_le {x y : Int32} : x ≤ y ↔ x.toInt ≤ y.toInt := Int32.le_iff_toInt_le
theorem i_eq {x y : Int32} : x = y ↔ x.toInt = y.toInt := ⟨fun h => by rw [h], fun h => Int32.toInt_inj.mp h⟩
theorem i_n {n : Nat} (h : n < 2 ^ 31) : (nI n).toInt = n := nI_toInt h
theorem i_m1 : (-1 : Int32).toInt = -1 := by decide
theorem i_m2 : (-2 : Int32).toInt = -2 := by decide
theorem i_m9 : (-9 : Int32).toInt = -9 := by decide
theorem i_0 : (0 : Int32).toInt = 0 := by decide
theorem i_rng (x : Int32) : -2147483648 ≤ x.toInt ∧ x.toInt < 2147483648 := ⟨x.le_toInt, x.toInt_lt⟩
theorem i_sub {x y : Int32} (h : -2147483648 ≤ x.toInt - y.toInt ∧ x.toInt - y.toInt < 2147483648) : (x - y).toInt = x.toInt - y.toInt := by
  rw [Int32.toInt_sub]
  exact Int.bmod_eq_of_le (by omega) (by omega)
theorem i_add {x y : Int32} (h : -2147483648 ≤ x.toInt + y.toInt ∧ x.toInt + y.toInt < 2147483648) : (x + y).toInt = x.toInt + y.toInt := by
  rw [Int32.toInt_add]
  exact Int.bmod_eq_of_le (by omega) (by omega)
/-- a number of a script as a small one -/
theorem i_of {x : Int32} {n : Nat} (h0 : 0 ≤ x.toInt) (h1 : x.toInt < n) : ∃ j, j < n ∧ x = nI j := by
  have hr := i_rng x
  refine ⟨x.toInt.toNat, by omega, i_eq.mpr ?_⟩
  rw [i_n (by omega)]; omega
theorem nI_lit (n : Nat) : (OfNat.ofNat n : Int32) = nI n := rfl
theorem ok_kd {P : PG} (h : OkP P) {i : Nat} (hi : i < pNi P) : 1 ≤ pFd P i 0 ∧ pFd P i 0 ≤ 8 := (h.2.2.2 i hi).1
theorem ok_ac {P : PG} (h : OkP P) {i : Nat} (hi : i < pNi P) (hk : isAc P i = true) : pFd P i 1 < pNr P ∧ 1 ≤ pFd P i 3 ∧ pFd P i 3 ≤ 4 ∧ pFd P i 2 + pFd P i 3 ≤ pSz P (pFd P i 1) ∧ pSz P (pFd P i 1) ≤ 16 ∧ pFd P i 4 < 8 := by
  simp only [isAc, Bool.or_eq_true, decide_eq_true_eq] at hk
  obtain ⟨a, b, c, d⟩ := (h.2.2.2 i hi).2.1 hk
  have := h.2.1 _ a
  exact ⟨a, by omega, by omega, c, this.2, d⟩
theorem ok_cp {P : PG} (h : OkP P) {i : Nat} (hi : i < pNi P) (hk : pFd P i 0 = 3) : pFd P i 1 < pNr P ∧ pFd P i 3 < pNr P ∧ 1 ≤ pFd P i 5 ∧ pFd P i 2 + pFd P i 5 ≤ pSz P (pFd P i 1) ∧ pFd P i 4 + pFd P i 5 ≤ pSz P (pFd P i 3) ∧ pSz P (pFd P i 1) ≤ 16 ∧ pSz P (pFd P i 3) ≤ 16 := by
  obtain ⟨a, b, c, d, e, -⟩ := (h.2.2.2 i hi).2.2.1 hk
  exact ⟨a, b, c, d, e, (h.2.1 _ a).2, (h.2.1 _ b).2⟩
theorem ok_es {P : PG} (h : OkP P) {i : Nat} (hi : i < pNi P) (hk : pFd P i 0 = 4) : pFd P i 1 < pNr P := (h.2.2.2 i hi).2.2.2.1 hk
def acW (P : PG) (r k : Nat) (wn : Bool) (i : Nat) : Bool := acI P r k i && (!wn || hld (pFd P i 2) (pFd P i 3) (k + 1))
def esI (P : PG) (r i : Nat) : Bool := decide (pFd P i 0 = 4) && decide (pFd P i 1 = r)
theorem anyN_s (n : Nat) (f : Nat → Bool) : anyN (n + 1) f = (anyN n f || f n) := rfl
theorem allN_s (n : Nat) (f : Nat → Bool) : allN (n + 1) f = (allN n f && f n) := rfl
theorem acW_f (P : PG) (r k : Nat) : acW P r k false = acI P r k := by funext i; simp [acW]
theorem acW_t (P : PG) (r k : Nat) : anyN (pNi P) (acW P r k true) = jnd P r k := by
  unfold jnd
  congr 1
theorem ok_cs {P : PG} (h : OkP P) {i side : Nat} (hi : i < pNi P) (hs : side < 2) (hk : pFd P i 0 = 3) : pFd P i (1 + 2 * side) < pNr P ∧ pFd P i (2 + 2 * side) + pFd P i 5 ≤ 16 ∧ 1 ≤ pFd P i 5 := by
  obtain ⟨a, b, c, d, e, f, g⟩ := ok_cp h hi hk
  rcases (show side = 0 ∨ side = 1 by omega) with rfl | rfl
  · exact ⟨a, by show pFd P i 2 + pFd P i 5 ≤ 16; omega, c⟩
  · exact ⟨b, by show pFd P i 4 + pFd P i 5 ≤ 16; omega, c⟩
def cpE (P : PG) (r k i : Nat) : Bool := cpd P i 0 r k || cpd P i 1 r k
def alI (P : PG) (r k i : Nat) : Bool := (cpd P i 0 r k == cpd P i 0 r (k + 1)) && (cpd P i 1 r k == cpd P i 1 r (k + 1))
/-- the first s sides -/
def alS (P : PG) (r k i : Nat) : Nat → Bool
  | 0 => true
  | s + 1 => alS P r k i s && (cpd P i s r k == cpd P i s r (k + 1))
theorem alS_2 (P : PG) (r k i : Nat) : alS P r k i 2 = alI P r k i := by simp [alS, alI]
end
section
def inB (x y z : Int32) : Bool := decide (y.toInt ≤ x.toInt) && decide (x.toInt ≤ z.toInt)
set_option maxHeartbeats 4000000 in
set_option maxRecDepth 100000 in
theorem c_in {g : GX} {h : AH} {x y z : Int32} : Ct g mX8_in 0 0 0 [.int x, .int y, .int z] h (fun ρ η => ρ = some (.int (bi (inB x y z))) ∧ η = h) := by
  refine Ct_intro (by decide +kernel) (Nat.le_of_ble_eq_true rfl) ?_
  show V g mX8_in _ h 0 0 [(0, .int x), (1, .int y), (2, .int z)] 0 []
  refine V_iload_n (j := 0) (q := 1) dX8_in_0 rfl rfl ?_
  refine V_iload_n (j := 1) (q := 2) dX8_in_1 rfl rfl ?_
  refine V_icmp_lt (tgt := 14) (q := 5) dX8_in_2 rfl rfl (fun c1 => ?_) (fun c1 => ?_)
  · skip
    refine V_iconst (q := 15) (v := nI 0) dX8_in_14 rfl rfl ?_
    refine V_rw (y := bi false) rfl ?_
    refine V_zret (b := false) rfl dX8_in_15 rfl rfl ?_
    exact ⟨pvb (by simp only [i_lt, i_le] at *; simp [inB]; omega), rfl⟩
  · skip
    refine V_iload_n (j := 0) (q := 6) dX8_in_5 rfl rfl ?_
    refine V_iload_n (j := 2) (q := 7) dX8_in_6 rfl rfl ?_
    refine V_icmp_gt (tgt := 14) (q := 10) dX8_in_7 rfl rfl (fun c2 => ?_) (fun c2 => ?_)
    · skip
      refine V_iconst (q := 15) (v := nI 0) dX8_in_14 rfl rfl ?_
      refine V_rw (y := bi false) rfl ?_
      refine V_zret (b := false) rfl dX8_in_15 rfl rfl ?_
      exact ⟨pvb (by simp only [i_lt, i_le] at *; simp [inB]; omega), rfl⟩
    · skip
      refine V_iconst (q := 11) (v := nI 1) dX8_in_10 rfl rfl ?_
      refine V_goto (q := 15) dX8_in_11 rfl ?_
      refine V_rw (y := bi true) rfl ?_
      refine V_zret (b := true) rfl dX8_in_15 rfl rfl ?_
      exact ⟨pvb (by simp only [i_lt, i_le] at *; simp [inB]; omega), rfl⟩

def isR (P : PG) (x : Int32) : Bool := decide (0 ≤ x.toInt ∧ x.toInt < pNr P)
theorem inB_rec {P : PG} (h : pNr P ≤ 4) (x : Int32) : inB x (nI 0) (nI (pNr P) - nI 1) = isR P x := by
  have e : (nI (pNr P) - nI 1).toInt = pNr P - 1 := by
    rw [i_sub, i_n (by omega), i_n (by omega)]
    · rfl
    · rw [i_n (by omega), i_n (by omega)]; omega
  unfold inB isR
  rw [e, i_n (by omega), ← Bool.decide_and]
  congr 1
  apply propext
  omega
set_option maxHeartbeats 4000000 in
set_option maxRecDepth 100000 in
theorem c_isRecord {g : GX} {h : AH} {m : Nat} {P : PG} (W : RF h m P) {x : Int32} : Ct g mX8_isRecord 1 0 0 [.ref m, .int x] h (fun ρ η => ρ = some (.int (bi (isR P x))) ∧ η = h) := by
  refine Ct_intro (by decide +kernel) (Nat.le_of_ble_eq_true rfl) ?_
  show V g mX8_isRecord _ h 0 0 [(0, .ref m), (1, .int x)] 0 []
  refine V_iload_n (j := 1) (q := 1) dX8_isRecord_0 rfl rfl ?_
  refine V_iconst (q := 2) (v := nI 0) dX8_isRecord_1 rfl rfl ?_
  refine V_aload_n (j := 0) (q := 3) dX8_isRecord_2 rfl rfl ?_
  refine V_getP (q := 6) (r := (m + 1)) fX8_7 (W.1.1 0 _ rfl) rfl (W.1.2 0 _ rfl) dX8_isRecord_3 rfl ?_
  refine V_iconst (q := 7) (v := nI 0) dX8_isRecord_6 rfl rfl ?_
  refine V_iald (q := 8) (W.1.1 1 _ rfl) (by omega) (by decide) dX8_isRecord_7 rfl ?_
  refine V_rw (y := nI (pNr P)) W.2.1.1 ?_
  refine V_iconst (q := 9) (v := nI 1) dX8_isRecord_8 rfl rfl ?_
  refine V_isub (q := 10) dX8_isRecord_9 rfl ?_
  refine V_cpS (q := 13) (S := []) (v := .int (bi (inB x (nI 0) ((nI (pNr P)) - (nI 1))))) kX8_48 c_in rfl rfl rfl dX8_isRecord_10 rfl ?_
  refine V_zret (b := (inB x (nI 0) ((nI (pNr P)) - (nI 1)))) rfl dX8_isRecord_13 rfl rfl ?_
  exact ⟨pvb (inB_rec W.2.2.1 x), rfl⟩

def isG (x : Int32) : Bool := decide (0 ≤ x.toInt ∧ x.toInt < 8)
def isW (x : Int32) : Bool := decide (x.toInt = 1 ∨ x.toInt = 2 ∨ x.toInt = 4)
set_option maxHeartbeats 4000000 in
set_option maxRecDepth 100000 in
theorem c_isRegister {g : GX} {h : AH} {x : Int32} : Ct g mX8_isRegister 1 0 0 [.int x] h (fun ρ η => ρ = some (.int (bi (isG x))) ∧ η = h) := by
  refine Ct_intro (by decide +kernel) (Nat.le_of_ble_eq_true rfl) ?_
  show V g mX8_isRegister _ h 0 0 [(0, .int x)] 0 []
  refine V_iload_n (j := 0) (q := 1) dX8_isRegister_0 rfl rfl ?_
  refine V_iconst (q := 2) (v := nI 0) dX8_isRegister_1 rfl rfl ?_
  refine V_bipush (q := 4) (v := nI 7) dX8_isRegister_2 rfl (by decide) ?_
  refine V_cpS (q := 7) (S := []) (v := .int (bi (inB x (nI 0) (nI 7)))) kX8_48 c_in rfl rfl rfl dX8_isRegister_4 rfl ?_
  refine V_zret (b := (inB x (nI 0) (nI 7))) rfl dX8_isRegister_7 rfl rfl ?_
  exact ⟨pvb (by simp only [inB, isG, i_n (show 0 < 2 ^ 31 by decide), i_n (show 7 < 2 ^ 31 by decide), ← Bool.decide_and]; congr 1; apply propext; omega), rfl⟩

set_option maxHeartbeats 4000000 in
set_option maxRecDepth 100000 in
theorem c_isWidth {g : GX} {h : AH} {x : Int32} : Ct g mX8_isWidth 0 0 0 [.int x] h (fun ρ η => ρ = some (.int (bi (isW x))) ∧ η = h) := by
  refine Ct_intro (by decide +kernel) (Nat.le_of_ble_eq_true rfl) ?_
  show V g mX8_isWidth _ h 0 0 [(0, .int x)] 0 []
  refine V_iload_n (j := 0) (q := 1) dX8_isWidth_0 rfl rfl ?_
  refine V_iconst (q := 2) (v := nI 1) dX8_isWidth_1 rfl rfl ?_
  refine V_icmp_eq (tgt := 15) (q := 5) dX8_isWidth_2 rfl rfl (fun c1 => ?_) (fun c1 => ?_)
  · skip
    refine V_iconst (q := 16) (v := nI 1) dX8_isWidth_15 rfl rfl ?_
    refine V_goto (q := 20) dX8_isWidth_16 rfl ?_
    refine V_rw (y := bi true) rfl ?_
    refine V_zret (b := true) rfl dX8_isWidth_20 rfl rfl ?_
    exact ⟨pvb (by simp only [i_eq, i_n (show 1 < 2 ^ 31 by decide), i_n (show 2 < 2 ^ 31 by decide), i_n (show 4 < 2 ^ 31 by decide)] at *; simp [isW]; omega), rfl⟩
  · skip
    refine V_iload_n (j := 0) (q := 6) dX8_isWidth_5 rfl rfl ?_
    refine V_iconst (q := 7) (v := nI 2) dX8_isWidth_6 rfl rfl ?_
    refine V_icmp_eq (tgt := 15) (q := 10) dX8_isWidth_7 rfl rfl (fun c2 => ?_) (fun c2 => ?_)
    · skip
      refine V_iconst (q := 16) (v := nI 1) dX8_isWidth_15 rfl rfl ?_
      refine V_goto (q := 20) dX8_isWidth_16 rfl ?_
      refine V_rw (y := bi true) rfl ?_
      refine V_zret (b := true) rfl dX8_isWidth_20 rfl rfl ?_
      exact ⟨pvb (by simp only [i_eq, i_n (show 1 < 2 ^ 31 by decide), i_n (show 2 < 2 ^ 31 by decide), i_n (show 4 < 2 ^ 31 by decide)] at *; simp [isW]; omega), rfl⟩
    · skip
      refine V_iload_n (j := 0) (q := 11) dX8_isWidth_10 rfl rfl ?_
      refine V_iconst (q := 12) (v := nI 4) dX8_isWidth_11 rfl rfl ?_
      refine V_icmp_ne (tgt := 19) (q := 15) dX8_isWidth_12 rfl rfl (fun c3 => ?_) (fun c3 => ?_)
      · skip
        refine V_iconst (q := 20) (v := nI 0) dX8_isWidth_19 rfl rfl ?_
        refine V_rw (y := bi false) rfl ?_
        refine V_zret (b := false) rfl dX8_isWidth_20 rfl rfl ?_
        exact ⟨pvb (by simp only [i_eq, i_n (show 1 < 2 ^ 31 by decide), i_n (show 2 < 2 ^ 31 by decide), i_n (show 4 < 2 ^ 31 by decide)] at *; simp [isW]; omega), rfl⟩
      · skip
        refine V_iconst (q := 16) (v := nI 1) dX8_isWidth_15 rfl rfl ?_
        refine V_goto (q := 20) dX8_isWidth_16 rfl ?_
        refine V_rw (y := bi true) rfl ?_
        refine V_zret (b := true) rfl dX8_isWidth_20 rfl rfl ?_
        exact ⟨pvb (by simp only [i_eq, i_n (show 1 < 2 ^ 31 by decide), i_n (show 2 < 2 ^ 31 by decide), i_n (show 4 < 2 ^ 31 by decide)] at *; simp [isW]; omega), rfl⟩

set_option maxHeartbeats 4000000 in
set_option maxRecDepth 100000 in
theorem c_of {g : GX} {h : AH} {m : Nat} {P : PG} (W : RF h m P) {i w : Nat} (hi : i < pNi P) (hw : w < 6) : Ct g mX8_of 0 0 0 [.ref m, .int (nI i), .int (nI w)] h (fun ρ η => ρ = some (.int (nI (pFd P i w))) ∧ η = h) := by
  refine Ct_intro (by decide +kernel) (Nat.le_of_ble_eq_true rfl) ?_
  show V g mX8_of _ h 0 0 [(0, .ref m), (1, .int (nI i)), (2, .int (nI w))] 0 []
  have hN := W.2.2.2.2.1
  refine V_aload_n (j := 0) (q := 1) dX8_of_0 rfl rfl ?_
  refine V_getP (q := 4) (r := (m + 1)) fX8_7 (W.1.1 0 _ rfl) rfl (W.1.2 0 _ rfl) dX8_of_1 rfl ?_
  refine V_bipush (q := 6) (v := nI 6) dX8_of_4 rfl (by decide) ?_
  refine V_bipush (q := 8) (v := nI 6) dX8_of_6 rfl (by decide) ?_
  refine V_iload_n (j := 1) (q := 9) dX8_of_8 rfl rfl ?_
  refine V_imulN (q := 10) dX8_of_9 rfl ?_
  refine V_iaddN (q := 11) dX8_of_10 rfl ?_
  refine V_iload_n (j := 2) (q := 12) dX8_of_11 rfl rfl ?_
  refine V_iaddN (q := 13) dX8_of_12 rfl ?_
  refine V_iald (q := 14) (W.1.1 1 _ rfl) (by omega) (by decide) dX8_of_13 rfl ?_
  refine V_iret rfl dX8_of_14 rfl rfl ?_
  exact ⟨pv (by exact W.2.1.2.2.2 i hi w hw), rfl⟩
end
section
set_option maxHeartbeats 4000000 in
set_option maxRecDepth 100000 in
theorem c_isAccess {g : GX} {h : AH} {m : Nat} {P : PG} (W : RF h m P) {i : Nat} (hi : i < pNi P) : Ct g mX8_isAccess 1 0 0 [.ref m, .int (nI i)] h (fun ρ η => ρ = some (.int (bi (isAc P i))) ∧ η = h) := by
  refine Ct_intro (by decide +kernel) (Nat.le_of_ble_eq_true rfl) ?_
  show V g mX8_isAccess _ h 0 0 [(0, .ref m), (1, .int (nI i))] 0 []
  have hk := (W.2.2.2.2.2 i hi).1
  refine V_aload_n (j := 0) (q := 1) dX8_isAccess_0 rfl rfl ?_
  refine V_iload_n (j := 1) (q := 2) dX8_isAccess_1 rfl rfl ?_
  refine V_iconst (q := 3) (v := nI 0) dX8_isAccess_2 rfl rfl ?_
  refine V_cpV (q := 6) (S := []) (v := .int (nI (pFd P i 0))) kX8_72 (c_of (i := i) W (by omega) (by decide)) (W.1.1 0 _ rfl) rfl rfl rfl dX8_isAccess_3 rfl ?_
  refine V_iconst (q := 7) (v := nI 1) dX8_isAccess_6 rfl rfl ?_
  refine V_icmp_eqN (tgt := 20) (q := 10) dX8_isAccess_7 rfl rfl (by omega) (by omega) (fun c1 => ?_) (fun c1 => ?_)
  · skip
    refine V_iconst (q := 21) (v := nI 1) dX8_isAccess_20 rfl rfl ?_
    refine V_goto (q := 25) dX8_isAccess_21 rfl ?_
    refine V_rw (y := bi true) rfl ?_
    refine V_zret (b := true) rfl dX8_isAccess_25 rfl rfl ?_
    exact ⟨pvb (by simp [isAc, c1]), rfl⟩
  · skip
    refine V_aload_n (j := 0) (q := 11) dX8_isAccess_10 rfl rfl ?_
    refine V_iload_n (j := 1) (q := 12) dX8_isAccess_11 rfl rfl ?_
    refine V_iconst (q := 13) (v := nI 0) dX8_isAccess_12 rfl rfl ?_
    refine V_cpV (q := 16) (S := []) (v := .int (nI (pFd P i 0))) kX8_72 (c_of (i := i) W (by omega) (by decide)) (W.1.1 0 _ rfl) rfl rfl rfl dX8_isAccess_13 rfl ?_
    refine V_iconst (q := 17) (v := nI 2) dX8_isAccess_16 rfl rfl ?_
    refine V_icmp_neN (tgt := 24) (q := 20) dX8_isAccess_17 rfl rfl (by omega) (by omega) (fun c2 => ?_) (fun c2 => ?_)
    · skip
      refine V_iconst (q := 25) (v := nI 0) dX8_isAccess_24 rfl rfl ?_
      refine V_rw (y := bi false) rfl ?_
      refine V_zret (b := false) rfl dX8_isAccess_25 rfl rfl ?_
      exact ⟨pvb (by simp [isAc, c1, c2]), rfl⟩
    · skip
      refine V_iconst (q := 21) (v := nI 1) dX8_isAccess_20 rfl rfl ?_
      refine V_goto (q := 25) dX8_isAccess_21 rfl ?_
      refine V_rw (y := bi true) rfl ?_
      refine V_zret (b := true) rfl dX8_isAccess_25 rfl rfl ?_
      exact ⟨pvb (by simp [isAc, c1, c2]), rfl⟩

set_option maxHeartbeats 4000000 in
set_option maxRecDepth 100000 in
theorem c_holds {g : GX} {h : AH} {a b c : Nat} (h1 : a + b < 2 ^ 31) (h2 : c < 2 ^ 31) : Ct g mX8_holds 0 0 0 [.int (nI a), .int (nI b), .int (nI c)] h (fun ρ η => ρ = some (.int (bi (hld a b c))) ∧ η = h) := by
  refine Ct_intro (by decide +kernel) (Nat.le_of_ble_eq_true rfl) ?_
  show V g mX8_holds _ h 0 0 [(0, .int (nI a)), (1, .int (nI b)), (2, .int (nI c))] 0 []
  refine V_iload_n (j := 2) (q := 1) dX8_holds_0 rfl rfl ?_
  refine V_iload_n (j := 0) (q := 2) dX8_holds_1 rfl rfl ?_
  refine V_icmp_ltN (tgt := 16) (q := 5) dX8_holds_2 rfl rfl (by omega) (by omega) (fun c1 => ?_) (fun c1 => ?_)
  · skip
    refine V_iconst (q := 17) (v := nI 0) dX8_holds_16 rfl rfl ?_
    refine V_rw (y := bi false) rfl ?_
    refine V_zret (b := false) rfl dX8_holds_17 rfl rfl ?_
    exact ⟨pvb (by simp [hld]; omega), rfl⟩
  · skip
    refine V_iload_n (j := 2) (q := 6) dX8_holds_5 rfl rfl ?_
    refine V_iload_n (j := 0) (q := 7) dX8_holds_6 rfl rfl ?_
    refine V_iload_n (j := 1) (q := 8) dX8_holds_7 rfl rfl ?_
    refine V_iaddN (q := 9) dX8_holds_8 rfl ?_
    refine V_icmp_geN (tgt := 16) (q := 12) dX8_holds_9 rfl rfl (by omega) (by omega) (fun c2 => ?_) (fun c2 => ?_)
    · skip
      refine V_iconst (q := 17) (v := nI 0) dX8_holds_16 rfl rfl ?_
      refine V_rw (y := bi false) rfl ?_
      refine V_zret (b := false) rfl dX8_holds_17 rfl rfl ?_
      exact ⟨pvb (by simp [hld]; omega), rfl⟩
    · skip
      refine V_iconst (q := 13) (v := nI 1) dX8_holds_12 rfl rfl ?_
      refine V_goto (q := 17) dX8_holds_13 rfl ?_
      refine V_rw (y := bi true) rfl ?_
      refine V_zret (b := true) rfl dX8_holds_17 rfl rfl ?_
      exact ⟨pvb (by simp [hld]; omega), rfl⟩

set_option maxHeartbeats 4000000 in
set_option maxRecDepth 100000 in
theorem lp_doesEscape {g : GX} {h : AH} {m : Nat} {P : PG} (W : RF h m P) {r : Nat} (hr : r < 2 ^ 31) : ∀ (t : Nat) (i : Nat) (b : Bool), (i ≤ pNi P) → (b = anyN i (esI P r)) → pNi P - i < t → V g mX8_doesEscape (thM g 1 0 0 (fun ρ η => ρ = some (.int (bi (esc P r))) ∧ η = h)) h 0 0 [(0, .ref m), (1, .int (nI r)), (2, .int (bi b)), (3, .int (nI i))] 4 [] := by
  intro t
  induction t with
  | zero =>
    intro i b hi hb hfu
    exact absurd hfu (Nat.not_lt_zero _)
  | succ t ih =>
    intro i b hi hb hfu
    have hN := W.2.2.2.2.1
    have hR := W.2.2.1
    refine V_iload_n (j := 3) (q := 5) dX8_doesEscape_4 rfl rfl ?_
    refine V_aload_n (j := 0) (q := 6) dX8_doesEscape_5 rfl rfl ?_
    refine V_getP (q := 9) (r := (m + 1)) fX8_7 (W.1.1 0 _ rfl) rfl (W.1.2 0 _ rfl) dX8_doesEscape_6 rfl ?_
    refine V_iconst (q := 10) (v := nI 5) dX8_doesEscape_9 rfl rfl ?_
    refine V_iald (q := 11) (W.1.1 1 _ rfl) (by omega) (by decide) dX8_doesEscape_10 rfl ?_
    refine V_rw (y := nI (pNi P)) W.2.1.2.2.1 ?_
    refine V_icmp_geN (tgt := 50) (q := 14) dX8_doesEscape_11 rfl rfl (by omega) (by omega) (fun c1 => ?_) (fun c1 => ?_)
    · skip
      refine V_iload_n (j := 2) (q := 51) dX8_doesEscape_50 rfl rfl ?_
      refine V_zret (b := b) rfl dX8_doesEscape_51 rfl rfl ?_
      exact ⟨pvb (by rw [hb, show i = pNi P by omega]; rfl), rfl⟩
    · skip
      have hk := ok_kd W.2.2 c1
      refine V_iload_n (j := 2) (q := 15) dX8_doesEscape_14 rfl rfl ?_
      refine V_if_neB (tgt := 38) (q := 18) dX8_doesEscape_15 rfl rfl (fun c2 => ?_) (fun c2 => ?_)
      · skip
        refine V_iconst (q := 39) (v := nI 1) dX8_doesEscape_38 rfl rfl ?_
        refine V_goto (q := 43) dX8_doesEscape_39 rfl ?_
        refine V_rw (y := bi true) rfl ?_
        refine V_istore_n (q := 44) (L' := [(2, .int (bi true)), (0, .ref m), (1, .int (nI r)), (3, .int (nI i))]) dX8_doesEscape_43 rfl rfl rfl ?_
        refine V_iincN (j := 3) (q := 47) (L' := [(3, .int (nI (i + 1))), (2, .int (bi true)), (0, .ref m), (1, .int (nI r))]) dX8_doesEscape_44 rfl rfl rfl rfl ?_
        refine V_goto (q := 4) dX8_doesEscape_47 rfl ?_
        refine V_sub (L' := [(0, .ref m), (1, .int (nI r)), (2, .int (bi true)), (3, .int (nI (i + 1)))]) [2, 3, 1, 0] rfl ?_
        refine ih (i + 1) true ?_ ?_ ?_
        · omega
        · rw [anyN_s, ← hb]; simp [esI, c1, c2]
        · omega
      · skip
        refine V_aload_n (j := 0) (q := 19) dX8_doesEscape_18 rfl rfl ?_
        refine V_iload_n (j := 3) (q := 20) dX8_doesEscape_19 rfl rfl ?_
        refine V_iconst (q := 21) (v := nI 0) dX8_doesEscape_20 rfl rfl ?_
        refine V_cpV (q := 24) (S := []) (v := .int (nI (pFd P i 0))) kX8_72 (c_of (i := i) W (by omega) (by decide)) (W.1.1 0 _ rfl) rfl rfl rfl dX8_doesEscape_21 rfl ?_
        refine V_iconst (q := 25) (v := nI 4) dX8_doesEscape_24 rfl rfl ?_
        refine V_icmp_neN (tgt := 42) (q := 28) dX8_doesEscape_25 rfl rfl (by omega) (by omega) (fun c3 => ?_) (fun c3 => ?_)
        · skip
          refine V_iconst (q := 43) (v := nI 0) dX8_doesEscape_42 rfl rfl ?_
          refine V_rw (y := bi false) rfl ?_
          refine V_istore_n (q := 44) (L' := [(2, .int (bi false)), (0, .ref m), (1, .int (nI r)), (3, .int (nI i))]) dX8_doesEscape_43 rfl rfl rfl ?_
          refine V_iincN (j := 3) (q := 47) (L' := [(3, .int (nI (i + 1))), (2, .int (bi false)), (0, .ref m), (1, .int (nI r))]) dX8_doesEscape_44 rfl rfl rfl rfl ?_
          refine V_goto (q := 4) dX8_doesEscape_47 rfl ?_
          refine V_sub (L' := [(0, .ref m), (1, .int (nI r)), (2, .int (bi false)), (3, .int (nI (i + 1)))]) [2, 3, 1, 0] rfl ?_
          refine ih (i + 1) false ?_ ?_ ?_
          · omega
          · rw [anyN_s, ← hb]; simp [esI, c1, c2, c3]
          · omega
        · skip
          have hk2 := ok_es W.2.2 (by omega) c3
          refine V_aload_n (j := 0) (q := 29) dX8_doesEscape_28 rfl rfl ?_
          refine V_iload_n (j := 3) (q := 30) dX8_doesEscape_29 rfl rfl ?_
          refine V_iconst (q := 31) (v := nI 1) dX8_doesEscape_30 rfl rfl ?_
          refine V_cpV (q := 34) (S := []) (v := .int (nI (pFd P i 1))) kX8_72 (c_of (i := i) W (by omega) (by decide)) (W.1.1 0 _ rfl) rfl rfl rfl dX8_doesEscape_31 rfl ?_
          refine V_iload_n (j := 1) (q := 35) dX8_doesEscape_34 rfl rfl ?_
          refine V_icmp_neN (tgt := 42) (q := 38) dX8_doesEscape_35 rfl rfl (by omega) (by omega) (fun c4 => ?_) (fun c4 => ?_)
          · skip
            refine V_iconst (q := 43) (v := nI 0) dX8_doesEscape_42 rfl rfl ?_
            refine V_rw (y := bi false) rfl ?_
            refine V_istore_n (q := 44) (L' := [(2, .int (bi false)), (0, .ref m), (1, .int (nI r)), (3, .int (nI i))]) dX8_doesEscape_43 rfl rfl rfl ?_
            refine V_iincN (j := 3) (q := 47) (L' := [(3, .int (nI (i + 1))), (2, .int (bi false)), (0, .ref m), (1, .int (nI r))]) dX8_doesEscape_44 rfl rfl rfl rfl ?_
            refine V_goto (q := 4) dX8_doesEscape_47 rfl ?_
            refine V_sub (L' := [(0, .ref m), (1, .int (nI r)), (2, .int (bi false)), (3, .int (nI (i + 1)))]) [2, 3, 1, 0] rfl ?_
            refine ih (i + 1) false ?_ ?_ ?_
            · omega
            · rw [anyN_s, ← hb]; simp [esI, c1, c2, c3, c4]
            · omega
          · skip
            refine V_iconst (q := 39) (v := nI 1) dX8_doesEscape_38 rfl rfl ?_
            refine V_goto (q := 43) dX8_doesEscape_39 rfl ?_
            refine V_rw (y := bi true) rfl ?_
            refine V_istore_n (q := 44) (L' := [(2, .int (bi true)), (0, .ref m), (1, .int (nI r)), (3, .int (nI i))]) dX8_doesEscape_43 rfl rfl rfl ?_
            refine V_iincN (j := 3) (q := 47) (L' := [(3, .int (nI (i + 1))), (2, .int (bi true)), (0, .ref m), (1, .int (nI r))]) dX8_doesEscape_44 rfl rfl rfl rfl ?_
            refine V_goto (q := 4) dX8_doesEscape_47 rfl ?_
            refine V_sub (L' := [(0, .ref m), (1, .int (nI r)), (2, .int (bi true)), (3, .int (nI (i + 1)))]) [2, 3, 1, 0] rfl ?_
            refine ih (i + 1) true ?_ ?_ ?_
            · omega
            · rw [anyN_s, ← hb]; simp [esI, c1, c2, c3, c4]
            · omega

set_option maxHeartbeats 4000000 in
set_option maxRecDepth 100000 in
theorem c_doesEscape {g : GX} {h : AH} {m : Nat} {P : PG} (W : RF h m P) {r : Nat} (hr : r < 2 ^ 31) : Ct g mX8_doesEscape 1 0 0 [.ref m, .int (nI r)] h (fun ρ η => ρ = some (.int (bi (esc P r))) ∧ η = h) := by
  refine Ct_intro (by decide +kernel) (Nat.le_of_ble_eq_true rfl) ?_
  show V g mX8_doesEscape _ h 0 0 [(0, .ref m), (1, .int (nI r))] 0 []
  have hN := W.2.2.2.2.1
  have hR := W.2.2.1
  refine V_iconst (q := 1) (v := nI 0) dX8_doesEscape_0 rfl rfl ?_
  refine V_rw (y := bi false) rfl ?_
  refine V_istore_n (q := 2) (L' := [(2, .int (bi false)), (0, .ref m), (1, .int (nI r))]) dX8_doesEscape_1 rfl rfl rfl ?_
  refine V_iconst (q := 3) (v := nI 0) dX8_doesEscape_2 rfl rfl ?_
  refine V_istore_n (q := 4) (L' := [(3, .int (nI 0)), (2, .int (bi false)), (0, .ref m), (1, .int (nI r))]) dX8_doesEscape_3 rfl rfl rfl ?_
  refine V_sub (L' := [(0, .ref m), (1, .int (nI r)), (2, .int (bi false)), (3, .int (nI 0))]) [2, 3, 1, 0] rfl ?_
  refine lp_doesEscape W hr (pNi P - 0 + 1) 0 false ?_ ?_ ?_
  · omega
  · rfl
  · exact Nat.lt_succ_self _

set_option maxHeartbeats 4000000 in
set_option maxRecDepth 100000 in
theorem lp_isAccessed {g : GX} {h : AH} {m : Nat} {P : PG} (W : RF h m P) {r k : Nat} {wn : Bool} (hr : r < 2 ^ 30) (hk : k < 2 ^ 30) : ∀ (t : Nat) (i : Nat) (b : Bool), (i ≤ pNi P) → (b = anyN i (acW P r k wn)) → pNi P - i < t → V g mX8_isAccessed (thM g 2 0 0 (fun ρ η => ρ = some (.int (bi (anyN (pNi P) (acW P r k wn)))) ∧ η = h)) h 0 0 [(0, .ref m), (1, .int (nI r)), (2, .int (nI k)), (3, .int (bi wn)), (4, .int (bi b)), (5, .int (nI i))] 6 [] := by
  intro t
  induction t with
  | zero =>
    intro i b hi hb hfu
    exact absurd hfu (Nat.not_lt_zero _)
  | succ t ih =>
    intro i b hi hb hfu
    have hN := W.2.2.2.2.1
    have hR := W.2.2.1
    refine V_iload (j := 5) (q := 8) dX8_isAccessed_6 rfl rfl ?_
    refine V_aload_n (j := 0) (q := 9) dX8_isAccessed_8 rfl rfl ?_
    refine V_getP (q := 12) (r := (m + 1)) fX8_7 (W.1.1 0 _ rfl) rfl (W.1.2 0 _ rfl) dX8_isAccessed_9 rfl ?_
    refine V_iconst (q := 13) (v := nI 5) dX8_isAccessed_12 rfl rfl ?_
    refine V_iald (q := 14) (W.1.1 1 _ rfl) (by omega) (by decide) dX8_isAccessed_13 rfl ?_
    refine V_rw (y := nI (pNi P)) W.2.1.2.2.1 ?_
    refine V_icmp_geN (tgt := 115) (q := 17) dX8_isAccessed_14 rfl rfl (by omega) (by omega) (fun c1 => ?_) (fun c1 => ?_)
    · skip
      refine V_iload (j := 4) (q := 117) dX8_isAccessed_115 rfl rfl ?_
      refine V_zret (b := b) rfl dX8_isAccessed_117 rfl rfl ?_
      exact ⟨pvb (by rw [hb, show i = pNi P by omega]), rfl⟩
    · skip
      refine V_aload_n (j := 0) (q := 18) dX8_isAccessed_17 rfl rfl ?_
      refine V_iload (j := 5) (q := 20) dX8_isAccessed_18 rfl rfl ?_
      refine V_cpV (q := 23) (S := []) (v := .int (bi (isAc P i))) kX8_76 (c_isAccess (i := i) W (by omega)) (W.1.1 0 _ rfl) rfl rfl rfl dX8_isAccessed_20 rfl ?_
      refine V_if_eqB (tgt := 62) (q := 26) dX8_isAccessed_23 rfl rfl (fun c2 => ?_) (fun c2 => ?_)
      · skip
        refine V_iconst (q := 63) (v := nI 0) dX8_isAccessed_62 rfl rfl ?_
        refine V_rw (y := bi false) rfl ?_
        refine V_istore (q := 65) (L' := [(6, .int (bi false)), (0, .ref m), (1, .int (nI r)), (2, .int (nI k)), (3, .int (bi wn)), (4, .int (bi b)), (5, .int (nI i))]) dX8_isAccessed_63 rfl rfl rfl ?_
        refine V_iload (j := 5) (q := 67) dX8_isAccessed_65 rfl rfl ?_
        refine V_if_neB (tgt := 102) (q := 70) dX8_isAccessed_67 rfl rfl (fun c3 => ?_) (fun c3 => ?_)
        · skip
          refine V_iconst (q := 103) (v := nI 1) dX8_isAccessed_102 rfl rfl ?_
          refine V_goto (q := 107) dX8_isAccessed_103 rfl ?_
          refine V_rw (y := bi true) rfl ?_
          refine V_istore (q := 109) (L' := [(4, .int (bi true)), (6, .int (bi false)), (0, .ref m), (1, .int (nI r)), (2, .int (nI k)), (3, .int (bi wn)), (5, .int (nI i))]) dX8_isAccessed_107 rfl rfl rfl ?_
          refine V_iincN (j := 6) (q := 112) (L' := [(5, .int (nI (i + 1))), (4, .int (bi true)), (6, .int (bi false)), (0, .ref m), (1, .int (nI r)), (2, .int (nI k)), (3, .int (bi wn))]) dX8_isAccessed_109 rfl rfl rfl rfl ?_
          refine V_goto (q := 6) dX8_isAccessed_112 rfl ?_
          refine V_sub (L' := [(0, .ref m), (1, .int (nI r)), (2, .int (nI k)), (3, .int (bi wn)), (4, .int (bi true)), (5, .int (nI (i + 1)))]) [3, 4, 5, 6, 1, 0] rfl ?_
          refine ih (i + 1) true ?_ ?_ ?_
          · omega
          · rw [anyN_s, ← hb]; simp [acW, acI, c1, c2, c3]
          · omega
        · skip
          refine V_iload (j := 0) (q := 72) dX8_isAccessed_70 rfl rfl ?_
          refine V_if_eqB (tgt := 106) (q := 75) dX8_isAccessed_72 rfl rfl (fun _ => ?_) (fun z => absurd z (by decide))
          refine V_iconst (q := 107) (v := nI 0) dX8_isAccessed_106 rfl rfl ?_
          refine V_rw (y := bi false) rfl ?_
          refine V_istore (q := 109) (L' := [(4, .int (bi false)), (6, .int (bi false)), (0, .ref m), (1, .int (nI r)), (2, .int (nI k)), (3, .int (bi wn)), (5, .int (nI i))]) dX8_isAccessed_107 rfl rfl rfl ?_
          refine V_iincN (j := 6) (q := 112) (L' := [(5, .int (nI (i + 1))), (4, .int (bi false)), (6, .int (bi false)), (0, .ref m), (1, .int (nI r)), (2, .int (nI k)), (3, .int (bi wn))]) dX8_isAccessed_109 rfl rfl rfl rfl ?_
          refine V_goto (q := 6) dX8_isAccessed_112 rfl ?_
          refine V_sub (L' := [(0, .ref m), (1, .int (nI r)), (2, .int (nI k)), (3, .int (bi wn)), (4, .int (bi false)), (5, .int (nI (i + 1)))]) [3, 4, 5, 6, 1, 0] rfl ?_
          refine ih (i + 1) false ?_ ?_ ?_
          · omega
          · rw [anyN_s, ← hb]; simp [acW, acI, c1, c2, c3]
          · omega
      · skip
        have hac := ok_ac W.2.2 (by omega) c2
        refine V_aload_n (j := 0) (q := 27) dX8_isAccessed_26 rfl rfl ?_
        refine V_iload (j := 5) (q := 29) dX8_isAccessed_27 rfl rfl ?_
        refine V_iconst (q := 30) (v := nI 1) dX8_isAccessed_29 rfl rfl ?_
        refine V_cpV (q := 33) (S := []) (v := .int (nI (pFd P i 1))) kX8_72 (c_of (i := i) W (by omega) (by decide)) (W.1.1 0 _ rfl) rfl rfl rfl dX8_isAccessed_30 rfl ?_
        refine V_iload_n (j := 1) (q := 34) dX8_isAccessed_33 rfl rfl ?_
        refine V_icmp_neN (tgt := 62) (q := 37) dX8_isAccessed_34 rfl rfl (by omega) (by omega) (fun c5 => ?_) (fun c5 => ?_)
        · skip
          refine V_iconst (q := 63) (v := nI 0) dX8_isAccessed_62 rfl rfl ?_
          refine V_rw (y := bi false) rfl ?_
          refine V_istore (q := 65) (L' := [(6, .int (bi false)), (0, .ref m), (1, .int (nI r)), (2, .int (nI k)), (3, .int (bi wn)), (4, .int (bi b)), (5, .int (nI i))]) dX8_isAccessed_63 rfl rfl rfl ?_
          refine V_iload (j := 5) (q := 67) dX8_isAccessed_65 rfl rfl ?_
          refine V_if_neB (tgt := 102) (q := 70) dX8_isAccessed_67 rfl rfl (fun c6 => ?_) (fun c6 => ?_)
          · skip
            refine V_iconst (q := 103) (v := nI 1) dX8_isAccessed_102 rfl rfl ?_
            refine V_goto (q := 107) dX8_isAccessed_103 rfl ?_
            refine V_rw (y := bi true) rfl ?_
            refine V_istore (q := 109) (L' := [(4, .int (bi true)), (6, .int (bi false)), (0, .ref m), (1, .int (nI r)), (2, .int (nI k)), (3, .int (bi wn)), (5, .int (nI i))]) dX8_isAccessed_107 rfl rfl rfl ?_
            refine V_iincN (j := 6) (q := 112) (L' := [(5, .int (nI (i + 1))), (4, .int (bi true)), (6, .int (bi false)), (0, .ref m), (1, .int (nI r)), (2, .int (nI k)), (3, .int (bi wn))]) dX8_isAccessed_109 rfl rfl rfl rfl ?_
            refine V_goto (q := 6) dX8_isAccessed_112 rfl ?_
            refine V_sub (L' := [(0, .ref m), (1, .int (nI r)), (2, .int (nI k)), (3, .int (bi wn)), (4, .int (bi true)), (5, .int (nI (i + 1)))]) [3, 4, 5, 6, 1, 0] rfl ?_
            refine ih (i + 1) true ?_ ?_ ?_
            · omega
            · rw [anyN_s, ← hb]; simp [acW, acI, c1, c2, c5, c6]
            · omega
          · skip
            refine V_iload (j := 0) (q := 72) dX8_isAccessed_70 rfl rfl ?_
            refine V_if_eqB (tgt := 106) (q := 75) dX8_isAccessed_72 rfl rfl (fun _ => ?_) (fun z => absurd z (by decide))
            refine V_iconst (q := 107) (v := nI 0) dX8_isAccessed_106 rfl rfl ?_
            refine V_rw (y := bi false) rfl ?_
            refine V_istore (q := 109) (L' := [(4, .int (bi false)), (6, .int (bi false)), (0, .ref m), (1, .int (nI r)), (2, .int (nI k)), (3, .int (bi wn)), (5, .int (nI i))]) dX8_isAccessed_107 rfl rfl rfl ?_
            refine V_iincN (j := 6) (q := 112) (L' := [(5, .int (nI (i + 1))), (4, .int (bi false)), (6, .int (bi false)), (0, .ref m), (1, .int (nI r)), (2, .int (nI k)), (3, .int (bi wn))]) dX8_isAccessed_109 rfl rfl rfl rfl ?_
            refine V_goto (q := 6) dX8_isAccessed_112 rfl ?_
            refine V_sub (L' := [(0, .ref m), (1, .int (nI r)), (2, .int (nI k)), (3, .int (bi wn)), (4, .int (bi false)), (5, .int (nI (i + 1)))]) [3, 4, 5, 6, 1, 0] rfl ?_
            refine ih (i + 1) false ?_ ?_ ?_
            · omega
            · rw [anyN_s, ← hb]; simp [acW, acI, c1, c2, c5, c6]
            · omega
        · skip
          refine V_aload_n (j := 0) (q := 38) dX8_isAccessed_37 rfl rfl ?_
          refine V_iload (j := 5) (q := 40) dX8_isAccessed_38 rfl rfl ?_
          refine V_iconst (q := 41) (v := nI 2) dX8_isAccessed_40 rfl rfl ?_
          refine V_cpV (q := 44) (S := []) (v := .int (nI (pFd P i 2))) kX8_72 (c_of (i := i) W (by omega) (by decide)) (W.1.1 0 _ rfl) rfl rfl rfl dX8_isAccessed_41 rfl ?_
          refine V_aload_n (j := 0) (q := 45) dX8_isAccessed_44 rfl rfl ?_
          refine V_iload (j := 5) (q := 47) dX8_isAccessed_45 rfl rfl ?_
          refine V_iconst (q := 48) (v := nI 3) dX8_isAccessed_47 rfl rfl ?_
          refine V_cpV (q := 51) (S := [.int (nI (pFd P i 2))]) (v := .int (nI (pFd P i 3))) kX8_72 (c_of (i := i) W (by omega) (by decide)) (W.1.1 0 _ rfl) rfl rfl rfl dX8_isAccessed_48 rfl ?_
          refine V_iload_n (j := 2) (q := 52) dX8_isAccessed_51 rfl rfl ?_
          refine V_cpS (q := 55) (S := []) (v := .int (bi (hld (pFd P i 2) (pFd P i 3) k))) kX8_79 (c_holds (a := pFd P i 2) (b := pFd P i 3) (c := k) (by omega) (by omega)) rfl rfl rfl dX8_isAccessed_52 rfl ?_
          refine V_if_eqB (tgt := 62) (q := 58) dX8_isAccessed_55 rfl rfl (fun c8 => ?_) (fun c8 => ?_)
          · skip
            refine V_iconst (q := 63) (v := nI 0) dX8_isAccessed_62 rfl rfl ?_
            refine V_rw (y := bi false) rfl ?_
            refine V_istore (q := 65) (L' := [(6, .int (bi false)), (0, .ref m), (1, .int (nI r)), (2, .int (nI k)), (3, .int (bi wn)), (4, .int (bi b)), (5, .int (nI i))]) dX8_isAccessed_63 rfl rfl rfl ?_
            refine V_iload (j := 5) (q := 67) dX8_isAccessed_65 rfl rfl ?_
            refine V_if_neB (tgt := 102) (q := 70) dX8_isAccessed_67 rfl rfl (fun c9 => ?_) (fun c9 => ?_)
            · skip
              refine V_iconst (q := 103) (v := nI 1) dX8_isAccessed_102 rfl rfl ?_
              refine V_goto (q := 107) dX8_isAccessed_103 rfl ?_
              refine V_rw (y := bi true) rfl ?_
              refine V_istore (q := 109) (L' := [(4, .int (bi true)), (6, .int (bi false)), (0, .ref m), (1, .int (nI r)), (2, .int (nI k)), (3, .int (bi wn)), (5, .int (nI i))]) dX8_isAccessed_107 rfl rfl rfl ?_
              refine V_iincN (j := 6) (q := 112) (L' := [(5, .int (nI (i + 1))), (4, .int (bi true)), (6, .int (bi false)), (0, .ref m), (1, .int (nI r)), (2, .int (nI k)), (3, .int (bi wn))]) dX8_isAccessed_109 rfl rfl rfl rfl ?_
              refine V_goto (q := 6) dX8_isAccessed_112 rfl ?_
              refine V_sub (L' := [(0, .ref m), (1, .int (nI r)), (2, .int (nI k)), (3, .int (bi wn)), (4, .int (bi true)), (5, .int (nI (i + 1)))]) [3, 4, 5, 6, 1, 0] rfl ?_
              refine ih (i + 1) true ?_ ?_ ?_
              · omega
              · rw [anyN_s, ← hb]; simp [acW, acI, c1, c2, c5, c8, c9]
              · omega
            · skip
              refine V_iload (j := 0) (q := 72) dX8_isAccessed_70 rfl rfl ?_
              refine V_if_eqB (tgt := 106) (q := 75) dX8_isAccessed_72 rfl rfl (fun _ => ?_) (fun z => absurd z (by decide))
              refine V_iconst (q := 107) (v := nI 0) dX8_isAccessed_106 rfl rfl ?_
              refine V_rw (y := bi false) rfl ?_
              refine V_istore (q := 109) (L' := [(4, .int (bi false)), (6, .int (bi false)), (0, .ref m), (1, .int (nI r)), (2, .int (nI k)), (3, .int (bi wn)), (5, .int (nI i))]) dX8_isAccessed_107 rfl rfl rfl ?_
              refine V_iincN (j := 6) (q := 112) (L' := [(5, .int (nI (i + 1))), (4, .int (bi false)), (6, .int (bi false)), (0, .ref m), (1, .int (nI r)), (2, .int (nI k)), (3, .int (bi wn))]) dX8_isAccessed_109 rfl rfl rfl rfl ?_
              refine V_goto (q := 6) dX8_isAccessed_112 rfl ?_
              refine V_sub (L' := [(0, .ref m), (1, .int (nI r)), (2, .int (nI k)), (3, .int (bi wn)), (4, .int (bi false)), (5, .int (nI (i + 1)))]) [3, 4, 5, 6, 1, 0] rfl ?_
              refine ih (i + 1) false ?_ ?_ ?_
              · omega
              · rw [anyN_s, ← hb]; simp [acW, acI, c1, c2, c5, c8, c9]
              · omega
          · skip
            refine V_iconst (q := 59) (v := nI 1) dX8_isAccessed_58 rfl rfl ?_
            refine V_goto (q := 63) dX8_isAccessed_59 rfl ?_
            refine V_rw (y := bi true) rfl ?_
            refine V_istore (q := 65) (L' := [(6, .int (bi true)), (0, .ref m), (1, .int (nI r)), (2, .int (nI k)), (3, .int (bi wn)), (4, .int (bi b)), (5, .int (nI i))]) dX8_isAccessed_63 rfl rfl rfl ?_
            refine V_iload (j := 5) (q := 67) dX8_isAccessed_65 rfl rfl ?_
            refine V_if_neB (tgt := 102) (q := 70) dX8_isAccessed_67 rfl rfl (fun c11 => ?_) (fun c11 => ?_)
            · skip
              refine V_iconst (q := 103) (v := nI 1) dX8_isAccessed_102 rfl rfl ?_
              refine V_goto (q := 107) dX8_isAccessed_103 rfl ?_
              refine V_rw (y := bi true) rfl ?_
              refine V_istore (q := 109) (L' := [(4, .int (bi true)), (6, .int (bi true)), (0, .ref m), (1, .int (nI r)), (2, .int (nI k)), (3, .int (bi wn)), (5, .int (nI i))]) dX8_isAccessed_107 rfl rfl rfl ?_
              refine V_iincN (j := 6) (q := 112) (L' := [(5, .int (nI (i + 1))), (4, .int (bi true)), (6, .int (bi true)), (0, .ref m), (1, .int (nI r)), (2, .int (nI k)), (3, .int (bi wn))]) dX8_isAccessed_109 rfl rfl rfl rfl ?_
              refine V_goto (q := 6) dX8_isAccessed_112 rfl ?_
              refine V_sub (L' := [(0, .ref m), (1, .int (nI r)), (2, .int (nI k)), (3, .int (bi wn)), (4, .int (bi true)), (5, .int (nI (i + 1)))]) [3, 4, 5, 6, 1, 0] rfl ?_
              refine ih (i + 1) true ?_ ?_ ?_
              · omega
              · rw [anyN_s, ← hb]; simp [acW, acI, c1, c2, c5, c8, c11]
              · omega
            · skip
              refine V_iload (j := 0) (q := 72) dX8_isAccessed_70 rfl rfl ?_
              refine V_if_eqB (tgt := 106) (q := 75) dX8_isAccessed_72 rfl rfl (fun z => absurd z (by decide)) (fun _ => ?_)
              refine V_iload_n (j := 4) (q := 76) dX8_isAccessed_75 rfl rfl ?_
              refine V_if_eqB (tgt := 102) (q := 79) dX8_isAccessed_76 rfl rfl (fun c13 => ?_) (fun c13 => ?_)
              · skip
                refine V_iconst (q := 103) (v := nI 1) dX8_isAccessed_102 rfl rfl ?_
                refine V_goto (q := 107) dX8_isAccessed_103 rfl ?_
                refine V_rw (y := bi true) rfl ?_
                refine V_istore (q := 109) (L' := [(4, .int (bi true)), (6, .int (bi true)), (0, .ref m), (1, .int (nI r)), (2, .int (nI k)), (3, .int (bi wn)), (5, .int (nI i))]) dX8_isAccessed_107 rfl rfl rfl ?_
                refine V_iincN (j := 6) (q := 112) (L' := [(5, .int (nI (i + 1))), (4, .int (bi true)), (6, .int (bi true)), (0, .ref m), (1, .int (nI r)), (2, .int (nI k)), (3, .int (bi wn))]) dX8_isAccessed_109 rfl rfl rfl rfl ?_
                refine V_goto (q := 6) dX8_isAccessed_112 rfl ?_
                refine V_sub (L' := [(0, .ref m), (1, .int (nI r)), (2, .int (nI k)), (3, .int (bi wn)), (4, .int (bi true)), (5, .int (nI (i + 1)))]) [3, 4, 5, 6, 1, 0] rfl ?_
                refine ih (i + 1) true ?_ ?_ ?_
                · omega
                · rw [anyN_s, ← hb]; simp [acW, acI, c1, c2, c5, c8, c11, c13]
                · omega
              · skip
                refine V_aload_n (j := 1) (q := 80) dX8_isAccessed_79 rfl rfl ?_
                refine V_iload (j := 6) (q := 82) dX8_isAccessed_80 rfl rfl ?_
                refine V_iconst (q := 83) (v := nI 2) dX8_isAccessed_82 rfl rfl ?_
                refine V_cpV (q := 86) (S := []) (v := .int (nI (pFd P i 2))) kX8_72 (c_of (i := i) W (by omega) (by decide)) (W.1.1 0 _ rfl) rfl rfl rfl dX8_isAccessed_83 rfl ?_
                refine V_aload_n (j := 1) (q := 87) dX8_isAccessed_86 rfl rfl ?_
                refine V_iload (j := 6) (q := 89) dX8_isAccessed_87 rfl rfl ?_
                refine V_iconst (q := 90) (v := nI 3) dX8_isAccessed_89 rfl rfl ?_
                refine V_cpV (q := 93) (S := [.int (nI (pFd P i 2))]) (v := .int (nI (pFd P i 3))) kX8_72 (c_of (i := i) W (by omega) (by decide)) (W.1.1 0 _ rfl) rfl rfl rfl dX8_isAccessed_90 rfl ?_
                refine V_iload_n (j := 3) (q := 94) dX8_isAccessed_93 rfl rfl ?_
                refine V_iconst (q := 95) (v := nI 1) dX8_isAccessed_94 rfl rfl ?_
                refine V_iaddN (q := 96) dX8_isAccessed_95 rfl ?_
                refine V_cpS (q := 99) (S := []) (v := .int (bi (hld (pFd P i 2) (pFd P i 3) (k + 1)))) kX8_79 (c_holds (a := pFd P i 2) (b := pFd P i 3) (c := k + 1) (by omega) (by omega)) rfl rfl rfl dX8_isAccessed_96 rfl ?_
                refine V_if_eqB (tgt := 106) (q := 102) dX8_isAccessed_99 rfl rfl (fun c14 => ?_) (fun c14 => ?_)
                · skip
                  refine V_iconst (q := 107) (v := nI 0) dX8_isAccessed_106 rfl rfl ?_
                  refine V_rw (y := bi false) rfl ?_
                  refine V_istore (q := 109) (L' := [(4, .int (bi false)), (6, .int (bi true)), (0, .ref m), (1, .int (nI r)), (2, .int (nI k)), (3, .int (bi wn)), (5, .int (nI i))]) dX8_isAccessed_107 rfl rfl rfl ?_
                  refine V_iincN (j := 6) (q := 112) (L' := [(5, .int (nI (i + 1))), (4, .int (bi false)), (6, .int (bi true)), (0, .ref m), (1, .int (nI r)), (2, .int (nI k)), (3, .int (bi wn))]) dX8_isAccessed_109 rfl rfl rfl rfl ?_
                  refine V_goto (q := 6) dX8_isAccessed_112 rfl ?_
                  refine V_sub (L' := [(0, .ref m), (1, .int (nI r)), (2, .int (nI k)), (3, .int (bi wn)), (4, .int (bi false)), (5, .int (nI (i + 1)))]) [3, 4, 5, 6, 1, 0] rfl ?_
                  refine ih (i + 1) false ?_ ?_ ?_
                  · omega
                  · rw [anyN_s, ← hb]; simp [acW, acI, c1, c2, c5, c8, c11, c13, c14]
                  · omega
                · skip
                  refine V_iconst (q := 103) (v := nI 1) dX8_isAccessed_102 rfl rfl ?_
                  refine V_goto (q := 107) dX8_isAccessed_103 rfl ?_
                  refine V_rw (y := bi true) rfl ?_
                  refine V_istore (q := 109) (L' := [(4, .int (bi true)), (6, .int (bi true)), (0, .ref m), (1, .int (nI r)), (2, .int (nI k)), (3, .int (bi wn)), (5, .int (nI i))]) dX8_isAccessed_107 rfl rfl rfl ?_
                  refine V_iincN (j := 6) (q := 112) (L' := [(5, .int (nI (i + 1))), (4, .int (bi true)), (6, .int (bi true)), (0, .ref m), (1, .int (nI r)), (2, .int (nI k)), (3, .int (bi wn))]) dX8_isAccessed_109 rfl rfl rfl rfl ?_
                  refine V_goto (q := 6) dX8_isAccessed_112 rfl ?_
                  refine V_sub (L' := [(0, .ref m), (1, .int (nI r)), (2, .int (nI k)), (3, .int (bi wn)), (4, .int (bi true)), (5, .int (nI (i + 1)))]) [3, 4, 5, 6, 1, 0] rfl ?_
                  refine ih (i + 1) true ?_ ?_ ?_
                  · omega
                  · rw [anyN_s, ← hb]; simp [acW, acI, c1, c2, c5, c8, c11, c13, c14]
                  · omega

set_option maxHeartbeats 4000000 in
set_option maxRecDepth 100000 in
theorem c_isAccessed {g : GX} {h : AH} {m : Nat} {P : PG} (W : RF h m P) {r k : Nat} {wn : Bool} (hr : r < 2 ^ 30) (hk : k < 2 ^ 30) : Ct g mX8_isAccessed 2 0 0 [.ref m, .int (nI r), .int (nI k), .int (bi wn)] h (fun ρ η => ρ = some (.int (bi (anyN (pNi P) (acW P r k wn)))) ∧ η = h) := by
  refine Ct_intro (by decide +kernel) (Nat.le_of_ble_eq_true rfl) ?_
  show V g mX8_isAccessed _ h 0 0 [(0, .ref m), (1, .int (nI r)), (2, .int (nI k)), (3, .int (bi wn))] 0 []
  have hN := W.2.2.2.2.1
  have hR := W.2.2.1
  refine V_iconst (q := 1) (v := nI 0) dX8_isAccessed_0 rfl rfl ?_
  refine V_rw (y := bi false) rfl ?_
  refine V_istore (q := 3) (L' := [(4, .int (bi false)), (0, .ref m), (1, .int (nI r)), (2, .int (nI k)), (3, .int (bi wn))]) dX8_isAccessed_1 rfl rfl rfl ?_
  refine V_iconst (q := 4) (v := nI 0) dX8_isAccessed_3 rfl rfl ?_
  refine V_istore (q := 6) (L' := [(5, .int (nI 0)), (4, .int (bi false)), (0, .ref m), (1, .int (nI r)), (2, .int (nI k)), (3, .int (bi wn))]) dX8_isAccessed_4 rfl rfl rfl ?_
  refine V_sub (L' := [(0, .ref m), (1, .int (nI r)), (2, .int (nI k)), (3, .int (bi wn)), (4, .int (bi false)), (5, .int (nI 0))]) [2, 3, 4, 5, 1, 0] rfl ?_
  refine lp_isAccessed W hr hk (pNi P - 0 + 1) 0 false ?_ ?_ ?_
  · omega
  · rfl
  · exact Nat.lt_succ_self _
end
section
theorem c_isAccF {g : GX} {h : AH} {m : Nat} {P : PG} (W : RF h m P) {r k : Nat} (hr : r < 2 ^ 30) (hk : k < 2 ^ 30) : Cp g mX8_isAccessed 2 [.ref m, .int (nI r), .int (nI k), .int (bi false)] h (.int (bi (acc P r k))) := by
  have := c_isAccessed (g := g) (wn := false) W hr hk
  rw [acW_f] at this
  exact this
theorem c_isAccT {g : GX} {h : AH} {m : Nat} {P : PG} (W : RF h m P) {r k : Nat} (hr : r < 2 ^ 30) (hk : k < 2 ^ 30) : Cp g mX8_isAccessed 2 [.ref m, .int (nI r), .int (nI k), .int (bi true)] h (.int (bi (jnd P r k))) := by
  have := c_isAccessed (g := g) (wn := true) W hr hk
  rw [acW_t] at this
  exact this

set_option maxHeartbeats 4000000 in
set_option maxRecDepth 100000 in
theorem c_isCopied {g : GX} {h : AH} {m : Nat} {P : PG} (W : RF h m P) {i side r k : Nat} (hi : i < pNi P) (hs : side < 2) (hr : r < 2 ^ 30) (hk : k < 2 ^ 30) : Ct g mX8_isCopied 1 0 0 [.ref m, .int (nI i), .int (nI side), .int (nI r), .int (nI k)] h (fun ρ η => ρ = some (.int (bi (cpd P i side r k))) ∧ η = h) := by
  refine Ct_intro (by decide +kernel) (Nat.le_of_ble_eq_true rfl) ?_
  show V g mX8_isCopied _ h 0 0 [(0, .ref m), (1, .int (nI i)), (2, .int (nI side)), (3, .int (nI r)), (4, .int (nI k))] 0 []
  have hN := W.2.2.2.2.1
  have hR := W.2.2.1
  have hk0 := ok_kd W.2.2 hi
  refine V_aload_n (j := 0) (q := 1) dX8_isCopied_0 rfl rfl ?_
  refine V_iload_n (j := 1) (q := 2) dX8_isCopied_1 rfl rfl ?_
  refine V_iconst (q := 3) (v := nI 0) dX8_isCopied_2 rfl rfl ?_
  refine V_cpV (q := 6) (S := []) (v := .int (nI (pFd P i 0))) kX8_72 (c_of (i := i) W (by omega) (by omega)) (W.1.1 0 _ rfl) rfl rfl rfl dX8_isCopied_3 rfl ?_
  refine V_iconst (q := 7) (v := nI 3) dX8_isCopied_6 rfl rfl ?_
  refine V_icmp_neN (tgt := 52) (q := 10) dX8_isCopied_7 rfl rfl (by omega) (by omega) (fun c1 => ?_) (fun c1 => ?_)
  · skip
    refine V_iconst (q := 53) (v := nI 0) dX8_isCopied_52 rfl rfl ?_
    refine V_rw (y := bi false) rfl ?_
    refine V_zret (b := false) rfl dX8_isCopied_53 rfl rfl ?_
    exact ⟨pvb (by simp [cpd, c1]), rfl⟩
  · skip
    have ac1 := ok_cp W.2.2 (i := i) (by omega) c1
    have bc1 := ok_cs W.2.2 hi hs c1
    refine V_aload_n (j := 0) (q := 11) dX8_isCopied_10 rfl rfl ?_
    refine V_iload_n (j := 1) (q := 12) dX8_isCopied_11 rfl rfl ?_
    refine V_iconst (q := 13) (v := nI 1) dX8_isCopied_12 rfl rfl ?_
    refine V_iconst (q := 14) (v := nI 2) dX8_isCopied_13 rfl rfl ?_
    refine V_iload_n (j := 2) (q := 15) dX8_isCopied_14 rfl rfl ?_
    refine V_imulN (q := 16) dX8_isCopied_15 rfl ?_
    refine V_iaddN (q := 17) dX8_isCopied_16 rfl ?_
    refine V_cpV (q := 20) (S := []) (v := .int (nI (pFd P i (1 + (2 * side))))) kX8_72 (c_of (i := i) W (by omega) (by omega)) (W.1.1 0 _ rfl) rfl rfl rfl dX8_isCopied_17 rfl ?_
    refine V_iload_n (j := 3) (q := 21) dX8_isCopied_20 rfl rfl ?_
    refine V_icmp_neN (tgt := 52) (q := 24) dX8_isCopied_21 rfl rfl (by omega) (by omega) (fun c2 => ?_) (fun c2 => ?_)
    · skip
      refine V_iconst (q := 53) (v := nI 0) dX8_isCopied_52 rfl rfl ?_
      refine V_rw (y := bi false) rfl ?_
      refine V_zret (b := false) rfl dX8_isCopied_53 rfl rfl ?_
      exact ⟨pvb (by simp [cpd, c1, c2]), rfl⟩
    · skip
      refine V_aload_n (j := 0) (q := 25) dX8_isCopied_24 rfl rfl ?_
      refine V_iload_n (j := 1) (q := 26) dX8_isCopied_25 rfl rfl ?_
      refine V_iconst (q := 27) (v := nI 2) dX8_isCopied_26 rfl rfl ?_
      refine V_iconst (q := 28) (v := nI 2) dX8_isCopied_27 rfl rfl ?_
      refine V_iload_n (j := 2) (q := 29) dX8_isCopied_28 rfl rfl ?_
      refine V_imulN (q := 30) dX8_isCopied_29 rfl ?_
      refine V_iaddN (q := 31) dX8_isCopied_30 rfl ?_
      refine V_cpV (q := 34) (S := []) (v := .int (nI (pFd P i (2 + (2 * side))))) kX8_72 (c_of (i := i) W (by omega) (by omega)) (W.1.1 0 _ rfl) rfl rfl rfl dX8_isCopied_31 rfl ?_
      refine V_aload_n (j := 0) (q := 35) dX8_isCopied_34 rfl rfl ?_
      refine V_iload_n (j := 1) (q := 36) dX8_isCopied_35 rfl rfl ?_
      refine V_iconst (q := 37) (v := nI 5) dX8_isCopied_36 rfl rfl ?_
      refine V_cpV (q := 40) (S := [.int (nI (pFd P i (2 + (2 * side))))]) (v := .int (nI (pFd P i 5))) kX8_72 (c_of (i := i) W (by omega) (by omega)) (W.1.1 0 _ rfl) rfl rfl rfl dX8_isCopied_37 rfl ?_
      refine V_iload (j := 4) (q := 42) dX8_isCopied_40 rfl rfl ?_
      refine V_cpS (q := 45) (S := []) (v := .int (bi (hld (pFd P i (2 + (2 * side))) (pFd P i 5) k))) kX8_79 (c_holds (a := pFd P i (2 + (2 * side))) (b := pFd P i 5) (c := k) (by omega) (by omega)) rfl rfl rfl dX8_isCopied_42 rfl ?_
      refine V_if_eqB (tgt := 52) (q := 48) dX8_isCopied_45 rfl rfl (fun c3 => ?_) (fun c3 => ?_)
      · skip
        refine V_iconst (q := 53) (v := nI 0) dX8_isCopied_52 rfl rfl ?_
        refine V_rw (y := bi false) rfl ?_
        refine V_zret (b := false) rfl dX8_isCopied_53 rfl rfl ?_
        exact ⟨pvb (by simp [cpd, c1, c2, c3]), rfl⟩
      · skip
        refine V_iconst (q := 49) (v := nI 1) dX8_isCopied_48 rfl rfl ?_
        refine V_goto (q := 53) dX8_isCopied_49 rfl ?_
        refine V_rw (y := bi true) rfl ?_
        refine V_zret (b := true) rfl dX8_isCopied_53 rfl rfl ?_
        exact ⟨pvb (by simp [cpd, c1, c2, c3]), rfl⟩

set_option maxHeartbeats 4000000 in
set_option maxRecDepth 100000 in
theorem lp_isSoft {g : GX} {h : AH} {m : Nat} {P : PG} (W : RF h m P) {r k : Nat} (hr : r < 2 ^ 30) (hk : k < 2 ^ 30) : ∀ (t : Nat) (i : Nat) (b : Bool), (i ≤ pNi P) → (b = anyN i (cpE P r k)) → pNi P - i < t → V g mX8_isSoft (thM g 3 0 0 (fun ρ η => ρ = some (.int (bi (sft P r k))) ∧ η = h)) h 0 0 [(0, .ref m), (1, .int (nI r)), (2, .int (nI k)), (3, .int (bi b)), (4, .int (nI i))] 5 [] := by
  intro t
  induction t with
  | zero =>
    intro i b hi hb hfu
    exact absurd hfu (Nat.not_lt_zero _)
  | succ t ih =>
    intro i b hi hb hfu
    have hN := W.2.2.2.2.1
    have hR := W.2.2.1
    refine V_iload (j := 4) (q := 7) dX8_isSoft_5 rfl rfl ?_
    refine V_aload_n (j := 0) (q := 8) dX8_isSoft_7 rfl rfl ?_
    refine V_getP (q := 11) (r := (m + 1)) fX8_7 (W.1.1 0 _ rfl) rfl (W.1.2 0 _ rfl) dX8_isSoft_8 rfl ?_
    refine V_iconst (q := 12) (v := nI 5) dX8_isSoft_11 rfl rfl ?_
    refine V_iald (q := 13) (W.1.1 1 _ rfl) (by omega) (by decide) dX8_isSoft_12 rfl ?_
    refine V_rw (y := nI (pNi P)) W.2.1.2.2.1 ?_
    refine V_icmp_geN (tgt := 56) (q := 16) dX8_isSoft_13 rfl rfl (by omega) (by omega) (fun c1 => ?_) (fun c1 => ?_)
    · skip
      refine V_iload_n (j := 3) (q := 57) dX8_isSoft_56 rfl rfl ?_
      refine V_if_eqB (tgt := 74) (q := 60) dX8_isSoft_57 rfl rfl (fun c2 => ?_) (fun c2 => ?_)
      · skip
        refine V_iconst (q := 75) (v := nI 0) dX8_isSoft_74 rfl rfl ?_
        refine V_rw (y := bi false) rfl ?_
        refine V_zret (b := false) rfl dX8_isSoft_75 rfl rfl ?_
        exact ⟨pvb (by have hx : inC P r k = b := (by rw [hb, show i = pNi P by omega]; rfl); simp [sft, hx, c1, c2]), rfl⟩
      · skip
        refine V_aload_n (j := 0) (q := 61) dX8_isSoft_60 rfl rfl ?_
        refine V_iload_n (j := 1) (q := 62) dX8_isSoft_61 rfl rfl ?_
        refine V_iload_n (j := 2) (q := 63) dX8_isSoft_62 rfl rfl ?_
        refine V_iconst (q := 64) (v := nI 0) dX8_isSoft_63 rfl rfl ?_
        refine V_cpV (q := 67) (S := []) (v := .int (bi (acc P r k))) kX8_86 (c_isAccF (r := r) (k := k) W (by omega) (by omega)) (W.1.1 0 _ rfl) rfl rfl rfl dX8_isSoft_64 rfl ?_
        refine V_if_neB (tgt := 74) (q := 70) dX8_isSoft_67 rfl rfl (fun c3 => ?_) (fun c3 => ?_)
        · skip
          refine V_iconst (q := 75) (v := nI 0) dX8_isSoft_74 rfl rfl ?_
          refine V_rw (y := bi false) rfl ?_
          refine V_zret (b := false) rfl dX8_isSoft_75 rfl rfl ?_
          exact ⟨pvb (by have hx : inC P r k = b := (by rw [hb, show i = pNi P by omega]; rfl); simp [sft, hx, c1, c2, c3]), rfl⟩
        · skip
          refine V_iconst (q := 71) (v := nI 1) dX8_isSoft_70 rfl rfl ?_
          refine V_goto (q := 75) dX8_isSoft_71 rfl ?_
          refine V_rw (y := bi true) rfl ?_
          refine V_zret (b := true) rfl dX8_isSoft_75 rfl rfl ?_
          exact ⟨pvb (by have hx : inC P r k = b := (by rw [hb, show i = pNi P by omega]; rfl); simp [sft, hx, c1, c2, c3]), rfl⟩
    · skip
      refine V_iload_n (j := 3) (q := 17) dX8_isSoft_16 rfl rfl ?_
      refine V_if_neB (tgt := 44) (q := 20) dX8_isSoft_17 rfl rfl (fun c4 => ?_) (fun c4 => ?_)
      · skip
        refine V_iconst (q := 45) (v := nI 1) dX8_isSoft_44 rfl rfl ?_
        refine V_goto (q := 49) dX8_isSoft_45 rfl ?_
        refine V_rw (y := bi true) rfl ?_
        refine V_istore_n (q := 50) (L' := [(3, .int (bi true)), (0, .ref m), (1, .int (nI r)), (2, .int (nI k)), (4, .int (nI i))]) dX8_isSoft_49 rfl rfl rfl ?_
        refine V_iincN (j := 4) (q := 53) (L' := [(4, .int (nI (i + 1))), (3, .int (bi true)), (0, .ref m), (1, .int (nI r)), (2, .int (nI k))]) dX8_isSoft_50 rfl rfl rfl rfl ?_
        refine V_goto (q := 5) dX8_isSoft_53 rfl ?_
        refine V_sub (L' := [(0, .ref m), (1, .int (nI r)), (2, .int (nI k)), (3, .int (bi true)), (4, .int (nI (i + 1)))]) [2, 3, 4, 1, 0] rfl ?_
        refine ih (i + 1) true ?_ ?_ ?_
        · omega
        · rw [anyN_s, ← hb]; simp [cpE, c1, c4]
        · omega
      · skip
        refine V_aload_n (j := 0) (q := 21) dX8_isSoft_20 rfl rfl ?_
        refine V_iload (j := 4) (q := 23) dX8_isSoft_21 rfl rfl ?_
        refine V_iconst (q := 24) (v := nI 0) dX8_isSoft_23 rfl rfl ?_
        refine V_iload_n (j := 1) (q := 25) dX8_isSoft_24 rfl rfl ?_
        refine V_iload_n (j := 2) (q := 26) dX8_isSoft_25 rfl rfl ?_
        refine V_cpV (q := 29) (S := []) (v := .int (bi (cpd P i 0 r k))) kX8_82 (c_isCopied (i := i) (side := 0) (r := r) (k := k) W (by omega) (by omega) (by omega) (by omega)) (W.1.1 0 _ rfl) rfl rfl rfl dX8_isSoft_26 rfl ?_
        refine V_if_neB (tgt := 44) (q := 32) dX8_isSoft_29 rfl rfl (fun c5 => ?_) (fun c5 => ?_)
        · skip
          refine V_iconst (q := 45) (v := nI 1) dX8_isSoft_44 rfl rfl ?_
          refine V_goto (q := 49) dX8_isSoft_45 rfl ?_
          refine V_rw (y := bi true) rfl ?_
          refine V_istore_n (q := 50) (L' := [(3, .int (bi true)), (0, .ref m), (1, .int (nI r)), (2, .int (nI k)), (4, .int (nI i))]) dX8_isSoft_49 rfl rfl rfl ?_
          refine V_iincN (j := 4) (q := 53) (L' := [(4, .int (nI (i + 1))), (3, .int (bi true)), (0, .ref m), (1, .int (nI r)), (2, .int (nI k))]) dX8_isSoft_50 rfl rfl rfl rfl ?_
          refine V_goto (q := 5) dX8_isSoft_53 rfl ?_
          refine V_sub (L' := [(0, .ref m), (1, .int (nI r)), (2, .int (nI k)), (3, .int (bi true)), (4, .int (nI (i + 1)))]) [2, 3, 4, 1, 0] rfl ?_
          refine ih (i + 1) true ?_ ?_ ?_
          · omega
          · rw [anyN_s, ← hb]; simp [cpE, c1, c4, c5]
          · omega
        · skip
          refine V_aload_n (j := 0) (q := 33) dX8_isSoft_32 rfl rfl ?_
          refine V_iload (j := 4) (q := 35) dX8_isSoft_33 rfl rfl ?_
          refine V_iconst (q := 36) (v := nI 1) dX8_isSoft_35 rfl rfl ?_
          refine V_iload_n (j := 1) (q := 37) dX8_isSoft_36 rfl rfl ?_
          refine V_iload_n (j := 2) (q := 38) dX8_isSoft_37 rfl rfl ?_
          refine V_cpV (q := 41) (S := []) (v := .int (bi (cpd P i 1 r k))) kX8_82 (c_isCopied (i := i) (side := 1) (r := r) (k := k) W (by omega) (by omega) (by omega) (by omega)) (W.1.1 0 _ rfl) rfl rfl rfl dX8_isSoft_38 rfl ?_
          refine V_if_eqB (tgt := 48) (q := 44) dX8_isSoft_41 rfl rfl (fun c6 => ?_) (fun c6 => ?_)
          · skip
            refine V_iconst (q := 49) (v := nI 0) dX8_isSoft_48 rfl rfl ?_
            refine V_rw (y := bi false) rfl ?_
            refine V_istore_n (q := 50) (L' := [(3, .int (bi false)), (0, .ref m), (1, .int (nI r)), (2, .int (nI k)), (4, .int (nI i))]) dX8_isSoft_49 rfl rfl rfl ?_
            refine V_iincN (j := 4) (q := 53) (L' := [(4, .int (nI (i + 1))), (3, .int (bi false)), (0, .ref m), (1, .int (nI r)), (2, .int (nI k))]) dX8_isSoft_50 rfl rfl rfl rfl ?_
            refine V_goto (q := 5) dX8_isSoft_53 rfl ?_
            refine V_sub (L' := [(0, .ref m), (1, .int (nI r)), (2, .int (nI k)), (3, .int (bi false)), (4, .int (nI (i + 1)))]) [2, 3, 4, 1, 0] rfl ?_
            refine ih (i + 1) false ?_ ?_ ?_
            · omega
            · rw [anyN_s, ← hb]; simp [cpE, c1, c4, c5, c6]
            · omega
          · skip
            refine V_iconst (q := 45) (v := nI 1) dX8_isSoft_44 rfl rfl ?_
            refine V_goto (q := 49) dX8_isSoft_45 rfl ?_
            refine V_rw (y := bi true) rfl ?_
            refine V_istore_n (q := 50) (L' := [(3, .int (bi true)), (0, .ref m), (1, .int (nI r)), (2, .int (nI k)), (4, .int (nI i))]) dX8_isSoft_49 rfl rfl rfl ?_
            refine V_iincN (j := 4) (q := 53) (L' := [(4, .int (nI (i + 1))), (3, .int (bi true)), (0, .ref m), (1, .int (nI r)), (2, .int (nI k))]) dX8_isSoft_50 rfl rfl rfl rfl ?_
            refine V_goto (q := 5) dX8_isSoft_53 rfl ?_
            refine V_sub (L' := [(0, .ref m), (1, .int (nI r)), (2, .int (nI k)), (3, .int (bi true)), (4, .int (nI (i + 1)))]) [2, 3, 4, 1, 0] rfl ?_
            refine ih (i + 1) true ?_ ?_ ?_
            · omega
            · rw [anyN_s, ← hb]; simp [cpE, c1, c4, c5, c6]
            · omega

set_option maxHeartbeats 4000000 in
set_option maxRecDepth 100000 in
theorem c_isSoft {g : GX} {h : AH} {m : Nat} {P : PG} (W : RF h m P) {r k : Nat} (hr : r < 2 ^ 30) (hk : k < 2 ^ 30) : Ct g mX8_isSoft 3 0 0 [.ref m, .int (nI r), .int (nI k)] h (fun ρ η => ρ = some (.int (bi (sft P r k))) ∧ η = h) := by
  refine Ct_intro (by decide +kernel) (Nat.le_of_ble_eq_true rfl) ?_
  show V g mX8_isSoft _ h 0 0 [(0, .ref m), (1, .int (nI r)), (2, .int (nI k))] 0 []
  have hN := W.2.2.2.2.1
  have hR := W.2.2.1
  refine V_iconst (q := 1) (v := nI 0) dX8_isSoft_0 rfl rfl ?_
  refine V_rw (y := bi false) rfl ?_
  refine V_istore_n (q := 2) (L' := [(3, .int (bi false)), (0, .ref m), (1, .int (nI r)), (2, .int (nI k))]) dX8_isSoft_1 rfl rfl rfl ?_
  refine V_iconst (q := 3) (v := nI 0) dX8_isSoft_2 rfl rfl ?_
  refine V_istore (q := 5) (L' := [(4, .int (nI 0)), (3, .int (bi false)), (0, .ref m), (1, .int (nI r)), (2, .int (nI k))]) dX8_isSoft_3 rfl rfl rfl ?_
  refine V_sub (L' := [(0, .ref m), (1, .int (nI r)), (2, .int (nI k)), (3, .int (bi false)), (4, .int (nI 0))]) [2, 3, 4, 1, 0] rfl ?_
  refine lp_isSoft W hr hk (pNi P - 0 + 1) 0 false ?_ ?_ ?_
  · omega
  · rfl
  · exact Nat.lt_succ_self _

set_option maxHeartbeats 4000000 in
set_option maxRecDepth 100000 in
theorem lp_alikeI {g : GX} {h : AH} {m : Nat} {P : PG} (W : RF h m P) {r k : Nat} (hr : r < 2 ^ 29) (hk : k < 2 ^ 29) {i : Nat} (hi : i < pNi P) (b0 : Bool) (kk : ∀ b : Bool, b = (b0 && alI P r k i) → V g mX8_areCopiedAlike (thM g 2 0 0 (fun ρ η => ρ = some (.int (bi (alk P r k))) ∧ η = h)) h 0 0 [(0, .ref m), (1, .int (nI r)), (2, .int (nI k)), (3, .int (bi b)), (4, .int (nI i))] 66 []) : ∀ (t : Nat) (s : Nat) (b : Bool), (s ≤ 2) → (b = (b0 && alS P r k i s)) → 2 - s < t → V g mX8_areCopiedAlike (thM g 2 0 0 (fun ρ η => ρ = some (.int (bi (alk P r k))) ∧ η = h)) h 0 0 [(0, .ref m), (1, .int (nI r)), (2, .int (nI k)), (3, .int (bi b)), (4, .int (nI i)), (5, .int (nI s))] 19 [] := by
  intro t
  induction t with
  | zero =>
    intro s b hs hb hfu
    exact absurd hfu (Nat.not_lt_zero _)
  | succ t ih =>
    intro s b hs hb hfu
    have hN := W.2.2.2.2.1
    have hR := W.2.2.1
    refine V_iload (j := 5) (q := 21) dX8_areCopiedAlike_19 rfl rfl ?_
    refine V_iconst (q := 22) (v := nI 2) dX8_areCopiedAlike_21 rfl rfl ?_
    refine V_icmp_geN (tgt := 66) (q := 25) dX8_areCopiedAlike_22 rfl rfl (by omega) (by omega) (fun c1 => ?_) (fun c1 => ?_)
    · skip
      refine V_sub (L' := [(0, .ref m), (1, .int (nI r)), (2, .int (nI k)), (3, .int (bi b)), (4, .int (nI i))]) [0, 1, 2, 3, 4] rfl ?_
      exact kk b (by rw [hb, show s = 2 by omega, alS_2])
    · skip
      refine V_iload_n (j := 3) (q := 26) dX8_areCopiedAlike_25 rfl rfl ?_
      refine V_if_eqB (tgt := 58) (q := 29) dX8_areCopiedAlike_26 rfl rfl (fun c2 => ?_) (fun c2 => ?_)
      · skip
        refine V_iconst (q := 59) (v := nI 0) dX8_areCopiedAlike_58 rfl rfl ?_
        refine V_rw (y := bi false) rfl ?_
        refine V_istore_n (q := 60) (L' := [(3, .int (bi false)), (0, .ref m), (1, .int (nI r)), (2, .int (nI k)), (4, .int (nI i)), (5, .int (nI s))]) dX8_areCopiedAlike_59 rfl rfl rfl ?_
        refine V_iincN (j := 5) (q := 63) (L' := [(5, .int (nI (s + 1))), (3, .int (bi false)), (0, .ref m), (1, .int (nI r)), (2, .int (nI k)), (4, .int (nI i))]) dX8_areCopiedAlike_60 rfl rfl rfl rfl ?_
        refine V_goto (q := 19) dX8_areCopiedAlike_63 rfl ?_
        refine V_sub (L' := [(0, .ref m), (1, .int (nI r)), (2, .int (nI k)), (3, .int (bi false)), (4, .int (nI i)), (5, .int (nI (s + 1)))]) [2, 3, 4, 1, 5, 0] rfl ?_
        refine ih (s + 1) false ?_ ?_ ?_
        · omega
        · rw [show alS P r k i (s + 1) = (alS P r k i s && (cpd P i s r k == cpd P i s r (k + 1))) from rfl, ← Bool.and_assoc, ← hb]; simp [c1, c2]
        · omega
      · skip
        refine V_aload_n (j := 0) (q := 30) dX8_areCopiedAlike_29 rfl rfl ?_
        refine V_iload (j := 4) (q := 32) dX8_areCopiedAlike_30 rfl rfl ?_
        refine V_iload (j := 5) (q := 34) dX8_areCopiedAlike_32 rfl rfl ?_
        refine V_iload_n (j := 1) (q := 35) dX8_areCopiedAlike_34 rfl rfl ?_
        refine V_iload_n (j := 2) (q := 36) dX8_areCopiedAlike_35 rfl rfl ?_
        refine V_cpV (q := 39) (S := []) (v := .int (bi (cpd P i s r k))) kX8_82 (c_isCopied (i := i) (side := s) (r := r) (k := k) W (by omega) (by omega) (by omega) (by omega)) (W.1.1 0 _ rfl) rfl rfl rfl dX8_areCopiedAlike_36 rfl ?_
        refine V_aload_n (j := 0) (q := 40) dX8_areCopiedAlike_39 rfl rfl ?_
        refine V_iload (j := 4) (q := 42) dX8_areCopiedAlike_40 rfl rfl ?_
        refine V_iload (j := 5) (q := 44) dX8_areCopiedAlike_42 rfl rfl ?_
        refine V_iload_n (j := 1) (q := 45) dX8_areCopiedAlike_44 rfl rfl ?_
        refine V_iload_n (j := 2) (q := 46) dX8_areCopiedAlike_45 rfl rfl ?_
        refine V_iconst (q := 47) (v := nI 1) dX8_areCopiedAlike_46 rfl rfl ?_
        refine V_iaddN (q := 48) dX8_areCopiedAlike_47 rfl ?_
        refine V_cpV (q := 51) (S := [.int (bi (cpd P i s r k))]) (v := .int (bi (cpd P i s r (k + 1)))) kX8_82 (c_isCopied (i := i) (side := s) (r := r) (k := k + 1) W (by omega) (by omega) (by omega) (by omega)) (W.1.1 0 _ rfl) rfl rfl rfl dX8_areCopiedAlike_48 rfl ?_
        refine V_icmp_neB (tgt := 58) (q := 54) dX8_areCopiedAlike_51 rfl rfl (fun c3 => ?_) (fun c3 => ?_)
        · skip
          refine V_iconst (q := 59) (v := nI 0) dX8_areCopiedAlike_58 rfl rfl ?_
          refine V_rw (y := bi false) rfl ?_
          refine V_istore_n (q := 60) (L' := [(3, .int (bi false)), (0, .ref m), (1, .int (nI r)), (2, .int (nI k)), (4, .int (nI i)), (5, .int (nI s))]) dX8_areCopiedAlike_59 rfl rfl rfl ?_
          refine V_iincN (j := 5) (q := 63) (L' := [(5, .int (nI (s + 1))), (3, .int (bi false)), (0, .ref m), (1, .int (nI r)), (2, .int (nI k)), (4, .int (nI i))]) dX8_areCopiedAlike_60 rfl rfl rfl rfl ?_
          refine V_goto (q := 19) dX8_areCopiedAlike_63 rfl ?_
          refine V_sub (L' := [(0, .ref m), (1, .int (nI r)), (2, .int (nI k)), (3, .int (bi false)), (4, .int (nI i)), (5, .int (nI (s + 1)))]) [2, 3, 4, 1, 5, 0] rfl ?_
          refine ih (s + 1) false ?_ ?_ ?_
          · omega
          · rw [show alS P r k i (s + 1) = (alS P r k i s && (cpd P i s r k == cpd P i s r (k + 1))) from rfl, ← Bool.and_assoc, ← hb]; simp [c1, c2, c3]
          · omega
        · skip
          refine V_iconst (q := 55) (v := nI 1) dX8_areCopiedAlike_54 rfl rfl ?_
          refine V_goto (q := 59) dX8_areCopiedAlike_55 rfl ?_
          refine V_rw (y := bi true) rfl ?_
          refine V_istore_n (q := 60) (L' := [(3, .int (bi true)), (0, .ref m), (1, .int (nI r)), (2, .int (nI k)), (4, .int (nI i)), (5, .int (nI s))]) dX8_areCopiedAlike_59 rfl rfl rfl ?_
          refine V_iincN (j := 5) (q := 63) (L' := [(5, .int (nI (s + 1))), (3, .int (bi true)), (0, .ref m), (1, .int (nI r)), (2, .int (nI k)), (4, .int (nI i))]) dX8_areCopiedAlike_60 rfl rfl rfl rfl ?_
          refine V_goto (q := 19) dX8_areCopiedAlike_63 rfl ?_
          refine V_sub (L' := [(0, .ref m), (1, .int (nI r)), (2, .int (nI k)), (3, .int (bi true)), (4, .int (nI i)), (5, .int (nI (s + 1)))]) [2, 3, 4, 1, 5, 0] rfl ?_
          refine ih (s + 1) true ?_ ?_ ?_
          · omega
          · rw [show alS P r k i (s + 1) = (alS P r k i s && (cpd P i s r k == cpd P i s r (k + 1))) from rfl, ← Bool.and_assoc, ← hb]; simp [c1, c2, c3]
          · omega

set_option maxHeartbeats 4000000 in
set_option maxRecDepth 100000 in
theorem lp_alikeO {g : GX} {h : AH} {m : Nat} {P : PG} (W : RF h m P) {r k : Nat} (hr : r < 2 ^ 29) (hk : k < 2 ^ 29) : ∀ (t : Nat) (i : Nat) (b : Bool), (i ≤ pNi P) → (b = allN i (alI P r k)) → pNi P - i < t → V g mX8_areCopiedAlike (thM g 2 0 0 (fun ρ η => ρ = some (.int (bi (alk P r k))) ∧ η = h)) h 0 0 [(0, .ref m), (1, .int (nI r)), (2, .int (nI k)), (3, .int (bi b)), (4, .int (nI i))] 5 [] := by
  intro t
  induction t with
  | zero =>
    intro i b hi hb hfu
    exact absurd hfu (Nat.not_lt_zero _)
  | succ t ih =>
    intro i b hi hb hfu
    have hN := W.2.2.2.2.1
    have hR := W.2.2.1
    refine V_iload (j := 4) (q := 7) dX8_areCopiedAlike_5 rfl rfl ?_
    refine V_aload_n (j := 0) (q := 8) dX8_areCopiedAlike_7 rfl rfl ?_
    refine V_getP (q := 11) (r := (m + 1)) fX8_7 (W.1.1 0 _ rfl) rfl (W.1.2 0 _ rfl) dX8_areCopiedAlike_8 rfl ?_
    refine V_iconst (q := 12) (v := nI 5) dX8_areCopiedAlike_11 rfl rfl ?_
    refine V_iald (q := 13) (W.1.1 1 _ rfl) (by omega) (by decide) dX8_areCopiedAlike_12 rfl ?_
    refine V_rw (y := nI (pNi P)) W.2.1.2.2.1 ?_
    refine V_icmp_geN (tgt := 72) (q := 16) dX8_areCopiedAlike_13 rfl rfl (by omega) (by omega) (fun c1 => ?_) (fun c1 => ?_)
    · skip
      refine V_iload_n (j := 3) (q := 73) dX8_areCopiedAlike_72 rfl rfl ?_
      refine V_zret (b := b) rfl dX8_areCopiedAlike_73 rfl rfl ?_
      exact ⟨pvb (by rw [hb, show i = pNi P by omega]; rfl), rfl⟩
    · skip
      refine V_iconst (q := 17) (v := nI 0) dX8_areCopiedAlike_16 rfl rfl ?_
      refine V_istore (q := 19) (L' := [(5, .int (nI 0)), (0, .ref m), (1, .int (nI r)), (2, .int (nI k)), (3, .int (bi b)), (4, .int (nI i))]) dX8_areCopiedAlike_17 rfl rfl rfl ?_
      refine V_sub (L' := [(0, .ref m), (1, .int (nI r)), (2, .int (nI k)), (3, .int (bi b)), (4, .int (nI i)), (5, .int (nI 0))]) [1, 2, 3, 4, 5, 0] rfl ?_
      refine lp_alikeI W hr hk (i := i) (by omega) b (fun b2 hb2 => ?_) (2 - 0 + 1) 0 b (by omega) (by simp [alS]) (Nat.lt_succ_self _)
      refine V_iincN (j := 4) (q := 69) (L' := [(4, .int (nI (i + 1))), (0, .ref m), (1, .int (nI r)), (2, .int (nI k)), (3, .int (bi b2))]) dX8_areCopiedAlike_66 rfl rfl rfl rfl ?_
      refine V_goto (q := 5) dX8_areCopiedAlike_69 rfl ?_
      refine V_sub (L' := [(0, .ref m), (1, .int (nI r)), (2, .int (nI k)), (3, .int (bi b2)), (4, .int (nI (i + 1)))]) [1, 2, 3, 4, 0] rfl ?_
      refine ih (i + 1) b2 ?_ ?_ ?_
      · omega
      · rw [allN_s, ← hb]; exact hb2
      · omega

set_option maxHeartbeats 4000000 in
set_option maxRecDepth 100000 in
theorem c_areCopiedAlike {g : GX} {h : AH} {m : Nat} {P : PG} (W : RF h m P) {r k : Nat} (hr : r < 2 ^ 29) (hk : k < 2 ^ 29) : Ct g mX8_areCopiedAlike 2 0 0 [.ref m, .int (nI r), .int (nI k)] h (fun ρ η => ρ = some (.int (bi (alk P r k))) ∧ η = h) := by
  refine Ct_intro (by decide +kernel) (Nat.le_of_ble_eq_true rfl) ?_
  show V g mX8_areCopiedAlike _ h 0 0 [(0, .ref m), (1, .int (nI r)), (2, .int (nI k))] 0 []
  have hN := W.2.2.2.2.1
  have hR := W.2.2.1
  refine V_iconst (q := 1) (v := nI 1) dX8_areCopiedAlike_0 rfl rfl ?_
  refine V_rw (y := bi true) rfl ?_
  refine V_istore_n (q := 2) (L' := [(3, .int (bi true)), (0, .ref m), (1, .int (nI r)), (2, .int (nI k))]) dX8_areCopiedAlike_1 rfl rfl rfl ?_
  refine V_iconst (q := 3) (v := nI 0) dX8_areCopiedAlike_2 rfl rfl ?_
  refine V_istore (q := 5) (L' := [(4, .int (nI 0)), (3, .int (bi true)), (0, .ref m), (1, .int (nI r)), (2, .int (nI k))]) dX8_areCopiedAlike_3 rfl rfl rfl ?_
  refine V_sub (L' := [(0, .ref m), (1, .int (nI r)), (2, .int (nI k)), (3, .int (bi true)), (4, .int (nI 0))]) [2, 3, 4, 1, 0] rfl ?_
  refine lp_alikeO W hr hk (pNi P - 0 + 1) 0 true ?_ ?_ ?_
  · omega
  · rfl
  · exact Nat.lt_succ_self _

set_option maxHeartbeats 4000000 in
set_option maxRecDepth 100000 in
theorem c_goesOn {g : GX} {h : AH} {m : Nat} {P : PG} (W : RF h m P) {r k : Nat} (hr : r < 2 ^ 28) (hk : k < 2 ^ 28) : Ct g mX8_goesOn 4 0 0 [.ref m, .int (nI r), .int (nI k)] h (fun ρ η => ρ = some (.int (bi (gon P r k))) ∧ η = h) := by
  refine Ct_intro (by decide +kernel) (Nat.le_of_ble_eq_true rfl) ?_
  show V g mX8_goesOn _ h 0 0 [(0, .ref m), (1, .int (nI r)), (2, .int (nI k))] 0 []
  have hN := W.2.2.2.2.1
  have hR := W.2.2.1
  refine V_aload_n (j := 0) (q := 1) dX8_goesOn_0 rfl rfl ?_
  refine V_iload_n (j := 1) (q := 2) dX8_goesOn_1 rfl rfl ?_
  refine V_cpV (q := 5) (S := []) (v := .int (bi (esc P r))) kX8_90 (c_doesEscape (r := r) W (by omega)) (W.1.1 0 _ rfl) rfl rfl rfl dX8_goesOn_2 rfl ?_
  refine V_if_eqB (tgt := 18) (q := 8) dX8_goesOn_5 rfl rfl (fun c1 => ?_) (fun c1 => ?_)
  · skip
    refine V_iload_n (j := 2) (q := 19) dX8_goesOn_18 rfl rfl ?_
    refine V_if_neN (tgt := 24) (q := 22) dX8_goesOn_19 rfl rfl (by omega) (fun c2 => ?_) (fun c2 => ?_)
    · skip
      refine V_aload_n (j := 0) (q := 25) dX8_goesOn_24 rfl rfl ?_
      refine V_iload_n (j := 1) (q := 26) dX8_goesOn_25 rfl rfl ?_
      refine V_iload_n (j := 2) (q := 27) dX8_goesOn_26 rfl rfl ?_
      refine V_iconst (q := 28) (v := nI 1) dX8_goesOn_27 rfl rfl ?_
      refine V_isubN (q := 29) dX8_goesOn_28 rfl (by omega) ?_
      refine V_iconst (q := 30) (v := nI 1) dX8_goesOn_29 rfl rfl ?_
      refine V_cpV (q := 33) (S := []) (v := .int (bi (jnd P r (k - 1)))) kX8_86 (c_isAccT (r := r) (k := k - 1) W (by omega) (by omega)) (W.1.1 0 _ rfl) rfl rfl rfl dX8_goesOn_30 rfl ?_
      refine V_if_neB (tgt := 67) (q := 36) dX8_goesOn_33 rfl rfl (fun c3 => ?_) (fun c3 => ?_)
      · skip
        refine V_iconst (q := 68) (v := nI 1) dX8_goesOn_67 rfl rfl ?_
        refine V_goto (q := 72) dX8_goesOn_68 rfl ?_
        refine V_rw (y := bi true) rfl ?_
        refine V_zret (b := true) rfl dX8_goesOn_72 rfl rfl ?_
        exact ⟨pvb (by simp [gon, c1, c2, c3] <;> omega), rfl⟩
      · skip
        refine V_aload_n (j := 0) (q := 37) dX8_goesOn_36 rfl rfl ?_
        refine V_iload_n (j := 1) (q := 38) dX8_goesOn_37 rfl rfl ?_
        refine V_iload_n (j := 2) (q := 39) dX8_goesOn_38 rfl rfl ?_
        refine V_iconst (q := 40) (v := nI 1) dX8_goesOn_39 rfl rfl ?_
        refine V_isubN (q := 41) dX8_goesOn_40 rfl (by omega) ?_
        refine V_cpV (q := 44) (S := []) (v := .int (bi (sft P r (k - 1)))) kX8_93 (c_isSoft (r := r) (k := k - 1) W (by omega) (by omega)) (W.1.1 0 _ rfl) rfl rfl rfl dX8_goesOn_41 rfl ?_
        refine V_if_eqB (tgt := 71) (q := 47) dX8_goesOn_44 rfl rfl (fun c4 => ?_) (fun c4 => ?_)
        · skip
          refine V_iconst (q := 72) (v := nI 0) dX8_goesOn_71 rfl rfl ?_
          refine V_rw (y := bi false) rfl ?_
          refine V_zret (b := false) rfl dX8_goesOn_72 rfl rfl ?_
          exact ⟨pvb (by simp [gon, c1, c2, c3, c4] <;> omega), rfl⟩
        · skip
          refine V_aload_n (j := 0) (q := 48) dX8_goesOn_47 rfl rfl ?_
          refine V_iload_n (j := 1) (q := 49) dX8_goesOn_48 rfl rfl ?_
          refine V_iload_n (j := 2) (q := 50) dX8_goesOn_49 rfl rfl ?_
          refine V_cpV (q := 53) (S := []) (v := .int (bi (sft P r k))) kX8_93 (c_isSoft (r := r) (k := k) W (by omega) (by omega)) (W.1.1 0 _ rfl) rfl rfl rfl dX8_goesOn_50 rfl ?_
          refine V_if_eqB (tgt := 71) (q := 56) dX8_goesOn_53 rfl rfl (fun c5 => ?_) (fun c5 => ?_)
          · skip
            refine V_iconst (q := 72) (v := nI 0) dX8_goesOn_71 rfl rfl ?_
            refine V_rw (y := bi false) rfl ?_
            refine V_zret (b := false) rfl dX8_goesOn_72 rfl rfl ?_
            exact ⟨pvb (by simp [gon, c1, c2, c3, c4, c5] <;> omega), rfl⟩
          · skip
            refine V_aload_n (j := 0) (q := 57) dX8_goesOn_56 rfl rfl ?_
            refine V_iload_n (j := 1) (q := 58) dX8_goesOn_57 rfl rfl ?_
            refine V_iload_n (j := 2) (q := 59) dX8_goesOn_58 rfl rfl ?_
            refine V_iconst (q := 60) (v := nI 1) dX8_goesOn_59 rfl rfl ?_
            refine V_isubN (q := 61) dX8_goesOn_60 rfl (by omega) ?_
            refine V_cpV (q := 64) (S := []) (v := .int (bi (alk P r (k - 1)))) kX8_97 (c_areCopiedAlike (r := r) (k := k - 1) W (by omega) (by omega)) (W.1.1 0 _ rfl) rfl rfl rfl dX8_goesOn_61 rfl ?_
            refine V_if_eqB (tgt := 71) (q := 67) dX8_goesOn_64 rfl rfl (fun c6 => ?_) (fun c6 => ?_)
            · skip
              refine V_iconst (q := 72) (v := nI 0) dX8_goesOn_71 rfl rfl ?_
              refine V_rw (y := bi false) rfl ?_
              refine V_zret (b := false) rfl dX8_goesOn_72 rfl rfl ?_
              exact ⟨pvb (by simp [gon, c1, c2, c3, c4, c5, c6] <;> omega), rfl⟩
            · skip
              refine V_iconst (q := 68) (v := nI 1) dX8_goesOn_67 rfl rfl ?_
              refine V_goto (q := 72) dX8_goesOn_68 rfl ?_
              refine V_rw (y := bi true) rfl ?_
              refine V_zret (b := true) rfl dX8_goesOn_72 rfl rfl ?_
              exact ⟨pvb (by simp [gon, c1, c2, c3, c4, c5, c6] <;> omega), rfl⟩
    · skip
      refine V_iconst (q := 23) (v := nI 0) dX8_goesOn_22 rfl rfl ?_
      refine V_rw (y := bi false) rfl ?_
      refine V_zret (b := false) rfl dX8_goesOn_23 rfl rfl ?_
      exact ⟨pvb (by simp [gon, c1, c2] <;> omega), rfl⟩
  · skip
    refine V_iload_n (j := 2) (q := 9) dX8_goesOn_8 rfl rfl ?_
    refine V_if_leN (tgt := 16) (q := 12) dX8_goesOn_9 rfl rfl (by omega) (fun c7 => ?_) (fun c7 => ?_)
    · skip
      refine V_iconst (q := 17) (v := nI 0) dX8_goesOn_16 rfl rfl ?_
      refine V_rw (y := bi false) rfl ?_
      refine V_zret (b := false) rfl dX8_goesOn_17 rfl rfl ?_
      exact ⟨pvb (by simp [gon, c1, c7] <;> omega), rfl⟩
    · skip
      refine V_iconst (q := 13) (v := nI 1) dX8_goesOn_12 rfl rfl ?_
      refine V_goto (q := 17) dX8_goesOn_13 rfl ?_
      refine V_rw (y := bi true) rfl ?_
      refine V_zret (b := true) rfl dX8_goesOn_17 rfl rfl ?_
      exact ⟨pvb (by simp [gon, c1, c7] <;> omega), rfl⟩

set_option maxHeartbeats 4000000 in
set_option maxRecDepth 100000 in
theorem c_isParted {g : GX} {h : AH} {m : Nat} {P : PG} (W : RF h m P) {r k : Nat} (hr : r < 2 ^ 28) (hk : k < 2 ^ 28) : Ct g mX8_isParted 4 0 0 [.ref m, .int (nI r), .int (nI k)] h (fun ρ η => ρ = some (.int (bi (ptd P r k))) ∧ η = h) := by
  refine Ct_intro (by decide +kernel) (Nat.le_of_ble_eq_true rfl) ?_
  show V g mX8_isParted _ h 0 0 [(0, .ref m), (1, .int (nI r)), (2, .int (nI k))] 0 []
  have hN := W.2.2.2.2.1
  have hR := W.2.2.1
  refine V_aload_n (j := 0) (q := 1) dX8_isParted_0 rfl rfl ?_
  refine V_iload_n (j := 1) (q := 2) dX8_isParted_1 rfl rfl ?_
  refine V_cpV (q := 5) (S := []) (v := .int (bi (esc P r))) kX8_90 (c_doesEscape (r := r) W (by omega)) (W.1.1 0 _ rfl) rfl rfl rfl dX8_isParted_2 rfl ?_
  refine V_if_neB (tgt := 27) (q := 8) dX8_isParted_5 rfl rfl (fun c1 => ?_) (fun c1 => ?_)
  · skip
    refine V_iconst (q := 28) (v := nI 1) dX8_isParted_27 rfl rfl ?_
    refine V_goto (q := 32) dX8_isParted_28 rfl ?_
    refine V_rw (y := bi true) rfl ?_
    refine V_zret (b := true) rfl dX8_isParted_32 rfl rfl ?_
    exact ⟨pvb (by simp [ptd, c1]), rfl⟩
  · skip
    refine V_aload_n (j := 0) (q := 9) dX8_isParted_8 rfl rfl ?_
    refine V_iload_n (j := 1) (q := 10) dX8_isParted_9 rfl rfl ?_
    refine V_iload_n (j := 2) (q := 11) dX8_isParted_10 rfl rfl ?_
    refine V_iconst (q := 12) (v := nI 0) dX8_isParted_11 rfl rfl ?_
    refine V_cpV (q := 15) (S := []) (v := .int (bi (acc P r k))) kX8_86 (c_isAccF (r := r) (k := k) W (by omega) (by omega)) (W.1.1 0 _ rfl) rfl rfl rfl dX8_isParted_12 rfl ?_
    refine V_if_neB (tgt := 27) (q := 18) dX8_isParted_15 rfl rfl (fun c2 => ?_) (fun c2 => ?_)
    · skip
      refine V_iconst (q := 28) (v := nI 1) dX8_isParted_27 rfl rfl ?_
      refine V_goto (q := 32) dX8_isParted_28 rfl ?_
      refine V_rw (y := bi true) rfl ?_
      refine V_zret (b := true) rfl dX8_isParted_32 rfl rfl ?_
      exact ⟨pvb (by simp [ptd, c1, c2]), rfl⟩
    · skip
      refine V_aload_n (j := 0) (q := 19) dX8_isParted_18 rfl rfl ?_
      refine V_iload_n (j := 1) (q := 20) dX8_isParted_19 rfl rfl ?_
      refine V_iload_n (j := 2) (q := 21) dX8_isParted_20 rfl rfl ?_
      refine V_cpV (q := 24) (S := []) (v := .int (bi (sft P r k))) kX8_93 (c_isSoft (r := r) (k := k) W (by omega) (by omega)) (W.1.1 0 _ rfl) rfl rfl rfl dX8_isParted_21 rfl ?_
      refine V_if_eqB (tgt := 31) (q := 27) dX8_isParted_24 rfl rfl (fun c3 => ?_) (fun c3 => ?_)
      · skip
        refine V_iconst (q := 32) (v := nI 0) dX8_isParted_31 rfl rfl ?_
        refine V_rw (y := bi false) rfl ?_
        refine V_zret (b := false) rfl dX8_isParted_32 rfl rfl ?_
        exact ⟨pvb (by simp [ptd, c1, c2, c3]), rfl⟩
      · skip
        refine V_iconst (q := 28) (v := nI 1) dX8_isParted_27 rfl rfl ?_
        refine V_goto (q := 32) dX8_isParted_28 rfl ?_
        refine V_rw (y := bi true) rfl ?_
        refine V_zret (b := true) rfl dX8_isParted_32 rfl rfl ?_
        exact ⟨pvb (by simp [ptd, c1, c2, c3]), rfl⟩
end
section
/-! the scan of a record's bytes -/
def bgn (P : PG) (r k : Nat) : Bool := ptd P r k && !gon P r k
def cnt (P : PG) (r : Nat) : Nat → Nat
  | 0 => 0
  | k + 1 => if bgn P r k = true then cnt P r k + 1 else cnt P r k
def bgf (P : PG) (r : Nat) : Nat → Nat → Nat
  | 0, _ => 0
  | k + 1, p => if bgn P r k = true ∧ p = cnt P r k then k else bgf P r k p
def lnf (P : PG) (r : Nat) : Nat → Nat → Nat
  | 0, _ => 0
  | k + 1, p => if ptd P r k = true ∧ p + 1 = cnt P r (k + 1) then (if bgn P r k = true then 1 else lnf P r k p + 1) else lnf P r k p
/-- the number of the partition of byte k -/
def pof (P : PG) (r k : Nat) : Nat := cnt P r (k + 1) - 1
def npt (P : PG) (r : Nat) : Nat := cnt P r (pSz P r)
def bgp (P : PG) (r p : Nat) : Nat := bgf P r (pSz P r) p
def lnp (P : PG) (r p : Nat) : Nat := lnf P r (pSz P r) p
theorem acI_of_j {P : PG} {r k : Nat} (h : jnd P r k = true) : acc P r k = true ∧ acc P r (k + 1) = true := by
  obtain ⟨i, hi, h2⟩ := anyN_iff.mp h
  simp only [Bool.and_eq_true] at h2
  refine ⟨anyN_iff.mpr ⟨i, hi, h2.1⟩, anyN_iff.mpr ⟨i, hi, ?_⟩⟩
  have h3 := h2.1
  simp only [acI, Bool.and_eq_true] at h3 ⊢
  exact ⟨h3.1, h3.2.1, h2.2⟩
/-- a byte that goes on has the byte ahead of it in a partition -/
theorem gon_prev {P : PG} {r k : Nat} (h : gon P r k = true) : 0 < k ∧ ptd P r (k - 1) = true := by
  unfold gon at h
  unfold ptd
  split at h
  · rename_i he
    simp only [decide_eq_true_eq] at h
    exact ⟨h, by simp [he]⟩
  · split at h
    · cases h
    · refine ⟨by omega, ?_⟩
      simp only [Bool.or_eq_true, Bool.and_eq_true] at h
      rcases h with h | ⟨h, -⟩
      · simp [(acI_of_j h).1]
      · simp [h]
theorem cnt_le (P : PG) (r : Nat) : ∀ k, cnt P r k ≤ k
  | 0 => Nat.le_refl _
  | k + 1 => by
    have := cnt_le P r k
    unfold cnt
    split <;> omega
theorem cnt_mono1 (P : PG) (r k : Nat) : cnt P r k ≤ cnt P r (k + 1) ∧ cnt P r (k + 1) ≤ cnt P r k + 1 := by
  show cnt P r k ≤ (if bgn P r k = true then cnt P r k + 1 else cnt P r k) ∧ (if bgn P r k = true then cnt P r k + 1 else cnt P r k) ≤ _
  split <;> omega
theorem cnt_mono (P : PG) (r : Nat) {j k : Nat} (h : j ≤ k) : cnt P r j ≤ cnt P r k := by
  induction k with
  | zero => rw [Nat.le_zero.mp h]; exact Nat.le_refl _
  | succ k ih =>
    rcases Nat.lt_or_eq_of_le h with h1 | h1
    · exact Nat.le_trans (ih (by omega)) (cnt_mono1 P r k).1
    · rw [h1]; exact Nat.le_refl _
theorem cnt_pos {P : PG} {r : Nat} : ∀ {k : Nat}, ptd P r k = true → 1 ≤ cnt P r (k + 1)
  | k, h => by
    show 1 ≤ if bgn P r k = true then cnt P r k + 1 else cnt P r k
    split
    · omega
    · rename_i hb
      have hg : gon P r k = true := by
        cases hh : gon P r k with
        | true => rfl
        | false => exact absurd (by simp [bgn, h, hh]) hb
      obtain ⟨h0, h1⟩ := gon_prev hg
      obtain ⟨j, rfl⟩ : ∃ j, k = j + 1 := ⟨k - 1, by omega⟩
      exact cnt_pos (k := j) h1
termination_by k => k
theorem cnt_s (P : PG) (r k : Nat) : cnt P r (k + 1) = if bgn P r k = true then cnt P r k + 1 else cnt P r k := rfl
theorem bgf_s (P : PG) (r k p : Nat) : bgf P r (k + 1) p = if bgn P r k = true ∧ p = cnt P r k then k else bgf P r k p := rfl
theorem lnf_s (P : PG) (r k p : Nat) : lnf P r (k + 1) p = if ptd P r k = true ∧ p + 1 = cnt P r (k + 1) then (if bgn P r k = true then 1 else lnf P r k p + 1) else lnf P r k p := rfl
/-- the beginning of the partition of byte k is at or ahead of k; it is k just if k begins -/
theorem bgf_lt (P : PG) (r : Nat) : ∀ k p, p < cnt P r k → bgf P r k p < k
  | 0, p, h => absurd h (Nat.not_lt_zero _)
  | k + 1, p, h => by
    rw [bgf_s]
    split
    · omega
    · rename_i hn
      rw [cnt_s] at h
      split at h
      · rename_i hb
        have : p < cnt P r k := by
          rcases Nat.lt_or_eq_of_le (Nat.le_of_lt_succ h) with h1 | h1
          · exact h1
          · exact absurd ⟨hb, h1⟩ hn
        have := bgf_lt P r k p this
        omega
      · have := bgf_lt P r k p h
        omega
/-- later bytes don't change the beginnings of earlier partitions -/
theorem bgf_stay (P : PG) (r : Nat) {p : Nat} : ∀ {j k : Nat}, j ≤ k → p < cnt P r j → bgf P r k p = bgf P r j p := by
  intro j k h
  induction k with
  | zero => intro _; rw [Nat.le_zero.mp h]
  | succ k ih =>
    intro hp
    rcases Nat.lt_or_eq_of_le h with h1 | h1
    · have h2 : j ≤ k := by omega
      have h3 := cnt_mono P r h2
      rw [bgf_s, if_neg (by omega)]
      exact ih h2 hp
    · rw [h1]
theorem bgn_pof {P : PG} {r k : Nat} (h : ptd P r k = true) (hk : k < pSz P r) : bgp P r (pof P r k) = k ↔ bgn P r k = true := by
  have h1 := cnt_pos h
  have h2 := cnt_mono1 P r k
  unfold bgp pof
  rw [bgf_stay P r (j := k + 1) (by omega) (by omega)]
  rw [bgf_s]
  rw [cnt_s] at h1 ⊢
  by_cases hb : bgn P r k = true
  · simp [hb]
  · simp only [hb]
    simp [hb] at h1
    simp only [false_and, if_false, iff_false, Bool.false_eq_true]
    have := bgf_lt P r k (cnt P r k - 1) (by omega)
    omega
theorem pof_lt {P : PG} {r k : Nat} (h : ptd P r k = true) (hk : k < pSz P r) : pof P r k < npt P r := by
  have h1 := cnt_pos h
  have h2 := cnt_mono P r (show k + 1 ≤ pSz P r by omega)
  unfold pof npt
  omega
theorem npt_le (P : PG) (r : Nat) : npt P r ≤ pSz P r := cnt_le P r _
end
section
theorem hI_s (h : AH) (a j : Nat) (v : Int32) (b i : Nat) : hI (sI h a j v) b i = if b = a ∧ i = j then v else hI h b i := rfl
theorem hI_n {h : AH} {a j : Nat} {v : Int32} {b : Nat} (e : b ≠ a) : hI (sI h a j v) b = hI h b := by
  funext i
  rw [hI_s, if_neg (fun w => e w.1)]
theorem RF_sI {h : AH} {m : Nat} {P : PG} {a j : Nat} {v : Int32} (W : RF h m P) (e : m + 1 ≠ a) : RF (sI h a j v) m P :=
  ⟨W.1, by rw [hI_n e]; exact W.2.1, W.2.2⟩
theorem RF_eq {h h' : AH} {m : Nat} {P : PG} (W : RF h m P) (e1 : h'.1 = h.1) (e2 : hP h' = hP h) (e3 : hI h' (m + 1) = hI h (m + 1)) : RF h' m P :=
  ⟨by rw [e1, e2]; exact W.1, by rw [e3]; exact W.2.1, W.2.2⟩
/-- the scan has come to byte k of record r -/
def FP (h0 h : AH) (m : Nat) (P : PG) (r k : Nat) : Prop :=
  (h.1 = h0.1 ∧ hJ h = hJ h0 ∧ hP h = hP h0) ∧ (∀ a, a ≠ m + 3 → a ≠ m + 4 → a ≠ m + 5 → a ≠ m + 6 → hI h a = hI h0 a) ∧ (∀ x, x < 16 * r ∨ 16 * r + 16 ≤ x → hI h (m + 3) x = hI h0 (m + 3) x ∧ hI h (m + 4) x = hI h0 (m + 4) x ∧ hI h (m + 5) x = hI h0 (m + 5) x) ∧ (∀ x, hI h (m + 6) x = hI h0 (m + 6) x) ∧
  (∀ j, j < k → hI h (m + 3) (16 * r + j) = if ptd P r j = true then nI (pof P r j) else -9) ∧ ∀ p, p < cnt P r k → hI h (m + 4) (16 * r + p) = nI (bgf P r k p) ∧ hI h (m + 5) (16 * r + p) = nI (lnf P r k p)
theorem FP.rf {h0 h : AH} {m : Nat} {P : PG} {r k : Nat} (W : RF h0 m P) (F : FP h0 h m P r k) : RF h m P := RF_eq W F.1.1 F.1.2.2 (F.2.1 _ (by omega) (by omega) (by omega) (by omega))
theorem FP_0 (h : AH) (m : Nat) (P : PG) (r : Nat) : FP h h m P r 0 := ⟨⟨rfl, rfl, rfl⟩, fun _ _ _ _ _ => rfl, fun _ _ => ⟨rfl, rfl, rfl⟩, fun _ => rfl, fun _ h => absurd h (Nat.not_lt_zero _), fun _ h => absurd h (Nat.not_lt_zero _)⟩
theorem FP_pad {h0 h : AH} {m : Nat} {P : PG} {r k : Nat} (F : FP h0 h m P r k) (hk : k < 16) (hp : ptd P r k = false) : FP h0 (sI h (m + 3) (16 * r + k) (-9)) m P r (k + 1) := by
  obtain ⟨f1, f2, f3, f4, f5, f6⟩ := F
  have hb : ¬ bgn P r k = true := by simp [bgn, hp]
  refine ⟨f1, fun a a1 a2 a3 a4 => ?_, fun x hx => ?_, fun x => ?_, fun j hj => ?_, fun p hq => ?_⟩
  · rw [hI_n a1]; exact f2 a a1 a2 a3 a4
  · rw [hI_s, if_neg (by omega), hI_s, if_neg (by omega), hI_s, if_neg (by omega)]; exact f3 x hx
  · rw [hI_s, if_neg (by omega)]; exact f4 x
  · rw [hI_s]
    by_cases e : j = k
    · subst e; rw [if_pos ⟨rfl, rfl⟩, if_neg (by simp [hp])]
    · rw [if_neg (by omega)]; exact f5 j (by omega)
  · rw [cnt_s, if_neg hb] at hq
    rw [hI_s, if_neg (by omega), hI_s, if_neg (by omega), bgf_s, if_neg (fun w => hb w.1), lnf_s, if_neg (by simp [hp])]
    exact f6 p hq
theorem FP_go {h0 h : AH} {m : Nat} {P : PG} {r k n : Nat} {v0 : Int32} (F : FP h0 h m P r k) (hn : n = cnt P r k) (hk : k < 16) (hp : ptd P r k = true) (hg : gon P r k = true) : FP h0 (sI (sI (sI h (m + 3) (16 * r + k) v0) (m + 3) (16 * r + k) (nI (n - 1))) (m + 5) (16 * r + n - 1) (hI (sI (sI h (m + 3) (16 * r + k) v0) (m + 3) (16 * r + k) (nI (n - 1))) (m + 5) (16 * r + n - 1) + nI 1)) m P r (k + 1) := by
  obtain ⟨f1, f2, f3, f4, f5, f6⟩ := F
  have hb : ¬ bgn P r k = true := by simp [bgn, hg]
  have h1 := cnt_pos hp
  have hc : cnt P r (k + 1) = n := by rw [cnt_s, if_neg hb, hn]
  rw [hc] at h1
  have h2 := cnt_le P r k
  refine ⟨f1, fun a a1 a2 a3 a4 => ?_, fun x hx => ?_, fun x => ?_, fun j hj => ?_, fun p hq => ?_⟩
  · rw [hI_n a3, hI_n a1, hI_n a1]; exact f2 a a1 a2 a3 a4
  · simp only [hI_s]
    rw [if_neg (by omega), if_neg (by omega), if_neg (by omega), if_neg (by omega), if_neg (by omega), if_neg (by omega), if_neg (by omega), if_neg (by omega), if_neg (by omega)]; exact f3 x hx
  · rw [hI_s, if_neg (by omega), hI_s, if_neg (by omega), hI_s, if_neg (by omega)]; exact f4 x
  · rw [hI_s, if_neg (by omega), hI_s]
    by_cases e : j = k
    · subst e; rw [if_pos ⟨rfl, rfl⟩, if_pos hp]; unfold pof; rw [hc]
    · rw [if_neg (by omega), hI_s, if_neg (by omega)]; exact f5 j (by omega)
  · rw [hc] at hq
    obtain ⟨g1, g2⟩ := f6 p (by omega)
    rw [bgf_s, if_neg (fun w => hb w.1), lnf_s, hc]
    refine ⟨by rw [hI_s, if_neg (by omega), hI_s, if_neg (by omega), hI_s, if_neg (by omega)]; exact g1, ?_⟩
    rw [hI_s]
    by_cases e : p + 1 = n
    · rw [if_pos ⟨rfl, by omega⟩, if_pos ⟨hp, e⟩, if_neg hb, show 16 * r + n - 1 = 16 * r + p by omega]
      rw [hI_s, if_neg (by omega), hI_s, if_neg (by omega), g2, nI_add]
    · rw [if_neg (by omega), if_neg (fun w => e w.2), hI_s, if_neg (by omega), hI_s, if_neg (by omega)]; exact g2
theorem FP_new {h0 h : AH} {m : Nat} {P : PG} {r k n : Nat} {v0 : Int32} (F : FP h0 h m P r k) (hn : n = cnt P r k) (hk : k < 16) (hp : ptd P r k = true) (hg : gon P r k = false) : FP h0 (sI (sI (sI (sI (sI h (m + 3) (16 * r + k) v0) (m + 4) (16 * r + n) (nI k)) (m + 5) (16 * r + n) (nI 0)) (m + 3) (16 * r + k) (nI (n + 1 - 1))) (m + 5) (16 * r + (n + 1) - 1) (hI (sI (sI (sI (sI h (m + 3) (16 * r + k) v0) (m + 4) (16 * r + n) (nI k)) (m + 5) (16 * r + n) (nI 0)) (m + 3) (16 * r + k) (nI (n + 1 - 1))) (m + 5) (16 * r + (n + 1) - 1) + nI 1)) m P r (k + 1) := by
  obtain ⟨f1, f2, f3, f4, f5, f6⟩ := F
  have hb : bgn P r k = true := by simp [bgn, hp, hg]
  have hc : cnt P r (k + 1) = n + 1 := by rw [cnt_s, if_pos hb, hn]
  have h2 := cnt_le P r k
  have ei : 16 * r + (n + 1) - 1 = 16 * r + n := by omega
  rw [ei]
  refine ⟨f1, fun a a1 a2 a3 a4 => ?_, fun x hx => ?_, fun x => ?_, fun j hj => ?_, fun p hq => ?_⟩
  · rw [hI_n a3, hI_n a1, hI_n a3, hI_n a2, hI_n a1]; exact f2 a a1 a2 a3 a4
  · obtain ⟨q1, q2, q3⟩ := f3 x hx
    refine ⟨?_, ?_, ?_⟩
    · rw [hI_s, if_neg (by omega), hI_s, if_neg (by omega), hI_s, if_neg (by omega), hI_s, if_neg (by omega), hI_s, if_neg (by omega)]; exact q1
    · rw [hI_s, if_neg (by omega), hI_s, if_neg (by omega), hI_s, if_neg (by omega), hI_s, if_neg (by omega), hI_s, if_neg (by omega)]; exact q2
    · rw [hI_s, if_neg (by omega), hI_s, if_neg (by omega), hI_s, if_neg (by omega), hI_s, if_neg (by omega), hI_s, if_neg (by omega)]; exact q3
  · rw [hI_s, if_neg (by omega), hI_s, if_neg (by omega), hI_s, if_neg (by omega), hI_s, if_neg (by omega), hI_s, if_neg (by omega)]; exact f4 x
  · rw [hI_s, if_neg (by omega), hI_s]
    by_cases e : j = k
    · subst e; rw [if_pos ⟨rfl, rfl⟩, if_pos hp]; unfold pof; rw [hc]
    · rw [if_neg (by omega), hI_s, if_neg (by omega), hI_s, if_neg (by omega), hI_s, if_neg (by omega)]; exact f5 j (by omega)
  · rw [hc] at hq
    rw [bgf_s, lnf_s, hc]
    by_cases e : p = n
    · subst e
      refine ⟨?_, ?_⟩
      · rw [if_pos ⟨hb, hn⟩, hI_s, if_neg (by omega), hI_s, if_neg (by omega), hI_s, if_neg (by omega), hI_s, if_pos ⟨rfl, rfl⟩]
      · rw [if_pos ⟨hp, rfl⟩, if_pos hb, hI_s, if_pos ⟨rfl, rfl⟩, hI_s, if_neg (by omega), hI_s, if_pos ⟨rfl, rfl⟩]; rfl
    · obtain ⟨g1, g2⟩ := f6 p (by omega)
      rw [if_neg (by omega), if_neg (by omega)]
      refine ⟨?_, ?_⟩
      · rw [hI_s, if_neg (by omega), hI_s, if_neg (by omega), hI_s, if_neg (by omega), hI_s, if_neg (by omega), hI_s, if_neg (by omega)]; exact g1
      · rw [hI_s, if_neg (by omega), hI_s, if_neg (by omega), hI_s, if_neg (by omega), hI_s, if_neg (by omega), hI_s, if_neg (by omega)]; exact g2
/-- record r's partitions are found -/
def PtR (h : AH) (m : Nat) (P : PG) (r : Nat) : Prop := hI h (m + 6) r = nI (npt P r) ∧ (∀ j, j < pSz P r → hI h (m + 3) (16 * r + j) = if ptd P r j = true then nI (pof P r j) else -9) ∧ ∀ p, p < npt P r → hI h (m + 4) (16 * r + p) = nI (bgp P r p) ∧ hI h (m + 5) (16 * r + p) = nI (lnp P r p)
/-- what findParts(r) does -/
def FR (h0 h : AH) (m : Nat) (P : PG) (r : Nat) : Prop :=
  (h.1 = h0.1 ∧ hJ h = hJ h0 ∧ hP h = hP h0) ∧ (∀ a, a ≠ m + 3 → a ≠ m + 4 → a ≠ m + 5 → a ≠ m + 6 → hI h a = hI h0 a) ∧ (∀ x, x < 16 * r ∨ 16 * r + 16 ≤ x → hI h (m + 3) x = hI h0 (m + 3) x ∧ hI h (m + 4) x = hI h0 (m + 4) x ∧ hI h (m + 5) x = hI h0 (m + 5) x) ∧ (∀ x, x ≠ r → hI h (m + 6) x = hI h0 (m + 6) x) ∧ PtR h m P r
theorem FP_end {h0 h : AH} {m : Nat} {P : PG} {r k n : Nat} (F : FP h0 h m P r k) (hk : k = pSz P r) (hn : n = cnt P r k) : FR h0 (sI h (m + 6) r (nI n)) m P r := by
  subst hk
  obtain ⟨f1, f2, f3, f4, f5, f6⟩ := F
  refine ⟨f1, fun a a1 a2 a3 a4 => ?_, fun x hx => ?_, fun x hx => ?_, ?_, fun j hj => ?_, fun p hq => ?_⟩
  · rw [hI_n a4]; exact f2 a a1 a2 a3 a4
  · rw [hI_s, if_neg (by omega), hI_s, if_neg (by omega), hI_s, if_neg (by omega)]; exact f3 x hx
  · rw [hI_s, if_neg (fun w => hx w.2)]; exact f4 x
  · rw [hI_s, if_pos ⟨rfl, rfl⟩, hn]; rfl
  · rw [hI_s, if_neg (by omega)]; exact f5 j hj
  · rw [hI_s, if_neg (by omega), hI_s, if_neg (by omega)]; exact f6 p hq
end
section
set_option maxHeartbeats 4000000 in
set_option maxRecDepth 100000 in
theorem lp_findParts {g : GX} {h : AH} {m : Nat} {P : PG} (W : RF h m P) {r : Nat} (hr : r < pNr P) : ∀ (t : Nat) (k : Nat) (n : Nat) (e : AH), (k ≤ pSz P r) → (n = cnt P r k) → (FP h e m P r k) → pSz P r - k < t → V g mX8_findParts (thM g 5 0 0 (fun ρ η => ρ = none ∧ FR h η m P r)) e 0 0 [(0, .ref m), (1, .int (nI r)), (2, .int (nI n)), (3, .int (nI k))] 4 [] := by
  intro t
  induction t with
  | zero =>
    intro k n e hk hn F hfu
    exact absurd hfu (Nat.not_lt_zero _)
  | succ t ih =>
    intro k n e hk hn F hfu
    have hN := W.2.2.2.2.1
    have hR := W.2.2.1
    have hS := W.2.2.2.1 r hr
    have W := F.rf W
    have hc := cnt_le P r k
    refine V_iload_n (j := 3) (q := 5) dX8_findParts_4 rfl rfl ?_
    refine V_aload_n (j := 0) (q := 6) dX8_findParts_5 rfl rfl ?_
    refine V_getP (q := 9) (r := (m + 1)) fX8_7 (W.1.1 0 _ rfl) rfl (W.1.2 0 _ rfl) dX8_findParts_6 rfl ?_
    refine V_iconst (q := 10) (v := nI 1) dX8_findParts_9 rfl rfl ?_
    refine V_iload_n (j := 1) (q := 11) dX8_findParts_10 rfl rfl ?_
    refine V_iaddN (q := 12) dX8_findParts_11 rfl ?_
    refine V_iald (q := 13) (W.1.1 1 _ rfl) (by omega) (by decide) dX8_findParts_12 rfl ?_
    refine V_rw (y := nI (pSz P r)) (W.2.1.2.1 _ (by omega)) ?_
    refine V_icmp_geN (tgt := 111) (q := 16) dX8_findParts_13 rfl rfl (by omega) (by omega) (fun c1 => ?_) (fun c1 => ?_)
    · skip
      refine V_aload_n (j := 0) (q := 112) dX8_findParts_111 rfl rfl ?_
      refine V_getP (q := 115) (r := (m + 6)) fX8_25 (W.1.1 0 _ rfl) rfl (W.1.2 6 _ rfl) dX8_findParts_112 rfl ?_
      refine V_iload_n (j := 1) (q := 116) dX8_findParts_115 rfl rfl ?_
      refine V_iload_n (j := 2) (q := 117) dX8_findParts_116 rfl rfl ?_
      refine V_iast (q := 118) (W.1.1 6 _ rfl) (by omega) (by decide) dX8_findParts_117 rfl ?_
      have W : RF (sI e (m + 6) r (nI n)) m P := RF_sI W (by omega)
      refine V_vret rfl dX8_findParts_118 rfl rfl ?_
      exact ⟨rfl, FP_end F (by omega) hn⟩
    · skip
      refine V_bipush (q := 18) (v := nI 16) dX8_findParts_16 rfl (by decide) ?_
      refine V_iload_n (j := 1) (q := 19) dX8_findParts_18 rfl rfl ?_
      refine V_imulN (q := 20) dX8_findParts_19 rfl ?_
      refine V_iload_n (j := 3) (q := 21) dX8_findParts_20 rfl rfl ?_
      refine V_iaddN (q := 22) dX8_findParts_21 rfl ?_
      refine V_istore (q := 24) (L' := [(4, .int (nI (16 * r + k))), (0, .ref m), (1, .int (nI r)), (2, .int (nI n)), (3, .int (nI k))]) dX8_findParts_22 rfl rfl rfl ?_
      refine V_aload_n (j := 1) (q := 25) dX8_findParts_24 rfl rfl ?_
      refine V_getP (q := 28) (r := (m + 3)) fX8_16 (W.1.1 0 _ rfl) rfl (W.1.2 3 _ rfl) dX8_findParts_25 rfl ?_
      refine V_iload (j := 0) (q := 30) dX8_findParts_28 rfl rfl ?_
      refine V_bipush (q := 32) (v := (-9)) dX8_findParts_30 rfl (by decide) ?_
      refine V_iast (q := 33) (W.1.1 3 _ rfl) (by omega) (by decide) dX8_findParts_32 rfl ?_
      have W : RF (sI e (m + 3) (16 * r + k) (-9)) m P := RF_sI W (by omega)
      refine V_aload_n (j := 1) (q := 34) dX8_findParts_33 rfl rfl ?_
      refine V_iload_n (j := 2) (q := 35) dX8_findParts_34 rfl rfl ?_
      refine V_iload_n (j := 4) (q := 36) dX8_findParts_35 rfl rfl ?_
      refine V_cpV (q := 39) (S := []) (v := .int (bi (ptd P r k))) kX8_100 (c_isParted (r := r) (k := k) W (by omega) (by omega)) (W.1.1 0 _ rfl) rfl rfl rfl dX8_findParts_36 rfl ?_
      refine V_if_eqB (tgt := 105) (q := 42) dX8_findParts_39 rfl rfl (fun c2 => ?_) (fun c2 => ?_)
      · skip
        refine V_iincN (j := 4) (q := 108) (L' := [(3, .int (nI (k + 1))), (4, .int (nI (16 * r + k))), (0, .ref m), (1, .int (nI r)), (2, .int (nI n))]) dX8_findParts_105 rfl rfl rfl rfl ?_
        refine V_goto (q := 4) dX8_findParts_108 rfl ?_
        refine V_sub (L' := [(0, .ref m), (1, .int (nI r)), (2, .int (nI n)), (3, .int (nI (k + 1)))]) [2, 3, 4, 0] rfl ?_
        refine ih (k + 1) n (sI e (m + 3) (16 * r + k) (-9)) ?_ ?_ ?_ ?_
        · omega
        · rw [cnt_s, hn]; simp [bgn, c1, c2]
        · exact FP_pad F (by omega) c2
        · omega
      · skip
        refine V_aload_n (j := 1) (q := 43) dX8_findParts_42 rfl rfl ?_
        refine V_iload_n (j := 2) (q := 44) dX8_findParts_43 rfl rfl ?_
        refine V_iload_n (j := 4) (q := 45) dX8_findParts_44 rfl rfl ?_
        refine V_cpV (q := 48) (S := []) (v := .int (bi (gon P r k))) kX8_103 (c_goesOn (r := r) (k := k) W (by omega) (by omega)) (W.1.1 0 _ rfl) rfl rfl rfl dX8_findParts_45 rfl ?_
        refine V_if_neB (tgt := 78) (q := 51) dX8_findParts_48 rfl rfl (fun c3 => ?_) (fun c3 => ?_)
        · skip
          have h1 := cnt_pos c2
          rw [cnt_s, if_neg (by simp [bgn, c3]), ← hn] at h1
          refine V_aload_n (j := 1) (q := 79) dX8_findParts_78 rfl rfl ?_
          refine V_getP (q := 82) (r := (m + 3)) fX8_16 (W.1.1 0 _ rfl) rfl (W.1.2 3 _ rfl) dX8_findParts_79 rfl ?_
          refine V_iload (j := 0) (q := 84) dX8_findParts_82 rfl rfl ?_
          refine V_iload_n (j := 3) (q := 85) dX8_findParts_84 rfl rfl ?_
          refine V_iconst (q := 86) (v := nI 1) dX8_findParts_85 rfl rfl ?_
          refine V_isubN (q := 87) dX8_findParts_86 rfl (by omega) ?_
          refine V_iast (q := 88) (W.1.1 3 _ rfl) (by omega) (by decide) dX8_findParts_87 rfl ?_
          have W : RF (sI (sI e (m + 3) (16 * r + k) (-9)) (m + 3) (16 * r + k) (nI (n - 1))) m P := RF_sI W (by omega)
          refine V_aload_n (j := 1) (q := 89) dX8_findParts_88 rfl rfl ?_
          refine V_getP (q := 92) (r := (m + 5)) fX8_22 (W.1.1 0 _ rfl) rfl (W.1.2 5 _ rfl) dX8_findParts_89 rfl ?_
          refine V_bipush (q := 94) (v := nI 16) dX8_findParts_92 rfl (by decide) ?_
          refine V_iload_n (j := 2) (q := 95) dX8_findParts_94 rfl rfl ?_
          refine V_imulN (q := 96) dX8_findParts_95 rfl ?_
          refine V_iload_n (j := 3) (q := 97) dX8_findParts_96 rfl rfl ?_
          refine V_iaddN (q := 98) dX8_findParts_97 rfl ?_
          refine V_iconst (q := 99) (v := nI 1) dX8_findParts_98 rfl rfl ?_
          refine V_isubN (q := 100) dX8_findParts_99 rfl (by omega) ?_
          refine V_dup2 (q := 101) dX8_findParts_100 rfl rfl rfl ?_
          refine V_iald (q := 102) (W.1.1 5 _ rfl) (by omega) (by decide) dX8_findParts_101 rfl ?_
          refine V_iconst (q := 103) (v := nI 1) dX8_findParts_102 rfl rfl ?_
          refine V_iadd (q := 104) dX8_findParts_103 rfl ?_
          refine V_iast (q := 105) (W.1.1 5 _ rfl) (by omega) (by decide) dX8_findParts_104 rfl ?_
          have W : RF (sI (sI (sI e (m + 3) (16 * r + k) (-9)) (m + 3) (16 * r + k) (nI (n - 1))) (m + 5) ((16 * r + n) - 1) ((hI (sI (sI e (m + 3) (16 * r + k) (-9)) (m + 3) (16 * r + k) (nI (n - 1))) (m + 5) ((16 * r + n) - 1)) + (nI 1))) m P := RF_sI W (by omega)
          refine V_iincN (j := 4) (q := 108) (L' := [(3, .int (nI (k + 1))), (4, .int (nI (16 * r + k))), (0, .ref m), (1, .int (nI r)), (2, .int (nI n))]) dX8_findParts_105 rfl rfl rfl rfl ?_
          refine V_goto (q := 4) dX8_findParts_108 rfl ?_
          refine V_sub (L' := [(0, .ref m), (1, .int (nI r)), (2, .int (nI n)), (3, .int (nI (k + 1)))]) [2, 3, 4, 0] rfl ?_
          refine ih (k + 1) n (sI (sI (sI e (m + 3) (16 * r + k) (-9)) (m + 3) (16 * r + k) (nI (n - 1))) (m + 5) ((16 * r + n) - 1) ((hI (sI (sI e (m + 3) (16 * r + k) (-9)) (m + 3) (16 * r + k) (nI (n - 1))) (m + 5) ((16 * r + n) - 1)) + (nI 1))) ?_ ?_ ?_ ?_
          · omega
          · rw [cnt_s, hn]; simp [bgn, c1, c2, c3]
          · exact FP_go F hn (by omega) c2 c3
          · omega
        · skip
          refine V_aload_n (j := 1) (q := 52) dX8_findParts_51 rfl rfl ?_
          refine V_getP (q := 55) (r := (m + 4)) fX8_19 (W.1.1 0 _ rfl) rfl (W.1.2 4 _ rfl) dX8_findParts_52 rfl ?_
          refine V_bipush (q := 57) (v := nI 16) dX8_findParts_55 rfl (by decide) ?_
          refine V_iload_n (j := 2) (q := 58) dX8_findParts_57 rfl rfl ?_
          refine V_imulN (q := 59) dX8_findParts_58 rfl ?_
          refine V_iload_n (j := 3) (q := 60) dX8_findParts_59 rfl rfl ?_
          refine V_iaddN (q := 61) dX8_findParts_60 rfl ?_
          refine V_iload_n (j := 4) (q := 62) dX8_findParts_61 rfl rfl ?_
          refine V_iast (q := 63) (W.1.1 4 _ rfl) (by omega) (by decide) dX8_findParts_62 rfl ?_
          have W : RF (sI (sI e (m + 3) (16 * r + k) (-9)) (m + 4) (16 * r + n) (nI k)) m P := RF_sI W (by omega)
          refine V_aload_n (j := 1) (q := 64) dX8_findParts_63 rfl rfl ?_
          refine V_getP (q := 67) (r := (m + 5)) fX8_22 (W.1.1 0 _ rfl) rfl (W.1.2 5 _ rfl) dX8_findParts_64 rfl ?_
          refine V_bipush (q := 69) (v := nI 16) dX8_findParts_67 rfl (by decide) ?_
          refine V_iload_n (j := 2) (q := 70) dX8_findParts_69 rfl rfl ?_
          refine V_imulN (q := 71) dX8_findParts_70 rfl ?_
          refine V_iload_n (j := 3) (q := 72) dX8_findParts_71 rfl rfl ?_
          refine V_iaddN (q := 73) dX8_findParts_72 rfl ?_
          refine V_iconst (q := 74) (v := nI 0) dX8_findParts_73 rfl rfl ?_
          refine V_iast (q := 75) (W.1.1 5 _ rfl) (by omega) (by decide) dX8_findParts_74 rfl ?_
          have W : RF (sI (sI (sI e (m + 3) (16 * r + k) (-9)) (m + 4) (16 * r + n) (nI k)) (m + 5) (16 * r + n) (nI 0)) m P := RF_sI W (by omega)
          refine V_iincN (j := 3) (q := 78) (L' := [(2, .int (nI (n + 1))), (4, .int (nI (16 * r + k))), (0, .ref m), (1, .int (nI r)), (3, .int (nI k))]) dX8_findParts_75 rfl rfl rfl rfl ?_
          refine V_aload_n (j := 2) (q := 79) dX8_findParts_78 rfl rfl ?_
          refine V_getP (q := 82) (r := (m + 3)) fX8_16 (W.1.1 0 _ rfl) rfl (W.1.2 3 _ rfl) dX8_findParts_79 rfl ?_
          refine V_iload (j := 1) (q := 84) dX8_findParts_82 rfl rfl ?_
          refine V_iload_n (j := 0) (q := 85) dX8_findParts_84 rfl rfl ?_
          refine V_iconst (q := 86) (v := nI 1) dX8_findParts_85 rfl rfl ?_
          refine V_isubN (q := 87) dX8_findParts_86 rfl (by omega) ?_
          refine V_iast (q := 88) (W.1.1 3 _ rfl) (by omega) (by decide) dX8_findParts_87 rfl ?_
          have W : RF (sI (sI (sI (sI e (m + 3) (16 * r + k) (-9)) (m + 4) (16 * r + n) (nI k)) (m + 5) (16 * r + n) (nI 0)) (m + 3) (16 * r + k) (nI ((n + 1) - 1))) m P := RF_sI W (by omega)
          refine V_aload_n (j := 2) (q := 89) dX8_findParts_88 rfl rfl ?_
          refine V_getP (q := 92) (r := (m + 5)) fX8_22 (W.1.1 0 _ rfl) rfl (W.1.2 5 _ rfl) dX8_findParts_89 rfl ?_
          refine V_bipush (q := 94) (v := nI 16) dX8_findParts_92 rfl (by decide) ?_
          refine V_iload_n (j := 3) (q := 95) dX8_findParts_94 rfl rfl ?_
          refine V_imulN (q := 96) dX8_findParts_95 rfl ?_
          refine V_iload_n (j := 0) (q := 97) dX8_findParts_96 rfl rfl ?_
          refine V_iaddN (q := 98) dX8_findParts_97 rfl ?_
          refine V_iconst (q := 99) (v := nI 1) dX8_findParts_98 rfl rfl ?_
          refine V_isubN (q := 100) dX8_findParts_99 rfl (by omega) ?_
          refine V_dup2 (q := 101) dX8_findParts_100 rfl rfl rfl ?_
          refine V_iald (q := 102) (W.1.1 5 _ rfl) (by omega) (by decide) dX8_findParts_101 rfl ?_
          refine V_iconst (q := 103) (v := nI 1) dX8_findParts_102 rfl rfl ?_
          refine V_iadd (q := 104) dX8_findParts_103 rfl ?_
          refine V_iast (q := 105) (W.1.1 5 _ rfl) (by omega) (by decide) dX8_findParts_104 rfl ?_
          have W : RF (sI (sI (sI (sI (sI e (m + 3) (16 * r + k) (-9)) (m + 4) (16 * r + n) (nI k)) (m + 5) (16 * r + n) (nI 0)) (m + 3) (16 * r + k) (nI ((n + 1) - 1))) (m + 5) ((16 * r + (n + 1)) - 1) ((hI (sI (sI (sI (sI e (m + 3) (16 * r + k) (-9)) (m + 4) (16 * r + n) (nI k)) (m + 5) (16 * r + n) (nI 0)) (m + 3) (16 * r + k) (nI ((n + 1) - 1))) (m + 5) ((16 * r + (n + 1)) - 1)) + (nI 1))) m P := RF_sI W (by omega)
          refine V_iincN (j := 4) (q := 108) (L' := [(3, .int (nI (k + 1))), (2, .int (nI (n + 1))), (4, .int (nI (16 * r + k))), (0, .ref m), (1, .int (nI r))]) dX8_findParts_105 rfl rfl rfl rfl ?_
          refine V_goto (q := 4) dX8_findParts_108 rfl ?_
          refine V_sub (L' := [(0, .ref m), (1, .int (nI r)), (2, .int (nI (n + 1))), (3, .int (nI (k + 1)))]) [3, 4, 1, 0] rfl ?_
          refine ih (k + 1) (n + 1) (sI (sI (sI (sI (sI e (m + 3) (16 * r + k) (-9)) (m + 4) (16 * r + n) (nI k)) (m + 5) (16 * r + n) (nI 0)) (m + 3) (16 * r + k) (nI ((n + 1) - 1))) (m + 5) ((16 * r + (n + 1)) - 1) ((hI (sI (sI (sI (sI e (m + 3) (16 * r + k) (-9)) (m + 4) (16 * r + n) (nI k)) (m + 5) (16 * r + n) (nI 0)) (m + 3) (16 * r + k) (nI ((n + 1) - 1))) (m + 5) ((16 * r + (n + 1)) - 1)) + (nI 1))) ?_ ?_ ?_ ?_
          · omega
          · rw [cnt_s, hn]; simp [bgn, c1, c2, c3]
          · exact FP_new F hn (by omega) c2 c3
          · omega

set_option maxHeartbeats 4000000 in
set_option maxRecDepth 100000 in
theorem c_findParts {g : GX} {h : AH} {m : Nat} {P : PG} (W : RF h m P) {r : Nat} (hr : r < pNr P) : Ct g mX8_findParts 5 0 0 [.ref m, .int (nI r)] h (fun ρ η => ρ = none ∧ FR h η m P r) := by
  refine Ct_intro (by decide +kernel) (Nat.le_of_ble_eq_true rfl) ?_
  show V g mX8_findParts _ h 0 0 [(0, .ref m), (1, .int (nI r))] 0 []
  have hN := W.2.2.2.2.1
  have hR := W.2.2.1
  have hS := W.2.2.2.1 r hr
  refine V_iconst (q := 1) (v := nI 0) dX8_findParts_0 rfl rfl ?_
  refine V_istore_n (q := 2) (L' := [(2, .int (nI 0)), (0, .ref m), (1, .int (nI r))]) dX8_findParts_1 rfl rfl rfl ?_
  refine V_iconst (q := 3) (v := nI 0) dX8_findParts_2 rfl rfl ?_
  refine V_istore_n (q := 4) (L' := [(3, .int (nI 0)), (2, .int (nI 0)), (0, .ref m), (1, .int (nI r))]) dX8_findParts_3 rfl rfl rfl ?_
  refine V_sub (L' := [(0, .ref m), (1, .int (nI r)), (2, .int (nI 0)), (3, .int (nI 0))]) [2, 3, 1, 0] rfl ?_
  refine lp_findParts W hr (pSz P r - 0 + 1) 0 0 h ?_ ?_ ?_ ?_
  · omega
  · rfl
  · exact FP_0 h m P r
  · exact Nat.lt_succ_self _

/-- all records' partitions are found -/
def PA (h : AH) (m : Nat) (P : PG) (n : Nat) : Prop := ∀ r, r < n → PtR h m P r
def FA (h0 h : AH) (m : Nat) : Prop := (h.1 = h0.1 ∧ hJ h = hJ h0 ∧ hP h = hP h0) ∧ ∀ a, a ≠ m + 3 → a ≠ m + 4 → a ≠ m + 5 → a ≠ m + 6 → hI h a = hI h0 a
theorem FA.rf {h0 h : AH} {m : Nat} {P : PG} (W : RF h0 m P) (F : FA h0 h m) : RF h m P := RF_eq W F.1.1 F.1.2.2 (F.2 _ (by omega) (by omega) (by omega) (by omega))
theorem FA.tr {h0 h1 h2 : AH} {m : Nat} (A : FA h0 h1 m) (B : FA h1 h2 m) : FA h0 h2 m := ⟨⟨B.1.1.trans A.1.1, B.1.2.1.trans A.1.2.1, B.1.2.2.trans A.1.2.2⟩, fun a a1 a2 a3 a4 => (B.2 a a1 a2 a3 a4).trans (A.2 a a1 a2 a3 a4)⟩
theorem PA_s {h0 h : AH} {m : Nat} {P : PG} {r : Nat} (ok : OkP P) (hr : r < pNr P) (A : PA h0 m P r) (F : FR h0 h m P r) : PA h m P (r + 1) := by
  intro q hq
  by_cases e : q = r
  · subst e; exact F.2.2.2.2
  · obtain ⟨f1, f2, f3, f4, -⟩ := F
    obtain ⟨a1, a2, a3⟩ := A q (by omega)
    have hs := ok.2.1 q (by omega)
    have hn := npt_le P q
    refine ⟨by rw [f4 q e]; exact a1, fun j hj => ?_, fun p hp => ?_⟩
    · rw [(f3 _ (by omega)).1]; exact a2 j hj
    · rw [(f3 _ (by omega)).2.1, (f3 _ (by omega)).2.2]; exact a3 p hp

set_option maxHeartbeats 4000000 in
set_option maxRecDepth 100000 in
theorem lp_findAllParts {g : GX} {h : AH} {m : Nat} {P : PG} (W : RF h m P) : ∀ (t : Nat) (r : Nat) (e : AH), (r ≤ pNr P) → (FA h e m) → (PA e m P r) → pNr P - r < t → V g mX8_findAllParts (thM g 6 0 0 (fun ρ η => ρ = none ∧ FA h η m ∧ PA η m P (pNr P))) e 0 0 [(0, .ref m), (1, .int (nI r))] 2 [] := by
  intro t
  induction t with
  | zero =>
    intro r e hr F A hfu
    exact absurd hfu (Nat.not_lt_zero _)
  | succ t ih =>
    intro r e hr F A hfu
    have hR := W.2.2.1
    have W := F.rf W
    refine V_iload_n (j := 1) (q := 3) dX8_findAllParts_2 rfl rfl ?_
    refine V_aload_n (j := 0) (q := 4) dX8_findAllParts_3 rfl rfl ?_
    refine V_getP (q := 7) (r := (m + 1)) fX8_7 (W.1.1 0 _ rfl) rfl (W.1.2 0 _ rfl) dX8_findAllParts_4 rfl ?_
    refine V_iconst (q := 8) (v := nI 0) dX8_findAllParts_7 rfl rfl ?_
    refine V_iald (q := 9) (W.1.1 1 _ rfl) (by omega) (by decide) dX8_findAllParts_8 rfl ?_
    refine V_rw (y := nI (pNr P)) W.2.1.1 ?_
    refine V_icmp_geN (tgt := 23) (q := 12) dX8_findAllParts_9 rfl rfl (by omega) (by omega) (fun c1 => ?_) (fun c1 => ?_)
    · skip
      refine V_vret rfl dX8_findAllParts_23 rfl rfl ?_
      exact ⟨rfl, F, by rw [show pNr P = r by omega]; exact A⟩
    · skip
      refine V_aload_n (j := 0) (q := 13) dX8_findAllParts_12 rfl rfl ?_
      refine V_iload_n (j := 1) (q := 14) dX8_findAllParts_13 rfl rfl ?_
      refine V_callV (q := 17) (S := []) kX8_106 (c_findParts (r := r) W (by omega)) (W.1.1 0 _ rfl) rfl rfl rfl dX8_findAllParts_14 rfl (fun r2 h3 p4 => ?_)
      obtain ⟨rfl, Q⟩ := p4
      have F2 : FA h h3 m := F.tr ⟨Q.1, Q.2.1⟩
      have A2 := PA_s W.2.2 (by omega) A Q
      refine V_iincN (j := 1) (q := 20) (L' := [(1, .int (nI (r + 1))), (0, .ref m)]) dX8_findAllParts_17 rfl rfl rfl rfl ?_
      refine V_goto (q := 2) dX8_findAllParts_20 rfl ?_
      refine V_sub (L' := [(0, .ref m), (1, .int (nI (r + 1)))]) [1, 0] rfl ?_
      refine ih (r + 1) h3 ?_ ?_ ?_ ?_
      · omega
      · exact F2
      · exact A2
      · omega

set_option maxHeartbeats 4000000 in
set_option maxRecDepth 100000 in
theorem c_findAllParts {g : GX} {h : AH} {m : Nat} {P : PG} (W : RF h m P) : Ct g mX8_findAllParts 6 0 0 [.ref m] h (fun ρ η => ρ = none ∧ FA h η m ∧ PA η m P (pNr P)) := by
  refine Ct_intro (by decide +kernel) (Nat.le_of_ble_eq_true rfl) ?_
  show V g mX8_findAllParts _ h 0 0 [(0, .ref m)] 0 []
  have hR := W.2.2.1
  refine V_iconst (q := 1) (v := nI 0) dX8_findAllParts_0 rfl rfl ?_
  refine V_istore_n (q := 2) (L' := [(1, .int (nI 0)), (0, .ref m)]) dX8_findAllParts_1 rfl rfl rfl ?_
  refine V_sub (L' := [(0, .ref m), (1, .int (nI 0))]) [1, 0] rfl ?_
  refine lp_findAllParts W (pNr P - 0 + 1) 0 h ?_ ?_ ?_ ?_
  · omega
  · exact ⟨⟨rfl, rfl, rfl⟩, fun _ _ _ _ _ => rfl⟩
  · exact fun q hq => absurd hq (Nat.not_lt_zero _)
  · exact Nat.lt_succ_self _

set_option maxHeartbeats 4000000 in
set_option maxRecDepth 100000 in
theorem c_placeOf {g : GX} {h : AH} {m : Nat} {P : PG} (W : RF h m P) (A : PA h m P (pNr P)) {r k : Nat} (hr : r < pNr P) (hk : k < pSz P r) (hp : ptd P r k = true) : Ct g mX8_placeOf 0 0 0 [.ref m, .int (nI r), .int (nI k)] h (fun ρ η => ρ = some (.int (nI (16 * r + pof P r k))) ∧ η = h) := by
  refine Ct_intro (by decide +kernel) (Nat.le_of_ble_eq_true rfl) ?_
  show V g mX8_placeOf _ h 0 0 [(0, .ref m), (1, .int (nI r)), (2, .int (nI k))] 0 []
  have hR := W.2.2.1
  have hS := W.2.2.2.1 r hr
  have hl := pof_lt hp hk
  have hn := npt_le P r
  refine V_bipush (q := 2) (v := nI 16) dX8_placeOf_0 rfl (by decide) ?_
  refine V_iload_n (j := 1) (q := 3) dX8_placeOf_2 rfl rfl ?_
  refine V_imulN (q := 4) dX8_placeOf_3 rfl ?_
  refine V_aload_n (j := 0) (q := 5) dX8_placeOf_4 rfl rfl ?_
  refine V_getP (q := 8) (r := (m + 3)) fX8_16 (W.1.1 0 _ rfl) rfl (W.1.2 3 _ rfl) dX8_placeOf_5 rfl ?_
  refine V_bipush (q := 10) (v := nI 16) dX8_placeOf_8 rfl (by decide) ?_
  refine V_iload_n (j := 1) (q := 11) dX8_placeOf_10 rfl rfl ?_
  refine V_imulN (q := 12) dX8_placeOf_11 rfl ?_
  refine V_iload_n (j := 2) (q := 13) dX8_placeOf_12 rfl rfl ?_
  refine V_iaddN (q := 14) dX8_placeOf_13 rfl ?_
  refine V_iald (q := 15) (W.1.1 3 _ rfl) (by omega) (by decide) dX8_placeOf_14 rfl ?_
  refine V_rw (y := nI (pof P r k)) (((A r hr).2.1 k hk).trans (if_pos hp)) ?_
  refine V_iaddN (q := 16) dX8_placeOf_15 rfl ?_
  refine V_iret rfl dX8_placeOf_16 rfl rfl ?_
  exact ⟨pv (by rfl), rfl⟩

theorem bgp_lt {P : PG} {r p : Nat} (h : p < npt P r) : bgp P r p < pSz P r := bgf_lt P r _ p h
set_option maxHeartbeats 4000000 in
set_option maxRecDepth 100000 in
theorem c_beginsAt {g : GX} {h : AH} {m : Nat} {P : PG} (W : RF h m P) (A : PA h m P (pNr P)) {r k : Nat} (hr : r < pNr P) (hk : k < pSz P r) (hp : ptd P r k = true) : Ct g mX8_beginsAt 1 0 0 [.ref m, .int (nI r), .int (nI k)] h (fun ρ η => ρ = some (.int (bi (bgn P r k))) ∧ η = h) := by
  refine Ct_intro (by decide +kernel) (Nat.le_of_ble_eq_true rfl) ?_
  show V g mX8_beginsAt _ h 0 0 [(0, .ref m), (1, .int (nI r)), (2, .int (nI k))] 0 []
  have hR := W.2.2.1
  have hS := W.2.2.2.1 r hr
  have hl := pof_lt hp hk
  have hn := npt_le P r
  have hl2 := bgp_lt hl
  refine V_aload_n (j := 0) (q := 1) dX8_beginsAt_0 rfl rfl ?_
  refine V_getP (q := 4) (r := (m + 4)) fX8_19 (W.1.1 0 _ rfl) rfl (W.1.2 4 _ rfl) dX8_beginsAt_1 rfl ?_
  refine V_aload_n (j := 0) (q := 5) dX8_beginsAt_4 rfl rfl ?_
  refine V_iload_n (j := 1) (q := 6) dX8_beginsAt_5 rfl rfl ?_
  refine V_iload_n (j := 2) (q := 7) dX8_beginsAt_6 rfl rfl ?_
  refine V_cpV (q := 10) (S := [.ref (m + 4)]) (v := .int (nI (16 * r + pof P r k))) kX8_110 (c_placeOf (r := r) (k := k) W A hr hk hp) (W.1.1 0 _ rfl) rfl rfl rfl dX8_beginsAt_7 rfl ?_
  refine V_iald (q := 11) (W.1.1 4 _ rfl) (by omega) (by decide) dX8_beginsAt_10 rfl ?_
  refine V_rw (y := nI (bgp P r (pof P r k))) (((A r hr).2.2 _ (pof_lt hp hk)).1) ?_
  refine V_iload_n (j := 2) (q := 12) dX8_beginsAt_11 rfl rfl ?_
  refine V_icmp_neN (tgt := 19) (q := 15) dX8_beginsAt_12 rfl rfl (by omega) (by omega) (fun c1 => ?_) (fun c1 => ?_)
  · skip
    refine V_iconst (q := 20) (v := nI 0) dX8_beginsAt_19 rfl rfl ?_
    refine V_rw (y := bi false) rfl ?_
    refine V_zret (b := false) rfl dX8_beginsAt_20 rfl rfl ?_
    exact ⟨pvb (by have := bgn_pof hp hk; cases hb : bgn P r k <;> simp_all), rfl⟩
  · skip
    refine V_iconst (q := 16) (v := nI 1) dX8_beginsAt_15 rfl rfl ?_
    refine V_goto (q := 20) dX8_beginsAt_16 rfl ?_
    refine V_rw (y := bi true) rfl ?_
    refine V_zret (b := true) rfl dX8_beginsAt_20 rfl rfl ?_
    exact ⟨pvb (by have := bgn_pof hp hk; cases hb : bgn P r k <;> simp_all), rfl⟩
end
section
/-! pieces -/
theorem ptd_ac {P : PG} {r k i : Nat} (hi : i < pNi P) (h : acI P r k i = true) : ptd P r k = true := by
  have : acc P r k = true := anyN_iff.mpr ⟨i, hi, h⟩
  simp [ptd, this]
theorem ptd_in {P : PG} {r k i side : Nat} (hi : i < pNi P) (hs : side < 2) (h : cpd P i side r k = true) : ptd P r k = true := by
  have : inC P r k = true := anyN_iff.mpr ⟨i, hi, by rcases (show side = 0 ∨ side = 1 by omega) with rfl | rfl <;> simp [h]⟩
  cases ha : acc P r k <;> simp [ptd, sft, this, ha]
theorem ptd_d {P : PG} {i j x : Nat} (hi : i < pNi P) (hc : pFd P i 0 = 3) (hj : j < pFd P i 5) (hx : x = pFd P i 2 + j) : ptd P (pFd P i 1) x = true :=
  ptd_in (side := 0) hi (by decide) (by simp [cpd, hc, hld]; omega)
theorem ptd_s {P : PG} {i j x : Nat} (hi : i < pNi P) (hc : pFd P i 0 = 3) (hj : j < pFd P i 5) (hx : x = pFd P i 4 + j) : ptd P (pFd P i 3) x = true :=
  ptd_in (side := 1) hi (by decide) (by simp [cpd, hc, hld]; omega)
theorem ptd_a {P : PG} {i j x : Nat} (hi : i < pNi P) (hc : isAc P i = true) (hj : j < pFd P i 3) (hx : x = pFd P i 2 + j) : ptd P (pFd P i 1) x = true :=
  ptd_ac hi (by simp [acI, hc, hld]; omega)
def pcut (P : PG) (i j : Nat) : Bool := bgn P (pFd P i 1) (pFd P i 2 + j) || bgn P (pFd P i 3) (pFd P i 4 + j)
def plF (P : PG) (i k : Nat) : Nat → Nat → Nat
  | 0, n => n
  | f + 1, n => if pcut P i (k + n) = true then n else plF P i k f (n + 1)
/-- how long the piece is that begins with byte k of the copy i -/
def pln (P : PG) (i k : Nat) : Nat := plF P i k (pFd P i 5 - (k + 1)) 1
theorem plF_spec {P : PG} {i k : Nat} : ∀ (f n : Nat), k + n + f = pFd P i 5 → n ≤ plF P i k f n ∧ k + plF P i k f n ≤ pFd P i 5 ∧ (∀ j, n ≤ j → j < plF P i k f n → pcut P i (k + j) = false) ∧ (k + plF P i k f n < pFd P i 5 → pcut P i (k + plF P i k f n) = true)
  | 0, n, h => ⟨Nat.le_refl _, by show k + n ≤ _; omega, fun j h1 h2 => absurd h2 (by show ¬ j < n; omega), fun h2 => absurd h2 (by show ¬ k + n < _; omega)⟩
  | f + 1, n, h => by
    unfold plF
    split
    · rename_i hc
      exact ⟨Nat.le_refl _, by omega, fun j h1 h2 => absurd h2 (by omega), fun _ => hc⟩
    · rename_i hc
      obtain ⟨a, b, c, d⟩ := plF_spec (P := P) (i := i) (k := k) f (n + 1) (by omega)
      refine ⟨by omega, b, fun j h1 h2 => ?_, d⟩
      by_cases e : j = n
      · subst e
        cases hh : pcut P i (k + j) with
        | true => exact absurd hh hc
        | false => rfl
      · exact c j (by omega) h2
theorem pln_spec {P : PG} {i k : Nat} (h : k < pFd P i 5) : 1 ≤ pln P i k ∧ k + pln P i k ≤ pFd P i 5 ∧ (∀ j, 1 ≤ j → j < pln P i k → pcut P i (k + j) = false) ∧ (k + pln P i k < pFd P i 5 → pcut P i (k + pln P i k) = true) :=
  plF_spec (P := P) (i := i) (k := k) (pFd P i 5 - (k + 1)) 1 (by omega)
/-- bytes of one partition -/
theorem pof_same {P : PG} {r k0 : Nat} : ∀ {len : Nat}, (∀ j, 0 < j → j < len → bgn P r (k0 + j) = false) → ∀ j, j < len → pof P r (k0 + j) = pof P r k0 := by
  intro len h j
  induction j with
  | zero => intro _; rfl
  | succ j ih =>
    intro hj
    have h1 := ih (by omega)
    have h2 := h (j + 1) (by omega) hj
    unfold pof at h1 ⊢
    rw [show k0 + (j + 1) = k0 + j + 1 by omega] at h2 ⊢
    rw [cnt_s P r (k0 + j + 1), if_neg (by simp [h2])]
    exact h1
theorem bgn_ac {P : PG} {i j : Nat} (hi : i < pNi P) (hc : isAc P i = true) (h0 : 0 < j) (hj : j < pFd P i 3) : bgn P (pFd P i 1) (pFd P i 2 + j) = false := by
  have hg : gon P (pFd P i 1) (pFd P i 2 + j) = true := by
    unfold gon
    split
    · simp; omega
    · rw [if_neg (by omega)]
      have : jnd P (pFd P i 1) (pFd P i 2 + j - 1) = true := anyN_iff.mpr ⟨i, hi, by simp [acI, hc, hld]; omega⟩
      simp [this]
  simp [bgn, hg]
theorem pof_ac {P : PG} {i j : Nat} (hi : i < pNi P) (hc : isAc P i = true) (hj : j < pFd P i 3) : pof P (pFd P i 1) (pFd P i 2 + j) = pof P (pFd P i 1) (pFd P i 2) :=
  pof_same (fun j h0 h1 => bgn_ac hi hc h0 h1) j hj
theorem pof_pd {P : PG} {i k j : Nat} (hk : k < pFd P i 5) (hj : j < pln P i k) : pof P (pFd P i 1) (pFd P i 2 + k + j) = pof P (pFd P i 1) (pFd P i 2 + k) :=
  pof_same (len := pln P i k) (fun j h0 h1 => by
    have := (pln_spec hk).2.2.1 j (by omega) h1
    simp only [pcut, Bool.or_eq_false_iff] at this
    rw [Nat.add_assoc]; exact this.1) j hj
theorem pof_ps {P : PG} {i k j : Nat} (hk : k < pFd P i 5) (hj : j < pln P i k) : pof P (pFd P i 3) (pFd P i 4 + k + j) = pof P (pFd P i 3) (pFd P i 4 + k) :=
  pof_same (len := pln P i k) (fun j h0 h1 => by
    have := (pln_spec hk).2.2.1 j (by omega) h1
    simp only [pcut, Bool.or_eq_false_iff] at this
    rw [Nat.add_assoc]; exact this.2) j hj
/-! promotable -/
/-- a range of record r is just its partition, or x isn't that partition's place -/
def rcx (P : PG) (r o l x : Nat) : Bool := decide (x ≠ 16 * r + pof P r o) || (decide (bgp P r (pof P r o) = o) && decide (lnp P r (pof P r o) = l))
def cpC (P : PG) (i x s : Nat) : Bool := !(decide (s = 0) || pcut P i s) || (rcx P (pFd P i 1) (pFd P i 2 + s) (pln P i s) x && rcx P (pFd P i 3) (pFd P i 4 + s) (pln P i s) x)
def prC (P : PG) (x i : Nat) : Bool := if isAc P i = true then rcx P (pFd P i 1) (pFd P i 2) (pFd P i 3) x else if pFd P i 0 = 3 then allN (pFd P i 5) (cpC P i x) else true
def isWn (n : Nat) : Bool := decide (n = 1 ∨ n = 2 ∨ n = 4)
def prI (P : PG) (x : Nat) : Bool := !esc P (x / 16) && isWn (lnp P (x / 16) (x % 16))
/-- the partition at place x = 16 * record + number is promotable -/
def prm (P : PG) (x : Nat) : Bool := prI P x && allN (pNi P) (prC P x)
/-- booleans in a row of 64 -/
def BR (h : AH) (a : Nat) (f : Nat → Bool) : Prop := ∀ x, x < 64 → hI h a x = bi (f x)
theorem BR_set {h : AH} {a x : Nat} {f f' : Nat → Bool} {b : Bool} (B : BR h a f) (h1 : f' x = b) (h2 : ∀ y, y ≠ x → f' y = f y) : BR (sI h a x (bi b)) a f' := by
  intro y hy
  rw [hI_s]
  by_cases e : y = x
  · rw [if_pos ⟨rfl, e⟩, e, h1]
  · rw [if_neg (fun w => e w.2), h2 y e]; exact B y hy
theorem BR_ne {h : AH} {a c x : Nat} {v : Int32} {f : Nat → Bool} (B : BR h a f) (e : a ≠ c) : BR (sI h c x v) a f := by
  intro y hy
  rw [hI_s, if_neg (fun w => e w.1)]; exact B y hy
theorem allN_add {f : Nat → Bool} {k : Nat} : ∀ {n : Nat}, (∀ j, 1 ≤ j → j < n → f (k + j) = true) → 1 ≤ n → allN (k + n) f = (allN k f && f k)
  | 0, _, h => absurd h (by decide)
  | 1, _, _ => rfl
  | n + 2, h, _ => by
    have ih := allN_add (f := f) (k := k) (n := n + 1) (fun j h1 h2 => h j h1 (by omega)) (by omega)
    show (allN (k + (n + 1)) f && f (k + (n + 1))) = _
    rw [ih, h (n + 1) (by omega) (by omega), Bool.and_true]
/-- only the row a of the reference has changed -/
def FB (h0 h : AH) (a : Nat) : Prop := (h.1 = h0.1 ∧ hJ h = hJ h0 ∧ hP h = hP h0) ∧ ∀ b, b ≠ a → hI h b = hI h0 b
theorem FB.rf {h : AH} (a : Nat) : FB h h a := ⟨⟨rfl, rfl, rfl⟩, fun _ _ => rfl⟩
theorem FB.set {h0 h : AH} {a x : Nat} {v : Int32} (F : FB h0 h a) : FB h0 (sI h a x v) a := ⟨F.1, fun b hb => by rw [hI_n hb]; exact F.2 b hb⟩
theorem FB.tr {h0 h1 h2 : AH} {a : Nat} (A : FB h0 h1 a) (B : FB h1 h2 a) : FB h0 h2 a := ⟨⟨B.1.1.trans A.1.1, B.1.2.1.trans A.1.2.1, B.1.2.2.trans A.1.2.2⟩, fun b hb => (B.2 b hb).trans (A.2 b hb)⟩
theorem FB.RF {h0 h : AH} {a m : Nat} {P : PG} (F : FB h0 h a) (W : RF h0 m P) (e : m + 1 ≠ a) : RF h m P := RF_eq W F.1.1 F.1.2.2 (F.2 _ e)
theorem PtR_eq {h h' : AH} {m : Nat} {P : PG} {r : Nat} (A : PtR h m P r) (e3 : hI h' (m + 3) = hI h (m + 3)) (e4 : hI h' (m + 4) = hI h (m + 4)) (e5 : hI h' (m + 5) = hI h (m + 5)) (e6 : hI h' (m + 6) = hI h (m + 6)) : PtR h' m P r := by
  unfold PtR at A ⊢
  rw [e3, e4, e5, e6]; exact A
theorem FB.PA {h0 h : AH} {m k n : Nat} {P : PG} (F : FB h0 h (m + k)) (A : PA h0 m P n) (e : 7 ≤ k) : PA h m P n := fun r hr => PtR_eq (A r hr) (F.2 _ (by omega)) (F.2 _ (by omega)) (F.2 _ (by omega)) (F.2 _ (by omega))
theorem PA_sI {h : AH} {m k n x : Nat} {v : Int32} {P : PG} (A : PA h m P n) (e : 7 ≤ k) : PA (sI h (m + k) x v) m P n := FB.PA (FB.set (FB.rf (m + k))) A e
theorem rst_set {h : AH} {P : PG} {a r o l pl : Nat} {f fk : Nat → Bool} {b : Bool} (B : BR h a fk) (hq : fk = f ∨ fk = fun x => f x && rcx P r o l x) (hpl : pl = 16 * r + pof P r o) (hb : b = (fk pl && (decide (bgp P r (pof P r o) = o) && decide (lnp P r (pof P r o) = l)))) : BR (sI h a pl (bi b)) a (fun x => f x && rcx P r o l x) := by
  refine BR_set B ?_ (fun y hy => ?_)
  · rw [hb]
    rcases hq with rfl | rfl
    · simp [rcx, hpl]
    · simp only [rcx, hpl]
      cases f (16 * r + pof P r o) <;> simp
  · have h1 : rcx P r o l y = true := by simp [rcx, ← hpl, hy]
    rcases hq with rfl | rfl <;> simp [h1]
theorem cpC_step {P : PG} {i k x : Nat} (hk : k < pFd P i 5) (hs : k = 0 ∨ pcut P i k = true) : allN (k + pln P i k) (cpC P i x) = (allN k (cpC P i x) && (rcx P (pFd P i 1) (pFd P i 2 + k) (pln P i k) x && rcx P (pFd P i 3) (pFd P i 4 + k) (pln P i k) x)) := by
  have h := pln_spec hk
  rw [allN_add (fun j h1 h2 => by simp [cpC, h.2.2.1 j h1 h2]; omega) h.1]
  congr 1
  rcases hs with rfl | hs
  · simp [cpC]
  · simp [cpC, hs]
theorem isW_n {n : Nat} (h : n < 2 ^ 31) : isW (nI n) = isWn n := by
  unfold isW isWn
  rw [i_n h]
  congr 1
  apply propext
  omega
theorem lnf_le (P : PG) (r : Nat) : ∀ k p, lnf P r k p ≤ k
  | 0, _ => Nat.le_refl _
  | k + 1, p => by
    have := lnf_le P r k p
    rw [lnf_s]
    split
    · split <;> omega
    · omega
theorem lnp_le (P : PG) (r p : Nat) : lnp P r p ≤ pSz P r := lnf_le P r _ p
theorem prI_at (P : PG) {r p : Nat} (hp : p < 16) : prI P (16 * r + p) = (!esc P r && isWn (lnp P r p)) := by
  unfold prI
  rw [show (16 * r + p) / 16 = r by omega, show (16 * r + p) % 16 = p by omega]
end
section
set_option maxHeartbeats 4000000 in
set_option maxRecDepth 100000 in
theorem lp_pieceAt {g : GX} {h : AH} {m : Nat} {P : PG} (W : RF h m P) (A : PA h m P (pNr P)) {i k : Nat} (hi : i < pNi P) (hc : pFd P i 0 = 3) (hk : k < pFd P i 5) : ∀ (t : Nat) (n : Nat), (1 ≤ n ∧ k + n ≤ pFd P i 5) → (plF P i k (pFd P i 5 - (k + n)) n = pln P i k) → pFd P i 5 - (k + n) < t → V g mX8_pieceAt (thM g 2 0 0 (fun ρ η => ρ = some (.int (nI (pln P i k))) ∧ η = h)) h 0 0 [(0, .ref m), (1, .int (nI i)), (2, .int (nI k)), (3, .int (nI n))] 2 [] := by
  intro t
  induction t with
  | zero =>
    intro n h1 hn hfu
    exact absurd hfu (Nat.not_lt_zero _)
  | succ t ih =>
    intro n h1 hn hfu
    have hN := W.2.2.2.2.1
    have hR := W.2.2.1
    have hcp := ok_cp W.2.2 hi hc
    refine V_iload_n (j := 2) (q := 3) dX8_pieceAt_2 rfl rfl ?_
    refine V_iload_n (j := 3) (q := 4) dX8_pieceAt_3 rfl rfl ?_
    refine V_iaddN (q := 5) dX8_pieceAt_4 rfl ?_
    refine V_aload_n (j := 0) (q := 6) dX8_pieceAt_5 rfl rfl ?_
    refine V_iload_n (j := 1) (q := 7) dX8_pieceAt_6 rfl rfl ?_
    refine V_iconst (q := 8) (v := nI 5) dX8_pieceAt_7 rfl rfl ?_
    refine V_cpV (q := 11) (S := [.int (nI (k + n))]) (v := .int (nI (pFd P i 5))) kX8_72 (c_of (i := i) W (by omega) (by omega)) (W.1.1 0 _ rfl) rfl rfl rfl dX8_pieceAt_8 rfl ?_
    refine V_icmp_geN (tgt := 66) (q := 14) dX8_pieceAt_11 rfl rfl (by omega) (by omega) (fun c1 => ?_) (fun c1 => ?_)
    · skip
      refine V_iload_n (j := 3) (q := 67) dX8_pieceAt_66 rfl rfl ?_
      refine V_iret rfl dX8_pieceAt_67 rfl rfl ?_
      exact ⟨pv (by rw [← hn, show pFd P i 5 - (k + n) = 0 by omega]; rfl), rfl⟩
    · skip
      refine V_aload_n (j := 0) (q := 15) dX8_pieceAt_14 rfl rfl ?_
      refine V_aload_n (j := 0) (q := 16) dX8_pieceAt_15 rfl rfl ?_
      refine V_iload_n (j := 1) (q := 17) dX8_pieceAt_16 rfl rfl ?_
      refine V_iconst (q := 18) (v := nI 1) dX8_pieceAt_17 rfl rfl ?_
      refine V_cpV (q := 21) (S := [.ref m]) (v := .int (nI (pFd P i 1))) kX8_72 (c_of (i := i) W (by omega) (by omega)) (W.1.1 0 _ rfl) rfl rfl rfl dX8_pieceAt_18 rfl ?_
      refine V_aload_n (j := 0) (q := 22) dX8_pieceAt_21 rfl rfl ?_
      refine V_iload_n (j := 1) (q := 23) dX8_pieceAt_22 rfl rfl ?_
      refine V_iconst (q := 24) (v := nI 2) dX8_pieceAt_23 rfl rfl ?_
      refine V_cpV (q := 27) (S := [.int (nI (pFd P i 1)), .ref m]) (v := .int (nI (pFd P i 2))) kX8_72 (c_of (i := i) W (by omega) (by omega)) (W.1.1 0 _ rfl) rfl rfl rfl dX8_pieceAt_24 rfl ?_
      refine V_iload_n (j := 2) (q := 28) dX8_pieceAt_27 rfl rfl ?_
      refine V_iaddN (q := 29) dX8_pieceAt_28 rfl ?_
      refine V_iload_n (j := 3) (q := 30) dX8_pieceAt_29 rfl rfl ?_
      refine V_iaddN (q := 31) dX8_pieceAt_30 rfl ?_
      refine V_cpV (q := 34) (S := []) (v := .int (bi (bgn P (pFd P i 1) (pFd P i 2 + k + n)))) kX8_113 (c_beginsAt (r := pFd P i 1) (k := pFd P i 2 + k + n) W A (by omega) (by omega) (ptd_d hi hc (j := k + n) (by omega) (by omega))) (W.1.1 0 _ rfl) rfl rfl rfl dX8_pieceAt_31 rfl ?_
      refine V_if_neB (tgt := 66) (q := 37) dX8_pieceAt_34 rfl rfl (fun c2 => ?_) (fun c2 => ?_)
      · skip
        refine V_iload_n (j := 3) (q := 67) dX8_pieceAt_66 rfl rfl ?_
        refine V_iret rfl dX8_pieceAt_67 rfl rfl ?_
        exact ⟨pv (by rw [← hn, show pFd P i 5 - (k + n) = pFd P i 5 - (k + n) - 1 + 1 by omega, plF, if_pos (by simp [pcut, ← Nat.add_assoc, c1, c2])]), rfl⟩
      · skip
        refine V_aload_n (j := 0) (q := 38) dX8_pieceAt_37 rfl rfl ?_
        refine V_aload_n (j := 0) (q := 39) dX8_pieceAt_38 rfl rfl ?_
        refine V_iload_n (j := 1) (q := 40) dX8_pieceAt_39 rfl rfl ?_
        refine V_iconst (q := 41) (v := nI 3) dX8_pieceAt_40 rfl rfl ?_
        refine V_cpV (q := 44) (S := [.ref m]) (v := .int (nI (pFd P i 3))) kX8_72 (c_of (i := i) W (by omega) (by omega)) (W.1.1 0 _ rfl) rfl rfl rfl dX8_pieceAt_41 rfl ?_
        refine V_aload_n (j := 0) (q := 45) dX8_pieceAt_44 rfl rfl ?_
        refine V_iload_n (j := 1) (q := 46) dX8_pieceAt_45 rfl rfl ?_
        refine V_iconst (q := 47) (v := nI 4) dX8_pieceAt_46 rfl rfl ?_
        refine V_cpV (q := 50) (S := [.int (nI (pFd P i 3)), .ref m]) (v := .int (nI (pFd P i 4))) kX8_72 (c_of (i := i) W (by omega) (by omega)) (W.1.1 0 _ rfl) rfl rfl rfl dX8_pieceAt_47 rfl ?_
        refine V_iload_n (j := 2) (q := 51) dX8_pieceAt_50 rfl rfl ?_
        refine V_iaddN (q := 52) dX8_pieceAt_51 rfl ?_
        refine V_iload_n (j := 3) (q := 53) dX8_pieceAt_52 rfl rfl ?_
        refine V_iaddN (q := 54) dX8_pieceAt_53 rfl ?_
        refine V_cpV (q := 57) (S := []) (v := .int (bi (bgn P (pFd P i 3) (pFd P i 4 + k + n)))) kX8_113 (c_beginsAt (r := pFd P i 3) (k := pFd P i 4 + k + n) W A (by omega) (by omega) (ptd_s hi hc (j := k + n) (by omega) (by omega))) (W.1.1 0 _ rfl) rfl rfl rfl dX8_pieceAt_54 rfl ?_
        refine V_if_neB (tgt := 66) (q := 60) dX8_pieceAt_57 rfl rfl (fun c3 => ?_) (fun c3 => ?_)
        · skip
          refine V_iload_n (j := 3) (q := 67) dX8_pieceAt_66 rfl rfl ?_
          refine V_iret rfl dX8_pieceAt_67 rfl rfl ?_
          exact ⟨pv (by rw [← hn, show pFd P i 5 - (k + n) = pFd P i 5 - (k + n) - 1 + 1 by omega, plF, if_pos (by simp [pcut, ← Nat.add_assoc, c1, c2, c3])]), rfl⟩
        · skip
          refine V_iincN (j := 3) (q := 63) (L' := [(3, .int (nI (n + 1))), (0, .ref m), (1, .int (nI i)), (2, .int (nI k))]) dX8_pieceAt_60 rfl rfl rfl rfl ?_
          refine V_goto (q := 2) dX8_pieceAt_63 rfl ?_
          refine V_sub (L' := [(0, .ref m), (1, .int (nI i)), (2, .int (nI k)), (3, .int (nI (n + 1)))]) [1, 2, 3, 0] rfl ?_
          refine ih (n + 1) ?_ ?_ ?_
          · omega
          · rw [← hn, show pFd P i 5 - (k + n) = pFd P i 5 - (k + (n + 1)) + 1 by omega, plF, if_neg (by simp [pcut, ← Nat.add_assoc, c1, c2, c3])]
          · omega

set_option maxHeartbeats 4000000 in
set_option maxRecDepth 100000 in
theorem c_pieceAt {g : GX} {h : AH} {m : Nat} {P : PG} (W : RF h m P) (A : PA h m P (pNr P)) {i k : Nat} (hi : i < pNi P) (hc : pFd P i 0 = 3) (hk : k < pFd P i 5) : Ct g mX8_pieceAt 2 0 0 [.ref m, .int (nI i), .int (nI k)] h (fun ρ η => ρ = some (.int (nI (pln P i k))) ∧ η = h) := by
  refine Ct_intro (by decide +kernel) (Nat.le_of_ble_eq_true rfl) ?_
  show V g mX8_pieceAt _ h 0 0 [(0, .ref m), (1, .int (nI i)), (2, .int (nI k))] 0 []
  have hN := W.2.2.2.2.1
  have hR := W.2.2.1
  have hcp := ok_cp W.2.2 hi hc
  refine V_iconst (q := 1) (v := nI 1) dX8_pieceAt_0 rfl rfl ?_
  refine V_istore_n (q := 2) (L' := [(3, .int (nI 1)), (0, .ref m), (1, .int (nI i)), (2, .int (nI k))]) dX8_pieceAt_1 rfl rfl rfl ?_
  refine V_sub (L' := [(0, .ref m), (1, .int (nI i)), (2, .int (nI k)), (3, .int (nI 1))]) [1, 2, 3, 0] rfl ?_
  refine lp_pieceAt W A hi hc hk (pFd P i 5 - (k + 1) + 1) 1 ?_ ?_ ?_
  · omega
  · rfl
  · exact Nat.lt_succ_self _

set_option maxHeartbeats 4000000 in
set_option maxRecDepth 100000 in
theorem lp_restrict {g : GX} {h : AH} {m : Nat} {P : PG} (W : RF h m P) (A : PA h m P (pNr P)) {r o l : Nat} {f : Nat → Bool} (B : BR h (m + 7) f) (hr : r < pNr P) (hl : 1 ≤ l) (ho : o + l ≤ pSz P r) (hpt : ∀ x, o ≤ x → x < o + l → ptd P r x = true) (hsm : ∀ x, o ≤ x → x < o + l → pof P r x = pof P r o) : ∀ (t : Nat) (k : Nat) (e : AH) (fk : Nat → Bool), (o ≤ k ∧ k ≤ o + l) → (FB h e (m + 7)) → (BR e (m + 7) fk) → ((k = o ∧ fk = f) ∨ (o < k ∧ fk = fun x => f x && rcx P r o l x)) → o + l - k < t → V g mX8_restrict (thM g 1 0 0 (fun ρ η => ρ = none ∧ FB h η (m + 7) ∧ BR η (m + 7) (fun x => f x && rcx P r o l x))) e 0 0 [(0, .ref m), (1, .int (nI r)), (2, .int (nI o)), (3, .int (nI l)), (4, .int (nI k))] 3 [] := by
  intro t
  induction t with
  | zero =>
    intro k e fk hk F B2 hq hfu
    exact absurd hfu (Nat.not_lt_zero _)
  | succ t ih =>
    intro k e fk hk F B2 hq hfu
    have hR := W.2.2.1
    have hS := W.2.2.2.1 r hr
    have hlt := pof_lt (hpt o (by omega) (by omega)) (by omega)
    have hnp := npt_le P r
    have hbl := bgp_lt hlt
    have hll := lnp_le P r (pof P r o)
    have W := F.RF W (by omega)
    have A := F.PA A (by decide)
    refine V_iload (j := 4) (q := 5) dX8_restrict_3 rfl rfl ?_
    refine V_iload_n (j := 2) (q := 6) dX8_restrict_5 rfl rfl ?_
    refine V_iload_n (j := 3) (q := 7) dX8_restrict_6 rfl rfl ?_
    refine V_iaddN (q := 8) dX8_restrict_7 rfl ?_
    refine V_icmp_geN (tgt := 70) (q := 11) dX8_restrict_8 rfl rfl (by omega) (by omega) (fun c1 => ?_) (fun c1 => ?_)
    · skip
      refine V_vret rfl dX8_restrict_70 rfl rfl ?_
      exact ⟨rfl, F, by rcases hq with z | z; (exact absurd z.1 (by omega)); rw [← z.2]; exact B2⟩
    · skip
      refine V_aload_n (j := 0) (q := 12) dX8_restrict_11 rfl rfl ?_
      refine V_iload_n (j := 1) (q := 13) dX8_restrict_12 rfl rfl ?_
      refine V_iload (j := 4) (q := 15) dX8_restrict_13 rfl rfl ?_
      refine V_cpV (q := 18) (S := []) (v := .int (nI (16 * r + pof P r k))) kX8_110 (c_placeOf (r := r) (k := k) W A hr (by omega) (hpt k (by omega) (by omega))) (W.1.1 0 _ rfl) rfl rfl rfl dX8_restrict_15 rfl ?_
      refine V_rw (y := nI (16 * r + pof P r o)) (by rw [hsm k (by omega) (by omega)]) ?_
      refine V_istore (q := 20) (L' := [(5, .int (nI (16 * r + pof P r o))), (0, .ref m), (1, .int (nI r)), (2, .int (nI o)), (3, .int (nI l)), (4, .int (nI k))]) dX8_restrict_18 rfl rfl rfl ?_
      refine V_aload_n (j := 1) (q := 21) dX8_restrict_20 rfl rfl ?_
      refine V_getP (q := 24) (r := (m + 7)) fX8_28 (W.1.1 0 _ rfl) rfl (W.1.2 7 _ rfl) dX8_restrict_21 rfl ?_
      refine V_iload (j := 0) (q := 26) dX8_restrict_24 rfl rfl ?_
      refine V_aload_n (j := 1) (q := 27) dX8_restrict_26 rfl rfl ?_
      refine V_getP (q := 30) (r := (m + 7)) fX8_28 (W.1.1 0 _ rfl) rfl (W.1.2 7 _ rfl) dX8_restrict_27 rfl ?_
      refine V_iload (j := 0) (q := 32) dX8_restrict_30 rfl rfl ?_
      refine V_zald (q := 33) (W.1.1 7 _ rfl) (by omega) (by decide) dX8_restrict_32 rfl ?_
      refine V_rw (y := bi (fk (16 * r + pof P r o))) (B2 _ (by omega)) ?_
      refine V_if_eqB (tgt := 62) (q := 36) dX8_restrict_33 rfl rfl (fun c2 => ?_) (fun c2 => ?_)
      · skip
        refine V_iconst (q := 63) (v := nI 0) dX8_restrict_62 rfl rfl ?_
        refine V_rw (y := bi false) rfl ?_
        refine V_zast (b := false) (q := 64) (W.1.1 7 _ rfl) (by omega) (by decide) dX8_restrict_63 rfl ?_
        have W : RF (sI e (m + 7) (16 * r + pof P r o) (bi false)) m P := RF_sI W (by omega)
        refine V_iincN (j := 5) (q := 67) (L' := [(4, .int (nI (k + 1))), (5, .int (nI (16 * r + pof P r o))), (0, .ref m), (1, .int (nI r)), (2, .int (nI o)), (3, .int (nI l))]) dX8_restrict_64 rfl rfl rfl rfl ?_
        refine V_goto (q := 3) dX8_restrict_67 rfl ?_
        refine V_sub (L' := [(0, .ref m), (1, .int (nI r)), (2, .int (nI o)), (3, .int (nI l)), (4, .int (nI (k + 1)))]) [2, 3, 4, 5, 0] rfl ?_
        refine ih (k + 1) (sI e (m + 7) (16 * r + pof P r o) (bi false)) (fun x => f x && rcx P r o l x) ?_ ?_ ?_ ?_ ?_
        · omega
        · exact F.set
        · exact rst_set B2 (hq.imp (fun z => z.2) (fun z => z.2)) rfl (by simp [c1, c2])
        · exact Or.inr ⟨by omega, rfl⟩
        · omega
      · skip
        refine V_aload_n (j := 1) (q := 37) dX8_restrict_36 rfl rfl ?_
        refine V_getP (q := 40) (r := (m + 4)) fX8_19 (W.1.1 0 _ rfl) rfl (W.1.2 4 _ rfl) dX8_restrict_37 rfl ?_
        refine V_iload (j := 0) (q := 42) dX8_restrict_40 rfl rfl ?_
        refine V_iald (q := 43) (W.1.1 4 _ rfl) (by omega) (by decide) dX8_restrict_42 rfl ?_
        refine V_rw (y := nI (bgp P r (pof P r o))) (((A r (by omega)).2.2 _ (by omega)).1) ?_
        refine V_iload_n (j := 3) (q := 44) dX8_restrict_43 rfl rfl ?_
        refine V_icmp_neN (tgt := 62) (q := 47) dX8_restrict_44 rfl rfl (by omega) (by omega) (fun c3 => ?_) (fun c3 => ?_)
        · skip
          refine V_iconst (q := 63) (v := nI 0) dX8_restrict_62 rfl rfl ?_
          refine V_rw (y := bi false) rfl ?_
          refine V_zast (b := false) (q := 64) (W.1.1 7 _ rfl) (by omega) (by decide) dX8_restrict_63 rfl ?_
          have W : RF (sI e (m + 7) (16 * r + pof P r o) (bi false)) m P := RF_sI W (by omega)
          refine V_iincN (j := 5) (q := 67) (L' := [(4, .int (nI (k + 1))), (5, .int (nI (16 * r + pof P r o))), (0, .ref m), (1, .int (nI r)), (2, .int (nI o)), (3, .int (nI l))]) dX8_restrict_64 rfl rfl rfl rfl ?_
          refine V_goto (q := 3) dX8_restrict_67 rfl ?_
          refine V_sub (L' := [(0, .ref m), (1, .int (nI r)), (2, .int (nI o)), (3, .int (nI l)), (4, .int (nI (k + 1)))]) [2, 3, 4, 5, 0] rfl ?_
          refine ih (k + 1) (sI e (m + 7) (16 * r + pof P r o) (bi false)) (fun x => f x && rcx P r o l x) ?_ ?_ ?_ ?_ ?_
          · omega
          · exact F.set
          · exact rst_set B2 (hq.imp (fun z => z.2) (fun z => z.2)) rfl (by simp [c1, c2, c3])
          · exact Or.inr ⟨by omega, rfl⟩
          · omega
        · skip
          refine V_aload_n (j := 1) (q := 48) dX8_restrict_47 rfl rfl ?_
          refine V_getP (q := 51) (r := (m + 5)) fX8_22 (W.1.1 0 _ rfl) rfl (W.1.2 5 _ rfl) dX8_restrict_48 rfl ?_
          refine V_iload (j := 0) (q := 53) dX8_restrict_51 rfl rfl ?_
          refine V_iald (q := 54) (W.1.1 5 _ rfl) (by omega) (by decide) dX8_restrict_53 rfl ?_
          refine V_rw (y := nI (lnp P r (pof P r o))) (((A r (by omega)).2.2 _ (by omega)).2) ?_
          refine V_iload_n (j := 4) (q := 55) dX8_restrict_54 rfl rfl ?_
          refine V_icmp_neN (tgt := 62) (q := 58) dX8_restrict_55 rfl rfl (by omega) (by omega) (fun c4 => ?_) (fun c4 => ?_)
          · skip
            refine V_iconst (q := 63) (v := nI 0) dX8_restrict_62 rfl rfl ?_
            refine V_rw (y := bi false) rfl ?_
            refine V_zast (b := false) (q := 64) (W.1.1 7 _ rfl) (by omega) (by decide) dX8_restrict_63 rfl ?_
            have W : RF (sI e (m + 7) (16 * r + pof P r o) (bi false)) m P := RF_sI W (by omega)
            refine V_iincN (j := 5) (q := 67) (L' := [(4, .int (nI (k + 1))), (5, .int (nI (16 * r + pof P r o))), (0, .ref m), (1, .int (nI r)), (2, .int (nI o)), (3, .int (nI l))]) dX8_restrict_64 rfl rfl rfl rfl ?_
            refine V_goto (q := 3) dX8_restrict_67 rfl ?_
            refine V_sub (L' := [(0, .ref m), (1, .int (nI r)), (2, .int (nI o)), (3, .int (nI l)), (4, .int (nI (k + 1)))]) [2, 3, 4, 5, 0] rfl ?_
            refine ih (k + 1) (sI e (m + 7) (16 * r + pof P r o) (bi false)) (fun x => f x && rcx P r o l x) ?_ ?_ ?_ ?_ ?_
            · omega
            · exact F.set
            · exact rst_set B2 (hq.imp (fun z => z.2) (fun z => z.2)) rfl (by simp [c1, c2, c3, c4])
            · exact Or.inr ⟨by omega, rfl⟩
            · omega
          · skip
            refine V_iconst (q := 59) (v := nI 1) dX8_restrict_58 rfl rfl ?_
            refine V_goto (q := 63) dX8_restrict_59 rfl ?_
            refine V_rw (y := bi true) rfl ?_
            refine V_zast (b := true) (q := 64) (W.1.1 7 _ rfl) (by omega) (by decide) dX8_restrict_63 rfl ?_
            have W : RF (sI e (m + 7) (16 * r + pof P r o) (bi true)) m P := RF_sI W (by omega)
            refine V_iincN (j := 5) (q := 67) (L' := [(4, .int (nI (k + 1))), (5, .int (nI (16 * r + pof P r o))), (0, .ref m), (1, .int (nI r)), (2, .int (nI o)), (3, .int (nI l))]) dX8_restrict_64 rfl rfl rfl rfl ?_
            refine V_goto (q := 3) dX8_restrict_67 rfl ?_
            refine V_sub (L' := [(0, .ref m), (1, .int (nI r)), (2, .int (nI o)), (3, .int (nI l)), (4, .int (nI (k + 1)))]) [2, 3, 4, 5, 0] rfl ?_
            refine ih (k + 1) (sI e (m + 7) (16 * r + pof P r o) (bi true)) (fun x => f x && rcx P r o l x) ?_ ?_ ?_ ?_ ?_
            · omega
            · exact F.set
            · exact rst_set B2 (hq.imp (fun z => z.2) (fun z => z.2)) rfl (by simp [c1, c2, c3, c4])
            · exact Or.inr ⟨by omega, rfl⟩
            · omega

set_option maxHeartbeats 4000000 in
set_option maxRecDepth 100000 in
theorem c_restrict {g : GX} {h : AH} {m : Nat} {P : PG} (W : RF h m P) (A : PA h m P (pNr P)) {r o l : Nat} {f : Nat → Bool} (B : BR h (m + 7) f) (hr : r < pNr P) (hl : 1 ≤ l) (ho : o + l ≤ pSz P r) (hpt : ∀ x, o ≤ x → x < o + l → ptd P r x = true) (hsm : ∀ x, o ≤ x → x < o + l → pof P r x = pof P r o) : Ct g mX8_restrict 1 0 0 [.ref m, .int (nI r), .int (nI o), .int (nI l)] h (fun ρ η => ρ = none ∧ FB h η (m + 7) ∧ BR η (m + 7) (fun x => f x && rcx P r o l x)) := by
  refine Ct_intro (by decide +kernel) (Nat.le_of_ble_eq_true rfl) ?_
  show V g mX8_restrict _ h 0 0 [(0, .ref m), (1, .int (nI r)), (2, .int (nI o)), (3, .int (nI l))] 0 []
  have hR := W.2.2.1
  have hS := W.2.2.2.1 r hr
  have hlt := pof_lt (hpt o (by omega) (by omega)) (by omega)
  have hnp := npt_le P r
  have hbl := bgp_lt hlt
  have hll := lnp_le P r (pof P r o)
  refine V_iload_n (j := 2) (q := 1) dX8_restrict_0 rfl rfl ?_
  refine V_istore (q := 3) (L' := [(4, .int (nI o)), (0, .ref m), (1, .int (nI r)), (2, .int (nI o)), (3, .int (nI l))]) dX8_restrict_1 rfl rfl rfl ?_
  refine V_sub (L' := [(0, .ref m), (1, .int (nI r)), (2, .int (nI o)), (3, .int (nI l)), (4, .int (nI o))]) [1, 2, 3, 4, 0] rfl ?_
  refine lp_restrict W A B hr hl ho hpt hsm (o + l - o + 1) o h f ?_ ?_ ?_ ?_ ?_
  · omega
  · exact FB.rf _
  · exact B
  · exact Or.inl ⟨rfl, rfl⟩
  · exact Nat.lt_succ_self _

set_option maxHeartbeats 4000000 in
set_option maxRecDepth 100000 in
theorem lp_restrictPieces {g : GX} {h : AH} {m : Nat} {P : PG} (W : RF h m P) (A : PA h m P (pNr P)) {i : Nat} {f : Nat → Bool} (B : BR h (m + 7) f) (hi : i < pNi P) (hc : pFd P i 0 = 3) : ∀ (t : Nat) (k : Nat) (e : AH), (k ≤ pFd P i 5) → (k < pFd P i 5 → k = 0 ∨ pcut P i k = true) → (FB h e (m + 7)) → (BR e (m + 7) (fun x => f x && allN k (cpC P i x))) → pFd P i 5 - k < t → V g mX8_restrictPieces (thM g 3 0 0 (fun ρ η => ρ = none ∧ FB h η (m + 7) ∧ BR η (m + 7) (fun x => f x && allN (pFd P i 5) (cpC P i x)))) e 0 0 [(0, .ref m), (1, .int (nI i)), (2, .int (nI k))] 2 [] := by
  intro t
  induction t with
  | zero =>
    intro k e hk hs F B2 hfu
    exact absurd hfu (Nat.not_lt_zero _)
  | succ t ih =>
    intro k e hk hs F B2 hfu
    have hN := W.2.2.2.2.1
    have hR := W.2.2.1
    have hcp := ok_cp W.2.2 hi hc
    have W := F.RF W (by omega)
    have A := F.PA A (by decide)
    refine V_iload_n (j := 2) (q := 3) dX8_restrictPieces_2 rfl rfl ?_
    refine V_aload_n (j := 0) (q := 4) dX8_restrictPieces_3 rfl rfl ?_
    refine V_iload_n (j := 1) (q := 5) dX8_restrictPieces_4 rfl rfl ?_
    refine V_iconst (q := 6) (v := nI 5) dX8_restrictPieces_5 rfl rfl ?_
    refine V_cpV (q := 9) (S := [.int (nI k)]) (v := .int (nI (pFd P i 5))) kX8_72 (c_of (i := i) W (by omega) (by omega)) (W.1.1 0 _ rfl) rfl rfl rfl dX8_restrictPieces_6 rfl ?_
    refine V_icmp_geN (tgt := 64) (q := 12) dX8_restrictPieces_9 rfl rfl (by omega) (by omega) (fun c1 => ?_) (fun c1 => ?_)
    · skip
      refine V_vret rfl dX8_restrictPieces_64 rfl rfl ?_
      exact ⟨rfl, F, by rw [show k = pFd P i 5 by omega] at B2; exact B2⟩
    · skip
      have hpl := pln_spec c1
      refine V_aload_n (j := 0) (q := 13) dX8_restrictPieces_12 rfl rfl ?_
      refine V_iload_n (j := 1) (q := 14) dX8_restrictPieces_13 rfl rfl ?_
      refine V_iload_n (j := 2) (q := 15) dX8_restrictPieces_14 rfl rfl ?_
      refine V_cpV (q := 18) (S := []) (v := .int (nI (pln P i k))) kX8_116 (c_pieceAt (i := i) (k := k) W A hi hc (by omega)) (W.1.1 0 _ rfl) rfl rfl rfl dX8_restrictPieces_15 rfl ?_
      refine V_istore_n (q := 19) (L' := [(3, .int (nI (pln P i k))), (0, .ref m), (1, .int (nI i)), (2, .int (nI k))]) dX8_restrictPieces_18 rfl rfl rfl ?_
      refine V_aload_n (j := 1) (q := 20) dX8_restrictPieces_19 rfl rfl ?_
      refine V_aload_n (j := 1) (q := 21) dX8_restrictPieces_20 rfl rfl ?_
      refine V_iload_n (j := 2) (q := 22) dX8_restrictPieces_21 rfl rfl ?_
      refine V_iconst (q := 23) (v := nI 1) dX8_restrictPieces_22 rfl rfl ?_
      refine V_cpV (q := 26) (S := [.ref m]) (v := .int (nI (pFd P i 1))) kX8_72 (c_of (i := i) W (by omega) (by omega)) (W.1.1 0 _ rfl) rfl rfl rfl dX8_restrictPieces_23 rfl ?_
      refine V_aload_n (j := 1) (q := 27) dX8_restrictPieces_26 rfl rfl ?_
      refine V_iload_n (j := 2) (q := 28) dX8_restrictPieces_27 rfl rfl ?_
      refine V_iconst (q := 29) (v := nI 2) dX8_restrictPieces_28 rfl rfl ?_
      refine V_cpV (q := 32) (S := [.int (nI (pFd P i 1)), .ref m]) (v := .int (nI (pFd P i 2))) kX8_72 (c_of (i := i) W (by omega) (by omega)) (W.1.1 0 _ rfl) rfl rfl rfl dX8_restrictPieces_29 rfl ?_
      refine V_iload_n (j := 3) (q := 33) dX8_restrictPieces_32 rfl rfl ?_
      refine V_iaddN (q := 34) dX8_restrictPieces_33 rfl ?_
      refine V_iload_n (j := 0) (q := 35) dX8_restrictPieces_34 rfl rfl ?_
      refine V_callV (q := 38) (S := []) kX8_119 (c_restrict (r := pFd P i 1) (o := pFd P i 2 + k) (l := pln P i k) W A B2 (by omega) (by omega) (by omega) (fun x z1 z2 => ptd_d hi hc (j := x - pFd P i 2) (by omega) (by omega)) (fun x z1 z2 => by rw [show x = pFd P i 2 + k + (x - (pFd P i 2 + k)) by omega]; exact pof_pd (by omega) (by omega))) (W.1.1 0 _ rfl) rfl rfl rfl dX8_restrictPieces_35 rfl (fun r2 h3 p4 => ?_)
      obtain ⟨rfl, Fh3, Bh3⟩ := p4
      have W := Fh3.RF W (by omega)
      have A := Fh3.PA A (by decide)
      refine V_aload_n (j := 1) (q := 39) dX8_restrictPieces_38 rfl rfl ?_
      refine V_aload_n (j := 1) (q := 40) dX8_restrictPieces_39 rfl rfl ?_
      refine V_iload_n (j := 2) (q := 41) dX8_restrictPieces_40 rfl rfl ?_
      refine V_iconst (q := 42) (v := nI 3) dX8_restrictPieces_41 rfl rfl ?_
      refine V_cpV (q := 45) (S := [.ref m]) (v := .int (nI (pFd P i 3))) kX8_72 (c_of (i := i) W (by omega) (by omega)) (W.1.1 0 _ rfl) rfl rfl rfl dX8_restrictPieces_42 rfl ?_
      refine V_aload_n (j := 1) (q := 46) dX8_restrictPieces_45 rfl rfl ?_
      refine V_iload_n (j := 2) (q := 47) dX8_restrictPieces_46 rfl rfl ?_
      refine V_iconst (q := 48) (v := nI 4) dX8_restrictPieces_47 rfl rfl ?_
      refine V_cpV (q := 51) (S := [.int (nI (pFd P i 3)), .ref m]) (v := .int (nI (pFd P i 4))) kX8_72 (c_of (i := i) W (by omega) (by omega)) (W.1.1 0 _ rfl) rfl rfl rfl dX8_restrictPieces_48 rfl ?_
      refine V_iload_n (j := 3) (q := 52) dX8_restrictPieces_51 rfl rfl ?_
      refine V_iaddN (q := 53) dX8_restrictPieces_52 rfl ?_
      refine V_iload_n (j := 0) (q := 54) dX8_restrictPieces_53 rfl rfl ?_
      refine V_callV (q := 57) (S := []) kX8_119 (c_restrict (r := pFd P i 3) (o := pFd P i 4 + k) (l := pln P i k) W A Bh3 (by omega) (by omega) (by omega) (fun x z1 z2 => ptd_s hi hc (j := x - pFd P i 4) (by omega) (by omega)) (fun x z1 z2 => by rw [show x = pFd P i 4 + k + (x - (pFd P i 4 + k)) by omega]; exact pof_ps (by omega) (by omega))) (W.1.1 0 _ rfl) rfl rfl rfl dX8_restrictPieces_54 rfl (fun r5 h6 p7 => ?_)
      obtain ⟨rfl, Fh6, Bh6⟩ := p7
      have W := Fh6.RF W (by omega)
      have A := Fh6.PA A (by decide)
      refine V_iload_n (j := 3) (q := 58) dX8_restrictPieces_57 rfl rfl ?_
      refine V_iload_n (j := 0) (q := 59) dX8_restrictPieces_58 rfl rfl ?_
      refine V_iaddN (q := 60) dX8_restrictPieces_59 rfl ?_
      refine V_istore_n (q := 61) (L' := [(2, .int (nI (k + (pln P i k)))), (3, .int (nI (pln P i k))), (0, .ref m), (1, .int (nI i))]) dX8_restrictPieces_60 rfl rfl rfl ?_
      refine V_goto (q := 2) dX8_restrictPieces_61 rfl ?_
      refine V_sub (L' := [(0, .ref m), (1, .int (nI i)), (2, .int (nI (k + (pln P i k))))]) [2, 3, 0] rfl ?_
      refine ih (k + (pln P i k)) h6 ?_ ?_ ?_ ?_ ?_
      · omega
      · exact fun z => Or.inr (hpl.2.2.2 z)
      · exact (F.tr Fh3).tr Fh6
      · intro x hx; rw [Bh6 x hx]; dsimp only; rw [cpC_step (by omega) (hs (by omega)), ← Bool.and_assoc, ← Bool.and_assoc]
      · omega

set_option maxHeartbeats 4000000 in
set_option maxRecDepth 100000 in
theorem c_restrictPieces {g : GX} {h : AH} {m : Nat} {P : PG} (W : RF h m P) (A : PA h m P (pNr P)) {i : Nat} {f : Nat → Bool} (B : BR h (m + 7) f) (hi : i < pNi P) (hc : pFd P i 0 = 3) : Ct g mX8_restrictPieces 3 0 0 [.ref m, .int (nI i)] h (fun ρ η => ρ = none ∧ FB h η (m + 7) ∧ BR η (m + 7) (fun x => f x && allN (pFd P i 5) (cpC P i x))) := by
  refine Ct_intro (by decide +kernel) (Nat.le_of_ble_eq_true rfl) ?_
  show V g mX8_restrictPieces _ h 0 0 [(0, .ref m), (1, .int (nI i))] 0 []
  have hN := W.2.2.2.2.1
  have hR := W.2.2.1
  have hcp := ok_cp W.2.2 hi hc
  refine V_iconst (q := 1) (v := nI 0) dX8_restrictPieces_0 rfl rfl ?_
  refine V_istore_n (q := 2) (L' := [(2, .int (nI 0)), (0, .ref m), (1, .int (nI i))]) dX8_restrictPieces_1 rfl rfl rfl ?_
  refine V_sub (L' := [(0, .ref m), (1, .int (nI i)), (2, .int (nI 0))]) [1, 2, 0] rfl ?_
  refine lp_restrictPieces W A B hi hc (pFd P i 5 - 0 + 1) 0 h ?_ ?_ ?_ ?_ ?_
  · omega
  · exact fun _ => Or.inl rfl
  · exact FB.rf _
  · intro x hx; rw [B x hx]; simp [allN]
  · exact Nat.lt_succ_self _

set_option maxHeartbeats 4000000 in
set_option maxRecDepth 100000 in
theorem lp_prom3 {g : GX} {h : AH} {m : Nat} {P : PG} (W : RF h m P) (A : PA h m P (pNr P)) {f : Nat → Bool} (hf : ∀ r, r < pNr P → ∀ p, p < npt P r → f (16 * r + p) = prI P (16 * r + p)) : ∀ (t : Nat) (i : Nat) (e : AH), (i ≤ pNi P) → (FB h e (m + 7)) → (BR e (m + 7) (fun x => f x && allN i (prC P x))) → pNi P - i < t → V g mX8_findPromotable (thM g 4 0 0 (fun ρ η => ρ = none ∧ FB h η (m + 7) ∧ ∃ f, BR η (m + 7) f ∧ ∀ r, r < pNr P → ∀ p, p < npt P r → f (16 * r + p) = prm P (16 * r + p))) e 0 0 [(0, .ref m), (1, .int (nI i))] 76 [] := by
  intro t
  induction t with
  | zero =>
    intro i e hi F B2 hfu
    exact absurd hfu (Nat.not_lt_zero _)
  | succ t ih =>
    intro i e hi F B2 hfu
    have hN := W.2.2.2.2.1
    have hR := W.2.2.1
    have W := F.RF W (by omega)
    have A := F.PA A (by decide)
    refine V_iload_n (j := 1) (q := 77) dX8_findPromotable_76 rfl rfl ?_
    refine V_aload_n (j := 0) (q := 78) dX8_findPromotable_77 rfl rfl ?_
    refine V_getP (q := 81) (r := (m + 1)) fX8_7 (W.1.1 0 _ rfl) rfl (W.1.2 0 _ rfl) dX8_findPromotable_78 rfl ?_
    refine V_iconst (q := 82) (v := nI 5) dX8_findPromotable_81 rfl rfl ?_
    refine V_iald (q := 83) (W.1.1 1 _ rfl) (by omega) (by decide) dX8_findPromotable_82 rfl ?_
    refine V_rw (y := nI (pNi P)) W.2.1.2.2.1 ?_
    refine V_icmp_geN (tgt := 140) (q := 86) dX8_findPromotable_83 rfl rfl (by omega) (by omega) (fun c1 => ?_) (fun c1 => ?_)
    · skip
      refine V_vret rfl dX8_findPromotable_140 rfl rfl ?_
      exact ⟨rfl, F, _, B2, fun r hr p hp => by rw [hf r hr p hp, show i = pNi P by omega]; rfl⟩
    · skip
      refine V_aload_n (j := 0) (q := 87) dX8_findPromotable_86 rfl rfl ?_
      refine V_iload_n (j := 1) (q := 88) dX8_findPromotable_87 rfl rfl ?_
      refine V_cpV (q := 91) (S := []) (v := .int (bi (isAc P i))) kX8_76 (c_isAccess (i := i) W (by omega)) (W.1.1 0 _ rfl) rfl rfl rfl dX8_findPromotable_88 rfl ?_
      refine V_if_eqB (tgt := 119) (q := 94) dX8_findPromotable_91 rfl rfl (fun c2 => ?_) (fun c2 => ?_)
      · skip
        have hk9 := ok_kd W.2.2 (i := i) (by omega)
        refine V_aload_n (j := 0) (q := 120) dX8_findPromotable_119 rfl rfl ?_
        refine V_iload_n (j := 1) (q := 121) dX8_findPromotable_120 rfl rfl ?_
        refine V_iconst (q := 122) (v := nI 0) dX8_findPromotable_121 rfl rfl ?_
        refine V_cpV (q := 125) (S := []) (v := .int (nI (pFd P i 0))) kX8_72 (c_of (i := i) W (by omega) (by omega)) (W.1.1 0 _ rfl) rfl rfl rfl dX8_findPromotable_122 rfl ?_
        refine V_iconst (q := 126) (v := nI 3) dX8_findPromotable_125 rfl rfl ?_
        refine V_icmp_neN (tgt := 134) (q := 129) dX8_findPromotable_126 rfl rfl (by omega) (by omega) (fun c3 => ?_) (fun c3 => ?_)
        · skip
          refine V_iincN (j := 1) (q := 137) (L' := [(1, .int (nI (i + 1))), (0, .ref m)]) dX8_findPromotable_134 rfl rfl rfl rfl ?_
          refine V_goto (q := 76) dX8_findPromotable_137 rfl ?_
          refine V_sub (L' := [(0, .ref m), (1, .int (nI (i + 1)))]) [1, 0] rfl ?_
          refine ih (i + 1) e ?_ ?_ ?_ ?_
          · omega
          · exact F
          · intro x hx; rw [B2 x hx]; dsimp only; rw [allN_s, ← Bool.and_assoc]; simp [prC, c1, c2, c3]
          · omega
        · skip
          have ac3 := ok_cp W.2.2 (i := i) (by omega) c3
          refine V_aload_n (j := 0) (q := 130) dX8_findPromotable_129 rfl rfl ?_
          refine V_iload_n (j := 1) (q := 131) dX8_findPromotable_130 rfl rfl ?_
          refine V_callV (q := 134) (S := []) kX8_123 (c_restrictPieces (i := i) W A B2 (by omega) c3) (W.1.1 0 _ rfl) rfl rfl rfl dX8_findPromotable_131 rfl (fun r4 h5 p6 => ?_)
          obtain ⟨rfl, Fh5, Bh5⟩ := p6
          have W := Fh5.RF W (by omega)
          have A := Fh5.PA A (by decide)
          refine V_iincN (j := 1) (q := 137) (L' := [(1, .int (nI (i + 1))), (0, .ref m)]) dX8_findPromotable_134 rfl rfl rfl rfl ?_
          refine V_goto (q := 76) dX8_findPromotable_137 rfl ?_
          refine V_sub (L' := [(0, .ref m), (1, .int (nI (i + 1)))]) [1, 0] rfl ?_
          refine ih (i + 1) h5 ?_ ?_ ?_ ?_
          · omega
          · exact F.tr Fh5
          · intro x hx; rw [Bh5 x hx]; dsimp only; rw [allN_s, ← Bool.and_assoc]; simp [prC, c1, c2, c3]
          · omega
      · skip
        have ac2 := ok_ac W.2.2 (i := i) (by omega) c2
        refine V_aload_n (j := 0) (q := 95) dX8_findPromotable_94 rfl rfl ?_
        refine V_aload_n (j := 0) (q := 96) dX8_findPromotable_95 rfl rfl ?_
        refine V_iload_n (j := 1) (q := 97) dX8_findPromotable_96 rfl rfl ?_
        refine V_iconst (q := 98) (v := nI 1) dX8_findPromotable_97 rfl rfl ?_
        refine V_cpV (q := 101) (S := [.ref m]) (v := .int (nI (pFd P i 1))) kX8_72 (c_of (i := i) W (by omega) (by omega)) (W.1.1 0 _ rfl) rfl rfl rfl dX8_findPromotable_98 rfl ?_
        refine V_aload_n (j := 0) (q := 102) dX8_findPromotable_101 rfl rfl ?_
        refine V_iload_n (j := 1) (q := 103) dX8_findPromotable_102 rfl rfl ?_
        refine V_iconst (q := 104) (v := nI 2) dX8_findPromotable_103 rfl rfl ?_
        refine V_cpV (q := 107) (S := [.int (nI (pFd P i 1)), .ref m]) (v := .int (nI (pFd P i 2))) kX8_72 (c_of (i := i) W (by omega) (by omega)) (W.1.1 0 _ rfl) rfl rfl rfl dX8_findPromotable_104 rfl ?_
        refine V_aload_n (j := 0) (q := 108) dX8_findPromotable_107 rfl rfl ?_
        refine V_iload_n (j := 1) (q := 109) dX8_findPromotable_108 rfl rfl ?_
        refine V_iconst (q := 110) (v := nI 3) dX8_findPromotable_109 rfl rfl ?_
        refine V_cpV (q := 113) (S := [.int (nI (pFd P i 2)), .int (nI (pFd P i 1)), .ref m]) (v := .int (nI (pFd P i 3))) kX8_72 (c_of (i := i) W (by omega) (by omega)) (W.1.1 0 _ rfl) rfl rfl rfl dX8_findPromotable_110 rfl ?_
        refine V_callV (q := 116) (S := []) kX8_119 (c_restrict (r := pFd P i 1) (o := pFd P i 2) (l := pFd P i 3) W A B2 (by omega) (by omega) (by omega) (fun x z1 z2 => ptd_a (by omega) c2 (j := x - pFd P i 2) (by omega) (by omega)) (fun x z1 z2 => by rw [show x = pFd P i 2 + (x - pFd P i 2) by omega]; exact pof_ac (by omega) c2 (by omega))) (W.1.1 0 _ rfl) rfl rfl rfl dX8_findPromotable_113 rfl (fun r7 h8 p9 => ?_)
        obtain ⟨rfl, Fh8, Bh8⟩ := p9
        have W := Fh8.RF W (by omega)
        have A := Fh8.PA A (by decide)
        refine V_goto (q := 134) dX8_findPromotable_116 rfl ?_
        refine V_iincN (j := 1) (q := 137) (L' := [(1, .int (nI (i + 1))), (0, .ref m)]) dX8_findPromotable_134 rfl rfl rfl rfl ?_
        refine V_goto (q := 76) dX8_findPromotable_137 rfl ?_
        refine V_sub (L' := [(0, .ref m), (1, .int (nI (i + 1)))]) [1, 0] rfl ?_
        refine ih (i + 1) h8 ?_ ?_ ?_ ?_
        · omega
        · exact F.tr Fh8
        · intro x hx; rw [Bh8 x hx]; dsimp only; rw [allN_s, ← Bool.and_assoc]; simp [prC, c1, c2]
        · omega

set_option maxHeartbeats 4000000 in
set_option maxRecDepth 100000 in
theorem lp_prom2 {g : GX} {h : AH} {m : Nat} {P : PG} (W : RF h m P) (A : PA h m P (pNr P)) {r : Nat} (hr : r < pNr P) (kk : ∀ (e : AH) (f : Nat → Bool), FB h e (m + 7) → BR e (m + 7) f → (∀ q, q < r + 1 → ∀ p, p < npt P q → f (16 * q + p) = prI P (16 * q + p)) → V g mX8_findPromotable (thM g 4 0 0 (fun ρ η => ρ = none ∧ FB h η (m + 7) ∧ ∃ f, BR η (m + 7) f ∧ ∀ r, r < pNr P → ∀ p, p < npt P r → f (16 * r + p) = prm P (16 * r + p))) e 0 0 [(0, .ref m), (1, .int (nI r))] 68 []) : ∀ (t : Nat) (p : Nat) (e : AH) (f : Nat → Bool), (p ≤ npt P r) → (FB h e (m + 7)) → (BR e (m + 7) f) → ((∀ q, q < r → ∀ p, p < npt P q → f (16 * q + p) = prI P (16 * q + p))) → (∀ q, q < p → f (16 * r + q) = prI P (16 * r + q)) → npt P r - p < t → V g mX8_findPromotable (thM g 4 0 0 (fun ρ η => ρ = none ∧ FB h η (m + 7) ∧ ∃ f, BR η (m + 7) f ∧ ∀ r, r < pNr P → ∀ p, p < npt P r → f (16 * r + p) = prm P (16 * r + p))) e 0 0 [(0, .ref m), (1, .int (nI r)), (2, .int (nI p))] 14 [] := by
  intro t
  induction t with
  | zero =>
    intro p e f hp F B2 d1 d2 hfu
    exact absurd hfu (Nat.not_lt_zero _)
  | succ t ih =>
    intro p e f hp F B2 d1 d2 hfu
    have hR := W.2.2.1
    have hS := W.2.2.2.1 r hr
    have hnp := npt_le P r
    have W := F.RF W (by omega)
    have A := F.PA A (by decide)
    refine V_iload_n (j := 2) (q := 15) dX8_findPromotable_14 rfl rfl ?_
    refine V_aload_n (j := 0) (q := 16) dX8_findPromotable_15 rfl rfl ?_
    refine V_getP (q := 19) (r := (m + 6)) fX8_25 (W.1.1 0 _ rfl) rfl (W.1.2 6 _ rfl) dX8_findPromotable_16 rfl ?_
    refine V_iload_n (j := 1) (q := 20) dX8_findPromotable_19 rfl rfl ?_
    refine V_iald (q := 21) (W.1.1 6 _ rfl) (by omega) (by decide) dX8_findPromotable_20 rfl ?_
    refine V_rw (y := nI (npt P r)) ((A r (by omega)).1) ?_
    refine V_icmp_geN (tgt := 68) (q := 24) dX8_findPromotable_21 rfl rfl (by omega) (by omega) (fun c1 => ?_) (fun c1 => ?_)
    · skip
      refine V_sub (L' := [(0, .ref m), (1, .int (nI r))]) [0, 1] rfl ?_
      refine kk e f F B2 (fun q hq p hp => ?_)
      by_cases z : q = r
      · subst z; exact d2 p (by omega)
      · exact d1 q (by omega) p hp
    · skip
      refine V_bipush (q := 26) (v := nI 16) dX8_findPromotable_24 rfl (by decide) ?_
      refine V_iload_n (j := 1) (q := 27) dX8_findPromotable_26 rfl rfl ?_
      refine V_imulN (q := 28) dX8_findPromotable_27 rfl ?_
      refine V_iload_n (j := 2) (q := 29) dX8_findPromotable_28 rfl rfl ?_
      refine V_iaddN (q := 30) dX8_findPromotable_29 rfl ?_
      refine V_istore_n (q := 31) (L' := [(3, .int (nI (16 * r + p))), (0, .ref m), (1, .int (nI r)), (2, .int (nI p))]) dX8_findPromotable_30 rfl rfl rfl ?_
      refine V_aload_n (j := 1) (q := 32) dX8_findPromotable_31 rfl rfl ?_
      refine V_getP (q := 35) (r := (m + 7)) fX8_28 (W.1.1 0 _ rfl) rfl (W.1.2 7 _ rfl) dX8_findPromotable_32 rfl ?_
      refine V_iload_n (j := 0) (q := 36) dX8_findPromotable_35 rfl rfl ?_
      refine V_aload_n (j := 1) (q := 37) dX8_findPromotable_36 rfl rfl ?_
      refine V_iload_n (j := 2) (q := 38) dX8_findPromotable_37 rfl rfl ?_
      refine V_cpV (q := 41) (S := [.int (nI (16 * r + p)), .ref (m + 7)]) (v := .int (bi (esc P r))) kX8_90 (c_doesEscape (r := r) W (by omega)) (W.1.1 0 _ rfl) rfl rfl rfl dX8_findPromotable_38 rfl ?_
      refine V_if_neB (tgt := 60) (q := 44) dX8_findPromotable_41 rfl rfl (fun c2 => ?_) (fun c2 => ?_)
      · skip
        refine V_iconst (q := 61) (v := nI 0) dX8_findPromotable_60 rfl rfl ?_
        refine V_rw (y := bi false) rfl ?_
        refine V_zast (b := false) (q := 62) (W.1.1 7 _ rfl) (by omega) (by decide) dX8_findPromotable_61 rfl ?_
        have W : RF (sI e (m + 7) (16 * r + p) (bi false)) m P := RF_sI W (by omega)
        refine V_iincN (j := 3) (q := 65) (L' := [(2, .int (nI (p + 1))), (3, .int (nI (16 * r + p))), (0, .ref m), (1, .int (nI r))]) dX8_findPromotable_62 rfl rfl rfl rfl ?_
        refine V_goto (q := 14) dX8_findPromotable_65 rfl ?_
        refine V_sub (L' := [(0, .ref m), (1, .int (nI r)), (2, .int (nI (p + 1)))]) [2, 3, 0] rfl ?_
        refine ih (p + 1) (sI e (m + 7) (16 * r + p) (bi false)) (fun y => if y = 16 * r + p then false else f y) ?_ ?_ ?_ ?_ ?_ ?_
        · omega
        · exact F.set
        · exact BR_set B2 (if_pos rfl) (fun y hy => if_neg hy)
        · intro q hq s hs; have := W.2.2.2.1 q (by omega); have := npt_le P q; show (if _ then _ else _) = _; rw [if_neg (by omega)]; exact d1 q hq s hs
        · intro q hq; show (if _ then _ else _) = _; by_cases z : q = p; (rw [if_pos (by omega), z, prI_at P (by omega)]; simp [c1, c2]); rw [if_neg (by omega)]; exact d2 q (by omega)
        · omega
      · skip
        refine V_aload_n (j := 1) (q := 45) dX8_findPromotable_44 rfl rfl ?_
        refine V_getP (q := 48) (r := (m + 5)) fX8_22 (W.1.1 0 _ rfl) rfl (W.1.2 5 _ rfl) dX8_findPromotable_45 rfl ?_
        refine V_iload_n (j := 0) (q := 49) dX8_findPromotable_48 rfl rfl ?_
        refine V_iald (q := 50) (W.1.1 5 _ rfl) (by omega) (by decide) dX8_findPromotable_49 rfl ?_
        refine V_rw (y := nI (lnp P r p)) (((A r (by omega)).2.2 _ (by omega)).2) ?_
        refine V_cpS (q := 53) (S := [.int (nI (16 * r + p)), .ref (m + 7)]) (v := .int (bi (isW (nI (lnp P r p))))) kX8_59 c_isWidth rfl rfl rfl dX8_findPromotable_50 rfl ?_
        refine V_rw (y := bi (isWn (lnp P r p))) (by rw [isW_n (by have := lnp_le P r p; omega)]) ?_
        refine V_if_eqB (tgt := 60) (q := 56) dX8_findPromotable_53 rfl rfl (fun c3 => ?_) (fun c3 => ?_)
        · skip
          refine V_iconst (q := 61) (v := nI 0) dX8_findPromotable_60 rfl rfl ?_
          refine V_rw (y := bi false) rfl ?_
          refine V_zast (b := false) (q := 62) (W.1.1 7 _ rfl) (by omega) (by decide) dX8_findPromotable_61 rfl ?_
          have W : RF (sI e (m + 7) (16 * r + p) (bi false)) m P := RF_sI W (by omega)
          refine V_iincN (j := 3) (q := 65) (L' := [(2, .int (nI (p + 1))), (3, .int (nI (16 * r + p))), (0, .ref m), (1, .int (nI r))]) dX8_findPromotable_62 rfl rfl rfl rfl ?_
          refine V_goto (q := 14) dX8_findPromotable_65 rfl ?_
          refine V_sub (L' := [(0, .ref m), (1, .int (nI r)), (2, .int (nI (p + 1)))]) [2, 3, 0] rfl ?_
          refine ih (p + 1) (sI e (m + 7) (16 * r + p) (bi false)) (fun y => if y = 16 * r + p then false else f y) ?_ ?_ ?_ ?_ ?_ ?_
          · omega
          · exact F.set
          · exact BR_set B2 (if_pos rfl) (fun y hy => if_neg hy)
          · intro q hq s hs; have := W.2.2.2.1 q (by omega); have := npt_le P q; show (if _ then _ else _) = _; rw [if_neg (by omega)]; exact d1 q hq s hs
          · intro q hq; show (if _ then _ else _) = _; by_cases z : q = p; (rw [if_pos (by omega), z, prI_at P (by omega)]; simp [c1, c2, c3]); rw [if_neg (by omega)]; exact d2 q (by omega)
          · omega
        · skip
          refine V_iconst (q := 57) (v := nI 1) dX8_findPromotable_56 rfl rfl ?_
          refine V_goto (q := 61) dX8_findPromotable_57 rfl ?_
          refine V_rw (y := bi true) rfl ?_
          refine V_zast (b := true) (q := 62) (W.1.1 7 _ rfl) (by omega) (by decide) dX8_findPromotable_61 rfl ?_
          have W : RF (sI e (m + 7) (16 * r + p) (bi true)) m P := RF_sI W (by omega)
          refine V_iincN (j := 3) (q := 65) (L' := [(2, .int (nI (p + 1))), (3, .int (nI (16 * r + p))), (0, .ref m), (1, .int (nI r))]) dX8_findPromotable_62 rfl rfl rfl rfl ?_
          refine V_goto (q := 14) dX8_findPromotable_65 rfl ?_
          refine V_sub (L' := [(0, .ref m), (1, .int (nI r)), (2, .int (nI (p + 1)))]) [2, 3, 0] rfl ?_
          refine ih (p + 1) (sI e (m + 7) (16 * r + p) (bi true)) (fun y => if y = 16 * r + p then true else f y) ?_ ?_ ?_ ?_ ?_ ?_
          · omega
          · exact F.set
          · exact BR_set B2 (if_pos rfl) (fun y hy => if_neg hy)
          · intro q hq s hs; have := W.2.2.2.1 q (by omega); have := npt_le P q; show (if _ then _ else _) = _; rw [if_neg (by omega)]; exact d1 q hq s hs
          · intro q hq; show (if _ then _ else _) = _; by_cases z : q = p; (rw [if_pos (by omega), z, prI_at P (by omega)]; simp [c1, c2, c3]); rw [if_neg (by omega)]; exact d2 q (by omega)
          · omega

set_option maxHeartbeats 4000000 in
set_option maxRecDepth 100000 in
theorem lp_prom1 {g : GX} {h : AH} {m : Nat} {P : PG} (W : RF h m P) (A : PA h m P (pNr P)) : ∀ (t : Nat) (r : Nat) (e : AH) (f : Nat → Bool), (r ≤ pNr P) → (FB h e (m + 7)) → (BR e (m + 7) f) → ((∀ q, q < r → ∀ p, p < npt P q → f (16 * q + p) = prI P (16 * q + p))) → pNr P - r < t → V g mX8_findPromotable (thM g 4 0 0 (fun ρ η => ρ = none ∧ FB h η (m + 7) ∧ ∃ f, BR η (m + 7) f ∧ ∀ r, r < pNr P → ∀ p, p < npt P r → f (16 * r + p) = prm P (16 * r + p))) e 0 0 [(0, .ref m), (1, .int (nI r))] 2 [] := by
  intro t
  induction t with
  | zero =>
    intro r e f hr F B2 d1 hfu
    exact absurd hfu (Nat.not_lt_zero _)
  | succ t ih =>
    intro r e f hr F B2 d1 hfu
    have hR := W.2.2.1
    have W0 := W
    have A0 := A
    have W := F.RF W (by omega)
    have A := F.PA A (by decide)
    refine V_iload_n (j := 1) (q := 3) dX8_findPromotable_2 rfl rfl ?_
    refine V_aload_n (j := 0) (q := 4) dX8_findPromotable_3 rfl rfl ?_
    refine V_getP (q := 7) (r := (m + 1)) fX8_7 (W.1.1 0 _ rfl) rfl (W.1.2 0 _ rfl) dX8_findPromotable_4 rfl ?_
    refine V_iconst (q := 8) (v := nI 0) dX8_findPromotable_7 rfl rfl ?_
    refine V_iald (q := 9) (W.1.1 1 _ rfl) (by omega) (by decide) dX8_findPromotable_8 rfl ?_
    refine V_rw (y := nI (pNr P)) W.2.1.1 ?_
    refine V_icmp_geN (tgt := 74) (q := 12) dX8_findPromotable_9 rfl rfl (by omega) (by omega) (fun c1 => ?_) (fun c1 => ?_)
    · skip
      refine V_iconst (q := 75) (v := nI 0) dX8_findPromotable_74 rfl rfl ?_
      refine V_istore_n (q := 76) (L' := [(1, .int (nI 0)), (0, .ref m)]) dX8_findPromotable_75 rfl rfl rfl ?_
      refine V_sub (L' := [(0, .ref m), (1, .int (nI 0))]) [1, 0] rfl ?_
      refine lp_prom3 W0 A0 (f := f) (fun q hq p hp => d1 q (by omega) p hp) (pNi P - 0 + 1) 0 e (Nat.zero_le _) F (fun x hx => by rw [B2 x hx]; simp [allN]) (Nat.lt_succ_self _)
    · skip
      refine V_iconst (q := 13) (v := nI 0) dX8_findPromotable_12 rfl rfl ?_
      refine V_istore_n (q := 14) (L' := [(2, .int (nI 0)), (0, .ref m), (1, .int (nI r))]) dX8_findPromotable_13 rfl rfl rfl ?_
      refine V_sub (L' := [(0, .ref m), (1, .int (nI r)), (2, .int (nI 0))]) [1, 2, 0] rfl ?_
      refine lp_prom2 W0 A0 (by omega) (fun e2 f2 F2 B3 d3 => ?_) (npt P r - 0 + 1) 0 e f (Nat.zero_le _) F B2 d1 (fun q hq => absurd hq (Nat.not_lt_zero _)) (Nat.lt_succ_self _)
      refine V_iincN (j := 1) (q := 71) (L' := [(1, .int (nI (r + 1))), (0, .ref m)]) dX8_findPromotable_68 rfl rfl rfl rfl ?_
      refine V_goto (q := 2) dX8_findPromotable_71 rfl ?_
      refine V_sub (L' := [(0, .ref m), (1, .int (nI (r + 1)))]) [1, 0] rfl ?_
      refine ih (r + 1) e2 f2 ?_ ?_ ?_ ?_ ?_
      · omega
      · exact F2
      · exact B3
      · exact d3
      · omega

set_option maxHeartbeats 4000000 in
set_option maxRecDepth 100000 in
theorem c_findPromotable {g : GX} {h : AH} {m : Nat} {P : PG} (W : RF h m P) (A : PA h m P (pNr P)) {f : Nat → Bool} (B : BR h (m + 7) f) : Ct g mX8_findPromotable 4 0 0 [.ref m] h (fun ρ η => ρ = none ∧ FB h η (m + 7) ∧ ∃ f, BR η (m + 7) f ∧ ∀ r, r < pNr P → ∀ p, p < npt P r → f (16 * r + p) = prm P (16 * r + p)) := by
  refine Ct_intro (by decide +kernel) (Nat.le_of_ble_eq_true rfl) ?_
  show V g mX8_findPromotable _ h 0 0 [(0, .ref m)] 0 []
  refine V_iconst (q := 1) (v := nI 0) dX8_findPromotable_0 rfl rfl ?_
  refine V_istore_n (q := 2) (L' := [(1, .int (nI 0)), (0, .ref m)]) dX8_findPromotable_1 rfl rfl rfl ?_
  refine V_sub (L' := [(0, .ref m), (1, .int (nI 0))]) [1, 0] rfl ?_
  exact lp_prom1 W A (pNr P - 0 + 1) 0 h f (Nat.zero_le _) (FB.rf _) B (fun q hq => absurd hq (Nat.not_lt_zero _)) (Nat.lt_succ_self _)
end
section
/-! live -/
def dtP (P : PG) (i k : Nat) : Nat := 16 * pFd P i 1 + pof P (pFd P i 1) (pFd P i 2 + k)
def srP (P : PG) (i k : Nat) : Nat := 16 * pFd P i 3 + pof P (pFd P i 3) (pFd P i 4 + k)
def vpl (P : PG) (x : Nat) : Prop := ∃ r p, r < pNr P ∧ p < npt P r ∧ x = 16 * r + p
def bsL (P : PG) (x : Nat) : Prop := (∃ r p, r < pNr P ∧ p < npt P r ∧ x = 16 * r + p ∧ esc P r = true) ∨ ∃ i, i < pNi P ∧ pFd P i 0 = 2 ∧ x = 16 * pFd P i 1 + pof P (pFd P i 1) (pFd P i 2)
def cls (P : PG) (S : Nat → Bool) : Prop := ∀ i, i < pNi P → pFd P i 0 = 3 → ∀ k, k < pFd P i 5 → S (dtP P i k) = true → S (srP P i k) = true
/-- the least set that has the first live ones and goes with the copies -/
def LV (P : PG) (x : Nat) : Prop := ∀ S : Nat → Bool, (∀ y, bsL P y → S y = true) → cls P S → S x = true
noncomputable def liv (P : PG) (x : Nat) : Bool := @decide (LV P x) (Classical.propDecidable _)
def lsd (P : PG) (f : Nat → Bool) : Prop := ∀ x, vpl P x → f x = true → LV P x
def lbs (P : PG) (f : Nat → Bool) : Prop := ∀ x, bsL P x → f x = true
theorem LV_bs {P : PG} {x : Nat} (h : bsL P x) : LV P x := fun _ h1 _ => h1 x h
theorem LV_cp {P : PG} {i k : Nat} (hi : i < pNi P) (hc : pFd P i 0 = 3) (hk : k < pFd P i 5) (h : LV P (dtP P i k)) : LV P (srP P i k) := fun S h1 h2 => h2 i hi hc k hk (h S h1 h2)
theorem vpl_d {P : PG} (ok : OkP P) {i k : Nat} (hi : i < pNi P) (hc : pFd P i 0 = 3) (hk : k < pFd P i 5) : vpl P (dtP P i k) := by
  have h := ok_cp ok hi hc
  exact ⟨_, _, h.1, pof_lt (ptd_d hi hc hk rfl) (by omega), rfl⟩
theorem vpl_s {P : PG} (ok : OkP P) {i k : Nat} (hi : i < pNi P) (hc : pFd P i 0 = 3) (hk : k < pFd P i 5) : vpl P (srP P i k) := by
  have h := ok_cp ok hi hc
  exact ⟨_, _, h.2.1, pof_lt (ptd_s hi hc hk rfl) (by omega), rfl⟩
theorem vpl_lt {P : PG} (ok : OkP P) {x : Nat} (h : vpl P x) : x < 64 := by
  obtain ⟨r, p, h1, h2, rfl⟩ := h
  have := ok.1
  have := ok.2.1 r h1
  have := npt_le P r
  omega
theorem liv_of {P : PG} {f : Nat → Bool} {x : Nat} (h1 : lsd P f) (h2 : lbs P f) (h3 : cls P f) (hx : vpl P x) : f x = liv P x := by
  unfold liv
  cases hf : f x with
  | true => exact (@decide_eq_true _ (Classical.propDecidable _) (h1 x hx hf)).symm
  | false => exact (@decide_eq_false _ (Classical.propDecidable _) (fun w => by have := w f h2 h3; rw [hf] at this; cases this)).symm
/-- one copy carried over its first k bytes -/
def EN (P : PG) (i : Nat) (f fk : Nat → Bool) (k : Nat) (b : Bool) : Prop := (∀ x, f x = true → fk x = true) ∧ (lsd P f → lsd P fk) ∧ (b = false → (∀ x, fk x = f x) ∧ ∀ j, j < k → f (dtP P i j) = true → f (srP P i j) = true) ∧ (b = true → ∃ x, x < 64 ∧ f x = false ∧ fk x = true)
theorem EN_0 (P : PG) (i : Nat) (f : Nat → Bool) : EN P i f f 0 false := ⟨fun _ h => h, fun h => h, fun _ => ⟨fun _ => rfl, fun j h => absurd h (Nat.not_lt_zero _)⟩, fun h => by cases h⟩
theorem EN_s {P : PG} (ok : OkP P) {i k : Nat} {f fk : Nat → Bool} {b b' v : Bool} (hi : i < pNi P) (hc : pFd P i 0 = 3) (hk : k < pFd P i 5) (E : EN P i f fk k b) (hb : b' = (b || (fk (dtP P i k) && !fk (srP P i k)))) (hv : v = (fk (srP P i k) || fk (dtP P i k))) : EN P i f (fun x => if x = srP P i k then v else fk x) (k + 1) b' := by
  obtain ⟨e1, e2, e3, e4⟩ := E
  refine ⟨fun x hx => ?_, fun hs x hx hf => ?_, fun hb' => ?_, fun hb' => ?_⟩
  · show (if _ then _ else _) = _
    split
    · rename_i e
      rw [hv, ← e, e1 x hx]; rfl
    · exact e1 x hx
  · have hs' := e2 hs
    have hf2 : (if x = srP P i k then v else fk x) = true := hf
    by_cases e : x = srP P i k
    · rw [if_pos e, hv, Bool.or_eq_true] at hf2
      subst e
      rcases hf2 with h | h
      · exact hs' _ hx h
      · exact LV_cp hi hc hk (hs' _ (vpl_d ok hi hc hk) h)
    · rw [if_neg e] at hf2
      exact hs' x hx hf2
  · rw [hb', eq_comm, Bool.or_eq_false_iff, Bool.and_eq_false_iff] at hb
    obtain ⟨hb1, hb2⟩ := hb
    obtain ⟨g1, g2⟩ := e3 hb1
    have hd : fk (dtP P i k) = true → fk (srP P i k) = true := fun w => by
      rcases hb2 with h | h
      · rw [w] at h; cases h
      · simpa using h
    refine ⟨fun x => ?_, fun j hj hf => ?_⟩
    · show (if _ then _ else _) = _
      split
      · rename_i e
        rw [hv, e, ← g1]
        cases hh : fk (dtP P i k) with
        | true => rw [hd hh]; rfl
        | false => rw [Bool.or_false]
      · exact g1 x
    · by_cases e : j = k
      · subst e
        rw [← g1] at hf ⊢
        exact hd hf
      · exact g2 j (by omega) hf
  · rw [hb', eq_comm, Bool.or_eq_true, Bool.and_eq_true] at hb
    by_cases hbt : b = true
    · obtain ⟨x, h1, h2, h3⟩ := e4 hbt
      refine ⟨x, h1, h2, ?_⟩
      show (if _ then _ else _) = _
      split
      · rename_i e
        rw [hv, ← e, h3]; rfl
      · exact h3
    · have hbf : b = false := by simpa using hbt
      rcases hb with h | ⟨h1, h2⟩
      · exact absurd h hbt
      · refine ⟨srP P i k, vpl_lt ok (vpl_s ok hi hc hk), ?_, ?_⟩
        · rw [← (e3 hbf).1]; simpa using h2
        · show (if _ then _ else _) = _
          rw [if_pos rfl, hv, h1, Bool.or_true]
/-- a round over the copies, come to instruction n -/
def EM (P : PG) (f fk : Nat → Bool) (n : Nat) (b : Bool) : Prop := (∀ x, f x = true → fk x = true) ∧ (lsd P f → lsd P fk) ∧ (b = false → (∀ x, fk x = f x) ∧ ∀ i, i < n → pFd P i 0 = 3 → ∀ k, k < pFd P i 5 → f (dtP P i k) = true → f (srP P i k) = true) ∧ (b = true → ∃ x, x < 64 ∧ f x = false ∧ fk x = true)
theorem EM_0 (P : PG) (f : Nat → Bool) : EM P f f 0 false := ⟨fun _ h => h, fun h => h, fun _ => ⟨fun _ => rfl, fun j h => absurd h (Nat.not_lt_zero _)⟩, fun h => by cases h⟩
theorem EM_no {P : PG} {f fk : Nat → Bool} {n : Nat} {b : Bool} (E : EM P f fk n b) (h : ¬ pFd P n 0 = 3) : EM P f fk (n + 1) b :=
  ⟨E.1, E.2.1, fun hb => ⟨(E.2.2.1 hb).1, fun i hi hc => (E.2.2.1 hb).2 i (by
    rcases Nat.lt_or_eq_of_le (Nat.le_of_lt_succ hi) with z | z
    · exact z
    · exact absurd (z ▸ hc) h) hc⟩, E.2.2.2⟩
theorem EM_s {P : PG} {f fk fl : Nat → Bool} {n : Nat} {b b' c : Bool} (E : EM P f fk n b) (E2 : EN P n fk fl (pFd P n 5) c) (hb : b' = (b || c)) : EM P f fl (n + 1) b' := by
  obtain ⟨e1, e2, e3, e4⟩ := E
  obtain ⟨g1, g2, g3, g4⟩ := E2
  refine ⟨fun x hx => g1 x (e1 x hx), fun h => g2 (e2 h), fun h => ?_, fun h => ?_⟩
  · rw [h, eq_comm, Bool.or_eq_false_iff] at hb
    obtain ⟨a1, a2⟩ := e3 hb.1
    obtain ⟨b1, b2⟩ := g3 hb.2
    refine ⟨fun x => (b1 x).trans (a1 x), fun i hi hc k hk hf => ?_⟩
    rcases Nat.lt_or_eq_of_le (Nat.le_of_lt_succ hi) with z | z
    · exact a2 i z hc k hk hf
    · subst z
      rw [← a1] at hf ⊢
      exact b2 k hk hf
  · by_cases hbt : b = true
    · obtain ⟨x, h1, h2, h3⟩ := e4 hbt
      exact ⟨x, h1, h2, g1 x h3⟩
    · have hbf : b = false := by simpa using hbt
      rw [h, hbf, Bool.false_or] at hb
      obtain ⟨x, h1, h2, h3⟩ := g4 hb.symm
      exact ⟨x, h1, by rw [← (e3 hbf).1]; exact h2, h3⟩
/-- how many of the first n are not yet in -/
def cF (f : Nat → Bool) : Nat → Nat
  | 0 => 0
  | n + 1 => if f n = true then cF f n else cF f n + 1
theorem cF_le {f g : Nat → Bool} (h : ∀ x, f x = true → g x = true) : ∀ n, cF g n ≤ cF f n
  | 0 => Nat.le_refl _
  | n + 1 => by
    have ih := cF_le h n
    show (if g n = true then cF g n else cF g n + 1) ≤ (if f n = true then cF f n else cF f n + 1)
    by_cases hf : f n = true
    · rw [if_pos hf, if_pos (h n hf)]; exact ih
    · rw [if_neg hf]; split <;> omega
theorem cF_lt {f g : Nat → Bool} (h : ∀ x, f x = true → g x = true) {x : Nat} (h1 : f x = false) (h2 : g x = true) : ∀ n, x < n → cF g n < cF f n
  | 0, hn => absurd hn (Nat.not_lt_zero _)
  | n + 1, hn => by
    show (if g n = true then cF g n else cF g n + 1) < (if f n = true then cF f n else cF f n + 1)
    by_cases e : x = n
    · subst e
      have ih := cF_le h x
      rw [if_pos h2, if_neg (by simp [h1])]; omega
    · have ih := cF_lt h h1 h2 n (by omega)
      by_cases hf : f n = true
      · rw [if_pos hf, if_pos (h n hf)]; exact ih
      · rw [if_neg hf]; split <;> omega
def mL (f : Nat → Bool) (b : Bool) : Nat := 2 * cF f 64 + (if b = true then 1 else 0)
theorem mL_lt {P : PG} {f g : Nat → Bool} {n : Nat} {b : Bool} (E : EM P f g n b) : mL g b < mL f true := by
  unfold mL
  cases b with
  | false =>
    have : g = f := funext (E.2.2.1 rfl).1
    rw [this]; simp
  | true =>
    obtain ⟨x, h1, h2, h3⟩ := E.2.2.2 rfl
    have := cF_lt E.1 h2 h3 64 h1
    simp; omega
end
section
set_option maxHeartbeats 4000000 in
set_option maxRecDepth 100000 in
theorem lp_enliven {g : GX} {h : AH} {m : Nat} {P : PG} (W : RF h m P) (A : PA h m P (pNr P)) {i : Nat} {f : Nat → Bool} (B : BR h (m + 8) f) (hi : i < pNi P) (hc : pFd P i 0 = 3) : ∀ (t : Nat) (k : Nat) (b : Bool) (e : AH) (fk : Nat → Bool), (k ≤ pFd P i 5) → (FB h e (m + 8)) → (BR e (m + 8) fk) → (EN P i f fk k b) → pFd P i 5 - k < t → V g mX8_enliven (thM g 1 0 0 (fun ρ η => ∃ (b : Bool) (fl : Nat → Bool), ρ = some (.int (bi b)) ∧ FB h η (m + 8) ∧ BR η (m + 8) fl ∧ EN P i f fl (pFd P i 5) b)) e 0 0 [(0, .ref m), (1, .int (nI i)), (2, .int (bi b)), (3, .int (nI k))] 4 [] := by
  intro t
  induction t with
  | zero =>
    intro k b e fk hk F B2 E hfu
    exact absurd hfu (Nat.not_lt_zero _)
  | succ t ih =>
    intro k b e fk hk F B2 E hfu
    have hN := W.2.2.2.2.1
    have hR := W.2.2.1
    have hcp := ok_cp W.2.2 hi hc
    have W := F.RF W (by omega)
    have A := F.PA A (by decide)
    refine V_iload_n (j := 3) (q := 5) dX8_enliven_4 rfl rfl ?_
    refine V_aload_n (j := 0) (q := 6) dX8_enliven_5 rfl rfl ?_
    refine V_iload_n (j := 1) (q := 7) dX8_enliven_6 rfl rfl ?_
    refine V_iconst (q := 8) (v := nI 5) dX8_enliven_7 rfl rfl ?_
    refine V_cpV (q := 11) (S := [.int (nI k)]) (v := .int (nI (pFd P i 5))) kX8_72 (c_of (i := i) W (by omega) (by omega)) (W.1.1 0 _ rfl) rfl rfl rfl dX8_enliven_8 rfl ?_
    refine V_icmp_geN (tgt := 122) (q := 14) dX8_enliven_11 rfl rfl (by omega) (by omega) (fun c1 => ?_) (fun c1 => ?_)
    · skip
      refine V_iload_n (j := 2) (q := 123) dX8_enliven_122 rfl rfl ?_
      refine V_zret (b := b) rfl dX8_enliven_123 rfl rfl ?_
      exact ⟨b, fk, rfl, F, B2, by rw [show pFd P i 5 = k by omega]; exact E⟩
    · skip
      have hd64 := vpl_lt W.2.2 (vpl_d W.2.2 hi hc c1)
      have hs64 := vpl_lt W.2.2 (vpl_s W.2.2 hi hc c1)
      refine V_aload_n (j := 0) (q := 15) dX8_enliven_14 rfl rfl ?_
      refine V_aload_n (j := 0) (q := 16) dX8_enliven_15 rfl rfl ?_
      refine V_iload_n (j := 1) (q := 17) dX8_enliven_16 rfl rfl ?_
      refine V_iconst (q := 18) (v := nI 1) dX8_enliven_17 rfl rfl ?_
      refine V_cpV (q := 21) (S := [.ref m]) (v := .int (nI (pFd P i 1))) kX8_72 (c_of (i := i) W (by omega) (by omega)) (W.1.1 0 _ rfl) rfl rfl rfl dX8_enliven_18 rfl ?_
      refine V_aload_n (j := 0) (q := 22) dX8_enliven_21 rfl rfl ?_
      refine V_iload_n (j := 1) (q := 23) dX8_enliven_22 rfl rfl ?_
      refine V_iconst (q := 24) (v := nI 2) dX8_enliven_23 rfl rfl ?_
      refine V_cpV (q := 27) (S := [.int (nI (pFd P i 1)), .ref m]) (v := .int (nI (pFd P i 2))) kX8_72 (c_of (i := i) W (by omega) (by omega)) (W.1.1 0 _ rfl) rfl rfl rfl dX8_enliven_24 rfl ?_
      refine V_iload_n (j := 3) (q := 28) dX8_enliven_27 rfl rfl ?_
      refine V_iaddN (q := 29) dX8_enliven_28 rfl ?_
      refine V_cpV (q := 32) (S := []) (v := .int (nI (16 * (pFd P i 1) + pof P (pFd P i 1) (pFd P i 2 + k)))) kX8_110 (c_placeOf (r := pFd P i 1) (k := pFd P i 2 + k) W A (by omega) (by omega) (ptd_d hi hc (j := k) (by omega) (by omega))) (W.1.1 0 _ rfl) rfl rfl rfl dX8_enliven_29 rfl ?_
      refine V_rw (y := nI (dtP P i k)) rfl ?_
      refine V_istore (q := 34) (L' := [(4, .int (nI (dtP P i k))), (0, .ref m), (1, .int (nI i)), (2, .int (bi b)), (3, .int (nI k))]) dX8_enliven_32 rfl rfl rfl ?_
      refine V_aload_n (j := 1) (q := 35) dX8_enliven_34 rfl rfl ?_
      refine V_aload_n (j := 1) (q := 36) dX8_enliven_35 rfl rfl ?_
      refine V_iload_n (j := 2) (q := 37) dX8_enliven_36 rfl rfl ?_
      refine V_iconst (q := 38) (v := nI 3) dX8_enliven_37 rfl rfl ?_
      refine V_cpV (q := 41) (S := [.ref m]) (v := .int (nI (pFd P i 3))) kX8_72 (c_of (i := i) W (by omega) (by omega)) (W.1.1 0 _ rfl) rfl rfl rfl dX8_enliven_38 rfl ?_
      refine V_aload_n (j := 1) (q := 42) dX8_enliven_41 rfl rfl ?_
      refine V_iload_n (j := 2) (q := 43) dX8_enliven_42 rfl rfl ?_
      refine V_iconst (q := 44) (v := nI 4) dX8_enliven_43 rfl rfl ?_
      refine V_cpV (q := 47) (S := [.int (nI (pFd P i 3)), .ref m]) (v := .int (nI (pFd P i 4))) kX8_72 (c_of (i := i) W (by omega) (by omega)) (W.1.1 0 _ rfl) rfl rfl rfl dX8_enliven_44 rfl ?_
      refine V_iload_n (j := 4) (q := 48) dX8_enliven_47 rfl rfl ?_
      refine V_iaddN (q := 49) dX8_enliven_48 rfl ?_
      refine V_cpV (q := 52) (S := []) (v := .int (nI (16 * (pFd P i 3) + pof P (pFd P i 3) (pFd P i 4 + k)))) kX8_110 (c_placeOf (r := pFd P i 3) (k := pFd P i 4 + k) W A (by omega) (by omega) (ptd_s hi hc (j := k) (by omega) (by omega))) (W.1.1 0 _ rfl) rfl rfl rfl dX8_enliven_49 rfl ?_
      refine V_rw (y := nI (srP P i k)) rfl ?_
      refine V_istore (q := 54) (L' := [(5, .int (nI (srP P i k))), (4, .int (nI (dtP P i k))), (0, .ref m), (1, .int (nI i)), (2, .int (bi b)), (3, .int (nI k))]) dX8_enliven_52 rfl rfl rfl ?_
      refine V_iload_n (j := 4) (q := 55) dX8_enliven_54 rfl rfl ?_
      refine V_if_neB (tgt := 78) (q := 58) dX8_enliven_55 rfl rfl (fun c2 => ?_) (fun c2 => ?_)
      · skip
        refine V_iconst (q := 79) (v := nI 1) dX8_enliven_78 rfl rfl ?_
        refine V_goto (q := 83) dX8_enliven_79 rfl ?_
        refine V_rw (y := bi true) rfl ?_
        refine V_istore_n (q := 84) (L' := [(2, .int (bi true)), (5, .int (nI (srP P i k))), (4, .int (nI (dtP P i k))), (0, .ref m), (1, .int (nI i)), (3, .int (nI k))]) dX8_enliven_83 rfl rfl rfl ?_
        refine V_aload_n (j := 3) (q := 85) dX8_enliven_84 rfl rfl ?_
        refine V_getP (q := 88) (r := (m + 8)) fX8_32 (W.1.1 0 _ rfl) rfl (W.1.2 8 _ rfl) dX8_enliven_85 rfl ?_
        refine V_iload (j := 1) (q := 90) dX8_enliven_88 rfl rfl ?_
        refine V_aload_n (j := 3) (q := 91) dX8_enliven_90 rfl rfl ?_
        refine V_getP (q := 94) (r := (m + 8)) fX8_32 (W.1.1 0 _ rfl) rfl (W.1.2 8 _ rfl) dX8_enliven_91 rfl ?_
        refine V_iload (j := 1) (q := 96) dX8_enliven_94 rfl rfl ?_
        refine V_zald (q := 97) (W.1.1 8 _ rfl) (by omega) (by decide) dX8_enliven_96 rfl ?_
        refine V_rw (y := bi (fk (srP P i k))) (B2 _ (by omega)) ?_
        refine V_if_neB (tgt := 110) (q := 100) dX8_enliven_97 rfl rfl (fun c3 => ?_) (fun c3 => ?_)
        · skip
          refine V_iconst (q := 111) (v := nI 1) dX8_enliven_110 rfl rfl ?_
          refine V_goto (q := 115) dX8_enliven_111 rfl ?_
          refine V_rw (y := bi true) rfl ?_
          refine V_zast (b := true) (q := 116) (W.1.1 8 _ rfl) (by omega) (by decide) dX8_enliven_115 rfl ?_
          have W : RF (sI e (m + 8) (srP P i k) (bi true)) m P := RF_sI W (by omega)
          refine V_iincN (j := 5) (q := 119) (L' := [(3, .int (nI (k + 1))), (2, .int (bi true)), (5, .int (nI (srP P i k))), (4, .int (nI (dtP P i k))), (0, .ref m), (1, .int (nI i))]) dX8_enliven_116 rfl rfl rfl rfl ?_
          refine V_goto (q := 4) dX8_enliven_119 rfl ?_
          refine V_sub (L' := [(0, .ref m), (1, .int (nI i)), (2, .int (bi true)), (3, .int (nI (k + 1)))]) [4, 5, 1, 0] rfl ?_
          refine ih (k + 1) true (sI e (m + 8) (srP P i k) (bi true)) (fun x => if x = srP P i k then true else fk x) ?_ ?_ ?_ ?_ ?_
          · omega
          · exact F.set
          · exact BR_set B2 (if_pos rfl) (fun y hy => if_neg hy)
          · exact EN_s W.2.2 hi hc (by omega) E (by first | (simp [c1, c2, c3]; done) | (exfalso; simp_all)) (by first | (simp [c1, c2, c3]; done) | (exfalso; simp_all))
          · omega
        · skip
          refine V_aload_n (j := 3) (q := 101) dX8_enliven_100 rfl rfl ?_
          refine V_getP (q := 104) (r := (m + 8)) fX8_32 (W.1.1 0 _ rfl) rfl (W.1.2 8 _ rfl) dX8_enliven_101 rfl ?_
          refine V_iload (j := 2) (q := 106) dX8_enliven_104 rfl rfl ?_
          refine V_zald (q := 107) (W.1.1 8 _ rfl) (by omega) (by decide) dX8_enliven_106 rfl ?_
          refine V_rw (y := bi (fk (dtP P i k))) (B2 _ (by omega)) ?_
          refine V_if_eqB (tgt := 114) (q := 110) dX8_enliven_107 rfl rfl (fun c4 => ?_) (fun c4 => ?_)
          · skip
            refine V_iconst (q := 115) (v := nI 0) dX8_enliven_114 rfl rfl ?_
            refine V_rw (y := bi false) rfl ?_
            refine V_zast (b := false) (q := 116) (W.1.1 8 _ rfl) (by omega) (by decide) dX8_enliven_115 rfl ?_
            have W : RF (sI e (m + 8) (srP P i k) (bi false)) m P := RF_sI W (by omega)
            refine V_iincN (j := 5) (q := 119) (L' := [(3, .int (nI (k + 1))), (2, .int (bi true)), (5, .int (nI (srP P i k))), (4, .int (nI (dtP P i k))), (0, .ref m), (1, .int (nI i))]) dX8_enliven_116 rfl rfl rfl rfl ?_
            refine V_goto (q := 4) dX8_enliven_119 rfl ?_
            refine V_sub (L' := [(0, .ref m), (1, .int (nI i)), (2, .int (bi true)), (3, .int (nI (k + 1)))]) [4, 5, 1, 0] rfl ?_
            refine ih (k + 1) true (sI e (m + 8) (srP P i k) (bi false)) (fun x => if x = srP P i k then false else fk x) ?_ ?_ ?_ ?_ ?_
            · omega
            · exact F.set
            · exact BR_set B2 (if_pos rfl) (fun y hy => if_neg hy)
            · exact EN_s W.2.2 hi hc (by omega) E (by first | (simp [c1, c2, c3, c4]; done) | (exfalso; simp_all)) (by first | (simp [c1, c2, c3, c4]; done) | (exfalso; simp_all))
            · omega
          · skip
            refine V_iconst (q := 111) (v := nI 1) dX8_enliven_110 rfl rfl ?_
            refine V_goto (q := 115) dX8_enliven_111 rfl ?_
            refine V_rw (y := bi true) rfl ?_
            refine V_zast (b := true) (q := 116) (W.1.1 8 _ rfl) (by omega) (by decide) dX8_enliven_115 rfl ?_
            have W : RF (sI e (m + 8) (srP P i k) (bi true)) m P := RF_sI W (by omega)
            refine V_iincN (j := 5) (q := 119) (L' := [(3, .int (nI (k + 1))), (2, .int (bi true)), (5, .int (nI (srP P i k))), (4, .int (nI (dtP P i k))), (0, .ref m), (1, .int (nI i))]) dX8_enliven_116 rfl rfl rfl rfl ?_
            refine V_goto (q := 4) dX8_enliven_119 rfl ?_
            refine V_sub (L' := [(0, .ref m), (1, .int (nI i)), (2, .int (bi true)), (3, .int (nI (k + 1)))]) [4, 5, 1, 0] rfl ?_
            refine ih (k + 1) true (sI e (m + 8) (srP P i k) (bi true)) (fun x => if x = srP P i k then true else fk x) ?_ ?_ ?_ ?_ ?_
            · omega
            · exact F.set
            · exact BR_set B2 (if_pos rfl) (fun y hy => if_neg hy)
            · exact EN_s W.2.2 hi hc (by omega) E (by first | (simp [c1, c2, c3, c4]; done) | (exfalso; simp_all)) (by first | (simp [c1, c2, c3, c4]; done) | (exfalso; simp_all))
            · omega
      · skip
        refine V_aload_n (j := 2) (q := 59) dX8_enliven_58 rfl rfl ?_
        refine V_getP (q := 62) (r := (m + 8)) fX8_32 (W.1.1 0 _ rfl) rfl (W.1.2 8 _ rfl) dX8_enliven_59 rfl ?_
        refine V_iload (j := 1) (q := 64) dX8_enliven_62 rfl rfl ?_
        refine V_zald (q := 65) (W.1.1 8 _ rfl) (by omega) (by decide) dX8_enliven_64 rfl ?_
        refine V_rw (y := bi (fk (dtP P i k))) (B2 _ (by omega)) ?_
        refine V_if_eqB (tgt := 82) (q := 68) dX8_enliven_65 rfl rfl (fun c5 => ?_) (fun c5 => ?_)
        · skip
          refine V_iconst (q := 83) (v := nI 0) dX8_enliven_82 rfl rfl ?_
          refine V_rw (y := bi false) rfl ?_
          refine V_istore_n (q := 84) (L' := [(2, .int (bi false)), (5, .int (nI (srP P i k))), (4, .int (nI (dtP P i k))), (0, .ref m), (1, .int (nI i)), (3, .int (nI k))]) dX8_enliven_83 rfl rfl rfl ?_
          refine V_aload_n (j := 3) (q := 85) dX8_enliven_84 rfl rfl ?_
          refine V_getP (q := 88) (r := (m + 8)) fX8_32 (W.1.1 0 _ rfl) rfl (W.1.2 8 _ rfl) dX8_enliven_85 rfl ?_
          refine V_iload (j := 1) (q := 90) dX8_enliven_88 rfl rfl ?_
          refine V_aload_n (j := 3) (q := 91) dX8_enliven_90 rfl rfl ?_
          refine V_getP (q := 94) (r := (m + 8)) fX8_32 (W.1.1 0 _ rfl) rfl (W.1.2 8 _ rfl) dX8_enliven_91 rfl ?_
          refine V_iload (j := 1) (q := 96) dX8_enliven_94 rfl rfl ?_
          refine V_zald (q := 97) (W.1.1 8 _ rfl) (by omega) (by decide) dX8_enliven_96 rfl ?_
          refine V_rw (y := bi (fk (srP P i k))) (B2 _ (by omega)) ?_
          refine V_if_neB (tgt := 110) (q := 100) dX8_enliven_97 rfl rfl (fun c6 => ?_) (fun c6 => ?_)
          · skip
            refine V_iconst (q := 111) (v := nI 1) dX8_enliven_110 rfl rfl ?_
            refine V_goto (q := 115) dX8_enliven_111 rfl ?_
            refine V_rw (y := bi true) rfl ?_
            refine V_zast (b := true) (q := 116) (W.1.1 8 _ rfl) (by omega) (by decide) dX8_enliven_115 rfl ?_
            have W : RF (sI e (m + 8) (srP P i k) (bi true)) m P := RF_sI W (by omega)
            refine V_iincN (j := 5) (q := 119) (L' := [(3, .int (nI (k + 1))), (2, .int (bi false)), (5, .int (nI (srP P i k))), (4, .int (nI (dtP P i k))), (0, .ref m), (1, .int (nI i))]) dX8_enliven_116 rfl rfl rfl rfl ?_
            refine V_goto (q := 4) dX8_enliven_119 rfl ?_
            refine V_sub (L' := [(0, .ref m), (1, .int (nI i)), (2, .int (bi false)), (3, .int (nI (k + 1)))]) [4, 5, 1, 0] rfl ?_
            refine ih (k + 1) false (sI e (m + 8) (srP P i k) (bi true)) (fun x => if x = srP P i k then true else fk x) ?_ ?_ ?_ ?_ ?_
            · omega
            · exact F.set
            · exact BR_set B2 (if_pos rfl) (fun y hy => if_neg hy)
            · exact EN_s W.2.2 hi hc (by omega) E (by first | (simp [c1, c2, c5, c6]; done) | (exfalso; simp_all)) (by first | (simp [c1, c2, c5, c6]; done) | (exfalso; simp_all))
            · omega
          · skip
            refine V_aload_n (j := 3) (q := 101) dX8_enliven_100 rfl rfl ?_
            refine V_getP (q := 104) (r := (m + 8)) fX8_32 (W.1.1 0 _ rfl) rfl (W.1.2 8 _ rfl) dX8_enliven_101 rfl ?_
            refine V_iload (j := 2) (q := 106) dX8_enliven_104 rfl rfl ?_
            refine V_zald (q := 107) (W.1.1 8 _ rfl) (by omega) (by decide) dX8_enliven_106 rfl ?_
            refine V_rw (y := bi (fk (dtP P i k))) (B2 _ (by omega)) ?_
            refine V_if_eqB (tgt := 114) (q := 110) dX8_enliven_107 rfl rfl (fun c7 => ?_) (fun c7 => ?_)
            · skip
              refine V_iconst (q := 115) (v := nI 0) dX8_enliven_114 rfl rfl ?_
              refine V_rw (y := bi false) rfl ?_
              refine V_zast (b := false) (q := 116) (W.1.1 8 _ rfl) (by omega) (by decide) dX8_enliven_115 rfl ?_
              have W : RF (sI e (m + 8) (srP P i k) (bi false)) m P := RF_sI W (by omega)
              refine V_iincN (j := 5) (q := 119) (L' := [(3, .int (nI (k + 1))), (2, .int (bi false)), (5, .int (nI (srP P i k))), (4, .int (nI (dtP P i k))), (0, .ref m), (1, .int (nI i))]) dX8_enliven_116 rfl rfl rfl rfl ?_
              refine V_goto (q := 4) dX8_enliven_119 rfl ?_
              refine V_sub (L' := [(0, .ref m), (1, .int (nI i)), (2, .int (bi false)), (3, .int (nI (k + 1)))]) [4, 5, 1, 0] rfl ?_
              refine ih (k + 1) false (sI e (m + 8) (srP P i k) (bi false)) (fun x => if x = srP P i k then false else fk x) ?_ ?_ ?_ ?_ ?_
              · omega
              · exact F.set
              · exact BR_set B2 (if_pos rfl) (fun y hy => if_neg hy)
              · exact EN_s W.2.2 hi hc (by omega) E (by first | (simp [c1, c2, c5, c6, c7]; done) | (exfalso; simp_all)) (by first | (simp [c1, c2, c5, c6, c7]; done) | (exfalso; simp_all))
              · omega
            · skip
              refine V_iconst (q := 111) (v := nI 1) dX8_enliven_110 rfl rfl ?_
              refine V_goto (q := 115) dX8_enliven_111 rfl ?_
              refine V_rw (y := bi true) rfl ?_
              refine V_zast (b := true) (q := 116) (W.1.1 8 _ rfl) (by omega) (by decide) dX8_enliven_115 rfl ?_
              have W : RF (sI e (m + 8) (srP P i k) (bi true)) m P := RF_sI W (by omega)
              refine V_iincN (j := 5) (q := 119) (L' := [(3, .int (nI (k + 1))), (2, .int (bi false)), (5, .int (nI (srP P i k))), (4, .int (nI (dtP P i k))), (0, .ref m), (1, .int (nI i))]) dX8_enliven_116 rfl rfl rfl rfl ?_
              refine V_goto (q := 4) dX8_enliven_119 rfl ?_
              refine V_sub (L' := [(0, .ref m), (1, .int (nI i)), (2, .int (bi false)), (3, .int (nI (k + 1)))]) [4, 5, 1, 0] rfl ?_
              refine ih (k + 1) false (sI e (m + 8) (srP P i k) (bi true)) (fun x => if x = srP P i k then true else fk x) ?_ ?_ ?_ ?_ ?_
              · omega
              · exact F.set
              · exact BR_set B2 (if_pos rfl) (fun y hy => if_neg hy)
              · exact EN_s W.2.2 hi hc (by omega) E (by first | (simp [c1, c2, c5, c6, c7]; done) | (exfalso; simp_all)) (by first | (simp [c1, c2, c5, c6, c7]; done) | (exfalso; simp_all))
              · omega
        · skip
          refine V_aload_n (j := 2) (q := 69) dX8_enliven_68 rfl rfl ?_
          refine V_getP (q := 72) (r := (m + 8)) fX8_32 (W.1.1 0 _ rfl) rfl (W.1.2 8 _ rfl) dX8_enliven_69 rfl ?_
          refine V_iload (j := 0) (q := 74) dX8_enliven_72 rfl rfl ?_
          refine V_zald (q := 75) (W.1.1 8 _ rfl) (by omega) (by decide) dX8_enliven_74 rfl ?_
          refine V_rw (y := bi (fk (srP P i k))) (B2 _ (by omega)) ?_
          refine V_if_neB (tgt := 82) (q := 78) dX8_enliven_75 rfl rfl (fun c8 => ?_) (fun c8 => ?_)
          · skip
            refine V_iconst (q := 83) (v := nI 0) dX8_enliven_82 rfl rfl ?_
            refine V_rw (y := bi false) rfl ?_
            refine V_istore_n (q := 84) (L' := [(2, .int (bi false)), (5, .int (nI (srP P i k))), (4, .int (nI (dtP P i k))), (0, .ref m), (1, .int (nI i)), (3, .int (nI k))]) dX8_enliven_83 rfl rfl rfl ?_
            refine V_aload_n (j := 3) (q := 85) dX8_enliven_84 rfl rfl ?_
            refine V_getP (q := 88) (r := (m + 8)) fX8_32 (W.1.1 0 _ rfl) rfl (W.1.2 8 _ rfl) dX8_enliven_85 rfl ?_
            refine V_iload (j := 1) (q := 90) dX8_enliven_88 rfl rfl ?_
            refine V_aload_n (j := 3) (q := 91) dX8_enliven_90 rfl rfl ?_
            refine V_getP (q := 94) (r := (m + 8)) fX8_32 (W.1.1 0 _ rfl) rfl (W.1.2 8 _ rfl) dX8_enliven_91 rfl ?_
            refine V_iload (j := 1) (q := 96) dX8_enliven_94 rfl rfl ?_
            refine V_zald (q := 97) (W.1.1 8 _ rfl) (by omega) (by decide) dX8_enliven_96 rfl ?_
            refine V_rw (y := bi (fk (srP P i k))) (B2 _ (by omega)) ?_
            refine V_if_neB (tgt := 110) (q := 100) dX8_enliven_97 rfl rfl (fun c9 => ?_) (fun c9 => ?_)
            · skip
              refine V_iconst (q := 111) (v := nI 1) dX8_enliven_110 rfl rfl ?_
              refine V_goto (q := 115) dX8_enliven_111 rfl ?_
              refine V_rw (y := bi true) rfl ?_
              refine V_zast (b := true) (q := 116) (W.1.1 8 _ rfl) (by omega) (by decide) dX8_enliven_115 rfl ?_
              have W : RF (sI e (m + 8) (srP P i k) (bi true)) m P := RF_sI W (by omega)
              refine V_iincN (j := 5) (q := 119) (L' := [(3, .int (nI (k + 1))), (2, .int (bi false)), (5, .int (nI (srP P i k))), (4, .int (nI (dtP P i k))), (0, .ref m), (1, .int (nI i))]) dX8_enliven_116 rfl rfl rfl rfl ?_
              refine V_goto (q := 4) dX8_enliven_119 rfl ?_
              refine V_sub (L' := [(0, .ref m), (1, .int (nI i)), (2, .int (bi false)), (3, .int (nI (k + 1)))]) [4, 5, 1, 0] rfl ?_
              refine ih (k + 1) false (sI e (m + 8) (srP P i k) (bi true)) (fun x => if x = srP P i k then true else fk x) ?_ ?_ ?_ ?_ ?_
              · omega
              · exact F.set
              · exact BR_set B2 (if_pos rfl) (fun y hy => if_neg hy)
              · exact EN_s W.2.2 hi hc (by omega) E (by first | (simp [c1, c2, c5, c8, c9]; done) | (exfalso; simp_all)) (by first | (simp [c1, c2, c5, c8, c9]; done) | (exfalso; simp_all))
              · omega
            · skip
              refine V_aload_n (j := 3) (q := 101) dX8_enliven_100 rfl rfl ?_
              refine V_getP (q := 104) (r := (m + 8)) fX8_32 (W.1.1 0 _ rfl) rfl (W.1.2 8 _ rfl) dX8_enliven_101 rfl ?_
              refine V_iload (j := 2) (q := 106) dX8_enliven_104 rfl rfl ?_
              refine V_zald (q := 107) (W.1.1 8 _ rfl) (by omega) (by decide) dX8_enliven_106 rfl ?_
              refine V_rw (y := bi (fk (dtP P i k))) (B2 _ (by omega)) ?_
              refine V_if_eqB (tgt := 114) (q := 110) dX8_enliven_107 rfl rfl (fun c10 => ?_) (fun c10 => ?_)
              · skip
                refine V_iconst (q := 115) (v := nI 0) dX8_enliven_114 rfl rfl ?_
                refine V_rw (y := bi false) rfl ?_
                refine V_zast (b := false) (q := 116) (W.1.1 8 _ rfl) (by omega) (by decide) dX8_enliven_115 rfl ?_
                have W : RF (sI e (m + 8) (srP P i k) (bi false)) m P := RF_sI W (by omega)
                refine V_iincN (j := 5) (q := 119) (L' := [(3, .int (nI (k + 1))), (2, .int (bi false)), (5, .int (nI (srP P i k))), (4, .int (nI (dtP P i k))), (0, .ref m), (1, .int (nI i))]) dX8_enliven_116 rfl rfl rfl rfl ?_
                refine V_goto (q := 4) dX8_enliven_119 rfl ?_
                refine V_sub (L' := [(0, .ref m), (1, .int (nI i)), (2, .int (bi false)), (3, .int (nI (k + 1)))]) [4, 5, 1, 0] rfl ?_
                refine ih (k + 1) false (sI e (m + 8) (srP P i k) (bi false)) (fun x => if x = srP P i k then false else fk x) ?_ ?_ ?_ ?_ ?_
                · omega
                · exact F.set
                · exact BR_set B2 (if_pos rfl) (fun y hy => if_neg hy)
                · exact EN_s W.2.2 hi hc (by omega) E (by first | (simp [c1, c2, c5, c8, c9, c10]; done) | (exfalso; simp_all)) (by first | (simp [c1, c2, c5, c8, c9, c10]; done) | (exfalso; simp_all))
                · omega
              · skip
                refine V_iconst (q := 111) (v := nI 1) dX8_enliven_110 rfl rfl ?_
                refine V_goto (q := 115) dX8_enliven_111 rfl ?_
                refine V_rw (y := bi true) rfl ?_
                refine V_zast (b := true) (q := 116) (W.1.1 8 _ rfl) (by omega) (by decide) dX8_enliven_115 rfl ?_
                have W : RF (sI e (m + 8) (srP P i k) (bi true)) m P := RF_sI W (by omega)
                refine V_iincN (j := 5) (q := 119) (L' := [(3, .int (nI (k + 1))), (2, .int (bi false)), (5, .int (nI (srP P i k))), (4, .int (nI (dtP P i k))), (0, .ref m), (1, .int (nI i))]) dX8_enliven_116 rfl rfl rfl rfl ?_
                refine V_goto (q := 4) dX8_enliven_119 rfl ?_
                refine V_sub (L' := [(0, .ref m), (1, .int (nI i)), (2, .int (bi false)), (3, .int (nI (k + 1)))]) [4, 5, 1, 0] rfl ?_
                refine ih (k + 1) false (sI e (m + 8) (srP P i k) (bi true)) (fun x => if x = srP P i k then true else fk x) ?_ ?_ ?_ ?_ ?_
                · omega
                · exact F.set
                · exact BR_set B2 (if_pos rfl) (fun y hy => if_neg hy)
                · exact EN_s W.2.2 hi hc (by omega) E (by first | (simp [c1, c2, c5, c8, c9, c10]; done) | (exfalso; simp_all)) (by first | (simp [c1, c2, c5, c8, c9, c10]; done) | (exfalso; simp_all))
                · omega
          · skip
            refine V_iconst (q := 79) (v := nI 1) dX8_enliven_78 rfl rfl ?_
            refine V_goto (q := 83) dX8_enliven_79 rfl ?_
            refine V_rw (y := bi true) rfl ?_
            refine V_istore_n (q := 84) (L' := [(2, .int (bi true)), (5, .int (nI (srP P i k))), (4, .int (nI (dtP P i k))), (0, .ref m), (1, .int (nI i)), (3, .int (nI k))]) dX8_enliven_83 rfl rfl rfl ?_
            refine V_aload_n (j := 3) (q := 85) dX8_enliven_84 rfl rfl ?_
            refine V_getP (q := 88) (r := (m + 8)) fX8_32 (W.1.1 0 _ rfl) rfl (W.1.2 8 _ rfl) dX8_enliven_85 rfl ?_
            refine V_iload (j := 1) (q := 90) dX8_enliven_88 rfl rfl ?_
            refine V_aload_n (j := 3) (q := 91) dX8_enliven_90 rfl rfl ?_
            refine V_getP (q := 94) (r := (m + 8)) fX8_32 (W.1.1 0 _ rfl) rfl (W.1.2 8 _ rfl) dX8_enliven_91 rfl ?_
            refine V_iload (j := 1) (q := 96) dX8_enliven_94 rfl rfl ?_
            refine V_zald (q := 97) (W.1.1 8 _ rfl) (by omega) (by decide) dX8_enliven_96 rfl ?_
            refine V_rw (y := bi (fk (srP P i k))) (B2 _ (by omega)) ?_
            refine V_if_neB (tgt := 110) (q := 100) dX8_enliven_97 rfl rfl (fun c11 => ?_) (fun c11 => ?_)
            · skip
              refine V_iconst (q := 111) (v := nI 1) dX8_enliven_110 rfl rfl ?_
              refine V_goto (q := 115) dX8_enliven_111 rfl ?_
              refine V_rw (y := bi true) rfl ?_
              refine V_zast (b := true) (q := 116) (W.1.1 8 _ rfl) (by omega) (by decide) dX8_enliven_115 rfl ?_
              have W : RF (sI e (m + 8) (srP P i k) (bi true)) m P := RF_sI W (by omega)
              refine V_iincN (j := 5) (q := 119) (L' := [(3, .int (nI (k + 1))), (2, .int (bi true)), (5, .int (nI (srP P i k))), (4, .int (nI (dtP P i k))), (0, .ref m), (1, .int (nI i))]) dX8_enliven_116 rfl rfl rfl rfl ?_
              refine V_goto (q := 4) dX8_enliven_119 rfl ?_
              refine V_sub (L' := [(0, .ref m), (1, .int (nI i)), (2, .int (bi true)), (3, .int (nI (k + 1)))]) [4, 5, 1, 0] rfl ?_
              refine ih (k + 1) true (sI e (m + 8) (srP P i k) (bi true)) (fun x => if x = srP P i k then true else fk x) ?_ ?_ ?_ ?_ ?_
              · omega
              · exact F.set
              · exact BR_set B2 (if_pos rfl) (fun y hy => if_neg hy)
              · exact EN_s W.2.2 hi hc (by omega) E (by first | (simp [c1, c2, c5, c8, c11]; done) | (exfalso; simp_all)) (by first | (simp [c1, c2, c5, c8, c11]; done) | (exfalso; simp_all))
              · omega
            · skip
              refine V_aload_n (j := 3) (q := 101) dX8_enliven_100 rfl rfl ?_
              refine V_getP (q := 104) (r := (m + 8)) fX8_32 (W.1.1 0 _ rfl) rfl (W.1.2 8 _ rfl) dX8_enliven_101 rfl ?_
              refine V_iload (j := 2) (q := 106) dX8_enliven_104 rfl rfl ?_
              refine V_zald (q := 107) (W.1.1 8 _ rfl) (by omega) (by decide) dX8_enliven_106 rfl ?_
              refine V_rw (y := bi (fk (dtP P i k))) (B2 _ (by omega)) ?_
              refine V_if_eqB (tgt := 114) (q := 110) dX8_enliven_107 rfl rfl (fun c12 => ?_) (fun c12 => ?_)
              · skip
                refine V_iconst (q := 115) (v := nI 0) dX8_enliven_114 rfl rfl ?_
                refine V_rw (y := bi false) rfl ?_
                refine V_zast (b := false) (q := 116) (W.1.1 8 _ rfl) (by omega) (by decide) dX8_enliven_115 rfl ?_
                have W : RF (sI e (m + 8) (srP P i k) (bi false)) m P := RF_sI W (by omega)
                refine V_iincN (j := 5) (q := 119) (L' := [(3, .int (nI (k + 1))), (2, .int (bi true)), (5, .int (nI (srP P i k))), (4, .int (nI (dtP P i k))), (0, .ref m), (1, .int (nI i))]) dX8_enliven_116 rfl rfl rfl rfl ?_
                refine V_goto (q := 4) dX8_enliven_119 rfl ?_
                refine V_sub (L' := [(0, .ref m), (1, .int (nI i)), (2, .int (bi true)), (3, .int (nI (k + 1)))]) [4, 5, 1, 0] rfl ?_
                refine ih (k + 1) true (sI e (m + 8) (srP P i k) (bi false)) (fun x => if x = srP P i k then false else fk x) ?_ ?_ ?_ ?_ ?_
                · omega
                · exact F.set
                · exact BR_set B2 (if_pos rfl) (fun y hy => if_neg hy)
                · exact EN_s W.2.2 hi hc (by omega) E (by first | (simp [c1, c2, c5, c8, c11, c12]; done) | (exfalso; simp_all)) (by first | (simp [c1, c2, c5, c8, c11, c12]; done) | (exfalso; simp_all))
                · omega
              · skip
                refine V_iconst (q := 111) (v := nI 1) dX8_enliven_110 rfl rfl ?_
                refine V_goto (q := 115) dX8_enliven_111 rfl ?_
                refine V_rw (y := bi true) rfl ?_
                refine V_zast (b := true) (q := 116) (W.1.1 8 _ rfl) (by omega) (by decide) dX8_enliven_115 rfl ?_
                have W : RF (sI e (m + 8) (srP P i k) (bi true)) m P := RF_sI W (by omega)
                refine V_iincN (j := 5) (q := 119) (L' := [(3, .int (nI (k + 1))), (2, .int (bi true)), (5, .int (nI (srP P i k))), (4, .int (nI (dtP P i k))), (0, .ref m), (1, .int (nI i))]) dX8_enliven_116 rfl rfl rfl rfl ?_
                refine V_goto (q := 4) dX8_enliven_119 rfl ?_
                refine V_sub (L' := [(0, .ref m), (1, .int (nI i)), (2, .int (bi true)), (3, .int (nI (k + 1)))]) [4, 5, 1, 0] rfl ?_
                refine ih (k + 1) true (sI e (m + 8) (srP P i k) (bi true)) (fun x => if x = srP P i k then true else fk x) ?_ ?_ ?_ ?_ ?_
                · omega
                · exact F.set
                · exact BR_set B2 (if_pos rfl) (fun y hy => if_neg hy)
                · exact EN_s W.2.2 hi hc (by omega) E (by first | (simp [c1, c2, c5, c8, c11, c12]; done) | (exfalso; simp_all)) (by first | (simp [c1, c2, c5, c8, c11, c12]; done) | (exfalso; simp_all))
                · omega

set_option maxHeartbeats 4000000 in
set_option maxRecDepth 100000 in
theorem c_enliven {g : GX} {h : AH} {m : Nat} {P : PG} (W : RF h m P) (A : PA h m P (pNr P)) {i : Nat} {f : Nat → Bool} (B : BR h (m + 8) f) (hi : i < pNi P) (hc : pFd P i 0 = 3) : Ct g mX8_enliven 1 0 0 [.ref m, .int (nI i)] h (fun ρ η => ∃ (b : Bool) (fl : Nat → Bool), ρ = some (.int (bi b)) ∧ FB h η (m + 8) ∧ BR η (m + 8) fl ∧ EN P i f fl (pFd P i 5) b) := by
  refine Ct_intro (by decide +kernel) (Nat.le_of_ble_eq_true rfl) ?_
  show V g mX8_enliven _ h 0 0 [(0, .ref m), (1, .int (nI i))] 0 []
  have hN := W.2.2.2.2.1
  have hR := W.2.2.1
  have hcp := ok_cp W.2.2 hi hc
  refine V_iconst (q := 1) (v := nI 0) dX8_enliven_0 rfl rfl ?_
  refine V_rw (y := bi false) rfl ?_
  refine V_istore_n (q := 2) (L' := [(2, .int (bi false)), (0, .ref m), (1, .int (nI i))]) dX8_enliven_1 rfl rfl rfl ?_
  refine V_iconst (q := 3) (v := nI 0) dX8_enliven_2 rfl rfl ?_
  refine V_istore_n (q := 4) (L' := [(3, .int (nI 0)), (2, .int (bi false)), (0, .ref m), (1, .int (nI i))]) dX8_enliven_3 rfl rfl rfl ?_
  refine V_sub (L' := [(0, .ref m), (1, .int (nI i)), (2, .int (bi false)), (3, .int (nI 0))]) [2, 3, 1, 0] rfl ?_
  refine lp_enliven W A B hi hc (pFd P i 5 - 0 + 1) 0 false h f ?_ ?_ ?_ ?_ ?_
  · omega
  · exact FB.rf _
  · exact B
  · exact EN_0 P i f
  · exact Nat.lt_succ_self _

set_option maxHeartbeats 4000000 in
set_option maxRecDepth 100000 in
theorem lp_live5 {g : GX} {h : AH} {m : Nat} {P : PG} (W : RF h m P) (A : PA h m P (pNr P)) {f0 : Nat → Bool} (kk : ∀ (e : AH) (fk : Nat → Bool) (b : Bool), FB h e (m + 8) → BR e (m + 8) fk → EM P f0 fk (pNi P) b → V g mX8_findLive (thM g 3 0 0 (fun ρ η => ρ = none ∧ FB h η (m + 8) ∧ ∃ f, BR η (m + 8) f ∧ lsd P f ∧ lbs P f ∧ cls P f)) e 0 0 [(0, .ref m), (1, .int (bi b))] 158 []) : ∀ (t : Nat) (i : Nat) (b : Bool) (e : AH) (fk : Nat → Bool), (i ≤ pNi P) → (FB h e (m + 8)) → (BR e (m + 8) fk) → (EM P f0 fk i b) → pNi P - i < t → V g mX8_findLive (thM g 3 0 0 (fun ρ η => ρ = none ∧ FB h η (m + 8) ∧ ∃ f, BR η (m + 8) f ∧ lsd P f ∧ lbs P f ∧ cls P f)) e 0 0 [(0, .ref m), (1, .int (bi b)), (2, .int (nI i))] 112 [] := by
  intro t
  induction t with
  | zero =>
    intro i b e fk hi F B2 E hfu
    exact absurd hfu (Nat.not_lt_zero _)
  | succ t ih =>
    intro i b e fk hi F B2 E hfu
    have hN := W.2.2.2.2.1
    have hR := W.2.2.1
    have W0 := W
    have A0 := A
    have W := F.RF W (by omega)
    have A := F.PA A (by decide)
    refine V_iload_n (j := 2) (q := 113) dX8_findLive_112 rfl rfl ?_
    refine V_aload_n (j := 0) (q := 114) dX8_findLive_113 rfl rfl ?_
    refine V_getP (q := 117) (r := (m + 1)) fX8_7 (W.1.1 0 _ rfl) rfl (W.1.2 0 _ rfl) dX8_findLive_114 rfl ?_
    refine V_iconst (q := 118) (v := nI 5) dX8_findLive_117 rfl rfl ?_
    refine V_iald (q := 119) (W.1.1 1 _ rfl) (by omega) (by decide) dX8_findLive_118 rfl ?_
    refine V_rw (y := nI (pNi P)) W.2.1.2.2.1 ?_
    refine V_icmp_geN (tgt := 158) (q := 122) dX8_findLive_119 rfl rfl (by omega) (by omega) (fun c1 => ?_) (fun c1 => ?_)
    · skip
      refine V_sub (L' := [(0, .ref m), (1, .int (bi b))]) [0, 1] rfl ?_
      exact kk e fk b F B2 (by rw [show pNi P = i by omega]; exact E)
    · skip
      have hk9 := ok_kd W.2.2 (i := i) (by omega)
      refine V_aload_n (j := 0) (q := 123) dX8_findLive_122 rfl rfl ?_
      refine V_iload_n (j := 2) (q := 124) dX8_findLive_123 rfl rfl ?_
      refine V_iconst (q := 125) (v := nI 0) dX8_findLive_124 rfl rfl ?_
      refine V_cpV (q := 128) (S := []) (v := .int (nI (pFd P i 0))) kX8_72 (c_of (i := i) W (by omega) (by omega)) (W.1.1 0 _ rfl) rfl rfl rfl dX8_findLive_125 rfl ?_
      refine V_iconst (q := 129) (v := nI 3) dX8_findLive_128 rfl rfl ?_
      refine V_icmp_neN (tgt := 152) (q := 132) dX8_findLive_129 rfl rfl (by omega) (by omega) (fun c2 => ?_) (fun c2 => ?_)
      · skip
        refine V_iincN (j := 2) (q := 155) (L' := [(2, .int (nI (i + 1))), (0, .ref m), (1, .int (bi b))]) dX8_findLive_152 rfl rfl rfl rfl ?_
        refine V_goto (q := 112) dX8_findLive_155 rfl ?_
        refine V_sub (L' := [(0, .ref m), (1, .int (bi b)), (2, .int (nI (i + 1)))]) [1, 2, 0] rfl ?_
        refine ih (i + 1) b e fk ?_ ?_ ?_ ?_ ?_
        · omega
        · exact F
        · exact B2
        · exact EM_no E c2
        · omega
      · skip
        have ac2 := ok_cp W.2.2 (i := i) (by omega) c2
        refine V_aload_n (j := 0) (q := 133) dX8_findLive_132 rfl rfl ?_
        refine V_iload_n (j := 2) (q := 134) dX8_findLive_133 rfl rfl ?_
        refine V_callV (q := 137) (S := []) kX8_126 (c_enliven (i := i) W A B2 (by omega) c2) (W.1.1 0 _ rfl) rfl rfl rfl dX8_findLive_134 rfl (fun r3 h4 p5 => ?_)
        obtain ⟨b2, fl, rfl, F3, B3, E3⟩ := p5
        have W := F3.RF W (by omega)
        have A := F3.PA A (by decide)
        refine V_istore_n (q := 138) (L' := [(3, .int (bi b2)), (0, .ref m), (1, .int (bi b)), (2, .int (nI i))]) dX8_findLive_137 rfl rfl rfl ?_
        refine V_iload_n (j := 2) (q := 139) dX8_findLive_138 rfl rfl ?_
        refine V_if_neB (tgt := 146) (q := 142) dX8_findLive_139 rfl rfl (fun c6 => ?_) (fun c6 => ?_)
        · skip
          refine V_iconst (q := 147) (v := nI 1) dX8_findLive_146 rfl rfl ?_
          refine V_goto (q := 151) dX8_findLive_147 rfl ?_
          refine V_rw (y := bi true) rfl ?_
          refine V_istore_n (q := 152) (L' := [(1, .int (bi true)), (3, .int (bi b2)), (0, .ref m), (2, .int (nI i))]) dX8_findLive_151 rfl rfl rfl ?_
          refine V_iincN (j := 3) (q := 155) (L' := [(2, .int (nI (i + 1))), (1, .int (bi true)), (3, .int (bi b2)), (0, .ref m)]) dX8_findLive_152 rfl rfl rfl rfl ?_
          refine V_goto (q := 112) dX8_findLive_155 rfl ?_
          refine V_sub (L' := [(0, .ref m), (1, .int (bi true)), (2, .int (nI (i + 1)))]) [3, 1, 0] rfl ?_
          refine ih (i + 1) true h4 fl ?_ ?_ ?_ ?_ ?_
          · omega
          · exact F.tr F3
          · exact B3
          · exact EM_s E E3 (by simp [c1, c2, c6])
          · omega
        · skip
          refine V_iload_n (j := 0) (q := 143) dX8_findLive_142 rfl rfl ?_
          refine V_if_eqB (tgt := 150) (q := 146) dX8_findLive_143 rfl rfl (fun c7 => ?_) (fun c7 => ?_)
          · skip
            refine V_iconst (q := 151) (v := nI 0) dX8_findLive_150 rfl rfl ?_
            refine V_rw (y := bi false) rfl ?_
            refine V_istore_n (q := 152) (L' := [(1, .int (bi false)), (3, .int (bi b2)), (0, .ref m), (2, .int (nI i))]) dX8_findLive_151 rfl rfl rfl ?_
            refine V_iincN (j := 3) (q := 155) (L' := [(2, .int (nI (i + 1))), (1, .int (bi false)), (3, .int (bi b2)), (0, .ref m)]) dX8_findLive_152 rfl rfl rfl rfl ?_
            refine V_goto (q := 112) dX8_findLive_155 rfl ?_
            refine V_sub (L' := [(0, .ref m), (1, .int (bi false)), (2, .int (nI (i + 1)))]) [3, 1, 0] rfl ?_
            refine ih (i + 1) false h4 fl ?_ ?_ ?_ ?_ ?_
            · omega
            · exact F.tr F3
            · exact B3
            · exact EM_s E E3 (by simp [c1, c2, c6, c7])
            · omega
          · skip
            refine V_iconst (q := 147) (v := nI 1) dX8_findLive_146 rfl rfl ?_
            refine V_goto (q := 151) dX8_findLive_147 rfl ?_
            refine V_rw (y := bi true) rfl ?_
            refine V_istore_n (q := 152) (L' := [(1, .int (bi true)), (3, .int (bi b2)), (0, .ref m), (2, .int (nI i))]) dX8_findLive_151 rfl rfl rfl ?_
            refine V_iincN (j := 3) (q := 155) (L' := [(2, .int (nI (i + 1))), (1, .int (bi true)), (3, .int (bi b2)), (0, .ref m)]) dX8_findLive_152 rfl rfl rfl rfl ?_
            refine V_goto (q := 112) dX8_findLive_155 rfl ?_
            refine V_sub (L' := [(0, .ref m), (1, .int (bi true)), (2, .int (nI (i + 1)))]) [3, 1, 0] rfl ?_
            refine ih (i + 1) true h4 fl ?_ ?_ ?_ ?_ ?_
            · omega
            · exact F.tr F3
            · exact B3
            · exact EM_s E E3 (by simp [c1, c2, c6, c7])
            · omega

set_option maxHeartbeats 4000000 in
set_option maxRecDepth 100000 in
theorem lp_live4 {g : GX} {h : AH} {m : Nat} {P : PG} (W : RF h m P) (A : PA h m P (pNr P)) : ∀ (t : Nat) (b : Bool) (e : AH) (fk : Nat → Bool), (FB h e (m + 8)) → (BR e (m + 8) fk) → (lsd P fk) → (lbs P fk) → (b = false → cls P fk) → mL fk b < t → V g mX8_findLive (thM g 3 0 0 (fun ρ η => ρ = none ∧ FB h η (m + 8) ∧ ∃ f, BR η (m + 8) f ∧ lsd P f ∧ lbs P f ∧ cls P f)) e 0 0 [(0, .ref m), (1, .int (bi b))] 104 [] := by
  intro t
  induction t with
  | zero =>
    intro b e fk F B2 s1 s2 s3 hfu
    exact absurd hfu (Nat.not_lt_zero _)
  | succ t ih =>
    intro b e fk F B2 s1 s2 s3 hfu
    have hN := W.2.2.2.2.1
    have hR := W.2.2.1
    have W0 := W
    have A0 := A
    have W := F.RF W (by omega)
    have A := F.PA A (by decide)
    refine V_iload_n (j := 1) (q := 105) dX8_findLive_104 rfl rfl ?_
    refine V_if_eqB (tgt := 161) (q := 108) dX8_findLive_105 rfl rfl (fun c1 => ?_) (fun c1 => ?_)
    · skip
      refine V_vret rfl dX8_findLive_161 rfl rfl ?_
      exact ⟨rfl, F, fk, B2, s1, s2, s3 c1⟩
    · skip
      refine V_iconst (q := 109) (v := nI 0) dX8_findLive_108 rfl rfl ?_
      refine V_rw (y := bi false) rfl ?_
      refine V_istore_n (q := 110) (L' := [(1, .int (bi false)), (0, .ref m)]) dX8_findLive_109 rfl rfl rfl ?_
      refine V_iconst (q := 111) (v := nI 0) dX8_findLive_110 rfl rfl ?_
      refine V_istore_n (q := 112) (L' := [(2, .int (nI 0)), (1, .int (bi false)), (0, .ref m)]) dX8_findLive_111 rfl rfl rfl ?_
      refine V_sub (L' := [(0, .ref m), (1, .int (bi false)), (2, .int (nI 0))]) [2, 1, 0] rfl ?_
      refine lp_live5 W0 A0 (f0 := fk) (fun e2 f2 b2 F2 B3 E2 => ?_) (pNi P - 0 + 1) 0 false e fk (Nat.zero_le _) F B2 (EM_0 P fk) (Nat.lt_succ_self _)
      refine V_goto (q := 104) dX8_findLive_158 rfl ?_
      refine ih b2 e2 f2 ?_ ?_ ?_ ?_ ?_ ?_
      · exact F2
      · exact B3
      · exact E2.2.1 s1
      · exact fun x hx => E2.1 x (s2 x hx)
      · exact fun z i hi hc k hk hd => by rw [(E2.2.2.1 z).1] at hd ⊢; exact (E2.2.2.1 z).2 i hi hc k hk hd
      · (have := mL_lt E2; rw [c1] at hfu; omega)

set_option maxHeartbeats 4000000 in
set_option maxRecDepth 100000 in
theorem lp_live3 {g : GX} {h : AH} {m : Nat} {P : PG} (W : RF h m P) (A : PA h m P (pNr P)) : ∀ (t : Nat) (i : Nat) (e : AH) (fk : Nat → Bool), (i ≤ pNi P) → (FB h e (m + 8)) → (BR e (m + 8) fk) → (lsd P fk) → (∀ r p, r < pNr P → p < npt P r → esc P r = true → fk (16 * r + p) = true) → (∀ j, j < i → pFd P j 0 = 2 → fk (16 * pFd P j 1 + pof P (pFd P j 1) (pFd P j 2)) = true) → pNi P - i < t → V g mX8_findLive (thM g 3 0 0 (fun ρ η => ρ = none ∧ FB h η (m + 8) ∧ ∃ f, BR η (m + 8) f ∧ lsd P f ∧ lbs P f ∧ cls P f)) e 0 0 [(0, .ref m), (1, .int (nI i))] 54 [] := by
  intro t
  induction t with
  | zero =>
    intro i e fk hi F B2 s1 s2 s3 hfu
    exact absurd hfu (Nat.not_lt_zero _)
  | succ t ih =>
    intro i e fk hi F B2 s1 s2 s3 hfu
    have hN := W.2.2.2.2.1
    have hR := W.2.2.1
    have W0 := W
    have A0 := A
    have W := F.RF W (by omega)
    have A := F.PA A (by decide)
    refine V_iload_n (j := 1) (q := 55) dX8_findLive_54 rfl rfl ?_
    refine V_aload_n (j := 0) (q := 56) dX8_findLive_55 rfl rfl ?_
    refine V_getP (q := 59) (r := (m + 1)) fX8_7 (W.1.1 0 _ rfl) rfl (W.1.2 0 _ rfl) dX8_findLive_56 rfl ?_
    refine V_iconst (q := 60) (v := nI 5) dX8_findLive_59 rfl rfl ?_
    refine V_iald (q := 61) (W.1.1 1 _ rfl) (by omega) (by decide) dX8_findLive_60 rfl ?_
    refine V_rw (y := nI (pNi P)) W.2.1.2.2.1 ?_
    refine V_icmp_geN (tgt := 102) (q := 64) dX8_findLive_61 rfl rfl (by omega) (by omega) (fun c1 => ?_) (fun c1 => ?_)
    · skip
      refine V_iconst (q := 103) (v := nI 1) dX8_findLive_102 rfl rfl ?_
      refine V_rw (y := bi true) rfl ?_
      refine V_istore_n (q := 104) (L' := [(1, .int (bi true)), (0, .ref m)]) dX8_findLive_103 rfl rfl rfl ?_
      refine V_sub (L' := [(0, .ref m), (1, .int (bi true))]) [1, 0] rfl ?_
      refine lp_live4 W0 A0 (mL fk true + 1) true e fk F B2 s1 (fun x hx => ?_) (fun z => by cases z) (Nat.lt_succ_self _)
      rcases hx with ⟨r, p, h1, h2, rfl, h3⟩ | ⟨j, h1, h2, rfl⟩
      · exact s2 r p h1 h2 h3
      · exact s3 j (by omega) h2
    · skip
      have hk9 := ok_kd W.2.2 (i := i) (by omega)
      refine V_aload_n (j := 0) (q := 65) dX8_findLive_64 rfl rfl ?_
      refine V_iload_n (j := 1) (q := 66) dX8_findLive_65 rfl rfl ?_
      refine V_iconst (q := 67) (v := nI 0) dX8_findLive_66 rfl rfl ?_
      refine V_cpV (q := 70) (S := []) (v := .int (nI (pFd P i 0))) kX8_72 (c_of (i := i) W (by omega) (by omega)) (W.1.1 0 _ rfl) rfl rfl rfl dX8_findLive_67 rfl ?_
      refine V_iconst (q := 71) (v := nI 2) dX8_findLive_70 rfl rfl ?_
      refine V_icmp_neN (tgt := 96) (q := 74) dX8_findLive_71 rfl rfl (by omega) (by omega) (fun c2 => ?_) (fun c2 => ?_)
      · skip
        refine V_iincN (j := 1) (q := 99) (L' := [(1, .int (nI (i + 1))), (0, .ref m)]) dX8_findLive_96 rfl rfl rfl rfl ?_
        refine V_goto (q := 54) dX8_findLive_99 rfl ?_
        refine V_sub (L' := [(0, .ref m), (1, .int (nI (i + 1)))]) [1, 0] rfl ?_
        refine ih (i + 1) e fk ?_ ?_ ?_ ?_ ?_ ?_ ?_
        · omega
        · exact F
        · exact B2
        · exact s1
        · exact s2
        · intro j hj h2; exact s3 j (by rcases Nat.lt_or_eq_of_le (Nat.le_of_lt_succ hj) with z | z; (exact z); exact absurd (z ▸ h2) c2) h2
        · omega
      · skip
        have hac : isAc P i = true := by simp [isAc, c2]
        have hok := ok_ac W.2.2 (i := i) (by omega) hac
        have hpt := ptd_a (j := 0) (x := pFd P i 2) (by omega) hac (by omega) rfl
        have h64 := vpl_lt W.2.2 ⟨_, _, hok.1, pof_lt hpt (by omega), rfl⟩
        refine V_aload_n (j := 0) (q := 75) dX8_findLive_74 rfl rfl ?_
        refine V_getP (q := 78) (r := (m + 8)) fX8_32 (W.1.1 0 _ rfl) rfl (W.1.2 8 _ rfl) dX8_findLive_75 rfl ?_
        refine V_aload_n (j := 0) (q := 79) dX8_findLive_78 rfl rfl ?_
        refine V_aload_n (j := 0) (q := 80) dX8_findLive_79 rfl rfl ?_
        refine V_iload_n (j := 1) (q := 81) dX8_findLive_80 rfl rfl ?_
        refine V_iconst (q := 82) (v := nI 1) dX8_findLive_81 rfl rfl ?_
        refine V_cpV (q := 85) (S := [.ref m, .ref (m + 8)]) (v := .int (nI (pFd P i 1))) kX8_72 (c_of (i := i) W (by omega) (by omega)) (W.1.1 0 _ rfl) rfl rfl rfl dX8_findLive_82 rfl ?_
        refine V_aload_n (j := 0) (q := 86) dX8_findLive_85 rfl rfl ?_
        refine V_iload_n (j := 1) (q := 87) dX8_findLive_86 rfl rfl ?_
        refine V_iconst (q := 88) (v := nI 2) dX8_findLive_87 rfl rfl ?_
        refine V_cpV (q := 91) (S := [.int (nI (pFd P i 1)), .ref m, .ref (m + 8)]) (v := .int (nI (pFd P i 2))) kX8_72 (c_of (i := i) W (by omega) (by omega)) (W.1.1 0 _ rfl) rfl rfl rfl dX8_findLive_88 rfl ?_
        refine V_cpV (q := 94) (S := [.ref (m + 8)]) (v := .int (nI (16 * (pFd P i 1) + pof P (pFd P i 1) (pFd P i 2)))) kX8_110 (c_placeOf (r := pFd P i 1) (k := pFd P i 2) W A (by omega) (by omega) hpt) (W.1.1 0 _ rfl) rfl rfl rfl dX8_findLive_91 rfl ?_
        refine V_iconst (q := 95) (v := nI 1) dX8_findLive_94 rfl rfl ?_
        refine V_rw (y := bi true) rfl ?_
        refine V_zast (b := true) (q := 96) (W.1.1 8 _ rfl) (by omega) (by decide) dX8_findLive_95 rfl ?_
        have W : RF (sI e (m + 8) (16 * (pFd P i 1) + pof P (pFd P i 1) (pFd P i 2)) (bi true)) m P := RF_sI W (by omega)
        refine V_iincN (j := 1) (q := 99) (L' := [(1, .int (nI (i + 1))), (0, .ref m)]) dX8_findLive_96 rfl rfl rfl rfl ?_
        refine V_goto (q := 54) dX8_findLive_99 rfl ?_
        refine V_sub (L' := [(0, .ref m), (1, .int (nI (i + 1)))]) [1, 0] rfl ?_
        refine ih (i + 1) (sI e (m + 8) (16 * (pFd P i 1) + pof P (pFd P i 1) (pFd P i 2)) (bi true)) (fun x => if x = 16 * pFd P i 1 + pof P (pFd P i 1) (pFd P i 2) then true else fk x) ?_ ?_ ?_ ?_ ?_ ?_ ?_
        · omega
        · exact F.set
        · exact BR_set B2 (if_pos rfl) (fun y hy => if_neg hy)
        · intro x hx hf; by_cases z : x = 16 * pFd P i 1 + pof P (pFd P i 1) (pFd P i 2); (exact LV_bs (Or.inr ⟨i, by omega, c2, z⟩)); exact s1 x hx (by have hf : (if _ then _ else _) = _ := hf; rw [if_neg z] at hf; exact hf)
        · intro r p h1 h2 h3; show (if _ then _ else _) = _; split; (rfl); exact s2 r p h1 h2 h3
        · intro j hj h2; show (if _ then _ else _) = _; by_cases z : j = i; (rw [z, if_pos rfl]); (split; (rfl); exact s3 j (by omega) h2)
        · omega

set_option maxHeartbeats 4000000 in
set_option maxRecDepth 100000 in
theorem lp_live2 {g : GX} {h : AH} {m : Nat} {P : PG} (W : RF h m P) (A : PA h m P (pNr P)) {r : Nat} (hr : r < pNr P) (kk : ∀ (e : AH) (fk : Nat → Bool), FB h e (m + 8) → BR e (m + 8) fk → (∀ q, q < r + 1 → ∀ p, p < npt P q → fk (16 * q + p) = esc P q) → V g mX8_findLive (thM g 3 0 0 (fun ρ η => ρ = none ∧ FB h η (m + 8) ∧ ∃ f, BR η (m + 8) f ∧ lsd P f ∧ lbs P f ∧ cls P f)) e 0 0 [(0, .ref m), (1, .int (nI r))] 46 []) : ∀ (t : Nat) (p : Nat) (e : AH) (fk : Nat → Bool), (p ≤ npt P r) → (FB h e (m + 8)) → (BR e (m + 8) fk) → (∀ q, q < r → ∀ p, p < npt P q → fk (16 * q + p) = esc P q) → (∀ q, q < p → fk (16 * r + q) = esc P r) → npt P r - p < t → V g mX8_findLive (thM g 3 0 0 (fun ρ η => ρ = none ∧ FB h η (m + 8) ∧ ∃ f, BR η (m + 8) f ∧ lsd P f ∧ lbs P f ∧ cls P f)) e 0 0 [(0, .ref m), (1, .int (nI r)), (2, .int (nI p))] 14 [] := by
  intro t
  induction t with
  | zero =>
    intro p e fk hp F B2 d1 d2 hfu
    exact absurd hfu (Nat.not_lt_zero _)
  | succ t ih =>
    intro p e fk hp F B2 d1 d2 hfu
    have hS := W.2.2.2.1 r hr
    have hnp := npt_le P r
    have hN := W.2.2.2.2.1
    have hR := W.2.2.1
    have W0 := W
    have A0 := A
    have W := F.RF W (by omega)
    have A := F.PA A (by decide)
    refine V_iload_n (j := 2) (q := 15) dX8_findLive_14 rfl rfl ?_
    refine V_aload_n (j := 0) (q := 16) dX8_findLive_15 rfl rfl ?_
    refine V_getP (q := 19) (r := (m + 6)) fX8_25 (W.1.1 0 _ rfl) rfl (W.1.2 6 _ rfl) dX8_findLive_16 rfl ?_
    refine V_iload_n (j := 1) (q := 20) dX8_findLive_19 rfl rfl ?_
    refine V_iald (q := 21) (W.1.1 6 _ rfl) (by omega) (by decide) dX8_findLive_20 rfl ?_
    refine V_rw (y := nI (npt P r)) ((A r (by omega)).1) ?_
    refine V_icmp_geN (tgt := 46) (q := 24) dX8_findLive_21 rfl rfl (by omega) (by omega) (fun c1 => ?_) (fun c1 => ?_)
    · skip
      refine V_sub (L' := [(0, .ref m), (1, .int (nI r))]) [0, 1] rfl ?_
      refine kk e fk F B2 (fun q hq p hp => ?_)
      by_cases z : q = r
      · subst z; exact d2 p (by omega)
      · exact d1 q (by omega) p hp
    · skip
      refine V_aload_n (j := 0) (q := 25) dX8_findLive_24 rfl rfl ?_
      refine V_getP (q := 28) (r := (m + 8)) fX8_32 (W.1.1 0 _ rfl) rfl (W.1.2 8 _ rfl) dX8_findLive_25 rfl ?_
      refine V_bipush (q := 30) (v := nI 16) dX8_findLive_28 rfl (by decide) ?_
      refine V_iload_n (j := 1) (q := 31) dX8_findLive_30 rfl rfl ?_
      refine V_imulN (q := 32) dX8_findLive_31 rfl ?_
      refine V_iload_n (j := 2) (q := 33) dX8_findLive_32 rfl rfl ?_
      refine V_iaddN (q := 34) dX8_findLive_33 rfl ?_
      refine V_aload_n (j := 0) (q := 35) dX8_findLive_34 rfl rfl ?_
      refine V_iload_n (j := 1) (q := 36) dX8_findLive_35 rfl rfl ?_
      refine V_cpV (q := 39) (S := [.int (nI (16 * r + p)), .ref (m + 8)]) (v := .int (bi (esc P r))) kX8_90 (c_doesEscape (r := r) W (by omega)) (W.1.1 0 _ rfl) rfl rfl rfl dX8_findLive_36 rfl ?_
      refine V_zast (b := (esc P r)) (q := 40) (W.1.1 8 _ rfl) (by omega) (by decide) dX8_findLive_39 rfl ?_
      have W : RF (sI e (m + 8) (16 * r + p) (bi (esc P r))) m P := RF_sI W (by omega)
      refine V_iincN (j := 2) (q := 43) (L' := [(2, .int (nI (p + 1))), (0, .ref m), (1, .int (nI r))]) dX8_findLive_40 rfl rfl rfl rfl ?_
      refine V_goto (q := 14) dX8_findLive_43 rfl ?_
      refine V_sub (L' := [(0, .ref m), (1, .int (nI r)), (2, .int (nI (p + 1)))]) [1, 2, 0] rfl ?_
      refine ih (p + 1) (sI e (m + 8) (16 * r + p) (bi (esc P r))) (fun y => if y = 16 * r + p then esc P r else fk y) ?_ ?_ ?_ ?_ ?_ ?_
      · omega
      · exact F.set
      · exact BR_set B2 (if_pos rfl) (fun y hy => if_neg hy)
      · intro q hq s hs; have := W.2.2.2.1 q (by omega); have := npt_le P q; show (if _ then _ else _) = _; rw [if_neg (by omega)]; exact d1 q hq s hs
      · intro q hq; show (if _ then _ else _) = _; by_cases z : q = p; (rw [if_pos (by omega)]); (rw [if_neg (by omega)]; exact d2 q (by omega))
      · omega

set_option maxHeartbeats 4000000 in
set_option maxRecDepth 100000 in
theorem lp_live1 {g : GX} {h : AH} {m : Nat} {P : PG} (W : RF h m P) (A : PA h m P (pNr P)) : ∀ (t : Nat) (r : Nat) (e : AH) (fk : Nat → Bool), (r ≤ pNr P) → (FB h e (m + 8)) → (BR e (m + 8) fk) → (∀ q, q < r → ∀ p, p < npt P q → fk (16 * q + p) = esc P q) → pNr P - r < t → V g mX8_findLive (thM g 3 0 0 (fun ρ η => ρ = none ∧ FB h η (m + 8) ∧ ∃ f, BR η (m + 8) f ∧ lsd P f ∧ lbs P f ∧ cls P f)) e 0 0 [(0, .ref m), (1, .int (nI r))] 2 [] := by
  intro t
  induction t with
  | zero =>
    intro r e fk hr F B2 d1 hfu
    exact absurd hfu (Nat.not_lt_zero _)
  | succ t ih =>
    intro r e fk hr F B2 d1 hfu
    have hN := W.2.2.2.2.1
    have hR := W.2.2.1
    have W0 := W
    have A0 := A
    have W := F.RF W (by omega)
    have A := F.PA A (by decide)
    refine V_iload_n (j := 1) (q := 3) dX8_findLive_2 rfl rfl ?_
    refine V_aload_n (j := 0) (q := 4) dX8_findLive_3 rfl rfl ?_
    refine V_getP (q := 7) (r := (m + 1)) fX8_7 (W.1.1 0 _ rfl) rfl (W.1.2 0 _ rfl) dX8_findLive_4 rfl ?_
    refine V_iconst (q := 8) (v := nI 0) dX8_findLive_7 rfl rfl ?_
    refine V_iald (q := 9) (W.1.1 1 _ rfl) (by omega) (by decide) dX8_findLive_8 rfl ?_
    refine V_rw (y := nI (pNr P)) W.2.1.1 ?_
    refine V_icmp_geN (tgt := 52) (q := 12) dX8_findLive_9 rfl rfl (by omega) (by omega) (fun c1 => ?_) (fun c1 => ?_)
    · skip
      refine V_iconst (q := 53) (v := nI 0) dX8_findLive_52 rfl rfl ?_
      refine V_istore_n (q := 54) (L' := [(1, .int (nI 0)), (0, .ref m)]) dX8_findLive_53 rfl rfl rfl ?_
      refine V_sub (L' := [(0, .ref m), (1, .int (nI 0))]) [1, 0] rfl ?_
      refine lp_live3 W0 A0 (pNi P - 0 + 1) 0 e fk (Nat.zero_le _) F B2 (fun x hx hf => ?_) (fun q p h1 h2 h3 => by rw [d1 q (by omega) p h2]; exact h3) (fun j hj => absurd hj (Nat.not_lt_zero _)) (Nat.lt_succ_self _)
      obtain ⟨q, p, h1, h2, rfl⟩ := hx
      exact LV_bs (Or.inl ⟨q, p, h1, h2, rfl, by rw [← d1 q (by omega) p h2]; exact hf⟩)
    · skip
      refine V_iconst (q := 13) (v := nI 0) dX8_findLive_12 rfl rfl ?_
      refine V_istore_n (q := 14) (L' := [(2, .int (nI 0)), (0, .ref m), (1, .int (nI r))]) dX8_findLive_13 rfl rfl rfl ?_
      refine V_sub (L' := [(0, .ref m), (1, .int (nI r)), (2, .int (nI 0))]) [1, 2, 0] rfl ?_
      refine lp_live2 W0 A0 (by omega) (fun e2 f2 F2 B3 d3 => ?_) (npt P r - 0 + 1) 0 e fk (Nat.zero_le _) F B2 d1 (fun q hq => absurd hq (Nat.not_lt_zero _)) (Nat.lt_succ_self _)
      refine V_iincN (j := 1) (q := 49) (L' := [(1, .int (nI (r + 1))), (0, .ref m)]) dX8_findLive_46 rfl rfl rfl rfl ?_
      refine V_goto (q := 2) dX8_findLive_49 rfl ?_
      refine V_sub (L' := [(0, .ref m), (1, .int (nI (r + 1)))]) [1, 0] rfl ?_
      refine ih (r + 1) e2 f2 ?_ ?_ ?_ ?_ ?_
      · omega
      · exact F2
      · exact B3
      · exact d3
      · omega

set_option maxHeartbeats 4000000 in
set_option maxRecDepth 100000 in
theorem c_findLive {g : GX} {h : AH} {m : Nat} {P : PG} (W : RF h m P) (A : PA h m P (pNr P)) {f : Nat → Bool} (B : BR h (m + 8) f) : Ct g mX8_findLive 3 0 0 [.ref m] h (fun ρ η => ρ = none ∧ FB h η (m + 8) ∧ ∃ f, BR η (m + 8) f ∧ lsd P f ∧ lbs P f ∧ cls P f) := by
  refine Ct_intro (by decide +kernel) (Nat.le_of_ble_eq_true rfl) ?_
  show V g mX8_findLive _ h 0 0 [(0, .ref m)] 0 []
  refine V_iconst (q := 1) (v := nI 0) dX8_findLive_0 rfl rfl ?_
  refine V_istore_n (q := 2) (L' := [(1, .int (nI 0)), (0, .ref m)]) dX8_findLive_1 rfl rfl rfl ?_
  refine V_sub (L' := [(0, .ref m), (1, .int (nI 0))]) [1, 0] rfl ?_
  exact lp_live1 W A (pNr P - 0 + 1) 0 h f (Nat.zero_le _) (FB.rf _) B (fun q hq => absurd hq (Nat.not_lt_zero _)) (Nat.lt_succ_self _)
end
section
theorem zz_last : True := trivial
end
