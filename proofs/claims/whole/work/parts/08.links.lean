theorem gt_all {ws : List Cond} (ps : List Nat) (h : ws = ps.filterMap (fun i => lw_tbl[i]?)) (hg : ws.all goodWord = true) : ∀ w ∈ ws, w ∈ gt := by
  intro w hw
  have h1 := List.all_eq_true.mp hg w hw
  rw [h] at hw
  obtain ⟨i, -, hi⟩ := List.mem_filterMap.mp hw
  exact gt_mem hi h1
theorem iX0 : ∀ w ∈ u_ws RX0 TX0 4, w ∈ gt := gt_all [271, 273, 275, 277] (by decide +kernel) (by decide +kernel)
theorem iX1 : ∀ w ∈ u_ws RX1 TX1 5, w ∈ gt := gt_all [175, 177, 179, 181, 183] (by decide +kernel) (by decide +kernel)
theorem iX2 : ∀ w ∈ u_ws RX2 TX2 10, w ∈ gt := gt_all [119, 121, 123, 125, 127, 129, 131, 133, 135, 137] (by decide +kernel) (by decide +kernel)
theorem iX3 : ∀ w ∈ u_ws RX3 TX3 9, w ∈ gt := gt_all [242, 244, 246, 248, 250, 252, 254, 256, 258] (by decide +kernel) (by decide +kernel)
theorem iX4 : ∀ w ∈ u_ws RX4 TX4 4, w ∈ gt := gt_all [221, 223, 225, 227] (by decide +kernel) (by decide +kernel)
theorem iX5 : ∀ w ∈ u_ws RX5 TX5 5, w ∈ gt := gt_all [151, 153, 155, 157, 159] (by decide +kernel) (by decide +kernel)
theorem iX6 : ∀ w ∈ u_ws RX6 TX6 11, w ∈ gt := gt_all [302, 304, 306, 308, 310, 312, 314, 316, 318, 320, 322] (by decide +kernel) (by decide +kernel)
theorem iX7 : ∀ w ∈ u_ws RX7 TX7 4, w ∈ gt := gt_all [329, 331, 333, 335] (by decide +kernel) (by decide +kernel)
theorem iX8 : ∀ w ∈ u_ws RX8 TX8 16, w ∈ gt := gt_all [763, 765, 767, 769, 771, 773, 775, 777, 779, 781, 783, 785, 787, 789, 791, 793] (by decide +kernel) (by decide +kernel)
abbrev mX0_init : MT := (yX0_init, cX0_init, 2, none)
theorem oX0_init : MO mX0_init 0 := ⟨gt_mem (i := 190) (by decide +kernel) rfl, gt_mem (i := 65) (by decide +kernel) rfl, by decide +kernel, by decide +kernel, rfl⟩
abbrev mX0_layoutOf : MT := (yX0_layoutOf, cX0_layoutOf, 2, (some (.object "AggregateSplitter$Layout")))
theorem oX0_layoutOf : MO mX0_layoutOf 1 := ⟨gt_mem (i := 501) (by decide +kernel) rfl, gt_mem (i := 65) (by decide +kernel) rfl, by decide +kernel, by decide +kernel, rfl⟩
abbrev mX0_refresh : MT := (yX0_refresh, cX0_refresh, 3, none)
theorem oX0_refresh : MO mX0_refresh 1 := ⟨gt_mem (i := 486) (by decide +kernel) rfl, gt_mem (i := 65) (by decide +kernel) rfl, by decide +kernel, by decide +kernel, rfl⟩
abbrev mX0_collectRanges : MT := (yX0_collectRanges, cX0_collectRanges, 4, none)
theorem oX0_collectRanges : MO mX0_collectRanges 2 := ⟨gt_mem (i := 497) (by decide +kernel) rfl, gt_mem (i := 65) (by decide +kernel) rfl, by decide +kernel, by decide +kernel, rfl⟩
abbrev mX0_cutIntoPieces : MT := (yX0_cutIntoPieces, cX0_cutIntoPieces, 5, none)
theorem oX0_cutIntoPieces : MO mX0_cutIntoPieces 2 := ⟨gt_mem (i := 546) (by decide +kernel) rfl, gt_mem (i := 65) (by decide +kernel) rfl, by decide +kernel, by decide +kernel, rfl⟩
abbrev mX0_beginsPiece : MT := (yX0_beginsPiece, cX0_beginsPiece, 3, (some .boolean))
theorem oX0_beginsPiece : MO mX0_beginsPiece 2 := ⟨gt_mem (i := 550) (by decide +kernel) rfl, gt_mem (i := 65) (by decide +kernel) rfl, by decide +kernel, by decide +kernel, rfl⟩
abbrev mX0_touchPartitions : MT := (yX0_touchPartitions, cX0_touchPartitions, 5, none)
theorem oX0_touchPartitions : MO mX0_touchPartitions 2 := ⟨gt_mem (i := 562) (by decide +kernel) rfl, gt_mem (i := 65) (by decide +kernel) rfl, by decide +kernel, by decide +kernel, rfl⟩
abbrev mX0_markLive : MT := (yX0_markLive, cX0_markLive, 5, none)
theorem oX0_markLive : MO mX0_markLive 1 := ⟨gt_mem (i := 579) (by decide +kernel) rfl, gt_mem (i := 65) (by decide +kernel) rfl, by decide +kernel, by decide +kernel, rfl⟩
abbrev mX0_passLifeToOrigins : MT := (yX0_passLifeToOrigins, cX0_passLifeToOrigins, 5, (some .boolean))
theorem oX0_passLifeToOrigins : MO mX0_passLifeToOrigins 2 := ⟨gt_mem (i := 583) (by decide +kernel) rfl, gt_mem (i := 65) (by decide +kernel) rfl, by decide +kernel, by decide +kernel, rfl⟩
abbrev mX0_target : MT := (yX0_target, cX0_target, 3, (some (.object "AggregateSplitter$Partition")))
theorem oX0_target : MO mX0_target 2 := ⟨gt_mem (i := 566) (by decide +kernel) rfl, gt_mem (i := 65) (by decide +kernel) rfl, by decide +kernel, by decide +kernel, rfl⟩
abbrev mX0_origin : MT := (yX0_origin, cX0_origin, 3, (some (.object "AggregateSplitter$Partition")))
theorem oX0_origin : MO mX0_origin 2 := ⟨gt_mem (i := 575) (by decide +kernel) rfl, gt_mem (i := 65) (by decide +kernel) rfl, by decide +kernel, by decide +kernel, rfl⟩
abbrev mX0_countPieces : MT := (yX0_countPieces, cX0_countPieces, 4, (some .int))
theorem oX0_countPieces : MO mX0_countPieces 1 := ⟨gt_mem (i := 628) (by decide +kernel) rfl, gt_mem (i := 65) (by decide +kernel) rfl, by decide +kernel, by decide +kernel, rfl⟩
abbrev mX0_lengthOfPiece : MT := (yX0_lengthOfPiece, cX0_lengthOfPiece, 6, (some .int))
theorem oX0_lengthOfPiece : MO mX0_lengthOfPiece 2 := ⟨gt_mem (i := 637) (by decide +kernel) rfl, gt_mem (i := 65) (by decide +kernel) rfl, by decide +kernel, by decide +kernel, rfl⟩
abbrev mX1_init : MT := (yX1_init, cX1_init, 1, none)
theorem oX1_init : MO mX1_init 0 := ⟨gt_mem (i := 166) (by decide +kernel) rfl, gt_mem (i := 64) (by decide +kernel) rfl, by decide +kernel, by decide +kernel, rfl⟩
abbrev mX1_note : MT := (yX1_note, cX1_note, 4, none)
theorem oX1_note : MO mX1_note 3 := ⟨gt_mem (i := 349) (by decide +kernel) rfl, gt_mem (i := 64) (by decide +kernel) rfl, by decide +kernel, by decide +kernel, rfl⟩
abbrev mX1_takeBack : MT := (yX1_takeBack, cX1_takeBack, 2, none)
theorem oX1_takeBack : MO mX1_takeBack 1 := ⟨gt_mem (i := 460) (by decide +kernel) rfl, gt_mem (i := 64) (by decide +kernel) rfl, by decide +kernel, by decide +kernel, rfl⟩
abbrev mX2_init : MT := (yX2_init, cX2_init, 2, none)
theorem oX2_init : MO mX2_init 1 := ⟨gt_mem (i := 90) (by decide +kernel) rfl, gt_mem (i := 63) (by decide +kernel) rfl, by decide +kernel, by decide +kernel, rfl⟩
abbrev mX2_ofAccess : MT := (yX2_ofAccess, cX2_ofAccess, 6, (some (.object "AggregateSplitter$Instruction")))
theorem oX2_ofAccess : MO mX2_ofAccess 5 := ⟨gt_mem (i := 381) (by decide +kernel) rfl, gt_mem (i := 63) (by decide +kernel) rfl, by decide +kernel, by decide +kernel, rfl⟩
abbrev mX2_ofCopy : MT := (yX2_ofCopy, cX2_ofCopy, 6, (some (.object "AggregateSplitter$Instruction")))
theorem oX2_ofCopy : MO mX2_ofCopy 5 := ⟨gt_mem (i := 405) (by decide +kernel) rfl, gt_mem (i := 63) (by decide +kernel) rfl, by decide +kernel, by decide +kernel, rfl⟩
abbrev mX2_ofEscape : MT := (yX2_ofEscape, cX2_ofEscape, 2, (some (.object "AggregateSplitter$Instruction")))
theorem oX2_ofEscape : MO mX2_ofEscape 1 := ⟨gt_mem (i := 413) (by decide +kernel) rfl, gt_mem (i := 63) (by decide +kernel) rfl, by decide +kernel, by decide +kernel, rfl⟩
abbrev mX2_ofAdd : MT := (yX2_ofAdd, cX2_ofAdd, 4, (some (.object "AggregateSplitter$Instruction")))
theorem oX2_ofAdd : MO mX2_ofAdd 3 := ⟨gt_mem (i := 427) (by decide +kernel) rfl, gt_mem (i := 63) (by decide +kernel) rfl, by decide +kernel, by decide +kernel, rfl⟩
abbrev mX2_ofNumber : MT := (yX2_ofNumber, cX2_ofNumber, 4, (some (.object "AggregateSplitter$Instruction")))
theorem oX2_ofNumber : MO mX2_ofNumber 3 := ⟨gt_mem (i := 420) (by decide +kernel) rfl, gt_mem (i := 63) (by decide +kernel) rfl, by decide +kernel, by decide +kernel, rfl⟩
abbrev mX2_isLoadOrStore : MT := (yX2_isLoadOrStore, cX2_isLoadOrStore, 1, (some .boolean))
theorem oX2_isLoadOrStore : MO mX2_isLoadOrStore 0 := ⟨gt_mem (i := 505) (by decide +kernel) rfl, gt_mem (i := 63) (by decide +kernel) rfl, by decide +kernel, by decide +kernel, rfl⟩
abbrev mX3_init : MT := (yX3_init, cX3_init, 2, none)
theorem oX3_init : MO mX3_init 0 := ⟨gt_mem (i := 197) (by decide +kernel) rfl, gt_mem (i := 66) (by decide +kernel) rfl, by decide +kernel, by decide +kernel, rfl⟩
abbrev mX3_clear : MT := (yX3_clear, cX3_clear, 3, none)
theorem oX3_clear : MO mX3_clear 1 := ⟨gt_mem (i := 491) (by decide +kernel) rfl, gt_mem (i := 66) (by decide +kernel) rfl, by decide +kernel, by decide +kernel, rfl⟩
abbrev mX3_addAccess : MT := (yX3_addAccess, cX3_addAccess, 4, none)
theorem oX3_addAccess : MO mX3_addAccess 2 := ⟨gt_mem (i := 509) (by decide +kernel) rfl, gt_mem (i := 66) (by decide +kernel) rfl, by decide +kernel, by decide +kernel, rfl⟩
abbrev mX3_addCopyRange : MT := (yX3_addCopyRange, cX3_addCopyRange, 6, none)
theorem oX3_addCopyRange : MO mX3_addCopyRange 3 := ⟨gt_mem (i := 517) (by decide +kernel) rfl, gt_mem (i := 66) (by decide +kernel) rfl, by decide +kernel, by decide +kernel, rfl⟩
abbrev mX3_formPartitions : MT := (yX3_formPartitions, cX3_formPartitions, 2, none)
theorem oX3_formPartitions : MO mX3_formPartitions 0 := ⟨gt_mem (i := 521) (by decide +kernel) rfl, gt_mem (i := 66) (by decide +kernel) rfl, by decide +kernel, by decide +kernel, rfl⟩
abbrev mX3_isByte : MT := (yX3_isByte, cX3_isByte, 2, (some .boolean))
theorem oX3_isByte : MO mX3_isByte 1 := ⟨gt_mem (i := 513) (by decide +kernel) rfl, gt_mem (i := 66) (by decide +kernel) rfl, by decide +kernel, by decide +kernel, rfl⟩
abbrev mX3_isPadding : MT := (yX3_isPadding, cX3_isPadding, 2, (some .boolean))
theorem oX3_isPadding : MO mX3_isPadding 1 := ⟨gt_mem (i := 525) (by decide +kernel) rfl, gt_mem (i := 66) (by decide +kernel) rfl, by decide +kernel, by decide +kernel, rfl⟩
abbrev mX3_beginsPartition : MT := (yX3_beginsPartition, cX3_beginsPartition, 2, (some .boolean))
theorem oX3_beginsPartition : MO mX3_beginsPartition 1 := ⟨gt_mem (i := 529) (by decide +kernel) rfl, gt_mem (i := 66) (by decide +kernel) rfl, by decide +kernel, by decide +kernel, rfl⟩
abbrev mX3_numbered : MT := (yX3_numbered, cX3_numbered, 2, (some (.object "AggregateSplitter$Partition")))
theorem oX3_numbered : MO mX3_numbered 1 := ⟨gt_mem (i := 537) (by decide +kernel) rfl, gt_mem (i := 66) (by decide +kernel) rfl, by decide +kernel, by decide +kernel, rfl⟩
abbrev mX3_holding : MT := (yX3_holding, cX3_holding, 2, (some (.object "AggregateSplitter$Partition")))
theorem oX3_holding : MO mX3_holding 1 := ⟨gt_mem (i := 558) (by decide +kernel) rfl, gt_mem (i := 66) (by decide +kernel) rfl, by decide +kernel, by decide +kernel, rfl⟩
abbrev mX3_isStart : MT := (yX3_isStart, cX3_isStart, 3, (some .boolean))
theorem oX3_isStart : MO mX3_isStart 1 := ⟨gt_mem (i := 554) (by decide +kernel) rfl, gt_mem (i := 66) (by decide +kernel) rfl, by decide +kernel, by decide +kernel, rfl⟩
abbrev mX3_countPadding : MT := (yX3_countPadding, cX3_countPadding, 3, (some .int))
theorem oX3_countPadding : MO mX3_countPadding 0 := ⟨gt_mem (i := 620) (by decide +kernel) rfl, gt_mem (i := 66) (by decide +kernel) rfl, by decide +kernel, by decide +kernel, rfl⟩
abbrev mX3_countScalars : MT := (yX3_countScalars, cX3_countScalars, 3, (some .int))
theorem oX3_countScalars : MO mX3_countScalars 0 := ⟨gt_mem (i := 645) (by decide +kernel) rfl, gt_mem (i := 66) (by decide +kernel) rfl, by decide +kernel, by decide +kernel, rfl⟩
abbrev mX3_countLiveBytes : MT := (yX3_countLiveBytes, cX3_countLiveBytes, 3, (some .int))
theorem oX3_countLiveBytes : MO mX3_countLiveBytes 0 := ⟨gt_mem (i := 654) (by decide +kernel) rfl, gt_mem (i := 66) (by decide +kernel) rfl, by decide +kernel, by decide +kernel, rfl⟩
abbrev mX4_init : MT := (yX4_init, cX4_init, 1, none)
theorem oX4_init : MO mX4_init 0 := ⟨gt_mem (i := 204) (by decide +kernel) rfl, gt_mem (i := 67) (by decide +kernel) rfl, by decide +kernel, by decide +kernel, rfl⟩
abbrev mX4_beginAt : MT := (yX4_beginAt, cX4_beginAt, 3, none)
theorem oX4_beginAt : MO mX4_beginAt 2 := ⟨gt_mem (i := 533) (by decide +kernel) rfl, gt_mem (i := 67) (by decide +kernel) rfl, by decide +kernel, by decide +kernel, rfl⟩
abbrev mX4_grow : MT := (yX4_grow, cX4_grow, 2, none)
theorem oX4_grow : MO mX4_grow 1 := ⟨gt_mem (i := 541) (by decide +kernel) rfl, gt_mem (i := 67) (by decide +kernel) rfl, by decide +kernel, by decide +kernel, rfl⟩
abbrev mX4_touchWith : MT := (yX4_touchWith, cX4_touchWith, 2, none)
theorem oX4_touchWith : MO mX4_touchWith 1 := ⟨gt_mem (i := 571) (by decide +kernel) rfl, gt_mem (i := 67) (by decide +kernel) rfl, by decide +kernel, by decide +kernel, rfl⟩
abbrev mX5_init : MT := (yX5_init, cX5_init, 2, none)
theorem oX5_init : MO mX5_init 0 := ⟨gt_mem (i := 83) (by decide +kernel) rfl, gt_mem (i := 62) (by decide +kernel) rfl, by decide +kernel, by decide +kernel, rfl⟩
abbrev mX5_hasRecord : MT := (yX5_hasRecord, cX5_hasRecord, 2, (some .boolean))
theorem oX5_hasRecord : MO mX5_hasRecord 1 := ⟨gt_mem (i := 375) (by decide +kernel) rfl, gt_mem (i := 62) (by decide +kernel) rfl, by decide +kernel, by decide +kernel, rfl⟩
abbrev mX5_hasInstruction : MT := (yX5_hasInstruction, cX5_hasInstruction, 2, (some .boolean))
theorem oX5_hasInstruction : MO mX5_hasInstruction 1 := ⟨gt_mem (i := 443) (by decide +kernel) rfl, gt_mem (i := 62) (by decide +kernel) rfl, by decide +kernel, by decide +kernel, rfl⟩
abbrev mX5_sizeOf : MT := (yX5_sizeOf, cX5_sizeOf, 2, (some .int))
theorem oX5_sizeOf : MO mX5_sizeOf 1 := ⟨gt_mem (i := 371) (by decide +kernel) rfl, gt_mem (i := 62) (by decide +kernel) rfl, by decide +kernel, by decide +kernel, rfl⟩
abbrev mX5_holdsRange : MT := (yX5_holdsRange, cX5_holdsRange, 5, (some .boolean))
theorem oX5_holdsRange : MO mX5_holdsRange 3 := ⟨gt_mem (i := 367) (by decide +kernel) rfl, gt_mem (i := 62) (by decide +kernel) rfl, by decide +kernel, by decide +kernel, rfl⟩
abbrev mX5_at : MT := (yX5_at, cX5_at, 2, (some (.object "AggregateSplitter$Instruction")))
theorem oX5_at : MO mX5_at 1 := ⟨gt_mem (i := 447) (by decide +kernel) rfl, gt_mem (i := 62) (by decide +kernel) rfl, by decide +kernel, by decide +kernel, rfl⟩
abbrev mX5_addRecord : MT := (yX5_addRecord, cX5_addRecord, 2, none)
theorem oX5_addRecord : MO mX5_addRecord 1 := ⟨gt_mem (i := 345) (by decide +kernel) rfl, gt_mem (i := 62) (by decide +kernel) rfl, by decide +kernel, by decide +kernel, rfl⟩
abbrev mX5_dropRecord : MT := (yX5_dropRecord, cX5_dropRecord, 1, none)
theorem oX5_dropRecord : MO mX5_dropRecord 0 := ⟨gt_mem (i := 464) (by decide +kernel) rfl, gt_mem (i := 62) (by decide +kernel) rfl, by decide +kernel, by decide +kernel, rfl⟩
abbrev mX5_insert : MT := (yX5_insert, cX5_insert, 4, none)
theorem oX5_insert : MO mX5_insert 2 := ⟨gt_mem (i := 391) (by decide +kernel) rfl, gt_mem (i := 62) (by decide +kernel) rfl, by decide +kernel, by decide +kernel, rfl⟩
abbrev mX5_delete : MT := (yX5_delete, cX5_delete, 3, none)
theorem oX5_delete : MO mX5_delete 1 := ⟨gt_mem (i := 452) (by decide +kernel) rfl, gt_mem (i := 62) (by decide +kernel) rfl, by decide +kernel, by decide +kernel, rfl⟩
abbrev mX6_init : MT := (yX6_init, cX6_init, 3, none)
theorem oX6_init : MO mX6_init 2 := ⟨gt_mem (i := 284) (by decide +kernel) rfl, gt_mem (i := 68) (by decide +kernel) rfl, by decide +kernel, by decide +kernel, rfl⟩
abbrev mX6_execute : MT := (yX6_execute, cX6_execute, 3, none)
theorem oX6_execute : MO mX6_execute 1 := ⟨gt_mem (i := 666) (by decide +kernel) rfl, gt_mem (i := 68) (by decide +kernel) rfl, by decide +kernel, by decide +kernel, rfl⟩
abbrev mX6_outputOf : MT := (yX6_outputOf, cX6_outputOf, 2, (some .int))
theorem oX6_outputOf : MO mX6_outputOf 1 := ⟨gt_mem (i := 732) (by decide +kernel) rfl, gt_mem (i := 68) (by decide +kernel) rfl, by decide +kernel, by decide +kernel, rfl⟩
abbrev mX6_clear : MT := (yX6_clear, cX6_clear, 4, none)
theorem oX6_clear : MO mX6_clear 1 := ⟨gt_mem (i := 670) (by decide +kernel) rfl, gt_mem (i := 68) (by decide +kernel) rfl, by decide +kernel, by decide +kernel, rfl⟩
abbrev mX6_perform : MT := (yX6_perform, cX6_perform, 3, none)
theorem oX6_perform : MO mX6_perform 2 := ⟨gt_mem (i := 675) (by decide +kernel) rfl, gt_mem (i := 68) (by decide +kernel) rfl, by decide +kernel, by decide +kernel, rfl⟩
abbrev mX6_store : MT := (yX6_store, cX6_store, 5, none)
theorem oX6_store : MO mX6_store 1 := ⟨gt_mem (i := 679) (by decide +kernel) rfl, gt_mem (i := 68) (by decide +kernel) rfl, by decide +kernel, by decide +kernel, rfl⟩
abbrev mX6_load : MT := (yX6_load, cX6_load, 4, none)
theorem oX6_load : MO mX6_load 1 := ⟨gt_mem (i := 688) (by decide +kernel) rfl, gt_mem (i := 68) (by decide +kernel) rfl, by decide +kernel, by decide +kernel, rfl⟩
abbrev mX6_priceOfAccess : MT := (yX6_priceOfAccess, cX6_priceOfAccess, 2, (some .int))
theorem oX6_priceOfAccess : MO mX6_priceOfAccess 1 := ⟨gt_mem (i := 684) (by decide +kernel) rfl, gt_mem (i := 68) (by decide +kernel) rfl, by decide +kernel, by decide +kernel, rfl⟩
abbrev mX6_copyWhole : MT := (yX6_copyWhole, cX6_copyWhole, 2, none)
theorem oX6_copyWhole : MO mX6_copyWhole 1 := ⟨gt_mem (i := 704) (by decide +kernel) rfl, gt_mem (i := 68) (by decide +kernel) rfl, by decide +kernel, by decide +kernel, rfl⟩
abbrev mX6_copyLivePieces : MT := (yX6_copyLivePieces, cX6_copyLivePieces, 5, none)
theorem oX6_copyLivePieces : MO mX6_copyLivePieces 2 := ⟨gt_mem (i := 692) (by decide +kernel) rfl, gt_mem (i := 68) (by decide +kernel) rfl, by decide +kernel, by decide +kernel, rfl⟩
abbrev mX6_priceOfPiece : MT := (yX6_priceOfPiece, cX6_priceOfPiece, 3, (some .int))
theorem oX6_priceOfPiece : MO mX6_priceOfPiece 3 := ⟨gt_mem (i := 700) (by decide +kernel) rfl, gt_mem (i := 68) (by decide +kernel) rfl, by decide +kernel, by decide +kernel, rfl⟩
abbrev mX6_moveBytes : MT := (yX6_moveBytes, cX6_moveBytes, 5, none)
theorem oX6_moveBytes : MO mX6_moveBytes 3 := ⟨gt_mem (i := 696) (by decide +kernel) rfl, gt_mem (i := 68) (by decide +kernel) rfl, by decide +kernel, by decide +kernel, rfl⟩
abbrev mX6_escape : MT := (yX6_escape, cX6_escape, 4, none)
theorem oX6_escape : MO mX6_escape 1 := ⟨gt_mem (i := 708) (by decide +kernel) rfl, gt_mem (i := 68) (by decide +kernel) rfl, by decide +kernel, by decide +kernel, rfl⟩
abbrev mX6_add : MT := (yX6_add, cX6_add, 5, none)
theorem oX6_add : MO mX6_add 2 := ⟨gt_mem (i := 713) (by decide +kernel) rfl, gt_mem (i := 68) (by decide +kernel) rfl, by decide +kernel, by decide +kernel, rfl⟩
abbrev mX6_output : MT := (yX6_output, cX6_output, 2, none)
theorem oX6_output : MO mX6_output 1 := ⟨gt_mem (i := 717) (by decide +kernel) rfl, gt_mem (i := 68) (by decide +kernel) rfl, by decide +kernel, by decide +kernel, rfl⟩
abbrev mX7_init : MT := (yX7_init, cX7_init, 1, none)
theorem oX7_init : MO mX7_init 0 := ⟨gt_mem (i := 75) (by decide +kernel) rfl, gt_mem (i := 61) (by decide +kernel) rfl, by decide +kernel, by decide +kernel, rfl⟩
abbrev mX7_declareRecord : MT := (yX7_declareRecord, cX7_declareRecord, 3, (some .int))
theorem oX7_declareRecord : MO mX7_declareRecord 1 := ⟨gt_mem (i := 341) (by decide +kernel) rfl, gt_mem (i := 61) (by decide +kernel) rfl, by decide +kernel, by decide +kernel, rfl⟩
abbrev mX7_appendStore : MT := (yX7_appendStore, cX7_appendStore, 5, (some .int))
theorem oX7_appendStore : MO mX7_appendStore 4 := ⟨gt_mem (i := 356) (by decide +kernel) rfl, gt_mem (i := 61) (by decide +kernel) rfl, by decide +kernel, by decide +kernel, rfl⟩
abbrev mX7_appendLoad : MT := (yX7_appendLoad, cX7_appendLoad, 5, (some .int))
theorem oX7_appendLoad : MO mX7_appendLoad 4 := ⟨gt_mem (i := 395) (by decide +kernel) rfl, gt_mem (i := 61) (by decide +kernel) rfl, by decide +kernel, by decide +kernel, rfl⟩
abbrev mX7_appendCopy : MT := (yX7_appendCopy, cX7_appendCopy, 6, (some .int))
theorem oX7_appendCopy : MO mX7_appendCopy 5 := ⟨gt_mem (i := 399) (by decide +kernel) rfl, gt_mem (i := 61) (by decide +kernel) rfl, by decide +kernel, by decide +kernel, rfl⟩
abbrev mX7_appendEscape : MT := (yX7_appendEscape, cX7_appendEscape, 2, (some .int))
theorem oX7_appendEscape : MO mX7_appendEscape 1 := ⟨gt_mem (i := 409) (by decide +kernel) rfl, gt_mem (i := 61) (by decide +kernel) rfl, by decide +kernel, by decide +kernel, rfl⟩
abbrev mX7_appendConstant : MT := (yX7_appendConstant, cX7_appendConstant, 3, (some .int))
theorem oX7_appendConstant : MO mX7_appendConstant 2 := ⟨gt_mem (i := 417) (by decide +kernel) rfl, gt_mem (i := 61) (by decide +kernel) rfl, by decide +kernel, by decide +kernel, rfl⟩
abbrev mX7_appendAdd : MT := (yX7_appendAdd, cX7_appendAdd, 4, (some .int))
theorem oX7_appendAdd : MO mX7_appendAdd 3 := ⟨gt_mem (i := 424) (by decide +kernel) rfl, gt_mem (i := 61) (by decide +kernel) rfl, by decide +kernel, by decide +kernel, rfl⟩
abbrev mX7_appendSkip : MT := (yX7_appendSkip, cX7_appendSkip, 3, (some .int))
theorem oX7_appendSkip : MO mX7_appendSkip 2 := ⟨gt_mem (i := 431) (by decide +kernel) rfl, gt_mem (i := 61) (by decide +kernel) rfl, by decide +kernel, by decide +kernel, rfl⟩
abbrev mX7_appendOutput : MT := (yX7_appendOutput, cX7_appendOutput, 2, (some .int))
theorem oX7_appendOutput : MO mX7_appendOutput 1 := ⟨gt_mem (i := 435) (by decide +kernel) rfl, gt_mem (i := 61) (by decide +kernel) rfl, by decide +kernel, by decide +kernel, rfl⟩
abbrev mX7_removeInstruction : MT := (yX7_removeInstruction, cX7_removeInstruction, 2, (some .int))
theorem oX7_removeInstruction : MO mX7_removeInstruction 1 := ⟨gt_mem (i := 439) (by decide +kernel) rfl, gt_mem (i := 61) (by decide +kernel) rfl, by decide +kernel, by decide +kernel, rfl⟩
abbrev mX7_undo : MT := (yX7_undo, cX7_undo, 1, (some .int))
theorem oX7_undo : MO mX7_undo 0 := ⟨gt_mem (i := 456) (by decide +kernel) rfl, gt_mem (i := 61) (by decide +kernel) rfl, by decide +kernel, by decide +kernel, rfl⟩
abbrev mX7_recordCount : MT := (yX7_recordCount, cX7_recordCount, 1, (some .int))
theorem oX7_recordCount : MO mX7_recordCount 0 := ⟨gt_mem (i := 470) (by decide +kernel) rfl, gt_mem (i := 61) (by decide +kernel) rfl, by decide +kernel, by decide +kernel, rfl⟩
abbrev mX7_instructionCount : MT := (yX7_instructionCount, cX7_instructionCount, 1, (some .int))
theorem oX7_instructionCount : MO mX7_instructionCount 0 := ⟨gt_mem (i := 474) (by decide +kernel) rfl, gt_mem (i := 61) (by decide +kernel) rfl, by decide +kernel, by decide +kernel, rfl⟩
abbrev mX7_escapes : MT := (yX7_escapes, cX7_escapes, 2, (some .int))
theorem oX7_escapes : MO mX7_escapes 1 := ⟨gt_mem (i := 478) (by decide +kernel) rfl, gt_mem (i := 61) (by decide +kernel) rfl, by decide +kernel, by decide +kernel, rfl⟩
abbrev mX7_partitionCount : MT := (yX7_partitionCount, cX7_partitionCount, 2, (some .int))
theorem oX7_partitionCount : MO mX7_partitionCount 1 := ⟨gt_mem (i := 591) (by decide +kernel) rfl, gt_mem (i := 61) (by decide +kernel) rfl, by decide +kernel, by decide +kernel, rfl⟩
abbrev mX7_partitionStart : MT := (yX7_partitionStart, cX7_partitionStart, 4, (some .int))
theorem oX7_partitionStart : MO mX7_partitionStart 2 := ⟨gt_mem (i := 595) (by decide +kernel) rfl, gt_mem (i := 61) (by decide +kernel) rfl, by decide +kernel, by decide +kernel, rfl⟩
abbrev mX7_partitionLength : MT := (yX7_partitionLength, cX7_partitionLength, 4, (some .int))
theorem oX7_partitionLength : MO mX7_partitionLength 2 := ⟨gt_mem (i := 604) (by decide +kernel) rfl, gt_mem (i := 61) (by decide +kernel) rfl, by decide +kernel, by decide +kernel, rfl⟩
abbrev mX7_isPromotable : MT := (yX7_isPromotable, cX7_isPromotable, 4, (some .int))
theorem oX7_isPromotable : MO mX7_isPromotable 2 := ⟨gt_mem (i := 608) (by decide +kernel) rfl, gt_mem (i := 61) (by decide +kernel) rfl, by decide +kernel, by decide +kernel, rfl⟩
abbrev mX7_isLive : MT := (yX7_isLive, cX7_isLive, 4, (some .int))
theorem oX7_isLive : MO mX7_isLive 2 := ⟨gt_mem (i := 612) (by decide +kernel) rfl, gt_mem (i := 61) (by decide +kernel) rfl, by decide +kernel, by decide +kernel, rfl⟩
abbrev mX7_paddingBytes : MT := (yX7_paddingBytes, cX7_paddingBytes, 2, (some .int))
theorem oX7_paddingBytes : MO mX7_paddingBytes 1 := ⟨gt_mem (i := 616) (by decide +kernel) rfl, gt_mem (i := 61) (by decide +kernel) rfl, by decide +kernel, by decide +kernel, rfl⟩
abbrev mX7_pieceCount : MT := (yX7_pieceCount, cX7_pieceCount, 2, (some .int))
theorem oX7_pieceCount : MO mX7_pieceCount 1 := ⟨gt_mem (i := 624) (by decide +kernel) rfl, gt_mem (i := 61) (by decide +kernel) rfl, by decide +kernel, by decide +kernel, rfl⟩
abbrev mX7_pieceLength : MT := (yX7_pieceLength, cX7_pieceLength, 4, (some .int))
theorem oX7_pieceLength : MO mX7_pieceLength 2 := ⟨gt_mem (i := 633) (by decide +kernel) rfl, gt_mem (i := 61) (by decide +kernel) rfl, by decide +kernel, by decide +kernel, rfl⟩
abbrev mX7_scalarCount : MT := (yX7_scalarCount, cX7_scalarCount, 3, (some .int))
theorem oX7_scalarCount : MO mX7_scalarCount 0 := ⟨gt_mem (i := 641) (by decide +kernel) rfl, gt_mem (i := 61) (by decide +kernel) rfl, by decide +kernel, by decide +kernel, rfl⟩
abbrev mX7_liveBytes : MT := (yX7_liveBytes, cX7_liveBytes, 3, (some .int))
theorem oX7_liveBytes : MO mX7_liveBytes 0 := ⟨gt_mem (i := 650) (by decide +kernel) rfl, gt_mem (i := 61) (by decide +kernel) rfl, by decide +kernel, by decide +kernel, rfl⟩
abbrev mX7_trapPosition : MT := (yX7_trapPosition, cX7_trapPosition, 1, (some .int))
theorem oX7_trapPosition : MO mX7_trapPosition 0 := ⟨gt_mem (i := 658) (by decide +kernel) rfl, gt_mem (i := 61) (by decide +kernel) rfl, by decide +kernel, by decide +kernel, rfl⟩
abbrev mX7_outputCount : MT := (yX7_outputCount, cX7_outputCount, 2, (some .int))
theorem oX7_outputCount : MO mX7_outputCount 1 := ⟨gt_mem (i := 721) (by decide +kernel) rfl, gt_mem (i := 61) (by decide +kernel) rfl, by decide +kernel, by decide +kernel, rfl⟩
abbrev mX7_outputAt : MT := (yX7_outputAt, cX7_outputAt, 3, (some .int))
theorem oX7_outputAt : MO mX7_outputAt 2 := ⟨gt_mem (i := 728) (by decide +kernel) rfl, gt_mem (i := 61) (by decide +kernel) rfl, by decide +kernel, by decide +kernel, rfl⟩
abbrev mX7_checksum : MT := (yX7_checksum, cX7_checksum, 2, (some .int))
theorem oX7_checksum : MO mX7_checksum 1 := ⟨gt_mem (i := 736) (by decide +kernel) rfl, gt_mem (i := 61) (by decide +kernel) rfl, by decide +kernel, by decide +kernel, rfl⟩
abbrev mX7_cost : MT := (yX7_cost, cX7_cost, 2, (some .int))
theorem oX7_cost : MO mX7_cost 1 := ⟨gt_mem (i := 740) (by decide +kernel) rfl, gt_mem (i := 61) (by decide +kernel) rfl, by decide +kernel, by decide +kernel, rfl⟩
abbrev mX7_append : MT := (yX7_append, cX7_append, 3, (some .int))
theorem oX7_append : MO mX7_append 1 := ⟨gt_mem (i := 387) (by decide +kernel) rfl, gt_mem (i := 61) (by decide +kernel) rfl, by decide +kernel, by decide +kernel, rfl⟩
abbrev mX7_isAccess : MT := (yX7_isAccess, cX7_isAccess, 4, (some .boolean))
theorem oX7_isAccess : MO mX7_isAccess 3 := ⟨gt_mem (i := 360) (by decide +kernel) rfl, gt_mem (i := 61) (by decide +kernel) rfl, by decide +kernel, by decide +kernel, rfl⟩
abbrev mX7_layoutNow : MT := (yX7_layoutNow, cX7_layoutNow, 2, (some (.object "AggregateSplitter$Layout")))
theorem oX7_layoutNow : MO mX7_layoutNow 1 := ⟨gt_mem (i := 482) (by decide +kernel) rfl, gt_mem (i := 61) (by decide +kernel) rfl, by decide +kernel, by decide +kernel, rfl⟩
abbrev mX7_partitionNow : MT := (yX7_partitionNow, cX7_partitionNow, 3, (some (.object "AggregateSplitter$Partition")))
theorem oX7_partitionNow : MO mX7_partitionNow 2 := ⟨gt_mem (i := 599) (by decide +kernel) rfl, gt_mem (i := 61) (by decide +kernel) rfl, by decide +kernel, by decide +kernel, rfl⟩
abbrev mX7_runOf : MT := (yX7_runOf, cX7_runOf, 2, (some (.object "AggregateSplitter$Run")))
theorem oX7_runOf : MO mX7_runOf 1 := ⟨gt_mem (i := 662) (by decide +kernel) rfl, gt_mem (i := 61) (by decide +kernel) rfl, by decide +kernel, by decide +kernel, rfl⟩
abbrev mX7_isForm : MT := (yX7_isForm, cX7_isForm, 1, (some .boolean))
theorem oX7_isForm : MO mX7_isForm 1 := ⟨gt_mem (i := 724) (by decide +kernel) rfl, gt_mem (i := 61) (by decide +kernel) rfl, by decide +kernel, by decide +kernel, rfl⟩
abbrev mX7_isRegister : MT := (yX7_isRegister, cX7_isRegister, 1, (some .boolean))
theorem oX7_isRegister : MO mX7_isRegister 1 := ⟨gt_mem (i := 378) (by decide +kernel) rfl, gt_mem (i := 61) (by decide +kernel) rfl, by decide +kernel, by decide +kernel, rfl⟩
abbrev mX7_isScalarLength : MT := (yX7_isScalarLength, cX7_isScalarLength, 1, (some .boolean))
theorem oX7_isScalarLength : MO mX7_isScalarLength 1 := ⟨gt_mem (i := 363) (by decide +kernel) rfl, gt_mem (i := 61) (by decide +kernel) rfl, by decide +kernel, by decide +kernel, rfl⟩
abbrev mX7_oneIf : MT := (yX7_oneIf, cX7_oneIf, 1, (some .int))
theorem oX7_oneIf : MO mX7_oneIf 1 := ⟨gt_mem (i := 587) (by decide +kernel) rfl, gt_mem (i := 61) (by decide +kernel) rfl, by decide +kernel, by decide +kernel, rfl⟩
abbrev mX8_init : MT := (yX8_init, cX8_init, 1, none)
theorem oX8_init : MO mX8_init 0 := ⟨gt_mem (i := 745) (by decide +kernel) rfl, gt_mem (i := 69) (by decide +kernel) rfl, by decide +kernel, by decide +kernel, rfl⟩
abbrev mX8_in : MT := (yX8_in, cX8_in, 3, (some .boolean))
theorem oX8_in : MO mX8_in 3 := ⟨gt_mem (i := 802) (by decide +kernel) rfl, gt_mem (i := 69) (by decide +kernel) rfl, by decide +kernel, by decide +kernel, rfl⟩
abbrev mX8_note : MT := (yX8_note, cX8_note, 2, none)
theorem oX8_note : MO mX8_note 0 := ⟨gt_mem (i := 806) (by decide +kernel) rfl, gt_mem (i := 69) (by decide +kernel) rfl, by decide +kernel, by decide +kernel, rfl⟩
abbrev mX8_isRecord : MT := (yX8_isRecord, cX8_isRecord, 2, (some .boolean))
theorem oX8_isRecord : MO mX8_isRecord 1 := ⟨gt_mem (i := 821) (by decide +kernel) rfl, gt_mem (i := 69) (by decide +kernel) rfl, by decide +kernel, by decide +kernel, rfl⟩
abbrev mX8_isRegister : MT := (yX8_isRegister, cX8_isRegister, 1, (some .boolean))
theorem oX8_isRegister : MO mX8_isRegister 1 := ⟨gt_mem (i := 824) (by decide +kernel) rfl, gt_mem (i := 69) (by decide +kernel) rfl, by decide +kernel, by decide +kernel, rfl⟩
abbrev mX8_isRange : MT := (yX8_isRange, cX8_isRange, 4, (some .boolean))
theorem oX8_isRange : MO mX8_isRange 3 := ⟨gt_mem (i := 817) (by decide +kernel) rfl, gt_mem (i := 69) (by decide +kernel) rfl, by decide +kernel, by decide +kernel, rfl⟩
abbrev mX8_isWidth : MT := (yX8_isWidth, cX8_isWidth, 1, (some .boolean))
theorem oX8_isWidth : MO mX8_isWidth 1 := ⟨gt_mem (i := 813) (by decide +kernel) rfl, gt_mem (i := 69) (by decide +kernel) rfl, by decide +kernel, by decide +kernel, rfl⟩
abbrev mX8_declareRecord : MT := (yX8_declareRecord, cX8_declareRecord, 2, (some .int))
theorem oX8_declareRecord : MO mX8_declareRecord 1 := ⟨gt_mem (i := 799) (by decide +kernel) rfl, gt_mem (i := 69) (by decide +kernel) rfl, by decide +kernel, by decide +kernel, rfl⟩
abbrev mX8_append : MT := (yX8_append, cX8_append, 8, (some .int))
theorem oX8_append : MO mX8_append 6 := ⟨gt_mem (i := 828) (by decide +kernel) rfl, gt_mem (i := 69) (by decide +kernel) rfl, by decide +kernel, by decide +kernel, rfl⟩
abbrev mX8_appendStore : MT := (yX8_appendStore, cX8_appendStore, 6, (some .int))
theorem oX8_appendStore : MO mX8_appendStore 4 := ⟨gt_mem (i := 810) (by decide +kernel) rfl, gt_mem (i := 69) (by decide +kernel) rfl, by decide +kernel, by decide +kernel, rfl⟩
abbrev mX8_appendLoad : MT := (yX8_appendLoad, cX8_appendLoad, 6, (some .int))
theorem oX8_appendLoad : MO mX8_appendLoad 4 := ⟨gt_mem (i := 832) (by decide +kernel) rfl, gt_mem (i := 69) (by decide +kernel) rfl, by decide +kernel, by decide +kernel, rfl⟩
abbrev mX8_appendCopy : MT := (yX8_appendCopy, cX8_appendCopy, 6, (some .int))
theorem oX8_appendCopy : MO mX8_appendCopy 5 := ⟨gt_mem (i := 836) (by decide +kernel) rfl, gt_mem (i := 69) (by decide +kernel) rfl, by decide +kernel, by decide +kernel, rfl⟩
abbrev mX8_appendEscape : MT := (yX8_appendEscape, cX8_appendEscape, 2, (some .int))
theorem oX8_appendEscape : MO mX8_appendEscape 1 := ⟨gt_mem (i := 840) (by decide +kernel) rfl, gt_mem (i := 69) (by decide +kernel) rfl, by decide +kernel, by decide +kernel, rfl⟩
abbrev mX8_appendConstant : MT := (yX8_appendConstant, cX8_appendConstant, 3, (some .int))
theorem oX8_appendConstant : MO mX8_appendConstant 2 := ⟨gt_mem (i := 844) (by decide +kernel) rfl, gt_mem (i := 69) (by decide +kernel) rfl, by decide +kernel, by decide +kernel, rfl⟩
abbrev mX8_appendAdd : MT := (yX8_appendAdd, cX8_appendAdd, 4, (some .int))
theorem oX8_appendAdd : MO mX8_appendAdd 3 := ⟨gt_mem (i := 848) (by decide +kernel) rfl, gt_mem (i := 69) (by decide +kernel) rfl, by decide +kernel, by decide +kernel, rfl⟩
abbrev mX8_appendSkip : MT := (yX8_appendSkip, cX8_appendSkip, 3, (some .int))
theorem oX8_appendSkip : MO mX8_appendSkip 2 := ⟨gt_mem (i := 852) (by decide +kernel) rfl, gt_mem (i := 69) (by decide +kernel) rfl, by decide +kernel, by decide +kernel, rfl⟩
abbrev mX8_appendOutput : MT := (yX8_appendOutput, cX8_appendOutput, 2, (some .int))
theorem oX8_appendOutput : MO mX8_appendOutput 1 := ⟨gt_mem (i := 856) (by decide +kernel) rfl, gt_mem (i := 69) (by decide +kernel) rfl, by decide +kernel, by decide +kernel, rfl⟩
abbrev mX8_removeInstruction : MT := (yX8_removeInstruction, cX8_removeInstruction, 3, (some .int))
theorem oX8_removeInstruction : MO mX8_removeInstruction 1 := ⟨gt_mem (i := 860) (by decide +kernel) rfl, gt_mem (i := 69) (by decide +kernel) rfl, by decide +kernel, by decide +kernel, rfl⟩
abbrev mX8_undo : MT := (yX8_undo, cX8_undo, 2, (some .int))
theorem oX8_undo : MO mX8_undo 0 := ⟨gt_mem (i := 864) (by decide +kernel) rfl, gt_mem (i := 69) (by decide +kernel) rfl, by decide +kernel, by decide +kernel, rfl⟩
abbrev mX8_recordCount : MT := (yX8_recordCount, cX8_recordCount, 1, (some .int))
theorem oX8_recordCount : MO mX8_recordCount 0 := ⟨gt_mem (i := 868) (by decide +kernel) rfl, gt_mem (i := 69) (by decide +kernel) rfl, by decide +kernel, by decide +kernel, rfl⟩
abbrev mX8_instructionCount : MT := (yX8_instructionCount, cX8_instructionCount, 1, (some .int))
theorem oX8_instructionCount : MO mX8_instructionCount 0 := ⟨gt_mem (i := 872) (by decide +kernel) rfl, gt_mem (i := 69) (by decide +kernel) rfl, by decide +kernel, by decide +kernel, rfl⟩
abbrev mX8_of : MT := (yX8_of, cX8_of, 3, (some .int))
theorem oX8_of : MO mX8_of 2 := ⟨gt_mem (i := 884) (by decide +kernel) rfl, gt_mem (i := 69) (by decide +kernel) rfl, by decide +kernel, by decide +kernel, rfl⟩
abbrev mX8_isAccess : MT := (yX8_isAccess, cX8_isAccess, 2, (some .boolean))
theorem oX8_isAccess : MO mX8_isAccess 1 := ⟨gt_mem (i := 904) (by decide +kernel) rfl, gt_mem (i := 69) (by decide +kernel) rfl, by decide +kernel, by decide +kernel, rfl⟩
abbrev mX8_doesEscape : MT := (yX8_doesEscape, cX8_doesEscape, 4, (some .boolean))
theorem oX8_doesEscape : MO mX8_doesEscape 1 := ⟨gt_mem (i := 880) (by decide +kernel) rfl, gt_mem (i := 69) (by decide +kernel) rfl, by decide +kernel, by decide +kernel, rfl⟩
abbrev mX8_holds : MT := (yX8_holds, cX8_holds, 3, (some .boolean))
theorem oX8_holds : MO mX8_holds 3 := ⟨gt_mem (i := 907) (by decide +kernel) rfl, gt_mem (i := 69) (by decide +kernel) rfl, by decide +kernel, by decide +kernel, rfl⟩
abbrev mX8_isAccessed : MT := (yX8_isAccessed, cX8_isAccessed, 7, (some .boolean))
theorem oX8_isAccessed : MO mX8_isAccessed 3 := ⟨gt_mem (i := 900) (by decide +kernel) rfl, gt_mem (i := 69) (by decide +kernel) rfl, by decide +kernel, by decide +kernel, rfl⟩
abbrev mX8_isCopied : MT := (yX8_isCopied, cX8_isCopied, 5, (some .boolean))
theorem oX8_isCopied : MO mX8_isCopied 4 := ⟨gt_mem (i := 915) (by decide +kernel) rfl, gt_mem (i := 69) (by decide +kernel) rfl, by decide +kernel, by decide +kernel, rfl⟩
abbrev mX8_isSoft : MT := (yX8_isSoft, cX8_isSoft, 5, (some .boolean))
theorem oX8_isSoft : MO mX8_isSoft 2 := ⟨gt_mem (i := 911) (by decide +kernel) rfl, gt_mem (i := 69) (by decide +kernel) rfl, by decide +kernel, by decide +kernel, rfl⟩
abbrev mX8_areCopiedAlike : MT := (yX8_areCopiedAlike, cX8_areCopiedAlike, 6, (some .boolean))
theorem oX8_areCopiedAlike : MO mX8_areCopiedAlike 2 := ⟨gt_mem (i := 923) (by decide +kernel) rfl, gt_mem (i := 69) (by decide +kernel) rfl, by decide +kernel, by decide +kernel, rfl⟩
abbrev mX8_goesOn : MT := (yX8_goesOn, cX8_goesOn, 3, (some .boolean))
theorem oX8_goesOn : MO mX8_goesOn 2 := ⟨gt_mem (i := 919) (by decide +kernel) rfl, gt_mem (i := 69) (by decide +kernel) rfl, by decide +kernel, by decide +kernel, rfl⟩
abbrev mX8_isParted : MT := (yX8_isParted, cX8_isParted, 3, (some .boolean))
theorem oX8_isParted : MO mX8_isParted 2 := ⟨gt_mem (i := 896) (by decide +kernel) rfl, gt_mem (i := 69) (by decide +kernel) rfl, by decide +kernel, by decide +kernel, rfl⟩
abbrev mX8_findParts : MT := (yX8_findParts, cX8_findParts, 5, none)
theorem oX8_findParts : MO mX8_findParts 1 := ⟨gt_mem (i := 892) (by decide +kernel) rfl, gt_mem (i := 69) (by decide +kernel) rfl, by decide +kernel, by decide +kernel, rfl⟩
abbrev mX8_findAllParts : MT := (yX8_findAllParts, cX8_findAllParts, 2, none)
theorem oX8_findAllParts : MO mX8_findAllParts 0 := ⟨gt_mem (i := 939) (by decide +kernel) rfl, gt_mem (i := 69) (by decide +kernel) rfl, by decide +kernel, by decide +kernel, rfl⟩
abbrev mX8_placeOf : MT := (yX8_placeOf, cX8_placeOf, 3, (some .int))
theorem oX8_placeOf : MO mX8_placeOf 2 := ⟨gt_mem (i := 951) (by decide +kernel) rfl, gt_mem (i := 69) (by decide +kernel) rfl, by decide +kernel, by decide +kernel, rfl⟩
abbrev mX8_beginsAt : MT := (yX8_beginsAt, cX8_beginsAt, 3, (some .boolean))
theorem oX8_beginsAt : MO mX8_beginsAt 2 := ⟨gt_mem (i := 963) (by decide +kernel) rfl, gt_mem (i := 69) (by decide +kernel) rfl, by decide +kernel, by decide +kernel, rfl⟩
abbrev mX8_pieceAt : MT := (yX8_pieceAt, cX8_pieceAt, 4, (some .int))
theorem oX8_pieceAt : MO mX8_pieceAt 2 := ⟨gt_mem (i := 959) (by decide +kernel) rfl, gt_mem (i := 69) (by decide +kernel) rfl, by decide +kernel, by decide +kernel, rfl⟩
abbrev mX8_restrict : MT := (yX8_restrict, cX8_restrict, 6, none)
theorem oX8_restrict : MO mX8_restrict 3 := ⟨gt_mem (i := 947) (by decide +kernel) rfl, gt_mem (i := 69) (by decide +kernel) rfl, by decide +kernel, by decide +kernel, rfl⟩
abbrev mX8_restrictPieces : MT := (yX8_restrictPieces, cX8_restrictPieces, 4, none)
theorem oX8_restrictPieces : MO mX8_restrictPieces 1 := ⟨gt_mem (i := 955) (by decide +kernel) rfl, gt_mem (i := 69) (by decide +kernel) rfl, by decide +kernel, by decide +kernel, rfl⟩
abbrev mX8_findPromotable : MT := (yX8_findPromotable, cX8_findPromotable, 4, none)
theorem oX8_findPromotable : MO mX8_findPromotable 0 := ⟨gt_mem (i := 943) (by decide +kernel) rfl, gt_mem (i := 69) (by decide +kernel) rfl, by decide +kernel, by decide +kernel, rfl⟩
abbrev mX8_enliven : MT := (yX8_enliven, cX8_enliven, 6, (some .boolean))
theorem oX8_enliven : MO mX8_enliven 1 := ⟨gt_mem (i := 971) (by decide +kernel) rfl, gt_mem (i := 69) (by decide +kernel) rfl, by decide +kernel, by decide +kernel, rfl⟩
abbrev mX8_findLive : MT := (yX8_findLive, cX8_findLive, 4, none)
theorem oX8_findLive : MO mX8_findLive 0 := ⟨gt_mem (i := 967) (by decide +kernel) rfl, gt_mem (i := 69) (by decide +kernel) rfl, by decide +kernel, by decide +kernel, rfl⟩
abbrev mX8_analyse : MT := (yX8_analyse, cX8_analyse, 1, none)
theorem oX8_analyse : MO mX8_analyse 0 := ⟨gt_mem (i := 935) (by decide +kernel) rfl, gt_mem (i := 69) (by decide +kernel) rfl, by decide +kernel, by decide +kernel, rfl⟩
abbrev mX8_escapes : MT := (yX8_escapes, cX8_escapes, 2, (some .int))
theorem oX8_escapes : MO mX8_escapes 1 := ⟨gt_mem (i := 876) (by decide +kernel) rfl, gt_mem (i := 69) (by decide +kernel) rfl, by decide +kernel, by decide +kernel, rfl⟩
abbrev mX8_partitionCount : MT := (yX8_partitionCount, cX8_partitionCount, 2, (some .int))
theorem oX8_partitionCount : MO mX8_partitionCount 1 := ⟨gt_mem (i := 888) (by decide +kernel) rfl, gt_mem (i := 69) (by decide +kernel) rfl, by decide +kernel, by decide +kernel, rfl⟩
abbrev mX8_isPart : MT := (yX8_isPart, cX8_isPart, 3, (some .boolean))
theorem oX8_isPart : MO mX8_isPart 2 := ⟨gt_mem (i := 931) (by decide +kernel) rfl, gt_mem (i := 69) (by decide +kernel) rfl, by decide +kernel, by decide +kernel, rfl⟩
abbrev mX8_partitionStart : MT := (yX8_partitionStart, cX8_partitionStart, 3, (some .int))
theorem oX8_partitionStart : MO mX8_partitionStart 2 := ⟨gt_mem (i := 927) (by decide +kernel) rfl, gt_mem (i := 69) (by decide +kernel) rfl, by decide +kernel, by decide +kernel, rfl⟩
abbrev mX8_partitionLength : MT := (yX8_partitionLength, cX8_partitionLength, 3, (some .int))
theorem oX8_partitionLength : MO mX8_partitionLength 2 := ⟨gt_mem (i := 975) (by decide +kernel) rfl, gt_mem (i := 69) (by decide +kernel) rfl, by decide +kernel, by decide +kernel, rfl⟩
abbrev mX8_isPromotable : MT := (yX8_isPromotable, cX8_isPromotable, 3, (some .int))
theorem oX8_isPromotable : MO mX8_isPromotable 2 := ⟨gt_mem (i := 979) (by decide +kernel) rfl, gt_mem (i := 69) (by decide +kernel) rfl, by decide +kernel, by decide +kernel, rfl⟩
abbrev mX8_isLive : MT := (yX8_isLive, cX8_isLive, 3, (some .int))
theorem oX8_isLive : MO mX8_isLive 2 := ⟨gt_mem (i := 983) (by decide +kernel) rfl, gt_mem (i := 69) (by decide +kernel) rfl, by decide +kernel, by decide +kernel, rfl⟩
abbrev mX8_paddingBytes : MT := (yX8_paddingBytes, cX8_paddingBytes, 4, (some .int))
theorem oX8_paddingBytes : MO mX8_paddingBytes 1 := ⟨gt_mem (i := 987) (by decide +kernel) rfl, gt_mem (i := 69) (by decide +kernel) rfl, by decide +kernel, by decide +kernel, rfl⟩
abbrev mX8_isCopy : MT := (yX8_isCopy, cX8_isCopy, 2, (some .boolean))
theorem oX8_isCopy : MO mX8_isCopy 1 := ⟨gt_mem (i := 995) (by decide +kernel) rfl, gt_mem (i := 69) (by decide +kernel) rfl, by decide +kernel, by decide +kernel, rfl⟩
abbrev mX8_pieceCount : MT := (yX8_pieceCount, cX8_pieceCount, 4, (some .int))
theorem oX8_pieceCount : MO mX8_pieceCount 1 := ⟨gt_mem (i := 991) (by decide +kernel) rfl, gt_mem (i := 69) (by decide +kernel) rfl, by decide +kernel, by decide +kernel, rfl⟩
abbrev mX8_pieceLength : MT := (yX8_pieceLength, cX8_pieceLength, 6, (some .int))
theorem oX8_pieceLength : MO mX8_pieceLength 2 := ⟨gt_mem (i := 999) (by decide +kernel) rfl, gt_mem (i := 69) (by decide +kernel) rfl, by decide +kernel, by decide +kernel, rfl⟩
abbrev mX8_scalarCount : MT := (yX8_scalarCount, cX8_scalarCount, 4, (some .int))
theorem oX8_scalarCount : MO mX8_scalarCount 0 := ⟨gt_mem (i := 1003) (by decide +kernel) rfl, gt_mem (i := 69) (by decide +kernel) rfl, by decide +kernel, by decide +kernel, rfl⟩
abbrev mX8_liveBytes : MT := (yX8_liveBytes, cX8_liveBytes, 4, (some .int))
theorem oX8_liveBytes : MO mX8_liveBytes 0 := ⟨gt_mem (i := 1007) (by decide +kernel) rfl, gt_mem (i := 69) (by decide +kernel) rfl, by decide +kernel, by decide +kernel, rfl⟩
abbrev mX8_store : MT := (yX8_store, cX8_store, 3, none)
theorem oX8_store : MO mX8_store 1 := ⟨gt_mem (i := 1031) (by decide +kernel) rfl, gt_mem (i := 69) (by decide +kernel) rfl, by decide +kernel, by decide +kernel, rfl⟩
abbrev mX8_load : MT := (yX8_load, cX8_load, 4, none)
theorem oX8_load : MO mX8_load 1 := ⟨gt_mem (i := 1027) (by decide +kernel) rfl, gt_mem (i := 69) (by decide +kernel) rfl, by decide +kernel, by decide +kernel, rfl⟩
abbrev mX8_copyBytes : MT := (yX8_copyBytes, cX8_copyBytes, 5, none)
theorem oX8_copyBytes : MO mX8_copyBytes 3 := ⟨gt_mem (i := 1039) (by decide +kernel) rfl, gt_mem (i := 69) (by decide +kernel) rfl, by decide +kernel, by decide +kernel, rfl⟩
abbrev mX8_escape : MT := (yX8_escape, cX8_escape, 3, none)
theorem oX8_escape : MO mX8_escape 1 := ⟨gt_mem (i := 1043) (by decide +kernel) rfl, gt_mem (i := 69) (by decide +kernel) rfl, by decide +kernel, by decide +kernel, rfl⟩
abbrev mX8_adds : MT := (yX8_adds, cX8_adds, 5, (some .boolean))
theorem oX8_adds : MO mX8_adds 1 := ⟨gt_mem (i := 1047) (by decide +kernel) rfl, gt_mem (i := 69) (by decide +kernel) rfl, by decide +kernel, by decide +kernel, rfl⟩
abbrev mX8_access : MT := (yX8_access, cX8_access, 4, none)
theorem oX8_access : MO mX8_access 2 := ⟨gt_mem (i := 1023) (by decide +kernel) rfl, gt_mem (i := 69) (by decide +kernel) rfl, by decide +kernel, by decide +kernel, rfl⟩
abbrev mX8_copyPieces : MT := (yX8_copyPieces, cX8_copyPieces, 6, none)
theorem oX8_copyPieces : MO mX8_copyPieces 1 := ⟨gt_mem (i := 1035) (by decide +kernel) rfl, gt_mem (i := 69) (by decide +kernel) rfl, by decide +kernel, by decide +kernel, rfl⟩
abbrev mX8_runs : MT := (yX8_runs, cX8_runs, 4, none)
theorem oX8_runs : MO mX8_runs 1 := ⟨gt_mem (i := 1015) (by decide +kernel) rfl, gt_mem (i := 69) (by decide +kernel) rfl, by decide +kernel, by decide +kernel, rfl⟩
abbrev mX8_executes : MT := (yX8_executes, cX8_executes, 3, (some .int))
theorem oX8_executes : MO mX8_executes 2 := ⟨gt_mem (i := 1019) (by decide +kernel) rfl, gt_mem (i := 69) (by decide +kernel) rfl, by decide +kernel, by decide +kernel, rfl⟩
abbrev mX8_trapPosition : MT := (yX8_trapPosition, cX8_trapPosition, 1, (some .int))
theorem oX8_trapPosition : MO mX8_trapPosition 0 := ⟨gt_mem (i := 1011) (by decide +kernel) rfl, gt_mem (i := 69) (by decide +kernel) rfl, by decide +kernel, by decide +kernel, rfl⟩
abbrev mX8_isProgram : MT := (yX8_isProgram, cX8_isProgram, 1, (some .boolean))
theorem oX8_isProgram : MO mX8_isProgram 1 := ⟨gt_mem (i := 1054) (by decide +kernel) rfl, gt_mem (i := 69) (by decide +kernel) rfl, by decide +kernel, by decide +kernel, rfl⟩
abbrev mX8_outputCount : MT := (yX8_outputCount, cX8_outputCount, 2, (some .int))
theorem oX8_outputCount : MO mX8_outputCount 1 := ⟨gt_mem (i := 1051) (by decide +kernel) rfl, gt_mem (i := 69) (by decide +kernel) rfl, by decide +kernel, by decide +kernel, rfl⟩
abbrev mX8_outputAt : MT := (yX8_outputAt, cX8_outputAt, 3, (some .int))
theorem oX8_outputAt : MO mX8_outputAt 2 := ⟨gt_mem (i := 1058) (by decide +kernel) rfl, gt_mem (i := 69) (by decide +kernel) rfl, by decide +kernel, by decide +kernel, rfl⟩
abbrev mX8_checksum : MT := (yX8_checksum, cX8_checksum, 2, (some .int))
theorem oX8_checksum : MO mX8_checksum 1 := ⟨gt_mem (i := 1062) (by decide +kernel) rfl, gt_mem (i := 69) (by decide +kernel) rfl, by decide +kernel, by decide +kernel, rfl⟩
abbrev mX8_cost : MT := (yX8_cost, cX8_cost, 2, (some .int))
theorem oX8_cost : MO mX8_cost 1 := ⟨gt_mem (i := 1066) (by decide +kernel) rfl, gt_mem (i := 69) (by decide +kernel) rfl, by decide +kernel, by decide +kernel, rfl⟩
theorem kL_9 : KI RL 9 mX7_init 0 := ⟨oX7_init, gt_mem (i := 73) (by decide +kernel) rfl, gt_mem (i := 74) (by decide +kernel) rfl, rfl, rfl⟩
theorem kX7_1 : Cond.methodLink RX7 1 objectInit ∈ gt := gt_mem (i := 76) (by decide +kernel) rfl
theorem kX7_9 : KI RX7 9 mX5_init 0 := ⟨oX5_init, gt_mem (i := 81) (by decide +kernel) rfl, gt_mem (i := 82) (by decide +kernel) rfl, rfl, rfl⟩
theorem kX5_3 : Cond.methodLink RX5 3 objectInit ∈ gt := gt_mem (i := 84) (by decide +kernel) rfl
theorem kX5_21 : KI RX5 21 mX2_init 1 := ⟨oX2_init, gt_mem (i := 88) (by decide +kernel) rfl, gt_mem (i := 89) (by decide +kernel) rfl, rfl, rfl⟩
theorem kX2_3 : Cond.methodLink RX2 3 objectInit ∈ gt := gt_mem (i := 91) (by decide +kernel) rfl
theorem kX7_18 : KIN RX7 18 mX1_init 0 := ⟨oX1_init, ⟨"AggregateSplitter", by decide +kernel⟩, gt_mem (i := 165) (by decide +kernel) rfl, rfl, rfl⟩
theorem kX1_3 : Cond.methodLink RX1 3 objectInit ∈ gt := gt_mem (i := 167) (by decide +kernel) rfl
theorem kX7_25 : KI RX7 25 mX0_init 0 := ⟨oX0_init, gt_mem (i := 188) (by decide +kernel) rfl, gt_mem (i := 189) (by decide +kernel) rfl, rfl, rfl⟩
theorem kX0_3 : Cond.methodLink RX0 3 objectInit ∈ gt := gt_mem (i := 191) (by decide +kernel) rfl
theorem kX0_17 : KI RX0 17 mX3_init 0 := ⟨oX3_init, gt_mem (i := 195) (by decide +kernel) rfl, gt_mem (i := 196) (by decide +kernel) rfl, rfl, rfl⟩
theorem kX3_3 : Cond.methodLink RX3 3 objectInit ∈ gt := gt_mem (i := 198) (by decide +kernel) rfl
theorem kX3_17 : KIN RX3 17 mX4_init 0 := ⟨oX4_init, ⟨"AggregateSplitter", by decide +kernel⟩, gt_mem (i := 203) (by decide +kernel) rfl, rfl, rfl⟩
theorem kX4_1 : Cond.methodLink RX4 1 objectInit ∈ gt := gt_mem (i := 205) (by decide +kernel) rfl
theorem kX7_32 : KI RX7 32 mX6_init 2 := ⟨oX6_init, gt_mem (i := 282) (by decide +kernel) rfl, gt_mem (i := 283) (by decide +kernel) rfl, rfl, rfl⟩
theorem kX6_3 : Cond.methodLink RX6 3 objectInit ∈ gt := gt_mem (i := 285) (by decide +kernel) rfl
theorem kL_13 : KV RL 13 7 mX7_declareRecord 1 := ⟨oX7_declareRecord, gt_mem (i := 338) (by decide +kernel) rfl, gt_mem (i := 339) (by decide +kernel) rfl, gt_mem (i := 340) (by decide +kernel) rfl, by decide, fun r hr => by cases hr; rfl⟩
theorem kX7_43 : KV RX7 43 5 mX5_addRecord 1 := ⟨oX5_addRecord, gt_mem (i := 342) (by decide +kernel) rfl, gt_mem (i := 343) (by decide +kernel) rfl, gt_mem (i := 344) (by decide +kernel) rfl, by decide, fun r hr => by cases hr; rfl⟩
theorem kX7_51 : KV RX7 51 1 mX1_note 3 := ⟨oX1_note, gt_mem (i := 346) (by decide +kernel) rfl, gt_mem (i := 347) (by decide +kernel) rfl, gt_mem (i := 348) (by decide +kernel) rfl, by decide, fun r hr => by cases hr; rfl⟩
theorem kX1_31 : Cond.methodLink RX1 31 Lib.Math.min.name ∈ gt := gt_mem (i := 350) (by decide +kernel) rfl
theorem kL_18 : KV RL 18 7 mX7_appendStore 4 := ⟨oX7_appendStore, gt_mem (i := 353) (by decide +kernel) rfl, gt_mem (i := 354) (by decide +kernel) rfl, gt_mem (i := 355) (by decide +kernel) rfl, by decide, fun r hr => by cases hr; rfl⟩
theorem kX7_59 : KV RX7 59 7 mX7_isAccess 3 := ⟨oX7_isAccess, gt_mem (i := 357) (by decide +kernel) rfl, gt_mem (i := 359) (by decide +kernel) rfl, gt_mem (i := 0) (by decide +kernel) rfl, by decide, fun r hr => by cases hr; rfl⟩
theorem kX7_205 : KS RX7 205 mX7_isScalarLength 1 := ⟨oX7_isScalarLength, gt_mem (i := 361) (by decide +kernel) rfl, gt_mem (i := 362) (by decide +kernel) rfl⟩
theorem kX7_77 : KV RX7 77 5 mX5_holdsRange 3 := ⟨oX5_holdsRange, gt_mem (i := 364) (by decide +kernel) rfl, gt_mem (i := 365) (by decide +kernel) rfl, gt_mem (i := 366) (by decide +kernel) rfl, by decide, fun r hr => by cases hr; rfl⟩
theorem kX5_39 : KV RX5 39 5 mX5_sizeOf 1 := ⟨oX5_sizeOf, gt_mem (i := 368) (by decide +kernel) rfl, gt_mem (i := 369) (by decide +kernel) rfl, gt_mem (i := 370) (by decide +kernel) rfl, by decide, fun r hr => by cases hr; rfl⟩
theorem kX5_35 : KV RX5 35 5 mX5_hasRecord 1 := ⟨oX5_hasRecord, gt_mem (i := 372) (by decide +kernel) rfl, gt_mem (i := 373) (by decide +kernel) rfl, gt_mem (i := 374) (by decide +kernel) rfl, by decide, fun r hr => by cases hr; rfl⟩
theorem kX7_63 : KS RX7 63 mX7_isRegister 1 := ⟨oX7_isRegister, gt_mem (i := 376) (by decide +kernel) rfl, gt_mem (i := 377) (by decide +kernel) rfl⟩
theorem kX7_67 : KS RX7 67 mX2_ofAccess 5 := ⟨oX2_ofAccess, gt_mem (i := 379) (by decide +kernel) rfl, gt_mem (i := 380) (by decide +kernel) rfl⟩
theorem kX2_15 : KI RX2 15 mX2_init 1 := ⟨oX2_init, gt_mem (i := 383) (by decide +kernel) rfl, gt_mem (i := 89) (by decide +kernel) rfl, rfl, rfl⟩
theorem kX7_73 : KV RX7 73 7 mX7_append 1 := ⟨oX7_append, gt_mem (i := 384) (by decide +kernel) rfl, gt_mem (i := 386) (by decide +kernel) rfl, gt_mem (i := 1) (by decide +kernel) rfl, by decide, fun r hr => by cases hr; rfl⟩
theorem kX7_201 : KV RX7 201 5 mX5_insert 2 := ⟨oX5_insert, gt_mem (i := 388) (by decide +kernel) rfl, gt_mem (i := 389) (by decide +kernel) rfl, gt_mem (i := 390) (by decide +kernel) rfl, by decide, fun r hr => by cases hr; rfl⟩
theorem kL_23 : KV RL 23 7 mX7_appendLoad 4 := ⟨oX7_appendLoad, gt_mem (i := 392) (by decide +kernel) rfl, gt_mem (i := 393) (by decide +kernel) rfl, gt_mem (i := 394) (by decide +kernel) rfl, by decide, fun r hr => by cases hr; rfl⟩
theorem kL_27 : KV RL 27 7 mX7_appendCopy 5 := ⟨oX7_appendCopy, gt_mem (i := 396) (by decide +kernel) rfl, gt_mem (i := 397) (by decide +kernel) rfl, gt_mem (i := 398) (by decide +kernel) rfl, by decide, fun r hr => by cases hr; rfl⟩
theorem kX7_80 : Cond.methodLink RX7 80 Lib.Math.abs.name ∈ gt := gt_mem (i := 400) (by decide +kernel) rfl
theorem kX7_86 : KS RX7 86 mX2_ofCopy 5 := ⟨oX2_ofCopy, gt_mem (i := 403) (by decide +kernel) rfl, gt_mem (i := 404) (by decide +kernel) rfl⟩
theorem kL_32 : KV RL 32 7 mX7_appendEscape 1 := ⟨oX7_appendEscape, gt_mem (i := 406) (by decide +kernel) rfl, gt_mem (i := 407) (by decide +kernel) rfl, gt_mem (i := 408) (by decide +kernel) rfl, by decide, fun r hr => by cases hr; rfl⟩
theorem kX7_89 : KV RX7 89 5 mX5_hasRecord 1 := ⟨oX5_hasRecord, gt_mem (i := 410) (by decide +kernel) rfl, gt_mem (i := 373) (by decide +kernel) rfl, gt_mem (i := 374) (by decide +kernel) rfl, by decide, fun r hr => by cases hr; rfl⟩
theorem kX7_92 : KS RX7 92 mX2_ofEscape 1 := ⟨oX2_ofEscape, gt_mem (i := 411) (by decide +kernel) rfl, gt_mem (i := 412) (by decide +kernel) rfl⟩
theorem kL_36 : KV RL 36 7 mX7_appendConstant 2 := ⟨oX7_appendConstant, gt_mem (i := 414) (by decide +kernel) rfl, gt_mem (i := 415) (by decide +kernel) rfl, gt_mem (i := 416) (by decide +kernel) rfl, by decide, fun r hr => by cases hr; rfl⟩
theorem kX7_96 : KS RX7 96 mX2_ofNumber 3 := ⟨oX2_ofNumber, gt_mem (i := 418) (by decide +kernel) rfl, gt_mem (i := 419) (by decide +kernel) rfl⟩
theorem kL_41 : KV RL 41 7 mX7_appendAdd 3 := ⟨oX7_appendAdd, gt_mem (i := 421) (by decide +kernel) rfl, gt_mem (i := 422) (by decide +kernel) rfl, gt_mem (i := 423) (by decide +kernel) rfl, by decide, fun r hr => by cases hr; rfl⟩
theorem kX7_100 : KS RX7 100 mX2_ofAdd 3 := ⟨oX2_ofAdd, gt_mem (i := 425) (by decide +kernel) rfl, gt_mem (i := 426) (by decide +kernel) rfl⟩
theorem kL_46 : KV RL 46 7 mX7_appendSkip 2 := ⟨oX7_appendSkip, gt_mem (i := 428) (by decide +kernel) rfl, gt_mem (i := 429) (by decide +kernel) rfl, gt_mem (i := 430) (by decide +kernel) rfl, by decide, fun r hr => by cases hr; rfl⟩
theorem kL_50 : KV RL 50 7 mX7_appendOutput 1 := ⟨oX7_appendOutput, gt_mem (i := 432) (by decide +kernel) rfl, gt_mem (i := 433) (by decide +kernel) rfl, gt_mem (i := 434) (by decide +kernel) rfl, by decide, fun r hr => by cases hr; rfl⟩
theorem kL_54 : KV RL 54 7 mX7_removeInstruction 1 := ⟨oX7_removeInstruction, gt_mem (i := 436) (by decide +kernel) rfl, gt_mem (i := 437) (by decide +kernel) rfl, gt_mem (i := 438) (by decide +kernel) rfl, by decide, fun r hr => by cases hr; rfl⟩
theorem kX7_103 : KV RX7 103 5 mX5_hasInstruction 1 := ⟨oX5_hasInstruction, gt_mem (i := 440) (by decide +kernel) rfl, gt_mem (i := 441) (by decide +kernel) rfl, gt_mem (i := 442) (by decide +kernel) rfl, by decide, fun r hr => by cases hr; rfl⟩
theorem kX7_106 : KV RX7 106 5 mX5_at 1 := ⟨oX5_at, gt_mem (i := 444) (by decide +kernel) rfl, gt_mem (i := 445) (by decide +kernel) rfl, gt_mem (i := 446) (by decide +kernel) rfl, by decide, fun r hr => by cases hr; rfl⟩
theorem kX5_43 : KV RX5 43 5 mX5_hasInstruction 1 := ⟨oX5_hasInstruction, gt_mem (i := 448) (by decide +kernel) rfl, gt_mem (i := 441) (by decide +kernel) rfl, gt_mem (i := 442) (by decide +kernel) rfl, by decide, fun r hr => by cases hr; rfl⟩
theorem kX7_109 : KV RX7 109 5 mX5_delete 1 := ⟨oX5_delete, gt_mem (i := 449) (by decide +kernel) rfl, gt_mem (i := 450) (by decide +kernel) rfl, gt_mem (i := 451) (by decide +kernel) rfl, by decide, fun r hr => by cases hr; rfl⟩
theorem kL_58 : KV RL 58 7 mX7_undo 0 := ⟨oX7_undo, gt_mem (i := 453) (by decide +kernel) rfl, gt_mem (i := 454) (by decide +kernel) rfl, gt_mem (i := 455) (by decide +kernel) rfl, by decide, fun r hr => by cases hr; rfl⟩
theorem kX7_118 : KV RX7 118 1 mX1_takeBack 1 := ⟨oX1_takeBack, gt_mem (i := 457) (by decide +kernel) rfl, gt_mem (i := 458) (by decide +kernel) rfl, gt_mem (i := 459) (by decide +kernel) rfl, by decide, fun r hr => by cases hr; rfl⟩
theorem kX1_37 : KV RX1 37 5 mX5_dropRecord 0 := ⟨oX5_dropRecord, gt_mem (i := 461) (by decide +kernel) rfl, gt_mem (i := 462) (by decide +kernel) rfl, gt_mem (i := 463) (by decide +kernel) rfl, by decide, fun r hr => by cases hr; rfl⟩
theorem kX1_42 : KV RX1 42 5 mX5_delete 1 := ⟨oX5_delete, gt_mem (i := 465) (by decide +kernel) rfl, gt_mem (i := 450) (by decide +kernel) rfl, gt_mem (i := 451) (by decide +kernel) rfl, by decide, fun r hr => by cases hr; rfl⟩
theorem kX1_46 : KV RX1 46 5 mX5_insert 2 := ⟨oX5_insert, gt_mem (i := 466) (by decide +kernel) rfl, gt_mem (i := 389) (by decide +kernel) rfl, gt_mem (i := 390) (by decide +kernel) rfl, by decide, fun r hr => by cases hr; rfl⟩
theorem kL_63 : KV RL 63 7 mX7_recordCount 0 := ⟨oX7_recordCount, gt_mem (i := 467) (by decide +kernel) rfl, gt_mem (i := 468) (by decide +kernel) rfl, gt_mem (i := 469) (by decide +kernel) rfl, by decide, fun r hr => by cases hr; rfl⟩
theorem kL_67 : KV RL 67 7 mX7_instructionCount 0 := ⟨oX7_instructionCount, gt_mem (i := 471) (by decide +kernel) rfl, gt_mem (i := 472) (by decide +kernel) rfl, gt_mem (i := 473) (by decide +kernel) rfl, by decide, fun r hr => by cases hr; rfl⟩
theorem kL_71 : KV RL 71 7 mX7_escapes 1 := ⟨oX7_escapes, gt_mem (i := 475) (by decide +kernel) rfl, gt_mem (i := 476) (by decide +kernel) rfl, gt_mem (i := 477) (by decide +kernel) rfl, by decide, fun r hr => by cases hr; rfl⟩
theorem kX7_122 : KV RX7 122 7 mX7_layoutNow 1 := ⟨oX7_layoutNow, gt_mem (i := 479) (by decide +kernel) rfl, gt_mem (i := 481) (by decide +kernel) rfl, gt_mem (i := 2) (by decide +kernel) rfl, by decide, fun r hr => by cases hr; rfl⟩
theorem kX7_163 : KV RX7 163 0 mX0_refresh 1 := ⟨oX0_refresh, gt_mem (i := 483) (by decide +kernel) rfl, gt_mem (i := 484) (by decide +kernel) rfl, gt_mem (i := 485) (by decide +kernel) rfl, by decide, fun r hr => by cases hr; rfl⟩
theorem kX0_31 : KV RX0 31 5 mX5_sizeOf 1 := ⟨oX5_sizeOf, gt_mem (i := 487) (by decide +kernel) rfl, gt_mem (i := 369) (by decide +kernel) rfl, gt_mem (i := 370) (by decide +kernel) rfl, by decide, fun r hr => by cases hr; rfl⟩
theorem kX0_37 : KV RX0 37 3 mX3_clear 1 := ⟨oX3_clear, gt_mem (i := 488) (by decide +kernel) rfl, gt_mem (i := 489) (by decide +kernel) rfl, gt_mem (i := 490) (by decide +kernel) rfl, by decide, fun r hr => by cases hr; rfl⟩
theorem kX3_36 : Cond.methodLink RX3 36 Lib.Math.min.name ∈ gt := gt_mem (i := 492) (by decide +kernel) rfl
theorem kX0_45 : KV RX0 45 5 mX5_at 1 := ⟨oX5_at, gt_mem (i := 493) (by decide +kernel) rfl, gt_mem (i := 445) (by decide +kernel) rfl, gt_mem (i := 446) (by decide +kernel) rfl, by decide, fun r hr => by cases hr; rfl⟩
theorem kX0_49 : KV RX0 49 0 mX0_collectRanges 2 := ⟨oX0_collectRanges, gt_mem (i := 494) (by decide +kernel) rfl, gt_mem (i := 496) (by decide +kernel) rfl, gt_mem (i := 3) (by decide +kernel) rfl, by decide, fun r hr => by cases hr; rfl⟩
theorem kX0_71 : KV RX0 71 0 mX0_layoutOf 1 := ⟨oX0_layoutOf, gt_mem (i := 498) (by decide +kernel) rfl, gt_mem (i := 499) (by decide +kernel) rfl, gt_mem (i := 500) (by decide +kernel) rfl, by decide, fun r hr => by cases hr; rfl⟩
theorem kX0_75 : KV RX0 75 2 mX2_isLoadOrStore 0 := ⟨oX2_isLoadOrStore, gt_mem (i := 502) (by decide +kernel) rfl, gt_mem (i := 503) (by decide +kernel) rfl, gt_mem (i := 504) (by decide +kernel) rfl, by decide, fun r hr => by cases hr; rfl⟩
theorem kX0_85 : KV RX0 85 3 mX3_addAccess 2 := ⟨oX3_addAccess, gt_mem (i := 506) (by decide +kernel) rfl, gt_mem (i := 507) (by decide +kernel) rfl, gt_mem (i := 508) (by decide +kernel) rfl, by decide, fun r hr => by cases hr; rfl⟩
theorem kX3_53 : KV RX3 53 3 mX3_isByte 1 := ⟨oX3_isByte, gt_mem (i := 510) (by decide +kernel) rfl, gt_mem (i := 512) (by decide +kernel) rfl, gt_mem (i := 4) (by decide +kernel) rfl, by decide, fun r hr => by cases hr; rfl⟩
theorem kX0_95 : KV RX0 95 3 mX3_addCopyRange 3 := ⟨oX3_addCopyRange, gt_mem (i := 514) (by decide +kernel) rfl, gt_mem (i := 515) (by decide +kernel) rfl, gt_mem (i := 516) (by decide +kernel) rfl, by decide, fun r hr => by cases hr; rfl⟩
theorem kX0_53 : KV RX0 53 3 mX3_formPartitions 0 := ⟨oX3_formPartitions, gt_mem (i := 518) (by decide +kernel) rfl, gt_mem (i := 519) (by decide +kernel) rfl, gt_mem (i := 520) (by decide +kernel) rfl, by decide, fun r hr => by cases hr; rfl⟩
theorem kX3_57 : KV RX3 57 3 mX3_isPadding 1 := ⟨oX3_isPadding, gt_mem (i := 522) (by decide +kernel) rfl, gt_mem (i := 524) (by decide +kernel) rfl, gt_mem (i := 5) (by decide +kernel) rfl, by decide, fun r hr => by cases hr; rfl⟩
theorem kX3_60 : KV RX3 60 3 mX3_beginsPartition 1 := ⟨oX3_beginsPartition, gt_mem (i := 526) (by decide +kernel) rfl, gt_mem (i := 528) (by decide +kernel) rfl, gt_mem (i := 6) (by decide +kernel) rfl, by decide, fun r hr => by cases hr; rfl⟩
theorem kX3_63 : KV RX3 63 4 mX4_beginAt 2 := ⟨oX4_beginAt, gt_mem (i := 530) (by decide +kernel) rfl, gt_mem (i := 531) (by decide +kernel) rfl, gt_mem (i := 532) (by decide +kernel) rfl, by decide, fun r hr => by cases hr; rfl⟩
theorem kX3_67 : KV RX3 67 3 mX3_numbered 1 := ⟨oX3_numbered, gt_mem (i := 534) (by decide +kernel) rfl, gt_mem (i := 535) (by decide +kernel) rfl, gt_mem (i := 536) (by decide +kernel) rfl, by decide, fun r hr => by cases hr; rfl⟩
theorem kX3_71 : KV RX3 71 4 mX4_grow 1 := ⟨oX4_grow, gt_mem (i := 538) (by decide +kernel) rfl, gt_mem (i := 539) (by decide +kernel) rfl, gt_mem (i := 540) (by decide +kernel) rfl, by decide, fun r hr => by cases hr; rfl⟩
theorem kX4_20 : KSN RX4 20 mX7_isScalarLength 1 := ⟨oX7_isScalarLength, ⟨"AggregateSplitter", by decide +kernel⟩, gt_mem (i := 362) (by decide +kernel) rfl⟩
theorem kX0_56 : KV RX0 56 0 mX0_cutIntoPieces 2 := ⟨oX0_cutIntoPieces, gt_mem (i := 543) (by decide +kernel) rfl, gt_mem (i := 545) (by decide +kernel) rfl, gt_mem (i := 7) (by decide +kernel) rfl, by decide, fun r hr => by cases hr; rfl⟩
theorem kX0_105 : KV RX0 105 0 mX0_beginsPiece 2 := ⟨oX0_beginsPiece, gt_mem (i := 547) (by decide +kernel) rfl, gt_mem (i := 549) (by decide +kernel) rfl, gt_mem (i := 8) (by decide +kernel) rfl, by decide, fun r hr => by cases hr; rfl⟩
theorem kX0_109 : KV RX0 109 3 mX3_isStart 1 := ⟨oX3_isStart, gt_mem (i := 551) (by decide +kernel) rfl, gt_mem (i := 552) (by decide +kernel) rfl, gt_mem (i := 553) (by decide +kernel) rfl, by decide, fun r hr => by cases hr; rfl⟩
theorem kX3_75 : KV RX3 75 3 mX3_holding 1 := ⟨oX3_holding, gt_mem (i := 555) (by decide +kernel) rfl, gt_mem (i := 556) (by decide +kernel) rfl, gt_mem (i := 557) (by decide +kernel) rfl, by decide, fun r hr => by cases hr; rfl⟩
theorem kX0_59 : KV RX0 59 0 mX0_touchPartitions 2 := ⟨oX0_touchPartitions, gt_mem (i := 559) (by decide +kernel) rfl, gt_mem (i := 561) (by decide +kernel) rfl, gt_mem (i := 9) (by decide +kernel) rfl, by decide, fun r hr => by cases hr; rfl⟩
theorem kX0_113 : KV RX0 113 0 mX0_target 2 := ⟨oX0_target, gt_mem (i := 563) (by decide +kernel) rfl, gt_mem (i := 564) (by decide +kernel) rfl, gt_mem (i := 565) (by decide +kernel) rfl, by decide, fun r hr => by cases hr; rfl⟩
theorem kX0_131 : KV RX0 131 3 mX3_holding 1 := ⟨oX3_holding, gt_mem (i := 567) (by decide +kernel) rfl, gt_mem (i := 556) (by decide +kernel) rfl, gt_mem (i := 557) (by decide +kernel) rfl, by decide, fun r hr => by cases hr; rfl⟩
theorem kX0_117 : KV RX0 117 4 mX4_touchWith 1 := ⟨oX4_touchWith, gt_mem (i := 568) (by decide +kernel) rfl, gt_mem (i := 569) (by decide +kernel) rfl, gt_mem (i := 570) (by decide +kernel) rfl, by decide, fun r hr => by cases hr; rfl⟩
theorem kX0_125 : KV RX0 125 0 mX0_origin 2 := ⟨oX0_origin, gt_mem (i := 572) (by decide +kernel) rfl, gt_mem (i := 573) (by decide +kernel) rfl, gt_mem (i := 574) (by decide +kernel) rfl, by decide, fun r hr => by cases hr; rfl⟩
theorem kX0_62 : KV RX0 62 0 mX0_markLive 1 := ⟨oX0_markLive, gt_mem (i := 576) (by decide +kernel) rfl, gt_mem (i := 578) (by decide +kernel) rfl, gt_mem (i := 10) (by decide +kernel) rfl, by decide, fun r hr => by cases hr; rfl⟩
theorem kX0_128 : KV RX0 128 0 mX0_passLifeToOrigins 2 := ⟨oX0_passLifeToOrigins, gt_mem (i := 580) (by decide +kernel) rfl, gt_mem (i := 582) (by decide +kernel) rfl, gt_mem (i := 11) (by decide +kernel) rfl, by decide, fun r hr => by cases hr; rfl⟩
theorem kX7_208 : KV RX7 208 0 mX0_layoutOf 1 := ⟨oX0_layoutOf, gt_mem (i := 584) (by decide +kernel) rfl, gt_mem (i := 499) (by decide +kernel) rfl, gt_mem (i := 500) (by decide +kernel) rfl, by decide, fun r hr => by cases hr; rfl⟩
theorem kX7_131 : KS RX7 131 mX7_oneIf 1 := ⟨oX7_oneIf, gt_mem (i := 585) (by decide +kernel) rfl, gt_mem (i := 586) (by decide +kernel) rfl⟩
theorem kL_75 : KV RL 75 7 mX7_partitionCount 1 := ⟨oX7_partitionCount, gt_mem (i := 588) (by decide +kernel) rfl, gt_mem (i := 589) (by decide +kernel) rfl, gt_mem (i := 590) (by decide +kernel) rfl, by decide, fun r hr => by cases hr; rfl⟩
theorem kL_79 : KV RL 79 7 mX7_partitionStart 2 := ⟨oX7_partitionStart, gt_mem (i := 592) (by decide +kernel) rfl, gt_mem (i := 593) (by decide +kernel) rfl, gt_mem (i := 594) (by decide +kernel) rfl, by decide, fun r hr => by cases hr; rfl⟩
theorem kX7_138 : KV RX7 138 7 mX7_partitionNow 2 := ⟨oX7_partitionNow, gt_mem (i := 596) (by decide +kernel) rfl, gt_mem (i := 598) (by decide +kernel) rfl, gt_mem (i := 12) (by decide +kernel) rfl, by decide, fun r hr => by cases hr; rfl⟩
theorem kX7_211 : KV RX7 211 3 mX3_numbered 1 := ⟨oX3_numbered, gt_mem (i := 600) (by decide +kernel) rfl, gt_mem (i := 535) (by decide +kernel) rfl, gt_mem (i := 536) (by decide +kernel) rfl, by decide, fun r hr => by cases hr; rfl⟩
theorem kL_83 : KV RL 83 7 mX7_partitionLength 2 := ⟨oX7_partitionLength, gt_mem (i := 601) (by decide +kernel) rfl, gt_mem (i := 602) (by decide +kernel) rfl, gt_mem (i := 603) (by decide +kernel) rfl, by decide, fun r hr => by cases hr; rfl⟩
theorem kL_87 : KV RL 87 7 mX7_isPromotable 2 := ⟨oX7_isPromotable, gt_mem (i := 605) (by decide +kernel) rfl, gt_mem (i := 606) (by decide +kernel) rfl, gt_mem (i := 607) (by decide +kernel) rfl, by decide, fun r hr => by cases hr; rfl⟩
theorem kL_91 : KV RL 91 7 mX7_isLive 2 := ⟨oX7_isLive, gt_mem (i := 609) (by decide +kernel) rfl, gt_mem (i := 610) (by decide +kernel) rfl, gt_mem (i := 611) (by decide +kernel) rfl, by decide, fun r hr => by cases hr; rfl⟩
theorem kL_95 : KV RL 95 7 mX7_paddingBytes 1 := ⟨oX7_paddingBytes, gt_mem (i := 613) (by decide +kernel) rfl, gt_mem (i := 614) (by decide +kernel) rfl, gt_mem (i := 615) (by decide +kernel) rfl, by decide, fun r hr => by cases hr; rfl⟩
theorem kX7_156 : KV RX7 156 3 mX3_countPadding 0 := ⟨oX3_countPadding, gt_mem (i := 617) (by decide +kernel) rfl, gt_mem (i := 618) (by decide +kernel) rfl, gt_mem (i := 619) (by decide +kernel) rfl, by decide, fun r hr => by cases hr; rfl⟩
theorem kL_99 : KV RL 99 7 mX7_pieceCount 1 := ⟨oX7_pieceCount, gt_mem (i := 621) (by decide +kernel) rfl, gt_mem (i := 622) (by decide +kernel) rfl, gt_mem (i := 623) (by decide +kernel) rfl, by decide, fun r hr => by cases hr; rfl⟩
theorem kX7_166 : KV RX7 166 0 mX0_countPieces 1 := ⟨oX0_countPieces, gt_mem (i := 625) (by decide +kernel) rfl, gt_mem (i := 626) (by decide +kernel) rfl, gt_mem (i := 627) (by decide +kernel) rfl, by decide, fun r hr => by cases hr; rfl⟩
theorem kX0_135 : KSN RX0 135 mX7_oneIf 1 := ⟨oX7_oneIf, ⟨"AggregateSplitter", by decide +kernel⟩, gt_mem (i := 586) (by decide +kernel) rfl⟩
theorem kL_103 : KV RL 103 7 mX7_pieceLength 2 := ⟨oX7_pieceLength, gt_mem (i := 630) (by decide +kernel) rfl, gt_mem (i := 631) (by decide +kernel) rfl, gt_mem (i := 632) (by decide +kernel) rfl, by decide, fun r hr => by cases hr; rfl⟩
theorem kX7_169 : KV RX7 169 0 mX0_lengthOfPiece 2 := ⟨oX0_lengthOfPiece, gt_mem (i := 634) (by decide +kernel) rfl, gt_mem (i := 635) (by decide +kernel) rfl, gt_mem (i := 636) (by decide +kernel) rfl, by decide, fun r hr => by cases hr; rfl⟩
theorem kL_107 : KV RL 107 7 mX7_scalarCount 0 := ⟨oX7_scalarCount, gt_mem (i := 638) (by decide +kernel) rfl, gt_mem (i := 639) (by decide +kernel) rfl, gt_mem (i := 640) (by decide +kernel) rfl, by decide, fun r hr => by cases hr; rfl⟩
theorem kX7_173 : KV RX7 173 3 mX3_countScalars 0 := ⟨oX3_countScalars, gt_mem (i := 642) (by decide +kernel) rfl, gt_mem (i := 643) (by decide +kernel) rfl, gt_mem (i := 644) (by decide +kernel) rfl, by decide, fun r hr => by cases hr; rfl⟩
theorem kX3_90 : KSN RX3 90 mX7_oneIf 1 := ⟨oX7_oneIf, ⟨"AggregateSplitter", by decide +kernel⟩, gt_mem (i := 586) (by decide +kernel) rfl⟩
theorem kL_111 : KV RL 111 7 mX7_liveBytes 0 := ⟨oX7_liveBytes, gt_mem (i := 647) (by decide +kernel) rfl, gt_mem (i := 648) (by decide +kernel) rfl, gt_mem (i := 649) (by decide +kernel) rfl, by decide, fun r hr => by cases hr; rfl⟩
theorem kX7_176 : KV RX7 176 3 mX3_countLiveBytes 0 := ⟨oX3_countLiveBytes, gt_mem (i := 651) (by decide +kernel) rfl, gt_mem (i := 652) (by decide +kernel) rfl, gt_mem (i := 653) (by decide +kernel) rfl, by decide, fun r hr => by cases hr; rfl⟩
theorem kL_115 : KV RL 115 7 mX7_trapPosition 0 := ⟨oX7_trapPosition, gt_mem (i := 655) (by decide +kernel) rfl, gt_mem (i := 656) (by decide +kernel) rfl, gt_mem (i := 657) (by decide +kernel) rfl, by decide, fun r hr => by cases hr; rfl⟩
theorem kX7_179 : KV RX7 179 7 mX7_runOf 1 := ⟨oX7_runOf, gt_mem (i := 659) (by decide +kernel) rfl, gt_mem (i := 661) (by decide +kernel) rfl, gt_mem (i := 13) (by decide +kernel) rfl, by decide, fun r hr => by cases hr; rfl⟩
theorem kX7_215 : KV RX7 215 6 mX6_execute 1 := ⟨oX6_execute, gt_mem (i := 663) (by decide +kernel) rfl, gt_mem (i := 664) (by decide +kernel) rfl, gt_mem (i := 665) (by decide +kernel) rfl, by decide, fun r hr => by cases hr; rfl⟩
theorem kX6_31 : KV RX6 31 6 mX6_clear 1 := ⟨oX6_clear, gt_mem (i := 667) (by decide +kernel) rfl, gt_mem (i := 669) (by decide +kernel) rfl, gt_mem (i := 14) (by decide +kernel) rfl, by decide, fun r hr => by cases hr; rfl⟩
theorem kX6_47 : KV RX6 47 5 mX5_at 1 := ⟨oX5_at, gt_mem (i := 671) (by decide +kernel) rfl, gt_mem (i := 445) (by decide +kernel) rfl, gt_mem (i := 446) (by decide +kernel) rfl, by decide, fun r hr => by cases hr; rfl⟩
theorem kX6_51 : KV RX6 51 6 mX6_perform 2 := ⟨oX6_perform, gt_mem (i := 672) (by decide +kernel) rfl, gt_mem (i := 674) (by decide +kernel) rfl, gt_mem (i := 15) (by decide +kernel) rfl, by decide, fun r hr => by cases hr; rfl⟩
theorem kX6_73 : KV RX6 73 6 mX6_store 1 := ⟨oX6_store, gt_mem (i := 676) (by decide +kernel) rfl, gt_mem (i := 678) (by decide +kernel) rfl, gt_mem (i := 16) (by decide +kernel) rfl, by decide, fun r hr => by cases hr; rfl⟩
theorem kX6_111 : KV RX6 111 0 mX0_target 2 := ⟨oX0_target, gt_mem (i := 680) (by decide +kernel) rfl, gt_mem (i := 564) (by decide +kernel) rfl, gt_mem (i := 565) (by decide +kernel) rfl, by decide, fun r hr => by cases hr; rfl⟩
theorem kX6_126 : KV RX6 126 6 mX6_priceOfAccess 1 := ⟨oX6_priceOfAccess, gt_mem (i := 681) (by decide +kernel) rfl, gt_mem (i := 683) (by decide +kernel) rfl, gt_mem (i := 17) (by decide +kernel) rfl, by decide, fun r hr => by cases hr; rfl⟩
theorem kX6_77 : KV RX6 77 6 mX6_load 1 := ⟨oX6_load, gt_mem (i := 685) (by decide +kernel) rfl, gt_mem (i := 687) (by decide +kernel) rfl, gt_mem (i := 18) (by decide +kernel) rfl, by decide, fun r hr => by cases hr; rfl⟩
theorem kX6_85 : KV RX6 85 6 mX6_copyLivePieces 2 := ⟨oX6_copyLivePieces, gt_mem (i := 689) (by decide +kernel) rfl, gt_mem (i := 691) (by decide +kernel) rfl, gt_mem (i := 19) (by decide +kernel) rfl, by decide, fun r hr => by cases hr; rfl⟩
theorem kX6_133 : KV RX6 133 6 mX6_moveBytes 3 := ⟨oX6_moveBytes, gt_mem (i := 693) (by decide +kernel) rfl, gt_mem (i := 695) (by decide +kernel) rfl, gt_mem (i := 20) (by decide +kernel) rfl, by decide, fun r hr => by cases hr; rfl⟩
theorem kX6_137 : KV RX6 137 0 mX0_origin 2 := ⟨oX0_origin, gt_mem (i := 697) (by decide +kernel) rfl, gt_mem (i := 573) (by decide +kernel) rfl, gt_mem (i := 574) (by decide +kernel) rfl, by decide, fun r hr => by cases hr; rfl⟩
theorem kX6_140 : KS RX6 140 mX6_priceOfPiece 3 := ⟨oX6_priceOfPiece, gt_mem (i := 698) (by decide +kernel) rfl, gt_mem (i := 699) (by decide +kernel) rfl⟩
theorem kX6_89 : KV RX6 89 6 mX6_copyWhole 1 := ⟨oX6_copyWhole, gt_mem (i := 701) (by decide +kernel) rfl, gt_mem (i := 703) (by decide +kernel) rfl, gt_mem (i := 21) (by decide +kernel) rfl, by decide, fun r hr => by cases hr; rfl⟩
theorem kX6_95 : KV RX6 95 6 mX6_escape 1 := ⟨oX6_escape, gt_mem (i := 705) (by decide +kernel) rfl, gt_mem (i := 707) (by decide +kernel) rfl, gt_mem (i := 22) (by decide +kernel) rfl, by decide, fun r hr => by cases hr; rfl⟩
theorem kX6_150 : KV RX6 150 5 mX5_sizeOf 1 := ⟨oX5_sizeOf, gt_mem (i := 709) (by decide +kernel) rfl, gt_mem (i := 369) (by decide +kernel) rfl, gt_mem (i := 370) (by decide +kernel) rfl, by decide, fun r hr => by cases hr; rfl⟩
theorem kX6_105 : KV RX6 105 6 mX6_add 2 := ⟨oX6_add, gt_mem (i := 710) (by decide +kernel) rfl, gt_mem (i := 712) (by decide +kernel) rfl, gt_mem (i := 23) (by decide +kernel) rfl, by decide, fun r hr => by cases hr; rfl⟩
theorem kX6_108 : KV RX6 108 6 mX6_output 1 := ⟨oX6_output, gt_mem (i := 714) (by decide +kernel) rfl, gt_mem (i := 716) (by decide +kernel) rfl, gt_mem (i := 24) (by decide +kernel) rfl, by decide, fun r hr => by cases hr; rfl⟩
theorem kL_119 : KV RL 119 7 mX7_outputCount 1 := ⟨oX7_outputCount, gt_mem (i := 718) (by decide +kernel) rfl, gt_mem (i := 719) (by decide +kernel) rfl, gt_mem (i := 720) (by decide +kernel) rfl, by decide, fun r hr => by cases hr; rfl⟩
theorem kX7_186 : KS RX7 186 mX7_isForm 1 := ⟨oX7_isForm, gt_mem (i := 722) (by decide +kernel) rfl, gt_mem (i := 723) (by decide +kernel) rfl⟩
theorem kL_123 : KV RL 123 7 mX7_outputAt 2 := ⟨oX7_outputAt, gt_mem (i := 725) (by decide +kernel) rfl, gt_mem (i := 726) (by decide +kernel) rfl, gt_mem (i := 727) (by decide +kernel) rfl, by decide, fun r hr => by cases hr; rfl⟩
theorem kX7_192 : KV RX7 192 6 mX6_outputOf 1 := ⟨oX6_outputOf, gt_mem (i := 729) (by decide +kernel) rfl, gt_mem (i := 730) (by decide +kernel) rfl, gt_mem (i := 731) (by decide +kernel) rfl, by decide, fun r hr => by cases hr; rfl⟩
theorem kL_127 : KV RL 127 7 mX7_checksum 1 := ⟨oX7_checksum, gt_mem (i := 733) (by decide +kernel) rfl, gt_mem (i := 734) (by decide +kernel) rfl, gt_mem (i := 735) (by decide +kernel) rfl, by decide, fun r hr => by cases hr; rfl⟩
theorem kL_131 : KV RL 131 7 mX7_cost 1 := ⟨oX7_cost, gt_mem (i := 737) (by decide +kernel) rfl, gt_mem (i := 738) (by decide +kernel) rfl, gt_mem (i := 739) (by decide +kernel) rfl, by decide, fun r hr => by cases hr; rfl⟩
theorem kL_12 : KI RL 12 mX8_init 0 := ⟨oX8_init, gt_mem (i := 743) (by decide +kernel) rfl, gt_mem (i := 744) (by decide +kernel) rfl, rfl, rfl⟩
theorem kX8_1 : Cond.methodLink RX8 1 objectInit ∈ gt := gt_mem (i := 746) (by decide +kernel) rfl
theorem kL_17 : KV RL 17 8 mX8_declareRecord 1 := ⟨oX8_declareRecord, gt_mem (i := 796) (by decide +kernel) rfl, gt_mem (i := 797) (by decide +kernel) rfl, gt_mem (i := 798) (by decide +kernel) rfl, by decide, fun r hr => by cases hr; rfl⟩
theorem kX8_48 : KS RX8 48 mX8_in 3 := ⟨oX8_in, gt_mem (i := 800) (by decide +kernel) rfl, gt_mem (i := 801) (by decide +kernel) rfl⟩
theorem kX8_56 : KV RX8 56 8 mX8_note 0 := ⟨oX8_note, gt_mem (i := 803) (by decide +kernel) rfl, gt_mem (i := 805) (by decide +kernel) rfl, gt_mem (i := 25) (by decide +kernel) rfl, by decide, fun r hr => by cases hr; rfl⟩
theorem kL_22 : KV RL 22 8 mX8_appendStore 4 := ⟨oX8_appendStore, gt_mem (i := 807) (by decide +kernel) rfl, gt_mem (i := 808) (by decide +kernel) rfl, gt_mem (i := 809) (by decide +kernel) rfl, by decide, fun r hr => by cases hr; rfl⟩
theorem kX8_59 : KS RX8 59 mX8_isWidth 1 := ⟨oX8_isWidth, gt_mem (i := 811) (by decide +kernel) rfl, gt_mem (i := 812) (by decide +kernel) rfl⟩
theorem kX8_62 : KV RX8 62 8 mX8_isRange 3 := ⟨oX8_isRange, gt_mem (i := 814) (by decide +kernel) rfl, gt_mem (i := 816) (by decide +kernel) rfl, gt_mem (i := 26) (by decide +kernel) rfl, by decide, fun r hr => by cases hr; rfl⟩
theorem kX8_52 : KV RX8 52 8 mX8_isRecord 1 := ⟨oX8_isRecord, gt_mem (i := 818) (by decide +kernel) rfl, gt_mem (i := 820) (by decide +kernel) rfl, gt_mem (i := 27) (by decide +kernel) rfl, by decide, fun r hr => by cases hr; rfl⟩
theorem kX8_65 : KS RX8 65 mX8_isRegister 1 := ⟨oX8_isRegister, gt_mem (i := 822) (by decide +kernel) rfl, gt_mem (i := 823) (by decide +kernel) rfl⟩
theorem kX8_68 : KV RX8 68 8 mX8_append 6 := ⟨oX8_append, gt_mem (i := 825) (by decide +kernel) rfl, gt_mem (i := 827) (by decide +kernel) rfl, gt_mem (i := 28) (by decide +kernel) rfl, by decide, fun r hr => by cases hr; rfl⟩
theorem kL_26 : KV RL 26 8 mX8_appendLoad 4 := ⟨oX8_appendLoad, gt_mem (i := 829) (by decide +kernel) rfl, gt_mem (i := 830) (by decide +kernel) rfl, gt_mem (i := 831) (by decide +kernel) rfl, by decide, fun r hr => by cases hr; rfl⟩
theorem kL_31 : KV RL 31 8 mX8_appendCopy 5 := ⟨oX8_appendCopy, gt_mem (i := 833) (by decide +kernel) rfl, gt_mem (i := 834) (by decide +kernel) rfl, gt_mem (i := 835) (by decide +kernel) rfl, by decide, fun r hr => by cases hr; rfl⟩
theorem kL_35 : KV RL 35 8 mX8_appendEscape 1 := ⟨oX8_appendEscape, gt_mem (i := 837) (by decide +kernel) rfl, gt_mem (i := 838) (by decide +kernel) rfl, gt_mem (i := 839) (by decide +kernel) rfl, by decide, fun r hr => by cases hr; rfl⟩
theorem kL_40 : KV RL 40 8 mX8_appendConstant 2 := ⟨oX8_appendConstant, gt_mem (i := 841) (by decide +kernel) rfl, gt_mem (i := 842) (by decide +kernel) rfl, gt_mem (i := 843) (by decide +kernel) rfl, by decide, fun r hr => by cases hr; rfl⟩
theorem kL_45 : KV RL 45 8 mX8_appendAdd 3 := ⟨oX8_appendAdd, gt_mem (i := 845) (by decide +kernel) rfl, gt_mem (i := 846) (by decide +kernel) rfl, gt_mem (i := 847) (by decide +kernel) rfl, by decide, fun r hr => by cases hr; rfl⟩
theorem kL_49 : KV RL 49 8 mX8_appendSkip 2 := ⟨oX8_appendSkip, gt_mem (i := 849) (by decide +kernel) rfl, gt_mem (i := 850) (by decide +kernel) rfl, gt_mem (i := 851) (by decide +kernel) rfl, by decide, fun r hr => by cases hr; rfl⟩
theorem kL_53 : KV RL 53 8 mX8_appendOutput 1 := ⟨oX8_appendOutput, gt_mem (i := 853) (by decide +kernel) rfl, gt_mem (i := 854) (by decide +kernel) rfl, gt_mem (i := 855) (by decide +kernel) rfl, by decide, fun r hr => by cases hr; rfl⟩
theorem kL_57 : KV RL 57 8 mX8_removeInstruction 1 := ⟨oX8_removeInstruction, gt_mem (i := 857) (by decide +kernel) rfl, gt_mem (i := 858) (by decide +kernel) rfl, gt_mem (i := 859) (by decide +kernel) rfl, by decide, fun r hr => by cases hr; rfl⟩
theorem kL_62 : KV RL 62 8 mX8_undo 0 := ⟨oX8_undo, gt_mem (i := 861) (by decide +kernel) rfl, gt_mem (i := 862) (by decide +kernel) rfl, gt_mem (i := 863) (by decide +kernel) rfl, by decide, fun r hr => by cases hr; rfl⟩
theorem kL_66 : KV RL 66 8 mX8_recordCount 0 := ⟨oX8_recordCount, gt_mem (i := 865) (by decide +kernel) rfl, gt_mem (i := 866) (by decide +kernel) rfl, gt_mem (i := 867) (by decide +kernel) rfl, by decide, fun r hr => by cases hr; rfl⟩
theorem kL_70 : KV RL 70 8 mX8_instructionCount 0 := ⟨oX8_instructionCount, gt_mem (i := 869) (by decide +kernel) rfl, gt_mem (i := 870) (by decide +kernel) rfl, gt_mem (i := 871) (by decide +kernel) rfl, by decide, fun r hr => by cases hr; rfl⟩
theorem kL_74 : KV RL 74 8 mX8_escapes 1 := ⟨oX8_escapes, gt_mem (i := 873) (by decide +kernel) rfl, gt_mem (i := 874) (by decide +kernel) rfl, gt_mem (i := 875) (by decide +kernel) rfl, by decide, fun r hr => by cases hr; rfl⟩
theorem kX8_90 : KV RX8 90 8 mX8_doesEscape 1 := ⟨oX8_doesEscape, gt_mem (i := 877) (by decide +kernel) rfl, gt_mem (i := 879) (by decide +kernel) rfl, gt_mem (i := 29) (by decide +kernel) rfl, by decide, fun r hr => by cases hr; rfl⟩
theorem kX8_72 : KV RX8 72 8 mX8_of 2 := ⟨oX8_of, gt_mem (i := 881) (by decide +kernel) rfl, gt_mem (i := 883) (by decide +kernel) rfl, gt_mem (i := 30) (by decide +kernel) rfl, by decide, fun r hr => by cases hr; rfl⟩
theorem kL_78 : KV RL 78 8 mX8_partitionCount 1 := ⟨oX8_partitionCount, gt_mem (i := 885) (by decide +kernel) rfl, gt_mem (i := 886) (by decide +kernel) rfl, gt_mem (i := 887) (by decide +kernel) rfl, by decide, fun r hr => by cases hr; rfl⟩
theorem kX8_106 : KV RX8 106 8 mX8_findParts 1 := ⟨oX8_findParts, gt_mem (i := 889) (by decide +kernel) rfl, gt_mem (i := 891) (by decide +kernel) rfl, gt_mem (i := 31) (by decide +kernel) rfl, by decide, fun r hr => by cases hr; rfl⟩
theorem kX8_100 : KV RX8 100 8 mX8_isParted 2 := ⟨oX8_isParted, gt_mem (i := 893) (by decide +kernel) rfl, gt_mem (i := 895) (by decide +kernel) rfl, gt_mem (i := 32) (by decide +kernel) rfl, by decide, fun r hr => by cases hr; rfl⟩
theorem kX8_86 : KV RX8 86 8 mX8_isAccessed 3 := ⟨oX8_isAccessed, gt_mem (i := 897) (by decide +kernel) rfl, gt_mem (i := 899) (by decide +kernel) rfl, gt_mem (i := 33) (by decide +kernel) rfl, by decide, fun r hr => by cases hr; rfl⟩
theorem kX8_76 : KV RX8 76 8 mX8_isAccess 1 := ⟨oX8_isAccess, gt_mem (i := 901) (by decide +kernel) rfl, gt_mem (i := 903) (by decide +kernel) rfl, gt_mem (i := 34) (by decide +kernel) rfl, by decide, fun r hr => by cases hr; rfl⟩
theorem kX8_79 : KS RX8 79 mX8_holds 3 := ⟨oX8_holds, gt_mem (i := 905) (by decide +kernel) rfl, gt_mem (i := 906) (by decide +kernel) rfl⟩
theorem kX8_93 : KV RX8 93 8 mX8_isSoft 2 := ⟨oX8_isSoft, gt_mem (i := 908) (by decide +kernel) rfl, gt_mem (i := 910) (by decide +kernel) rfl, gt_mem (i := 35) (by decide +kernel) rfl, by decide, fun r hr => by cases hr; rfl⟩
theorem kX8_82 : KV RX8 82 8 mX8_isCopied 4 := ⟨oX8_isCopied, gt_mem (i := 912) (by decide +kernel) rfl, gt_mem (i := 914) (by decide +kernel) rfl, gt_mem (i := 36) (by decide +kernel) rfl, by decide, fun r hr => by cases hr; rfl⟩
theorem kX8_103 : KV RX8 103 8 mX8_goesOn 2 := ⟨oX8_goesOn, gt_mem (i := 916) (by decide +kernel) rfl, gt_mem (i := 918) (by decide +kernel) rfl, gt_mem (i := 37) (by decide +kernel) rfl, by decide, fun r hr => by cases hr; rfl⟩
theorem kX8_97 : KV RX8 97 8 mX8_areCopiedAlike 2 := ⟨oX8_areCopiedAlike, gt_mem (i := 920) (by decide +kernel) rfl, gt_mem (i := 922) (by decide +kernel) rfl, gt_mem (i := 38) (by decide +kernel) rfl, by decide, fun r hr => by cases hr; rfl⟩
theorem kL_82 : KV RL 82 8 mX8_partitionStart 2 := ⟨oX8_partitionStart, gt_mem (i := 924) (by decide +kernel) rfl, gt_mem (i := 925) (by decide +kernel) rfl, gt_mem (i := 926) (by decide +kernel) rfl, by decide, fun r hr => by cases hr; rfl⟩
theorem kX8_141 : KV RX8 141 8 mX8_isPart 2 := ⟨oX8_isPart, gt_mem (i := 928) (by decide +kernel) rfl, gt_mem (i := 930) (by decide +kernel) rfl, gt_mem (i := 39) (by decide +kernel) rfl, by decide, fun r hr => by cases hr; rfl⟩
theorem kX8_138 : KV RX8 138 8 mX8_analyse 0 := ⟨oX8_analyse, gt_mem (i := 932) (by decide +kernel) rfl, gt_mem (i := 934) (by decide +kernel) rfl, gt_mem (i := 40) (by decide +kernel) rfl, by decide, fun r hr => by cases hr; rfl⟩
theorem kX8_129 : KV RX8 129 8 mX8_findAllParts 0 := ⟨oX8_findAllParts, gt_mem (i := 936) (by decide +kernel) rfl, gt_mem (i := 938) (by decide +kernel) rfl, gt_mem (i := 41) (by decide +kernel) rfl, by decide, fun r hr => by cases hr; rfl⟩
theorem kX8_132 : KV RX8 132 8 mX8_findPromotable 0 := ⟨oX8_findPromotable, gt_mem (i := 940) (by decide +kernel) rfl, gt_mem (i := 942) (by decide +kernel) rfl, gt_mem (i := 42) (by decide +kernel) rfl, by decide, fun r hr => by cases hr; rfl⟩
theorem kX8_119 : KV RX8 119 8 mX8_restrict 3 := ⟨oX8_restrict, gt_mem (i := 944) (by decide +kernel) rfl, gt_mem (i := 946) (by decide +kernel) rfl, gt_mem (i := 43) (by decide +kernel) rfl, by decide, fun r hr => by cases hr; rfl⟩
theorem kX8_110 : KV RX8 110 8 mX8_placeOf 2 := ⟨oX8_placeOf, gt_mem (i := 948) (by decide +kernel) rfl, gt_mem (i := 950) (by decide +kernel) rfl, gt_mem (i := 44) (by decide +kernel) rfl, by decide, fun r hr => by cases hr; rfl⟩
theorem kX8_123 : KV RX8 123 8 mX8_restrictPieces 1 := ⟨oX8_restrictPieces, gt_mem (i := 952) (by decide +kernel) rfl, gt_mem (i := 954) (by decide +kernel) rfl, gt_mem (i := 45) (by decide +kernel) rfl, by decide, fun r hr => by cases hr; rfl⟩
theorem kX8_116 : KV RX8 116 8 mX8_pieceAt 2 := ⟨oX8_pieceAt, gt_mem (i := 956) (by decide +kernel) rfl, gt_mem (i := 958) (by decide +kernel) rfl, gt_mem (i := 46) (by decide +kernel) rfl, by decide, fun r hr => by cases hr; rfl⟩
theorem kX8_113 : KV RX8 113 8 mX8_beginsAt 2 := ⟨oX8_beginsAt, gt_mem (i := 960) (by decide +kernel) rfl, gt_mem (i := 962) (by decide +kernel) rfl, gt_mem (i := 47) (by decide +kernel) rfl, by decide, fun r hr => by cases hr; rfl⟩
theorem kX8_135 : KV RX8 135 8 mX8_findLive 0 := ⟨oX8_findLive, gt_mem (i := 964) (by decide +kernel) rfl, gt_mem (i := 966) (by decide +kernel) rfl, gt_mem (i := 48) (by decide +kernel) rfl, by decide, fun r hr => by cases hr; rfl⟩
theorem kX8_126 : KV RX8 126 8 mX8_enliven 1 := ⟨oX8_enliven, gt_mem (i := 968) (by decide +kernel) rfl, gt_mem (i := 970) (by decide +kernel) rfl, gt_mem (i := 49) (by decide +kernel) rfl, by decide, fun r hr => by cases hr; rfl⟩
theorem kL_86 : KV RL 86 8 mX8_partitionLength 2 := ⟨oX8_partitionLength, gt_mem (i := 972) (by decide +kernel) rfl, gt_mem (i := 973) (by decide +kernel) rfl, gt_mem (i := 974) (by decide +kernel) rfl, by decide, fun r hr => by cases hr; rfl⟩
theorem kL_90 : KV RL 90 8 mX8_isPromotable 2 := ⟨oX8_isPromotable, gt_mem (i := 976) (by decide +kernel) rfl, gt_mem (i := 977) (by decide +kernel) rfl, gt_mem (i := 978) (by decide +kernel) rfl, by decide, fun r hr => by cases hr; rfl⟩
theorem kL_94 : KV RL 94 8 mX8_isLive 2 := ⟨oX8_isLive, gt_mem (i := 980) (by decide +kernel) rfl, gt_mem (i := 981) (by decide +kernel) rfl, gt_mem (i := 982) (by decide +kernel) rfl, by decide, fun r hr => by cases hr; rfl⟩
theorem kL_98 : KV RL 98 8 mX8_paddingBytes 1 := ⟨oX8_paddingBytes, gt_mem (i := 984) (by decide +kernel) rfl, gt_mem (i := 985) (by decide +kernel) rfl, gt_mem (i := 986) (by decide +kernel) rfl, by decide, fun r hr => by cases hr; rfl⟩
theorem kL_102 : KV RL 102 8 mX8_pieceCount 1 := ⟨oX8_pieceCount, gt_mem (i := 988) (by decide +kernel) rfl, gt_mem (i := 989) (by decide +kernel) rfl, gt_mem (i := 990) (by decide +kernel) rfl, by decide, fun r hr => by cases hr; rfl⟩
theorem kX8_144 : KV RX8 144 8 mX8_isCopy 1 := ⟨oX8_isCopy, gt_mem (i := 992) (by decide +kernel) rfl, gt_mem (i := 994) (by decide +kernel) rfl, gt_mem (i := 50) (by decide +kernel) rfl, by decide, fun r hr => by cases hr; rfl⟩
theorem kL_106 : KV RL 106 8 mX8_pieceLength 2 := ⟨oX8_pieceLength, gt_mem (i := 996) (by decide +kernel) rfl, gt_mem (i := 997) (by decide +kernel) rfl, gt_mem (i := 998) (by decide +kernel) rfl, by decide, fun r hr => by cases hr; rfl⟩
theorem kL_110 : KV RL 110 8 mX8_scalarCount 0 := ⟨oX8_scalarCount, gt_mem (i := 1000) (by decide +kernel) rfl, gt_mem (i := 1001) (by decide +kernel) rfl, gt_mem (i := 1002) (by decide +kernel) rfl, by decide, fun r hr => by cases hr; rfl⟩
theorem kL_114 : KV RL 114 8 mX8_liveBytes 0 := ⟨oX8_liveBytes, gt_mem (i := 1004) (by decide +kernel) rfl, gt_mem (i := 1005) (by decide +kernel) rfl, gt_mem (i := 1006) (by decide +kernel) rfl, by decide, fun r hr => by cases hr; rfl⟩
theorem kL_118 : KV RL 118 8 mX8_trapPosition 0 := ⟨oX8_trapPosition, gt_mem (i := 1008) (by decide +kernel) rfl, gt_mem (i := 1009) (by decide +kernel) rfl, gt_mem (i := 1010) (by decide +kernel) rfl, by decide, fun r hr => by cases hr; rfl⟩
theorem kX8_185 : KV RX8 185 8 mX8_runs 1 := ⟨oX8_runs, gt_mem (i := 1012) (by decide +kernel) rfl, gt_mem (i := 1014) (by decide +kernel) rfl, gt_mem (i := 51) (by decide +kernel) rfl, by decide, fun r hr => by cases hr; rfl⟩
theorem kX8_168 : KV RX8 168 8 mX8_executes 2 := ⟨oX8_executes, gt_mem (i := 1016) (by decide +kernel) rfl, gt_mem (i := 1018) (by decide +kernel) rfl, gt_mem (i := 52) (by decide +kernel) rfl, by decide, fun r hr => by cases hr; rfl⟩
theorem kX8_172 : KV RX8 172 8 mX8_access 2 := ⟨oX8_access, gt_mem (i := 1020) (by decide +kernel) rfl, gt_mem (i := 1022) (by decide +kernel) rfl, gt_mem (i := 53) (by decide +kernel) rfl, by decide, fun r hr => by cases hr; rfl⟩
theorem kX8_153 : KV RX8 153 8 mX8_load 1 := ⟨oX8_load, gt_mem (i := 1024) (by decide +kernel) rfl, gt_mem (i := 1026) (by decide +kernel) rfl, gt_mem (i := 54) (by decide +kernel) rfl, by decide, fun r hr => by cases hr; rfl⟩
theorem kX8_156 : KV RX8 156 8 mX8_store 1 := ⟨oX8_store, gt_mem (i := 1028) (by decide +kernel) rfl, gt_mem (i := 1030) (by decide +kernel) rfl, gt_mem (i := 55) (by decide +kernel) rfl, by decide, fun r hr => by cases hr; rfl⟩
theorem kX8_176 : KV RX8 176 8 mX8_copyPieces 1 := ⟨oX8_copyPieces, gt_mem (i := 1032) (by decide +kernel) rfl, gt_mem (i := 1034) (by decide +kernel) rfl, gt_mem (i := 56) (by decide +kernel) rfl, by decide, fun r hr => by cases hr; rfl⟩
theorem kX8_159 : KV RX8 159 8 mX8_copyBytes 3 := ⟨oX8_copyBytes, gt_mem (i := 1036) (by decide +kernel) rfl, gt_mem (i := 1038) (by decide +kernel) rfl, gt_mem (i := 57) (by decide +kernel) rfl, by decide, fun r hr => by cases hr; rfl⟩
theorem kX8_179 : KV RX8 179 8 mX8_escape 1 := ⟨oX8_escape, gt_mem (i := 1040) (by decide +kernel) rfl, gt_mem (i := 1042) (by decide +kernel) rfl, gt_mem (i := 58) (by decide +kernel) rfl, by decide, fun r hr => by cases hr; rfl⟩
theorem kX8_182 : KV RX8 182 8 mX8_adds 1 := ⟨oX8_adds, gt_mem (i := 1044) (by decide +kernel) rfl, gt_mem (i := 1046) (by decide +kernel) rfl, gt_mem (i := 59) (by decide +kernel) rfl, by decide, fun r hr => by cases hr; rfl⟩
theorem kL_122 : KV RL 122 8 mX8_outputCount 1 := ⟨oX8_outputCount, gt_mem (i := 1048) (by decide +kernel) rfl, gt_mem (i := 1049) (by decide +kernel) rfl, gt_mem (i := 1050) (by decide +kernel) rfl, by decide, fun r hr => by cases hr; rfl⟩
theorem kX8_189 : KS RX8 189 mX8_isProgram 1 := ⟨oX8_isProgram, gt_mem (i := 1052) (by decide +kernel) rfl, gt_mem (i := 1053) (by decide +kernel) rfl⟩
theorem kL_126 : KV RL 126 8 mX8_outputAt 2 := ⟨oX8_outputAt, gt_mem (i := 1055) (by decide +kernel) rfl, gt_mem (i := 1056) (by decide +kernel) rfl, gt_mem (i := 1057) (by decide +kernel) rfl, by decide, fun r hr => by cases hr; rfl⟩
theorem kL_130 : KV RL 130 8 mX8_checksum 1 := ⟨oX8_checksum, gt_mem (i := 1059) (by decide +kernel) rfl, gt_mem (i := 1060) (by decide +kernel) rfl, gt_mem (i := 1061) (by decide +kernel) rfl, by decide, fun r hr => by cases hr; rfl⟩
theorem kL_134 : KV RL 134 8 mX8_cost 1 := ⟨oX8_cost, gt_mem (i := 1063) (by decide +kernel) rfl, gt_mem (i := 1064) (by decide +kernel) rfl, gt_mem (i := 1065) (by decide +kernel) rfl, by decide, fun r hr => by cases hr; rfl⟩
theorem fX2_9 : FL RX2 9 2 0 := ⟨RX2, TX2, tyX2, 10, rfl, by decide, by decide, gt_mem (i := 92) (by decide +kernel) rfl, iX2, tyX2_ok, nmX2⟩
theorem wX2_9 : FF RX2 9 2 0 .int := ⟨fX2_9, fun C T N h => by cases h; exact ⟨rfl, rfl, by decide +kernel⟩⟩
theorem fX0_89 : FL RX0 89 2 0 := ⟨RX2, TX2, tyX2, 10, rfl, by decide, by decide, gt_mem (i := 93) (by decide +kernel) rfl, iX2, tyX2_ok, nmX2⟩
theorem fX6_68 : FL RX6 68 2 0 := ⟨RX2, TX2, tyX2, 10, rfl, by decide, by decide, gt_mem (i := 94) (by decide +kernel) rfl, iX2, tyX2_ok, nmX2⟩
theorem fX7_160 : FL RX7 160 2 0 := ⟨RX2, TX2, tyX2, 10, rfl, by decide, by decide, gt_mem (i := 95) (by decide +kernel) rfl, iX2, tyX2_ok, nmX2⟩
theorem fX2_27 : FL RX2 27 2 1 := ⟨RX2, TX2, tyX2, 10, rfl, by decide, by decide, gt_mem (i := 96) (by decide +kernel) rfl, iX2, tyX2_ok, nmX2⟩
theorem wX2_27 : FW RX2 27 2 1 .int := ⟨fX2_27, fun C T N h => by cases h; exact ⟨rfl, by decide +kernel⟩⟩
theorem fX6_99 : FL RX6 99 2 1 := ⟨RX2, TX2, tyX2, 10, rfl, by decide, by decide, gt_mem (i := 97) (by decide +kernel) rfl, iX2, tyX2_ok, nmX2⟩
theorem wX6_99 : FW RX6 99 2 1 .int := ⟨fX6_99, fun C T N h => by cases h; exact ⟨rfl, by decide +kernel⟩⟩
theorem fX2_18 : FL RX2 18 2 2 := ⟨RX2, TX2, tyX2, 10, rfl, by decide, by decide, gt_mem (i := 98) (by decide +kernel) rfl, iX2, tyX2_ok, nmX2⟩
theorem wX2_18 : FW RX2 18 2 2 .int := ⟨fX2_18, fun C T N h => by cases h; exact ⟨rfl, by decide +kernel⟩⟩
theorem fX0_66 : FL RX0 66 2 2 := ⟨RX2, TX2, tyX2, 10, rfl, by decide, by decide, gt_mem (i := 99) (by decide +kernel) rfl, iX2, tyX2_ok, nmX2⟩
theorem wX0_66 : FW RX0 66 2 2 .int := ⟨fX0_66, fun C T N h => by cases h; exact ⟨rfl, by decide +kernel⟩⟩
theorem fX6_92 : FL RX6 92 2 2 := ⟨RX2, TX2, tyX2, 10, rfl, by decide, by decide, gt_mem (i := 100) (by decide +kernel) rfl, iX2, tyX2_ok, nmX2⟩
theorem wX6_92 : FW RX6 92 2 2 .int := ⟨fX6_92, fun C T N h => by cases h; exact ⟨rfl, by decide +kernel⟩⟩
theorem fX2_21 : FL RX2 21 2 3 := ⟨RX2, TX2, tyX2, 10, rfl, by decide, by decide, gt_mem (i := 101) (by decide +kernel) rfl, iX2, tyX2_ok, nmX2⟩
theorem wX2_21 : FW RX2 21 2 3 .int := ⟨fX2_21, fun C T N h => by cases h; exact ⟨rfl, by decide +kernel⟩⟩
theorem fX0_79 : FL RX0 79 2 3 := ⟨RX2, TX2, tyX2, 10, rfl, by decide, by decide, gt_mem (i := 102) (by decide +kernel) rfl, iX2, tyX2_ok, nmX2⟩
theorem wX0_79 : FW RX0 79 2 3 .int := ⟨fX0_79, fun C T N h => by cases h; exact ⟨rfl, by decide +kernel⟩⟩
theorem fX6_123 : FL RX6 123 2 3 := ⟨RX2, TX2, tyX2, 10, rfl, by decide, by decide, gt_mem (i := 103) (by decide +kernel) rfl, iX2, tyX2_ok, nmX2⟩
theorem wX6_123 : FW RX6 123 2 3 .int := ⟨fX6_123, fun C T N h => by cases h; exact ⟨rfl, by decide +kernel⟩⟩
theorem fX2_24 : FL RX2 24 2 4 := ⟨RX2, TX2, tyX2, 10, rfl, by decide, by decide, gt_mem (i := 104) (by decide +kernel) rfl, iX2, tyX2_ok, nmX2⟩
theorem wX2_24 : FW RX2 24 2 4 .int := ⟨fX2_24, fun C T N h => by cases h; exact ⟨rfl, by decide +kernel⟩⟩
theorem fX0_82 : FL RX0 82 2 4 := ⟨RX2, TX2, tyX2, 10, rfl, by decide, by decide, gt_mem (i := 105) (by decide +kernel) rfl, iX2, tyX2_ok, nmX2⟩
theorem wX0_82 : FW RX0 82 2 4 .int := ⟨fX0_82, fun C T N h => by cases h; exact ⟨rfl, by decide +kernel⟩⟩
theorem fX6_120 : FL RX6 120 2 4 := ⟨RX2, TX2, tyX2, 10, rfl, by decide, by decide, gt_mem (i := 106) (by decide +kernel) rfl, iX2, tyX2_ok, nmX2⟩
theorem wX6_120 : FW RX6 120 2 4 .int := ⟨fX6_120, fun C T N h => by cases h; exact ⟨rfl, by decide +kernel⟩⟩
theorem fX2_30 : FL RX2 30 2 5 := ⟨RX2, TX2, tyX2, 10, rfl, by decide, by decide, gt_mem (i := 107) (by decide +kernel) rfl, iX2, tyX2_ok, nmX2⟩
theorem wX2_30 : FW RX2 30 2 5 .int := ⟨fX2_30, fun C T N h => by cases h; exact ⟨rfl, by decide +kernel⟩⟩
theorem fX0_99 : FL RX0 99 2 5 := ⟨RX2, TX2, tyX2, 10, rfl, by decide, by decide, gt_mem (i := 108) (by decide +kernel) rfl, iX2, tyX2_ok, nmX2⟩
theorem wX0_99 : FW RX0 99 2 5 .int := ⟨fX0_99, fun C T N h => by cases h; exact ⟨rfl, by decide +kernel⟩⟩
theorem fX6_144 : FL RX6 144 2 5 := ⟨RX2, TX2, tyX2, 10, rfl, by decide, by decide, gt_mem (i := 109) (by decide +kernel) rfl, iX2, tyX2_ok, nmX2⟩
theorem wX6_144 : FW RX6 144 2 5 .int := ⟨fX6_144, fun C T N h => by cases h; exact ⟨rfl, by decide +kernel⟩⟩
theorem fX2_33 : FL RX2 33 2 6 := ⟨RX2, TX2, tyX2, 10, rfl, by decide, by decide, gt_mem (i := 110) (by decide +kernel) rfl, iX2, tyX2_ok, nmX2⟩
theorem wX2_33 : FW RX2 33 2 6 .int := ⟨fX2_33, fun C T N h => by cases h; exact ⟨rfl, by decide +kernel⟩⟩
theorem fX0_102 : FL RX0 102 2 6 := ⟨RX2, TX2, tyX2, 10, rfl, by decide, by decide, gt_mem (i := 111) (by decide +kernel) rfl, iX2, tyX2_ok, nmX2⟩
theorem wX0_102 : FW RX0 102 2 6 .int := ⟨fX0_102, fun C T N h => by cases h; exact ⟨rfl, by decide +kernel⟩⟩
theorem fX6_147 : FL RX6 147 2 6 := ⟨RX2, TX2, tyX2, 10, rfl, by decide, by decide, gt_mem (i := 112) (by decide +kernel) rfl, iX2, tyX2_ok, nmX2⟩
theorem wX6_147 : FW RX6 147 2 6 .int := ⟨fX6_147, fun C T N h => by cases h; exact ⟨rfl, by decide +kernel⟩⟩
theorem fX2_36 : FL RX2 36 2 7 := ⟨RX2, TX2, tyX2, 10, rfl, by decide, by decide, gt_mem (i := 113) (by decide +kernel) rfl, iX2, tyX2_ok, nmX2⟩
theorem wX2_36 : FW RX2 36 2 7 .int := ⟨fX2_36, fun C T N h => by cases h; exact ⟨rfl, by decide +kernel⟩⟩
theorem fX6_154 : FL RX6 154 2 7 := ⟨RX2, TX2, tyX2, 10, rfl, by decide, by decide, gt_mem (i := 114) (by decide +kernel) rfl, iX2, tyX2_ok, nmX2⟩
theorem wX6_154 : FW RX6 154 2 7 .int := ⟨fX6_154, fun C T N h => by cases h; exact ⟨rfl, by decide +kernel⟩⟩
theorem fX2_39 : FL RX2 39 2 8 := ⟨RX2, TX2, tyX2, 10, rfl, by decide, by decide, gt_mem (i := 115) (by decide +kernel) rfl, iX2, tyX2_ok, nmX2⟩
theorem wX2_39 : FW RX2 39 2 8 .int := ⟨fX2_39, fun C T N h => by cases h; exact ⟨rfl, by decide +kernel⟩⟩
theorem fX6_157 : FL RX6 157 2 8 := ⟨RX2, TX2, tyX2, 10, rfl, by decide, by decide, gt_mem (i := 116) (by decide +kernel) rfl, iX2, tyX2_ok, nmX2⟩
theorem wX6_157 : FW RX6 157 2 8 .int := ⟨fX6_157, fun C T N h => by cases h; exact ⟨rfl, by decide +kernel⟩⟩
theorem fX6_102 : FL RX6 102 2 9 := ⟨RX2, TX2, tyX2, 10, rfl, by decide, by decide, gt_mem (i := 117) (by decide +kernel) rfl, iX2, tyX2_ok, nmX2⟩
theorem wX6_102 : FW RX6 102 2 9 .int := ⟨fX6_102, fun C T N h => by cases h; exact ⟨rfl, by decide +kernel⟩⟩
theorem fX2_42 : FL RX2 42 2 9 := ⟨RX2, TX2, tyX2, 10, rfl, by decide, by decide, gt_mem (i := 118) (by decide +kernel) rfl, iX2, tyX2_ok, nmX2⟩
theorem wX2_42 : FW RX2 42 2 9 .int := ⟨fX2_42, fun C T N h => by cases h; exact ⟨rfl, by decide +kernel⟩⟩
theorem fX5_9 : FL RX5 9 5 0 := ⟨RX5, TX5, tyX5, 5, rfl, by decide, by decide, gt_mem (i := 141) (by decide +kernel) rfl, iX5, tyX5_ok, nmX5⟩
theorem wX5_9 : FF RX5 9 5 0 (.array .int) := ⟨fX5_9, fun C T N h => by cases h; exact ⟨rfl, rfl, by decide +kernel⟩⟩
theorem fX5_17 : FL RX5 17 5 1 := ⟨RX5, TX5, tyX5, 5, rfl, by decide, by decide, gt_mem (i := 142) (by decide +kernel) rfl, iX5, tyX5_ok, nmX5⟩
theorem wX5_17 : FF RX5 17 5 1 (.array (.object "AggregateSplitter$Instruction")) := ⟨fX5_17, fun C T N h => by cases h; exact ⟨rfl, rfl, by decide +kernel⟩⟩
theorem fX5_24 : FL RX5 24 5 2 := ⟨RX5, TX5, tyX5, 5, rfl, by decide, by decide, gt_mem (i := 143) (by decide +kernel) rfl, iX5, tyX5_ok, nmX5⟩
theorem wX5_24 : FF RX5 24 5 2 (.object "AggregateSplitter$Instruction") := ⟨fX5_24, fun C T N h => by cases h; exact ⟨rfl, rfl, by decide +kernel⟩⟩
theorem fX7_47 : FL RX7 47 5 2 := ⟨RX5, TX5, tyX5, 5, rfl, by decide, by decide, gt_mem (i := 144) (by decide +kernel) rfl, iX5, tyX5_ok, nmX5⟩
theorem fX5_28 : FL RX5 28 5 3 := ⟨RX5, TX5, tyX5, 5, rfl, by decide, by decide, gt_mem (i := 145) (by decide +kernel) rfl, iX5, tyX5_ok, nmX5⟩
theorem wX5_28 : FW RX5 28 5 3 .int := ⟨fX5_28, fun C T N h => by cases h; exact ⟨rfl, by decide +kernel⟩⟩
theorem fX7_39 : FL RX7 39 5 3 := ⟨RX5, TX5, tyX5, 5, rfl, by decide, by decide, gt_mem (i := 146) (by decide +kernel) rfl, iX5, tyX5_ok, nmX5⟩
theorem wX7_39 : FW RX7 39 5 3 .int := ⟨fX7_39, fun C T N h => by cases h; exact ⟨rfl, by decide +kernel⟩⟩
theorem fX6_35 : FL RX6 35 5 4 := ⟨RX5, TX5, tyX5, 5, rfl, by decide, by decide, gt_mem (i := 147) (by decide +kernel) rfl, iX5, tyX5_ok, nmX5⟩
theorem wX6_35 : FW RX6 35 5 4 .int := ⟨fX6_35, fun C T N h => by cases h; exact ⟨rfl, by decide +kernel⟩⟩
theorem fX5_32 : FL RX5 32 5 4 := ⟨RX5, TX5, tyX5, 5, rfl, by decide, by decide, gt_mem (i := 148) (by decide +kernel) rfl, iX5, tyX5_ok, nmX5⟩
theorem wX5_32 : FW RX5 32 5 4 .int := ⟨fX5_32, fun C T N h => by cases h; exact ⟨rfl, by decide +kernel⟩⟩
theorem fX0_41 : FL RX0 41 5 4 := ⟨RX5, TX5, tyX5, 5, rfl, by decide, by decide, gt_mem (i := 149) (by decide +kernel) rfl, iX5, tyX5_ok, nmX5⟩
theorem wX0_41 : FW RX0 41 5 4 .int := ⟨fX0_41, fun C T N h => by cases h; exact ⟨rfl, by decide +kernel⟩⟩
theorem fX7_112 : FL RX7 112 5 4 := ⟨RX5, TX5, tyX5, 5, rfl, by decide, by decide, gt_mem (i := 150) (by decide +kernel) rfl, iX5, tyX5_ok, nmX5⟩
theorem wX7_112 : FW RX7 112 5 4 .int := ⟨fX7_112, fun C T N h => by cases h; exact ⟨rfl, by decide +kernel⟩⟩
theorem fX1_9 : FL RX1 9 1 0 := ⟨RX1, TX1, tyX1, 5, rfl, by decide, by decide, gt_mem (i := 169) (by decide +kernel) rfl, iX1, tyX1_ok, nmX1⟩
theorem wX1_9 : FF RX1 9 1 0 (.array .int) := ⟨fX1_9, fun C T N h => by cases h; exact ⟨rfl, rfl, by decide +kernel⟩⟩
theorem fX1_15 : FL RX1 15 1 1 := ⟨RX1, TX1, tyX1, 5, rfl, by decide, by decide, gt_mem (i := 170) (by decide +kernel) rfl, iX1, tyX1_ok, nmX1⟩
theorem wX1_15 : FF RX1 15 1 1 (.array .int) := ⟨fX1_15, fun C T N h => by cases h; exact ⟨rfl, rfl, by decide +kernel⟩⟩
theorem fX1_20 : FL RX1 20 1 2 := ⟨RX1, TX1, tyX1, 5, rfl, by decide, by decide, gt_mem (i := 171) (by decide +kernel) rfl, iX1, tyX1_ok, nmX1⟩
theorem wX1_20 : FF RX1 20 1 2 (.array (.object "AggregateSplitter$Instruction")) := ⟨fX1_20, fun C T N h => by cases h; exact ⟨rfl, rfl, by decide +kernel⟩⟩
theorem fX1_24 : FL RX1 24 1 3 := ⟨RX1, TX1, tyX1, 5, rfl, by decide, by decide, gt_mem (i := 172) (by decide +kernel) rfl, iX1, tyX1_ok, nmX1⟩
theorem wX1_24 : FW RX1 24 1 3 .int := ⟨fX1_24, fun C T N h => by cases h; exact ⟨rfl, by decide +kernel⟩⟩
theorem fX1_28 : FL RX1 28 1 4 := ⟨RX1, TX1, tyX1, 5, rfl, by decide, by decide, gt_mem (i := 173) (by decide +kernel) rfl, iX1, tyX1_ok, nmX1⟩
theorem wX1_28 : FW RX1 28 1 4 .int := ⟨fX1_28, fun C T N h => by cases h; exact ⟨rfl, by decide +kernel⟩⟩
theorem fX7_115 : FL RX7 115 1 4 := ⟨RX1, TX1, tyX1, 5, rfl, by decide, by decide, gt_mem (i := 174) (by decide +kernel) rfl, iX1, tyX1_ok, nmX1⟩
theorem wX7_115 : FW RX7 115 1 4 .int := ⟨fX7_115, fun C T N h => by cases h; exact ⟨rfl, by decide +kernel⟩⟩
theorem fX4_7 : FL RX4 7 4 0 := ⟨RX4, TX4, tyX4, 4, rfl, by decide, by decide, gt_mem (i := 206) (by decide +kernel) rfl, iX4, tyX4_ok, nmX4⟩
theorem wX4_7 : FW RX4 7 4 0 .int := ⟨fX4_7, fun C T N h => by cases h; exact ⟨rfl, by decide +kernel⟩⟩
theorem fX3_81 : FL RX3 81 4 0 := ⟨RX4, TX4, tyX4, 4, rfl, by decide, by decide, gt_mem (i := 207) (by decide +kernel) rfl, iX4, tyX4_ok, nmX4⟩
theorem wX3_81 : FW RX3 81 4 0 .int := ⟨fX3_81, fun C T N h => by cases h; exact ⟨rfl, by decide +kernel⟩⟩
theorem fX7_147 : FL RX7 147 4 0 := ⟨RX4, TX4, tyX4, 4, rfl, by decide, by decide, gt_mem (i := 208) (by decide +kernel) rfl, iX4, tyX4_ok, nmX4⟩
theorem wX7_147 : FW RX7 147 4 0 .int := ⟨fX7_147, fun C T N h => by cases h; exact ⟨rfl, by decide +kernel⟩⟩
theorem fX4_13 : FL RX4 13 4 1 := ⟨RX4, TX4, tyX4, 4, rfl, by decide, by decide, gt_mem (i := 209) (by decide +kernel) rfl, iX4, tyX4_ok, nmX4⟩
theorem wX4_13 : FW RX4 13 4 1 .int := ⟨fX4_13, fun C T N h => by cases h; exact ⟨rfl, by decide +kernel⟩⟩
theorem fX3_78 : FL RX3 78 4 1 := ⟨RX4, TX4, tyX4, 4, rfl, by decide, by decide, gt_mem (i := 210) (by decide +kernel) rfl, iX4, tyX4_ok, nmX4⟩
theorem wX3_78 : FW RX3 78 4 1 .int := ⟨fX3_78, fun C T N h => by cases h; exact ⟨rfl, by decide +kernel⟩⟩
theorem fX7_142 : FL RX7 142 4 1 := ⟨RX4, TX4, tyX4, 4, rfl, by decide, by decide, gt_mem (i := 211) (by decide +kernel) rfl, iX4, tyX4_ok, nmX4⟩
theorem wX7_142 : FW RX7 142 4 1 .int := ⟨fX7_142, fun C T N h => by cases h; exact ⟨rfl, by decide +kernel⟩⟩
theorem fX4_26 : FL RX4 26 4 2 := ⟨RX4, TX4, tyX4, 4, rfl, by decide, by decide, gt_mem (i := 212) (by decide +kernel) rfl, iX4, tyX4_ok, nmX4⟩
theorem wX4_26 : FW RX4 26 4 2 .boolean := ⟨fX4_26, fun C T N h => by cases h; exact ⟨rfl, by decide +kernel⟩⟩
theorem fX6_130 : FL RX6 130 4 2 := ⟨RX4, TX4, tyX4, 4, rfl, by decide, by decide, gt_mem (i := 213) (by decide +kernel) rfl, iX4, tyX4_ok, nmX4⟩
theorem wX6_130 : FW RX6 130 4 2 .boolean := ⟨fX6_130, fun C T N h => by cases h; exact ⟨rfl, by decide +kernel⟩⟩
theorem fX3_87 : FL RX3 87 4 2 := ⟨RX4, TX4, tyX4, 4, rfl, by decide, by decide, gt_mem (i := 214) (by decide +kernel) rfl, iX4, tyX4_ok, nmX4⟩
theorem wX3_87 : FW RX3 87 4 2 .boolean := ⟨fX3_87, fun C T N h => by cases h; exact ⟨rfl, by decide +kernel⟩⟩
theorem fX7_150 : FL RX7 150 4 2 := ⟨RX4, TX4, tyX4, 4, rfl, by decide, by decide, gt_mem (i := 215) (by decide +kernel) rfl, iX4, tyX4_ok, nmX4⟩
theorem wX7_150 : FW RX7 150 4 2 .boolean := ⟨fX7_150, fun C T N h => by cases h; exact ⟨rfl, by decide +kernel⟩⟩
theorem fX4_16 : FL RX4 16 4 3 := ⟨RX4, TX4, tyX4, 4, rfl, by decide, by decide, gt_mem (i := 216) (by decide +kernel) rfl, iX4, tyX4_ok, nmX4⟩
theorem wX4_16 : FW RX4 16 4 3 .boolean := ⟨fX4_16, fun C T N h => by cases h; exact ⟨rfl, by decide +kernel⟩⟩
theorem fX6_115 : FL RX6 115 4 3 := ⟨RX4, TX4, tyX4, 4, rfl, by decide, by decide, gt_mem (i := 217) (by decide +kernel) rfl, iX4, tyX4_ok, nmX4⟩
theorem wX6_115 : FW RX6 115 4 3 .boolean := ⟨fX6_115, fun C T N h => by cases h; exact ⟨rfl, by decide +kernel⟩⟩
theorem fX0_122 : FL RX0 122 4 3 := ⟨RX4, TX4, tyX4, 4, rfl, by decide, by decide, gt_mem (i := 218) (by decide +kernel) rfl, iX4, tyX4_ok, nmX4⟩
theorem wX0_122 : FW RX0 122 4 3 .boolean := ⟨fX0_122, fun C T N h => by cases h; exact ⟨rfl, by decide +kernel⟩⟩
theorem fX3_84 : FL RX3 84 4 3 := ⟨RX4, TX4, tyX4, 4, rfl, by decide, by decide, gt_mem (i := 219) (by decide +kernel) rfl, iX4, tyX4_ok, nmX4⟩
theorem wX3_84 : FW RX3 84 4 3 .boolean := ⟨fX3_84, fun C T N h => by cases h; exact ⟨rfl, by decide +kernel⟩⟩
theorem fX7_153 : FL RX7 153 4 3 := ⟨RX4, TX4, tyX4, 4, rfl, by decide, by decide, gt_mem (i := 220) (by decide +kernel) rfl, iX4, tyX4_ok, nmX4⟩
theorem wX7_153 : FW RX7 153 4 3 .boolean := ⟨fX7_153, fun C T N h => by cases h; exact ⟨rfl, by decide +kernel⟩⟩
theorem fX3_11 : FL RX3 11 3 0 := ⟨RX3, TX3, tyX3, 9, rfl, by decide, by decide, gt_mem (i := 230) (by decide +kernel) rfl, iX3, tyX3_ok, nmX3⟩
theorem wX3_11 : FF RX3 11 3 0 (.array (.object "AggregateSplitter$Partition")) := ⟨fX3_11, fun C T N h => by cases h; exact ⟨rfl, rfl, by decide +kernel⟩⟩
theorem fX3_18 : FL RX3 18 3 1 := ⟨RX3, TX3, tyX3, 9, rfl, by decide, by decide, gt_mem (i := 231) (by decide +kernel) rfl, iX3, tyX3_ok, nmX3⟩
theorem wX3_18 : FF RX3 18 3 1 (.object "AggregateSplitter$Partition") := ⟨fX3_18, fun C T N h => by cases h; exact ⟨rfl, rfl, by decide +kernel⟩⟩
theorem fX3_22 : FL RX3 22 3 2 := ⟨RX3, TX3, tyX3, 9, rfl, by decide, by decide, gt_mem (i := 232) (by decide +kernel) rfl, iX3, tyX3_ok, nmX3⟩
theorem wX3_22 : FF RX3 22 3 2 (.array (.object "AggregateSplitter$Partition")) := ⟨fX3_22, fun C T N h => by cases h; exact ⟨rfl, rfl, by decide +kernel⟩⟩
theorem fX3_25 : FL RX3 25 3 3 := ⟨RX3, TX3, tyX3, 9, rfl, by decide, by decide, gt_mem (i := 233) (by decide +kernel) rfl, iX3, tyX3_ok, nmX3⟩
theorem wX3_25 : FF RX3 25 3 3 (.array .boolean) := ⟨fX3_25, fun C T N h => by cases h; exact ⟨rfl, rfl, by decide +kernel⟩⟩
theorem fX3_29 : FL RX3 29 3 4 := ⟨RX3, TX3, tyX3, 9, rfl, by decide, by decide, gt_mem (i := 234) (by decide +kernel) rfl, iX3, tyX3_ok, nmX3⟩
theorem wX3_29 : FF RX3 29 3 4 (.array .boolean) := ⟨fX3_29, fun C T N h => by cases h; exact ⟨rfl, rfl, by decide +kernel⟩⟩
theorem fX3_32 : FL RX3 32 3 5 := ⟨RX3, TX3, tyX3, 9, rfl, by decide, by decide, gt_mem (i := 235) (by decide +kernel) rfl, iX3, tyX3_ok, nmX3⟩
theorem wX3_32 : FF RX3 32 3 5 (.array .long) := ⟨fX3_32, fun C T N h => by cases h; exact ⟨rfl, rfl, by decide +kernel⟩⟩
theorem fX3_42 : FL RX3 42 3 6 := ⟨RX3, TX3, tyX3, 9, rfl, by decide, by decide, gt_mem (i := 236) (by decide +kernel) rfl, iX3, tyX3_ok, nmX3⟩
theorem wX3_42 : FW RX3 42 3 6 .int := ⟨fX3_42, fun C T N h => by cases h; exact ⟨rfl, by decide +kernel⟩⟩
theorem fX3_46 : FL RX3 46 3 7 := ⟨RX3, TX3, tyX3, 9, rfl, by decide, by decide, gt_mem (i := 237) (by decide +kernel) rfl, iX3, tyX3_ok, nmX3⟩
theorem wX3_46 : FW RX3 46 3 7 .int := ⟨fX3_46, fun C T N h => by cases h; exact ⟨rfl, by decide +kernel⟩⟩
theorem fX7_135 : FL RX7 135 3 7 := ⟨RX3, TX3, tyX3, 9, rfl, by decide, by decide, gt_mem (i := 238) (by decide +kernel) rfl, iX3, tyX3_ok, nmX3⟩
theorem wX7_135 : FW RX7 135 3 7 .int := ⟨fX7_135, fun C T N h => by cases h; exact ⟨rfl, by decide +kernel⟩⟩
theorem fX3_49 : FL RX3 49 3 8 := ⟨RX3, TX3, tyX3, 9, rfl, by decide, by decide, gt_mem (i := 239) (by decide +kernel) rfl, iX3, tyX3_ok, nmX3⟩
theorem wX3_49 : FW RX3 49 3 8 .boolean := ⟨fX3_49, fun C T N h => by cases h; exact ⟨rfl, by decide +kernel⟩⟩
theorem fX0_92 : FL RX0 92 3 8 := ⟨RX3, TX3, tyX3, 9, rfl, by decide, by decide, gt_mem (i := 240) (by decide +kernel) rfl, iX3, tyX3_ok, nmX3⟩
theorem wX0_92 : FW RX0 92 3 8 .boolean := ⟨fX0_92, fun C T N h => by cases h; exact ⟨rfl, by decide +kernel⟩⟩
theorem fX7_126 : FL RX7 126 3 8 := ⟨RX3, TX3, tyX3, 9, rfl, by decide, by decide, gt_mem (i := 241) (by decide +kernel) rfl, iX3, tyX3_ok, nmX3⟩
theorem wX7_126 : FW RX7 126 3 8 .boolean := ⟨fX7_126, fun C T N h => by cases h; exact ⟨rfl, by decide +kernel⟩⟩
theorem fX0_11 : FL RX0 11 0 0 := ⟨RX0, TX0, tyX0, 4, rfl, by decide, by decide, gt_mem (i := 265) (by decide +kernel) rfl, iX0, tyX0_ok, nmX0⟩
theorem wX0_11 : FF RX0 11 0 0 (.array (.object "AggregateSplitter$Layout")) := ⟨fX0_11, fun C T N h => by cases h; exact ⟨rfl, rfl, by decide +kernel⟩⟩
theorem fX0_18 : FL RX0 18 0 1 := ⟨RX0, TX0, tyX0, 4, rfl, by decide, by decide, gt_mem (i := 266) (by decide +kernel) rfl, iX0, tyX0_ok, nmX0⟩
theorem wX0_18 : FF RX0 18 0 1 (.object "AggregateSplitter$Layout") := ⟨fX0_18, fun C T N h => by cases h; exact ⟨rfl, rfl, by decide +kernel⟩⟩
theorem fX0_24 : FL RX0 24 0 2 := ⟨RX0, TX0, tyX0, 4, rfl, by decide, by decide, gt_mem (i := 267) (by decide +kernel) rfl, iX0, tyX0_ok, nmX0⟩
theorem wX0_24 : FF RX0 24 0 2 (.array (.array .int)) := ⟨fX0_24, fun C T N h => by cases h; exact ⟨rfl, rfl, by decide +kernel⟩⟩
theorem fX6_80 : FL RX6 80 0 2 := ⟨RX0, TX0, tyX0, 4, rfl, by decide, by decide, gt_mem (i := 268) (by decide +kernel) rfl, iX0, tyX0_ok, nmX0⟩
theorem fX0_27 : FL RX0 27 0 3 := ⟨RX0, TX0, tyX0, 4, rfl, by decide, by decide, gt_mem (i := 269) (by decide +kernel) rfl, iX0, tyX0_ok, nmX0⟩
theorem wX0_27 : FW RX0 27 0 3 .boolean := ⟨fX0_27, fun C T N h => by cases h; exact ⟨rfl, by decide +kernel⟩⟩
theorem fX7_55 : FL RX7 55 0 3 := ⟨RX0, TX0, tyX0, 4, rfl, by decide, by decide, gt_mem (i := 270) (by decide +kernel) rfl, iX0, tyX0_ok, nmX0⟩
theorem wX7_55 : FW RX7 55 0 3 .boolean := ⟨fX7_55, fun C T N h => by cases h; exact ⟨rfl, by decide +kernel⟩⟩
theorem fX6_23 : FL RX6 23 6 0 := ⟨RX6, TX6, tyX6, 11, rfl, by decide, by decide, gt_mem (i := 287) (by decide +kernel) rfl, iX6, tyX6_ok, nmX6⟩
theorem wX6_23 : FF RX6 23 6 0 (.object "AggregateSplitter$Program") := ⟨fX6_23, fun C T N h => by cases h; exact ⟨rfl, rfl, by decide +kernel⟩⟩
theorem fX6_27 : FL RX6 27 6 1 := ⟨RX6, TX6, tyX6, 11, rfl, by decide, by decide, gt_mem (i := 288) (by decide +kernel) rfl, iX6, tyX6_ok, nmX6⟩
theorem wX6_27 : FF RX6 27 6 1 (.object "AggregateSplitter$Analysis") := ⟨fX6_27, fun C T N h => by cases h; exact ⟨rfl, rfl, by decide +kernel⟩⟩
theorem fX6_9 : FL RX6 9 6 2 := ⟨RX6, TX6, tyX6, 11, rfl, by decide, by decide, gt_mem (i := 289) (by decide +kernel) rfl, iX6, tyX6_ok, nmX6⟩
theorem wX6_9 : FF RX6 9 6 2 (.array .int) := ⟨fX6_9, fun C T N h => by cases h; exact ⟨rfl, rfl, by decide +kernel⟩⟩
theorem fX6_17 : FL RX6 17 6 3 := ⟨RX6, TX6, tyX6, 11, rfl, by decide, by decide, gt_mem (i := 290) (by decide +kernel) rfl, iX6, tyX6_ok, nmX6⟩
theorem wX6_17 : FF RX6 17 6 3 (.array (.array .int)) := ⟨fX6_17, fun C T N h => by cases h; exact ⟨rfl, rfl, by decide +kernel⟩⟩
theorem fX6_20 : FL RX6 20 6 4 := ⟨RX6, TX6, tyX6, 11, rfl, by decide, by decide, gt_mem (i := 291) (by decide +kernel) rfl, iX6, tyX6_ok, nmX6⟩
theorem wX6_20 : FF RX6 20 6 4 (.array .int) := ⟨fX6_20, fun C T N h => by cases h; exact ⟨rfl, rfl, by decide +kernel⟩⟩
theorem fX6_58 : FL RX6 58 6 5 := ⟨RX6, TX6, tyX6, 11, rfl, by decide, by decide, gt_mem (i := 292) (by decide +kernel) rfl, iX6, tyX6_ok, nmX6⟩
theorem wX6_58 : FW RX6 58 6 5 .boolean := ⟨fX6_58, fun C T N h => by cases h; exact ⟨rfl, by decide +kernel⟩⟩
theorem fX6_55 : FL RX6 55 6 6 := ⟨RX6, TX6, tyX6, 11, rfl, by decide, by decide, gt_mem (i := 293) (by decide +kernel) rfl, iX6, tyX6_ok, nmX6⟩
theorem wX6_55 : FW RX6 55 6 6 .int := ⟨fX6_55, fun C T N h => by cases h; exact ⟨rfl, by decide +kernel⟩⟩
theorem fX7_189 : FL RX7 189 6 6 := ⟨RX6, TX6, tyX6, 11, rfl, by decide, by decide, gt_mem (i := 294) (by decide +kernel) rfl, iX6, tyX6_ok, nmX6⟩
theorem wX7_189 : FW RX7 189 6 6 .int := ⟨fX7_189, fun C T N h => by cases h; exact ⟨rfl, by decide +kernel⟩⟩
theorem fX6_62 : FL RX6 62 6 7 := ⟨RX6, TX6, tyX6, 11, rfl, by decide, by decide, gt_mem (i := 295) (by decide +kernel) rfl, iX6, tyX6_ok, nmX6⟩
theorem wX6_62 : FW RX6 62 6 7 .int := ⟨fX6_62, fun C T N h => by cases h; exact ⟨rfl, by decide +kernel⟩⟩
theorem fX7_195 : FL RX7 195 6 7 := ⟨RX6, TX6, tyX6, 11, rfl, by decide, by decide, gt_mem (i := 296) (by decide +kernel) rfl, iX6, tyX6_ok, nmX6⟩
theorem wX7_195 : FW RX7 195 6 7 .int := ⟨fX7_195, fun C T N h => by cases h; exact ⟨rfl, by decide +kernel⟩⟩
theorem fX6_65 : FL RX6 65 6 8 := ⟨RX6, TX6, tyX6, 11, rfl, by decide, by decide, gt_mem (i := 297) (by decide +kernel) rfl, iX6, tyX6_ok, nmX6⟩
theorem wX6_65 : FW RX6 65 6 8 .int := ⟨fX6_65, fun C T N h => by cases h; exact ⟨rfl, by decide +kernel⟩⟩
theorem fX7_198 : FL RX7 198 6 8 := ⟨RX6, TX6, tyX6, 11, rfl, by decide, by decide, gt_mem (i := 298) (by decide +kernel) rfl, iX6, tyX6_ok, nmX6⟩
theorem wX7_198 : FW RX7 198 6 8 .int := ⟨fX7_198, fun C T N h => by cases h; exact ⟨rfl, by decide +kernel⟩⟩
theorem fX6_41 : FL RX6 41 6 9 := ⟨RX6, TX6, tyX6, 11, rfl, by decide, by decide, gt_mem (i := 299) (by decide +kernel) rfl, iX6, tyX6_ok, nmX6⟩
theorem wX6_41 : FW RX6 41 6 9 .int := ⟨fX6_41, fun C T N h => by cases h; exact ⟨rfl, by decide +kernel⟩⟩
theorem fX7_183 : FL RX7 183 6 9 := ⟨RX6, TX6, tyX6, 11, rfl, by decide, by decide, gt_mem (i := 300) (by decide +kernel) rfl, iX6, tyX6_ok, nmX6⟩
theorem wX7_183 : FW RX7 183 6 9 .int := ⟨fX7_183, fun C T N h => by cases h; exact ⟨rfl, by decide +kernel⟩⟩
theorem fX6_44 : FL RX6 44 6 10 := ⟨RX6, TX6, tyX6, 11, rfl, by decide, by decide, gt_mem (i := 301) (by decide +kernel) rfl, iX6, tyX6_ok, nmX6⟩
theorem wX6_44 : FW RX6 44 6 10 .int := ⟨fX6_44, fun C T N h => by cases h; exact ⟨rfl, by decide +kernel⟩⟩
theorem fX7_10 : FL RX7 10 7 0 := ⟨RX7, TX7, tyX7, 4, rfl, by decide, by decide, gt_mem (i := 325) (by decide +kernel) rfl, iX7, tyX7_ok, nmX7⟩
theorem wX7_10 : FF RX7 10 7 0 (.object "AggregateSplitter$Program") := ⟨fX7_10, fun C T N h => by cases h; exact ⟨rfl, rfl, by decide +kernel⟩⟩
theorem fX7_19 : FL RX7 19 7 1 := ⟨RX7, TX7, tyX7, 4, rfl, by decide, by decide, gt_mem (i := 326) (by decide +kernel) rfl, iX7, tyX7_ok, nmX7⟩
theorem wX7_19 : FF RX7 19 7 1 (.object "AggregateSplitter$History") := ⟨fX7_19, fun C T N h => by cases h; exact ⟨rfl, rfl, by decide +kernel⟩⟩
theorem fX7_26 : FL RX7 26 7 2 := ⟨RX7, TX7, tyX7, 4, rfl, by decide, by decide, gt_mem (i := 327) (by decide +kernel) rfl, iX7, tyX7_ok, nmX7⟩
theorem wX7_26 : FF RX7 26 7 2 (.object "AggregateSplitter$Analysis") := ⟨fX7_26, fun C T N h => by cases h; exact ⟨rfl, rfl, by decide +kernel⟩⟩
theorem fX7_35 : FL RX7 35 7 3 := ⟨RX7, TX7, tyX7, 4, rfl, by decide, by decide, gt_mem (i := 328) (by decide +kernel) rfl, iX7, tyX7_ok, nmX7⟩
theorem wX7_35 : FF RX7 35 7 3 (.object "AggregateSplitter$Run") := ⟨fX7_35, fun C T N h => by cases h; exact ⟨rfl, rfl, by decide +kernel⟩⟩
theorem fX8_7 : FL RX8 7 8 0 := ⟨RX8, TX8, tyX8, 16, rfl, by decide, by decide, gt_mem (i := 747) (by decide +kernel) rfl, iX8, tyX8_ok, nmX8⟩
theorem wX8_7 : FF RX8 7 8 0 (.array .int) := ⟨fX8_7, fun C T N h => by cases h; exact ⟨rfl, rfl, by decide +kernel⟩⟩
theorem fX8_13 : FL RX8 13 8 1 := ⟨RX8, TX8, tyX8, 16, rfl, by decide, by decide, gt_mem (i := 748) (by decide +kernel) rfl, iX8, tyX8_ok, nmX8⟩
theorem wX8_13 : FF RX8 13 8 1 (.array .int) := ⟨fX8_13, fun C T N h => by cases h; exact ⟨rfl, rfl, by decide +kernel⟩⟩
theorem fX8_44 : FL RX8 44 8 2 := ⟨RX8, TX8, tyX8, 16, rfl, by decide, by decide, gt_mem (i := 749) (by decide +kernel) rfl, iX8, tyX8_ok, nmX8⟩
theorem wX8_44 : FW RX8 44 8 2 .int := ⟨fX8_44, fun C T N h => by cases h; exact ⟨rfl, by decide +kernel⟩⟩
theorem fX8_16 : FL RX8 16 8 3 := ⟨RX8, TX8, tyX8, 16, rfl, by decide, by decide, gt_mem (i := 750) (by decide +kernel) rfl, iX8, tyX8_ok, nmX8⟩
theorem wX8_16 : FF RX8 16 8 3 (.array .int) := ⟨fX8_16, fun C T N h => by cases h; exact ⟨rfl, rfl, by decide +kernel⟩⟩
theorem fX8_19 : FL RX8 19 8 4 := ⟨RX8, TX8, tyX8, 16, rfl, by decide, by decide, gt_mem (i := 751) (by decide +kernel) rfl, iX8, tyX8_ok, nmX8⟩
theorem wX8_19 : FF RX8 19 8 4 (.array .int) := ⟨fX8_19, fun C T N h => by cases h; exact ⟨rfl, rfl, by decide +kernel⟩⟩
theorem fX8_22 : FL RX8 22 8 5 := ⟨RX8, TX8, tyX8, 16, rfl, by decide, by decide, gt_mem (i := 752) (by decide +kernel) rfl, iX8, tyX8_ok, nmX8⟩
theorem wX8_22 : FF RX8 22 8 5 (.array .int) := ⟨fX8_22, fun C T N h => by cases h; exact ⟨rfl, rfl, by decide +kernel⟩⟩
theorem fX8_25 : FL RX8 25 8 6 := ⟨RX8, TX8, tyX8, 16, rfl, by decide, by decide, gt_mem (i := 753) (by decide +kernel) rfl, iX8, tyX8_ok, nmX8⟩
theorem wX8_25 : FF RX8 25 8 6 (.array .int) := ⟨fX8_25, fun C T N h => by cases h; exact ⟨rfl, rfl, by decide +kernel⟩⟩
theorem fX8_28 : FL RX8 28 8 7 := ⟨RX8, TX8, tyX8, 16, rfl, by decide, by decide, gt_mem (i := 754) (by decide +kernel) rfl, iX8, tyX8_ok, nmX8⟩
theorem wX8_28 : FF RX8 28 8 7 (.array .boolean) := ⟨fX8_28, fun C T N h => by cases h; exact ⟨rfl, rfl, by decide +kernel⟩⟩
theorem fX8_32 : FL RX8 32 8 8 := ⟨RX8, TX8, tyX8, 16, rfl, by decide, by decide, gt_mem (i := 755) (by decide +kernel) rfl, iX8, tyX8_ok, nmX8⟩
theorem wX8_32 : FF RX8 32 8 8 (.array .boolean) := ⟨fX8_32, fun C T N h => by cases h; exact ⟨rfl, rfl, by decide +kernel⟩⟩
theorem fX8_35 : FL RX8 35 8 9 := ⟨RX8, TX8, tyX8, 16, rfl, by decide, by decide, gt_mem (i := 756) (by decide +kernel) rfl, iX8, tyX8_ok, nmX8⟩
theorem wX8_35 : FF RX8 35 8 9 (.array .int) := ⟨fX8_35, fun C T N h => by cases h; exact ⟨rfl, rfl, by decide +kernel⟩⟩
theorem fX8_38 : FL RX8 38 8 10 := ⟨RX8, TX8, tyX8, 16, rfl, by decide, by decide, gt_mem (i := 757) (by decide +kernel) rfl, iX8, tyX8_ok, nmX8⟩
theorem wX8_38 : FF RX8 38 8 10 (.array .int) := ⟨fX8_38, fun C T N h => by cases h; exact ⟨rfl, rfl, by decide +kernel⟩⟩
theorem fX8_41 : FL RX8 41 8 11 := ⟨RX8, TX8, tyX8, 16, rfl, by decide, by decide, gt_mem (i := 758) (by decide +kernel) rfl, iX8, tyX8_ok, nmX8⟩
theorem wX8_41 : FF RX8 41 8 11 (.array .int) := ⟨fX8_41, fun C T N h => by cases h; exact ⟨rfl, rfl, by decide +kernel⟩⟩
theorem fX8_162 : FL RX8 162 8 12 := ⟨RX8, TX8, tyX8, 16, rfl, by decide, by decide, gt_mem (i := 759) (by decide +kernel) rfl, iX8, tyX8_ok, nmX8⟩
theorem wX8_162 : FW RX8 162 8 12 .int := ⟨fX8_162, fun C T N h => by cases h; exact ⟨rfl, by decide +kernel⟩⟩
theorem fX8_147 : FL RX8 147 8 13 := ⟨RX8, TX8, tyX8, 16, rfl, by decide, by decide, gt_mem (i := 760) (by decide +kernel) rfl, iX8, tyX8_ok, nmX8⟩
theorem wX8_147 : FW RX8 147 8 13 .int := ⟨fX8_147, fun C T N h => by cases h; exact ⟨rfl, by decide +kernel⟩⟩
theorem fX8_150 : FL RX8 150 8 14 := ⟨RX8, TX8, tyX8, 16, rfl, by decide, by decide, gt_mem (i := 761) (by decide +kernel) rfl, iX8, tyX8_ok, nmX8⟩
theorem wX8_150 : FW RX8 150 8 14 .int := ⟨fX8_150, fun C T N h => by cases h; exact ⟨rfl, by decide +kernel⟩⟩
theorem fX8_165 : FL RX8 165 8 15 := ⟨RX8, TX8, tyX8, 16, rfl, by decide, by decide, gt_mem (i := 762) (by decide +kernel) rfl, iX8, tyX8_ok, nmX8⟩
theorem wX8_165 : FW RX8 165 8 15 .int := ⟨fX8_165, fun C T N h => by cases h; exact ⟨rfl, by decide +kernel⟩⟩
theorem nL_7 : Cond.classLink RL 7 "AggregateSplitter" ∈ gt := gt_mem (i := 71) (by decide +kernel) rfl
theorem nX7_7 : Cond.classLink RX7 7 "AggregateSplitter$Program" ∈ gt := gt_mem (i := 79) (by decide +kernel) rfl
theorem nX5_15 : Cond.classLink RX5 15 "AggregateSplitter$Instruction" ∈ gt := gt_mem (i := 85) (by decide +kernel) rfl
theorem nX7_16 : Cond.classLink RX7 16 "AggregateSplitter$History" ∈ gt := gt_mem (i := 162) (by decide +kernel) rfl
theorem nX1_18 : Cond.classLink RX1 18 "AggregateSplitter$Instruction" ∈ gt := gt_mem (i := 168) (by decide +kernel) rfl
theorem nX7_23 : Cond.classLink RX7 23 "AggregateSplitter$Analysis" ∈ gt := gt_mem (i := 186) (by decide +kernel) rfl
theorem nX0_9 : Cond.classLink RX0 9 "AggregateSplitter$Layout" ∈ gt := gt_mem (i := 192) (by decide +kernel) rfl
theorem nX3_9 : Cond.classLink RX3 9 "AggregateSplitter$Partition" ∈ gt := gt_mem (i := 199) (by decide +kernel) rfl
theorem nX0_22 : Cond.classLink RX0 22 "[[I" ∈ gt := gt_mem (i := 263) (by decide +kernel) rfl
theorem nX7_30 : Cond.classLink RX7 30 "AggregateSplitter$Run" ∈ gt := gt_mem (i := 280) (by decide +kernel) rfl
theorem nX6_15 : Cond.classLink RX6 15 "[[I" ∈ gt := gt_mem (i := 286) (by decide +kernel) rfl
theorem nX2_10 : Cond.classLink RX2 10 "AggregateSplitter$Instruction" ∈ gt := gt_mem (i := 382) (by decide +kernel) rfl
theorem nL_10 : Cond.classLink RL 10 "AggregateSplitterModel" ∈ gt := gt_mem (i := 741) (by decide +kernel) rfl
theorem qX7 : Cond.instantiable RX7 4 ∈ gt := gt_mem (i := 72) (by decide +kernel) rfl
theorem jX7 : Cond.initialized RX7 ∈ gt := gt_mem (i := 61) (by decide +kernel) rfl
theorem qX5 : Cond.instantiable RX5 5 ∈ gt := gt_mem (i := 80) (by decide +kernel) rfl
theorem jX5 : Cond.initialized RX5 ∈ gt := gt_mem (i := 62) (by decide +kernel) rfl
theorem qX2 : Cond.instantiable RX2 10 ∈ gt := gt_mem (i := 87) (by decide +kernel) rfl
theorem jX2 : Cond.initialized RX2 ∈ gt := gt_mem (i := 63) (by decide +kernel) rfl
theorem qX1 : Cond.instantiable RX1 5 ∈ gt := gt_mem (i := 163) (by decide +kernel) rfl
theorem jX1 : Cond.initialized RX1 ∈ gt := gt_mem (i := 64) (by decide +kernel) rfl
theorem qX0 : Cond.instantiable RX0 4 ∈ gt := gt_mem (i := 187) (by decide +kernel) rfl
theorem jX0 : Cond.initialized RX0 ∈ gt := gt_mem (i := 65) (by decide +kernel) rfl
theorem qX3 : Cond.instantiable RX3 9 ∈ gt := gt_mem (i := 194) (by decide +kernel) rfl
theorem jX3 : Cond.initialized RX3 ∈ gt := gt_mem (i := 66) (by decide +kernel) rfl
theorem qX4 : Cond.instantiable RX4 4 ∈ gt := gt_mem (i := 201) (by decide +kernel) rfl
theorem jX4 : Cond.initialized RX4 ∈ gt := gt_mem (i := 67) (by decide +kernel) rfl
theorem qX6 : Cond.instantiable RX6 11 ∈ gt := gt_mem (i := 281) (by decide +kernel) rfl
theorem jX6 : Cond.initialized RX6 ∈ gt := gt_mem (i := 68) (by decide +kernel) rfl
theorem qX8 : Cond.instantiable RX8 16 ∈ gt := gt_mem (i := 742) (by decide +kernel) rfl
theorem jX8 : Cond.initialized RX8 ∈ gt := gt_mem (i := 69) (by decide +kernel) rfl
theorem ac_int : Cond.arrayClass .int ∈ gt := gt_mem (i := 140) (by decide +kernel) rfl
theorem ac_boolean : Cond.arrayClass .boolean ∈ gt := gt_mem (i := 261) (by decide +kernel) rfl
theorem ac_long : Cond.arrayClass .long ∈ gt := gt_mem (i := 262) (by decide +kernel) rfl
theorem im_obj : Cond.instanceMethod objectInit ∈ gt := gt_mem (i := 77) (by decide +kernel) rfl
theorem co_obj : Cond.code objectInit ⟨#[0xb1]⟩ 1 none ∈ gt := gt_mem (i := 78) (by decide +kernel) rfl
theorem st_min : Cond.static Lib.Math.min.name ∈ gt := gt_mem (i := 351) (by decide +kernel) rfl
theorem co_min : Cond.code Lib.Math.min.name Lib.Math.min.code 2 (some .int) ∈ gt := gt_mem (i := 352) (by decide +kernel) rfl
theorem st_abs : Cond.static Lib.Math.abs.name ∈ gt := gt_mem (i := 401) (by decide +kernel) rfl
theorem co_abs : Cond.code Lib.Math.abs.name Lib.Math.abs.code 1 (some .int) ∈ gt := gt_mem (i := 402) (by decide +kernel) rfl
theorem in_math : Cond.initialized "java/lang/Math" ∈ gt := gt_mem (i := 70) (by decide +kernel) rfl
