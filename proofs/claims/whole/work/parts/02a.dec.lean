theorem dX8_init_0 : decode cX8_init 0 = .ok (.aload_n 0, 1) := by decide +kernel
theorem dX8_init_1 : decode cX8_init 1 = .ok (.invokespecial 1, 3) := by decide +kernel
theorem dX8_init_4 : decode cX8_init 4 = .ok (.aload_n 0, 1) := by decide +kernel
theorem dX8_init_5 : decode cX8_init 5 = .ok (.sipush 150, 3) := by decide +kernel
theorem dX8_init_8 : decode cX8_init 8 = .ok (.newarray .int, 2) := by decide +kernel
theorem dX8_init_10 : decode cX8_init 10 = .ok (.putfield 7, 3) := by decide +kernel
theorem dX8_init_13 : decode cX8_init 13 = .ok (.aload_n 0, 1) := by decide +kernel
theorem dX8_init_14 : decode cX8_init 14 = .ok (.sipush 1200, 3) := by decide +kernel
theorem dX8_init_17 : decode cX8_init 17 = .ok (.newarray .int, 2) := by decide +kernel
theorem dX8_init_19 : decode cX8_init 19 = .ok (.putfield 13, 3) := by decide +kernel
theorem dX8_init_22 : decode cX8_init 22 = .ok (.aload_n 0, 1) := by decide +kernel
theorem dX8_init_23 : decode cX8_init 23 = .ok (.bipush 64, 2) := by decide +kernel
theorem dX8_init_25 : decode cX8_init 25 = .ok (.newarray .int, 2) := by decide +kernel
theorem dX8_init_27 : decode cX8_init 27 = .ok (.putfield 16, 3) := by decide +kernel
theorem dX8_init_30 : decode cX8_init 30 = .ok (.aload_n 0, 1) := by decide +kernel
theorem dX8_init_31 : decode cX8_init 31 = .ok (.bipush 64, 2) := by decide +kernel
theorem dX8_init_33 : decode cX8_init 33 = .ok (.newarray .int, 2) := by decide +kernel
theorem dX8_init_35 : decode cX8_init 35 = .ok (.putfield 19, 3) := by decide +kernel
theorem dX8_init_38 : decode cX8_init 38 = .ok (.aload_n 0, 1) := by decide +kernel
theorem dX8_init_39 : decode cX8_init 39 = .ok (.bipush 64, 2) := by decide +kernel
theorem dX8_init_41 : decode cX8_init 41 = .ok (.newarray .int, 2) := by decide +kernel
theorem dX8_init_43 : decode cX8_init 43 = .ok (.putfield 22, 3) := by decide +kernel
theorem dX8_init_46 : decode cX8_init 46 = .ok (.aload_n 0, 1) := by decide +kernel
theorem dX8_init_47 : decode cX8_init 47 = .ok (.iconst 4, 1) := by decide +kernel
theorem dX8_init_48 : decode cX8_init 48 = .ok (.newarray .int, 2) := by decide +kernel
theorem dX8_init_50 : decode cX8_init 50 = .ok (.putfield 25, 3) := by decide +kernel
theorem dX8_init_53 : decode cX8_init 53 = .ok (.aload_n 0, 1) := by decide +kernel
theorem dX8_init_54 : decode cX8_init 54 = .ok (.bipush 64, 2) := by decide +kernel
theorem dX8_init_56 : decode cX8_init 56 = .ok (.newarray .boolean, 2) := by decide +kernel
theorem dX8_init_58 : decode cX8_init 58 = .ok (.putfield 28, 3) := by decide +kernel
theorem dX8_init_61 : decode cX8_init 61 = .ok (.aload_n 0, 1) := by decide +kernel
theorem dX8_init_62 : decode cX8_init 62 = .ok (.bipush 64, 2) := by decide +kernel
theorem dX8_init_64 : decode cX8_init 64 = .ok (.newarray .boolean, 2) := by decide +kernel
theorem dX8_init_66 : decode cX8_init 66 = .ok (.putfield 32, 3) := by decide +kernel
theorem dX8_init_69 : decode cX8_init 69 = .ok (.aload_n 0, 1) := by decide +kernel
theorem dX8_init_70 : decode cX8_init 70 = .ok (.bipush 64, 2) := by decide +kernel
theorem dX8_init_72 : decode cX8_init 72 = .ok (.newarray .int, 2) := by decide +kernel
theorem dX8_init_74 : decode cX8_init 74 = .ok (.putfield 35, 3) := by decide +kernel
theorem dX8_init_77 : decode cX8_init 77 = .ok (.aload_n 0, 1) := by decide +kernel
theorem dX8_init_78 : decode cX8_init 78 = .ok (.bipush 8, 2) := by decide +kernel
theorem dX8_init_80 : decode cX8_init 80 = .ok (.newarray .int, 2) := by decide +kernel
theorem dX8_init_82 : decode cX8_init 82 = .ok (.putfield 38, 3) := by decide +kernel
theorem dX8_init_85 : decode cX8_init 85 = .ok (.aload_n 0, 1) := by decide +kernel
theorem dX8_init_86 : decode cX8_init 86 = .ok (.bipush 24, 2) := by decide +kernel
theorem dX8_init_88 : decode cX8_init 88 = .ok (.newarray .int, 2) := by decide +kernel
theorem dX8_init_90 : decode cX8_init 90 = .ok (.putfield 41, 3) := by decide +kernel
theorem dX8_init_93 : decode cX8_init 93 = .ok (.return_, 1) := by decide +kernel
theorem dX8_in_0 : decode cX8_in 0 = .ok (.iload_n 0, 1) := by decide +kernel
theorem dX8_in_1 : decode cX8_in 1 = .ok (.iload_n 1, 1) := by decide +kernel
theorem dX8_in_2 : decode cX8_in 2 = .ok (.if_icmp .lt 12, 3) := by decide +kernel
theorem dX8_in_5 : decode cX8_in 5 = .ok (.iload_n 0, 1) := by decide +kernel
theorem dX8_in_6 : decode cX8_in 6 = .ok (.iload_n 2, 1) := by decide +kernel
theorem dX8_in_7 : decode cX8_in 7 = .ok (.if_icmp .gt 7, 3) := by decide +kernel
theorem dX8_in_10 : decode cX8_in 10 = .ok (.iconst 1, 1) := by decide +kernel
theorem dX8_in_11 : decode cX8_in 11 = .ok (.goto 4, 3) := by decide +kernel
theorem dX8_in_14 : decode cX8_in 14 = .ok (.iconst 0, 1) := by decide +kernel
theorem dX8_in_15 : decode cX8_in 15 = .ok (.ireturn, 1) := by decide +kernel
theorem dX8_note_0 : decode cX8_note 0 = .ok (.aload_n 0, 1) := by decide +kernel
theorem dX8_note_1 : decode cX8_note 1 = .ok (.getfield 44, 3) := by decide +kernel
theorem dX8_note_4 : decode cX8_note 4 = .ok (.bipush 8, 2) := by decide +kernel
theorem dX8_note_6 : decode cX8_note 6 = .ok (.if_icmp .ne 44, 3) := by decide +kernel
theorem dX8_note_9 : decode cX8_note 9 = .ok (.iconst 0, 1) := by decide +kernel
theorem dX8_note_10 : decode cX8_note 10 = .ok (.istore_n 1, 1) := by decide +kernel
theorem dX8_note_11 : decode cX8_note 11 = .ok (.iload_n 1, 1) := by decide +kernel
theorem dX8_note_12 : decode cX8_note 12 = .ok (.sipush 1050, 3) := by decide +kernel
theorem dX8_note_15 : decode cX8_note 15 = .ok (.if_icmp .ge 25, 3) := by decide +kernel
theorem dX8_note_18 : decode cX8_note 18 = .ok (.aload_n 0, 1) := by decide +kernel
theorem dX8_note_19 : decode cX8_note 19 = .ok (.getfield 13, 3) := by decide +kernel
theorem dX8_note_22 : decode cX8_note 22 = .ok (.iload_n 1, 1) := by decide +kernel
theorem dX8_note_23 : decode cX8_note 23 = .ok (.aload_n 0, 1) := by decide +kernel
theorem dX8_note_24 : decode cX8_note 24 = .ok (.getfield 13, 3) := by decide +kernel
theorem dX8_note_27 : decode cX8_note 27 = .ok (.iload_n 1, 1) := by decide +kernel
theorem dX8_note_28 : decode cX8_note 28 = .ok (.sipush 150, 3) := by decide +kernel
theorem dX8_note_31 : decode cX8_note 31 = .ok (.iadd, 1) := by decide +kernel
theorem dX8_note_32 : decode cX8_note 32 = .ok (.iaload, 1) := by decide +kernel
theorem dX8_note_33 : decode cX8_note 33 = .ok (.iastore, 1) := by decide +kernel
theorem dX8_note_34 : decode cX8_note 34 = .ok (.iinc 1 1, 3) := by decide +kernel
theorem dX8_note_37 : decode cX8_note 37 = .ok (.goto (-26), 3) := by decide +kernel
theorem dX8_note_40 : decode cX8_note 40 = .ok (.aload_n 0, 1) := by decide +kernel
theorem dX8_note_41 : decode cX8_note 41 = .ok (.dup, 1) := by decide +kernel
theorem dX8_note_42 : decode cX8_note 42 = .ok (.getfield 44, 3) := by decide +kernel
theorem dX8_note_45 : decode cX8_note 45 = .ok (.iconst 1, 1) := by decide +kernel
theorem dX8_note_46 : decode cX8_note 46 = .ok (.isub, 1) := by decide +kernel
theorem dX8_note_47 : decode cX8_note 47 = .ok (.putfield 44, 3) := by decide +kernel
theorem dX8_note_50 : decode cX8_note 50 = .ok (.iconst 0, 1) := by decide +kernel
theorem dX8_note_51 : decode cX8_note 51 = .ok (.istore_n 1, 1) := by decide +kernel
theorem dX8_note_52 : decode cX8_note 52 = .ok (.iload_n 1, 1) := by decide +kernel
theorem dX8_note_53 : decode cX8_note 53 = .ok (.sipush 150, 3) := by decide +kernel
theorem dX8_note_56 : decode cX8_note 56 = .ok (.if_icmp .ge 30, 3) := by decide +kernel
theorem dX8_note_59 : decode cX8_note 59 = .ok (.aload_n 0, 1) := by decide +kernel
theorem dX8_note_60 : decode cX8_note 60 = .ok (.getfield 13, 3) := by decide +kernel
theorem dX8_note_63 : decode cX8_note 63 = .ok (.sipush 150, 3) := by decide +kernel
theorem dX8_note_66 : decode cX8_note 66 = .ok (.aload_n 0, 1) := by decide +kernel
theorem dX8_note_67 : decode cX8_note 67 = .ok (.getfield 44, 3) := by decide +kernel
theorem dX8_note_70 : decode cX8_note 70 = .ok (.imul, 1) := by decide +kernel
theorem dX8_note_71 : decode cX8_note 71 = .ok (.iload_n 1, 1) := by decide +kernel
theorem dX8_note_72 : decode cX8_note 72 = .ok (.iadd, 1) := by decide +kernel
theorem dX8_note_73 : decode cX8_note 73 = .ok (.aload_n 0, 1) := by decide +kernel
theorem dX8_note_74 : decode cX8_note 74 = .ok (.getfield 7, 3) := by decide +kernel
theorem dX8_note_77 : decode cX8_note 77 = .ok (.iload_n 1, 1) := by decide +kernel
theorem dX8_note_78 : decode cX8_note 78 = .ok (.iaload, 1) := by decide +kernel
theorem dX8_note_79 : decode cX8_note 79 = .ok (.iastore, 1) := by decide +kernel
theorem dX8_note_80 : decode cX8_note 80 = .ok (.iinc 1 1, 3) := by decide +kernel
theorem dX8_note_83 : decode cX8_note 83 = .ok (.goto (-31), 3) := by decide +kernel
theorem dX8_note_86 : decode cX8_note 86 = .ok (.aload_n 0, 1) := by decide +kernel
theorem dX8_note_87 : decode cX8_note 87 = .ok (.dup, 1) := by decide +kernel
theorem dX8_note_88 : decode cX8_note 88 = .ok (.getfield 44, 3) := by decide +kernel
theorem dX8_note_91 : decode cX8_note 91 = .ok (.iconst 1, 1) := by decide +kernel
theorem dX8_note_92 : decode cX8_note 92 = .ok (.iadd, 1) := by decide +kernel
theorem dX8_note_93 : decode cX8_note 93 = .ok (.putfield 44, 3) := by decide +kernel
theorem dX8_note_96 : decode cX8_note 96 = .ok (.return_, 1) := by decide +kernel
theorem dX8_isRecord_0 : decode cX8_isRecord 0 = .ok (.iload_n 1, 1) := by decide +kernel
theorem dX8_isRecord_1 : decode cX8_isRecord 1 = .ok (.iconst 0, 1) := by decide +kernel
theorem dX8_isRecord_2 : decode cX8_isRecord 2 = .ok (.aload_n 0, 1) := by decide +kernel
theorem dX8_isRecord_3 : decode cX8_isRecord 3 = .ok (.getfield 7, 3) := by decide +kernel
theorem dX8_isRecord_6 : decode cX8_isRecord 6 = .ok (.iconst 0, 1) := by decide +kernel
theorem dX8_isRecord_7 : decode cX8_isRecord 7 = .ok (.iaload, 1) := by decide +kernel
theorem dX8_isRecord_8 : decode cX8_isRecord 8 = .ok (.iconst 1, 1) := by decide +kernel
theorem dX8_isRecord_9 : decode cX8_isRecord 9 = .ok (.isub, 1) := by decide +kernel
theorem dX8_isRecord_10 : decode cX8_isRecord 10 = .ok (.invokestatic 48, 3) := by decide +kernel
theorem dX8_isRecord_13 : decode cX8_isRecord 13 = .ok (.ireturn, 1) := by decide +kernel
theorem dX8_isRegister_0 : decode cX8_isRegister 0 = .ok (.iload_n 0, 1) := by decide +kernel
theorem dX8_isRegister_1 : decode cX8_isRegister 1 = .ok (.iconst 0, 1) := by decide +kernel
theorem dX8_isRegister_2 : decode cX8_isRegister 2 = .ok (.bipush 7, 2) := by decide +kernel
theorem dX8_isRegister_4 : decode cX8_isRegister 4 = .ok (.invokestatic 48, 3) := by decide +kernel
theorem dX8_isRegister_7 : decode cX8_isRegister 7 = .ok (.ireturn, 1) := by decide +kernel
theorem dX8_isRange_0 : decode cX8_isRange 0 = .ok (.aload_n 0, 1) := by decide +kernel
theorem dX8_isRange_1 : decode cX8_isRange 1 = .ok (.iload_n 1, 1) := by decide +kernel
theorem dX8_isRange_2 : decode cX8_isRange 2 = .ok (.invokevirtual 52, 3) := by decide +kernel
theorem dX8_isRange_5 : decode cX8_isRange 5 = .ok (.ifCond .eq 35, 3) := by decide +kernel
theorem dX8_isRange_8 : decode cX8_isRange 8 = .ok (.iload_n 3, 1) := by decide +kernel
theorem dX8_isRange_9 : decode cX8_isRange 9 = .ok (.ifCond .le 31, 3) := by decide +kernel
theorem dX8_isRange_12 : decode cX8_isRange 12 = .ok (.iload_n 2, 1) := by decide +kernel
theorem dX8_isRange_13 : decode cX8_isRange 13 = .ok (.iconst 0, 1) := by decide +kernel
theorem dX8_isRange_14 : decode cX8_isRange 14 = .ok (.bipush 16, 2) := by decide +kernel
theorem dX8_isRange_16 : decode cX8_isRange 16 = .ok (.invokestatic 48, 3) := by decide +kernel
theorem dX8_isRange_19 : decode cX8_isRange 19 = .ok (.ifCond .eq 21, 3) := by decide +kernel
theorem dX8_isRange_22 : decode cX8_isRange 22 = .ok (.iload_n 3, 1) := by decide +kernel
theorem dX8_isRange_23 : decode cX8_isRange 23 = .ok (.aload_n 0, 1) := by decide +kernel
theorem dX8_isRange_24 : decode cX8_isRange 24 = .ok (.getfield 7, 3) := by decide +kernel
theorem dX8_isRange_27 : decode cX8_isRange 27 = .ok (.iconst 1, 1) := by decide +kernel
theorem dX8_isRange_28 : decode cX8_isRange 28 = .ok (.iload_n 1, 1) := by decide +kernel
theorem dX8_isRange_29 : decode cX8_isRange 29 = .ok (.iadd, 1) := by decide +kernel
theorem dX8_isRange_30 : decode cX8_isRange 30 = .ok (.iaload, 1) := by decide +kernel
theorem dX8_isRange_31 : decode cX8_isRange 31 = .ok (.iload_n 2, 1) := by decide +kernel
theorem dX8_isRange_32 : decode cX8_isRange 32 = .ok (.isub, 1) := by decide +kernel
theorem dX8_isRange_33 : decode cX8_isRange 33 = .ok (.if_icmp .gt 7, 3) := by decide +kernel
theorem dX8_isRange_36 : decode cX8_isRange 36 = .ok (.iconst 1, 1) := by decide +kernel
theorem dX8_isRange_37 : decode cX8_isRange 37 = .ok (.goto 4, 3) := by decide +kernel
theorem dX8_isRange_40 : decode cX8_isRange 40 = .ok (.iconst 0, 1) := by decide +kernel
theorem dX8_isRange_41 : decode cX8_isRange 41 = .ok (.ireturn, 1) := by decide +kernel
theorem dX8_isWidth_0 : decode cX8_isWidth 0 = .ok (.iload_n 0, 1) := by decide +kernel
theorem dX8_isWidth_1 : decode cX8_isWidth 1 = .ok (.iconst 1, 1) := by decide +kernel
theorem dX8_isWidth_2 : decode cX8_isWidth 2 = .ok (.if_icmp .eq 13, 3) := by decide +kernel
theorem dX8_isWidth_5 : decode cX8_isWidth 5 = .ok (.iload_n 0, 1) := by decide +kernel
theorem dX8_isWidth_6 : decode cX8_isWidth 6 = .ok (.iconst 2, 1) := by decide +kernel
theorem dX8_isWidth_7 : decode cX8_isWidth 7 = .ok (.if_icmp .eq 8, 3) := by decide +kernel
theorem dX8_isWidth_10 : decode cX8_isWidth 10 = .ok (.iload_n 0, 1) := by decide +kernel
theorem dX8_isWidth_11 : decode cX8_isWidth 11 = .ok (.iconst 4, 1) := by decide +kernel
theorem dX8_isWidth_12 : decode cX8_isWidth 12 = .ok (.if_icmp .ne 7, 3) := by decide +kernel
theorem dX8_isWidth_15 : decode cX8_isWidth 15 = .ok (.iconst 1, 1) := by decide +kernel
theorem dX8_isWidth_16 : decode cX8_isWidth 16 = .ok (.goto 4, 3) := by decide +kernel
theorem dX8_isWidth_19 : decode cX8_isWidth 19 = .ok (.iconst 0, 1) := by decide +kernel
theorem dX8_isWidth_20 : decode cX8_isWidth 20 = .ok (.ireturn, 1) := by decide +kernel
theorem dX8_declareRecord_0 : decode cX8_declareRecord 0 = .ok (.iload_n 1, 1) := by decide +kernel
theorem dX8_declareRecord_1 : decode cX8_declareRecord 1 = .ok (.iconst 1, 1) := by decide +kernel
theorem dX8_declareRecord_2 : decode cX8_declareRecord 2 = .ok (.bipush 16, 2) := by decide +kernel
theorem dX8_declareRecord_4 : decode cX8_declareRecord 4 = .ok (.invokestatic 48, 3) := by decide +kernel
theorem dX8_declareRecord_7 : decode cX8_declareRecord 7 = .ok (.ifCond .ne 5, 3) := by decide +kernel
theorem dX8_declareRecord_10 : decode cX8_declareRecord 10 = .ok (.iconst (-1), 1) := by decide +kernel
theorem dX8_declareRecord_11 : decode cX8_declareRecord 11 = .ok (.ireturn, 1) := by decide +kernel
theorem dX8_declareRecord_12 : decode cX8_declareRecord 12 = .ok (.aload_n 0, 1) := by decide +kernel
theorem dX8_declareRecord_13 : decode cX8_declareRecord 13 = .ok (.getfield 7, 3) := by decide +kernel
theorem dX8_declareRecord_16 : decode cX8_declareRecord 16 = .ok (.iconst 0, 1) := by decide +kernel
theorem dX8_declareRecord_17 : decode cX8_declareRecord 17 = .ok (.iaload, 1) := by decide +kernel
theorem dX8_declareRecord_18 : decode cX8_declareRecord 18 = .ok (.iconst 4, 1) := by decide +kernel
theorem dX8_declareRecord_19 : decode cX8_declareRecord 19 = .ok (.if_icmp .ne 6, 3) := by decide +kernel
theorem dX8_declareRecord_22 : decode cX8_declareRecord 22 = .ok (.bipush (-3), 2) := by decide +kernel
theorem dX8_declareRecord_24 : decode cX8_declareRecord 24 = .ok (.ireturn, 1) := by decide +kernel
theorem dX8_declareRecord_25 : decode cX8_declareRecord 25 = .ok (.aload_n 0, 1) := by decide +kernel
theorem dX8_declareRecord_26 : decode cX8_declareRecord 26 = .ok (.invokevirtual 56, 3) := by decide +kernel
theorem dX8_declareRecord_29 : decode cX8_declareRecord 29 = .ok (.aload_n 0, 1) := by decide +kernel
theorem dX8_declareRecord_30 : decode cX8_declareRecord 30 = .ok (.getfield 7, 3) := by decide +kernel
theorem dX8_declareRecord_33 : decode cX8_declareRecord 33 = .ok (.iconst 1, 1) := by decide +kernel
theorem dX8_declareRecord_34 : decode cX8_declareRecord 34 = .ok (.aload_n 0, 1) := by decide +kernel
theorem dX8_declareRecord_35 : decode cX8_declareRecord 35 = .ok (.getfield 7, 3) := by decide +kernel
theorem dX8_declareRecord_38 : decode cX8_declareRecord 38 = .ok (.iconst 0, 1) := by decide +kernel
theorem dX8_declareRecord_39 : decode cX8_declareRecord 39 = .ok (.iaload, 1) := by decide +kernel
theorem dX8_declareRecord_40 : decode cX8_declareRecord 40 = .ok (.iadd, 1) := by decide +kernel
theorem dX8_declareRecord_41 : decode cX8_declareRecord 41 = .ok (.iload_n 1, 1) := by decide +kernel
theorem dX8_declareRecord_42 : decode cX8_declareRecord 42 = .ok (.iastore, 1) := by decide +kernel
theorem dX8_declareRecord_43 : decode cX8_declareRecord 43 = .ok (.aload_n 0, 1) := by decide +kernel
theorem dX8_declareRecord_44 : decode cX8_declareRecord 44 = .ok (.getfield 7, 3) := by decide +kernel
theorem dX8_declareRecord_47 : decode cX8_declareRecord 47 = .ok (.iconst 0, 1) := by decide +kernel
theorem dX8_declareRecord_48 : decode cX8_declareRecord 48 = .ok (.dup2, 1) := by decide +kernel
theorem dX8_declareRecord_49 : decode cX8_declareRecord 49 = .ok (.iaload, 1) := by decide +kernel
theorem dX8_declareRecord_50 : decode cX8_declareRecord 50 = .ok (.iconst 1, 1) := by decide +kernel
theorem dX8_declareRecord_51 : decode cX8_declareRecord 51 = .ok (.iadd, 1) := by decide +kernel
theorem dX8_declareRecord_52 : decode cX8_declareRecord 52 = .ok (.iastore, 1) := by decide +kernel
theorem dX8_declareRecord_53 : decode cX8_declareRecord 53 = .ok (.aload_n 0, 1) := by decide +kernel
theorem dX8_declareRecord_54 : decode cX8_declareRecord 54 = .ok (.getfield 7, 3) := by decide +kernel
theorem dX8_declareRecord_57 : decode cX8_declareRecord 57 = .ok (.iconst 0, 1) := by decide +kernel
theorem dX8_declareRecord_58 : decode cX8_declareRecord 58 = .ok (.iaload, 1) := by decide +kernel
theorem dX8_declareRecord_59 : decode cX8_declareRecord 59 = .ok (.iconst 1, 1) := by decide +kernel
theorem dX8_declareRecord_60 : decode cX8_declareRecord 60 = .ok (.isub, 1) := by decide +kernel
theorem dX8_declareRecord_61 : decode cX8_declareRecord 61 = .ok (.ireturn, 1) := by decide +kernel
theorem dX8_append_0 : decode cX8_append 0 = .ok (.aload_n 0, 1) := by decide +kernel
theorem dX8_append_1 : decode cX8_append 1 = .ok (.getfield 7, 3) := by decide +kernel
theorem dX8_append_4 : decode cX8_append 4 = .ok (.iconst 5, 1) := by decide +kernel
theorem dX8_append_5 : decode cX8_append 5 = .ok (.iaload, 1) := by decide +kernel
theorem dX8_append_6 : decode cX8_append 6 = .ok (.bipush 24, 2) := by decide +kernel
theorem dX8_append_8 : decode cX8_append 8 = .ok (.if_icmp .ne 6, 3) := by decide +kernel
theorem dX8_append_11 : decode cX8_append 11 = .ok (.bipush (-3), 2) := by decide +kernel
theorem dX8_append_13 : decode cX8_append 13 = .ok (.ireturn, 1) := by decide +kernel
theorem dX8_append_14 : decode cX8_append 14 = .ok (.aload_n 0, 1) := by decide +kernel
theorem dX8_append_15 : decode cX8_append 15 = .ok (.invokevirtual 56, 3) := by decide +kernel
theorem dX8_append_18 : decode cX8_append 18 = .ok (.bipush 6, 2) := by decide +kernel
theorem dX8_append_20 : decode cX8_append 20 = .ok (.bipush 6, 2) := by decide +kernel
theorem dX8_append_22 : decode cX8_append 22 = .ok (.aload_n 0, 1) := by decide +kernel
theorem dX8_append_23 : decode cX8_append 23 = .ok (.getfield 7, 3) := by decide +kernel
theorem dX8_append_26 : decode cX8_append 26 = .ok (.iconst 5, 1) := by decide +kernel
theorem dX8_append_27 : decode cX8_append 27 = .ok (.iaload, 1) := by decide +kernel
theorem dX8_append_28 : decode cX8_append 28 = .ok (.imul, 1) := by decide +kernel
theorem dX8_append_29 : decode cX8_append 29 = .ok (.iadd, 1) := by decide +kernel
theorem dX8_append_30 : decode cX8_append 30 = .ok (.istore 7, 2) := by decide +kernel
theorem dX8_append_32 : decode cX8_append 32 = .ok (.aload_n 0, 1) := by decide +kernel
theorem dX8_append_33 : decode cX8_append 33 = .ok (.getfield 7, 3) := by decide +kernel
theorem dX8_append_36 : decode cX8_append 36 = .ok (.iload 7, 2) := by decide +kernel
theorem dX8_append_38 : decode cX8_append 38 = .ok (.iload_n 1, 1) := by decide +kernel
theorem dX8_append_39 : decode cX8_append 39 = .ok (.iastore, 1) := by decide +kernel
theorem dX8_append_40 : decode cX8_append 40 = .ok (.aload_n 0, 1) := by decide +kernel
theorem dX8_append_41 : decode cX8_append 41 = .ok (.getfield 7, 3) := by decide +kernel
theorem dX8_append_44 : decode cX8_append 44 = .ok (.iload 7, 2) := by decide +kernel
theorem dX8_append_46 : decode cX8_append 46 = .ok (.iconst 1, 1) := by decide +kernel
theorem dX8_append_47 : decode cX8_append 47 = .ok (.iadd, 1) := by decide +kernel
theorem dX8_append_48 : decode cX8_append 48 = .ok (.iload_n 2, 1) := by decide +kernel
theorem dX8_append_49 : decode cX8_append 49 = .ok (.iastore, 1) := by decide +kernel
theorem dX8_append_50 : decode cX8_append 50 = .ok (.aload_n 0, 1) := by decide +kernel
theorem dX8_append_51 : decode cX8_append 51 = .ok (.getfield 7, 3) := by decide +kernel
theorem dX8_append_54 : decode cX8_append 54 = .ok (.iload 7, 2) := by decide +kernel
theorem dX8_append_56 : decode cX8_append 56 = .ok (.iconst 2, 1) := by decide +kernel
theorem dX8_append_57 : decode cX8_append 57 = .ok (.iadd, 1) := by decide +kernel
theorem dX8_append_58 : decode cX8_append 58 = .ok (.iload_n 3, 1) := by decide +kernel
theorem dX8_append_59 : decode cX8_append 59 = .ok (.iastore, 1) := by decide +kernel
theorem dX8_append_60 : decode cX8_append 60 = .ok (.aload_n 0, 1) := by decide +kernel
theorem dX8_append_61 : decode cX8_append 61 = .ok (.getfield 7, 3) := by decide +kernel
theorem dX8_append_64 : decode cX8_append 64 = .ok (.iload 7, 2) := by decide +kernel
theorem dX8_append_66 : decode cX8_append 66 = .ok (.iconst 3, 1) := by decide +kernel
theorem dX8_append_67 : decode cX8_append 67 = .ok (.iadd, 1) := by decide +kernel
theorem dX8_append_68 : decode cX8_append 68 = .ok (.iload 4, 2) := by decide +kernel
theorem dX8_append_70 : decode cX8_append 70 = .ok (.iastore, 1) := by decide +kernel
theorem dX8_append_71 : decode cX8_append 71 = .ok (.aload_n 0, 1) := by decide +kernel
theorem dX8_append_72 : decode cX8_append 72 = .ok (.getfield 7, 3) := by decide +kernel
theorem dX8_append_75 : decode cX8_append 75 = .ok (.iload 7, 2) := by decide +kernel
theorem dX8_append_77 : decode cX8_append 77 = .ok (.iconst 4, 1) := by decide +kernel
theorem dX8_append_78 : decode cX8_append 78 = .ok (.iadd, 1) := by decide +kernel
theorem dX8_append_79 : decode cX8_append 79 = .ok (.iload 5, 2) := by decide +kernel
theorem dX8_append_81 : decode cX8_append 81 = .ok (.iastore, 1) := by decide +kernel
theorem dX8_append_82 : decode cX8_append 82 = .ok (.aload_n 0, 1) := by decide +kernel
theorem dX8_append_83 : decode cX8_append 83 = .ok (.getfield 7, 3) := by decide +kernel
theorem dX8_append_86 : decode cX8_append 86 = .ok (.iload 7, 2) := by decide +kernel
theorem dX8_append_88 : decode cX8_append 88 = .ok (.iconst 5, 1) := by decide +kernel
theorem dX8_append_89 : decode cX8_append 89 = .ok (.iadd, 1) := by decide +kernel
theorem dX8_append_90 : decode cX8_append 90 = .ok (.iload 6, 2) := by decide +kernel
theorem dX8_append_92 : decode cX8_append 92 = .ok (.iastore, 1) := by decide +kernel
theorem dX8_append_93 : decode cX8_append 93 = .ok (.aload_n 0, 1) := by decide +kernel
theorem dX8_append_94 : decode cX8_append 94 = .ok (.getfield 7, 3) := by decide +kernel
theorem dX8_append_97 : decode cX8_append 97 = .ok (.iconst 5, 1) := by decide +kernel
theorem dX8_append_98 : decode cX8_append 98 = .ok (.dup2, 1) := by decide +kernel
theorem dX8_append_99 : decode cX8_append 99 = .ok (.iaload, 1) := by decide +kernel
theorem dX8_append_100 : decode cX8_append 100 = .ok (.iconst 1, 1) := by decide +kernel
theorem dX8_append_101 : decode cX8_append 101 = .ok (.iadd, 1) := by decide +kernel
theorem dX8_append_102 : decode cX8_append 102 = .ok (.iastore, 1) := by decide +kernel
theorem dX8_append_103 : decode cX8_append 103 = .ok (.aload_n 0, 1) := by decide +kernel
theorem dX8_append_104 : decode cX8_append 104 = .ok (.getfield 7, 3) := by decide +kernel
theorem dX8_append_107 : decode cX8_append 107 = .ok (.iconst 5, 1) := by decide +kernel
theorem dX8_append_108 : decode cX8_append 108 = .ok (.iaload, 1) := by decide +kernel
theorem dX8_append_109 : decode cX8_append 109 = .ok (.iconst 1, 1) := by decide +kernel
theorem dX8_append_110 : decode cX8_append 110 = .ok (.isub, 1) := by decide +kernel
theorem dX8_append_111 : decode cX8_append 111 = .ok (.ireturn, 1) := by decide +kernel
theorem dX8_appendStore_0 : decode cX8_appendStore 0 = .ok (.iload_n 3, 1) := by decide +kernel
theorem dX8_appendStore_1 : decode cX8_appendStore 1 = .ok (.invokestatic 59, 3) := by decide +kernel
theorem dX8_appendStore_4 : decode cX8_appendStore 4 = .ok (.ifCond .eq 25, 3) := by decide +kernel
theorem dX8_appendStore_7 : decode cX8_appendStore 7 = .ok (.aload_n 0, 1) := by decide +kernel
theorem dX8_appendStore_8 : decode cX8_appendStore 8 = .ok (.iload_n 1, 1) := by decide +kernel
theorem dX8_appendStore_9 : decode cX8_appendStore 9 = .ok (.iload_n 2, 1) := by decide +kernel
theorem dX8_appendStore_10 : decode cX8_appendStore 10 = .ok (.iload_n 3, 1) := by decide +kernel
theorem dX8_appendStore_11 : decode cX8_appendStore 11 = .ok (.invokevirtual 62, 3) := by decide +kernel
theorem dX8_appendStore_14 : decode cX8_appendStore 14 = .ok (.ifCond .eq 15, 3) := by decide +kernel
theorem dX8_appendStore_17 : decode cX8_appendStore 17 = .ok (.iload 4, 2) := by decide +kernel
theorem dX8_appendStore_19 : decode cX8_appendStore 19 = .ok (.invokestatic 65, 3) := by decide +kernel
theorem dX8_appendStore_22 : decode cX8_appendStore 22 = .ok (.ifCond .eq 7, 3) := by decide +kernel
theorem dX8_appendStore_25 : decode cX8_appendStore 25 = .ok (.iconst 1, 1) := by decide +kernel
theorem dX8_appendStore_26 : decode cX8_appendStore 26 = .ok (.goto 4, 3) := by decide +kernel
theorem dX8_appendStore_29 : decode cX8_appendStore 29 = .ok (.iconst 0, 1) := by decide +kernel
theorem dX8_appendStore_30 : decode cX8_appendStore 30 = .ok (.istore 5, 2) := by decide +kernel
theorem dX8_appendStore_32 : decode cX8_appendStore 32 = .ok (.iload 5, 2) := by decide +kernel
theorem dX8_appendStore_34 : decode cX8_appendStore 34 = .ok (.ifCond .eq 17, 3) := by decide +kernel
theorem dX8_appendStore_37 : decode cX8_appendStore 37 = .ok (.aload_n 0, 1) := by decide +kernel
theorem dX8_appendStore_38 : decode cX8_appendStore 38 = .ok (.iconst 1, 1) := by decide +kernel
theorem dX8_appendStore_39 : decode cX8_appendStore 39 = .ok (.iload_n 1, 1) := by decide +kernel
theorem dX8_appendStore_40 : decode cX8_appendStore 40 = .ok (.iload_n 2, 1) := by decide +kernel
theorem dX8_appendStore_41 : decode cX8_appendStore 41 = .ok (.iload_n 3, 1) := by decide +kernel
theorem dX8_appendStore_42 : decode cX8_appendStore 42 = .ok (.iload 4, 2) := by decide +kernel
theorem dX8_appendStore_44 : decode cX8_appendStore 44 = .ok (.iconst 0, 1) := by decide +kernel
theorem dX8_appendStore_45 : decode cX8_appendStore 45 = .ok (.invokevirtual 68, 3) := by decide +kernel
theorem dX8_appendStore_48 : decode cX8_appendStore 48 = .ok (.goto 4, 3) := by decide +kernel
theorem dX8_appendStore_51 : decode cX8_appendStore 51 = .ok (.iconst (-1), 1) := by decide +kernel
theorem dX8_appendStore_52 : decode cX8_appendStore 52 = .ok (.ireturn, 1) := by decide +kernel
theorem dX8_appendLoad_0 : decode cX8_appendLoad 0 = .ok (.iload 4, 2) := by decide +kernel
theorem dX8_appendLoad_2 : decode cX8_appendLoad 2 = .ok (.invokestatic 59, 3) := by decide +kernel
theorem dX8_appendLoad_5 : decode cX8_appendLoad 5 = .ok (.ifCond .eq 25, 3) := by decide +kernel
theorem dX8_appendLoad_8 : decode cX8_appendLoad 8 = .ok (.aload_n 0, 1) := by decide +kernel
theorem dX8_appendLoad_9 : decode cX8_appendLoad 9 = .ok (.iload_n 2, 1) := by decide +kernel
theorem dX8_appendLoad_10 : decode cX8_appendLoad 10 = .ok (.iload_n 3, 1) := by decide +kernel
theorem dX8_appendLoad_11 : decode cX8_appendLoad 11 = .ok (.iload 4, 2) := by decide +kernel
theorem dX8_appendLoad_13 : decode cX8_appendLoad 13 = .ok (.invokevirtual 62, 3) := by decide +kernel
theorem dX8_appendLoad_16 : decode cX8_appendLoad 16 = .ok (.ifCond .eq 14, 3) := by decide +kernel
theorem dX8_appendLoad_19 : decode cX8_appendLoad 19 = .ok (.iload_n 1, 1) := by decide +kernel
theorem dX8_appendLoad_20 : decode cX8_appendLoad 20 = .ok (.invokestatic 65, 3) := by decide +kernel
theorem dX8_appendLoad_23 : decode cX8_appendLoad 23 = .ok (.ifCond .eq 7, 3) := by decide +kernel
theorem dX8_appendLoad_26 : decode cX8_appendLoad 26 = .ok (.iconst 1, 1) := by decide +kernel
theorem dX8_appendLoad_27 : decode cX8_appendLoad 27 = .ok (.goto 4, 3) := by decide +kernel
theorem dX8_appendLoad_30 : decode cX8_appendLoad 30 = .ok (.iconst 0, 1) := by decide +kernel
theorem dX8_appendLoad_31 : decode cX8_appendLoad 31 = .ok (.istore 5, 2) := by decide +kernel
theorem dX8_appendLoad_33 : decode cX8_appendLoad 33 = .ok (.iload 5, 2) := by decide +kernel
theorem dX8_appendLoad_35 : decode cX8_appendLoad 35 = .ok (.ifCond .eq 17, 3) := by decide +kernel
theorem dX8_appendLoad_38 : decode cX8_appendLoad 38 = .ok (.aload_n 0, 1) := by decide +kernel
theorem dX8_appendLoad_39 : decode cX8_appendLoad 39 = .ok (.iconst 2, 1) := by decide +kernel
theorem dX8_appendLoad_40 : decode cX8_appendLoad 40 = .ok (.iload_n 2, 1) := by decide +kernel
theorem dX8_appendLoad_41 : decode cX8_appendLoad 41 = .ok (.iload_n 3, 1) := by decide +kernel
theorem dX8_appendLoad_42 : decode cX8_appendLoad 42 = .ok (.iload 4, 2) := by decide +kernel
theorem dX8_appendLoad_44 : decode cX8_appendLoad 44 = .ok (.iload_n 1, 1) := by decide +kernel
theorem dX8_appendLoad_45 : decode cX8_appendLoad 45 = .ok (.iconst 0, 1) := by decide +kernel
theorem dX8_appendLoad_46 : decode cX8_appendLoad 46 = .ok (.invokevirtual 68, 3) := by decide +kernel
theorem dX8_appendLoad_49 : decode cX8_appendLoad 49 = .ok (.goto 4, 3) := by decide +kernel
theorem dX8_appendLoad_52 : decode cX8_appendLoad 52 = .ok (.iconst (-1), 1) := by decide +kernel
theorem dX8_appendLoad_53 : decode cX8_appendLoad 53 = .ok (.ireturn, 1) := by decide +kernel
theorem dX8_appendCopy_0 : decode cX8_appendCopy 0 = .ok (.aload_n 0, 1) := by decide +kernel
theorem dX8_appendCopy_1 : decode cX8_appendCopy 1 = .ok (.iload_n 1, 1) := by decide +kernel
theorem dX8_appendCopy_2 : decode cX8_appendCopy 2 = .ok (.iload_n 2, 1) := by decide +kernel
theorem dX8_appendCopy_3 : decode cX8_appendCopy 3 = .ok (.iload 5, 2) := by decide +kernel
theorem dX8_appendCopy_5 : decode cX8_appendCopy 5 = .ok (.invokevirtual 62, 3) := by decide +kernel
theorem dX8_appendCopy_8 : decode cX8_appendCopy 8 = .ok (.ifCond .eq 15, 3) := by decide +kernel
theorem dX8_appendCopy_11 : decode cX8_appendCopy 11 = .ok (.aload_n 0, 1) := by decide +kernel
theorem dX8_appendCopy_12 : decode cX8_appendCopy 12 = .ok (.iload_n 3, 1) := by decide +kernel
theorem dX8_appendCopy_13 : decode cX8_appendCopy 13 = .ok (.iload 4, 2) := by decide +kernel
theorem dX8_appendCopy_15 : decode cX8_appendCopy 15 = .ok (.iload 5, 2) := by decide +kernel
theorem dX8_appendCopy_17 : decode cX8_appendCopy 17 = .ok (.invokevirtual 62, 3) := by decide +kernel
theorem dX8_appendCopy_20 : decode cX8_appendCopy 20 = .ok (.ifCond .ne 5, 3) := by decide +kernel
theorem dX8_appendCopy_23 : decode cX8_appendCopy 23 = .ok (.iconst (-1), 1) := by decide +kernel
theorem dX8_appendCopy_24 : decode cX8_appendCopy 24 = .ok (.ireturn, 1) := by decide +kernel
theorem dX8_appendCopy_25 : decode cX8_appendCopy 25 = .ok (.iload_n 1, 1) := by decide +kernel
theorem dX8_appendCopy_26 : decode cX8_appendCopy 26 = .ok (.iload_n 3, 1) := by decide +kernel
theorem dX8_appendCopy_27 : decode cX8_appendCopy 27 = .ok (.if_icmp .ne 23, 3) := by decide +kernel
theorem dX8_appendCopy_30 : decode cX8_appendCopy 30 = .ok (.iload_n 2, 1) := by decide +kernel
theorem dX8_appendCopy_31 : decode cX8_appendCopy 31 = .ok (.iload 4, 2) := by decide +kernel
theorem dX8_appendCopy_33 : decode cX8_appendCopy 33 = .ok (.iload 5, 2) := by decide +kernel
theorem dX8_appendCopy_35 : decode cX8_appendCopy 35 = .ok (.iadd, 1) := by decide +kernel
theorem dX8_appendCopy_36 : decode cX8_appendCopy 36 = .ok (.if_icmp .ge 14, 3) := by decide +kernel
theorem dX8_appendCopy_39 : decode cX8_appendCopy 39 = .ok (.iload 4, 2) := by decide +kernel
theorem dX8_appendCopy_41 : decode cX8_appendCopy 41 = .ok (.iload_n 2, 1) := by decide +kernel
theorem dX8_appendCopy_42 : decode cX8_appendCopy 42 = .ok (.iload 5, 2) := by decide +kernel
theorem dX8_appendCopy_44 : decode cX8_appendCopy 44 = .ok (.iadd, 1) := by decide +kernel
theorem dX8_appendCopy_45 : decode cX8_appendCopy 45 = .ok (.if_icmp .ge 5, 3) := by decide +kernel
theorem dX8_appendCopy_48 : decode cX8_appendCopy 48 = .ok (.iconst (-1), 1) := by decide +kernel
theorem dX8_appendCopy_49 : decode cX8_appendCopy 49 = .ok (.ireturn, 1) := by decide +kernel
theorem dX8_appendCopy_50 : decode cX8_appendCopy 50 = .ok (.aload_n 0, 1) := by decide +kernel
theorem dX8_appendCopy_51 : decode cX8_appendCopy 51 = .ok (.iconst 3, 1) := by decide +kernel
theorem dX8_appendCopy_52 : decode cX8_appendCopy 52 = .ok (.iload_n 1, 1) := by decide +kernel
theorem dX8_appendCopy_53 : decode cX8_appendCopy 53 = .ok (.iload_n 2, 1) := by decide +kernel
theorem dX8_appendCopy_54 : decode cX8_appendCopy 54 = .ok (.iload_n 3, 1) := by decide +kernel
theorem dX8_appendCopy_55 : decode cX8_appendCopy 55 = .ok (.iload 4, 2) := by decide +kernel
theorem dX8_appendCopy_57 : decode cX8_appendCopy 57 = .ok (.iload 5, 2) := by decide +kernel
theorem dX8_appendCopy_59 : decode cX8_appendCopy 59 = .ok (.invokevirtual 68, 3) := by decide +kernel
theorem dX8_appendCopy_62 : decode cX8_appendCopy 62 = .ok (.ireturn, 1) := by decide +kernel
theorem dX8_appendEscape_0 : decode cX8_appendEscape 0 = .ok (.aload_n 0, 1) := by decide +kernel
theorem dX8_appendEscape_1 : decode cX8_appendEscape 1 = .ok (.iload_n 1, 1) := by decide +kernel
theorem dX8_appendEscape_2 : decode cX8_appendEscape 2 = .ok (.invokevirtual 52, 3) := by decide +kernel
theorem dX8_appendEscape_5 : decode cX8_appendEscape 5 = .ok (.ifCond .eq 16, 3) := by decide +kernel
theorem dX8_appendEscape_8 : decode cX8_appendEscape 8 = .ok (.aload_n 0, 1) := by decide +kernel
theorem dX8_appendEscape_9 : decode cX8_appendEscape 9 = .ok (.iconst 4, 1) := by decide +kernel
theorem dX8_appendEscape_10 : decode cX8_appendEscape 10 = .ok (.iload_n 1, 1) := by decide +kernel
theorem dX8_appendEscape_11 : decode cX8_appendEscape 11 = .ok (.iconst 0, 1) := by decide +kernel
theorem dX8_appendEscape_12 : decode cX8_appendEscape 12 = .ok (.iconst 0, 1) := by decide +kernel
theorem dX8_appendEscape_13 : decode cX8_appendEscape 13 = .ok (.iconst 0, 1) := by decide +kernel
theorem dX8_appendEscape_14 : decode cX8_appendEscape 14 = .ok (.iconst 0, 1) := by decide +kernel
theorem dX8_appendEscape_15 : decode cX8_appendEscape 15 = .ok (.invokevirtual 68, 3) := by decide +kernel
theorem dX8_appendEscape_18 : decode cX8_appendEscape 18 = .ok (.goto 4, 3) := by decide +kernel
theorem dX8_appendEscape_21 : decode cX8_appendEscape 21 = .ok (.iconst (-1), 1) := by decide +kernel
theorem dX8_appendEscape_22 : decode cX8_appendEscape 22 = .ok (.ireturn, 1) := by decide +kernel
theorem dX8_appendConstant_0 : decode cX8_appendConstant 0 = .ok (.iload_n 1, 1) := by decide +kernel
theorem dX8_appendConstant_1 : decode cX8_appendConstant 1 = .ok (.invokestatic 65, 3) := by decide +kernel
theorem dX8_appendConstant_4 : decode cX8_appendConstant 4 = .ok (.ifCond .eq 16, 3) := by decide +kernel
theorem dX8_appendConstant_7 : decode cX8_appendConstant 7 = .ok (.aload_n 0, 1) := by decide +kernel
theorem dX8_appendConstant_8 : decode cX8_appendConstant 8 = .ok (.iconst 5, 1) := by decide +kernel
theorem dX8_appendConstant_9 : decode cX8_appendConstant 9 = .ok (.iload_n 1, 1) := by decide +kernel
theorem dX8_appendConstant_10 : decode cX8_appendConstant 10 = .ok (.iload_n 2, 1) := by decide +kernel
theorem dX8_appendConstant_11 : decode cX8_appendConstant 11 = .ok (.iconst 0, 1) := by decide +kernel
theorem dX8_appendConstant_12 : decode cX8_appendConstant 12 = .ok (.iconst 0, 1) := by decide +kernel
theorem dX8_appendConstant_13 : decode cX8_appendConstant 13 = .ok (.iconst 0, 1) := by decide +kernel
theorem dX8_appendConstant_14 : decode cX8_appendConstant 14 = .ok (.invokevirtual 68, 3) := by decide +kernel
theorem dX8_appendConstant_17 : decode cX8_appendConstant 17 = .ok (.goto 4, 3) := by decide +kernel
theorem dX8_appendConstant_20 : decode cX8_appendConstant 20 = .ok (.iconst (-1), 1) := by decide +kernel
theorem dX8_appendConstant_21 : decode cX8_appendConstant 21 = .ok (.ireturn, 1) := by decide +kernel
theorem dX8_appendAdd_0 : decode cX8_appendAdd 0 = .ok (.iload_n 1, 1) := by decide +kernel
theorem dX8_appendAdd_1 : decode cX8_appendAdd 1 = .ok (.invokestatic 65, 3) := by decide +kernel
theorem dX8_appendAdd_4 : decode cX8_appendAdd 4 = .ok (.ifCond .eq 31, 3) := by decide +kernel
theorem dX8_appendAdd_7 : decode cX8_appendAdd 7 = .ok (.iload_n 2, 1) := by decide +kernel
theorem dX8_appendAdd_8 : decode cX8_appendAdd 8 = .ok (.invokestatic 65, 3) := by decide +kernel
theorem dX8_appendAdd_11 : decode cX8_appendAdd 11 = .ok (.ifCond .eq 24, 3) := by decide +kernel
theorem dX8_appendAdd_14 : decode cX8_appendAdd 14 = .ok (.iload_n 3, 1) := by decide +kernel
theorem dX8_appendAdd_15 : decode cX8_appendAdd 15 = .ok (.invokestatic 65, 3) := by decide +kernel
theorem dX8_appendAdd_18 : decode cX8_appendAdd 18 = .ok (.ifCond .eq 17, 3) := by decide +kernel
theorem dX8_appendAdd_21 : decode cX8_appendAdd 21 = .ok (.aload_n 0, 1) := by decide +kernel
theorem dX8_appendAdd_22 : decode cX8_appendAdd 22 = .ok (.bipush 6, 2) := by decide +kernel
theorem dX8_appendAdd_24 : decode cX8_appendAdd 24 = .ok (.iload_n 1, 1) := by decide +kernel
theorem dX8_appendAdd_25 : decode cX8_appendAdd 25 = .ok (.iload_n 2, 1) := by decide +kernel
theorem dX8_appendAdd_26 : decode cX8_appendAdd 26 = .ok (.iload_n 3, 1) := by decide +kernel
theorem dX8_appendAdd_27 : decode cX8_appendAdd 27 = .ok (.iconst 0, 1) := by decide +kernel
theorem dX8_appendAdd_28 : decode cX8_appendAdd 28 = .ok (.iconst 0, 1) := by decide +kernel
theorem dX8_appendAdd_29 : decode cX8_appendAdd 29 = .ok (.invokevirtual 68, 3) := by decide +kernel
theorem dX8_appendAdd_32 : decode cX8_appendAdd 32 = .ok (.goto 4, 3) := by decide +kernel
theorem dX8_appendAdd_35 : decode cX8_appendAdd 35 = .ok (.iconst (-1), 1) := by decide +kernel
theorem dX8_appendAdd_36 : decode cX8_appendAdd 36 = .ok (.ireturn, 1) := by decide +kernel
theorem dX8_appendSkip_0 : decode cX8_appendSkip 0 = .ok (.iload_n 1, 1) := by decide +kernel
theorem dX8_appendSkip_1 : decode cX8_appendSkip 1 = .ok (.invokestatic 65, 3) := by decide +kernel
theorem dX8_appendSkip_4 : decode cX8_appendSkip 4 = .ok (.ifCond .eq 27, 3) := by decide +kernel
theorem dX8_appendSkip_7 : decode cX8_appendSkip 7 = .ok (.iload_n 2, 1) := by decide +kernel
theorem dX8_appendSkip_8 : decode cX8_appendSkip 8 = .ok (.iconst 1, 1) := by decide +kernel
theorem dX8_appendSkip_9 : decode cX8_appendSkip 9 = .ok (.bipush 9, 2) := by decide +kernel
theorem dX8_appendSkip_11 : decode cX8_appendSkip 11 = .ok (.invokestatic 48, 3) := by decide +kernel
theorem dX8_appendSkip_14 : decode cX8_appendSkip 14 = .ok (.ifCond .eq 17, 3) := by decide +kernel
theorem dX8_appendSkip_17 : decode cX8_appendSkip 17 = .ok (.aload_n 0, 1) := by decide +kernel
theorem dX8_appendSkip_18 : decode cX8_appendSkip 18 = .ok (.bipush 7, 2) := by decide +kernel
theorem dX8_appendSkip_20 : decode cX8_appendSkip 20 = .ok (.iload_n 1, 1) := by decide +kernel
theorem dX8_appendSkip_21 : decode cX8_appendSkip 21 = .ok (.iload_n 2, 1) := by decide +kernel
theorem dX8_appendSkip_22 : decode cX8_appendSkip 22 = .ok (.iconst 0, 1) := by decide +kernel
theorem dX8_appendSkip_23 : decode cX8_appendSkip 23 = .ok (.iconst 0, 1) := by decide +kernel
theorem dX8_appendSkip_24 : decode cX8_appendSkip 24 = .ok (.iconst 0, 1) := by decide +kernel
theorem dX8_appendSkip_25 : decode cX8_appendSkip 25 = .ok (.invokevirtual 68, 3) := by decide +kernel
theorem dX8_appendSkip_28 : decode cX8_appendSkip 28 = .ok (.goto 4, 3) := by decide +kernel
theorem dX8_appendSkip_31 : decode cX8_appendSkip 31 = .ok (.iconst (-1), 1) := by decide +kernel
theorem dX8_appendSkip_32 : decode cX8_appendSkip 32 = .ok (.ireturn, 1) := by decide +kernel
theorem dX8_appendOutput_0 : decode cX8_appendOutput 0 = .ok (.iload_n 1, 1) := by decide +kernel
theorem dX8_appendOutput_1 : decode cX8_appendOutput 1 = .ok (.invokestatic 65, 3) := by decide +kernel
theorem dX8_appendOutput_4 : decode cX8_appendOutput 4 = .ok (.ifCond .eq 17, 3) := by decide +kernel
theorem dX8_appendOutput_7 : decode cX8_appendOutput 7 = .ok (.aload_n 0, 1) := by decide +kernel
theorem dX8_appendOutput_8 : decode cX8_appendOutput 8 = .ok (.bipush 8, 2) := by decide +kernel
theorem dX8_appendOutput_10 : decode cX8_appendOutput 10 = .ok (.iload_n 1, 1) := by decide +kernel
theorem dX8_appendOutput_11 : decode cX8_appendOutput 11 = .ok (.iconst 0, 1) := by decide +kernel
theorem dX8_appendOutput_12 : decode cX8_appendOutput 12 = .ok (.iconst 0, 1) := by decide +kernel
theorem dX8_appendOutput_13 : decode cX8_appendOutput 13 = .ok (.iconst 0, 1) := by decide +kernel
theorem dX8_appendOutput_14 : decode cX8_appendOutput 14 = .ok (.iconst 0, 1) := by decide +kernel
theorem dX8_appendOutput_15 : decode cX8_appendOutput 15 = .ok (.invokevirtual 68, 3) := by decide +kernel
theorem dX8_appendOutput_18 : decode cX8_appendOutput 18 = .ok (.goto 4, 3) := by decide +kernel
theorem dX8_appendOutput_21 : decode cX8_appendOutput 21 = .ok (.iconst (-1), 1) := by decide +kernel
theorem dX8_appendOutput_22 : decode cX8_appendOutput 22 = .ok (.ireturn, 1) := by decide +kernel
theorem dX8_removeInstruction_0 : decode cX8_removeInstruction 0 = .ok (.iload_n 1, 1) := by decide +kernel
theorem dX8_removeInstruction_1 : decode cX8_removeInstruction 1 = .ok (.iconst 0, 1) := by decide +kernel
theorem dX8_removeInstruction_2 : decode cX8_removeInstruction 2 = .ok (.aload_n 0, 1) := by decide +kernel
theorem dX8_removeInstruction_3 : decode cX8_removeInstruction 3 = .ok (.getfield 7, 3) := by decide +kernel
theorem dX8_removeInstruction_6 : decode cX8_removeInstruction 6 = .ok (.iconst 5, 1) := by decide +kernel
theorem dX8_removeInstruction_7 : decode cX8_removeInstruction 7 = .ok (.iaload, 1) := by decide +kernel
theorem dX8_removeInstruction_8 : decode cX8_removeInstruction 8 = .ok (.iconst 1, 1) := by decide +kernel
theorem dX8_removeInstruction_9 : decode cX8_removeInstruction 9 = .ok (.isub, 1) := by decide +kernel
theorem dX8_removeInstruction_10 : decode cX8_removeInstruction 10 = .ok (.invokestatic 48, 3) := by decide +kernel
theorem dX8_removeInstruction_13 : decode cX8_removeInstruction 13 = .ok (.ifCond .ne 5, 3) := by decide +kernel
theorem dX8_removeInstruction_16 : decode cX8_removeInstruction 16 = .ok (.iconst (-1), 1) := by decide +kernel
theorem dX8_removeInstruction_17 : decode cX8_removeInstruction 17 = .ok (.ireturn, 1) := by decide +kernel
theorem dX8_removeInstruction_18 : decode cX8_removeInstruction 18 = .ok (.aload_n 0, 1) := by decide +kernel
theorem dX8_removeInstruction_19 : decode cX8_removeInstruction 19 = .ok (.invokevirtual 56, 3) := by decide +kernel
theorem dX8_removeInstruction_22 : decode cX8_removeInstruction 22 = .ok (.bipush 6, 2) := by decide +kernel
theorem dX8_removeInstruction_24 : decode cX8_removeInstruction 24 = .ok (.bipush 6, 2) := by decide +kernel
theorem dX8_removeInstruction_26 : decode cX8_removeInstruction 26 = .ok (.iload_n 1, 1) := by decide +kernel
theorem dX8_removeInstruction_27 : decode cX8_removeInstruction 27 = .ok (.imul, 1) := by decide +kernel
theorem dX8_removeInstruction_28 : decode cX8_removeInstruction 28 = .ok (.iadd, 1) := by decide +kernel
theorem dX8_removeInstruction_29 : decode cX8_removeInstruction 29 = .ok (.istore_n 2, 1) := by decide +kernel
theorem dX8_removeInstruction_30 : decode cX8_removeInstruction 30 = .ok (.iload_n 2, 1) := by decide +kernel
theorem dX8_removeInstruction_31 : decode cX8_removeInstruction 31 = .ok (.bipush 6, 2) := by decide +kernel
theorem dX8_removeInstruction_33 : decode cX8_removeInstruction 33 = .ok (.iadd, 1) := by decide +kernel
theorem dX8_removeInstruction_34 : decode cX8_removeInstruction 34 = .ok (.sipush 150, 3) := by decide +kernel
theorem dX8_removeInstruction_37 : decode cX8_removeInstruction 37 = .ok (.if_icmp .ge 24, 3) := by decide +kernel
theorem dX8_removeInstruction_40 : decode cX8_removeInstruction 40 = .ok (.aload_n 0, 1) := by decide +kernel
theorem dX8_removeInstruction_41 : decode cX8_removeInstruction 41 = .ok (.getfield 7, 3) := by decide +kernel
theorem dX8_removeInstruction_44 : decode cX8_removeInstruction 44 = .ok (.iload_n 2, 1) := by decide +kernel
theorem dX8_removeInstruction_45 : decode cX8_removeInstruction 45 = .ok (.aload_n 0, 1) := by decide +kernel
theorem dX8_removeInstruction_46 : decode cX8_removeInstruction 46 = .ok (.getfield 7, 3) := by decide +kernel
theorem dX8_removeInstruction_49 : decode cX8_removeInstruction 49 = .ok (.iload_n 2, 1) := by decide +kernel
theorem dX8_removeInstruction_50 : decode cX8_removeInstruction 50 = .ok (.bipush 6, 2) := by decide +kernel
theorem dX8_removeInstruction_52 : decode cX8_removeInstruction 52 = .ok (.iadd, 1) := by decide +kernel
theorem dX8_removeInstruction_53 : decode cX8_removeInstruction 53 = .ok (.iaload, 1) := by decide +kernel
theorem dX8_removeInstruction_54 : decode cX8_removeInstruction 54 = .ok (.iastore, 1) := by decide +kernel
theorem dX8_removeInstruction_55 : decode cX8_removeInstruction 55 = .ok (.iinc 2 1, 3) := by decide +kernel
theorem dX8_removeInstruction_58 : decode cX8_removeInstruction 58 = .ok (.goto (-28), 3) := by decide +kernel
theorem dX8_removeInstruction_61 : decode cX8_removeInstruction 61 = .ok (.aload_n 0, 1) := by decide +kernel
theorem dX8_removeInstruction_62 : decode cX8_removeInstruction 62 = .ok (.getfield 7, 3) := by decide +kernel
theorem dX8_removeInstruction_65 : decode cX8_removeInstruction 65 = .ok (.iconst 5, 1) := by decide +kernel
theorem dX8_removeInstruction_66 : decode cX8_removeInstruction 66 = .ok (.dup2, 1) := by decide +kernel
theorem dX8_removeInstruction_67 : decode cX8_removeInstruction 67 = .ok (.iaload, 1) := by decide +kernel
theorem dX8_removeInstruction_68 : decode cX8_removeInstruction 68 = .ok (.iconst 1, 1) := by decide +kernel
theorem dX8_removeInstruction_69 : decode cX8_removeInstruction 69 = .ok (.isub, 1) := by decide +kernel
theorem dX8_removeInstruction_70 : decode cX8_removeInstruction 70 = .ok (.iastore, 1) := by decide +kernel
theorem dX8_removeInstruction_71 : decode cX8_removeInstruction 71 = .ok (.aload_n 0, 1) := by decide +kernel
theorem dX8_removeInstruction_72 : decode cX8_removeInstruction 72 = .ok (.getfield 7, 3) := by decide +kernel
theorem dX8_removeInstruction_75 : decode cX8_removeInstruction 75 = .ok (.iconst 5, 1) := by decide +kernel
theorem dX8_removeInstruction_76 : decode cX8_removeInstruction 76 = .ok (.iaload, 1) := by decide +kernel
theorem dX8_removeInstruction_77 : decode cX8_removeInstruction 77 = .ok (.ireturn, 1) := by decide +kernel
theorem dX8_undo_0 : decode cX8_undo 0 = .ok (.aload_n 0, 1) := by decide +kernel
theorem dX8_undo_1 : decode cX8_undo 1 = .ok (.getfield 44, 3) := by decide +kernel
theorem dX8_undo_4 : decode cX8_undo 4 = .ok (.ifCond .ne 6, 3) := by decide +kernel
theorem dX8_undo_7 : decode cX8_undo 7 = .ok (.bipush (-2), 2) := by decide +kernel
theorem dX8_undo_9 : decode cX8_undo 9 = .ok (.ireturn, 1) := by decide +kernel
theorem dX8_undo_10 : decode cX8_undo 10 = .ok (.aload_n 0, 1) := by decide +kernel
theorem dX8_undo_11 : decode cX8_undo 11 = .ok (.dup, 1) := by decide +kernel
theorem dX8_undo_12 : decode cX8_undo 12 = .ok (.getfield 44, 3) := by decide +kernel
theorem dX8_undo_15 : decode cX8_undo 15 = .ok (.iconst 1, 1) := by decide +kernel
theorem dX8_undo_16 : decode cX8_undo 16 = .ok (.isub, 1) := by decide +kernel
theorem dX8_undo_17 : decode cX8_undo 17 = .ok (.putfield 44, 3) := by decide +kernel
theorem dX8_undo_20 : decode cX8_undo 20 = .ok (.iconst 0, 1) := by decide +kernel
theorem dX8_undo_21 : decode cX8_undo 21 = .ok (.istore_n 1, 1) := by decide +kernel
theorem dX8_undo_22 : decode cX8_undo 22 = .ok (.iload_n 1, 1) := by decide +kernel
theorem dX8_undo_23 : decode cX8_undo 23 = .ok (.sipush 150, 3) := by decide +kernel
theorem dX8_undo_26 : decode cX8_undo 26 = .ok (.if_icmp .ge 30, 3) := by decide +kernel
theorem dX8_undo_29 : decode cX8_undo 29 = .ok (.aload_n 0, 1) := by decide +kernel
theorem dX8_undo_30 : decode cX8_undo 30 = .ok (.getfield 7, 3) := by decide +kernel
theorem dX8_undo_33 : decode cX8_undo 33 = .ok (.iload_n 1, 1) := by decide +kernel
theorem dX8_undo_34 : decode cX8_undo 34 = .ok (.aload_n 0, 1) := by decide +kernel
theorem dX8_undo_35 : decode cX8_undo 35 = .ok (.getfield 13, 3) := by decide +kernel
theorem dX8_undo_38 : decode cX8_undo 38 = .ok (.sipush 150, 3) := by decide +kernel
theorem dX8_undo_41 : decode cX8_undo 41 = .ok (.aload_n 0, 1) := by decide +kernel
theorem dX8_undo_42 : decode cX8_undo 42 = .ok (.getfield 44, 3) := by decide +kernel
theorem dX8_undo_45 : decode cX8_undo 45 = .ok (.imul, 1) := by decide +kernel
theorem dX8_undo_46 : decode cX8_undo 46 = .ok (.iload_n 1, 1) := by decide +kernel
theorem dX8_undo_47 : decode cX8_undo 47 = .ok (.iadd, 1) := by decide +kernel
theorem dX8_undo_48 : decode cX8_undo 48 = .ok (.iaload, 1) := by decide +kernel
theorem dX8_undo_49 : decode cX8_undo 49 = .ok (.iastore, 1) := by decide +kernel
theorem dX8_undo_50 : decode cX8_undo 50 = .ok (.iinc 1 1, 3) := by decide +kernel
theorem dX8_undo_53 : decode cX8_undo 53 = .ok (.goto (-31), 3) := by decide +kernel
theorem dX8_undo_56 : decode cX8_undo 56 = .ok (.aload_n 0, 1) := by decide +kernel
theorem dX8_undo_57 : decode cX8_undo 57 = .ok (.getfield 44, 3) := by decide +kernel
theorem dX8_undo_60 : decode cX8_undo 60 = .ok (.ireturn, 1) := by decide +kernel
theorem dX8_recordCount_0 : decode cX8_recordCount 0 = .ok (.aload_n 0, 1) := by decide +kernel
theorem dX8_recordCount_1 : decode cX8_recordCount 1 = .ok (.getfield 7, 3) := by decide +kernel
theorem dX8_recordCount_4 : decode cX8_recordCount 4 = .ok (.iconst 0, 1) := by decide +kernel
theorem dX8_recordCount_5 : decode cX8_recordCount 5 = .ok (.iaload, 1) := by decide +kernel
theorem dX8_recordCount_6 : decode cX8_recordCount 6 = .ok (.ireturn, 1) := by decide +kernel
theorem dX8_instructionCount_0 : decode cX8_instructionCount 0 = .ok (.aload_n 0, 1) := by decide +kernel
theorem dX8_instructionCount_1 : decode cX8_instructionCount 1 = .ok (.getfield 7, 3) := by decide +kernel
theorem dX8_instructionCount_4 : decode cX8_instructionCount 4 = .ok (.iconst 5, 1) := by decide +kernel
theorem dX8_instructionCount_5 : decode cX8_instructionCount 5 = .ok (.iaload, 1) := by decide +kernel
theorem dX8_instructionCount_6 : decode cX8_instructionCount 6 = .ok (.ireturn, 1) := by decide +kernel
theorem dX8_of_0 : decode cX8_of 0 = .ok (.aload_n 0, 1) := by decide +kernel
theorem dX8_of_1 : decode cX8_of 1 = .ok (.getfield 7, 3) := by decide +kernel
theorem dX8_of_4 : decode cX8_of 4 = .ok (.bipush 6, 2) := by decide +kernel
theorem dX8_of_6 : decode cX8_of 6 = .ok (.bipush 6, 2) := by decide +kernel
theorem dX8_of_8 : decode cX8_of 8 = .ok (.iload_n 1, 1) := by decide +kernel
theorem dX8_of_9 : decode cX8_of 9 = .ok (.imul, 1) := by decide +kernel
theorem dX8_of_10 : decode cX8_of 10 = .ok (.iadd, 1) := by decide +kernel
theorem dX8_of_11 : decode cX8_of 11 = .ok (.iload_n 2, 1) := by decide +kernel
theorem dX8_of_12 : decode cX8_of 12 = .ok (.iadd, 1) := by decide +kernel
theorem dX8_of_13 : decode cX8_of 13 = .ok (.iaload, 1) := by decide +kernel
theorem dX8_of_14 : decode cX8_of 14 = .ok (.ireturn, 1) := by decide +kernel
theorem dX8_isAccess_0 : decode cX8_isAccess 0 = .ok (.aload_n 0, 1) := by decide +kernel
theorem dX8_isAccess_1 : decode cX8_isAccess 1 = .ok (.iload_n 1, 1) := by decide +kernel
theorem dX8_isAccess_2 : decode cX8_isAccess 2 = .ok (.iconst 0, 1) := by decide +kernel
theorem dX8_isAccess_3 : decode cX8_isAccess 3 = .ok (.invokevirtual 72, 3) := by decide +kernel
theorem dX8_isAccess_6 : decode cX8_isAccess 6 = .ok (.iconst 1, 1) := by decide +kernel
theorem dX8_isAccess_7 : decode cX8_isAccess 7 = .ok (.if_icmp .eq 13, 3) := by decide +kernel
theorem dX8_isAccess_10 : decode cX8_isAccess 10 = .ok (.aload_n 0, 1) := by decide +kernel
theorem dX8_isAccess_11 : decode cX8_isAccess 11 = .ok (.iload_n 1, 1) := by decide +kernel
theorem dX8_isAccess_12 : decode cX8_isAccess 12 = .ok (.iconst 0, 1) := by decide +kernel
theorem dX8_isAccess_13 : decode cX8_isAccess 13 = .ok (.invokevirtual 72, 3) := by decide +kernel
theorem dX8_isAccess_16 : decode cX8_isAccess 16 = .ok (.iconst 2, 1) := by decide +kernel
theorem dX8_isAccess_17 : decode cX8_isAccess 17 = .ok (.if_icmp .ne 7, 3) := by decide +kernel
theorem dX8_isAccess_20 : decode cX8_isAccess 20 = .ok (.iconst 1, 1) := by decide +kernel
theorem dX8_isAccess_21 : decode cX8_isAccess 21 = .ok (.goto 4, 3) := by decide +kernel
theorem dX8_isAccess_24 : decode cX8_isAccess 24 = .ok (.iconst 0, 1) := by decide +kernel
theorem dX8_isAccess_25 : decode cX8_isAccess 25 = .ok (.ireturn, 1) := by decide +kernel
theorem dX8_doesEscape_0 : decode cX8_doesEscape 0 = .ok (.iconst 0, 1) := by decide +kernel
theorem dX8_doesEscape_1 : decode cX8_doesEscape 1 = .ok (.istore_n 2, 1) := by decide +kernel
theorem dX8_doesEscape_2 : decode cX8_doesEscape 2 = .ok (.iconst 0, 1) := by decide +kernel
theorem dX8_doesEscape_3 : decode cX8_doesEscape 3 = .ok (.istore_n 3, 1) := by decide +kernel
theorem dX8_doesEscape_4 : decode cX8_doesEscape 4 = .ok (.iload_n 3, 1) := by decide +kernel
theorem dX8_doesEscape_5 : decode cX8_doesEscape 5 = .ok (.aload_n 0, 1) := by decide +kernel
theorem dX8_doesEscape_6 : decode cX8_doesEscape 6 = .ok (.getfield 7, 3) := by decide +kernel
theorem dX8_doesEscape_9 : decode cX8_doesEscape 9 = .ok (.iconst 5, 1) := by decide +kernel
theorem dX8_doesEscape_10 : decode cX8_doesEscape 10 = .ok (.iaload, 1) := by decide +kernel
theorem dX8_doesEscape_11 : decode cX8_doesEscape 11 = .ok (.if_icmp .ge 39, 3) := by decide +kernel
theorem dX8_doesEscape_14 : decode cX8_doesEscape 14 = .ok (.iload_n 2, 1) := by decide +kernel
theorem dX8_doesEscape_15 : decode cX8_doesEscape 15 = .ok (.ifCond .ne 23, 3) := by decide +kernel
theorem dX8_doesEscape_18 : decode cX8_doesEscape 18 = .ok (.aload_n 0, 1) := by decide +kernel
theorem dX8_doesEscape_19 : decode cX8_doesEscape 19 = .ok (.iload_n 3, 1) := by decide +kernel
theorem dX8_doesEscape_20 : decode cX8_doesEscape 20 = .ok (.iconst 0, 1) := by decide +kernel
theorem dX8_doesEscape_21 : decode cX8_doesEscape 21 = .ok (.invokevirtual 72, 3) := by decide +kernel
theorem dX8_doesEscape_24 : decode cX8_doesEscape 24 = .ok (.iconst 4, 1) := by decide +kernel
theorem dX8_doesEscape_25 : decode cX8_doesEscape 25 = .ok (.if_icmp .ne 17, 3) := by decide +kernel
theorem dX8_doesEscape_28 : decode cX8_doesEscape 28 = .ok (.aload_n 0, 1) := by decide +kernel
theorem dX8_doesEscape_29 : decode cX8_doesEscape 29 = .ok (.iload_n 3, 1) := by decide +kernel
theorem dX8_doesEscape_30 : decode cX8_doesEscape 30 = .ok (.iconst 1, 1) := by decide +kernel
theorem dX8_doesEscape_31 : decode cX8_doesEscape 31 = .ok (.invokevirtual 72, 3) := by decide +kernel
theorem dX8_doesEscape_34 : decode cX8_doesEscape 34 = .ok (.iload_n 1, 1) := by decide +kernel
theorem dX8_doesEscape_35 : decode cX8_doesEscape 35 = .ok (.if_icmp .ne 7, 3) := by decide +kernel
theorem dX8_doesEscape_38 : decode cX8_doesEscape 38 = .ok (.iconst 1, 1) := by decide +kernel
theorem dX8_doesEscape_39 : decode cX8_doesEscape 39 = .ok (.goto 4, 3) := by decide +kernel
theorem dX8_doesEscape_42 : decode cX8_doesEscape 42 = .ok (.iconst 0, 1) := by decide +kernel
theorem dX8_doesEscape_43 : decode cX8_doesEscape 43 = .ok (.istore_n 2, 1) := by decide +kernel
theorem dX8_doesEscape_44 : decode cX8_doesEscape 44 = .ok (.iinc 3 1, 3) := by decide +kernel
theorem dX8_doesEscape_47 : decode cX8_doesEscape 47 = .ok (.goto (-43), 3) := by decide +kernel
theorem dX8_doesEscape_50 : decode cX8_doesEscape 50 = .ok (.iload_n 2, 1) := by decide +kernel
theorem dX8_doesEscape_51 : decode cX8_doesEscape 51 = .ok (.ireturn, 1) := by decide +kernel
theorem dX8_holds_0 : decode cX8_holds 0 = .ok (.iload_n 2, 1) := by decide +kernel
theorem dX8_holds_1 : decode cX8_holds 1 = .ok (.iload_n 0, 1) := by decide +kernel
theorem dX8_holds_2 : decode cX8_holds 2 = .ok (.if_icmp .lt 14, 3) := by decide +kernel
theorem dX8_holds_5 : decode cX8_holds 5 = .ok (.iload_n 2, 1) := by decide +kernel
theorem dX8_holds_6 : decode cX8_holds 6 = .ok (.iload_n 0, 1) := by decide +kernel
theorem dX8_holds_7 : decode cX8_holds 7 = .ok (.iload_n 1, 1) := by decide +kernel
theorem dX8_holds_8 : decode cX8_holds 8 = .ok (.iadd, 1) := by decide +kernel
theorem dX8_holds_9 : decode cX8_holds 9 = .ok (.if_icmp .ge 7, 3) := by decide +kernel
theorem dX8_holds_12 : decode cX8_holds 12 = .ok (.iconst 1, 1) := by decide +kernel
theorem dX8_holds_13 : decode cX8_holds 13 = .ok (.goto 4, 3) := by decide +kernel
theorem dX8_holds_16 : decode cX8_holds 16 = .ok (.iconst 0, 1) := by decide +kernel
theorem dX8_holds_17 : decode cX8_holds 17 = .ok (.ireturn, 1) := by decide +kernel
theorem dX8_isAccessed_0 : decode cX8_isAccessed 0 = .ok (.iconst 0, 1) := by decide +kernel
theorem dX8_isAccessed_1 : decode cX8_isAccessed 1 = .ok (.istore 4, 2) := by decide +kernel
theorem dX8_isAccessed_3 : decode cX8_isAccessed 3 = .ok (.iconst 0, 1) := by decide +kernel
theorem dX8_isAccessed_4 : decode cX8_isAccessed 4 = .ok (.istore 5, 2) := by decide +kernel
theorem dX8_isAccessed_6 : decode cX8_isAccessed 6 = .ok (.iload 5, 2) := by decide +kernel
theorem dX8_isAccessed_8 : decode cX8_isAccessed 8 = .ok (.aload_n 0, 1) := by decide +kernel
theorem dX8_isAccessed_9 : decode cX8_isAccessed 9 = .ok (.getfield 7, 3) := by decide +kernel
theorem dX8_isAccessed_12 : decode cX8_isAccessed 12 = .ok (.iconst 5, 1) := by decide +kernel
theorem dX8_isAccessed_13 : decode cX8_isAccessed 13 = .ok (.iaload, 1) := by decide +kernel
theorem dX8_isAccessed_14 : decode cX8_isAccessed 14 = .ok (.if_icmp .ge 101, 3) := by decide +kernel
theorem dX8_isAccessed_17 : decode cX8_isAccessed 17 = .ok (.aload_n 0, 1) := by decide +kernel
theorem dX8_isAccessed_18 : decode cX8_isAccessed 18 = .ok (.iload 5, 2) := by decide +kernel
theorem dX8_isAccessed_20 : decode cX8_isAccessed 20 = .ok (.invokevirtual 76, 3) := by decide +kernel
theorem dX8_isAccessed_23 : decode cX8_isAccessed 23 = .ok (.ifCond .eq 39, 3) := by decide +kernel
theorem dX8_isAccessed_26 : decode cX8_isAccessed 26 = .ok (.aload_n 0, 1) := by decide +kernel
theorem dX8_isAccessed_27 : decode cX8_isAccessed 27 = .ok (.iload 5, 2) := by decide +kernel
theorem dX8_isAccessed_29 : decode cX8_isAccessed 29 = .ok (.iconst 1, 1) := by decide +kernel
theorem dX8_isAccessed_30 : decode cX8_isAccessed 30 = .ok (.invokevirtual 72, 3) := by decide +kernel
theorem dX8_isAccessed_33 : decode cX8_isAccessed 33 = .ok (.iload_n 1, 1) := by decide +kernel
theorem dX8_isAccessed_34 : decode cX8_isAccessed 34 = .ok (.if_icmp .ne 28, 3) := by decide +kernel
theorem dX8_isAccessed_37 : decode cX8_isAccessed 37 = .ok (.aload_n 0, 1) := by decide +kernel
theorem dX8_isAccessed_38 : decode cX8_isAccessed 38 = .ok (.iload 5, 2) := by decide +kernel
theorem dX8_isAccessed_40 : decode cX8_isAccessed 40 = .ok (.iconst 2, 1) := by decide +kernel
theorem dX8_isAccessed_41 : decode cX8_isAccessed 41 = .ok (.invokevirtual 72, 3) := by decide +kernel
theorem dX8_isAccessed_44 : decode cX8_isAccessed 44 = .ok (.aload_n 0, 1) := by decide +kernel
theorem dX8_isAccessed_45 : decode cX8_isAccessed 45 = .ok (.iload 5, 2) := by decide +kernel
theorem dX8_isAccessed_47 : decode cX8_isAccessed 47 = .ok (.iconst 3, 1) := by decide +kernel
theorem dX8_isAccessed_48 : decode cX8_isAccessed 48 = .ok (.invokevirtual 72, 3) := by decide +kernel
theorem dX8_isAccessed_51 : decode cX8_isAccessed 51 = .ok (.iload_n 2, 1) := by decide +kernel
theorem dX8_isAccessed_52 : decode cX8_isAccessed 52 = .ok (.invokestatic 79, 3) := by decide +kernel
theorem dX8_isAccessed_55 : decode cX8_isAccessed 55 = .ok (.ifCond .eq 7, 3) := by decide +kernel
theorem dX8_isAccessed_58 : decode cX8_isAccessed 58 = .ok (.iconst 1, 1) := by decide +kernel
theorem dX8_isAccessed_59 : decode cX8_isAccessed 59 = .ok (.goto 4, 3) := by decide +kernel
theorem dX8_isAccessed_62 : decode cX8_isAccessed 62 = .ok (.iconst 0, 1) := by decide +kernel
theorem dX8_isAccessed_63 : decode cX8_isAccessed 63 = .ok (.istore 6, 2) := by decide +kernel
theorem dX8_isAccessed_65 : decode cX8_isAccessed 65 = .ok (.iload 4, 2) := by decide +kernel
theorem dX8_isAccessed_67 : decode cX8_isAccessed 67 = .ok (.ifCond .ne 35, 3) := by decide +kernel
theorem dX8_isAccessed_70 : decode cX8_isAccessed 70 = .ok (.iload 6, 2) := by decide +kernel
theorem dX8_isAccessed_72 : decode cX8_isAccessed 72 = .ok (.ifCond .eq 34, 3) := by decide +kernel
theorem dX8_isAccessed_75 : decode cX8_isAccessed 75 = .ok (.iload_n 3, 1) := by decide +kernel
theorem dX8_isAccessed_76 : decode cX8_isAccessed 76 = .ok (.ifCond .eq 26, 3) := by decide +kernel
theorem dX8_isAccessed_79 : decode cX8_isAccessed 79 = .ok (.aload_n 0, 1) := by decide +kernel
theorem dX8_isAccessed_80 : decode cX8_isAccessed 80 = .ok (.iload 5, 2) := by decide +kernel
theorem dX8_isAccessed_82 : decode cX8_isAccessed 82 = .ok (.iconst 2, 1) := by decide +kernel
theorem dX8_isAccessed_83 : decode cX8_isAccessed 83 = .ok (.invokevirtual 72, 3) := by decide +kernel
theorem dX8_isAccessed_86 : decode cX8_isAccessed 86 = .ok (.aload_n 0, 1) := by decide +kernel
theorem dX8_isAccessed_87 : decode cX8_isAccessed 87 = .ok (.iload 5, 2) := by decide +kernel
theorem dX8_isAccessed_89 : decode cX8_isAccessed 89 = .ok (.iconst 3, 1) := by decide +kernel
theorem dX8_isAccessed_90 : decode cX8_isAccessed 90 = .ok (.invokevirtual 72, 3) := by decide +kernel
theorem dX8_isAccessed_93 : decode cX8_isAccessed 93 = .ok (.iload_n 2, 1) := by decide +kernel
theorem dX8_isAccessed_94 : decode cX8_isAccessed 94 = .ok (.iconst 1, 1) := by decide +kernel
theorem dX8_isAccessed_95 : decode cX8_isAccessed 95 = .ok (.iadd, 1) := by decide +kernel
theorem dX8_isAccessed_96 : decode cX8_isAccessed 96 = .ok (.invokestatic 79, 3) := by decide +kernel
theorem dX8_isAccessed_99 : decode cX8_isAccessed 99 = .ok (.ifCond .eq 7, 3) := by decide +kernel
theorem dX8_isAccessed_102 : decode cX8_isAccessed 102 = .ok (.iconst 1, 1) := by decide +kernel
theorem dX8_isAccessed_103 : decode cX8_isAccessed 103 = .ok (.goto 4, 3) := by decide +kernel
theorem dX8_isAccessed_106 : decode cX8_isAccessed 106 = .ok (.iconst 0, 1) := by decide +kernel
theorem dX8_isAccessed_107 : decode cX8_isAccessed 107 = .ok (.istore 4, 2) := by decide +kernel
theorem dX8_isAccessed_109 : decode cX8_isAccessed 109 = .ok (.iinc 5 1, 3) := by decide +kernel
theorem dX8_isAccessed_112 : decode cX8_isAccessed 112 = .ok (.goto (-106), 3) := by decide +kernel
theorem dX8_isAccessed_115 : decode cX8_isAccessed 115 = .ok (.iload 4, 2) := by decide +kernel
theorem dX8_isAccessed_117 : decode cX8_isAccessed 117 = .ok (.ireturn, 1) := by decide +kernel
theorem dX8_isCopied_0 : decode cX8_isCopied 0 = .ok (.aload_n 0, 1) := by decide +kernel
theorem dX8_isCopied_1 : decode cX8_isCopied 1 = .ok (.iload_n 1, 1) := by decide +kernel
theorem dX8_isCopied_2 : decode cX8_isCopied 2 = .ok (.iconst 0, 1) := by decide +kernel
theorem dX8_isCopied_3 : decode cX8_isCopied 3 = .ok (.invokevirtual 72, 3) := by decide +kernel
theorem dX8_isCopied_6 : decode cX8_isCopied 6 = .ok (.iconst 3, 1) := by decide +kernel
theorem dX8_isCopied_7 : decode cX8_isCopied 7 = .ok (.if_icmp .ne 45, 3) := by decide +kernel
theorem dX8_isCopied_10 : decode cX8_isCopied 10 = .ok (.aload_n 0, 1) := by decide +kernel
theorem dX8_isCopied_11 : decode cX8_isCopied 11 = .ok (.iload_n 1, 1) := by decide +kernel
theorem dX8_isCopied_12 : decode cX8_isCopied 12 = .ok (.iconst 1, 1) := by decide +kernel
theorem dX8_isCopied_13 : decode cX8_isCopied 13 = .ok (.iconst 2, 1) := by decide +kernel
theorem dX8_isCopied_14 : decode cX8_isCopied 14 = .ok (.iload_n 2, 1) := by decide +kernel
theorem dX8_isCopied_15 : decode cX8_isCopied 15 = .ok (.imul, 1) := by decide +kernel
theorem dX8_isCopied_16 : decode cX8_isCopied 16 = .ok (.iadd, 1) := by decide +kernel
theorem dX8_isCopied_17 : decode cX8_isCopied 17 = .ok (.invokevirtual 72, 3) := by decide +kernel
theorem dX8_isCopied_20 : decode cX8_isCopied 20 = .ok (.iload_n 3, 1) := by decide +kernel
theorem dX8_isCopied_21 : decode cX8_isCopied 21 = .ok (.if_icmp .ne 31, 3) := by decide +kernel
theorem dX8_isCopied_24 : decode cX8_isCopied 24 = .ok (.aload_n 0, 1) := by decide +kernel
theorem dX8_isCopied_25 : decode cX8_isCopied 25 = .ok (.iload_n 1, 1) := by decide +kernel
theorem dX8_isCopied_26 : decode cX8_isCopied 26 = .ok (.iconst 2, 1) := by decide +kernel
theorem dX8_isCopied_27 : decode cX8_isCopied 27 = .ok (.iconst 2, 1) := by decide +kernel
theorem dX8_isCopied_28 : decode cX8_isCopied 28 = .ok (.iload_n 2, 1) := by decide +kernel
theorem dX8_isCopied_29 : decode cX8_isCopied 29 = .ok (.imul, 1) := by decide +kernel
theorem dX8_isCopied_30 : decode cX8_isCopied 30 = .ok (.iadd, 1) := by decide +kernel
theorem dX8_isCopied_31 : decode cX8_isCopied 31 = .ok (.invokevirtual 72, 3) := by decide +kernel
theorem dX8_isCopied_34 : decode cX8_isCopied 34 = .ok (.aload_n 0, 1) := by decide +kernel
theorem dX8_isCopied_35 : decode cX8_isCopied 35 = .ok (.iload_n 1, 1) := by decide +kernel
theorem dX8_isCopied_36 : decode cX8_isCopied 36 = .ok (.iconst 5, 1) := by decide +kernel
theorem dX8_isCopied_37 : decode cX8_isCopied 37 = .ok (.invokevirtual 72, 3) := by decide +kernel
theorem dX8_isCopied_40 : decode cX8_isCopied 40 = .ok (.iload 4, 2) := by decide +kernel
theorem dX8_isCopied_42 : decode cX8_isCopied 42 = .ok (.invokestatic 79, 3) := by decide +kernel
theorem dX8_isCopied_45 : decode cX8_isCopied 45 = .ok (.ifCond .eq 7, 3) := by decide +kernel
theorem dX8_isCopied_48 : decode cX8_isCopied 48 = .ok (.iconst 1, 1) := by decide +kernel
theorem dX8_isCopied_49 : decode cX8_isCopied 49 = .ok (.goto 4, 3) := by decide +kernel
theorem dX8_isCopied_52 : decode cX8_isCopied 52 = .ok (.iconst 0, 1) := by decide +kernel
theorem dX8_isCopied_53 : decode cX8_isCopied 53 = .ok (.ireturn, 1) := by decide +kernel
theorem dX8_isSoft_0 : decode cX8_isSoft 0 = .ok (.iconst 0, 1) := by decide +kernel
theorem dX8_isSoft_1 : decode cX8_isSoft 1 = .ok (.istore_n 3, 1) := by decide +kernel
theorem dX8_isSoft_2 : decode cX8_isSoft 2 = .ok (.iconst 0, 1) := by decide +kernel
theorem dX8_isSoft_3 : decode cX8_isSoft 3 = .ok (.istore 4, 2) := by decide +kernel
theorem dX8_isSoft_5 : decode cX8_isSoft 5 = .ok (.iload 4, 2) := by decide +kernel
theorem dX8_isSoft_7 : decode cX8_isSoft 7 = .ok (.aload_n 0, 1) := by decide +kernel
theorem dX8_isSoft_8 : decode cX8_isSoft 8 = .ok (.getfield 7, 3) := by decide +kernel
theorem dX8_isSoft_11 : decode cX8_isSoft 11 = .ok (.iconst 5, 1) := by decide +kernel
theorem dX8_isSoft_12 : decode cX8_isSoft 12 = .ok (.iaload, 1) := by decide +kernel
theorem dX8_isSoft_13 : decode cX8_isSoft 13 = .ok (.if_icmp .ge 43, 3) := by decide +kernel
theorem dX8_isSoft_16 : decode cX8_isSoft 16 = .ok (.iload_n 3, 1) := by decide +kernel
theorem dX8_isSoft_17 : decode cX8_isSoft 17 = .ok (.ifCond .ne 27, 3) := by decide +kernel
theorem dX8_isSoft_20 : decode cX8_isSoft 20 = .ok (.aload_n 0, 1) := by decide +kernel
theorem dX8_isSoft_21 : decode cX8_isSoft 21 = .ok (.iload 4, 2) := by decide +kernel
theorem dX8_isSoft_23 : decode cX8_isSoft 23 = .ok (.iconst 0, 1) := by decide +kernel
theorem dX8_isSoft_24 : decode cX8_isSoft 24 = .ok (.iload_n 1, 1) := by decide +kernel
theorem dX8_isSoft_25 : decode cX8_isSoft 25 = .ok (.iload_n 2, 1) := by decide +kernel
theorem dX8_isSoft_26 : decode cX8_isSoft 26 = .ok (.invokevirtual 82, 3) := by decide +kernel
theorem dX8_isSoft_29 : decode cX8_isSoft 29 = .ok (.ifCond .ne 15, 3) := by decide +kernel
theorem dX8_isSoft_32 : decode cX8_isSoft 32 = .ok (.aload_n 0, 1) := by decide +kernel
theorem dX8_isSoft_33 : decode cX8_isSoft 33 = .ok (.iload 4, 2) := by decide +kernel
theorem dX8_isSoft_35 : decode cX8_isSoft 35 = .ok (.iconst 1, 1) := by decide +kernel
theorem dX8_isSoft_36 : decode cX8_isSoft 36 = .ok (.iload_n 1, 1) := by decide +kernel
theorem dX8_isSoft_37 : decode cX8_isSoft 37 = .ok (.iload_n 2, 1) := by decide +kernel
theorem dX8_isSoft_38 : decode cX8_isSoft 38 = .ok (.invokevirtual 82, 3) := by decide +kernel
theorem dX8_isSoft_41 : decode cX8_isSoft 41 = .ok (.ifCond .eq 7, 3) := by decide +kernel
theorem dX8_isSoft_44 : decode cX8_isSoft 44 = .ok (.iconst 1, 1) := by decide +kernel
theorem dX8_isSoft_45 : decode cX8_isSoft 45 = .ok (.goto 4, 3) := by decide +kernel
theorem dX8_isSoft_48 : decode cX8_isSoft 48 = .ok (.iconst 0, 1) := by decide +kernel
theorem dX8_isSoft_49 : decode cX8_isSoft 49 = .ok (.istore_n 3, 1) := by decide +kernel
theorem dX8_isSoft_50 : decode cX8_isSoft 50 = .ok (.iinc 4 1, 3) := by decide +kernel
theorem dX8_isSoft_53 : decode cX8_isSoft 53 = .ok (.goto (-48), 3) := by decide +kernel
theorem dX8_isSoft_56 : decode cX8_isSoft 56 = .ok (.iload_n 3, 1) := by decide +kernel
theorem dX8_isSoft_57 : decode cX8_isSoft 57 = .ok (.ifCond .eq 17, 3) := by decide +kernel
theorem dX8_isSoft_60 : decode cX8_isSoft 60 = .ok (.aload_n 0, 1) := by decide +kernel
theorem dX8_isSoft_61 : decode cX8_isSoft 61 = .ok (.iload_n 1, 1) := by decide +kernel
theorem dX8_isSoft_62 : decode cX8_isSoft 62 = .ok (.iload_n 2, 1) := by decide +kernel
theorem dX8_isSoft_63 : decode cX8_isSoft 63 = .ok (.iconst 0, 1) := by decide +kernel
theorem dX8_isSoft_64 : decode cX8_isSoft 64 = .ok (.invokevirtual 86, 3) := by decide +kernel
theorem dX8_isSoft_67 : decode cX8_isSoft 67 = .ok (.ifCond .ne 7, 3) := by decide +kernel
theorem dX8_isSoft_70 : decode cX8_isSoft 70 = .ok (.iconst 1, 1) := by decide +kernel
theorem dX8_isSoft_71 : decode cX8_isSoft 71 = .ok (.goto 4, 3) := by decide +kernel
theorem dX8_isSoft_74 : decode cX8_isSoft 74 = .ok (.iconst 0, 1) := by decide +kernel
theorem dX8_isSoft_75 : decode cX8_isSoft 75 = .ok (.ireturn, 1) := by decide +kernel
theorem dX8_areCopiedAlike_0 : decode cX8_areCopiedAlike 0 = .ok (.iconst 1, 1) := by decide +kernel
theorem dX8_areCopiedAlike_1 : decode cX8_areCopiedAlike 1 = .ok (.istore_n 3, 1) := by decide +kernel
theorem dX8_areCopiedAlike_2 : decode cX8_areCopiedAlike 2 = .ok (.iconst 0, 1) := by decide +kernel
theorem dX8_areCopiedAlike_3 : decode cX8_areCopiedAlike 3 = .ok (.istore 4, 2) := by decide +kernel
theorem dX8_areCopiedAlike_5 : decode cX8_areCopiedAlike 5 = .ok (.iload 4, 2) := by decide +kernel
theorem dX8_areCopiedAlike_7 : decode cX8_areCopiedAlike 7 = .ok (.aload_n 0, 1) := by decide +kernel
theorem dX8_areCopiedAlike_8 : decode cX8_areCopiedAlike 8 = .ok (.getfield 7, 3) := by decide +kernel
theorem dX8_areCopiedAlike_11 : decode cX8_areCopiedAlike 11 = .ok (.iconst 5, 1) := by decide +kernel
theorem dX8_areCopiedAlike_12 : decode cX8_areCopiedAlike 12 = .ok (.iaload, 1) := by decide +kernel
theorem dX8_areCopiedAlike_13 : decode cX8_areCopiedAlike 13 = .ok (.if_icmp .ge 59, 3) := by decide +kernel
theorem dX8_areCopiedAlike_16 : decode cX8_areCopiedAlike 16 = .ok (.iconst 0, 1) := by decide +kernel
theorem dX8_areCopiedAlike_17 : decode cX8_areCopiedAlike 17 = .ok (.istore 5, 2) := by decide +kernel
theorem dX8_areCopiedAlike_19 : decode cX8_areCopiedAlike 19 = .ok (.iload 5, 2) := by decide +kernel
theorem dX8_areCopiedAlike_21 : decode cX8_areCopiedAlike 21 = .ok (.iconst 2, 1) := by decide +kernel
theorem dX8_areCopiedAlike_22 : decode cX8_areCopiedAlike 22 = .ok (.if_icmp .ge 44, 3) := by decide +kernel
theorem dX8_areCopiedAlike_25 : decode cX8_areCopiedAlike 25 = .ok (.iload_n 3, 1) := by decide +kernel
theorem dX8_areCopiedAlike_26 : decode cX8_areCopiedAlike 26 = .ok (.ifCond .eq 32, 3) := by decide +kernel
theorem dX8_areCopiedAlike_29 : decode cX8_areCopiedAlike 29 = .ok (.aload_n 0, 1) := by decide +kernel
theorem dX8_areCopiedAlike_30 : decode cX8_areCopiedAlike 30 = .ok (.iload 4, 2) := by decide +kernel
theorem dX8_areCopiedAlike_32 : decode cX8_areCopiedAlike 32 = .ok (.iload 5, 2) := by decide +kernel
theorem dX8_areCopiedAlike_34 : decode cX8_areCopiedAlike 34 = .ok (.iload_n 1, 1) := by decide +kernel
theorem dX8_areCopiedAlike_35 : decode cX8_areCopiedAlike 35 = .ok (.iload_n 2, 1) := by decide +kernel
theorem dX8_areCopiedAlike_36 : decode cX8_areCopiedAlike 36 = .ok (.invokevirtual 82, 3) := by decide +kernel
theorem dX8_areCopiedAlike_39 : decode cX8_areCopiedAlike 39 = .ok (.aload_n 0, 1) := by decide +kernel
theorem dX8_areCopiedAlike_40 : decode cX8_areCopiedAlike 40 = .ok (.iload 4, 2) := by decide +kernel
theorem dX8_areCopiedAlike_42 : decode cX8_areCopiedAlike 42 = .ok (.iload 5, 2) := by decide +kernel
theorem dX8_areCopiedAlike_44 : decode cX8_areCopiedAlike 44 = .ok (.iload_n 1, 1) := by decide +kernel
theorem dX8_areCopiedAlike_45 : decode cX8_areCopiedAlike 45 = .ok (.iload_n 2, 1) := by decide +kernel
theorem dX8_areCopiedAlike_46 : decode cX8_areCopiedAlike 46 = .ok (.iconst 1, 1) := by decide +kernel
theorem dX8_areCopiedAlike_47 : decode cX8_areCopiedAlike 47 = .ok (.iadd, 1) := by decide +kernel
theorem dX8_areCopiedAlike_48 : decode cX8_areCopiedAlike 48 = .ok (.invokevirtual 82, 3) := by decide +kernel
theorem dX8_areCopiedAlike_51 : decode cX8_areCopiedAlike 51 = .ok (.if_icmp .ne 7, 3) := by decide +kernel
theorem dX8_areCopiedAlike_54 : decode cX8_areCopiedAlike 54 = .ok (.iconst 1, 1) := by decide +kernel
theorem dX8_areCopiedAlike_55 : decode cX8_areCopiedAlike 55 = .ok (.goto 4, 3) := by decide +kernel
theorem dX8_areCopiedAlike_58 : decode cX8_areCopiedAlike 58 = .ok (.iconst 0, 1) := by decide +kernel
theorem dX8_areCopiedAlike_59 : decode cX8_areCopiedAlike 59 = .ok (.istore_n 3, 1) := by decide +kernel
theorem dX8_areCopiedAlike_60 : decode cX8_areCopiedAlike 60 = .ok (.iinc 5 1, 3) := by decide +kernel
theorem dX8_areCopiedAlike_63 : decode cX8_areCopiedAlike 63 = .ok (.goto (-44), 3) := by decide +kernel
theorem dX8_areCopiedAlike_66 : decode cX8_areCopiedAlike 66 = .ok (.iinc 4 1, 3) := by decide +kernel
theorem dX8_areCopiedAlike_69 : decode cX8_areCopiedAlike 69 = .ok (.goto (-64), 3) := by decide +kernel
theorem dX8_areCopiedAlike_72 : decode cX8_areCopiedAlike 72 = .ok (.iload_n 3, 1) := by decide +kernel
theorem dX8_areCopiedAlike_73 : decode cX8_areCopiedAlike 73 = .ok (.ireturn, 1) := by decide +kernel
theorem dX8_goesOn_0 : decode cX8_goesOn 0 = .ok (.aload_n 0, 1) := by decide +kernel
theorem dX8_goesOn_1 : decode cX8_goesOn 1 = .ok (.iload_n 1, 1) := by decide +kernel
theorem dX8_goesOn_2 : decode cX8_goesOn 2 = .ok (.invokevirtual 90, 3) := by decide +kernel
theorem dX8_goesOn_5 : decode cX8_goesOn 5 = .ok (.ifCond .eq 13, 3) := by decide +kernel
theorem dX8_goesOn_8 : decode cX8_goesOn 8 = .ok (.iload_n 2, 1) := by decide +kernel
theorem dX8_goesOn_9 : decode cX8_goesOn 9 = .ok (.ifCond .le 7, 3) := by decide +kernel
theorem dX8_goesOn_12 : decode cX8_goesOn 12 = .ok (.iconst 1, 1) := by decide +kernel
theorem dX8_goesOn_13 : decode cX8_goesOn 13 = .ok (.goto 4, 3) := by decide +kernel
theorem dX8_goesOn_16 : decode cX8_goesOn 16 = .ok (.iconst 0, 1) := by decide +kernel
theorem dX8_goesOn_17 : decode cX8_goesOn 17 = .ok (.ireturn, 1) := by decide +kernel
theorem dX8_goesOn_18 : decode cX8_goesOn 18 = .ok (.iload_n 2, 1) := by decide +kernel
theorem dX8_goesOn_19 : decode cX8_goesOn 19 = .ok (.ifCond .ne 5, 3) := by decide +kernel
theorem dX8_goesOn_22 : decode cX8_goesOn 22 = .ok (.iconst 0, 1) := by decide +kernel
theorem dX8_goesOn_23 : decode cX8_goesOn 23 = .ok (.ireturn, 1) := by decide +kernel
theorem dX8_goesOn_24 : decode cX8_goesOn 24 = .ok (.aload_n 0, 1) := by decide +kernel
theorem dX8_goesOn_25 : decode cX8_goesOn 25 = .ok (.iload_n 1, 1) := by decide +kernel
theorem dX8_goesOn_26 : decode cX8_goesOn 26 = .ok (.iload_n 2, 1) := by decide +kernel
theorem dX8_goesOn_27 : decode cX8_goesOn 27 = .ok (.iconst 1, 1) := by decide +kernel
theorem dX8_goesOn_28 : decode cX8_goesOn 28 = .ok (.isub, 1) := by decide +kernel
theorem dX8_goesOn_29 : decode cX8_goesOn 29 = .ok (.iconst 1, 1) := by decide +kernel
theorem dX8_goesOn_30 : decode cX8_goesOn 30 = .ok (.invokevirtual 86, 3) := by decide +kernel
theorem dX8_goesOn_33 : decode cX8_goesOn 33 = .ok (.ifCond .ne 34, 3) := by decide +kernel
theorem dX8_goesOn_36 : decode cX8_goesOn 36 = .ok (.aload_n 0, 1) := by decide +kernel
theorem dX8_goesOn_37 : decode cX8_goesOn 37 = .ok (.iload_n 1, 1) := by decide +kernel
theorem dX8_goesOn_38 : decode cX8_goesOn 38 = .ok (.iload_n 2, 1) := by decide +kernel
theorem dX8_goesOn_39 : decode cX8_goesOn 39 = .ok (.iconst 1, 1) := by decide +kernel
theorem dX8_goesOn_40 : decode cX8_goesOn 40 = .ok (.isub, 1) := by decide +kernel
theorem dX8_goesOn_41 : decode cX8_goesOn 41 = .ok (.invokevirtual 93, 3) := by decide +kernel
theorem dX8_goesOn_44 : decode cX8_goesOn 44 = .ok (.ifCond .eq 27, 3) := by decide +kernel
theorem dX8_goesOn_47 : decode cX8_goesOn 47 = .ok (.aload_n 0, 1) := by decide +kernel
theorem dX8_goesOn_48 : decode cX8_goesOn 48 = .ok (.iload_n 1, 1) := by decide +kernel
theorem dX8_goesOn_49 : decode cX8_goesOn 49 = .ok (.iload_n 2, 1) := by decide +kernel
theorem dX8_goesOn_50 : decode cX8_goesOn 50 = .ok (.invokevirtual 93, 3) := by decide +kernel
theorem dX8_goesOn_53 : decode cX8_goesOn 53 = .ok (.ifCond .eq 18, 3) := by decide +kernel
theorem dX8_goesOn_56 : decode cX8_goesOn 56 = .ok (.aload_n 0, 1) := by decide +kernel
theorem dX8_goesOn_57 : decode cX8_goesOn 57 = .ok (.iload_n 1, 1) := by decide +kernel
theorem dX8_goesOn_58 : decode cX8_goesOn 58 = .ok (.iload_n 2, 1) := by decide +kernel
theorem dX8_goesOn_59 : decode cX8_goesOn 59 = .ok (.iconst 1, 1) := by decide +kernel
theorem dX8_goesOn_60 : decode cX8_goesOn 60 = .ok (.isub, 1) := by decide +kernel
theorem dX8_goesOn_61 : decode cX8_goesOn 61 = .ok (.invokevirtual 97, 3) := by decide +kernel
theorem dX8_goesOn_64 : decode cX8_goesOn 64 = .ok (.ifCond .eq 7, 3) := by decide +kernel
theorem dX8_goesOn_67 : decode cX8_goesOn 67 = .ok (.iconst 1, 1) := by decide +kernel
theorem dX8_goesOn_68 : decode cX8_goesOn 68 = .ok (.goto 4, 3) := by decide +kernel
theorem dX8_goesOn_71 : decode cX8_goesOn 71 = .ok (.iconst 0, 1) := by decide +kernel
theorem dX8_goesOn_72 : decode cX8_goesOn 72 = .ok (.ireturn, 1) := by decide +kernel
theorem dX8_isParted_0 : decode cX8_isParted 0 = .ok (.aload_n 0, 1) := by decide +kernel
theorem dX8_isParted_1 : decode cX8_isParted 1 = .ok (.iload_n 1, 1) := by decide +kernel
theorem dX8_isParted_2 : decode cX8_isParted 2 = .ok (.invokevirtual 90, 3) := by decide +kernel
theorem dX8_isParted_5 : decode cX8_isParted 5 = .ok (.ifCond .ne 22, 3) := by decide +kernel
theorem dX8_isParted_8 : decode cX8_isParted 8 = .ok (.aload_n 0, 1) := by decide +kernel
theorem dX8_isParted_9 : decode cX8_isParted 9 = .ok (.iload_n 1, 1) := by decide +kernel
theorem dX8_isParted_10 : decode cX8_isParted 10 = .ok (.iload_n 2, 1) := by decide +kernel
theorem dX8_isParted_11 : decode cX8_isParted 11 = .ok (.iconst 0, 1) := by decide +kernel
theorem dX8_isParted_12 : decode cX8_isParted 12 = .ok (.invokevirtual 86, 3) := by decide +kernel
theorem dX8_isParted_15 : decode cX8_isParted 15 = .ok (.ifCond .ne 12, 3) := by decide +kernel
theorem dX8_isParted_18 : decode cX8_isParted 18 = .ok (.aload_n 0, 1) := by decide +kernel
theorem dX8_isParted_19 : decode cX8_isParted 19 = .ok (.iload_n 1, 1) := by decide +kernel
theorem dX8_isParted_20 : decode cX8_isParted 20 = .ok (.iload_n 2, 1) := by decide +kernel
theorem dX8_isParted_21 : decode cX8_isParted 21 = .ok (.invokevirtual 93, 3) := by decide +kernel
theorem dX8_isParted_24 : decode cX8_isParted 24 = .ok (.ifCond .eq 7, 3) := by decide +kernel
theorem dX8_isParted_27 : decode cX8_isParted 27 = .ok (.iconst 1, 1) := by decide +kernel
theorem dX8_isParted_28 : decode cX8_isParted 28 = .ok (.goto 4, 3) := by decide +kernel
theorem dX8_isParted_31 : decode cX8_isParted 31 = .ok (.iconst 0, 1) := by decide +kernel
theorem dX8_isParted_32 : decode cX8_isParted 32 = .ok (.ireturn, 1) := by decide +kernel
theorem dX8_findParts_0 : decode cX8_findParts 0 = .ok (.iconst 0, 1) := by decide +kernel
theorem dX8_findParts_1 : decode cX8_findParts 1 = .ok (.istore_n 2, 1) := by decide +kernel
theorem dX8_findParts_2 : decode cX8_findParts 2 = .ok (.iconst 0, 1) := by decide +kernel
theorem dX8_findParts_3 : decode cX8_findParts 3 = .ok (.istore_n 3, 1) := by decide +kernel
theorem dX8_findParts_4 : decode cX8_findParts 4 = .ok (.iload_n 3, 1) := by decide +kernel
theorem dX8_findParts_5 : decode cX8_findParts 5 = .ok (.aload_n 0, 1) := by decide +kernel
theorem dX8_findParts_6 : decode cX8_findParts 6 = .ok (.getfield 7, 3) := by decide +kernel
theorem dX8_findParts_9 : decode cX8_findParts 9 = .ok (.iconst 1, 1) := by decide +kernel
theorem dX8_findParts_10 : decode cX8_findParts 10 = .ok (.iload_n 1, 1) := by decide +kernel
theorem dX8_findParts_11 : decode cX8_findParts 11 = .ok (.iadd, 1) := by decide +kernel
theorem dX8_findParts_12 : decode cX8_findParts 12 = .ok (.iaload, 1) := by decide +kernel
theorem dX8_findParts_13 : decode cX8_findParts 13 = .ok (.if_icmp .ge 98, 3) := by decide +kernel
theorem dX8_findParts_16 : decode cX8_findParts 16 = .ok (.bipush 16, 2) := by decide +kernel
theorem dX8_findParts_18 : decode cX8_findParts 18 = .ok (.iload_n 1, 1) := by decide +kernel
theorem dX8_findParts_19 : decode cX8_findParts 19 = .ok (.imul, 1) := by decide +kernel
theorem dX8_findParts_20 : decode cX8_findParts 20 = .ok (.iload_n 3, 1) := by decide +kernel
theorem dX8_findParts_21 : decode cX8_findParts 21 = .ok (.iadd, 1) := by decide +kernel
theorem dX8_findParts_22 : decode cX8_findParts 22 = .ok (.istore 4, 2) := by decide +kernel
theorem dX8_findParts_24 : decode cX8_findParts 24 = .ok (.aload_n 0, 1) := by decide +kernel
theorem dX8_findParts_25 : decode cX8_findParts 25 = .ok (.getfield 16, 3) := by decide +kernel
theorem dX8_findParts_28 : decode cX8_findParts 28 = .ok (.iload 4, 2) := by decide +kernel
theorem dX8_findParts_30 : decode cX8_findParts 30 = .ok (.bipush (-9), 2) := by decide +kernel
theorem dX8_findParts_32 : decode cX8_findParts 32 = .ok (.iastore, 1) := by decide +kernel
theorem dX8_findParts_33 : decode cX8_findParts 33 = .ok (.aload_n 0, 1) := by decide +kernel
theorem dX8_findParts_34 : decode cX8_findParts 34 = .ok (.iload_n 1, 1) := by decide +kernel
theorem dX8_findParts_35 : decode cX8_findParts 35 = .ok (.iload_n 3, 1) := by decide +kernel
theorem dX8_findParts_36 : decode cX8_findParts 36 = .ok (.invokevirtual 100, 3) := by decide +kernel
theorem dX8_findParts_39 : decode cX8_findParts 39 = .ok (.ifCond .eq 66, 3) := by decide +kernel
theorem dX8_findParts_42 : decode cX8_findParts 42 = .ok (.aload_n 0, 1) := by decide +kernel
theorem dX8_findParts_43 : decode cX8_findParts 43 = .ok (.iload_n 1, 1) := by decide +kernel
theorem dX8_findParts_44 : decode cX8_findParts 44 = .ok (.iload_n 3, 1) := by decide +kernel
theorem dX8_findParts_45 : decode cX8_findParts 45 = .ok (.invokevirtual 103, 3) := by decide +kernel
theorem dX8_findParts_48 : decode cX8_findParts 48 = .ok (.ifCond .ne 30, 3) := by decide +kernel
theorem dX8_findParts_51 : decode cX8_findParts 51 = .ok (.aload_n 0, 1) := by decide +kernel
theorem dX8_findParts_52 : decode cX8_findParts 52 = .ok (.getfield 19, 3) := by decide +kernel
theorem dX8_findParts_55 : decode cX8_findParts 55 = .ok (.bipush 16, 2) := by decide +kernel
theorem dX8_findParts_57 : decode cX8_findParts 57 = .ok (.iload_n 1, 1) := by decide +kernel
theorem dX8_findParts_58 : decode cX8_findParts 58 = .ok (.imul, 1) := by decide +kernel
theorem dX8_findParts_59 : decode cX8_findParts 59 = .ok (.iload_n 2, 1) := by decide +kernel
theorem dX8_findParts_60 : decode cX8_findParts 60 = .ok (.iadd, 1) := by decide +kernel
theorem dX8_findParts_61 : decode cX8_findParts 61 = .ok (.iload_n 3, 1) := by decide +kernel
theorem dX8_findParts_62 : decode cX8_findParts 62 = .ok (.iastore, 1) := by decide +kernel
theorem dX8_findParts_63 : decode cX8_findParts 63 = .ok (.aload_n 0, 1) := by decide +kernel
theorem dX8_findParts_64 : decode cX8_findParts 64 = .ok (.getfield 22, 3) := by decide +kernel
theorem dX8_findParts_67 : decode cX8_findParts 67 = .ok (.bipush 16, 2) := by decide +kernel
theorem dX8_findParts_69 : decode cX8_findParts 69 = .ok (.iload_n 1, 1) := by decide +kernel
theorem dX8_findParts_70 : decode cX8_findParts 70 = .ok (.imul, 1) := by decide +kernel
theorem dX8_findParts_71 : decode cX8_findParts 71 = .ok (.iload_n 2, 1) := by decide +kernel
theorem dX8_findParts_72 : decode cX8_findParts 72 = .ok (.iadd, 1) := by decide +kernel
theorem dX8_findParts_73 : decode cX8_findParts 73 = .ok (.iconst 0, 1) := by decide +kernel
theorem dX8_findParts_74 : decode cX8_findParts 74 = .ok (.iastore, 1) := by decide +kernel
theorem dX8_findParts_75 : decode cX8_findParts 75 = .ok (.iinc 2 1, 3) := by decide +kernel
theorem dX8_findParts_78 : decode cX8_findParts 78 = .ok (.aload_n 0, 1) := by decide +kernel
theorem dX8_findParts_79 : decode cX8_findParts 79 = .ok (.getfield 16, 3) := by decide +kernel
theorem dX8_findParts_82 : decode cX8_findParts 82 = .ok (.iload 4, 2) := by decide +kernel
theorem dX8_findParts_84 : decode cX8_findParts 84 = .ok (.iload_n 2, 1) := by decide +kernel
theorem dX8_findParts_85 : decode cX8_findParts 85 = .ok (.iconst 1, 1) := by decide +kernel
theorem dX8_findParts_86 : decode cX8_findParts 86 = .ok (.isub, 1) := by decide +kernel
theorem dX8_findParts_87 : decode cX8_findParts 87 = .ok (.iastore, 1) := by decide +kernel
theorem dX8_findParts_88 : decode cX8_findParts 88 = .ok (.aload_n 0, 1) := by decide +kernel
theorem dX8_findParts_89 : decode cX8_findParts 89 = .ok (.getfield 22, 3) := by decide +kernel
theorem dX8_findParts_92 : decode cX8_findParts 92 = .ok (.bipush 16, 2) := by decide +kernel
theorem dX8_findParts_94 : decode cX8_findParts 94 = .ok (.iload_n 1, 1) := by decide +kernel
theorem dX8_findParts_95 : decode cX8_findParts 95 = .ok (.imul, 1) := by decide +kernel
theorem dX8_findParts_96 : decode cX8_findParts 96 = .ok (.iload_n 2, 1) := by decide +kernel
theorem dX8_findParts_97 : decode cX8_findParts 97 = .ok (.iadd, 1) := by decide +kernel
theorem dX8_findParts_98 : decode cX8_findParts 98 = .ok (.iconst 1, 1) := by decide +kernel
theorem dX8_findParts_99 : decode cX8_findParts 99 = .ok (.isub, 1) := by decide +kernel
theorem dX8_findParts_100 : decode cX8_findParts 100 = .ok (.dup2, 1) := by decide +kernel
theorem dX8_findParts_101 : decode cX8_findParts 101 = .ok (.iaload, 1) := by decide +kernel
theorem dX8_findParts_102 : decode cX8_findParts 102 = .ok (.iconst 1, 1) := by decide +kernel
theorem dX8_findParts_103 : decode cX8_findParts 103 = .ok (.iadd, 1) := by decide +kernel
theorem dX8_findParts_104 : decode cX8_findParts 104 = .ok (.iastore, 1) := by decide +kernel
theorem dX8_findParts_105 : decode cX8_findParts 105 = .ok (.iinc 3 1, 3) := by decide +kernel
theorem dX8_findParts_108 : decode cX8_findParts 108 = .ok (.goto (-104), 3) := by decide +kernel
theorem dX8_findParts_111 : decode cX8_findParts 111 = .ok (.aload_n 0, 1) := by decide +kernel
theorem dX8_findParts_112 : decode cX8_findParts 112 = .ok (.getfield 25, 3) := by decide +kernel
theorem dX8_findParts_115 : decode cX8_findParts 115 = .ok (.iload_n 1, 1) := by decide +kernel
theorem dX8_findParts_116 : decode cX8_findParts 116 = .ok (.iload_n 2, 1) := by decide +kernel
theorem dX8_findParts_117 : decode cX8_findParts 117 = .ok (.iastore, 1) := by decide +kernel
theorem dX8_findParts_118 : decode cX8_findParts 118 = .ok (.return_, 1) := by decide +kernel
theorem dX8_findAllParts_0 : decode cX8_findAllParts 0 = .ok (.iconst 0, 1) := by decide +kernel
theorem dX8_findAllParts_1 : decode cX8_findAllParts 1 = .ok (.istore_n 1, 1) := by decide +kernel
theorem dX8_findAllParts_2 : decode cX8_findAllParts 2 = .ok (.iload_n 1, 1) := by decide +kernel
theorem dX8_findAllParts_3 : decode cX8_findAllParts 3 = .ok (.aload_n 0, 1) := by decide +kernel
theorem dX8_findAllParts_4 : decode cX8_findAllParts 4 = .ok (.getfield 7, 3) := by decide +kernel
theorem dX8_findAllParts_7 : decode cX8_findAllParts 7 = .ok (.iconst 0, 1) := by decide +kernel
theorem dX8_findAllParts_8 : decode cX8_findAllParts 8 = .ok (.iaload, 1) := by decide +kernel
theorem dX8_findAllParts_9 : decode cX8_findAllParts 9 = .ok (.if_icmp .ge 14, 3) := by decide +kernel
theorem dX8_findAllParts_12 : decode cX8_findAllParts 12 = .ok (.aload_n 0, 1) := by decide +kernel
theorem dX8_findAllParts_13 : decode cX8_findAllParts 13 = .ok (.iload_n 1, 1) := by decide +kernel
theorem dX8_findAllParts_14 : decode cX8_findAllParts 14 = .ok (.invokevirtual 106, 3) := by decide +kernel
theorem dX8_findAllParts_17 : decode cX8_findAllParts 17 = .ok (.iinc 1 1, 3) := by decide +kernel
theorem dX8_findAllParts_20 : decode cX8_findAllParts 20 = .ok (.goto (-18), 3) := by decide +kernel
theorem dX8_findAllParts_23 : decode cX8_findAllParts 23 = .ok (.return_, 1) := by decide +kernel
theorem dX8_placeOf_0 : decode cX8_placeOf 0 = .ok (.bipush 16, 2) := by decide +kernel
theorem dX8_placeOf_2 : decode cX8_placeOf 2 = .ok (.iload_n 1, 1) := by decide +kernel
theorem dX8_placeOf_3 : decode cX8_placeOf 3 = .ok (.imul, 1) := by decide +kernel
theorem dX8_placeOf_4 : decode cX8_placeOf 4 = .ok (.aload_n 0, 1) := by decide +kernel
theorem dX8_placeOf_5 : decode cX8_placeOf 5 = .ok (.getfield 16, 3) := by decide +kernel
theorem dX8_placeOf_8 : decode cX8_placeOf 8 = .ok (.bipush 16, 2) := by decide +kernel
theorem dX8_placeOf_10 : decode cX8_placeOf 10 = .ok (.iload_n 1, 1) := by decide +kernel
theorem dX8_placeOf_11 : decode cX8_placeOf 11 = .ok (.imul, 1) := by decide +kernel
theorem dX8_placeOf_12 : decode cX8_placeOf 12 = .ok (.iload_n 2, 1) := by decide +kernel
theorem dX8_placeOf_13 : decode cX8_placeOf 13 = .ok (.iadd, 1) := by decide +kernel
theorem dX8_placeOf_14 : decode cX8_placeOf 14 = .ok (.iaload, 1) := by decide +kernel
theorem dX8_placeOf_15 : decode cX8_placeOf 15 = .ok (.iadd, 1) := by decide +kernel
theorem dX8_placeOf_16 : decode cX8_placeOf 16 = .ok (.ireturn, 1) := by decide +kernel
theorem dX8_beginsAt_0 : decode cX8_beginsAt 0 = .ok (.aload_n 0, 1) := by decide +kernel
theorem dX8_beginsAt_1 : decode cX8_beginsAt 1 = .ok (.getfield 19, 3) := by decide +kernel
theorem dX8_beginsAt_4 : decode cX8_beginsAt 4 = .ok (.aload_n 0, 1) := by decide +kernel
theorem dX8_beginsAt_5 : decode cX8_beginsAt 5 = .ok (.iload_n 1, 1) := by decide +kernel
theorem dX8_beginsAt_6 : decode cX8_beginsAt 6 = .ok (.iload_n 2, 1) := by decide +kernel
theorem dX8_beginsAt_7 : decode cX8_beginsAt 7 = .ok (.invokevirtual 110, 3) := by decide +kernel
theorem dX8_beginsAt_10 : decode cX8_beginsAt 10 = .ok (.iaload, 1) := by decide +kernel
theorem dX8_beginsAt_11 : decode cX8_beginsAt 11 = .ok (.iload_n 2, 1) := by decide +kernel
theorem dX8_beginsAt_12 : decode cX8_beginsAt 12 = .ok (.if_icmp .ne 7, 3) := by decide +kernel
theorem dX8_beginsAt_15 : decode cX8_beginsAt 15 = .ok (.iconst 1, 1) := by decide +kernel
theorem dX8_beginsAt_16 : decode cX8_beginsAt 16 = .ok (.goto 4, 3) := by decide +kernel
theorem dX8_beginsAt_19 : decode cX8_beginsAt 19 = .ok (.iconst 0, 1) := by decide +kernel
theorem dX8_beginsAt_20 : decode cX8_beginsAt 20 = .ok (.ireturn, 1) := by decide +kernel
theorem dX8_pieceAt_0 : decode cX8_pieceAt 0 = .ok (.iconst 1, 1) := by decide +kernel
theorem dX8_pieceAt_1 : decode cX8_pieceAt 1 = .ok (.istore_n 3, 1) := by decide +kernel
theorem dX8_pieceAt_2 : decode cX8_pieceAt 2 = .ok (.iload_n 2, 1) := by decide +kernel
theorem dX8_pieceAt_3 : decode cX8_pieceAt 3 = .ok (.iload_n 3, 1) := by decide +kernel
theorem dX8_pieceAt_4 : decode cX8_pieceAt 4 = .ok (.iadd, 1) := by decide +kernel
theorem dX8_pieceAt_5 : decode cX8_pieceAt 5 = .ok (.aload_n 0, 1) := by decide +kernel
theorem dX8_pieceAt_6 : decode cX8_pieceAt 6 = .ok (.iload_n 1, 1) := by decide +kernel
theorem dX8_pieceAt_7 : decode cX8_pieceAt 7 = .ok (.iconst 5, 1) := by decide +kernel
theorem dX8_pieceAt_8 : decode cX8_pieceAt 8 = .ok (.invokevirtual 72, 3) := by decide +kernel
theorem dX8_pieceAt_11 : decode cX8_pieceAt 11 = .ok (.if_icmp .ge 55, 3) := by decide +kernel
theorem dX8_pieceAt_14 : decode cX8_pieceAt 14 = .ok (.aload_n 0, 1) := by decide +kernel
theorem dX8_pieceAt_15 : decode cX8_pieceAt 15 = .ok (.aload_n 0, 1) := by decide +kernel
theorem dX8_pieceAt_16 : decode cX8_pieceAt 16 = .ok (.iload_n 1, 1) := by decide +kernel
theorem dX8_pieceAt_17 : decode cX8_pieceAt 17 = .ok (.iconst 1, 1) := by decide +kernel
theorem dX8_pieceAt_18 : decode cX8_pieceAt 18 = .ok (.invokevirtual 72, 3) := by decide +kernel
theorem dX8_pieceAt_21 : decode cX8_pieceAt 21 = .ok (.aload_n 0, 1) := by decide +kernel
theorem dX8_pieceAt_22 : decode cX8_pieceAt 22 = .ok (.iload_n 1, 1) := by decide +kernel
theorem dX8_pieceAt_23 : decode cX8_pieceAt 23 = .ok (.iconst 2, 1) := by decide +kernel
theorem dX8_pieceAt_24 : decode cX8_pieceAt 24 = .ok (.invokevirtual 72, 3) := by decide +kernel
theorem dX8_pieceAt_27 : decode cX8_pieceAt 27 = .ok (.iload_n 2, 1) := by decide +kernel
theorem dX8_pieceAt_28 : decode cX8_pieceAt 28 = .ok (.iadd, 1) := by decide +kernel
theorem dX8_pieceAt_29 : decode cX8_pieceAt 29 = .ok (.iload_n 3, 1) := by decide +kernel
theorem dX8_pieceAt_30 : decode cX8_pieceAt 30 = .ok (.iadd, 1) := by decide +kernel
theorem dX8_pieceAt_31 : decode cX8_pieceAt 31 = .ok (.invokevirtual 113, 3) := by decide +kernel
theorem dX8_pieceAt_34 : decode cX8_pieceAt 34 = .ok (.ifCond .ne 32, 3) := by decide +kernel
theorem dX8_pieceAt_37 : decode cX8_pieceAt 37 = .ok (.aload_n 0, 1) := by decide +kernel
theorem dX8_pieceAt_38 : decode cX8_pieceAt 38 = .ok (.aload_n 0, 1) := by decide +kernel
theorem dX8_pieceAt_39 : decode cX8_pieceAt 39 = .ok (.iload_n 1, 1) := by decide +kernel
theorem dX8_pieceAt_40 : decode cX8_pieceAt 40 = .ok (.iconst 3, 1) := by decide +kernel
theorem dX8_pieceAt_41 : decode cX8_pieceAt 41 = .ok (.invokevirtual 72, 3) := by decide +kernel
theorem dX8_pieceAt_44 : decode cX8_pieceAt 44 = .ok (.aload_n 0, 1) := by decide +kernel
theorem dX8_pieceAt_45 : decode cX8_pieceAt 45 = .ok (.iload_n 1, 1) := by decide +kernel
theorem dX8_pieceAt_46 : decode cX8_pieceAt 46 = .ok (.iconst 4, 1) := by decide +kernel
theorem dX8_pieceAt_47 : decode cX8_pieceAt 47 = .ok (.invokevirtual 72, 3) := by decide +kernel
theorem dX8_pieceAt_50 : decode cX8_pieceAt 50 = .ok (.iload_n 2, 1) := by decide +kernel
theorem dX8_pieceAt_51 : decode cX8_pieceAt 51 = .ok (.iadd, 1) := by decide +kernel
theorem dX8_pieceAt_52 : decode cX8_pieceAt 52 = .ok (.iload_n 3, 1) := by decide +kernel
theorem dX8_pieceAt_53 : decode cX8_pieceAt 53 = .ok (.iadd, 1) := by decide +kernel
theorem dX8_pieceAt_54 : decode cX8_pieceAt 54 = .ok (.invokevirtual 113, 3) := by decide +kernel
theorem dX8_pieceAt_57 : decode cX8_pieceAt 57 = .ok (.ifCond .ne 9, 3) := by decide +kernel
theorem dX8_pieceAt_60 : decode cX8_pieceAt 60 = .ok (.iinc 3 1, 3) := by decide +kernel
theorem dX8_pieceAt_63 : decode cX8_pieceAt 63 = .ok (.goto (-61), 3) := by decide +kernel
theorem dX8_pieceAt_66 : decode cX8_pieceAt 66 = .ok (.iload_n 3, 1) := by decide +kernel
theorem dX8_pieceAt_67 : decode cX8_pieceAt 67 = .ok (.ireturn, 1) := by decide +kernel
theorem dX8_restrict_0 : decode cX8_restrict 0 = .ok (.iload_n 2, 1) := by decide +kernel
theorem dX8_restrict_1 : decode cX8_restrict 1 = .ok (.istore 4, 2) := by decide +kernel
theorem dX8_restrict_3 : decode cX8_restrict 3 = .ok (.iload 4, 2) := by decide +kernel
theorem dX8_restrict_5 : decode cX8_restrict 5 = .ok (.iload_n 2, 1) := by decide +kernel
theorem dX8_restrict_6 : decode cX8_restrict 6 = .ok (.iload_n 3, 1) := by decide +kernel
theorem dX8_restrict_7 : decode cX8_restrict 7 = .ok (.iadd, 1) := by decide +kernel
theorem dX8_restrict_8 : decode cX8_restrict 8 = .ok (.if_icmp .ge 62, 3) := by decide +kernel
theorem dX8_restrict_11 : decode cX8_restrict 11 = .ok (.aload_n 0, 1) := by decide +kernel
theorem dX8_restrict_12 : decode cX8_restrict 12 = .ok (.iload_n 1, 1) := by decide +kernel
theorem dX8_restrict_13 : decode cX8_restrict 13 = .ok (.iload 4, 2) := by decide +kernel
theorem dX8_restrict_15 : decode cX8_restrict 15 = .ok (.invokevirtual 110, 3) := by decide +kernel
theorem dX8_restrict_18 : decode cX8_restrict 18 = .ok (.istore 5, 2) := by decide +kernel
theorem dX8_restrict_20 : decode cX8_restrict 20 = .ok (.aload_n 0, 1) := by decide +kernel
theorem dX8_restrict_21 : decode cX8_restrict 21 = .ok (.getfield 28, 3) := by decide +kernel
theorem dX8_restrict_24 : decode cX8_restrict 24 = .ok (.iload 5, 2) := by decide +kernel
theorem dX8_restrict_26 : decode cX8_restrict 26 = .ok (.aload_n 0, 1) := by decide +kernel
theorem dX8_restrict_27 : decode cX8_restrict 27 = .ok (.getfield 28, 3) := by decide +kernel
theorem dX8_restrict_30 : decode cX8_restrict 30 = .ok (.iload 5, 2) := by decide +kernel
theorem dX8_restrict_32 : decode cX8_restrict 32 = .ok (.baload, 1) := by decide +kernel
theorem dX8_restrict_33 : decode cX8_restrict 33 = .ok (.ifCond .eq 29, 3) := by decide +kernel
theorem dX8_restrict_36 : decode cX8_restrict 36 = .ok (.aload_n 0, 1) := by decide +kernel
theorem dX8_restrict_37 : decode cX8_restrict 37 = .ok (.getfield 19, 3) := by decide +kernel
theorem dX8_restrict_40 : decode cX8_restrict 40 = .ok (.iload 5, 2) := by decide +kernel
theorem dX8_restrict_42 : decode cX8_restrict 42 = .ok (.iaload, 1) := by decide +kernel
theorem dX8_restrict_43 : decode cX8_restrict 43 = .ok (.iload_n 2, 1) := by decide +kernel
theorem dX8_restrict_44 : decode cX8_restrict 44 = .ok (.if_icmp .ne 18, 3) := by decide +kernel
theorem dX8_restrict_47 : decode cX8_restrict 47 = .ok (.aload_n 0, 1) := by decide +kernel
theorem dX8_restrict_48 : decode cX8_restrict 48 = .ok (.getfield 22, 3) := by decide +kernel
theorem dX8_restrict_51 : decode cX8_restrict 51 = .ok (.iload 5, 2) := by decide +kernel
theorem dX8_restrict_53 : decode cX8_restrict 53 = .ok (.iaload, 1) := by decide +kernel
theorem dX8_restrict_54 : decode cX8_restrict 54 = .ok (.iload_n 3, 1) := by decide +kernel
theorem dX8_restrict_55 : decode cX8_restrict 55 = .ok (.if_icmp .ne 7, 3) := by decide +kernel
theorem dX8_restrict_58 : decode cX8_restrict 58 = .ok (.iconst 1, 1) := by decide +kernel
theorem dX8_restrict_59 : decode cX8_restrict 59 = .ok (.goto 4, 3) := by decide +kernel
theorem dX8_restrict_62 : decode cX8_restrict 62 = .ok (.iconst 0, 1) := by decide +kernel
theorem dX8_restrict_63 : decode cX8_restrict 63 = .ok (.bastore, 1) := by decide +kernel
theorem dX8_restrict_64 : decode cX8_restrict 64 = .ok (.iinc 4 1, 3) := by decide +kernel
theorem dX8_restrict_67 : decode cX8_restrict 67 = .ok (.goto (-64), 3) := by decide +kernel
theorem dX8_restrict_70 : decode cX8_restrict 70 = .ok (.return_, 1) := by decide +kernel
theorem dX8_restrictPieces_0 : decode cX8_restrictPieces 0 = .ok (.iconst 0, 1) := by decide +kernel
theorem dX8_restrictPieces_1 : decode cX8_restrictPieces 1 = .ok (.istore_n 2, 1) := by decide +kernel
theorem dX8_restrictPieces_2 : decode cX8_restrictPieces 2 = .ok (.iload_n 2, 1) := by decide +kernel
theorem dX8_restrictPieces_3 : decode cX8_restrictPieces 3 = .ok (.aload_n 0, 1) := by decide +kernel
theorem dX8_restrictPieces_4 : decode cX8_restrictPieces 4 = .ok (.iload_n 1, 1) := by decide +kernel
theorem dX8_restrictPieces_5 : decode cX8_restrictPieces 5 = .ok (.iconst 5, 1) := by decide +kernel
theorem dX8_restrictPieces_6 : decode cX8_restrictPieces 6 = .ok (.invokevirtual 72, 3) := by decide +kernel
theorem dX8_restrictPieces_9 : decode cX8_restrictPieces 9 = .ok (.if_icmp .ge 55, 3) := by decide +kernel
theorem dX8_restrictPieces_12 : decode cX8_restrictPieces 12 = .ok (.aload_n 0, 1) := by decide +kernel
theorem dX8_restrictPieces_13 : decode cX8_restrictPieces 13 = .ok (.iload_n 1, 1) := by decide +kernel
theorem dX8_restrictPieces_14 : decode cX8_restrictPieces 14 = .ok (.iload_n 2, 1) := by decide +kernel
theorem dX8_restrictPieces_15 : decode cX8_restrictPieces 15 = .ok (.invokevirtual 116, 3) := by decide +kernel
theorem dX8_restrictPieces_18 : decode cX8_restrictPieces 18 = .ok (.istore_n 3, 1) := by decide +kernel
theorem dX8_restrictPieces_19 : decode cX8_restrictPieces 19 = .ok (.aload_n 0, 1) := by decide +kernel
theorem dX8_restrictPieces_20 : decode cX8_restrictPieces 20 = .ok (.aload_n 0, 1) := by decide +kernel
theorem dX8_restrictPieces_21 : decode cX8_restrictPieces 21 = .ok (.iload_n 1, 1) := by decide +kernel
theorem dX8_restrictPieces_22 : decode cX8_restrictPieces 22 = .ok (.iconst 1, 1) := by decide +kernel
theorem dX8_restrictPieces_23 : decode cX8_restrictPieces 23 = .ok (.invokevirtual 72, 3) := by decide +kernel
theorem dX8_restrictPieces_26 : decode cX8_restrictPieces 26 = .ok (.aload_n 0, 1) := by decide +kernel
theorem dX8_restrictPieces_27 : decode cX8_restrictPieces 27 = .ok (.iload_n 1, 1) := by decide +kernel
theorem dX8_restrictPieces_28 : decode cX8_restrictPieces 28 = .ok (.iconst 2, 1) := by decide +kernel
theorem dX8_restrictPieces_29 : decode cX8_restrictPieces 29 = .ok (.invokevirtual 72, 3) := by decide +kernel
theorem dX8_restrictPieces_32 : decode cX8_restrictPieces 32 = .ok (.iload_n 2, 1) := by decide +kernel
theorem dX8_restrictPieces_33 : decode cX8_restrictPieces 33 = .ok (.iadd, 1) := by decide +kernel
theorem dX8_restrictPieces_34 : decode cX8_restrictPieces 34 = .ok (.iload_n 3, 1) := by decide +kernel
theorem dX8_restrictPieces_35 : decode cX8_restrictPieces 35 = .ok (.invokevirtual 119, 3) := by decide +kernel
theorem dX8_restrictPieces_38 : decode cX8_restrictPieces 38 = .ok (.aload_n 0, 1) := by decide +kernel
theorem dX8_restrictPieces_39 : decode cX8_restrictPieces 39 = .ok (.aload_n 0, 1) := by decide +kernel
theorem dX8_restrictPieces_40 : decode cX8_restrictPieces 40 = .ok (.iload_n 1, 1) := by decide +kernel
theorem dX8_restrictPieces_41 : decode cX8_restrictPieces 41 = .ok (.iconst 3, 1) := by decide +kernel
theorem dX8_restrictPieces_42 : decode cX8_restrictPieces 42 = .ok (.invokevirtual 72, 3) := by decide +kernel
theorem dX8_restrictPieces_45 : decode cX8_restrictPieces 45 = .ok (.aload_n 0, 1) := by decide +kernel
theorem dX8_restrictPieces_46 : decode cX8_restrictPieces 46 = .ok (.iload_n 1, 1) := by decide +kernel
theorem dX8_restrictPieces_47 : decode cX8_restrictPieces 47 = .ok (.iconst 4, 1) := by decide +kernel
theorem dX8_restrictPieces_48 : decode cX8_restrictPieces 48 = .ok (.invokevirtual 72, 3) := by decide +kernel
theorem dX8_restrictPieces_51 : decode cX8_restrictPieces 51 = .ok (.iload_n 2, 1) := by decide +kernel
theorem dX8_restrictPieces_52 : decode cX8_restrictPieces 52 = .ok (.iadd, 1) := by decide +kernel
theorem dX8_restrictPieces_53 : decode cX8_restrictPieces 53 = .ok (.iload_n 3, 1) := by decide +kernel
theorem dX8_restrictPieces_54 : decode cX8_restrictPieces 54 = .ok (.invokevirtual 119, 3) := by decide +kernel
theorem dX8_restrictPieces_57 : decode cX8_restrictPieces 57 = .ok (.iload_n 2, 1) := by decide +kernel
theorem dX8_restrictPieces_58 : decode cX8_restrictPieces 58 = .ok (.iload_n 3, 1) := by decide +kernel
theorem dX8_restrictPieces_59 : decode cX8_restrictPieces 59 = .ok (.iadd, 1) := by decide +kernel
theorem dX8_restrictPieces_60 : decode cX8_restrictPieces 60 = .ok (.istore_n 2, 1) := by decide +kernel
theorem dX8_restrictPieces_61 : decode cX8_restrictPieces 61 = .ok (.goto (-59), 3) := by decide +kernel
theorem dX8_restrictPieces_64 : decode cX8_restrictPieces 64 = .ok (.return_, 1) := by decide +kernel
theorem dX8_findPromotable_0 : decode cX8_findPromotable 0 = .ok (.iconst 0, 1) := by decide +kernel
theorem dX8_findPromotable_1 : decode cX8_findPromotable 1 = .ok (.istore_n 1, 1) := by decide +kernel
theorem dX8_findPromotable_2 : decode cX8_findPromotable 2 = .ok (.iload_n 1, 1) := by decide +kernel
theorem dX8_findPromotable_3 : decode cX8_findPromotable 3 = .ok (.aload_n 0, 1) := by decide +kernel
theorem dX8_findPromotable_4 : decode cX8_findPromotable 4 = .ok (.getfield 7, 3) := by decide +kernel
theorem dX8_findPromotable_7 : decode cX8_findPromotable 7 = .ok (.iconst 0, 1) := by decide +kernel
theorem dX8_findPromotable_8 : decode cX8_findPromotable 8 = .ok (.iaload, 1) := by decide +kernel
theorem dX8_findPromotable_9 : decode cX8_findPromotable 9 = .ok (.if_icmp .ge 65, 3) := by decide +kernel
theorem dX8_findPromotable_12 : decode cX8_findPromotable 12 = .ok (.iconst 0, 1) := by decide +kernel
theorem dX8_findPromotable_13 : decode cX8_findPromotable 13 = .ok (.istore_n 2, 1) := by decide +kernel
theorem dX8_findPromotable_14 : decode cX8_findPromotable 14 = .ok (.iload_n 2, 1) := by decide +kernel
theorem dX8_findPromotable_15 : decode cX8_findPromotable 15 = .ok (.aload_n 0, 1) := by decide +kernel
theorem dX8_findPromotable_16 : decode cX8_findPromotable 16 = .ok (.getfield 25, 3) := by decide +kernel
theorem dX8_findPromotable_19 : decode cX8_findPromotable 19 = .ok (.iload_n 1, 1) := by decide +kernel
theorem dX8_findPromotable_20 : decode cX8_findPromotable 20 = .ok (.iaload, 1) := by decide +kernel
theorem dX8_findPromotable_21 : decode cX8_findPromotable 21 = .ok (.if_icmp .ge 47, 3) := by decide +kernel
theorem dX8_findPromotable_24 : decode cX8_findPromotable 24 = .ok (.bipush 16, 2) := by decide +kernel
theorem dX8_findPromotable_26 : decode cX8_findPromotable 26 = .ok (.iload_n 1, 1) := by decide +kernel
theorem dX8_findPromotable_27 : decode cX8_findPromotable 27 = .ok (.imul, 1) := by decide +kernel
theorem dX8_findPromotable_28 : decode cX8_findPromotable 28 = .ok (.iload_n 2, 1) := by decide +kernel
theorem dX8_findPromotable_29 : decode cX8_findPromotable 29 = .ok (.iadd, 1) := by decide +kernel
theorem dX8_findPromotable_30 : decode cX8_findPromotable 30 = .ok (.istore_n 3, 1) := by decide +kernel
theorem dX8_findPromotable_31 : decode cX8_findPromotable 31 = .ok (.aload_n 0, 1) := by decide +kernel
theorem dX8_findPromotable_32 : decode cX8_findPromotable 32 = .ok (.getfield 28, 3) := by decide +kernel
theorem dX8_findPromotable_35 : decode cX8_findPromotable 35 = .ok (.iload_n 3, 1) := by decide +kernel
theorem dX8_findPromotable_36 : decode cX8_findPromotable 36 = .ok (.aload_n 0, 1) := by decide +kernel
theorem dX8_findPromotable_37 : decode cX8_findPromotable 37 = .ok (.iload_n 1, 1) := by decide +kernel
theorem dX8_findPromotable_38 : decode cX8_findPromotable 38 = .ok (.invokevirtual 90, 3) := by decide +kernel
theorem dX8_findPromotable_41 : decode cX8_findPromotable 41 = .ok (.ifCond .ne 19, 3) := by decide +kernel
theorem dX8_findPromotable_44 : decode cX8_findPromotable 44 = .ok (.aload_n 0, 1) := by decide +kernel
theorem dX8_findPromotable_45 : decode cX8_findPromotable 45 = .ok (.getfield 22, 3) := by decide +kernel
theorem dX8_findPromotable_48 : decode cX8_findPromotable 48 = .ok (.iload_n 3, 1) := by decide +kernel
theorem dX8_findPromotable_49 : decode cX8_findPromotable 49 = .ok (.iaload, 1) := by decide +kernel
theorem dX8_findPromotable_50 : decode cX8_findPromotable 50 = .ok (.invokestatic 59, 3) := by decide +kernel
theorem dX8_findPromotable_53 : decode cX8_findPromotable 53 = .ok (.ifCond .eq 7, 3) := by decide +kernel
theorem dX8_findPromotable_56 : decode cX8_findPromotable 56 = .ok (.iconst 1, 1) := by decide +kernel
theorem dX8_findPromotable_57 : decode cX8_findPromotable 57 = .ok (.goto 4, 3) := by decide +kernel
theorem dX8_findPromotable_60 : decode cX8_findPromotable 60 = .ok (.iconst 0, 1) := by decide +kernel
theorem dX8_findPromotable_61 : decode cX8_findPromotable 61 = .ok (.bastore, 1) := by decide +kernel
theorem dX8_findPromotable_62 : decode cX8_findPromotable 62 = .ok (.iinc 2 1, 3) := by decide +kernel
theorem dX8_findPromotable_65 : decode cX8_findPromotable 65 = .ok (.goto (-51), 3) := by decide +kernel
theorem dX8_findPromotable_68 : decode cX8_findPromotable 68 = .ok (.iinc 1 1, 3) := by decide +kernel
theorem dX8_findPromotable_71 : decode cX8_findPromotable 71 = .ok (.goto (-69), 3) := by decide +kernel
theorem dX8_findPromotable_74 : decode cX8_findPromotable 74 = .ok (.iconst 0, 1) := by decide +kernel
theorem dX8_findPromotable_75 : decode cX8_findPromotable 75 = .ok (.istore_n 1, 1) := by decide +kernel
theorem dX8_findPromotable_76 : decode cX8_findPromotable 76 = .ok (.iload_n 1, 1) := by decide +kernel
theorem dX8_findPromotable_77 : decode cX8_findPromotable 77 = .ok (.aload_n 0, 1) := by decide +kernel
theorem dX8_findPromotable_78 : decode cX8_findPromotable 78 = .ok (.getfield 7, 3) := by decide +kernel
theorem dX8_findPromotable_81 : decode cX8_findPromotable 81 = .ok (.iconst 5, 1) := by decide +kernel
theorem dX8_findPromotable_82 : decode cX8_findPromotable 82 = .ok (.iaload, 1) := by decide +kernel
theorem dX8_findPromotable_83 : decode cX8_findPromotable 83 = .ok (.if_icmp .ge 57, 3) := by decide +kernel
theorem dX8_findPromotable_86 : decode cX8_findPromotable 86 = .ok (.aload_n 0, 1) := by decide +kernel
theorem dX8_findPromotable_87 : decode cX8_findPromotable 87 = .ok (.iload_n 1, 1) := by decide +kernel
theorem dX8_findPromotable_88 : decode cX8_findPromotable 88 = .ok (.invokevirtual 76, 3) := by decide +kernel
theorem dX8_findPromotable_91 : decode cX8_findPromotable 91 = .ok (.ifCond .eq 28, 3) := by decide +kernel
theorem dX8_findPromotable_94 : decode cX8_findPromotable 94 = .ok (.aload_n 0, 1) := by decide +kernel
theorem dX8_findPromotable_95 : decode cX8_findPromotable 95 = .ok (.aload_n 0, 1) := by decide +kernel
theorem dX8_findPromotable_96 : decode cX8_findPromotable 96 = .ok (.iload_n 1, 1) := by decide +kernel
theorem dX8_findPromotable_97 : decode cX8_findPromotable 97 = .ok (.iconst 1, 1) := by decide +kernel
theorem dX8_findPromotable_98 : decode cX8_findPromotable 98 = .ok (.invokevirtual 72, 3) := by decide +kernel
theorem dX8_findPromotable_101 : decode cX8_findPromotable 101 = .ok (.aload_n 0, 1) := by decide +kernel
theorem dX8_findPromotable_102 : decode cX8_findPromotable 102 = .ok (.iload_n 1, 1) := by decide +kernel
theorem dX8_findPromotable_103 : decode cX8_findPromotable 103 = .ok (.iconst 2, 1) := by decide +kernel
theorem dX8_findPromotable_104 : decode cX8_findPromotable 104 = .ok (.invokevirtual 72, 3) := by decide +kernel
theorem dX8_findPromotable_107 : decode cX8_findPromotable 107 = .ok (.aload_n 0, 1) := by decide +kernel
theorem dX8_findPromotable_108 : decode cX8_findPromotable 108 = .ok (.iload_n 1, 1) := by decide +kernel
theorem dX8_findPromotable_109 : decode cX8_findPromotable 109 = .ok (.iconst 3, 1) := by decide +kernel
theorem dX8_findPromotable_110 : decode cX8_findPromotable 110 = .ok (.invokevirtual 72, 3) := by decide +kernel
theorem dX8_findPromotable_113 : decode cX8_findPromotable 113 = .ok (.invokevirtual 119, 3) := by decide +kernel
theorem dX8_findPromotable_116 : decode cX8_findPromotable 116 = .ok (.goto 18, 3) := by decide +kernel
theorem dX8_findPromotable_119 : decode cX8_findPromotable 119 = .ok (.aload_n 0, 1) := by decide +kernel
theorem dX8_findPromotable_120 : decode cX8_findPromotable 120 = .ok (.iload_n 1, 1) := by decide +kernel
theorem dX8_findPromotable_121 : decode cX8_findPromotable 121 = .ok (.iconst 0, 1) := by decide +kernel
theorem dX8_findPromotable_122 : decode cX8_findPromotable 122 = .ok (.invokevirtual 72, 3) := by decide +kernel
theorem dX8_findPromotable_125 : decode cX8_findPromotable 125 = .ok (.iconst 3, 1) := by decide +kernel
theorem dX8_findPromotable_126 : decode cX8_findPromotable 126 = .ok (.if_icmp .ne 8, 3) := by decide +kernel
theorem dX8_findPromotable_129 : decode cX8_findPromotable 129 = .ok (.aload_n 0, 1) := by decide +kernel
theorem dX8_findPromotable_130 : decode cX8_findPromotable 130 = .ok (.iload_n 1, 1) := by decide +kernel
theorem dX8_findPromotable_131 : decode cX8_findPromotable 131 = .ok (.invokevirtual 123, 3) := by decide +kernel
theorem dX8_findPromotable_134 : decode cX8_findPromotable 134 = .ok (.iinc 1 1, 3) := by decide +kernel
theorem dX8_findPromotable_137 : decode cX8_findPromotable 137 = .ok (.goto (-61), 3) := by decide +kernel
theorem dX8_findPromotable_140 : decode cX8_findPromotable 140 = .ok (.return_, 1) := by decide +kernel
theorem dX8_enliven_0 : decode cX8_enliven 0 = .ok (.iconst 0, 1) := by decide +kernel
theorem dX8_enliven_1 : decode cX8_enliven 1 = .ok (.istore_n 2, 1) := by decide +kernel
theorem dX8_enliven_2 : decode cX8_enliven 2 = .ok (.iconst 0, 1) := by decide +kernel
theorem dX8_enliven_3 : decode cX8_enliven 3 = .ok (.istore_n 3, 1) := by decide +kernel
theorem dX8_enliven_4 : decode cX8_enliven 4 = .ok (.iload_n 3, 1) := by decide +kernel
theorem dX8_enliven_5 : decode cX8_enliven 5 = .ok (.aload_n 0, 1) := by decide +kernel
theorem dX8_enliven_6 : decode cX8_enliven 6 = .ok (.iload_n 1, 1) := by decide +kernel
theorem dX8_enliven_7 : decode cX8_enliven 7 = .ok (.iconst 5, 1) := by decide +kernel
theorem dX8_enliven_8 : decode cX8_enliven 8 = .ok (.invokevirtual 72, 3) := by decide +kernel
theorem dX8_enliven_11 : decode cX8_enliven 11 = .ok (.if_icmp .ge 111, 3) := by decide +kernel
theorem dX8_enliven_14 : decode cX8_enliven 14 = .ok (.aload_n 0, 1) := by decide +kernel
theorem dX8_enliven_15 : decode cX8_enliven 15 = .ok (.aload_n 0, 1) := by decide +kernel
theorem dX8_enliven_16 : decode cX8_enliven 16 = .ok (.iload_n 1, 1) := by decide +kernel
theorem dX8_enliven_17 : decode cX8_enliven 17 = .ok (.iconst 1, 1) := by decide +kernel
theorem dX8_enliven_18 : decode cX8_enliven 18 = .ok (.invokevirtual 72, 3) := by decide +kernel
theorem dX8_enliven_21 : decode cX8_enliven 21 = .ok (.aload_n 0, 1) := by decide +kernel
theorem dX8_enliven_22 : decode cX8_enliven 22 = .ok (.iload_n 1, 1) := by decide +kernel
theorem dX8_enliven_23 : decode cX8_enliven 23 = .ok (.iconst 2, 1) := by decide +kernel
theorem dX8_enliven_24 : decode cX8_enliven 24 = .ok (.invokevirtual 72, 3) := by decide +kernel
theorem dX8_enliven_27 : decode cX8_enliven 27 = .ok (.iload_n 3, 1) := by decide +kernel
theorem dX8_enliven_28 : decode cX8_enliven 28 = .ok (.iadd, 1) := by decide +kernel
theorem dX8_enliven_29 : decode cX8_enliven 29 = .ok (.invokevirtual 110, 3) := by decide +kernel
theorem dX8_enliven_32 : decode cX8_enliven 32 = .ok (.istore 4, 2) := by decide +kernel
theorem dX8_enliven_34 : decode cX8_enliven 34 = .ok (.aload_n 0, 1) := by decide +kernel
theorem dX8_enliven_35 : decode cX8_enliven 35 = .ok (.aload_n 0, 1) := by decide +kernel
theorem dX8_enliven_36 : decode cX8_enliven 36 = .ok (.iload_n 1, 1) := by decide +kernel
theorem dX8_enliven_37 : decode cX8_enliven 37 = .ok (.iconst 3, 1) := by decide +kernel
theorem dX8_enliven_38 : decode cX8_enliven 38 = .ok (.invokevirtual 72, 3) := by decide +kernel
theorem dX8_enliven_41 : decode cX8_enliven 41 = .ok (.aload_n 0, 1) := by decide +kernel
theorem dX8_enliven_42 : decode cX8_enliven 42 = .ok (.iload_n 1, 1) := by decide +kernel
theorem dX8_enliven_43 : decode cX8_enliven 43 = .ok (.iconst 4, 1) := by decide +kernel
theorem dX8_enliven_44 : decode cX8_enliven 44 = .ok (.invokevirtual 72, 3) := by decide +kernel
theorem dX8_enliven_47 : decode cX8_enliven 47 = .ok (.iload_n 3, 1) := by decide +kernel
theorem dX8_enliven_48 : decode cX8_enliven 48 = .ok (.iadd, 1) := by decide +kernel
theorem dX8_enliven_49 : decode cX8_enliven 49 = .ok (.invokevirtual 110, 3) := by decide +kernel
theorem dX8_enliven_52 : decode cX8_enliven 52 = .ok (.istore 5, 2) := by decide +kernel
theorem dX8_enliven_54 : decode cX8_enliven 54 = .ok (.iload_n 2, 1) := by decide +kernel
theorem dX8_enliven_55 : decode cX8_enliven 55 = .ok (.ifCond .ne 23, 3) := by decide +kernel
theorem dX8_enliven_58 : decode cX8_enliven 58 = .ok (.aload_n 0, 1) := by decide +kernel
theorem dX8_enliven_59 : decode cX8_enliven 59 = .ok (.getfield 32, 3) := by decide +kernel
theorem dX8_enliven_62 : decode cX8_enliven 62 = .ok (.iload 4, 2) := by decide +kernel
theorem dX8_enliven_64 : decode cX8_enliven 64 = .ok (.baload, 1) := by decide +kernel
theorem dX8_enliven_65 : decode cX8_enliven 65 = .ok (.ifCond .eq 17, 3) := by decide +kernel
theorem dX8_enliven_68 : decode cX8_enliven 68 = .ok (.aload_n 0, 1) := by decide +kernel
theorem dX8_enliven_69 : decode cX8_enliven 69 = .ok (.getfield 32, 3) := by decide +kernel
theorem dX8_enliven_72 : decode cX8_enliven 72 = .ok (.iload 5, 2) := by decide +kernel
theorem dX8_enliven_74 : decode cX8_enliven 74 = .ok (.baload, 1) := by decide +kernel
theorem dX8_enliven_75 : decode cX8_enliven 75 = .ok (.ifCond .ne 7, 3) := by decide +kernel
theorem dX8_enliven_78 : decode cX8_enliven 78 = .ok (.iconst 1, 1) := by decide +kernel
theorem dX8_enliven_79 : decode cX8_enliven 79 = .ok (.goto 4, 3) := by decide +kernel
theorem dX8_enliven_82 : decode cX8_enliven 82 = .ok (.iconst 0, 1) := by decide +kernel
theorem dX8_enliven_83 : decode cX8_enliven 83 = .ok (.istore_n 2, 1) := by decide +kernel
theorem dX8_enliven_84 : decode cX8_enliven 84 = .ok (.aload_n 0, 1) := by decide +kernel
theorem dX8_enliven_85 : decode cX8_enliven 85 = .ok (.getfield 32, 3) := by decide +kernel
theorem dX8_enliven_88 : decode cX8_enliven 88 = .ok (.iload 5, 2) := by decide +kernel
theorem dX8_enliven_90 : decode cX8_enliven 90 = .ok (.aload_n 0, 1) := by decide +kernel
theorem dX8_enliven_91 : decode cX8_enliven 91 = .ok (.getfield 32, 3) := by decide +kernel
theorem dX8_enliven_94 : decode cX8_enliven 94 = .ok (.iload 5, 2) := by decide +kernel
theorem dX8_enliven_96 : decode cX8_enliven 96 = .ok (.baload, 1) := by decide +kernel
theorem dX8_enliven_97 : decode cX8_enliven 97 = .ok (.ifCond .ne 13, 3) := by decide +kernel
theorem dX8_enliven_100 : decode cX8_enliven 100 = .ok (.aload_n 0, 1) := by decide +kernel
theorem dX8_enliven_101 : decode cX8_enliven 101 = .ok (.getfield 32, 3) := by decide +kernel
theorem dX8_enliven_104 : decode cX8_enliven 104 = .ok (.iload 4, 2) := by decide +kernel
theorem dX8_enliven_106 : decode cX8_enliven 106 = .ok (.baload, 1) := by decide +kernel
theorem dX8_enliven_107 : decode cX8_enliven 107 = .ok (.ifCond .eq 7, 3) := by decide +kernel
theorem dX8_enliven_110 : decode cX8_enliven 110 = .ok (.iconst 1, 1) := by decide +kernel
theorem dX8_enliven_111 : decode cX8_enliven 111 = .ok (.goto 4, 3) := by decide +kernel
theorem dX8_enliven_114 : decode cX8_enliven 114 = .ok (.iconst 0, 1) := by decide +kernel
theorem dX8_enliven_115 : decode cX8_enliven 115 = .ok (.bastore, 1) := by decide +kernel
theorem dX8_enliven_116 : decode cX8_enliven 116 = .ok (.iinc 3 1, 3) := by decide +kernel
theorem dX8_enliven_119 : decode cX8_enliven 119 = .ok (.goto (-115), 3) := by decide +kernel
theorem dX8_enliven_122 : decode cX8_enliven 122 = .ok (.iload_n 2, 1) := by decide +kernel
theorem dX8_enliven_123 : decode cX8_enliven 123 = .ok (.ireturn, 1) := by decide +kernel
theorem dX8_findLive_0 : decode cX8_findLive 0 = .ok (.iconst 0, 1) := by decide +kernel
theorem dX8_findLive_1 : decode cX8_findLive 1 = .ok (.istore_n 1, 1) := by decide +kernel
theorem dX8_findLive_2 : decode cX8_findLive 2 = .ok (.iload_n 1, 1) := by decide +kernel
theorem dX8_findLive_3 : decode cX8_findLive 3 = .ok (.aload_n 0, 1) := by decide +kernel
theorem dX8_findLive_4 : decode cX8_findLive 4 = .ok (.getfield 7, 3) := by decide +kernel
theorem dX8_findLive_7 : decode cX8_findLive 7 = .ok (.iconst 0, 1) := by decide +kernel
theorem dX8_findLive_8 : decode cX8_findLive 8 = .ok (.iaload, 1) := by decide +kernel
theorem dX8_findLive_9 : decode cX8_findLive 9 = .ok (.if_icmp .ge 43, 3) := by decide +kernel
theorem dX8_findLive_12 : decode cX8_findLive 12 = .ok (.iconst 0, 1) := by decide +kernel
theorem dX8_findLive_13 : decode cX8_findLive 13 = .ok (.istore_n 2, 1) := by decide +kernel
theorem dX8_findLive_14 : decode cX8_findLive 14 = .ok (.iload_n 2, 1) := by decide +kernel
theorem dX8_findLive_15 : decode cX8_findLive 15 = .ok (.aload_n 0, 1) := by decide +kernel
theorem dX8_findLive_16 : decode cX8_findLive 16 = .ok (.getfield 25, 3) := by decide +kernel
theorem dX8_findLive_19 : decode cX8_findLive 19 = .ok (.iload_n 1, 1) := by decide +kernel
theorem dX8_findLive_20 : decode cX8_findLive 20 = .ok (.iaload, 1) := by decide +kernel
theorem dX8_findLive_21 : decode cX8_findLive 21 = .ok (.if_icmp .ge 25, 3) := by decide +kernel
theorem dX8_findLive_24 : decode cX8_findLive 24 = .ok (.aload_n 0, 1) := by decide +kernel
theorem dX8_findLive_25 : decode cX8_findLive 25 = .ok (.getfield 32, 3) := by decide +kernel
theorem dX8_findLive_28 : decode cX8_findLive 28 = .ok (.bipush 16, 2) := by decide +kernel
theorem dX8_findLive_30 : decode cX8_findLive 30 = .ok (.iload_n 1, 1) := by decide +kernel
theorem dX8_findLive_31 : decode cX8_findLive 31 = .ok (.imul, 1) := by decide +kernel
theorem dX8_findLive_32 : decode cX8_findLive 32 = .ok (.iload_n 2, 1) := by decide +kernel
theorem dX8_findLive_33 : decode cX8_findLive 33 = .ok (.iadd, 1) := by decide +kernel
theorem dX8_findLive_34 : decode cX8_findLive 34 = .ok (.aload_n 0, 1) := by decide +kernel
theorem dX8_findLive_35 : decode cX8_findLive 35 = .ok (.iload_n 1, 1) := by decide +kernel
theorem dX8_findLive_36 : decode cX8_findLive 36 = .ok (.invokevirtual 90, 3) := by decide +kernel
theorem dX8_findLive_39 : decode cX8_findLive 39 = .ok (.bastore, 1) := by decide +kernel
theorem dX8_findLive_40 : decode cX8_findLive 40 = .ok (.iinc 2 1, 3) := by decide +kernel
theorem dX8_findLive_43 : decode cX8_findLive 43 = .ok (.goto (-29), 3) := by decide +kernel
theorem dX8_findLive_46 : decode cX8_findLive 46 = .ok (.iinc 1 1, 3) := by decide +kernel
theorem dX8_findLive_49 : decode cX8_findLive 49 = .ok (.goto (-47), 3) := by decide +kernel
theorem dX8_findLive_52 : decode cX8_findLive 52 = .ok (.iconst 0, 1) := by decide +kernel
theorem dX8_findLive_53 : decode cX8_findLive 53 = .ok (.istore_n 1, 1) := by decide +kernel
theorem dX8_findLive_54 : decode cX8_findLive 54 = .ok (.iload_n 1, 1) := by decide +kernel
theorem dX8_findLive_55 : decode cX8_findLive 55 = .ok (.aload_n 0, 1) := by decide +kernel
theorem dX8_findLive_56 : decode cX8_findLive 56 = .ok (.getfield 7, 3) := by decide +kernel
theorem dX8_findLive_59 : decode cX8_findLive 59 = .ok (.iconst 5, 1) := by decide +kernel
theorem dX8_findLive_60 : decode cX8_findLive 60 = .ok (.iaload, 1) := by decide +kernel
theorem dX8_findLive_61 : decode cX8_findLive 61 = .ok (.if_icmp .ge 41, 3) := by decide +kernel
theorem dX8_findLive_64 : decode cX8_findLive 64 = .ok (.aload_n 0, 1) := by decide +kernel
theorem dX8_findLive_65 : decode cX8_findLive 65 = .ok (.iload_n 1, 1) := by decide +kernel
theorem dX8_findLive_66 : decode cX8_findLive 66 = .ok (.iconst 0, 1) := by decide +kernel
theorem dX8_findLive_67 : decode cX8_findLive 67 = .ok (.invokevirtual 72, 3) := by decide +kernel
theorem dX8_findLive_70 : decode cX8_findLive 70 = .ok (.iconst 2, 1) := by decide +kernel
theorem dX8_findLive_71 : decode cX8_findLive 71 = .ok (.if_icmp .ne 25, 3) := by decide +kernel
theorem dX8_findLive_74 : decode cX8_findLive 74 = .ok (.aload_n 0, 1) := by decide +kernel
theorem dX8_findLive_75 : decode cX8_findLive 75 = .ok (.getfield 32, 3) := by decide +kernel
theorem dX8_findLive_78 : decode cX8_findLive 78 = .ok (.aload_n 0, 1) := by decide +kernel
theorem dX8_findLive_79 : decode cX8_findLive 79 = .ok (.aload_n 0, 1) := by decide +kernel
theorem dX8_findLive_80 : decode cX8_findLive 80 = .ok (.iload_n 1, 1) := by decide +kernel
theorem dX8_findLive_81 : decode cX8_findLive 81 = .ok (.iconst 1, 1) := by decide +kernel
theorem dX8_findLive_82 : decode cX8_findLive 82 = .ok (.invokevirtual 72, 3) := by decide +kernel
theorem dX8_findLive_85 : decode cX8_findLive 85 = .ok (.aload_n 0, 1) := by decide +kernel
theorem dX8_findLive_86 : decode cX8_findLive 86 = .ok (.iload_n 1, 1) := by decide +kernel
theorem dX8_findLive_87 : decode cX8_findLive 87 = .ok (.iconst 2, 1) := by decide +kernel
theorem dX8_findLive_88 : decode cX8_findLive 88 = .ok (.invokevirtual 72, 3) := by decide +kernel
theorem dX8_findLive_91 : decode cX8_findLive 91 = .ok (.invokevirtual 110, 3) := by decide +kernel
theorem dX8_findLive_94 : decode cX8_findLive 94 = .ok (.iconst 1, 1) := by decide +kernel
theorem dX8_findLive_95 : decode cX8_findLive 95 = .ok (.bastore, 1) := by decide +kernel
theorem dX8_findLive_96 : decode cX8_findLive 96 = .ok (.iinc 1 1, 3) := by decide +kernel
theorem dX8_findLive_99 : decode cX8_findLive 99 = .ok (.goto (-45), 3) := by decide +kernel
theorem dX8_findLive_102 : decode cX8_findLive 102 = .ok (.iconst 1, 1) := by decide +kernel
theorem dX8_findLive_103 : decode cX8_findLive 103 = .ok (.istore_n 1, 1) := by decide +kernel
theorem dX8_findLive_104 : decode cX8_findLive 104 = .ok (.iload_n 1, 1) := by decide +kernel
theorem dX8_findLive_105 : decode cX8_findLive 105 = .ok (.ifCond .eq 56, 3) := by decide +kernel
theorem dX8_findLive_108 : decode cX8_findLive 108 = .ok (.iconst 0, 1) := by decide +kernel
theorem dX8_findLive_109 : decode cX8_findLive 109 = .ok (.istore_n 1, 1) := by decide +kernel
theorem dX8_findLive_110 : decode cX8_findLive 110 = .ok (.iconst 0, 1) := by decide +kernel
theorem dX8_findLive_111 : decode cX8_findLive 111 = .ok (.istore_n 2, 1) := by decide +kernel
theorem dX8_findLive_112 : decode cX8_findLive 112 = .ok (.iload_n 2, 1) := by decide +kernel
theorem dX8_findLive_113 : decode cX8_findLive 113 = .ok (.aload_n 0, 1) := by decide +kernel
theorem dX8_findLive_114 : decode cX8_findLive 114 = .ok (.getfield 7, 3) := by decide +kernel
theorem dX8_findLive_117 : decode cX8_findLive 117 = .ok (.iconst 5, 1) := by decide +kernel
theorem dX8_findLive_118 : decode cX8_findLive 118 = .ok (.iaload, 1) := by decide +kernel
theorem dX8_findLive_119 : decode cX8_findLive 119 = .ok (.if_icmp .ge 39, 3) := by decide +kernel
theorem dX8_findLive_122 : decode cX8_findLive 122 = .ok (.aload_n 0, 1) := by decide +kernel
theorem dX8_findLive_123 : decode cX8_findLive 123 = .ok (.iload_n 2, 1) := by decide +kernel
theorem dX8_findLive_124 : decode cX8_findLive 124 = .ok (.iconst 0, 1) := by decide +kernel
theorem dX8_findLive_125 : decode cX8_findLive 125 = .ok (.invokevirtual 72, 3) := by decide +kernel
theorem dX8_findLive_128 : decode cX8_findLive 128 = .ok (.iconst 3, 1) := by decide +kernel
theorem dX8_findLive_129 : decode cX8_findLive 129 = .ok (.if_icmp .ne 23, 3) := by decide +kernel
theorem dX8_findLive_132 : decode cX8_findLive 132 = .ok (.aload_n 0, 1) := by decide +kernel
theorem dX8_findLive_133 : decode cX8_findLive 133 = .ok (.iload_n 2, 1) := by decide +kernel
theorem dX8_findLive_134 : decode cX8_findLive 134 = .ok (.invokevirtual 126, 3) := by decide +kernel
theorem dX8_findLive_137 : decode cX8_findLive 137 = .ok (.istore_n 3, 1) := by decide +kernel
theorem dX8_findLive_138 : decode cX8_findLive 138 = .ok (.iload_n 1, 1) := by decide +kernel
theorem dX8_findLive_139 : decode cX8_findLive 139 = .ok (.ifCond .ne 7, 3) := by decide +kernel
theorem dX8_findLive_142 : decode cX8_findLive 142 = .ok (.iload_n 3, 1) := by decide +kernel
theorem dX8_findLive_143 : decode cX8_findLive 143 = .ok (.ifCond .eq 7, 3) := by decide +kernel
theorem dX8_findLive_146 : decode cX8_findLive 146 = .ok (.iconst 1, 1) := by decide +kernel
theorem dX8_findLive_147 : decode cX8_findLive 147 = .ok (.goto 4, 3) := by decide +kernel
theorem dX8_findLive_150 : decode cX8_findLive 150 = .ok (.iconst 0, 1) := by decide +kernel
theorem dX8_findLive_151 : decode cX8_findLive 151 = .ok (.istore_n 1, 1) := by decide +kernel
theorem dX8_findLive_152 : decode cX8_findLive 152 = .ok (.iinc 2 1, 3) := by decide +kernel
theorem dX8_findLive_155 : decode cX8_findLive 155 = .ok (.goto (-43), 3) := by decide +kernel
theorem dX8_findLive_158 : decode cX8_findLive 158 = .ok (.goto (-54), 3) := by decide +kernel
theorem dX8_findLive_161 : decode cX8_findLive 161 = .ok (.return_, 1) := by decide +kernel
theorem dX8_analyse_0 : decode cX8_analyse 0 = .ok (.aload_n 0, 1) := by decide +kernel
theorem dX8_analyse_1 : decode cX8_analyse 1 = .ok (.invokevirtual 129, 3) := by decide +kernel
theorem dX8_analyse_4 : decode cX8_analyse 4 = .ok (.aload_n 0, 1) := by decide +kernel
theorem dX8_analyse_5 : decode cX8_analyse 5 = .ok (.invokevirtual 132, 3) := by decide +kernel
theorem dX8_analyse_8 : decode cX8_analyse 8 = .ok (.aload_n 0, 1) := by decide +kernel
theorem dX8_analyse_9 : decode cX8_analyse 9 = .ok (.invokevirtual 135, 3) := by decide +kernel
theorem dX8_analyse_12 : decode cX8_analyse 12 = .ok (.return_, 1) := by decide +kernel
theorem dX8_escapes_0 : decode cX8_escapes 0 = .ok (.aload_n 0, 1) := by decide +kernel
theorem dX8_escapes_1 : decode cX8_escapes 1 = .ok (.iload_n 1, 1) := by decide +kernel
theorem dX8_escapes_2 : decode cX8_escapes 2 = .ok (.invokevirtual 52, 3) := by decide +kernel
theorem dX8_escapes_5 : decode cX8_escapes 5 = .ok (.ifCond .ne 7, 3) := by decide +kernel
theorem dX8_escapes_8 : decode cX8_escapes 8 = .ok (.iconst (-1), 1) := by decide +kernel
theorem dX8_escapes_9 : decode cX8_escapes 9 = .ok (.goto 16, 3) := by decide +kernel
theorem dX8_escapes_12 : decode cX8_escapes 12 = .ok (.aload_n 0, 1) := by decide +kernel
theorem dX8_escapes_13 : decode cX8_escapes 13 = .ok (.iload_n 1, 1) := by decide +kernel
theorem dX8_escapes_14 : decode cX8_escapes 14 = .ok (.invokevirtual 90, 3) := by decide +kernel
theorem dX8_escapes_17 : decode cX8_escapes 17 = .ok (.ifCond .eq 7, 3) := by decide +kernel
theorem dX8_escapes_20 : decode cX8_escapes 20 = .ok (.iconst 1, 1) := by decide +kernel
theorem dX8_escapes_21 : decode cX8_escapes 21 = .ok (.goto 4, 3) := by decide +kernel
theorem dX8_escapes_24 : decode cX8_escapes 24 = .ok (.iconst 0, 1) := by decide +kernel
theorem dX8_escapes_25 : decode cX8_escapes 25 = .ok (.ireturn, 1) := by decide +kernel
theorem dX8_partitionCount_0 : decode cX8_partitionCount 0 = .ok (.aload_n 0, 1) := by decide +kernel
theorem dX8_partitionCount_1 : decode cX8_partitionCount 1 = .ok (.iload_n 1, 1) := by decide +kernel
theorem dX8_partitionCount_2 : decode cX8_partitionCount 2 = .ok (.invokevirtual 52, 3) := by decide +kernel
theorem dX8_partitionCount_5 : decode cX8_partitionCount 5 = .ok (.ifCond .ne 5, 3) := by decide +kernel
theorem dX8_partitionCount_8 : decode cX8_partitionCount 8 = .ok (.iconst (-1), 1) := by decide +kernel
theorem dX8_partitionCount_9 : decode cX8_partitionCount 9 = .ok (.ireturn, 1) := by decide +kernel
theorem dX8_partitionCount_10 : decode cX8_partitionCount 10 = .ok (.aload_n 0, 1) := by decide +kernel
theorem dX8_partitionCount_11 : decode cX8_partitionCount 11 = .ok (.iload_n 1, 1) := by decide +kernel
theorem dX8_partitionCount_12 : decode cX8_partitionCount 12 = .ok (.invokevirtual 106, 3) := by decide +kernel
theorem dX8_partitionCount_15 : decode cX8_partitionCount 15 = .ok (.aload_n 0, 1) := by decide +kernel
theorem dX8_partitionCount_16 : decode cX8_partitionCount 16 = .ok (.getfield 25, 3) := by decide +kernel
theorem dX8_partitionCount_19 : decode cX8_partitionCount 19 = .ok (.iload_n 1, 1) := by decide +kernel
theorem dX8_partitionCount_20 : decode cX8_partitionCount 20 = .ok (.iaload, 1) := by decide +kernel
theorem dX8_partitionCount_21 : decode cX8_partitionCount 21 = .ok (.ireturn, 1) := by decide +kernel
theorem dX8_isPart_0 : decode cX8_isPart 0 = .ok (.aload_n 0, 1) := by decide +kernel
theorem dX8_isPart_1 : decode cX8_isPart 1 = .ok (.iload_n 1, 1) := by decide +kernel
theorem dX8_isPart_2 : decode cX8_isPart 2 = .ok (.invokevirtual 52, 3) := by decide +kernel
theorem dX8_isPart_5 : decode cX8_isPart 5 = .ok (.ifCond .ne 5, 3) := by decide +kernel
theorem dX8_isPart_8 : decode cX8_isPart 8 = .ok (.iconst 0, 1) := by decide +kernel
theorem dX8_isPart_9 : decode cX8_isPart 9 = .ok (.ireturn, 1) := by decide +kernel
theorem dX8_isPart_10 : decode cX8_isPart 10 = .ok (.aload_n 0, 1) := by decide +kernel
theorem dX8_isPart_11 : decode cX8_isPart 11 = .ok (.invokevirtual 138, 3) := by decide +kernel
theorem dX8_isPart_14 : decode cX8_isPart 14 = .ok (.iload_n 2, 1) := by decide +kernel
theorem dX8_isPart_15 : decode cX8_isPart 15 = .ok (.iconst 0, 1) := by decide +kernel
theorem dX8_isPart_16 : decode cX8_isPart 16 = .ok (.aload_n 0, 1) := by decide +kernel
theorem dX8_isPart_17 : decode cX8_isPart 17 = .ok (.getfield 25, 3) := by decide +kernel
theorem dX8_isPart_20 : decode cX8_isPart 20 = .ok (.iload_n 1, 1) := by decide +kernel
theorem dX8_isPart_21 : decode cX8_isPart 21 = .ok (.iaload, 1) := by decide +kernel
theorem dX8_isPart_22 : decode cX8_isPart 22 = .ok (.iconst 1, 1) := by decide +kernel
theorem dX8_isPart_23 : decode cX8_isPart 23 = .ok (.isub, 1) := by decide +kernel
theorem dX8_isPart_24 : decode cX8_isPart 24 = .ok (.invokestatic 48, 3) := by decide +kernel
theorem dX8_isPart_27 : decode cX8_isPart 27 = .ok (.ireturn, 1) := by decide +kernel
theorem dX8_partitionStart_0 : decode cX8_partitionStart 0 = .ok (.aload_n 0, 1) := by decide +kernel
theorem dX8_partitionStart_1 : decode cX8_partitionStart 1 = .ok (.iload_n 1, 1) := by decide +kernel
theorem dX8_partitionStart_2 : decode cX8_partitionStart 2 = .ok (.iload_n 2, 1) := by decide +kernel
theorem dX8_partitionStart_3 : decode cX8_partitionStart 3 = .ok (.invokevirtual 141, 3) := by decide +kernel
theorem dX8_partitionStart_6 : decode cX8_partitionStart 6 = .ok (.ifCond .eq 17, 3) := by decide +kernel
theorem dX8_partitionStart_9 : decode cX8_partitionStart 9 = .ok (.aload_n 0, 1) := by decide +kernel
theorem dX8_partitionStart_10 : decode cX8_partitionStart 10 = .ok (.getfield 19, 3) := by decide +kernel
theorem dX8_partitionStart_13 : decode cX8_partitionStart 13 = .ok (.bipush 16, 2) := by decide +kernel
theorem dX8_partitionStart_15 : decode cX8_partitionStart 15 = .ok (.iload_n 1, 1) := by decide +kernel
theorem dX8_partitionStart_16 : decode cX8_partitionStart 16 = .ok (.imul, 1) := by decide +kernel
theorem dX8_partitionStart_17 : decode cX8_partitionStart 17 = .ok (.iload_n 2, 1) := by decide +kernel
theorem dX8_partitionStart_18 : decode cX8_partitionStart 18 = .ok (.iadd, 1) := by decide +kernel
theorem dX8_partitionStart_19 : decode cX8_partitionStart 19 = .ok (.iaload, 1) := by decide +kernel
theorem dX8_partitionStart_20 : decode cX8_partitionStart 20 = .ok (.goto 4, 3) := by decide +kernel
theorem dX8_partitionStart_23 : decode cX8_partitionStart 23 = .ok (.iconst (-1), 1) := by decide +kernel
theorem dX8_partitionStart_24 : decode cX8_partitionStart 24 = .ok (.ireturn, 1) := by decide +kernel
theorem dX8_partitionLength_0 : decode cX8_partitionLength 0 = .ok (.aload_n 0, 1) := by decide +kernel
theorem dX8_partitionLength_1 : decode cX8_partitionLength 1 = .ok (.iload_n 1, 1) := by decide +kernel
theorem dX8_partitionLength_2 : decode cX8_partitionLength 2 = .ok (.iload_n 2, 1) := by decide +kernel
theorem dX8_partitionLength_3 : decode cX8_partitionLength 3 = .ok (.invokevirtual 141, 3) := by decide +kernel
theorem dX8_partitionLength_6 : decode cX8_partitionLength 6 = .ok (.ifCond .eq 17, 3) := by decide +kernel
theorem dX8_partitionLength_9 : decode cX8_partitionLength 9 = .ok (.aload_n 0, 1) := by decide +kernel
theorem dX8_partitionLength_10 : decode cX8_partitionLength 10 = .ok (.getfield 22, 3) := by decide +kernel
theorem dX8_partitionLength_13 : decode cX8_partitionLength 13 = .ok (.bipush 16, 2) := by decide +kernel
theorem dX8_partitionLength_15 : decode cX8_partitionLength 15 = .ok (.iload_n 1, 1) := by decide +kernel
theorem dX8_partitionLength_16 : decode cX8_partitionLength 16 = .ok (.imul, 1) := by decide +kernel
theorem dX8_partitionLength_17 : decode cX8_partitionLength 17 = .ok (.iload_n 2, 1) := by decide +kernel
theorem dX8_partitionLength_18 : decode cX8_partitionLength 18 = .ok (.iadd, 1) := by decide +kernel
theorem dX8_partitionLength_19 : decode cX8_partitionLength 19 = .ok (.iaload, 1) := by decide +kernel
theorem dX8_partitionLength_20 : decode cX8_partitionLength 20 = .ok (.goto 4, 3) := by decide +kernel
theorem dX8_partitionLength_23 : decode cX8_partitionLength 23 = .ok (.iconst (-1), 1) := by decide +kernel
theorem dX8_partitionLength_24 : decode cX8_partitionLength 24 = .ok (.ireturn, 1) := by decide +kernel
theorem dX8_isPromotable_0 : decode cX8_isPromotable 0 = .ok (.aload_n 0, 1) := by decide +kernel
theorem dX8_isPromotable_1 : decode cX8_isPromotable 1 = .ok (.iload_n 1, 1) := by decide +kernel
theorem dX8_isPromotable_2 : decode cX8_isPromotable 2 = .ok (.iload_n 2, 1) := by decide +kernel
theorem dX8_isPromotable_3 : decode cX8_isPromotable 3 = .ok (.invokevirtual 141, 3) := by decide +kernel
theorem dX8_isPromotable_6 : decode cX8_isPromotable 6 = .ok (.ifCond .ne 7, 3) := by decide +kernel
theorem dX8_isPromotable_9 : decode cX8_isPromotable 9 = .ok (.iconst (-1), 1) := by decide +kernel
theorem dX8_isPromotable_10 : decode cX8_isPromotable 10 = .ok (.goto 22, 3) := by decide +kernel
theorem dX8_isPromotable_13 : decode cX8_isPromotable 13 = .ok (.aload_n 0, 1) := by decide +kernel
theorem dX8_isPromotable_14 : decode cX8_isPromotable 14 = .ok (.getfield 28, 3) := by decide +kernel
theorem dX8_isPromotable_17 : decode cX8_isPromotable 17 = .ok (.bipush 16, 2) := by decide +kernel
theorem dX8_isPromotable_19 : decode cX8_isPromotable 19 = .ok (.iload_n 1, 1) := by decide +kernel
theorem dX8_isPromotable_20 : decode cX8_isPromotable 20 = .ok (.imul, 1) := by decide +kernel
theorem dX8_isPromotable_21 : decode cX8_isPromotable 21 = .ok (.iload_n 2, 1) := by decide +kernel
theorem dX8_isPromotable_22 : decode cX8_isPromotable 22 = .ok (.iadd, 1) := by decide +kernel
theorem dX8_isPromotable_23 : decode cX8_isPromotable 23 = .ok (.baload, 1) := by decide +kernel
theorem dX8_isPromotable_24 : decode cX8_isPromotable 24 = .ok (.ifCond .eq 7, 3) := by decide +kernel
theorem dX8_isPromotable_27 : decode cX8_isPromotable 27 = .ok (.iconst 1, 1) := by decide +kernel
theorem dX8_isPromotable_28 : decode cX8_isPromotable 28 = .ok (.goto 4, 3) := by decide +kernel
theorem dX8_isPromotable_31 : decode cX8_isPromotable 31 = .ok (.iconst 0, 1) := by decide +kernel
theorem dX8_isPromotable_32 : decode cX8_isPromotable 32 = .ok (.ireturn, 1) := by decide +kernel
theorem dX8_isLive_0 : decode cX8_isLive 0 = .ok (.aload_n 0, 1) := by decide +kernel
theorem dX8_isLive_1 : decode cX8_isLive 1 = .ok (.iload_n 1, 1) := by decide +kernel
theorem dX8_isLive_2 : decode cX8_isLive 2 = .ok (.iload_n 2, 1) := by decide +kernel
theorem dX8_isLive_3 : decode cX8_isLive 3 = .ok (.invokevirtual 141, 3) := by decide +kernel
theorem dX8_isLive_6 : decode cX8_isLive 6 = .ok (.ifCond .ne 7, 3) := by decide +kernel
theorem dX8_isLive_9 : decode cX8_isLive 9 = .ok (.iconst (-1), 1) := by decide +kernel
theorem dX8_isLive_10 : decode cX8_isLive 10 = .ok (.goto 22, 3) := by decide +kernel
theorem dX8_isLive_13 : decode cX8_isLive 13 = .ok (.aload_n 0, 1) := by decide +kernel
theorem dX8_isLive_14 : decode cX8_isLive 14 = .ok (.getfield 32, 3) := by decide +kernel
theorem dX8_isLive_17 : decode cX8_isLive 17 = .ok (.bipush 16, 2) := by decide +kernel
theorem dX8_isLive_19 : decode cX8_isLive 19 = .ok (.iload_n 1, 1) := by decide +kernel
theorem dX8_isLive_20 : decode cX8_isLive 20 = .ok (.imul, 1) := by decide +kernel
theorem dX8_isLive_21 : decode cX8_isLive 21 = .ok (.iload_n 2, 1) := by decide +kernel
theorem dX8_isLive_22 : decode cX8_isLive 22 = .ok (.iadd, 1) := by decide +kernel
theorem dX8_isLive_23 : decode cX8_isLive 23 = .ok (.baload, 1) := by decide +kernel
theorem dX8_isLive_24 : decode cX8_isLive 24 = .ok (.ifCond .eq 7, 3) := by decide +kernel
theorem dX8_isLive_27 : decode cX8_isLive 27 = .ok (.iconst 1, 1) := by decide +kernel
theorem dX8_isLive_28 : decode cX8_isLive 28 = .ok (.goto 4, 3) := by decide +kernel
theorem dX8_isLive_31 : decode cX8_isLive 31 = .ok (.iconst 0, 1) := by decide +kernel
theorem dX8_isLive_32 : decode cX8_isLive 32 = .ok (.ireturn, 1) := by decide +kernel
theorem dX8_paddingBytes_0 : decode cX8_paddingBytes 0 = .ok (.aload_n 0, 1) := by decide +kernel
theorem dX8_paddingBytes_1 : decode cX8_paddingBytes 1 = .ok (.iload_n 1, 1) := by decide +kernel
theorem dX8_paddingBytes_2 : decode cX8_paddingBytes 2 = .ok (.invokevirtual 52, 3) := by decide +kernel
theorem dX8_paddingBytes_5 : decode cX8_paddingBytes 5 = .ok (.ifCond .ne 5, 3) := by decide +kernel
theorem dX8_paddingBytes_8 : decode cX8_paddingBytes 8 = .ok (.iconst (-1), 1) := by decide +kernel
theorem dX8_paddingBytes_9 : decode cX8_paddingBytes 9 = .ok (.ireturn, 1) := by decide +kernel
theorem dX8_paddingBytes_10 : decode cX8_paddingBytes 10 = .ok (.iconst 0, 1) := by decide +kernel
theorem dX8_paddingBytes_11 : decode cX8_paddingBytes 11 = .ok (.istore_n 2, 1) := by decide +kernel
theorem dX8_paddingBytes_12 : decode cX8_paddingBytes 12 = .ok (.iconst 0, 1) := by decide +kernel
theorem dX8_paddingBytes_13 : decode cX8_paddingBytes 13 = .ok (.istore_n 3, 1) := by decide +kernel
theorem dX8_paddingBytes_14 : decode cX8_paddingBytes 14 = .ok (.iload_n 3, 1) := by decide +kernel
theorem dX8_paddingBytes_15 : decode cX8_paddingBytes 15 = .ok (.aload_n 0, 1) := by decide +kernel
theorem dX8_paddingBytes_16 : decode cX8_paddingBytes 16 = .ok (.getfield 7, 3) := by decide +kernel
theorem dX8_paddingBytes_19 : decode cX8_paddingBytes 19 = .ok (.iconst 1, 1) := by decide +kernel
theorem dX8_paddingBytes_20 : decode cX8_paddingBytes 20 = .ok (.iload_n 1, 1) := by decide +kernel
theorem dX8_paddingBytes_21 : decode cX8_paddingBytes 21 = .ok (.iadd, 1) := by decide +kernel
theorem dX8_paddingBytes_22 : decode cX8_paddingBytes 22 = .ok (.iaload, 1) := by decide +kernel
theorem dX8_paddingBytes_23 : decode cX8_paddingBytes 23 = .ok (.if_icmp .ge 26, 3) := by decide +kernel
theorem dX8_paddingBytes_26 : decode cX8_paddingBytes 26 = .ok (.iload_n 2, 1) := by decide +kernel
theorem dX8_paddingBytes_27 : decode cX8_paddingBytes 27 = .ok (.aload_n 0, 1) := by decide +kernel
theorem dX8_paddingBytes_28 : decode cX8_paddingBytes 28 = .ok (.iload_n 1, 1) := by decide +kernel
theorem dX8_paddingBytes_29 : decode cX8_paddingBytes 29 = .ok (.iload_n 3, 1) := by decide +kernel
theorem dX8_paddingBytes_30 : decode cX8_paddingBytes 30 = .ok (.invokevirtual 100, 3) := by decide +kernel
theorem dX8_paddingBytes_33 : decode cX8_paddingBytes 33 = .ok (.ifCond .eq 7, 3) := by decide +kernel
theorem dX8_paddingBytes_36 : decode cX8_paddingBytes 36 = .ok (.iconst 0, 1) := by decide +kernel
theorem dX8_paddingBytes_37 : decode cX8_paddingBytes 37 = .ok (.goto 4, 3) := by decide +kernel
theorem dX8_paddingBytes_40 : decode cX8_paddingBytes 40 = .ok (.iconst 1, 1) := by decide +kernel
theorem dX8_paddingBytes_41 : decode cX8_paddingBytes 41 = .ok (.iadd, 1) := by decide +kernel
theorem dX8_paddingBytes_42 : decode cX8_paddingBytes 42 = .ok (.istore_n 2, 1) := by decide +kernel
theorem dX8_paddingBytes_43 : decode cX8_paddingBytes 43 = .ok (.iinc 3 1, 3) := by decide +kernel
theorem dX8_paddingBytes_46 : decode cX8_paddingBytes 46 = .ok (.goto (-32), 3) := by decide +kernel
theorem dX8_paddingBytes_49 : decode cX8_paddingBytes 49 = .ok (.iload_n 2, 1) := by decide +kernel
theorem dX8_paddingBytes_50 : decode cX8_paddingBytes 50 = .ok (.ireturn, 1) := by decide +kernel
theorem dX8_isCopy_0 : decode cX8_isCopy 0 = .ok (.iload_n 1, 1) := by decide +kernel
theorem dX8_isCopy_1 : decode cX8_isCopy 1 = .ok (.iconst 0, 1) := by decide +kernel
theorem dX8_isCopy_2 : decode cX8_isCopy 2 = .ok (.aload_n 0, 1) := by decide +kernel
theorem dX8_isCopy_3 : decode cX8_isCopy 3 = .ok (.getfield 7, 3) := by decide +kernel
theorem dX8_isCopy_6 : decode cX8_isCopy 6 = .ok (.iconst 5, 1) := by decide +kernel
theorem dX8_isCopy_7 : decode cX8_isCopy 7 = .ok (.iaload, 1) := by decide +kernel
theorem dX8_isCopy_8 : decode cX8_isCopy 8 = .ok (.iconst 1, 1) := by decide +kernel
theorem dX8_isCopy_9 : decode cX8_isCopy 9 = .ok (.isub, 1) := by decide +kernel
theorem dX8_isCopy_10 : decode cX8_isCopy 10 = .ok (.invokestatic 48, 3) := by decide +kernel
theorem dX8_isCopy_13 : decode cX8_isCopy 13 = .ok (.ifCond .eq 17, 3) := by decide +kernel
theorem dX8_isCopy_16 : decode cX8_isCopy 16 = .ok (.aload_n 0, 1) := by decide +kernel
theorem dX8_isCopy_17 : decode cX8_isCopy 17 = .ok (.iload_n 1, 1) := by decide +kernel
theorem dX8_isCopy_18 : decode cX8_isCopy 18 = .ok (.iconst 0, 1) := by decide +kernel
theorem dX8_isCopy_19 : decode cX8_isCopy 19 = .ok (.invokevirtual 72, 3) := by decide +kernel
theorem dX8_isCopy_22 : decode cX8_isCopy 22 = .ok (.iconst 3, 1) := by decide +kernel
theorem dX8_isCopy_23 : decode cX8_isCopy 23 = .ok (.if_icmp .ne 7, 3) := by decide +kernel
theorem dX8_isCopy_26 : decode cX8_isCopy 26 = .ok (.iconst 1, 1) := by decide +kernel
theorem dX8_isCopy_27 : decode cX8_isCopy 27 = .ok (.goto 4, 3) := by decide +kernel
theorem dX8_isCopy_30 : decode cX8_isCopy 30 = .ok (.iconst 0, 1) := by decide +kernel
theorem dX8_isCopy_31 : decode cX8_isCopy 31 = .ok (.ireturn, 1) := by decide +kernel
theorem dX8_pieceCount_0 : decode cX8_pieceCount 0 = .ok (.aload_n 0, 1) := by decide +kernel
theorem dX8_pieceCount_1 : decode cX8_pieceCount 1 = .ok (.iload_n 1, 1) := by decide +kernel
theorem dX8_pieceCount_2 : decode cX8_pieceCount 2 = .ok (.invokevirtual 144, 3) := by decide +kernel
theorem dX8_pieceCount_5 : decode cX8_pieceCount 5 = .ok (.ifCond .ne 5, 3) := by decide +kernel
theorem dX8_pieceCount_8 : decode cX8_pieceCount 8 = .ok (.iconst (-1), 1) := by decide +kernel
theorem dX8_pieceCount_9 : decode cX8_pieceCount 9 = .ok (.ireturn, 1) := by decide +kernel
theorem dX8_pieceCount_10 : decode cX8_pieceCount 10 = .ok (.aload_n 0, 1) := by decide +kernel
theorem dX8_pieceCount_11 : decode cX8_pieceCount 11 = .ok (.invokevirtual 129, 3) := by decide +kernel
theorem dX8_pieceCount_14 : decode cX8_pieceCount 14 = .ok (.iconst 0, 1) := by decide +kernel
theorem dX8_pieceCount_15 : decode cX8_pieceCount 15 = .ok (.istore_n 2, 1) := by decide +kernel
theorem dX8_pieceCount_16 : decode cX8_pieceCount 16 = .ok (.iconst 0, 1) := by decide +kernel
theorem dX8_pieceCount_17 : decode cX8_pieceCount 17 = .ok (.istore_n 3, 1) := by decide +kernel
theorem dX8_pieceCount_18 : decode cX8_pieceCount 18 = .ok (.iload_n 3, 1) := by decide +kernel
theorem dX8_pieceCount_19 : decode cX8_pieceCount 19 = .ok (.aload_n 0, 1) := by decide +kernel
theorem dX8_pieceCount_20 : decode cX8_pieceCount 20 = .ok (.iload_n 1, 1) := by decide +kernel
theorem dX8_pieceCount_21 : decode cX8_pieceCount 21 = .ok (.iconst 5, 1) := by decide +kernel
theorem dX8_pieceCount_22 : decode cX8_pieceCount 22 = .ok (.invokevirtual 72, 3) := by decide +kernel
theorem dX8_pieceCount_25 : decode cX8_pieceCount 25 = .ok (.if_icmp .ge 18, 3) := by decide +kernel
theorem dX8_pieceCount_28 : decode cX8_pieceCount 28 = .ok (.iload_n 3, 1) := by decide +kernel
theorem dX8_pieceCount_29 : decode cX8_pieceCount 29 = .ok (.aload_n 0, 1) := by decide +kernel
theorem dX8_pieceCount_30 : decode cX8_pieceCount 30 = .ok (.iload_n 1, 1) := by decide +kernel
theorem dX8_pieceCount_31 : decode cX8_pieceCount 31 = .ok (.iload_n 3, 1) := by decide +kernel
theorem dX8_pieceCount_32 : decode cX8_pieceCount 32 = .ok (.invokevirtual 116, 3) := by decide +kernel
theorem dX8_pieceCount_35 : decode cX8_pieceCount 35 = .ok (.iadd, 1) := by decide +kernel
theorem dX8_pieceCount_36 : decode cX8_pieceCount 36 = .ok (.istore_n 3, 1) := by decide +kernel
theorem dX8_pieceCount_37 : decode cX8_pieceCount 37 = .ok (.iinc 2 1, 3) := by decide +kernel
theorem dX8_pieceCount_40 : decode cX8_pieceCount 40 = .ok (.goto (-22), 3) := by decide +kernel
theorem dX8_pieceCount_43 : decode cX8_pieceCount 43 = .ok (.iload_n 2, 1) := by decide +kernel
theorem dX8_pieceCount_44 : decode cX8_pieceCount 44 = .ok (.ireturn, 1) := by decide +kernel
theorem dX8_pieceLength_0 : decode cX8_pieceLength 0 = .ok (.aload_n 0, 1) := by decide +kernel
theorem dX8_pieceLength_1 : decode cX8_pieceLength 1 = .ok (.iload_n 1, 1) := by decide +kernel
theorem dX8_pieceLength_2 : decode cX8_pieceLength 2 = .ok (.invokevirtual 144, 3) := by decide +kernel
theorem dX8_pieceLength_5 : decode cX8_pieceLength 5 = .ok (.ifCond .eq 7, 3) := by decide +kernel
theorem dX8_pieceLength_8 : decode cX8_pieceLength 8 = .ok (.iload_n 2, 1) := by decide +kernel
theorem dX8_pieceLength_9 : decode cX8_pieceLength 9 = .ok (.ifCond .ge 5, 3) := by decide +kernel
theorem dX8_pieceLength_12 : decode cX8_pieceLength 12 = .ok (.iconst (-1), 1) := by decide +kernel
theorem dX8_pieceLength_13 : decode cX8_pieceLength 13 = .ok (.ireturn, 1) := by decide +kernel
theorem dX8_pieceLength_14 : decode cX8_pieceLength 14 = .ok (.aload_n 0, 1) := by decide +kernel
theorem dX8_pieceLength_15 : decode cX8_pieceLength 15 = .ok (.invokevirtual 129, 3) := by decide +kernel
theorem dX8_pieceLength_18 : decode cX8_pieceLength 18 = .ok (.iload_n 2, 1) := by decide +kernel
theorem dX8_pieceLength_19 : decode cX8_pieceLength 19 = .ok (.istore_n 3, 1) := by decide +kernel
theorem dX8_pieceLength_20 : decode cX8_pieceLength 20 = .ok (.iconst 0, 1) := by decide +kernel
theorem dX8_pieceLength_21 : decode cX8_pieceLength 21 = .ok (.istore 4, 2) := by decide +kernel
theorem dX8_pieceLength_23 : decode cX8_pieceLength 23 = .ok (.iload 4, 2) := by decide +kernel
theorem dX8_pieceLength_25 : decode cX8_pieceLength 25 = .ok (.aload_n 0, 1) := by decide +kernel
theorem dX8_pieceLength_26 : decode cX8_pieceLength 26 = .ok (.iload_n 1, 1) := by decide +kernel
theorem dX8_pieceLength_27 : decode cX8_pieceLength 27 = .ok (.iconst 5, 1) := by decide +kernel
theorem dX8_pieceLength_28 : decode cX8_pieceLength 28 = .ok (.invokevirtual 72, 3) := by decide +kernel
theorem dX8_pieceLength_31 : decode cX8_pieceLength 31 = .ok (.if_icmp .ge 32, 3) := by decide +kernel
theorem dX8_pieceLength_34 : decode cX8_pieceLength 34 = .ok (.aload_n 0, 1) := by decide +kernel
theorem dX8_pieceLength_35 : decode cX8_pieceLength 35 = .ok (.iload_n 1, 1) := by decide +kernel
theorem dX8_pieceLength_36 : decode cX8_pieceLength 36 = .ok (.iload 4, 2) := by decide +kernel
theorem dX8_pieceLength_38 : decode cX8_pieceLength 38 = .ok (.invokevirtual 116, 3) := by decide +kernel
theorem dX8_pieceLength_41 : decode cX8_pieceLength 41 = .ok (.istore 5, 2) := by decide +kernel
theorem dX8_pieceLength_43 : decode cX8_pieceLength 43 = .ok (.iload_n 3, 1) := by decide +kernel
theorem dX8_pieceLength_44 : decode cX8_pieceLength 44 = .ok (.ifCond .ne 6, 3) := by decide +kernel
theorem dX8_pieceLength_47 : decode cX8_pieceLength 47 = .ok (.iload 5, 2) := by decide +kernel
theorem dX8_pieceLength_49 : decode cX8_pieceLength 49 = .ok (.ireturn, 1) := by decide +kernel
theorem dX8_pieceLength_50 : decode cX8_pieceLength 50 = .ok (.iinc 3 (-1), 3) := by decide +kernel
theorem dX8_pieceLength_53 : decode cX8_pieceLength 53 = .ok (.iload 4, 2) := by decide +kernel
theorem dX8_pieceLength_55 : decode cX8_pieceLength 55 = .ok (.iload 5, 2) := by decide +kernel
theorem dX8_pieceLength_57 : decode cX8_pieceLength 57 = .ok (.iadd, 1) := by decide +kernel
theorem dX8_pieceLength_58 : decode cX8_pieceLength 58 = .ok (.istore 4, 2) := by decide +kernel
theorem dX8_pieceLength_60 : decode cX8_pieceLength 60 = .ok (.goto (-37), 3) := by decide +kernel
theorem dX8_pieceLength_63 : decode cX8_pieceLength 63 = .ok (.iconst (-1), 1) := by decide +kernel
theorem dX8_pieceLength_64 : decode cX8_pieceLength 64 = .ok (.ireturn, 1) := by decide +kernel
theorem dX8_scalarCount_0 : decode cX8_scalarCount 0 = .ok (.aload_n 0, 1) := by decide +kernel
theorem dX8_scalarCount_1 : decode cX8_scalarCount 1 = .ok (.invokevirtual 138, 3) := by decide +kernel
theorem dX8_scalarCount_4 : decode cX8_scalarCount 4 = .ok (.iconst 0, 1) := by decide +kernel
theorem dX8_scalarCount_5 : decode cX8_scalarCount 5 = .ok (.istore_n 1, 1) := by decide +kernel
theorem dX8_scalarCount_6 : decode cX8_scalarCount 6 = .ok (.iconst 0, 1) := by decide +kernel
theorem dX8_scalarCount_7 : decode cX8_scalarCount 7 = .ok (.istore_n 2, 1) := by decide +kernel
theorem dX8_scalarCount_8 : decode cX8_scalarCount 8 = .ok (.iload_n 2, 1) := by decide +kernel
theorem dX8_scalarCount_9 : decode cX8_scalarCount 9 = .ok (.aload_n 0, 1) := by decide +kernel
theorem dX8_scalarCount_10 : decode cX8_scalarCount 10 = .ok (.getfield 7, 3) := by decide +kernel
theorem dX8_scalarCount_13 : decode cX8_scalarCount 13 = .ok (.iconst 0, 1) := by decide +kernel
theorem dX8_scalarCount_14 : decode cX8_scalarCount 14 = .ok (.iaload, 1) := by decide +kernel
theorem dX8_scalarCount_15 : decode cX8_scalarCount 15 = .ok (.if_icmp .ge 63, 3) := by decide +kernel
theorem dX8_scalarCount_18 : decode cX8_scalarCount 18 = .ok (.iconst 0, 1) := by decide +kernel
theorem dX8_scalarCount_19 : decode cX8_scalarCount 19 = .ok (.istore_n 3, 1) := by decide +kernel
theorem dX8_scalarCount_20 : decode cX8_scalarCount 20 = .ok (.iload_n 3, 1) := by decide +kernel
theorem dX8_scalarCount_21 : decode cX8_scalarCount 21 = .ok (.aload_n 0, 1) := by decide +kernel
theorem dX8_scalarCount_22 : decode cX8_scalarCount 22 = .ok (.getfield 25, 3) := by decide +kernel
theorem dX8_scalarCount_25 : decode cX8_scalarCount 25 = .ok (.iload_n 2, 1) := by decide +kernel
theorem dX8_scalarCount_26 : decode cX8_scalarCount 26 = .ok (.iaload, 1) := by decide +kernel
theorem dX8_scalarCount_27 : decode cX8_scalarCount 27 = .ok (.if_icmp .ge 45, 3) := by decide +kernel
theorem dX8_scalarCount_30 : decode cX8_scalarCount 30 = .ok (.iload_n 1, 1) := by decide +kernel
theorem dX8_scalarCount_31 : decode cX8_scalarCount 31 = .ok (.aload_n 0, 1) := by decide +kernel
theorem dX8_scalarCount_32 : decode cX8_scalarCount 32 = .ok (.getfield 32, 3) := by decide +kernel
theorem dX8_scalarCount_35 : decode cX8_scalarCount 35 = .ok (.bipush 16, 2) := by decide +kernel
theorem dX8_scalarCount_37 : decode cX8_scalarCount 37 = .ok (.iload_n 2, 1) := by decide +kernel
theorem dX8_scalarCount_38 : decode cX8_scalarCount 38 = .ok (.imul, 1) := by decide +kernel
theorem dX8_scalarCount_39 : decode cX8_scalarCount 39 = .ok (.iload_n 3, 1) := by decide +kernel
theorem dX8_scalarCount_40 : decode cX8_scalarCount 40 = .ok (.iadd, 1) := by decide +kernel
theorem dX8_scalarCount_41 : decode cX8_scalarCount 41 = .ok (.baload, 1) := by decide +kernel
theorem dX8_scalarCount_42 : decode cX8_scalarCount 42 = .ok (.ifCond .eq 21, 3) := by decide +kernel
theorem dX8_scalarCount_45 : decode cX8_scalarCount 45 = .ok (.aload_n 0, 1) := by decide +kernel
theorem dX8_scalarCount_46 : decode cX8_scalarCount 46 = .ok (.getfield 28, 3) := by decide +kernel
theorem dX8_scalarCount_49 : decode cX8_scalarCount 49 = .ok (.bipush 16, 2) := by decide +kernel
theorem dX8_scalarCount_51 : decode cX8_scalarCount 51 = .ok (.iload_n 2, 1) := by decide +kernel
theorem dX8_scalarCount_52 : decode cX8_scalarCount 52 = .ok (.imul, 1) := by decide +kernel
theorem dX8_scalarCount_53 : decode cX8_scalarCount 53 = .ok (.iload_n 3, 1) := by decide +kernel
theorem dX8_scalarCount_54 : decode cX8_scalarCount 54 = .ok (.iadd, 1) := by decide +kernel
theorem dX8_scalarCount_55 : decode cX8_scalarCount 55 = .ok (.baload, 1) := by decide +kernel
theorem dX8_scalarCount_56 : decode cX8_scalarCount 56 = .ok (.ifCond .eq 7, 3) := by decide +kernel
theorem dX8_scalarCount_59 : decode cX8_scalarCount 59 = .ok (.iconst 1, 1) := by decide +kernel
theorem dX8_scalarCount_60 : decode cX8_scalarCount 60 = .ok (.goto 4, 3) := by decide +kernel
theorem dX8_scalarCount_63 : decode cX8_scalarCount 63 = .ok (.iconst 0, 1) := by decide +kernel
theorem dX8_scalarCount_64 : decode cX8_scalarCount 64 = .ok (.iadd, 1) := by decide +kernel
theorem dX8_scalarCount_65 : decode cX8_scalarCount 65 = .ok (.istore_n 1, 1) := by decide +kernel
theorem dX8_scalarCount_66 : decode cX8_scalarCount 66 = .ok (.iinc 3 1, 3) := by decide +kernel
theorem dX8_scalarCount_69 : decode cX8_scalarCount 69 = .ok (.goto (-49), 3) := by decide +kernel
theorem dX8_scalarCount_72 : decode cX8_scalarCount 72 = .ok (.iinc 2 1, 3) := by decide +kernel
theorem dX8_scalarCount_75 : decode cX8_scalarCount 75 = .ok (.goto (-67), 3) := by decide +kernel
theorem dX8_scalarCount_78 : decode cX8_scalarCount 78 = .ok (.iload_n 1, 1) := by decide +kernel
theorem dX8_scalarCount_79 : decode cX8_scalarCount 79 = .ok (.ireturn, 1) := by decide +kernel
theorem dX8_liveBytes_0 : decode cX8_liveBytes 0 = .ok (.aload_n 0, 1) := by decide +kernel
theorem dX8_liveBytes_1 : decode cX8_liveBytes 1 = .ok (.invokevirtual 138, 3) := by decide +kernel
theorem dX8_liveBytes_4 : decode cX8_liveBytes 4 = .ok (.iconst 0, 1) := by decide +kernel
theorem dX8_liveBytes_5 : decode cX8_liveBytes 5 = .ok (.istore_n 1, 1) := by decide +kernel
theorem dX8_liveBytes_6 : decode cX8_liveBytes 6 = .ok (.iconst 0, 1) := by decide +kernel
theorem dX8_liveBytes_7 : decode cX8_liveBytes 7 = .ok (.istore_n 2, 1) := by decide +kernel
theorem dX8_liveBytes_8 : decode cX8_liveBytes 8 = .ok (.iload_n 2, 1) := by decide +kernel
theorem dX8_liveBytes_9 : decode cX8_liveBytes 9 = .ok (.aload_n 0, 1) := by decide +kernel
theorem dX8_liveBytes_10 : decode cX8_liveBytes 10 = .ok (.getfield 7, 3) := by decide +kernel
theorem dX8_liveBytes_13 : decode cX8_liveBytes 13 = .ok (.iconst 0, 1) := by decide +kernel
theorem dX8_liveBytes_14 : decode cX8_liveBytes 14 = .ok (.iaload, 1) := by decide +kernel
theorem dX8_liveBytes_15 : decode cX8_liveBytes 15 = .ok (.if_icmp .ge 59, 3) := by decide +kernel
theorem dX8_liveBytes_18 : decode cX8_liveBytes 18 = .ok (.iconst 0, 1) := by decide +kernel
theorem dX8_liveBytes_19 : decode cX8_liveBytes 19 = .ok (.istore_n 3, 1) := by decide +kernel
theorem dX8_liveBytes_20 : decode cX8_liveBytes 20 = .ok (.iload_n 3, 1) := by decide +kernel
theorem dX8_liveBytes_21 : decode cX8_liveBytes 21 = .ok (.aload_n 0, 1) := by decide +kernel
theorem dX8_liveBytes_22 : decode cX8_liveBytes 22 = .ok (.getfield 25, 3) := by decide +kernel
theorem dX8_liveBytes_25 : decode cX8_liveBytes 25 = .ok (.iload_n 2, 1) := by decide +kernel
theorem dX8_liveBytes_26 : decode cX8_liveBytes 26 = .ok (.iaload, 1) := by decide +kernel
theorem dX8_liveBytes_27 : decode cX8_liveBytes 27 = .ok (.if_icmp .ge 41, 3) := by decide +kernel
theorem dX8_liveBytes_30 : decode cX8_liveBytes 30 = .ok (.iload_n 1, 1) := by decide +kernel
theorem dX8_liveBytes_31 : decode cX8_liveBytes 31 = .ok (.aload_n 0, 1) := by decide +kernel
theorem dX8_liveBytes_32 : decode cX8_liveBytes 32 = .ok (.getfield 32, 3) := by decide +kernel
theorem dX8_liveBytes_35 : decode cX8_liveBytes 35 = .ok (.bipush 16, 2) := by decide +kernel
theorem dX8_liveBytes_37 : decode cX8_liveBytes 37 = .ok (.iload_n 2, 1) := by decide +kernel
theorem dX8_liveBytes_38 : decode cX8_liveBytes 38 = .ok (.imul, 1) := by decide +kernel
theorem dX8_liveBytes_39 : decode cX8_liveBytes 39 = .ok (.iload_n 3, 1) := by decide +kernel
theorem dX8_liveBytes_40 : decode cX8_liveBytes 40 = .ok (.iadd, 1) := by decide +kernel
theorem dX8_liveBytes_41 : decode cX8_liveBytes 41 = .ok (.baload, 1) := by decide +kernel
theorem dX8_liveBytes_42 : decode cX8_liveBytes 42 = .ok (.ifCond .eq 17, 3) := by decide +kernel
theorem dX8_liveBytes_45 : decode cX8_liveBytes 45 = .ok (.aload_n 0, 1) := by decide +kernel
theorem dX8_liveBytes_46 : decode cX8_liveBytes 46 = .ok (.getfield 22, 3) := by decide +kernel
theorem dX8_liveBytes_49 : decode cX8_liveBytes 49 = .ok (.bipush 16, 2) := by decide +kernel
theorem dX8_liveBytes_51 : decode cX8_liveBytes 51 = .ok (.iload_n 2, 1) := by decide +kernel
theorem dX8_liveBytes_52 : decode cX8_liveBytes 52 = .ok (.imul, 1) := by decide +kernel
theorem dX8_liveBytes_53 : decode cX8_liveBytes 53 = .ok (.iload_n 3, 1) := by decide +kernel
theorem dX8_liveBytes_54 : decode cX8_liveBytes 54 = .ok (.iadd, 1) := by decide +kernel
theorem dX8_liveBytes_55 : decode cX8_liveBytes 55 = .ok (.iaload, 1) := by decide +kernel
theorem dX8_liveBytes_56 : decode cX8_liveBytes 56 = .ok (.goto 4, 3) := by decide +kernel
theorem dX8_liveBytes_59 : decode cX8_liveBytes 59 = .ok (.iconst 0, 1) := by decide +kernel
theorem dX8_liveBytes_60 : decode cX8_liveBytes 60 = .ok (.iadd, 1) := by decide +kernel
theorem dX8_liveBytes_61 : decode cX8_liveBytes 61 = .ok (.istore_n 1, 1) := by decide +kernel
theorem dX8_liveBytes_62 : decode cX8_liveBytes 62 = .ok (.iinc 3 1, 3) := by decide +kernel
theorem dX8_liveBytes_65 : decode cX8_liveBytes 65 = .ok (.goto (-45), 3) := by decide +kernel
theorem dX8_liveBytes_68 : decode cX8_liveBytes 68 = .ok (.iinc 2 1, 3) := by decide +kernel
theorem dX8_liveBytes_71 : decode cX8_liveBytes 71 = .ok (.goto (-63), 3) := by decide +kernel
theorem dX8_liveBytes_74 : decode cX8_liveBytes 74 = .ok (.iload_n 1, 1) := by decide +kernel
theorem dX8_liveBytes_75 : decode cX8_liveBytes 75 = .ok (.ireturn, 1) := by decide +kernel
theorem dX8_store_0 : decode cX8_store 0 = .ok (.iconst 0, 1) := by decide +kernel
theorem dX8_store_1 : decode cX8_store 1 = .ok (.istore_n 2, 1) := by decide +kernel
theorem dX8_store_2 : decode cX8_store 2 = .ok (.iload_n 2, 1) := by decide +kernel
theorem dX8_store_3 : decode cX8_store 3 = .ok (.aload_n 0, 1) := by decide +kernel
theorem dX8_store_4 : decode cX8_store 4 = .ok (.iload_n 1, 1) := by decide +kernel
theorem dX8_store_5 : decode cX8_store 5 = .ok (.iconst 3, 1) := by decide +kernel
theorem dX8_store_6 : decode cX8_store 6 = .ok (.invokevirtual 72, 3) := by decide +kernel
theorem dX8_store_9 : decode cX8_store 9 = .ok (.if_icmp .ge 52, 3) := by decide +kernel
theorem dX8_store_12 : decode cX8_store 12 = .ok (.aload_n 0, 1) := by decide +kernel
theorem dX8_store_13 : decode cX8_store 13 = .ok (.getfield 35, 3) := by decide +kernel
theorem dX8_store_16 : decode cX8_store 16 = .ok (.bipush 16, 2) := by decide +kernel
theorem dX8_store_18 : decode cX8_store 18 = .ok (.aload_n 0, 1) := by decide +kernel
theorem dX8_store_19 : decode cX8_store 19 = .ok (.iload_n 1, 1) := by decide +kernel
theorem dX8_store_20 : decode cX8_store 20 = .ok (.iconst 1, 1) := by decide +kernel
theorem dX8_store_21 : decode cX8_store 21 = .ok (.invokevirtual 72, 3) := by decide +kernel
theorem dX8_store_24 : decode cX8_store 24 = .ok (.imul, 1) := by decide +kernel
theorem dX8_store_25 : decode cX8_store 25 = .ok (.aload_n 0, 1) := by decide +kernel
theorem dX8_store_26 : decode cX8_store 26 = .ok (.iload_n 1, 1) := by decide +kernel
theorem dX8_store_27 : decode cX8_store 27 = .ok (.iconst 2, 1) := by decide +kernel
theorem dX8_store_28 : decode cX8_store 28 = .ok (.invokevirtual 72, 3) := by decide +kernel
theorem dX8_store_31 : decode cX8_store 31 = .ok (.iadd, 1) := by decide +kernel
theorem dX8_store_32 : decode cX8_store 32 = .ok (.iload_n 2, 1) := by decide +kernel
theorem dX8_store_33 : decode cX8_store 33 = .ok (.iadd, 1) := by decide +kernel
theorem dX8_store_34 : decode cX8_store 34 = .ok (.aload_n 0, 1) := by decide +kernel
theorem dX8_store_35 : decode cX8_store 35 = .ok (.getfield 38, 3) := by decide +kernel
theorem dX8_store_38 : decode cX8_store 38 = .ok (.aload_n 0, 1) := by decide +kernel
theorem dX8_store_39 : decode cX8_store 39 = .ok (.iload_n 1, 1) := by decide +kernel
theorem dX8_store_40 : decode cX8_store 40 = .ok (.iconst 4, 1) := by decide +kernel
theorem dX8_store_41 : decode cX8_store 41 = .ok (.invokevirtual 72, 3) := by decide +kernel
theorem dX8_store_44 : decode cX8_store 44 = .ok (.iaload, 1) := by decide +kernel
theorem dX8_store_45 : decode cX8_store 45 = .ok (.bipush 8, 2) := by decide +kernel
theorem dX8_store_47 : decode cX8_store 47 = .ok (.iload_n 2, 1) := by decide +kernel
theorem dX8_store_48 : decode cX8_store 48 = .ok (.imul, 1) := by decide +kernel
theorem dX8_store_49 : decode cX8_store 49 = .ok (.ishr, 1) := by decide +kernel
theorem dX8_store_50 : decode cX8_store 50 = .ok (.sipush 255, 3) := by decide +kernel
theorem dX8_store_53 : decode cX8_store 53 = .ok (.iand, 1) := by decide +kernel
theorem dX8_store_54 : decode cX8_store 54 = .ok (.iastore, 1) := by decide +kernel
theorem dX8_store_55 : decode cX8_store 55 = .ok (.iinc 2 1, 3) := by decide +kernel
theorem dX8_store_58 : decode cX8_store 58 = .ok (.goto (-56), 3) := by decide +kernel
theorem dX8_store_61 : decode cX8_store 61 = .ok (.return_, 1) := by decide +kernel
theorem dX8_load_0 : decode cX8_load 0 = .ok (.iconst 0, 1) := by decide +kernel
theorem dX8_load_1 : decode cX8_load 1 = .ok (.istore_n 2, 1) := by decide +kernel
theorem dX8_load_2 : decode cX8_load 2 = .ok (.iconst 0, 1) := by decide +kernel
theorem dX8_load_3 : decode cX8_load 3 = .ok (.istore_n 3, 1) := by decide +kernel
theorem dX8_load_4 : decode cX8_load 4 = .ok (.iload_n 3, 1) := by decide +kernel
theorem dX8_load_5 : decode cX8_load 5 = .ok (.aload_n 0, 1) := by decide +kernel
theorem dX8_load_6 : decode cX8_load 6 = .ok (.iload_n 1, 1) := by decide +kernel
theorem dX8_load_7 : decode cX8_load 7 = .ok (.iconst 3, 1) := by decide +kernel
theorem dX8_load_8 : decode cX8_load 8 = .ok (.invokevirtual 72, 3) := by decide +kernel
theorem dX8_load_11 : decode cX8_load 11 = .ok (.if_icmp .ge 40, 3) := by decide +kernel
theorem dX8_load_14 : decode cX8_load 14 = .ok (.iload_n 2, 1) := by decide +kernel
theorem dX8_load_15 : decode cX8_load 15 = .ok (.aload_n 0, 1) := by decide +kernel
theorem dX8_load_16 : decode cX8_load 16 = .ok (.getfield 35, 3) := by decide +kernel
theorem dX8_load_19 : decode cX8_load 19 = .ok (.bipush 16, 2) := by decide +kernel
theorem dX8_load_21 : decode cX8_load 21 = .ok (.aload_n 0, 1) := by decide +kernel
theorem dX8_load_22 : decode cX8_load 22 = .ok (.iload_n 1, 1) := by decide +kernel
theorem dX8_load_23 : decode cX8_load 23 = .ok (.iconst 1, 1) := by decide +kernel
theorem dX8_load_24 : decode cX8_load 24 = .ok (.invokevirtual 72, 3) := by decide +kernel
theorem dX8_load_27 : decode cX8_load 27 = .ok (.imul, 1) := by decide +kernel
theorem dX8_load_28 : decode cX8_load 28 = .ok (.aload_n 0, 1) := by decide +kernel
theorem dX8_load_29 : decode cX8_load 29 = .ok (.iload_n 1, 1) := by decide +kernel
theorem dX8_load_30 : decode cX8_load 30 = .ok (.iconst 2, 1) := by decide +kernel
theorem dX8_load_31 : decode cX8_load 31 = .ok (.invokevirtual 72, 3) := by decide +kernel
theorem dX8_load_34 : decode cX8_load 34 = .ok (.iadd, 1) := by decide +kernel
theorem dX8_load_35 : decode cX8_load 35 = .ok (.iload_n 3, 1) := by decide +kernel
theorem dX8_load_36 : decode cX8_load 36 = .ok (.iadd, 1) := by decide +kernel
theorem dX8_load_37 : decode cX8_load 37 = .ok (.iaload, 1) := by decide +kernel
theorem dX8_load_38 : decode cX8_load 38 = .ok (.bipush 8, 2) := by decide +kernel
theorem dX8_load_40 : decode cX8_load 40 = .ok (.iload_n 3, 1) := by decide +kernel
theorem dX8_load_41 : decode cX8_load 41 = .ok (.imul, 1) := by decide +kernel
theorem dX8_load_42 : decode cX8_load 42 = .ok (.ishl, 1) := by decide +kernel
theorem dX8_load_43 : decode cX8_load 43 = .ok (.ior, 1) := by decide +kernel
theorem dX8_load_44 : decode cX8_load 44 = .ok (.istore_n 2, 1) := by decide +kernel
theorem dX8_load_45 : decode cX8_load 45 = .ok (.iinc 3 1, 3) := by decide +kernel
theorem dX8_load_48 : decode cX8_load 48 = .ok (.goto (-44), 3) := by decide +kernel
theorem dX8_load_51 : decode cX8_load 51 = .ok (.aload_n 0, 1) := by decide +kernel
theorem dX8_load_52 : decode cX8_load 52 = .ok (.getfield 38, 3) := by decide +kernel
theorem dX8_load_55 : decode cX8_load 55 = .ok (.aload_n 0, 1) := by decide +kernel
theorem dX8_load_56 : decode cX8_load 56 = .ok (.iload_n 1, 1) := by decide +kernel
theorem dX8_load_57 : decode cX8_load 57 = .ok (.iconst 4, 1) := by decide +kernel
theorem dX8_load_58 : decode cX8_load 58 = .ok (.invokevirtual 72, 3) := by decide +kernel
theorem dX8_load_61 : decode cX8_load 61 = .ok (.iload_n 2, 1) := by decide +kernel
theorem dX8_load_62 : decode cX8_load 62 = .ok (.iastore, 1) := by decide +kernel
theorem dX8_load_63 : decode cX8_load 63 = .ok (.return_, 1) := by decide +kernel
theorem dX8_copyBytes_0 : decode cX8_copyBytes 0 = .ok (.iload_n 2, 1) := by decide +kernel
theorem dX8_copyBytes_1 : decode cX8_copyBytes 1 = .ok (.istore 4, 2) := by decide +kernel
theorem dX8_copyBytes_3 : decode cX8_copyBytes 3 = .ok (.iload 4, 2) := by decide +kernel
theorem dX8_copyBytes_5 : decode cX8_copyBytes 5 = .ok (.iload_n 2, 1) := by decide +kernel
theorem dX8_copyBytes_6 : decode cX8_copyBytes 6 = .ok (.iload_n 3, 1) := by decide +kernel
theorem dX8_copyBytes_7 : decode cX8_copyBytes 7 = .ok (.iadd, 1) := by decide +kernel
theorem dX8_copyBytes_8 : decode cX8_copyBytes 8 = .ok (.if_icmp .ge 57, 3) := by decide +kernel
theorem dX8_copyBytes_11 : decode cX8_copyBytes 11 = .ok (.aload_n 0, 1) := by decide +kernel
theorem dX8_copyBytes_12 : decode cX8_copyBytes 12 = .ok (.getfield 35, 3) := by decide +kernel
theorem dX8_copyBytes_15 : decode cX8_copyBytes 15 = .ok (.bipush 16, 2) := by decide +kernel
theorem dX8_copyBytes_17 : decode cX8_copyBytes 17 = .ok (.aload_n 0, 1) := by decide +kernel
theorem dX8_copyBytes_18 : decode cX8_copyBytes 18 = .ok (.iload_n 1, 1) := by decide +kernel
theorem dX8_copyBytes_19 : decode cX8_copyBytes 19 = .ok (.iconst 1, 1) := by decide +kernel
theorem dX8_copyBytes_20 : decode cX8_copyBytes 20 = .ok (.invokevirtual 72, 3) := by decide +kernel
theorem dX8_copyBytes_23 : decode cX8_copyBytes 23 = .ok (.imul, 1) := by decide +kernel
theorem dX8_copyBytes_24 : decode cX8_copyBytes 24 = .ok (.aload_n 0, 1) := by decide +kernel
theorem dX8_copyBytes_25 : decode cX8_copyBytes 25 = .ok (.iload_n 1, 1) := by decide +kernel
theorem dX8_copyBytes_26 : decode cX8_copyBytes 26 = .ok (.iconst 2, 1) := by decide +kernel
theorem dX8_copyBytes_27 : decode cX8_copyBytes 27 = .ok (.invokevirtual 72, 3) := by decide +kernel
theorem dX8_copyBytes_30 : decode cX8_copyBytes 30 = .ok (.iadd, 1) := by decide +kernel
theorem dX8_copyBytes_31 : decode cX8_copyBytes 31 = .ok (.iload 4, 2) := by decide +kernel
theorem dX8_copyBytes_33 : decode cX8_copyBytes 33 = .ok (.iadd, 1) := by decide +kernel
theorem dX8_copyBytes_34 : decode cX8_copyBytes 34 = .ok (.aload_n 0, 1) := by decide +kernel
theorem dX8_copyBytes_35 : decode cX8_copyBytes 35 = .ok (.getfield 35, 3) := by decide +kernel
theorem dX8_copyBytes_38 : decode cX8_copyBytes 38 = .ok (.bipush 16, 2) := by decide +kernel
theorem dX8_copyBytes_40 : decode cX8_copyBytes 40 = .ok (.aload_n 0, 1) := by decide +kernel
theorem dX8_copyBytes_41 : decode cX8_copyBytes 41 = .ok (.iload_n 1, 1) := by decide +kernel
theorem dX8_copyBytes_42 : decode cX8_copyBytes 42 = .ok (.iconst 3, 1) := by decide +kernel
theorem dX8_copyBytes_43 : decode cX8_copyBytes 43 = .ok (.invokevirtual 72, 3) := by decide +kernel
theorem dX8_copyBytes_46 : decode cX8_copyBytes 46 = .ok (.imul, 1) := by decide +kernel
theorem dX8_copyBytes_47 : decode cX8_copyBytes 47 = .ok (.aload_n 0, 1) := by decide +kernel
theorem dX8_copyBytes_48 : decode cX8_copyBytes 48 = .ok (.iload_n 1, 1) := by decide +kernel
theorem dX8_copyBytes_49 : decode cX8_copyBytes 49 = .ok (.iconst 4, 1) := by decide +kernel
theorem dX8_copyBytes_50 : decode cX8_copyBytes 50 = .ok (.invokevirtual 72, 3) := by decide +kernel
theorem dX8_copyBytes_53 : decode cX8_copyBytes 53 = .ok (.iadd, 1) := by decide +kernel
theorem dX8_copyBytes_54 : decode cX8_copyBytes 54 = .ok (.iload 4, 2) := by decide +kernel
theorem dX8_copyBytes_56 : decode cX8_copyBytes 56 = .ok (.iadd, 1) := by decide +kernel
theorem dX8_copyBytes_57 : decode cX8_copyBytes 57 = .ok (.iaload, 1) := by decide +kernel
theorem dX8_copyBytes_58 : decode cX8_copyBytes 58 = .ok (.iastore, 1) := by decide +kernel
theorem dX8_copyBytes_59 : decode cX8_copyBytes 59 = .ok (.iinc 4 1, 3) := by decide +kernel
theorem dX8_copyBytes_62 : decode cX8_copyBytes 62 = .ok (.goto (-59), 3) := by decide +kernel
theorem dX8_copyBytes_65 : decode cX8_copyBytes 65 = .ok (.return_, 1) := by decide +kernel
theorem dX8_escape_0 : decode cX8_escape 0 = .ok (.iconst 0, 1) := by decide +kernel
theorem dX8_escape_1 : decode cX8_escape 1 = .ok (.istore_n 2, 1) := by decide +kernel
theorem dX8_escape_2 : decode cX8_escape 2 = .ok (.iload_n 2, 1) := by decide +kernel
theorem dX8_escape_3 : decode cX8_escape 3 = .ok (.aload_n 0, 1) := by decide +kernel
theorem dX8_escape_4 : decode cX8_escape 4 = .ok (.getfield 7, 3) := by decide +kernel
theorem dX8_escape_7 : decode cX8_escape 7 = .ok (.iconst 1, 1) := by decide +kernel
theorem dX8_escape_8 : decode cX8_escape 8 = .ok (.iload_n 1, 1) := by decide +kernel
theorem dX8_escape_9 : decode cX8_escape 9 = .ok (.iadd, 1) := by decide +kernel
theorem dX8_escape_10 : decode cX8_escape 10 = .ok (.iaload, 1) := by decide +kernel
theorem dX8_escape_11 : decode cX8_escape 11 = .ok (.if_icmp .ge 32, 3) := by decide +kernel
theorem dX8_escape_14 : decode cX8_escape 14 = .ok (.aload_n 0, 1) := by decide +kernel
theorem dX8_escape_15 : decode cX8_escape 15 = .ok (.bipush 31, 2) := by decide +kernel
theorem dX8_escape_17 : decode cX8_escape 17 = .ok (.aload_n 0, 1) := by decide +kernel
theorem dX8_escape_18 : decode cX8_escape 18 = .ok (.getfield 147, 3) := by decide +kernel
theorem dX8_escape_21 : decode cX8_escape 21 = .ok (.imul, 1) := by decide +kernel
theorem dX8_escape_22 : decode cX8_escape 22 = .ok (.aload_n 0, 1) := by decide +kernel
theorem dX8_escape_23 : decode cX8_escape 23 = .ok (.getfield 35, 3) := by decide +kernel
theorem dX8_escape_26 : decode cX8_escape 26 = .ok (.bipush 16, 2) := by decide +kernel
theorem dX8_escape_28 : decode cX8_escape 28 = .ok (.iload_n 1, 1) := by decide +kernel
theorem dX8_escape_29 : decode cX8_escape 29 = .ok (.imul, 1) := by decide +kernel
theorem dX8_escape_30 : decode cX8_escape 30 = .ok (.iload_n 2, 1) := by decide +kernel
theorem dX8_escape_31 : decode cX8_escape 31 = .ok (.iadd, 1) := by decide +kernel
theorem dX8_escape_32 : decode cX8_escape 32 = .ok (.iaload, 1) := by decide +kernel
theorem dX8_escape_33 : decode cX8_escape 33 = .ok (.iadd, 1) := by decide +kernel
theorem dX8_escape_34 : decode cX8_escape 34 = .ok (.putfield 147, 3) := by decide +kernel
theorem dX8_escape_37 : decode cX8_escape 37 = .ok (.iinc 2 1, 3) := by decide +kernel
theorem dX8_escape_40 : decode cX8_escape 40 = .ok (.goto (-38), 3) := by decide +kernel
theorem dX8_escape_43 : decode cX8_escape 43 = .ok (.aload_n 0, 1) := by decide +kernel
theorem dX8_escape_44 : decode cX8_escape 44 = .ok (.getfield 35, 3) := by decide +kernel
theorem dX8_escape_47 : decode cX8_escape 47 = .ok (.bipush 16, 2) := by decide +kernel
theorem dX8_escape_49 : decode cX8_escape 49 = .ok (.iload_n 1, 1) := by decide +kernel
theorem dX8_escape_50 : decode cX8_escape 50 = .ok (.imul, 1) := by decide +kernel
theorem dX8_escape_51 : decode cX8_escape 51 = .ok (.aload_n 0, 1) := by decide +kernel
theorem dX8_escape_52 : decode cX8_escape 52 = .ok (.getfield 35, 3) := by decide +kernel
theorem dX8_escape_55 : decode cX8_escape 55 = .ok (.bipush 16, 2) := by decide +kernel
theorem dX8_escape_57 : decode cX8_escape 57 = .ok (.iload_n 1, 1) := by decide +kernel
theorem dX8_escape_58 : decode cX8_escape 58 = .ok (.imul, 1) := by decide +kernel
theorem dX8_escape_59 : decode cX8_escape 59 = .ok (.iaload, 1) := by decide +kernel
theorem dX8_escape_60 : decode cX8_escape 60 = .ok (.iconst 1, 1) := by decide +kernel
theorem dX8_escape_61 : decode cX8_escape 61 = .ok (.iadd, 1) := by decide +kernel
theorem dX8_escape_62 : decode cX8_escape 62 = .ok (.sipush 255, 3) := by decide +kernel
theorem dX8_escape_65 : decode cX8_escape 65 = .ok (.iand, 1) := by decide +kernel
theorem dX8_escape_66 : decode cX8_escape 66 = .ok (.iastore, 1) := by decide +kernel
theorem dX8_escape_67 : decode cX8_escape 67 = .ok (.return_, 1) := by decide +kernel
theorem dX8_adds_0 : decode cX8_adds 0 = .ok (.aload_n 0, 1) := by decide +kernel
theorem dX8_adds_1 : decode cX8_adds 1 = .ok (.getfield 38, 3) := by decide +kernel
theorem dX8_adds_4 : decode cX8_adds 4 = .ok (.aload_n 0, 1) := by decide +kernel
theorem dX8_adds_5 : decode cX8_adds 5 = .ok (.iload_n 1, 1) := by decide +kernel
theorem dX8_adds_6 : decode cX8_adds 6 = .ok (.iconst 2, 1) := by decide +kernel
theorem dX8_adds_7 : decode cX8_adds 7 = .ok (.invokevirtual 72, 3) := by decide +kernel
theorem dX8_adds_10 : decode cX8_adds 10 = .ok (.iaload, 1) := by decide +kernel
theorem dX8_adds_11 : decode cX8_adds 11 = .ok (.i2l, 1) := by decide +kernel
theorem dX8_adds_12 : decode cX8_adds 12 = .ok (.aload_n 0, 1) := by decide +kernel
theorem dX8_adds_13 : decode cX8_adds 13 = .ok (.getfield 38, 3) := by decide +kernel
theorem dX8_adds_16 : decode cX8_adds 16 = .ok (.aload_n 0, 1) := by decide +kernel
theorem dX8_adds_17 : decode cX8_adds 17 = .ok (.iload_n 1, 1) := by decide +kernel
theorem dX8_adds_18 : decode cX8_adds 18 = .ok (.iconst 3, 1) := by decide +kernel
theorem dX8_adds_19 : decode cX8_adds 19 = .ok (.invokevirtual 72, 3) := by decide +kernel
theorem dX8_adds_22 : decode cX8_adds 22 = .ok (.iaload, 1) := by decide +kernel
theorem dX8_adds_23 : decode cX8_adds 23 = .ok (.i2l, 1) := by decide +kernel
theorem dX8_adds_24 : decode cX8_adds 24 = .ok (.ladd, 1) := by decide +kernel
theorem dX8_adds_25 : decode cX8_adds 25 = .ok (.lstore_n 2, 1) := by decide +kernel
theorem dX8_adds_26 : decode cX8_adds 26 = .ok (.lload_n 2, 1) := by decide +kernel
theorem dX8_adds_27 : decode cX8_adds 27 = .ok (.l2i, 1) := by decide +kernel
theorem dX8_adds_28 : decode cX8_adds 28 = .ok (.istore 4, 2) := by decide +kernel
theorem dX8_adds_30 : decode cX8_adds 30 = .ok (.iload 4, 2) := by decide +kernel
theorem dX8_adds_32 : decode cX8_adds 32 = .ok (.i2l, 1) := by decide +kernel
theorem dX8_adds_33 : decode cX8_adds 33 = .ok (.lload_n 2, 1) := by decide +kernel
theorem dX8_adds_34 : decode cX8_adds 34 = .ok (.lcmp, 1) := by decide +kernel
theorem dX8_adds_35 : decode cX8_adds 35 = .ok (.ifCond .eq 5, 3) := by decide +kernel
theorem dX8_adds_38 : decode cX8_adds 38 = .ok (.iconst 1, 1) := by decide +kernel
theorem dX8_adds_39 : decode cX8_adds 39 = .ok (.ireturn, 1) := by decide +kernel
theorem dX8_adds_40 : decode cX8_adds 40 = .ok (.aload_n 0, 1) := by decide +kernel
theorem dX8_adds_41 : decode cX8_adds 41 = .ok (.getfield 38, 3) := by decide +kernel
theorem dX8_adds_44 : decode cX8_adds 44 = .ok (.aload_n 0, 1) := by decide +kernel
theorem dX8_adds_45 : decode cX8_adds 45 = .ok (.iload_n 1, 1) := by decide +kernel
theorem dX8_adds_46 : decode cX8_adds 46 = .ok (.iconst 1, 1) := by decide +kernel
theorem dX8_adds_47 : decode cX8_adds 47 = .ok (.invokevirtual 72, 3) := by decide +kernel
theorem dX8_adds_50 : decode cX8_adds 50 = .ok (.iload 4, 2) := by decide +kernel
theorem dX8_adds_52 : decode cX8_adds 52 = .ok (.iastore, 1) := by decide +kernel
theorem dX8_adds_53 : decode cX8_adds 53 = .ok (.iconst 0, 1) := by decide +kernel
theorem dX8_adds_54 : decode cX8_adds 54 = .ok (.ireturn, 1) := by decide +kernel
theorem dX8_access_0 : decode cX8_access 0 = .ok (.aload_n 0, 1) := by decide +kernel
theorem dX8_access_1 : decode cX8_access 1 = .ok (.aload_n 0, 1) := by decide +kernel
theorem dX8_access_2 : decode cX8_access 2 = .ok (.iload_n 1, 1) := by decide +kernel
theorem dX8_access_3 : decode cX8_access 3 = .ok (.iconst 1, 1) := by decide +kernel
theorem dX8_access_4 : decode cX8_access 4 = .ok (.invokevirtual 72, 3) := by decide +kernel
theorem dX8_access_7 : decode cX8_access 7 = .ok (.aload_n 0, 1) := by decide +kernel
theorem dX8_access_8 : decode cX8_access 8 = .ok (.iload_n 1, 1) := by decide +kernel
theorem dX8_access_9 : decode cX8_access 9 = .ok (.iconst 2, 1) := by decide +kernel
theorem dX8_access_10 : decode cX8_access 10 = .ok (.invokevirtual 72, 3) := by decide +kernel
theorem dX8_access_13 : decode cX8_access 13 = .ok (.invokevirtual 110, 3) := by decide +kernel
theorem dX8_access_16 : decode cX8_access 16 = .ok (.istore_n 3, 1) := by decide +kernel
theorem dX8_access_17 : decode cX8_access 17 = .ok (.aload_n 0, 1) := by decide +kernel
theorem dX8_access_18 : decode cX8_access 18 = .ok (.dup, 1) := by decide +kernel
theorem dX8_access_19 : decode cX8_access 19 = .ok (.getfield 150, 3) := by decide +kernel
theorem dX8_access_22 : decode cX8_access 22 = .ok (.iload_n 2, 1) := by decide +kernel
theorem dX8_access_23 : decode cX8_access 23 = .ok (.ifCond .eq 25, 3) := by decide +kernel
theorem dX8_access_26 : decode cX8_access 26 = .ok (.aload_n 0, 1) := by decide +kernel
theorem dX8_access_27 : decode cX8_access 27 = .ok (.getfield 28, 3) := by decide +kernel
theorem dX8_access_30 : decode cX8_access 30 = .ok (.iload_n 3, 1) := by decide +kernel
theorem dX8_access_31 : decode cX8_access 31 = .ok (.baload, 1) := by decide +kernel
theorem dX8_access_32 : decode cX8_access 32 = .ok (.ifCond .ne 12, 3) := by decide +kernel
theorem dX8_access_35 : decode cX8_access 35 = .ok (.aload_n 0, 1) := by decide +kernel
theorem dX8_access_36 : decode cX8_access 36 = .ok (.getfield 32, 3) := by decide +kernel
theorem dX8_access_39 : decode cX8_access 39 = .ok (.iload_n 3, 1) := by decide +kernel
theorem dX8_access_40 : decode cX8_access 40 = .ok (.baload, 1) := by decide +kernel
theorem dX8_access_41 : decode cX8_access 41 = .ok (.ifCond .ne 7, 3) := by decide +kernel
theorem dX8_access_44 : decode cX8_access 44 = .ok (.iconst 0, 1) := by decide +kernel
theorem dX8_access_45 : decode cX8_access 45 = .ok (.goto 4, 3) := by decide +kernel
theorem dX8_access_48 : decode cX8_access 48 = .ok (.iconst 1, 1) := by decide +kernel
theorem dX8_access_49 : decode cX8_access 49 = .ok (.iadd, 1) := by decide +kernel
theorem dX8_access_50 : decode cX8_access 50 = .ok (.putfield 150, 3) := by decide +kernel
theorem dX8_access_53 : decode cX8_access 53 = .ok (.aload_n 0, 1) := by decide +kernel
theorem dX8_access_54 : decode cX8_access 54 = .ok (.iload_n 1, 1) := by decide +kernel
theorem dX8_access_55 : decode cX8_access 55 = .ok (.iconst 0, 1) := by decide +kernel
theorem dX8_access_56 : decode cX8_access 56 = .ok (.invokevirtual 72, 3) := by decide +kernel
theorem dX8_access_59 : decode cX8_access 59 = .ok (.iconst 2, 1) := by decide +kernel
theorem dX8_access_60 : decode cX8_access 60 = .ok (.if_icmp .ne 11, 3) := by decide +kernel
theorem dX8_access_63 : decode cX8_access 63 = .ok (.aload_n 0, 1) := by decide +kernel
theorem dX8_access_64 : decode cX8_access 64 = .ok (.iload_n 1, 1) := by decide +kernel
theorem dX8_access_65 : decode cX8_access 65 = .ok (.invokevirtual 153, 3) := by decide +kernel
theorem dX8_access_68 : decode cX8_access 68 = .ok (.goto 21, 3) := by decide +kernel
theorem dX8_access_71 : decode cX8_access 71 = .ok (.iload_n 2, 1) := by decide +kernel
theorem dX8_access_72 : decode cX8_access 72 = .ok (.ifCond .eq 12, 3) := by decide +kernel
theorem dX8_access_75 : decode cX8_access 75 = .ok (.aload_n 0, 1) := by decide +kernel
theorem dX8_access_76 : decode cX8_access 76 = .ok (.getfield 32, 3) := by decide +kernel
theorem dX8_access_79 : decode cX8_access 79 = .ok (.iload_n 3, 1) := by decide +kernel
theorem dX8_access_80 : decode cX8_access 80 = .ok (.baload, 1) := by decide +kernel
theorem dX8_access_81 : decode cX8_access 81 = .ok (.ifCond .eq 8, 3) := by decide +kernel
theorem dX8_access_84 : decode cX8_access 84 = .ok (.aload_n 0, 1) := by decide +kernel
theorem dX8_access_85 : decode cX8_access 85 = .ok (.iload_n 1, 1) := by decide +kernel
theorem dX8_access_86 : decode cX8_access 86 = .ok (.invokevirtual 156, 3) := by decide +kernel
theorem dX8_access_89 : decode cX8_access 89 = .ok (.return_, 1) := by decide +kernel
theorem dX8_copyPieces_0 : decode cX8_copyPieces 0 = .ok (.iconst 0, 1) := by decide +kernel
theorem dX8_copyPieces_1 : decode cX8_copyPieces 1 = .ok (.istore_n 2, 1) := by decide +kernel
theorem dX8_copyPieces_2 : decode cX8_copyPieces 2 = .ok (.iload_n 2, 1) := by decide +kernel
theorem dX8_copyPieces_3 : decode cX8_copyPieces 3 = .ok (.aload_n 0, 1) := by decide +kernel
theorem dX8_copyPieces_4 : decode cX8_copyPieces 4 = .ok (.iload_n 1, 1) := by decide +kernel
theorem dX8_copyPieces_5 : decode cX8_copyPieces 5 = .ok (.iconst 5, 1) := by decide +kernel
theorem dX8_copyPieces_6 : decode cX8_copyPieces 6 = .ok (.invokevirtual 72, 3) := by decide +kernel
theorem dX8_copyPieces_9 : decode cX8_copyPieces 9 = .ok (.if_icmp .ge 132, 3) := by decide +kernel
theorem dX8_copyPieces_12 : decode cX8_copyPieces 12 = .ok (.aload_n 0, 1) := by decide +kernel
theorem dX8_copyPieces_13 : decode cX8_copyPieces 13 = .ok (.iload_n 1, 1) := by decide +kernel
theorem dX8_copyPieces_14 : decode cX8_copyPieces 14 = .ok (.iload_n 2, 1) := by decide +kernel
theorem dX8_copyPieces_15 : decode cX8_copyPieces 15 = .ok (.invokevirtual 116, 3) := by decide +kernel
theorem dX8_copyPieces_18 : decode cX8_copyPieces 18 = .ok (.istore_n 3, 1) := by decide +kernel
theorem dX8_copyPieces_19 : decode cX8_copyPieces 19 = .ok (.aload_n 0, 1) := by decide +kernel
theorem dX8_copyPieces_20 : decode cX8_copyPieces 20 = .ok (.aload_n 0, 1) := by decide +kernel
theorem dX8_copyPieces_21 : decode cX8_copyPieces 21 = .ok (.iload_n 1, 1) := by decide +kernel
theorem dX8_copyPieces_22 : decode cX8_copyPieces 22 = .ok (.iconst 1, 1) := by decide +kernel
theorem dX8_copyPieces_23 : decode cX8_copyPieces 23 = .ok (.invokevirtual 72, 3) := by decide +kernel
theorem dX8_copyPieces_26 : decode cX8_copyPieces 26 = .ok (.aload_n 0, 1) := by decide +kernel
theorem dX8_copyPieces_27 : decode cX8_copyPieces 27 = .ok (.iload_n 1, 1) := by decide +kernel
theorem dX8_copyPieces_28 : decode cX8_copyPieces 28 = .ok (.iconst 2, 1) := by decide +kernel
theorem dX8_copyPieces_29 : decode cX8_copyPieces 29 = .ok (.invokevirtual 72, 3) := by decide +kernel
theorem dX8_copyPieces_32 : decode cX8_copyPieces 32 = .ok (.iload_n 2, 1) := by decide +kernel
theorem dX8_copyPieces_33 : decode cX8_copyPieces 33 = .ok (.iadd, 1) := by decide +kernel
theorem dX8_copyPieces_34 : decode cX8_copyPieces 34 = .ok (.invokevirtual 110, 3) := by decide +kernel
theorem dX8_copyPieces_37 : decode cX8_copyPieces 37 = .ok (.istore 4, 2) := by decide +kernel
theorem dX8_copyPieces_39 : decode cX8_copyPieces 39 = .ok (.aload_n 0, 1) := by decide +kernel
theorem dX8_copyPieces_40 : decode cX8_copyPieces 40 = .ok (.aload_n 0, 1) := by decide +kernel
theorem dX8_copyPieces_41 : decode cX8_copyPieces 41 = .ok (.iload_n 1, 1) := by decide +kernel
theorem dX8_copyPieces_42 : decode cX8_copyPieces 42 = .ok (.iconst 3, 1) := by decide +kernel
theorem dX8_copyPieces_43 : decode cX8_copyPieces 43 = .ok (.invokevirtual 72, 3) := by decide +kernel
theorem dX8_copyPieces_46 : decode cX8_copyPieces 46 = .ok (.aload_n 0, 1) := by decide +kernel
theorem dX8_copyPieces_47 : decode cX8_copyPieces 47 = .ok (.iload_n 1, 1) := by decide +kernel
theorem dX8_copyPieces_48 : decode cX8_copyPieces 48 = .ok (.iconst 4, 1) := by decide +kernel
theorem dX8_copyPieces_49 : decode cX8_copyPieces 49 = .ok (.invokevirtual 72, 3) := by decide +kernel
theorem dX8_copyPieces_52 : decode cX8_copyPieces 52 = .ok (.iload_n 2, 1) := by decide +kernel
theorem dX8_copyPieces_53 : decode cX8_copyPieces 53 = .ok (.iadd, 1) := by decide +kernel
theorem dX8_copyPieces_54 : decode cX8_copyPieces 54 = .ok (.invokevirtual 110, 3) := by decide +kernel
theorem dX8_copyPieces_57 : decode cX8_copyPieces 57 = .ok (.istore 5, 2) := by decide +kernel
theorem dX8_copyPieces_59 : decode cX8_copyPieces 59 = .ok (.aload_n 0, 1) := by decide +kernel
theorem dX8_copyPieces_60 : decode cX8_copyPieces 60 = .ok (.getfield 32, 3) := by decide +kernel
theorem dX8_copyPieces_63 : decode cX8_copyPieces 63 = .ok (.iload 4, 2) := by decide +kernel
theorem dX8_copyPieces_65 : decode cX8_copyPieces 65 = .ok (.baload, 1) := by decide +kernel
theorem dX8_copyPieces_66 : decode cX8_copyPieces 66 = .ok (.ifCond .eq 68, 3) := by decide +kernel
theorem dX8_copyPieces_69 : decode cX8_copyPieces 69 = .ok (.aload_n 0, 1) := by decide +kernel
theorem dX8_copyPieces_70 : decode cX8_copyPieces 70 = .ok (.dup, 1) := by decide +kernel
theorem dX8_copyPieces_71 : decode cX8_copyPieces 71 = .ok (.getfield 150, 3) := by decide +kernel
theorem dX8_copyPieces_74 : decode cX8_copyPieces 74 = .ok (.aload_n 0, 1) := by decide +kernel
theorem dX8_copyPieces_75 : decode cX8_copyPieces 75 = .ok (.getfield 28, 3) := by decide +kernel
theorem dX8_copyPieces_78 : decode cX8_copyPieces 78 = .ok (.iload 4, 2) := by decide +kernel
theorem dX8_copyPieces_80 : decode cX8_copyPieces 80 = .ok (.baload, 1) := by decide +kernel
theorem dX8_copyPieces_81 : decode cX8_copyPieces 81 = .ok (.ifCond .eq 17, 3) := by decide +kernel
theorem dX8_copyPieces_84 : decode cX8_copyPieces 84 = .ok (.aload_n 0, 1) := by decide +kernel
theorem dX8_copyPieces_85 : decode cX8_copyPieces 85 = .ok (.getfield 28, 3) := by decide +kernel
theorem dX8_copyPieces_88 : decode cX8_copyPieces 88 = .ok (.iload 5, 2) := by decide +kernel
theorem dX8_copyPieces_90 : decode cX8_copyPieces 90 = .ok (.baload, 1) := by decide +kernel
theorem dX8_copyPieces_91 : decode cX8_copyPieces 91 = .ok (.ifCond .eq 7, 3) := by decide +kernel
theorem dX8_copyPieces_94 : decode cX8_copyPieces 94 = .ok (.iconst 0, 1) := by decide +kernel
theorem dX8_copyPieces_95 : decode cX8_copyPieces 95 = .ok (.goto 28, 3) := by decide +kernel
theorem dX8_copyPieces_98 : decode cX8_copyPieces 98 = .ok (.aload_n 0, 1) := by decide +kernel
theorem dX8_copyPieces_99 : decode cX8_copyPieces 99 = .ok (.getfield 28, 3) := by decide +kernel
theorem dX8_copyPieces_102 : decode cX8_copyPieces 102 = .ok (.iload 4, 2) := by decide +kernel
theorem dX8_copyPieces_104 : decode cX8_copyPieces 104 = .ok (.baload, 1) := by decide +kernel
theorem dX8_copyPieces_105 : decode cX8_copyPieces 105 = .ok (.ifCond .ne 13, 3) := by decide +kernel
theorem dX8_copyPieces_108 : decode cX8_copyPieces 108 = .ok (.aload_n 0, 1) := by decide +kernel
theorem dX8_copyPieces_109 : decode cX8_copyPieces 109 = .ok (.getfield 28, 3) := by decide +kernel
theorem dX8_copyPieces_112 : decode cX8_copyPieces 112 = .ok (.iload 5, 2) := by decide +kernel
theorem dX8_copyPieces_114 : decode cX8_copyPieces 114 = .ok (.baload, 1) := by decide +kernel
theorem dX8_copyPieces_115 : decode cX8_copyPieces 115 = .ok (.ifCond .eq 7, 3) := by decide +kernel
theorem dX8_copyPieces_118 : decode cX8_copyPieces 118 = .ok (.iconst 1, 1) := by decide +kernel
theorem dX8_copyPieces_119 : decode cX8_copyPieces 119 = .ok (.goto 4, 3) := by decide +kernel
theorem dX8_copyPieces_122 : decode cX8_copyPieces 122 = .ok (.iload_n 3, 1) := by decide +kernel
theorem dX8_copyPieces_123 : decode cX8_copyPieces 123 = .ok (.iadd, 1) := by decide +kernel
theorem dX8_copyPieces_124 : decode cX8_copyPieces 124 = .ok (.putfield 150, 3) := by decide +kernel
theorem dX8_copyPieces_127 : decode cX8_copyPieces 127 = .ok (.aload_n 0, 1) := by decide +kernel
theorem dX8_copyPieces_128 : decode cX8_copyPieces 128 = .ok (.iload_n 1, 1) := by decide +kernel
theorem dX8_copyPieces_129 : decode cX8_copyPieces 129 = .ok (.iload_n 2, 1) := by decide +kernel
theorem dX8_copyPieces_130 : decode cX8_copyPieces 130 = .ok (.iload_n 3, 1) := by decide +kernel
theorem dX8_copyPieces_131 : decode cX8_copyPieces 131 = .ok (.invokevirtual 159, 3) := by decide +kernel
theorem dX8_copyPieces_134 : decode cX8_copyPieces 134 = .ok (.iload_n 2, 1) := by decide +kernel
theorem dX8_copyPieces_135 : decode cX8_copyPieces 135 = .ok (.iload_n 3, 1) := by decide +kernel
theorem dX8_copyPieces_136 : decode cX8_copyPieces 136 = .ok (.iadd, 1) := by decide +kernel
theorem dX8_copyPieces_137 : decode cX8_copyPieces 137 = .ok (.istore_n 2, 1) := by decide +kernel
theorem dX8_copyPieces_138 : decode cX8_copyPieces 138 = .ok (.goto (-136), 3) := by decide +kernel
theorem dX8_copyPieces_141 : decode cX8_copyPieces 141 = .ok (.return_, 1) := by decide +kernel
theorem dX8_runs_0 : decode cX8_runs 0 = .ok (.aload_n 0, 1) := by decide +kernel
theorem dX8_runs_1 : decode cX8_runs 1 = .ok (.invokevirtual 138, 3) := by decide +kernel
theorem dX8_runs_4 : decode cX8_runs 4 = .ok (.iconst 0, 1) := by decide +kernel
theorem dX8_runs_5 : decode cX8_runs 5 = .ok (.istore_n 2, 1) := by decide +kernel
theorem dX8_runs_6 : decode cX8_runs 6 = .ok (.iload_n 2, 1) := by decide +kernel
theorem dX8_runs_7 : decode cX8_runs 7 = .ok (.bipush 64, 2) := by decide +kernel
theorem dX8_runs_9 : decode cX8_runs 9 = .ok (.if_icmp .ge 16, 3) := by decide +kernel
theorem dX8_runs_12 : decode cX8_runs 12 = .ok (.aload_n 0, 1) := by decide +kernel
theorem dX8_runs_13 : decode cX8_runs 13 = .ok (.getfield 35, 3) := by decide +kernel
theorem dX8_runs_16 : decode cX8_runs 16 = .ok (.iload_n 2, 1) := by decide +kernel
theorem dX8_runs_17 : decode cX8_runs 17 = .ok (.iconst 0, 1) := by decide +kernel
theorem dX8_runs_18 : decode cX8_runs 18 = .ok (.iastore, 1) := by decide +kernel
theorem dX8_runs_19 : decode cX8_runs 19 = .ok (.iinc 2 1, 3) := by decide +kernel
theorem dX8_runs_22 : decode cX8_runs 22 = .ok (.goto (-16), 3) := by decide +kernel
theorem dX8_runs_25 : decode cX8_runs 25 = .ok (.iconst 0, 1) := by decide +kernel
theorem dX8_runs_26 : decode cX8_runs 26 = .ok (.istore_n 2, 1) := by decide +kernel
theorem dX8_runs_27 : decode cX8_runs 27 = .ok (.iload_n 2, 1) := by decide +kernel
theorem dX8_runs_28 : decode cX8_runs 28 = .ok (.bipush 8, 2) := by decide +kernel
theorem dX8_runs_30 : decode cX8_runs 30 = .ok (.if_icmp .ge 16, 3) := by decide +kernel
theorem dX8_runs_33 : decode cX8_runs 33 = .ok (.aload_n 0, 1) := by decide +kernel
theorem dX8_runs_34 : decode cX8_runs 34 = .ok (.getfield 38, 3) := by decide +kernel
theorem dX8_runs_37 : decode cX8_runs 37 = .ok (.iload_n 2, 1) := by decide +kernel
theorem dX8_runs_38 : decode cX8_runs 38 = .ok (.iconst 0, 1) := by decide +kernel
theorem dX8_runs_39 : decode cX8_runs 39 = .ok (.iastore, 1) := by decide +kernel
theorem dX8_runs_40 : decode cX8_runs 40 = .ok (.iinc 2 1, 3) := by decide +kernel
theorem dX8_runs_43 : decode cX8_runs 43 = .ok (.goto (-16), 3) := by decide +kernel
theorem dX8_runs_46 : decode cX8_runs 46 = .ok (.aload_n 0, 1) := by decide +kernel
theorem dX8_runs_47 : decode cX8_runs 47 = .ok (.iconst 0, 1) := by decide +kernel
theorem dX8_runs_48 : decode cX8_runs 48 = .ok (.putfield 162, 3) := by decide +kernel
theorem dX8_runs_51 : decode cX8_runs 51 = .ok (.aload_n 0, 1) := by decide +kernel
theorem dX8_runs_52 : decode cX8_runs 52 = .ok (.iconst 0, 1) := by decide +kernel
theorem dX8_runs_53 : decode cX8_runs 53 = .ok (.putfield 147, 3) := by decide +kernel
theorem dX8_runs_56 : decode cX8_runs 56 = .ok (.aload_n 0, 1) := by decide +kernel
theorem dX8_runs_57 : decode cX8_runs 57 = .ok (.iconst 0, 1) := by decide +kernel
theorem dX8_runs_58 : decode cX8_runs 58 = .ok (.putfield 150, 3) := by decide +kernel
theorem dX8_runs_61 : decode cX8_runs 61 = .ok (.aload_n 0, 1) := by decide +kernel
theorem dX8_runs_62 : decode cX8_runs 62 = .ok (.bipush (-9), 2) := by decide +kernel
theorem dX8_runs_64 : decode cX8_runs 64 = .ok (.putfield 165, 3) := by decide +kernel
theorem dX8_runs_67 : decode cX8_runs 67 = .ok (.iconst 0, 1) := by decide +kernel
theorem dX8_runs_68 : decode cX8_runs 68 = .ok (.istore_n 2, 1) := by decide +kernel
theorem dX8_runs_69 : decode cX8_runs 69 = .ok (.iload_n 2, 1) := by decide +kernel
theorem dX8_runs_70 : decode cX8_runs 70 = .ok (.aload_n 0, 1) := by decide +kernel
theorem dX8_runs_71 : decode cX8_runs 71 = .ok (.getfield 7, 3) := by decide +kernel
theorem dX8_runs_74 : decode cX8_runs 74 = .ok (.iconst 5, 1) := by decide +kernel
theorem dX8_runs_75 : decode cX8_runs 75 = .ok (.iaload, 1) := by decide +kernel
theorem dX8_runs_76 : decode cX8_runs 76 = .ok (.if_icmp .ge 28, 3) := by decide +kernel
theorem dX8_runs_79 : decode cX8_runs 79 = .ok (.aload_n 0, 1) := by decide +kernel
theorem dX8_runs_80 : decode cX8_runs 80 = .ok (.getfield 165, 3) := by decide +kernel
theorem dX8_runs_83 : decode cX8_runs 83 = .ok (.bipush (-9), 2) := by decide +kernel
theorem dX8_runs_85 : decode cX8_runs 85 = .ok (.if_icmp .ne 19, 3) := by decide +kernel
theorem dX8_runs_88 : decode cX8_runs 88 = .ok (.aload_n 0, 1) := by decide +kernel
theorem dX8_runs_89 : decode cX8_runs 89 = .ok (.iload_n 2, 1) := by decide +kernel
theorem dX8_runs_90 : decode cX8_runs 90 = .ok (.iload_n 1, 1) := by decide +kernel
theorem dX8_runs_91 : decode cX8_runs 91 = .ok (.invokevirtual 168, 3) := by decide +kernel
theorem dX8_runs_94 : decode cX8_runs 94 = .ok (.istore_n 3, 1) := by decide +kernel
theorem dX8_runs_95 : decode cX8_runs 95 = .ok (.iload_n 2, 1) := by decide +kernel
theorem dX8_runs_96 : decode cX8_runs 96 = .ok (.iconst 1, 1) := by decide +kernel
theorem dX8_runs_97 : decode cX8_runs 97 = .ok (.iload_n 3, 1) := by decide +kernel
theorem dX8_runs_98 : decode cX8_runs 98 = .ok (.iadd, 1) := by decide +kernel
theorem dX8_runs_99 : decode cX8_runs 99 = .ok (.iadd, 1) := by decide +kernel
theorem dX8_runs_100 : decode cX8_runs 100 = .ok (.istore_n 2, 1) := by decide +kernel
theorem dX8_runs_101 : decode cX8_runs 101 = .ok (.goto (-32), 3) := by decide +kernel
theorem dX8_runs_104 : decode cX8_runs 104 = .ok (.return_, 1) := by decide +kernel
theorem dX8_executes_0 : decode cX8_executes 0 = .ok (.aload_n 0, 1) := by decide +kernel
theorem dX8_executes_1 : decode cX8_executes 1 = .ok (.iload_n 1, 1) := by decide +kernel
theorem dX8_executes_2 : decode cX8_executes 2 = .ok (.iconst 0, 1) := by decide +kernel
theorem dX8_executes_3 : decode cX8_executes 3 = .ok (.invokevirtual 72, 3) := by decide +kernel
theorem dX8_executes_6 : decode cX8_executes 6 = .ok (.tableswitch 189 1 7 #[42, 42, 50, 91, 125, 144, 164], 42) := by decide +kernel
theorem dX8_executes_48 : decode cX8_executes 48 = .ok (.aload_n 0, 1) := by decide +kernel
theorem dX8_executes_49 : decode cX8_executes 49 = .ok (.iload_n 1, 1) := by decide +kernel
theorem dX8_executes_50 : decode cX8_executes 50 = .ok (.iload_n 2, 1) := by decide +kernel
theorem dX8_executes_51 : decode cX8_executes 51 = .ok (.invokevirtual 172, 3) := by decide +kernel
theorem dX8_executes_54 : decode cX8_executes 54 = .ok (.iconst 0, 1) := by decide +kernel
theorem dX8_executes_55 : decode cX8_executes 55 = .ok (.ireturn, 1) := by decide +kernel
theorem dX8_executes_56 : decode cX8_executes 56 = .ok (.iload_n 2, 1) := by decide +kernel
theorem dX8_executes_57 : decode cX8_executes 57 = .ok (.ifCond .eq 11, 3) := by decide +kernel
theorem dX8_executes_60 : decode cX8_executes 60 = .ok (.aload_n 0, 1) := by decide +kernel
theorem dX8_executes_61 : decode cX8_executes 61 = .ok (.iload_n 1, 1) := by decide +kernel
theorem dX8_executes_62 : decode cX8_executes 62 = .ok (.invokevirtual 176, 3) := by decide +kernel
theorem dX8_executes_65 : decode cX8_executes 65 = .ok (.goto 30, 3) := by decide +kernel
theorem dX8_executes_68 : decode cX8_executes 68 = .ok (.aload_n 0, 1) := by decide +kernel
theorem dX8_executes_69 : decode cX8_executes 69 = .ok (.dup, 1) := by decide +kernel
theorem dX8_executes_70 : decode cX8_executes 70 = .ok (.getfield 150, 3) := by decide +kernel
theorem dX8_executes_73 : decode cX8_executes 73 = .ok (.aload_n 0, 1) := by decide +kernel
theorem dX8_executes_74 : decode cX8_executes 74 = .ok (.iload_n 1, 1) := by decide +kernel
theorem dX8_executes_75 : decode cX8_executes 75 = .ok (.iconst 5, 1) := by decide +kernel
theorem dX8_executes_76 : decode cX8_executes 76 = .ok (.invokevirtual 72, 3) := by decide +kernel
theorem dX8_executes_79 : decode cX8_executes 79 = .ok (.iadd, 1) := by decide +kernel
theorem dX8_executes_80 : decode cX8_executes 80 = .ok (.putfield 150, 3) := by decide +kernel
theorem dX8_executes_83 : decode cX8_executes 83 = .ok (.aload_n 0, 1) := by decide +kernel
theorem dX8_executes_84 : decode cX8_executes 84 = .ok (.iload_n 1, 1) := by decide +kernel
theorem dX8_executes_85 : decode cX8_executes 85 = .ok (.iconst 0, 1) := by decide +kernel
theorem dX8_executes_86 : decode cX8_executes 86 = .ok (.aload_n 0, 1) := by decide +kernel
theorem dX8_executes_87 : decode cX8_executes 87 = .ok (.iload_n 1, 1) := by decide +kernel
theorem dX8_executes_88 : decode cX8_executes 88 = .ok (.iconst 5, 1) := by decide +kernel
theorem dX8_executes_89 : decode cX8_executes 89 = .ok (.invokevirtual 72, 3) := by decide +kernel
theorem dX8_executes_92 : decode cX8_executes 92 = .ok (.invokevirtual 159, 3) := by decide +kernel
theorem dX8_executes_95 : decode cX8_executes 95 = .ok (.iconst 0, 1) := by decide +kernel
theorem dX8_executes_96 : decode cX8_executes 96 = .ok (.ireturn, 1) := by decide +kernel
theorem dX8_executes_97 : decode cX8_executes 97 = .ok (.aload_n 0, 1) := by decide +kernel
theorem dX8_executes_98 : decode cX8_executes 98 = .ok (.dup, 1) := by decide +kernel
theorem dX8_executes_99 : decode cX8_executes 99 = .ok (.getfield 150, 3) := by decide +kernel
theorem dX8_executes_102 : decode cX8_executes 102 = .ok (.aload_n 0, 1) := by decide +kernel
theorem dX8_executes_103 : decode cX8_executes 103 = .ok (.getfield 7, 3) := by decide +kernel
theorem dX8_executes_106 : decode cX8_executes 106 = .ok (.iconst 1, 1) := by decide +kernel
theorem dX8_executes_107 : decode cX8_executes 107 = .ok (.aload_n 0, 1) := by decide +kernel
theorem dX8_executes_108 : decode cX8_executes 108 = .ok (.iload_n 1, 1) := by decide +kernel
theorem dX8_executes_109 : decode cX8_executes 109 = .ok (.iconst 1, 1) := by decide +kernel
theorem dX8_executes_110 : decode cX8_executes 110 = .ok (.invokevirtual 72, 3) := by decide +kernel
theorem dX8_executes_113 : decode cX8_executes 113 = .ok (.iadd, 1) := by decide +kernel
theorem dX8_executes_114 : decode cX8_executes 114 = .ok (.iaload, 1) := by decide +kernel
theorem dX8_executes_115 : decode cX8_executes 115 = .ok (.iadd, 1) := by decide +kernel
theorem dX8_executes_116 : decode cX8_executes 116 = .ok (.putfield 150, 3) := by decide +kernel
theorem dX8_executes_119 : decode cX8_executes 119 = .ok (.aload_n 0, 1) := by decide +kernel
theorem dX8_executes_120 : decode cX8_executes 120 = .ok (.aload_n 0, 1) := by decide +kernel
theorem dX8_executes_121 : decode cX8_executes 121 = .ok (.iload_n 1, 1) := by decide +kernel
theorem dX8_executes_122 : decode cX8_executes 122 = .ok (.iconst 1, 1) := by decide +kernel
theorem dX8_executes_123 : decode cX8_executes 123 = .ok (.invokevirtual 72, 3) := by decide +kernel
theorem dX8_executes_126 : decode cX8_executes 126 = .ok (.invokevirtual 179, 3) := by decide +kernel
theorem dX8_executes_129 : decode cX8_executes 129 = .ok (.iconst 0, 1) := by decide +kernel
theorem dX8_executes_130 : decode cX8_executes 130 = .ok (.ireturn, 1) := by decide +kernel
theorem dX8_executes_131 : decode cX8_executes 131 = .ok (.aload_n 0, 1) := by decide +kernel
theorem dX8_executes_132 : decode cX8_executes 132 = .ok (.getfield 38, 3) := by decide +kernel
theorem dX8_executes_135 : decode cX8_executes 135 = .ok (.aload_n 0, 1) := by decide +kernel
theorem dX8_executes_136 : decode cX8_executes 136 = .ok (.iload_n 1, 1) := by decide +kernel
theorem dX8_executes_137 : decode cX8_executes 137 = .ok (.iconst 1, 1) := by decide +kernel
theorem dX8_executes_138 : decode cX8_executes 138 = .ok (.invokevirtual 72, 3) := by decide +kernel
theorem dX8_executes_141 : decode cX8_executes 141 = .ok (.aload_n 0, 1) := by decide +kernel
theorem dX8_executes_142 : decode cX8_executes 142 = .ok (.iload_n 1, 1) := by decide +kernel
theorem dX8_executes_143 : decode cX8_executes 143 = .ok (.iconst 2, 1) := by decide +kernel
theorem dX8_executes_144 : decode cX8_executes 144 = .ok (.invokevirtual 72, 3) := by decide +kernel
theorem dX8_executes_147 : decode cX8_executes 147 = .ok (.iastore, 1) := by decide +kernel
theorem dX8_executes_148 : decode cX8_executes 148 = .ok (.iconst 0, 1) := by decide +kernel
theorem dX8_executes_149 : decode cX8_executes 149 = .ok (.ireturn, 1) := by decide +kernel
theorem dX8_executes_150 : decode cX8_executes 150 = .ok (.aload_n 0, 1) := by decide +kernel
theorem dX8_executes_151 : decode cX8_executes 151 = .ok (.aload_n 0, 1) := by decide +kernel
theorem dX8_executes_152 : decode cX8_executes 152 = .ok (.iload_n 1, 1) := by decide +kernel
theorem dX8_executes_153 : decode cX8_executes 153 = .ok (.invokevirtual 182, 3) := by decide +kernel
theorem dX8_executes_156 : decode cX8_executes 156 = .ok (.ifCond .eq 7, 3) := by decide +kernel
theorem dX8_executes_159 : decode cX8_executes 159 = .ok (.iload_n 1, 1) := by decide +kernel
theorem dX8_executes_160 : decode cX8_executes 160 = .ok (.goto 5, 3) := by decide +kernel
theorem dX8_executes_163 : decode cX8_executes 163 = .ok (.bipush (-9), 2) := by decide +kernel
theorem dX8_executes_165 : decode cX8_executes 165 = .ok (.putfield 165, 3) := by decide +kernel
theorem dX8_executes_168 : decode cX8_executes 168 = .ok (.iconst 0, 1) := by decide +kernel
theorem dX8_executes_169 : decode cX8_executes 169 = .ok (.ireturn, 1) := by decide +kernel
theorem dX8_executes_170 : decode cX8_executes 170 = .ok (.aload_n 0, 1) := by decide +kernel
theorem dX8_executes_171 : decode cX8_executes 171 = .ok (.getfield 38, 3) := by decide +kernel
theorem dX8_executes_174 : decode cX8_executes 174 = .ok (.aload_n 0, 1) := by decide +kernel
theorem dX8_executes_175 : decode cX8_executes 175 = .ok (.iload_n 1, 1) := by decide +kernel
theorem dX8_executes_176 : decode cX8_executes 176 = .ok (.iconst 1, 1) := by decide +kernel
theorem dX8_executes_177 : decode cX8_executes 177 = .ok (.invokevirtual 72, 3) := by decide +kernel
theorem dX8_executes_180 : decode cX8_executes 180 = .ok (.iaload, 1) := by decide +kernel
theorem dX8_executes_181 : decode cX8_executes 181 = .ok (.ifCond .ne 12, 3) := by decide +kernel
theorem dX8_executes_184 : decode cX8_executes 184 = .ok (.aload_n 0, 1) := by decide +kernel
theorem dX8_executes_185 : decode cX8_executes 185 = .ok (.iload_n 1, 1) := by decide +kernel
theorem dX8_executes_186 : decode cX8_executes 186 = .ok (.iconst 2, 1) := by decide +kernel
theorem dX8_executes_187 : decode cX8_executes 187 = .ok (.invokevirtual 72, 3) := by decide +kernel
theorem dX8_executes_190 : decode cX8_executes 190 = .ok (.goto 4, 3) := by decide +kernel
theorem dX8_executes_193 : decode cX8_executes 193 = .ok (.iconst 0, 1) := by decide +kernel
theorem dX8_executes_194 : decode cX8_executes 194 = .ok (.ireturn, 1) := by decide +kernel
theorem dX8_executes_195 : decode cX8_executes 195 = .ok (.aload_n 0, 1) := by decide +kernel
theorem dX8_executes_196 : decode cX8_executes 196 = .ok (.getfield 41, 3) := by decide +kernel
theorem dX8_executes_199 : decode cX8_executes 199 = .ok (.aload_n 0, 1) := by decide +kernel
theorem dX8_executes_200 : decode cX8_executes 200 = .ok (.getfield 162, 3) := by decide +kernel
theorem dX8_executes_203 : decode cX8_executes 203 = .ok (.aload_n 0, 1) := by decide +kernel
theorem dX8_executes_204 : decode cX8_executes 204 = .ok (.getfield 38, 3) := by decide +kernel
theorem dX8_executes_207 : decode cX8_executes 207 = .ok (.aload_n 0, 1) := by decide +kernel
theorem dX8_executes_208 : decode cX8_executes 208 = .ok (.iload_n 1, 1) := by decide +kernel
theorem dX8_executes_209 : decode cX8_executes 209 = .ok (.iconst 1, 1) := by decide +kernel
theorem dX8_executes_210 : decode cX8_executes 210 = .ok (.invokevirtual 72, 3) := by decide +kernel
theorem dX8_executes_213 : decode cX8_executes 213 = .ok (.iaload, 1) := by decide +kernel
theorem dX8_executes_214 : decode cX8_executes 214 = .ok (.iastore, 1) := by decide +kernel
theorem dX8_executes_215 : decode cX8_executes 215 = .ok (.aload_n 0, 1) := by decide +kernel
theorem dX8_executes_216 : decode cX8_executes 216 = .ok (.dup, 1) := by decide +kernel
theorem dX8_executes_217 : decode cX8_executes 217 = .ok (.getfield 162, 3) := by decide +kernel
theorem dX8_executes_220 : decode cX8_executes 220 = .ok (.iconst 1, 1) := by decide +kernel
theorem dX8_executes_221 : decode cX8_executes 221 = .ok (.iadd, 1) := by decide +kernel
theorem dX8_executes_222 : decode cX8_executes 222 = .ok (.putfield 162, 3) := by decide +kernel
theorem dX8_executes_225 : decode cX8_executes 225 = .ok (.iconst 0, 1) := by decide +kernel
theorem dX8_executes_226 : decode cX8_executes 226 = .ok (.ireturn, 1) := by decide +kernel
theorem dX8_trapPosition_0 : decode cX8_trapPosition 0 = .ok (.aload_n 0, 1) := by decide +kernel
theorem dX8_trapPosition_1 : decode cX8_trapPosition 1 = .ok (.iconst 0, 1) := by decide +kernel
theorem dX8_trapPosition_2 : decode cX8_trapPosition 2 = .ok (.invokevirtual 185, 3) := by decide +kernel
theorem dX8_trapPosition_5 : decode cX8_trapPosition 5 = .ok (.aload_n 0, 1) := by decide +kernel
theorem dX8_trapPosition_6 : decode cX8_trapPosition 6 = .ok (.getfield 165, 3) := by decide +kernel
theorem dX8_trapPosition_9 : decode cX8_trapPosition 9 = .ok (.ireturn, 1) := by decide +kernel
theorem dX8_isProgram_0 : decode cX8_isProgram 0 = .ok (.iload_n 0, 1) := by decide +kernel
theorem dX8_isProgram_1 : decode cX8_isProgram 1 = .ok (.iconst 0, 1) := by decide +kernel
theorem dX8_isProgram_2 : decode cX8_isProgram 2 = .ok (.iconst 1, 1) := by decide +kernel
theorem dX8_isProgram_3 : decode cX8_isProgram 3 = .ok (.invokestatic 48, 3) := by decide +kernel
theorem dX8_isProgram_6 : decode cX8_isProgram 6 = .ok (.ireturn, 1) := by decide +kernel
theorem dX8_outputCount_0 : decode cX8_outputCount 0 = .ok (.iload_n 1, 1) := by decide +kernel
theorem dX8_outputCount_1 : decode cX8_outputCount 1 = .ok (.invokestatic 189, 3) := by decide +kernel
theorem dX8_outputCount_4 : decode cX8_outputCount 4 = .ok (.ifCond .ne 5, 3) := by decide +kernel
theorem dX8_outputCount_7 : decode cX8_outputCount 7 = .ok (.iconst (-1), 1) := by decide +kernel
theorem dX8_outputCount_8 : decode cX8_outputCount 8 = .ok (.ireturn, 1) := by decide +kernel
theorem dX8_outputCount_9 : decode cX8_outputCount 9 = .ok (.aload_n 0, 1) := by decide +kernel
theorem dX8_outputCount_10 : decode cX8_outputCount 10 = .ok (.iload_n 1, 1) := by decide +kernel
theorem dX8_outputCount_11 : decode cX8_outputCount 11 = .ok (.iconst 1, 1) := by decide +kernel
theorem dX8_outputCount_12 : decode cX8_outputCount 12 = .ok (.if_icmp .ne 7, 3) := by decide +kernel
theorem dX8_outputCount_15 : decode cX8_outputCount 15 = .ok (.iconst 1, 1) := by decide +kernel
theorem dX8_outputCount_16 : decode cX8_outputCount 16 = .ok (.goto 4, 3) := by decide +kernel
theorem dX8_outputCount_19 : decode cX8_outputCount 19 = .ok (.iconst 0, 1) := by decide +kernel
theorem dX8_outputCount_20 : decode cX8_outputCount 20 = .ok (.invokevirtual 185, 3) := by decide +kernel
theorem dX8_outputCount_23 : decode cX8_outputCount 23 = .ok (.aload_n 0, 1) := by decide +kernel
theorem dX8_outputCount_24 : decode cX8_outputCount 24 = .ok (.getfield 162, 3) := by decide +kernel
theorem dX8_outputCount_27 : decode cX8_outputCount 27 = .ok (.ireturn, 1) := by decide +kernel
theorem dX8_outputAt_0 : decode cX8_outputAt 0 = .ok (.iload_n 1, 1) := by decide +kernel
theorem dX8_outputAt_1 : decode cX8_outputAt 1 = .ok (.invokestatic 189, 3) := by decide +kernel
theorem dX8_outputAt_4 : decode cX8_outputAt 4 = .ok (.ifCond .ne 5, 3) := by decide +kernel
theorem dX8_outputAt_7 : decode cX8_outputAt 7 = .ok (.iconst 0, 1) := by decide +kernel
theorem dX8_outputAt_8 : decode cX8_outputAt 8 = .ok (.ireturn, 1) := by decide +kernel
theorem dX8_outputAt_9 : decode cX8_outputAt 9 = .ok (.aload_n 0, 1) := by decide +kernel
theorem dX8_outputAt_10 : decode cX8_outputAt 10 = .ok (.iload_n 1, 1) := by decide +kernel
theorem dX8_outputAt_11 : decode cX8_outputAt 11 = .ok (.iconst 1, 1) := by decide +kernel
theorem dX8_outputAt_12 : decode cX8_outputAt 12 = .ok (.if_icmp .ne 7, 3) := by decide +kernel
theorem dX8_outputAt_15 : decode cX8_outputAt 15 = .ok (.iconst 1, 1) := by decide +kernel
theorem dX8_outputAt_16 : decode cX8_outputAt 16 = .ok (.goto 4, 3) := by decide +kernel
theorem dX8_outputAt_19 : decode cX8_outputAt 19 = .ok (.iconst 0, 1) := by decide +kernel
theorem dX8_outputAt_20 : decode cX8_outputAt 20 = .ok (.invokevirtual 185, 3) := by decide +kernel
theorem dX8_outputAt_23 : decode cX8_outputAt 23 = .ok (.iload_n 2, 1) := by decide +kernel
theorem dX8_outputAt_24 : decode cX8_outputAt 24 = .ok (.iconst 0, 1) := by decide +kernel
theorem dX8_outputAt_25 : decode cX8_outputAt 25 = .ok (.aload_n 0, 1) := by decide +kernel
theorem dX8_outputAt_26 : decode cX8_outputAt 26 = .ok (.getfield 162, 3) := by decide +kernel
theorem dX8_outputAt_29 : decode cX8_outputAt 29 = .ok (.iconst 1, 1) := by decide +kernel
theorem dX8_outputAt_30 : decode cX8_outputAt 30 = .ok (.isub, 1) := by decide +kernel
theorem dX8_outputAt_31 : decode cX8_outputAt 31 = .ok (.invokestatic 48, 3) := by decide +kernel
theorem dX8_outputAt_34 : decode cX8_outputAt 34 = .ok (.ifCond .eq 12, 3) := by decide +kernel
theorem dX8_outputAt_37 : decode cX8_outputAt 37 = .ok (.aload_n 0, 1) := by decide +kernel
theorem dX8_outputAt_38 : decode cX8_outputAt 38 = .ok (.getfield 41, 3) := by decide +kernel
theorem dX8_outputAt_41 : decode cX8_outputAt 41 = .ok (.iload_n 2, 1) := by decide +kernel
theorem dX8_outputAt_42 : decode cX8_outputAt 42 = .ok (.iaload, 1) := by decide +kernel
theorem dX8_outputAt_43 : decode cX8_outputAt 43 = .ok (.goto 4, 3) := by decide +kernel
theorem dX8_outputAt_46 : decode cX8_outputAt 46 = .ok (.iconst 0, 1) := by decide +kernel
theorem dX8_outputAt_47 : decode cX8_outputAt 47 = .ok (.ireturn, 1) := by decide +kernel
theorem dX8_checksum_0 : decode cX8_checksum 0 = .ok (.iload_n 1, 1) := by decide +kernel
theorem dX8_checksum_1 : decode cX8_checksum 1 = .ok (.invokestatic 189, 3) := by decide +kernel
theorem dX8_checksum_4 : decode cX8_checksum 4 = .ok (.ifCond .ne 5, 3) := by decide +kernel
theorem dX8_checksum_7 : decode cX8_checksum 7 = .ok (.iconst 0, 1) := by decide +kernel
theorem dX8_checksum_8 : decode cX8_checksum 8 = .ok (.ireturn, 1) := by decide +kernel
theorem dX8_checksum_9 : decode cX8_checksum 9 = .ok (.aload_n 0, 1) := by decide +kernel
theorem dX8_checksum_10 : decode cX8_checksum 10 = .ok (.iload_n 1, 1) := by decide +kernel
theorem dX8_checksum_11 : decode cX8_checksum 11 = .ok (.iconst 1, 1) := by decide +kernel
theorem dX8_checksum_12 : decode cX8_checksum 12 = .ok (.if_icmp .ne 7, 3) := by decide +kernel
theorem dX8_checksum_15 : decode cX8_checksum 15 = .ok (.iconst 1, 1) := by decide +kernel
theorem dX8_checksum_16 : decode cX8_checksum 16 = .ok (.goto 4, 3) := by decide +kernel
theorem dX8_checksum_19 : decode cX8_checksum 19 = .ok (.iconst 0, 1) := by decide +kernel
theorem dX8_checksum_20 : decode cX8_checksum 20 = .ok (.invokevirtual 185, 3) := by decide +kernel
theorem dX8_checksum_23 : decode cX8_checksum 23 = .ok (.aload_n 0, 1) := by decide +kernel
theorem dX8_checksum_24 : decode cX8_checksum 24 = .ok (.getfield 147, 3) := by decide +kernel
theorem dX8_checksum_27 : decode cX8_checksum 27 = .ok (.ireturn, 1) := by decide +kernel
theorem dX8_cost_0 : decode cX8_cost 0 = .ok (.iload_n 1, 1) := by decide +kernel
theorem dX8_cost_1 : decode cX8_cost 1 = .ok (.invokestatic 189, 3) := by decide +kernel
theorem dX8_cost_4 : decode cX8_cost 4 = .ok (.ifCond .ne 5, 3) := by decide +kernel
theorem dX8_cost_7 : decode cX8_cost 7 = .ok (.iconst (-1), 1) := by decide +kernel
theorem dX8_cost_8 : decode cX8_cost 8 = .ok (.ireturn, 1) := by decide +kernel
theorem dX8_cost_9 : decode cX8_cost 9 = .ok (.aload_n 0, 1) := by decide +kernel
theorem dX8_cost_10 : decode cX8_cost 10 = .ok (.iload_n 1, 1) := by decide +kernel
theorem dX8_cost_11 : decode cX8_cost 11 = .ok (.iconst 1, 1) := by decide +kernel
theorem dX8_cost_12 : decode cX8_cost 12 = .ok (.if_icmp .ne 7, 3) := by decide +kernel
theorem dX8_cost_15 : decode cX8_cost 15 = .ok (.iconst 1, 1) := by decide +kernel
theorem dX8_cost_16 : decode cX8_cost 16 = .ok (.goto 4, 3) := by decide +kernel
theorem dX8_cost_19 : decode cX8_cost 19 = .ok (.iconst 0, 1) := by decide +kernel
theorem dX8_cost_20 : decode cX8_cost 20 = .ok (.invokevirtual 185, 3) := by decide +kernel
theorem dX8_cost_23 : decode cX8_cost 23 = .ok (.aload_n 0, 1) := by decide +kernel
theorem dX8_cost_24 : decode cX8_cost 24 = .ok (.getfield 150, 3) := by decide +kernel
theorem dX8_cost_27 : decode cX8_cost 27 = .ok (.ireturn, 1) := by decide +kernel
