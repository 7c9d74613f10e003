theorem dX0_init_0 : decode cX0_init 0 = .ok (.aload_n 0, 1) := by decide +kernel
theorem dX0_init_1 : decode cX0_init 1 = .ok (.invokespecial 3, 3) := by decide +kernel
theorem dX0_init_4 : decode cX0_init 4 = .ok (.aload_n 0, 1) := by decide +kernel
theorem dX0_init_5 : decode cX0_init 5 = .ok (.iconst 4, 1) := by decide +kernel
theorem dX0_init_6 : decode cX0_init 6 = .ok (.anewarray 9, 3) := by decide +kernel
theorem dX0_init_9 : decode cX0_init 9 = .ok (.putfield 11, 3) := by decide +kernel
theorem dX0_init_12 : decode cX0_init 12 = .ok (.aload_n 0, 1) := by decide +kernel
theorem dX0_init_13 : decode cX0_init 13 = .ok (.new 9, 3) := by decide +kernel
theorem dX0_init_16 : decode cX0_init 16 = .ok (.dup, 1) := by decide +kernel
theorem dX0_init_17 : decode cX0_init 17 = .ok (.invokespecial 17, 3) := by decide +kernel
theorem dX0_init_20 : decode cX0_init 20 = .ok (.putfield 18, 3) := by decide +kernel
theorem dX0_init_23 : decode cX0_init 23 = .ok (.aload_n 0, 1) := by decide +kernel
theorem dX0_init_24 : decode cX0_init 24 = .ok (.bipush 24, 2) := by decide +kernel
theorem dX0_init_26 : decode cX0_init 26 = .ok (.bipush 16, 2) := by decide +kernel
theorem dX0_init_28 : decode cX0_init 28 = .ok (.multianewarray 22 2, 4) := by decide +kernel
theorem dX0_init_32 : decode cX0_init 32 = .ok (.putfield 24, 3) := by decide +kernel
theorem dX0_init_35 : decode cX0_init 35 = .ok (.aload_n 0, 1) := by decide +kernel
theorem dX0_init_36 : decode cX0_init 36 = .ok (.iconst 1, 1) := by decide +kernel
theorem dX0_init_37 : decode cX0_init 37 = .ok (.putfield 27, 3) := by decide +kernel
theorem dX0_init_40 : decode cX0_init 40 = .ok (.iconst 0, 1) := by decide +kernel
theorem dX0_init_41 : decode cX0_init 41 = .ok (.istore_n 1, 1) := by decide +kernel
theorem dX0_init_42 : decode cX0_init 42 = .ok (.iload_n 1, 1) := by decide +kernel
theorem dX0_init_43 : decode cX0_init 43 = .ok (.iconst 4, 1) := by decide +kernel
theorem dX0_init_44 : decode cX0_init 44 = .ok (.if_icmp .ge 22, 3) := by decide +kernel
theorem dX0_init_47 : decode cX0_init 47 = .ok (.aload_n 0, 1) := by decide +kernel
theorem dX0_init_48 : decode cX0_init 48 = .ok (.getfield 11, 3) := by decide +kernel
theorem dX0_init_51 : decode cX0_init 51 = .ok (.iload_n 1, 1) := by decide +kernel
theorem dX0_init_52 : decode cX0_init 52 = .ok (.new 9, 3) := by decide +kernel
theorem dX0_init_55 : decode cX0_init 55 = .ok (.dup, 1) := by decide +kernel
theorem dX0_init_56 : decode cX0_init 56 = .ok (.invokespecial 17, 3) := by decide +kernel
theorem dX0_init_59 : decode cX0_init 59 = .ok (.aastore, 1) := by decide +kernel
theorem dX0_init_60 : decode cX0_init 60 = .ok (.iinc 1 1, 3) := by decide +kernel
theorem dX0_init_63 : decode cX0_init 63 = .ok (.goto (-21), 3) := by decide +kernel
theorem dX0_init_66 : decode cX0_init 66 = .ok (.return_, 1) := by decide +kernel
theorem dX0_layoutOf_0 : decode cX0_layoutOf 0 = .ok (.iload_n 1, 1) := by decide +kernel
theorem dX0_layoutOf_1 : decode cX0_layoutOf 1 = .ok (.ifCond .lt 17, 3) := by decide +kernel
theorem dX0_layoutOf_4 : decode cX0_layoutOf 4 = .ok (.iload_n 1, 1) := by decide +kernel
theorem dX0_layoutOf_5 : decode cX0_layoutOf 5 = .ok (.iconst 4, 1) := by decide +kernel
theorem dX0_layoutOf_6 : decode cX0_layoutOf 6 = .ok (.if_icmp .ge 12, 3) := by decide +kernel
theorem dX0_layoutOf_9 : decode cX0_layoutOf 9 = .ok (.aload_n 0, 1) := by decide +kernel
theorem dX0_layoutOf_10 : decode cX0_layoutOf 10 = .ok (.getfield 11, 3) := by decide +kernel
theorem dX0_layoutOf_13 : decode cX0_layoutOf 13 = .ok (.iload_n 1, 1) := by decide +kernel
theorem dX0_layoutOf_14 : decode cX0_layoutOf 14 = .ok (.aaload, 1) := by decide +kernel
theorem dX0_layoutOf_15 : decode cX0_layoutOf 15 = .ok (.goto 7, 3) := by decide +kernel
theorem dX0_layoutOf_18 : decode cX0_layoutOf 18 = .ok (.aload_n 0, 1) := by decide +kernel
theorem dX0_layoutOf_19 : decode cX0_layoutOf 19 = .ok (.getfield 18, 3) := by decide +kernel
theorem dX0_layoutOf_22 : decode cX0_layoutOf 22 = .ok (.areturn, 1) := by decide +kernel
theorem dX0_refresh_0 : decode cX0_refresh 0 = .ok (.aload_n 0, 1) := by decide +kernel
theorem dX0_refresh_1 : decode cX0_refresh 1 = .ok (.getfield 27, 3) := by decide +kernel
theorem dX0_refresh_4 : decode cX0_refresh 4 = .ok (.ifCond .ne 4, 3) := by decide +kernel
theorem dX0_refresh_7 : decode cX0_refresh 7 = .ok (.return_, 1) := by decide +kernel
theorem dX0_refresh_8 : decode cX0_refresh 8 = .ok (.aload_n 0, 1) := by decide +kernel
theorem dX0_refresh_9 : decode cX0_refresh 9 = .ok (.iconst 0, 1) := by decide +kernel
theorem dX0_refresh_10 : decode cX0_refresh 10 = .ok (.putfield 27, 3) := by decide +kernel
theorem dX0_refresh_13 : decode cX0_refresh 13 = .ok (.iconst 0, 1) := by decide +kernel
theorem dX0_refresh_14 : decode cX0_refresh 14 = .ok (.istore_n 2, 1) := by decide +kernel
theorem dX0_refresh_15 : decode cX0_refresh 15 = .ok (.iload_n 2, 1) := by decide +kernel
theorem dX0_refresh_16 : decode cX0_refresh 16 = .ok (.iconst 4, 1) := by decide +kernel
theorem dX0_refresh_17 : decode cX0_refresh 17 = .ok (.if_icmp .ge 23, 3) := by decide +kernel
theorem dX0_refresh_20 : decode cX0_refresh 20 = .ok (.aload_n 0, 1) := by decide +kernel
theorem dX0_refresh_21 : decode cX0_refresh 21 = .ok (.getfield 11, 3) := by decide +kernel
theorem dX0_refresh_24 : decode cX0_refresh 24 = .ok (.iload_n 2, 1) := by decide +kernel
theorem dX0_refresh_25 : decode cX0_refresh 25 = .ok (.aaload, 1) := by decide +kernel
theorem dX0_refresh_26 : decode cX0_refresh 26 = .ok (.aload_n 1, 1) := by decide +kernel
theorem dX0_refresh_27 : decode cX0_refresh 27 = .ok (.iload_n 2, 1) := by decide +kernel
theorem dX0_refresh_28 : decode cX0_refresh 28 = .ok (.invokevirtual 31, 3) := by decide +kernel
theorem dX0_refresh_31 : decode cX0_refresh 31 = .ok (.invokevirtual 37, 3) := by decide +kernel
theorem dX0_refresh_34 : decode cX0_refresh 34 = .ok (.iinc 2 1, 3) := by decide +kernel
theorem dX0_refresh_37 : decode cX0_refresh 37 = .ok (.goto (-22), 3) := by decide +kernel
theorem dX0_refresh_40 : decode cX0_refresh 40 = .ok (.iconst 0, 1) := by decide +kernel
theorem dX0_refresh_41 : decode cX0_refresh 41 = .ok (.istore_n 2, 1) := by decide +kernel
theorem dX0_refresh_42 : decode cX0_refresh 42 = .ok (.iload_n 2, 1) := by decide +kernel
theorem dX0_refresh_43 : decode cX0_refresh 43 = .ok (.aload_n 1, 1) := by decide +kernel
theorem dX0_refresh_44 : decode cX0_refresh 44 = .ok (.getfield 41, 3) := by decide +kernel
theorem dX0_refresh_47 : decode cX0_refresh 47 = .ok (.if_icmp .ge 19, 3) := by decide +kernel
theorem dX0_refresh_50 : decode cX0_refresh 50 = .ok (.aload_n 0, 1) := by decide +kernel
theorem dX0_refresh_51 : decode cX0_refresh 51 = .ok (.aload_n 1, 1) := by decide +kernel
theorem dX0_refresh_52 : decode cX0_refresh 52 = .ok (.iload_n 2, 1) := by decide +kernel
theorem dX0_refresh_53 : decode cX0_refresh 53 = .ok (.invokevirtual 45, 3) := by decide +kernel
theorem dX0_refresh_56 : decode cX0_refresh 56 = .ok (.iload_n 2, 1) := by decide +kernel
theorem dX0_refresh_57 : decode cX0_refresh 57 = .ok (.invokevirtual 49, 3) := by decide +kernel
theorem dX0_refresh_60 : decode cX0_refresh 60 = .ok (.iinc 2 1, 3) := by decide +kernel
theorem dX0_refresh_63 : decode cX0_refresh 63 = .ok (.goto (-21), 3) := by decide +kernel
theorem dX0_refresh_66 : decode cX0_refresh 66 = .ok (.iconst 0, 1) := by decide +kernel
theorem dX0_refresh_67 : decode cX0_refresh 67 = .ok (.istore_n 2, 1) := by decide +kernel
theorem dX0_refresh_68 : decode cX0_refresh 68 = .ok (.iload_n 2, 1) := by decide +kernel
theorem dX0_refresh_69 : decode cX0_refresh 69 = .ok (.iconst 4, 1) := by decide +kernel
theorem dX0_refresh_70 : decode cX0_refresh 70 = .ok (.if_icmp .ge 18, 3) := by decide +kernel
theorem dX0_refresh_73 : decode cX0_refresh 73 = .ok (.aload_n 0, 1) := by decide +kernel
theorem dX0_refresh_74 : decode cX0_refresh 74 = .ok (.getfield 11, 3) := by decide +kernel
theorem dX0_refresh_77 : decode cX0_refresh 77 = .ok (.iload_n 2, 1) := by decide +kernel
theorem dX0_refresh_78 : decode cX0_refresh 78 = .ok (.aaload, 1) := by decide +kernel
theorem dX0_refresh_79 : decode cX0_refresh 79 = .ok (.invokevirtual 53, 3) := by decide +kernel
theorem dX0_refresh_82 : decode cX0_refresh 82 = .ok (.iinc 2 1, 3) := by decide +kernel
theorem dX0_refresh_85 : decode cX0_refresh 85 = .ok (.goto (-17), 3) := by decide +kernel
theorem dX0_refresh_88 : decode cX0_refresh 88 = .ok (.iconst 0, 1) := by decide +kernel
theorem dX0_refresh_89 : decode cX0_refresh 89 = .ok (.istore_n 2, 1) := by decide +kernel
theorem dX0_refresh_90 : decode cX0_refresh 90 = .ok (.iload_n 2, 1) := by decide +kernel
theorem dX0_refresh_91 : decode cX0_refresh 91 = .ok (.aload_n 1, 1) := by decide +kernel
theorem dX0_refresh_92 : decode cX0_refresh 92 = .ok (.getfield 41, 3) := by decide +kernel
theorem dX0_refresh_95 : decode cX0_refresh 95 = .ok (.if_icmp .ge 29, 3) := by decide +kernel
theorem dX0_refresh_98 : decode cX0_refresh 98 = .ok (.aload_n 0, 1) := by decide +kernel
theorem dX0_refresh_99 : decode cX0_refresh 99 = .ok (.aload_n 1, 1) := by decide +kernel
theorem dX0_refresh_100 : decode cX0_refresh 100 = .ok (.iload_n 2, 1) := by decide +kernel
theorem dX0_refresh_101 : decode cX0_refresh 101 = .ok (.invokevirtual 45, 3) := by decide +kernel
theorem dX0_refresh_104 : decode cX0_refresh 104 = .ok (.iload_n 2, 1) := by decide +kernel
theorem dX0_refresh_105 : decode cX0_refresh 105 = .ok (.invokevirtual 56, 3) := by decide +kernel
theorem dX0_refresh_108 : decode cX0_refresh 108 = .ok (.aload_n 0, 1) := by decide +kernel
theorem dX0_refresh_109 : decode cX0_refresh 109 = .ok (.aload_n 1, 1) := by decide +kernel
theorem dX0_refresh_110 : decode cX0_refresh 110 = .ok (.iload_n 2, 1) := by decide +kernel
theorem dX0_refresh_111 : decode cX0_refresh 111 = .ok (.invokevirtual 45, 3) := by decide +kernel
theorem dX0_refresh_114 : decode cX0_refresh 114 = .ok (.iload_n 2, 1) := by decide +kernel
theorem dX0_refresh_115 : decode cX0_refresh 115 = .ok (.invokevirtual 59, 3) := by decide +kernel
theorem dX0_refresh_118 : decode cX0_refresh 118 = .ok (.iinc 2 1, 3) := by decide +kernel
theorem dX0_refresh_121 : decode cX0_refresh 121 = .ok (.goto (-31), 3) := by decide +kernel
theorem dX0_refresh_124 : decode cX0_refresh 124 = .ok (.aload_n 0, 1) := by decide +kernel
theorem dX0_refresh_125 : decode cX0_refresh 125 = .ok (.aload_n 1, 1) := by decide +kernel
theorem dX0_refresh_126 : decode cX0_refresh 126 = .ok (.invokevirtual 62, 3) := by decide +kernel
theorem dX0_refresh_129 : decode cX0_refresh 129 = .ok (.return_, 1) := by decide +kernel
theorem dX0_collectRanges_0 : decode cX0_collectRanges 0 = .ok (.aload_n 0, 1) := by decide +kernel
theorem dX0_collectRanges_1 : decode cX0_collectRanges 1 = .ok (.aload_n 1, 1) := by decide +kernel
theorem dX0_collectRanges_2 : decode cX0_collectRanges 2 = .ok (.getfield 66, 3) := by decide +kernel
theorem dX0_collectRanges_5 : decode cX0_collectRanges 5 = .ok (.invokevirtual 71, 3) := by decide +kernel
theorem dX0_collectRanges_8 : decode cX0_collectRanges 8 = .ok (.astore_n 3, 1) := by decide +kernel
theorem dX0_collectRanges_9 : decode cX0_collectRanges 9 = .ok (.aload_n 1, 1) := by decide +kernel
theorem dX0_collectRanges_10 : decode cX0_collectRanges 10 = .ok (.invokevirtual 75, 3) := by decide +kernel
theorem dX0_collectRanges_13 : decode cX0_collectRanges 13 = .ok (.ifCond .eq 18, 3) := by decide +kernel
theorem dX0_collectRanges_16 : decode cX0_collectRanges 16 = .ok (.aload_n 3, 1) := by decide +kernel
theorem dX0_collectRanges_17 : decode cX0_collectRanges 17 = .ok (.aload_n 1, 1) := by decide +kernel
theorem dX0_collectRanges_18 : decode cX0_collectRanges 18 = .ok (.getfield 79, 3) := by decide +kernel
theorem dX0_collectRanges_21 : decode cX0_collectRanges 21 = .ok (.aload_n 1, 1) := by decide +kernel
theorem dX0_collectRanges_22 : decode cX0_collectRanges 22 = .ok (.getfield 82, 3) := by decide +kernel
theorem dX0_collectRanges_25 : decode cX0_collectRanges 25 = .ok (.invokevirtual 85, 3) := by decide +kernel
theorem dX0_collectRanges_28 : decode cX0_collectRanges 28 = .ok (.goto 70, 3) := by decide +kernel
theorem dX0_collectRanges_31 : decode cX0_collectRanges 31 = .ok (.aload_n 1, 1) := by decide +kernel
theorem dX0_collectRanges_32 : decode cX0_collectRanges 32 = .ok (.getfield 89, 3) := by decide +kernel
theorem dX0_collectRanges_35 : decode cX0_collectRanges 35 = .ok (.iconst 4, 1) := by decide +kernel
theorem dX0_collectRanges_36 : decode cX0_collectRanges 36 = .ok (.if_icmp .ne 11, 3) := by decide +kernel
theorem dX0_collectRanges_39 : decode cX0_collectRanges 39 = .ok (.aload_n 3, 1) := by decide +kernel
theorem dX0_collectRanges_40 : decode cX0_collectRanges 40 = .ok (.iconst 1, 1) := by decide +kernel
theorem dX0_collectRanges_41 : decode cX0_collectRanges 41 = .ok (.putfield 92, 3) := by decide +kernel
theorem dX0_collectRanges_44 : decode cX0_collectRanges 44 = .ok (.goto 54, 3) := by decide +kernel
theorem dX0_collectRanges_47 : decode cX0_collectRanges 47 = .ok (.aload_n 1, 1) := by decide +kernel
theorem dX0_collectRanges_48 : decode cX0_collectRanges 48 = .ok (.getfield 89, 3) := by decide +kernel
theorem dX0_collectRanges_51 : decode cX0_collectRanges 51 = .ok (.iconst 3, 1) := by decide +kernel
theorem dX0_collectRanges_52 : decode cX0_collectRanges 52 = .ok (.if_icmp .ne 46, 3) := by decide +kernel
theorem dX0_collectRanges_55 : decode cX0_collectRanges 55 = .ok (.aload_n 3, 1) := by decide +kernel
theorem dX0_collectRanges_56 : decode cX0_collectRanges 56 = .ok (.aload_n 1, 1) := by decide +kernel
theorem dX0_collectRanges_57 : decode cX0_collectRanges 57 = .ok (.getfield 79, 3) := by decide +kernel
theorem dX0_collectRanges_60 : decode cX0_collectRanges 60 = .ok (.aload_n 1, 1) := by decide +kernel
theorem dX0_collectRanges_61 : decode cX0_collectRanges 61 = .ok (.getfield 82, 3) := by decide +kernel
theorem dX0_collectRanges_64 : decode cX0_collectRanges 64 = .ok (.lconst 1, 1) := by decide +kernel
theorem dX0_collectRanges_65 : decode cX0_collectRanges 65 = .ok (.iconst 2, 1) := by decide +kernel
theorem dX0_collectRanges_66 : decode cX0_collectRanges 66 = .ok (.iload_n 2, 1) := by decide +kernel
theorem dX0_collectRanges_67 : decode cX0_collectRanges 67 = .ok (.imul, 1) := by decide +kernel
theorem dX0_collectRanges_68 : decode cX0_collectRanges 68 = .ok (.lshl, 1) := by decide +kernel
theorem dX0_collectRanges_69 : decode cX0_collectRanges 69 = .ok (.invokevirtual 95, 3) := by decide +kernel
theorem dX0_collectRanges_72 : decode cX0_collectRanges 72 = .ok (.aload_n 0, 1) := by decide +kernel
theorem dX0_collectRanges_73 : decode cX0_collectRanges 73 = .ok (.aload_n 1, 1) := by decide +kernel
theorem dX0_collectRanges_74 : decode cX0_collectRanges 74 = .ok (.getfield 99, 3) := by decide +kernel
theorem dX0_collectRanges_77 : decode cX0_collectRanges 77 = .ok (.invokevirtual 71, 3) := by decide +kernel
theorem dX0_collectRanges_80 : decode cX0_collectRanges 80 = .ok (.aload_n 1, 1) := by decide +kernel
theorem dX0_collectRanges_81 : decode cX0_collectRanges 81 = .ok (.getfield 102, 3) := by decide +kernel
theorem dX0_collectRanges_84 : decode cX0_collectRanges 84 = .ok (.aload_n 1, 1) := by decide +kernel
theorem dX0_collectRanges_85 : decode cX0_collectRanges 85 = .ok (.getfield 82, 3) := by decide +kernel
theorem dX0_collectRanges_88 : decode cX0_collectRanges 88 = .ok (.lconst 1, 1) := by decide +kernel
theorem dX0_collectRanges_89 : decode cX0_collectRanges 89 = .ok (.iconst 2, 1) := by decide +kernel
theorem dX0_collectRanges_90 : decode cX0_collectRanges 90 = .ok (.iload_n 2, 1) := by decide +kernel
theorem dX0_collectRanges_91 : decode cX0_collectRanges 91 = .ok (.imul, 1) := by decide +kernel
theorem dX0_collectRanges_92 : decode cX0_collectRanges 92 = .ok (.iconst 1, 1) := by decide +kernel
theorem dX0_collectRanges_93 : decode cX0_collectRanges 93 = .ok (.iadd, 1) := by decide +kernel
theorem dX0_collectRanges_94 : decode cX0_collectRanges 94 = .ok (.lshl, 1) := by decide +kernel
theorem dX0_collectRanges_95 : decode cX0_collectRanges 95 = .ok (.invokevirtual 95, 3) := by decide +kernel
theorem dX0_collectRanges_98 : decode cX0_collectRanges 98 = .ok (.return_, 1) := by decide +kernel
theorem dX0_cutIntoPieces_0 : decode cX0_cutIntoPieces 0 = .ok (.aload_n 1, 1) := by decide +kernel
theorem dX0_cutIntoPieces_1 : decode cX0_cutIntoPieces 1 = .ok (.getfield 89, 3) := by decide +kernel
theorem dX0_cutIntoPieces_4 : decode cX0_cutIntoPieces 4 = .ok (.iconst 3, 1) := by decide +kernel
theorem dX0_cutIntoPieces_5 : decode cX0_cutIntoPieces 5 = .ok (.if_icmp .ne 10, 3) := by decide +kernel
theorem dX0_cutIntoPieces_8 : decode cX0_cutIntoPieces 8 = .ok (.aload_n 1, 1) := by decide +kernel
theorem dX0_cutIntoPieces_9 : decode cX0_cutIntoPieces 9 = .ok (.getfield 82, 3) := by decide +kernel
theorem dX0_cutIntoPieces_12 : decode cX0_cutIntoPieces 12 = .ok (.goto 4, 3) := by decide +kernel
theorem dX0_cutIntoPieces_15 : decode cX0_cutIntoPieces 15 = .ok (.iconst 0, 1) := by decide +kernel
theorem dX0_cutIntoPieces_16 : decode cX0_cutIntoPieces 16 = .ok (.istore_n 3, 1) := by decide +kernel
theorem dX0_cutIntoPieces_17 : decode cX0_cutIntoPieces 17 = .ok (.bipush 15, 2) := by decide +kernel
theorem dX0_cutIntoPieces_19 : decode cX0_cutIntoPieces 19 = .ok (.istore 4, 2) := by decide +kernel
theorem dX0_cutIntoPieces_21 : decode cX0_cutIntoPieces 21 = .ok (.iload 4, 2) := by decide +kernel
theorem dX0_cutIntoPieces_23 : decode cX0_cutIntoPieces 23 = .ok (.ifCond .lt 51, 3) := by decide +kernel
theorem dX0_cutIntoPieces_26 : decode cX0_cutIntoPieces 26 = .ok (.aload_n 0, 1) := by decide +kernel
theorem dX0_cutIntoPieces_27 : decode cX0_cutIntoPieces 27 = .ok (.getfield 24, 3) := by decide +kernel
theorem dX0_cutIntoPieces_30 : decode cX0_cutIntoPieces 30 = .ok (.iload_n 2, 1) := by decide +kernel
theorem dX0_cutIntoPieces_31 : decode cX0_cutIntoPieces 31 = .ok (.aaload, 1) := by decide +kernel
theorem dX0_cutIntoPieces_32 : decode cX0_cutIntoPieces 32 = .ok (.iload 4, 2) := by decide +kernel
theorem dX0_cutIntoPieces_34 : decode cX0_cutIntoPieces 34 = .ok (.iconst 0, 1) := by decide +kernel
theorem dX0_cutIntoPieces_35 : decode cX0_cutIntoPieces 35 = .ok (.iastore, 1) := by decide +kernel
theorem dX0_cutIntoPieces_36 : decode cX0_cutIntoPieces 36 = .ok (.iload 4, 2) := by decide +kernel
theorem dX0_cutIntoPieces_38 : decode cX0_cutIntoPieces 38 = .ok (.iload_n 3, 1) := by decide +kernel
theorem dX0_cutIntoPieces_39 : decode cX0_cutIntoPieces 39 = .ok (.if_icmp .ge 29, 3) := by decide +kernel
theorem dX0_cutIntoPieces_42 : decode cX0_cutIntoPieces 42 = .ok (.aload_n 0, 1) := by decide +kernel
theorem dX0_cutIntoPieces_43 : decode cX0_cutIntoPieces 43 = .ok (.aload_n 1, 1) := by decide +kernel
theorem dX0_cutIntoPieces_44 : decode cX0_cutIntoPieces 44 = .ok (.iload 4, 2) := by decide +kernel
theorem dX0_cutIntoPieces_46 : decode cX0_cutIntoPieces 46 = .ok (.invokevirtual 105, 3) := by decide +kernel
theorem dX0_cutIntoPieces_49 : decode cX0_cutIntoPieces 49 = .ok (.ifCond .eq 19, 3) := by decide +kernel
theorem dX0_cutIntoPieces_52 : decode cX0_cutIntoPieces 52 = .ok (.aload_n 0, 1) := by decide +kernel
theorem dX0_cutIntoPieces_53 : decode cX0_cutIntoPieces 53 = .ok (.getfield 24, 3) := by decide +kernel
theorem dX0_cutIntoPieces_56 : decode cX0_cutIntoPieces 56 = .ok (.iload_n 2, 1) := by decide +kernel
theorem dX0_cutIntoPieces_57 : decode cX0_cutIntoPieces 57 = .ok (.aaload, 1) := by decide +kernel
theorem dX0_cutIntoPieces_58 : decode cX0_cutIntoPieces 58 = .ok (.iload 4, 2) := by decide +kernel
theorem dX0_cutIntoPieces_60 : decode cX0_cutIntoPieces 60 = .ok (.iload_n 3, 1) := by decide +kernel
theorem dX0_cutIntoPieces_61 : decode cX0_cutIntoPieces 61 = .ok (.iload 4, 2) := by decide +kernel
theorem dX0_cutIntoPieces_63 : decode cX0_cutIntoPieces 63 = .ok (.isub, 1) := by decide +kernel
theorem dX0_cutIntoPieces_64 : decode cX0_cutIntoPieces 64 = .ok (.iastore, 1) := by decide +kernel
theorem dX0_cutIntoPieces_65 : decode cX0_cutIntoPieces 65 = .ok (.iload 4, 2) := by decide +kernel
theorem dX0_cutIntoPieces_67 : decode cX0_cutIntoPieces 67 = .ok (.istore_n 3, 1) := by decide +kernel
theorem dX0_cutIntoPieces_68 : decode cX0_cutIntoPieces 68 = .ok (.iinc 4 (-1), 3) := by decide +kernel
theorem dX0_cutIntoPieces_71 : decode cX0_cutIntoPieces 71 = .ok (.goto (-50), 3) := by decide +kernel
theorem dX0_cutIntoPieces_74 : decode cX0_cutIntoPieces 74 = .ok (.return_, 1) := by decide +kernel
theorem dX0_beginsPiece_0 : decode cX0_beginsPiece 0 = .ok (.iload_n 2, 1) := by decide +kernel
theorem dX0_beginsPiece_1 : decode cX0_beginsPiece 1 = .ok (.ifCond .eq 43, 3) := by decide +kernel
theorem dX0_beginsPiece_4 : decode cX0_beginsPiece 4 = .ok (.aload_n 0, 1) := by decide +kernel
theorem dX0_beginsPiece_5 : decode cX0_beginsPiece 5 = .ok (.aload_n 1, 1) := by decide +kernel
theorem dX0_beginsPiece_6 : decode cX0_beginsPiece 6 = .ok (.getfield 66, 3) := by decide +kernel
theorem dX0_beginsPiece_9 : decode cX0_beginsPiece 9 = .ok (.invokevirtual 71, 3) := by decide +kernel
theorem dX0_beginsPiece_12 : decode cX0_beginsPiece 12 = .ok (.aload_n 1, 1) := by decide +kernel
theorem dX0_beginsPiece_13 : decode cX0_beginsPiece 13 = .ok (.getfield 79, 3) := by decide +kernel
theorem dX0_beginsPiece_16 : decode cX0_beginsPiece 16 = .ok (.iload_n 2, 1) := by decide +kernel
theorem dX0_beginsPiece_17 : decode cX0_beginsPiece 17 = .ok (.iadd, 1) := by decide +kernel
theorem dX0_beginsPiece_18 : decode cX0_beginsPiece 18 = .ok (.invokevirtual 109, 3) := by decide +kernel
theorem dX0_beginsPiece_21 : decode cX0_beginsPiece 21 = .ok (.ifCond .ne 23, 3) := by decide +kernel
theorem dX0_beginsPiece_24 : decode cX0_beginsPiece 24 = .ok (.aload_n 0, 1) := by decide +kernel
theorem dX0_beginsPiece_25 : decode cX0_beginsPiece 25 = .ok (.aload_n 1, 1) := by decide +kernel
theorem dX0_beginsPiece_26 : decode cX0_beginsPiece 26 = .ok (.getfield 99, 3) := by decide +kernel
theorem dX0_beginsPiece_29 : decode cX0_beginsPiece 29 = .ok (.invokevirtual 71, 3) := by decide +kernel
theorem dX0_beginsPiece_32 : decode cX0_beginsPiece 32 = .ok (.aload_n 1, 1) := by decide +kernel
theorem dX0_beginsPiece_33 : decode cX0_beginsPiece 33 = .ok (.getfield 102, 3) := by decide +kernel
theorem dX0_beginsPiece_36 : decode cX0_beginsPiece 36 = .ok (.iload_n 2, 1) := by decide +kernel
theorem dX0_beginsPiece_37 : decode cX0_beginsPiece 37 = .ok (.iadd, 1) := by decide +kernel
theorem dX0_beginsPiece_38 : decode cX0_beginsPiece 38 = .ok (.invokevirtual 109, 3) := by decide +kernel
theorem dX0_beginsPiece_41 : decode cX0_beginsPiece 41 = .ok (.ifCond .eq 7, 3) := by decide +kernel
theorem dX0_beginsPiece_44 : decode cX0_beginsPiece 44 = .ok (.iconst 1, 1) := by decide +kernel
theorem dX0_beginsPiece_45 : decode cX0_beginsPiece 45 = .ok (.goto 4, 3) := by decide +kernel
theorem dX0_beginsPiece_48 : decode cX0_beginsPiece 48 = .ok (.iconst 0, 1) := by decide +kernel
theorem dX0_beginsPiece_49 : decode cX0_beginsPiece 49 = .ok (.ireturn, 1) := by decide +kernel
theorem dX0_touchPartitions_0 : decode cX0_touchPartitions 0 = .ok (.aload_n 1, 1) := by decide +kernel
theorem dX0_touchPartitions_1 : decode cX0_touchPartitions 1 = .ok (.invokevirtual 75, 3) := by decide +kernel
theorem dX0_touchPartitions_4 : decode cX0_touchPartitions 4 = .ok (.ifCond .eq 40, 3) := by decide +kernel
theorem dX0_touchPartitions_7 : decode cX0_touchPartitions 7 = .ok (.aload_n 0, 1) := by decide +kernel
theorem dX0_touchPartitions_8 : decode cX0_touchPartitions 8 = .ok (.aload_n 1, 1) := by decide +kernel
theorem dX0_touchPartitions_9 : decode cX0_touchPartitions 9 = .ok (.iconst 0, 1) := by decide +kernel
theorem dX0_touchPartitions_10 : decode cX0_touchPartitions 10 = .ok (.invokevirtual 113, 3) := by decide +kernel
theorem dX0_touchPartitions_13 : decode cX0_touchPartitions 13 = .ok (.astore_n 3, 1) := by decide +kernel
theorem dX0_touchPartitions_14 : decode cX0_touchPartitions 14 = .ok (.aload_n 3, 1) := by decide +kernel
theorem dX0_touchPartitions_15 : decode cX0_touchPartitions 15 = .ok (.aload_n 1, 1) := by decide +kernel
theorem dX0_touchPartitions_16 : decode cX0_touchPartitions 16 = .ok (.getfield 82, 3) := by decide +kernel
theorem dX0_touchPartitions_19 : decode cX0_touchPartitions 19 = .ok (.invokevirtual 117, 3) := by decide +kernel
theorem dX0_touchPartitions_22 : decode cX0_touchPartitions 22 = .ok (.aload_n 3, 1) := by decide +kernel
theorem dX0_touchPartitions_23 : decode cX0_touchPartitions 23 = .ok (.dup, 1) := by decide +kernel
theorem dX0_touchPartitions_24 : decode cX0_touchPartitions 24 = .ok (.getfield 122, 3) := by decide +kernel
theorem dX0_touchPartitions_27 : decode cX0_touchPartitions 27 = .ok (.aload_n 1, 1) := by decide +kernel
theorem dX0_touchPartitions_28 : decode cX0_touchPartitions 28 = .ok (.getfield 89, 3) := by decide +kernel
theorem dX0_touchPartitions_31 : decode cX0_touchPartitions 31 = .ok (.iconst 2, 1) := by decide +kernel
theorem dX0_touchPartitions_32 : decode cX0_touchPartitions 32 = .ok (.if_icmp .ne 7, 3) := by decide +kernel
theorem dX0_touchPartitions_35 : decode cX0_touchPartitions 35 = .ok (.iconst 1, 1) := by decide +kernel
theorem dX0_touchPartitions_36 : decode cX0_touchPartitions 36 = .ok (.goto 4, 3) := by decide +kernel
theorem dX0_touchPartitions_39 : decode cX0_touchPartitions 39 = .ok (.iconst 0, 1) := by decide +kernel
theorem dX0_touchPartitions_40 : decode cX0_touchPartitions 40 = .ok (.ior, 1) := by decide +kernel
theorem dX0_touchPartitions_41 : decode cX0_touchPartitions 41 = .ok (.putfield 122, 3) := by decide +kernel
theorem dX0_touchPartitions_44 : decode cX0_touchPartitions 44 = .ok (.iconst 0, 1) := by decide +kernel
theorem dX0_touchPartitions_45 : decode cX0_touchPartitions 45 = .ok (.istore_n 3, 1) := by decide +kernel
theorem dX0_touchPartitions_46 : decode cX0_touchPartitions 46 = .ok (.iload_n 3, 1) := by decide +kernel
theorem dX0_touchPartitions_47 : decode cX0_touchPartitions 47 = .ok (.bipush 16, 2) := by decide +kernel
theorem dX0_touchPartitions_49 : decode cX0_touchPartitions 49 = .ok (.if_icmp .ge 46, 3) := by decide +kernel
theorem dX0_touchPartitions_52 : decode cX0_touchPartitions 52 = .ok (.aload_n 0, 1) := by decide +kernel
theorem dX0_touchPartitions_53 : decode cX0_touchPartitions 53 = .ok (.getfield 24, 3) := by decide +kernel
theorem dX0_touchPartitions_56 : decode cX0_touchPartitions 56 = .ok (.iload_n 2, 1) := by decide +kernel
theorem dX0_touchPartitions_57 : decode cX0_touchPartitions 57 = .ok (.aaload, 1) := by decide +kernel
theorem dX0_touchPartitions_58 : decode cX0_touchPartitions 58 = .ok (.iload_n 3, 1) := by decide +kernel
theorem dX0_touchPartitions_59 : decode cX0_touchPartitions 59 = .ok (.iaload, 1) := by decide +kernel
theorem dX0_touchPartitions_60 : decode cX0_touchPartitions 60 = .ok (.istore 4, 2) := by decide +kernel
theorem dX0_touchPartitions_62 : decode cX0_touchPartitions 62 = .ok (.iload 4, 2) := by decide +kernel
theorem dX0_touchPartitions_64 : decode cX0_touchPartitions 64 = .ok (.ifCond .le 25, 3) := by decide +kernel
theorem dX0_touchPartitions_67 : decode cX0_touchPartitions 67 = .ok (.aload_n 0, 1) := by decide +kernel
theorem dX0_touchPartitions_68 : decode cX0_touchPartitions 68 = .ok (.aload_n 1, 1) := by decide +kernel
theorem dX0_touchPartitions_69 : decode cX0_touchPartitions 69 = .ok (.iload_n 3, 1) := by decide +kernel
theorem dX0_touchPartitions_70 : decode cX0_touchPartitions 70 = .ok (.invokevirtual 113, 3) := by decide +kernel
theorem dX0_touchPartitions_73 : decode cX0_touchPartitions 73 = .ok (.iload 4, 2) := by decide +kernel
theorem dX0_touchPartitions_75 : decode cX0_touchPartitions 75 = .ok (.invokevirtual 117, 3) := by decide +kernel
theorem dX0_touchPartitions_78 : decode cX0_touchPartitions 78 = .ok (.aload_n 0, 1) := by decide +kernel
theorem dX0_touchPartitions_79 : decode cX0_touchPartitions 79 = .ok (.aload_n 1, 1) := by decide +kernel
theorem dX0_touchPartitions_80 : decode cX0_touchPartitions 80 = .ok (.iload_n 3, 1) := by decide +kernel
theorem dX0_touchPartitions_81 : decode cX0_touchPartitions 81 = .ok (.invokevirtual 125, 3) := by decide +kernel
theorem dX0_touchPartitions_84 : decode cX0_touchPartitions 84 = .ok (.iload 4, 2) := by decide +kernel
theorem dX0_touchPartitions_86 : decode cX0_touchPartitions 86 = .ok (.invokevirtual 117, 3) := by decide +kernel
theorem dX0_touchPartitions_89 : decode cX0_touchPartitions 89 = .ok (.iinc 3 1, 3) := by decide +kernel
theorem dX0_touchPartitions_92 : decode cX0_touchPartitions 92 = .ok (.goto (-46), 3) := by decide +kernel
theorem dX0_touchPartitions_95 : decode cX0_touchPartitions 95 = .ok (.return_, 1) := by decide +kernel
theorem dX0_markLive_0 : decode cX0_markLive 0 = .ok (.iconst 1, 1) := by decide +kernel
theorem dX0_markLive_1 : decode cX0_markLive 1 = .ok (.istore_n 2, 1) := by decide +kernel
theorem dX0_markLive_2 : decode cX0_markLive 2 = .ok (.iconst 0, 1) := by decide +kernel
theorem dX0_markLive_3 : decode cX0_markLive 3 = .ok (.istore_n 3, 1) := by decide +kernel
theorem dX0_markLive_4 : decode cX0_markLive 4 = .ok (.iload_n 2, 1) := by decide +kernel
theorem dX0_markLive_5 : decode cX0_markLive 5 = .ok (.ifCond .eq 51, 3) := by decide +kernel
theorem dX0_markLive_8 : decode cX0_markLive 8 = .ok (.iload_n 3, 1) := by decide +kernel
theorem dX0_markLive_9 : decode cX0_markLive 9 = .ok (.bipush 64, 2) := by decide +kernel
theorem dX0_markLive_11 : decode cX0_markLive 11 = .ok (.if_icmp .gt 45, 3) := by decide +kernel
theorem dX0_markLive_14 : decode cX0_markLive 14 = .ok (.iconst 0, 1) := by decide +kernel
theorem dX0_markLive_15 : decode cX0_markLive 15 = .ok (.istore_n 2, 1) := by decide +kernel
theorem dX0_markLive_16 : decode cX0_markLive 16 = .ok (.aload_n 1, 1) := by decide +kernel
theorem dX0_markLive_17 : decode cX0_markLive 17 = .ok (.getfield 41, 3) := by decide +kernel
theorem dX0_markLive_20 : decode cX0_markLive 20 = .ok (.iconst 1, 1) := by decide +kernel
theorem dX0_markLive_21 : decode cX0_markLive 21 = .ok (.isub, 1) := by decide +kernel
theorem dX0_markLive_22 : decode cX0_markLive 22 = .ok (.istore 4, 2) := by decide +kernel
theorem dX0_markLive_24 : decode cX0_markLive 24 = .ok (.iload 4, 2) := by decide +kernel
theorem dX0_markLive_26 : decode cX0_markLive 26 = .ok (.ifCond .lt 24, 3) := by decide +kernel
theorem dX0_markLive_29 : decode cX0_markLive 29 = .ok (.iload_n 2, 1) := by decide +kernel
theorem dX0_markLive_30 : decode cX0_markLive 30 = .ok (.aload_n 0, 1) := by decide +kernel
theorem dX0_markLive_31 : decode cX0_markLive 31 = .ok (.aload_n 1, 1) := by decide +kernel
theorem dX0_markLive_32 : decode cX0_markLive 32 = .ok (.iload 4, 2) := by decide +kernel
theorem dX0_markLive_34 : decode cX0_markLive 34 = .ok (.invokevirtual 45, 3) := by decide +kernel
theorem dX0_markLive_37 : decode cX0_markLive 37 = .ok (.iload 4, 2) := by decide +kernel
theorem dX0_markLive_39 : decode cX0_markLive 39 = .ok (.invokevirtual 128, 3) := by decide +kernel
theorem dX0_markLive_42 : decode cX0_markLive 42 = .ok (.ior, 1) := by decide +kernel
theorem dX0_markLive_43 : decode cX0_markLive 43 = .ok (.istore_n 2, 1) := by decide +kernel
theorem dX0_markLive_44 : decode cX0_markLive 44 = .ok (.iinc 4 (-1), 3) := by decide +kernel
theorem dX0_markLive_47 : decode cX0_markLive 47 = .ok (.goto (-23), 3) := by decide +kernel
theorem dX0_markLive_50 : decode cX0_markLive 50 = .ok (.iinc 3 1, 3) := by decide +kernel
theorem dX0_markLive_53 : decode cX0_markLive 53 = .ok (.goto (-49), 3) := by decide +kernel
theorem dX0_markLive_56 : decode cX0_markLive 56 = .ok (.return_, 1) := by decide +kernel
theorem dX0_passLifeToOrigins_0 : decode cX0_passLifeToOrigins 0 = .ok (.iconst 0, 1) := by decide +kernel
theorem dX0_passLifeToOrigins_1 : decode cX0_passLifeToOrigins 1 = .ok (.istore_n 3, 1) := by decide +kernel
theorem dX0_passLifeToOrigins_2 : decode cX0_passLifeToOrigins 2 = .ok (.iconst 0, 1) := by decide +kernel
theorem dX0_passLifeToOrigins_3 : decode cX0_passLifeToOrigins 3 = .ok (.istore 4, 2) := by decide +kernel
theorem dX0_passLifeToOrigins_5 : decode cX0_passLifeToOrigins 5 = .ok (.iload 4, 2) := by decide +kernel
theorem dX0_passLifeToOrigins_7 : decode cX0_passLifeToOrigins 7 = .ok (.bipush 16, 2) := by decide +kernel
theorem dX0_passLifeToOrigins_9 : decode cX0_passLifeToOrigins 9 = .ok (.if_icmp .ge 60, 3) := by decide +kernel
theorem dX0_passLifeToOrigins_12 : decode cX0_passLifeToOrigins 12 = .ok (.aload_n 0, 1) := by decide +kernel
theorem dX0_passLifeToOrigins_13 : decode cX0_passLifeToOrigins 13 = .ok (.getfield 24, 3) := by decide +kernel
theorem dX0_passLifeToOrigins_16 : decode cX0_passLifeToOrigins 16 = .ok (.iload_n 2, 1) := by decide +kernel
theorem dX0_passLifeToOrigins_17 : decode cX0_passLifeToOrigins 17 = .ok (.aaload, 1) := by decide +kernel
theorem dX0_passLifeToOrigins_18 : decode cX0_passLifeToOrigins 18 = .ok (.iload 4, 2) := by decide +kernel
theorem dX0_passLifeToOrigins_20 : decode cX0_passLifeToOrigins 20 = .ok (.iaload, 1) := by decide +kernel
theorem dX0_passLifeToOrigins_21 : decode cX0_passLifeToOrigins 21 = .ok (.ifCond .le 42, 3) := by decide +kernel
theorem dX0_passLifeToOrigins_24 : decode cX0_passLifeToOrigins 24 = .ok (.aload_n 0, 1) := by decide +kernel
theorem dX0_passLifeToOrigins_25 : decode cX0_passLifeToOrigins 25 = .ok (.aload_n 1, 1) := by decide +kernel
theorem dX0_passLifeToOrigins_26 : decode cX0_passLifeToOrigins 26 = .ok (.iload 4, 2) := by decide +kernel
theorem dX0_passLifeToOrigins_28 : decode cX0_passLifeToOrigins 28 = .ok (.invokevirtual 113, 3) := by decide +kernel
theorem dX0_passLifeToOrigins_31 : decode cX0_passLifeToOrigins 31 = .ok (.getfield 122, 3) := by decide +kernel
theorem dX0_passLifeToOrigins_34 : decode cX0_passLifeToOrigins 34 = .ok (.ifCond .eq 29, 3) := by decide +kernel
theorem dX0_passLifeToOrigins_37 : decode cX0_passLifeToOrigins 37 = .ok (.aload_n 0, 1) := by decide +kernel
theorem dX0_passLifeToOrigins_38 : decode cX0_passLifeToOrigins 38 = .ok (.aload_n 1, 1) := by decide +kernel
theorem dX0_passLifeToOrigins_39 : decode cX0_passLifeToOrigins 39 = .ok (.iload 4, 2) := by decide +kernel
theorem dX0_passLifeToOrigins_41 : decode cX0_passLifeToOrigins 41 = .ok (.invokevirtual 125, 3) := by decide +kernel
theorem dX0_passLifeToOrigins_44 : decode cX0_passLifeToOrigins 44 = .ok (.getfield 122, 3) := by decide +kernel
theorem dX0_passLifeToOrigins_47 : decode cX0_passLifeToOrigins 47 = .ok (.ifCond .ne 16, 3) := by decide +kernel
theorem dX0_passLifeToOrigins_50 : decode cX0_passLifeToOrigins 50 = .ok (.aload_n 0, 1) := by decide +kernel
theorem dX0_passLifeToOrigins_51 : decode cX0_passLifeToOrigins 51 = .ok (.aload_n 1, 1) := by decide +kernel
theorem dX0_passLifeToOrigins_52 : decode cX0_passLifeToOrigins 52 = .ok (.iload 4, 2) := by decide +kernel
theorem dX0_passLifeToOrigins_54 : decode cX0_passLifeToOrigins 54 = .ok (.invokevirtual 125, 3) := by decide +kernel
theorem dX0_passLifeToOrigins_57 : decode cX0_passLifeToOrigins 57 = .ok (.iconst 1, 1) := by decide +kernel
theorem dX0_passLifeToOrigins_58 : decode cX0_passLifeToOrigins 58 = .ok (.putfield 122, 3) := by decide +kernel
theorem dX0_passLifeToOrigins_61 : decode cX0_passLifeToOrigins 61 = .ok (.iconst 1, 1) := by decide +kernel
theorem dX0_passLifeToOrigins_62 : decode cX0_passLifeToOrigins 62 = .ok (.istore_n 3, 1) := by decide +kernel
theorem dX0_passLifeToOrigins_63 : decode cX0_passLifeToOrigins 63 = .ok (.iinc 4 1, 3) := by decide +kernel
theorem dX0_passLifeToOrigins_66 : decode cX0_passLifeToOrigins 66 = .ok (.goto (-61), 3) := by decide +kernel
theorem dX0_passLifeToOrigins_69 : decode cX0_passLifeToOrigins 69 = .ok (.iload_n 3, 1) := by decide +kernel
theorem dX0_passLifeToOrigins_70 : decode cX0_passLifeToOrigins 70 = .ok (.ireturn, 1) := by decide +kernel
theorem dX0_target_0 : decode cX0_target 0 = .ok (.aload_n 0, 1) := by decide +kernel
theorem dX0_target_1 : decode cX0_target 1 = .ok (.aload_n 1, 1) := by decide +kernel
theorem dX0_target_2 : decode cX0_target 2 = .ok (.getfield 66, 3) := by decide +kernel
theorem dX0_target_5 : decode cX0_target 5 = .ok (.invokevirtual 71, 3) := by decide +kernel
theorem dX0_target_8 : decode cX0_target 8 = .ok (.aload_n 1, 1) := by decide +kernel
theorem dX0_target_9 : decode cX0_target 9 = .ok (.getfield 79, 3) := by decide +kernel
theorem dX0_target_12 : decode cX0_target 12 = .ok (.iload_n 2, 1) := by decide +kernel
theorem dX0_target_13 : decode cX0_target 13 = .ok (.iadd, 1) := by decide +kernel
theorem dX0_target_14 : decode cX0_target 14 = .ok (.invokevirtual 131, 3) := by decide +kernel
theorem dX0_target_17 : decode cX0_target 17 = .ok (.areturn, 1) := by decide +kernel
theorem dX0_origin_0 : decode cX0_origin 0 = .ok (.aload_n 0, 1) := by decide +kernel
theorem dX0_origin_1 : decode cX0_origin 1 = .ok (.aload_n 1, 1) := by decide +kernel
theorem dX0_origin_2 : decode cX0_origin 2 = .ok (.getfield 99, 3) := by decide +kernel
theorem dX0_origin_5 : decode cX0_origin 5 = .ok (.invokevirtual 71, 3) := by decide +kernel
theorem dX0_origin_8 : decode cX0_origin 8 = .ok (.aload_n 1, 1) := by decide +kernel
theorem dX0_origin_9 : decode cX0_origin 9 = .ok (.getfield 102, 3) := by decide +kernel
theorem dX0_origin_12 : decode cX0_origin 12 = .ok (.iload_n 2, 1) := by decide +kernel
theorem dX0_origin_13 : decode cX0_origin 13 = .ok (.iadd, 1) := by decide +kernel
theorem dX0_origin_14 : decode cX0_origin 14 = .ok (.invokevirtual 131, 3) := by decide +kernel
theorem dX0_origin_17 : decode cX0_origin 17 = .ok (.areturn, 1) := by decide +kernel
theorem dX0_countPieces_0 : decode cX0_countPieces 0 = .ok (.iconst 0, 1) := by decide +kernel
theorem dX0_countPieces_1 : decode cX0_countPieces 1 = .ok (.istore_n 2, 1) := by decide +kernel
theorem dX0_countPieces_2 : decode cX0_countPieces 2 = .ok (.iconst 0, 1) := by decide +kernel
theorem dX0_countPieces_3 : decode cX0_countPieces 3 = .ok (.istore_n 3, 1) := by decide +kernel
theorem dX0_countPieces_4 : decode cX0_countPieces 4 = .ok (.iload_n 3, 1) := by decide +kernel
theorem dX0_countPieces_5 : decode cX0_countPieces 5 = .ok (.bipush 16, 2) := by decide +kernel
theorem dX0_countPieces_7 : decode cX0_countPieces 7 = .ok (.if_icmp .ge 31, 3) := by decide +kernel
theorem dX0_countPieces_10 : decode cX0_countPieces 10 = .ok (.iload_n 2, 1) := by decide +kernel
theorem dX0_countPieces_11 : decode cX0_countPieces 11 = .ok (.aload_n 0, 1) := by decide +kernel
theorem dX0_countPieces_12 : decode cX0_countPieces 12 = .ok (.getfield 24, 3) := by decide +kernel
theorem dX0_countPieces_15 : decode cX0_countPieces 15 = .ok (.iload_n 1, 1) := by decide +kernel
theorem dX0_countPieces_16 : decode cX0_countPieces 16 = .ok (.aaload, 1) := by decide +kernel
theorem dX0_countPieces_17 : decode cX0_countPieces 17 = .ok (.iload_n 3, 1) := by decide +kernel
theorem dX0_countPieces_18 : decode cX0_countPieces 18 = .ok (.iaload, 1) := by decide +kernel
theorem dX0_countPieces_19 : decode cX0_countPieces 19 = .ok (.ifCond .le 7, 3) := by decide +kernel
theorem dX0_countPieces_22 : decode cX0_countPieces 22 = .ok (.iconst 1, 1) := by decide +kernel
theorem dX0_countPieces_23 : decode cX0_countPieces 23 = .ok (.goto 4, 3) := by decide +kernel
theorem dX0_countPieces_26 : decode cX0_countPieces 26 = .ok (.iconst 0, 1) := by decide +kernel
theorem dX0_countPieces_27 : decode cX0_countPieces 27 = .ok (.invokestatic 135, 3) := by decide +kernel
theorem dX0_countPieces_30 : decode cX0_countPieces 30 = .ok (.iadd, 1) := by decide +kernel
theorem dX0_countPieces_31 : decode cX0_countPieces 31 = .ok (.istore_n 2, 1) := by decide +kernel
theorem dX0_countPieces_32 : decode cX0_countPieces 32 = .ok (.iinc 3 1, 3) := by decide +kernel
theorem dX0_countPieces_35 : decode cX0_countPieces 35 = .ok (.goto (-31), 3) := by decide +kernel
theorem dX0_countPieces_38 : decode cX0_countPieces 38 = .ok (.iload_n 2, 1) := by decide +kernel
theorem dX0_countPieces_39 : decode cX0_countPieces 39 = .ok (.ireturn, 1) := by decide +kernel
theorem dX0_lengthOfPiece_0 : decode cX0_lengthOfPiece 0 = .ok (.iconst 0, 1) := by decide +kernel
theorem dX0_lengthOfPiece_1 : decode cX0_lengthOfPiece 1 = .ok (.istore_n 3, 1) := by decide +kernel
theorem dX0_lengthOfPiece_2 : decode cX0_lengthOfPiece 2 = .ok (.iconst 0, 1) := by decide +kernel
theorem dX0_lengthOfPiece_3 : decode cX0_lengthOfPiece 3 = .ok (.istore 4, 2) := by decide +kernel
theorem dX0_lengthOfPiece_5 : decode cX0_lengthOfPiece 5 = .ok (.iload 4, 2) := by decide +kernel
theorem dX0_lengthOfPiece_7 : decode cX0_lengthOfPiece 7 = .ok (.bipush 16, 2) := by decide +kernel
theorem dX0_lengthOfPiece_9 : decode cX0_lengthOfPiece 9 = .ok (.if_icmp .ge 36, 3) := by decide +kernel
theorem dX0_lengthOfPiece_12 : decode cX0_lengthOfPiece 12 = .ok (.aload_n 0, 1) := by decide +kernel
theorem dX0_lengthOfPiece_13 : decode cX0_lengthOfPiece 13 = .ok (.getfield 24, 3) := by decide +kernel
theorem dX0_lengthOfPiece_16 : decode cX0_lengthOfPiece 16 = .ok (.iload_n 1, 1) := by decide +kernel
theorem dX0_lengthOfPiece_17 : decode cX0_lengthOfPiece 17 = .ok (.aaload, 1) := by decide +kernel
theorem dX0_lengthOfPiece_18 : decode cX0_lengthOfPiece 18 = .ok (.iload 4, 2) := by decide +kernel
theorem dX0_lengthOfPiece_20 : decode cX0_lengthOfPiece 20 = .ok (.iaload, 1) := by decide +kernel
theorem dX0_lengthOfPiece_21 : decode cX0_lengthOfPiece 21 = .ok (.istore 5, 2) := by decide +kernel
theorem dX0_lengthOfPiece_23 : decode cX0_lengthOfPiece 23 = .ok (.iload 5, 2) := by decide +kernel
theorem dX0_lengthOfPiece_25 : decode cX0_lengthOfPiece 25 = .ok (.ifCond .le 14, 3) := by decide +kernel
theorem dX0_lengthOfPiece_28 : decode cX0_lengthOfPiece 28 = .ok (.iload_n 3, 1) := by decide +kernel
theorem dX0_lengthOfPiece_29 : decode cX0_lengthOfPiece 29 = .ok (.iload_n 2, 1) := by decide +kernel
theorem dX0_lengthOfPiece_30 : decode cX0_lengthOfPiece 30 = .ok (.if_icmp .ne 6, 3) := by decide +kernel
theorem dX0_lengthOfPiece_33 : decode cX0_lengthOfPiece 33 = .ok (.iload 5, 2) := by decide +kernel
theorem dX0_lengthOfPiece_35 : decode cX0_lengthOfPiece 35 = .ok (.ireturn, 1) := by decide +kernel
theorem dX0_lengthOfPiece_36 : decode cX0_lengthOfPiece 36 = .ok (.iinc 3 1, 3) := by decide +kernel
theorem dX0_lengthOfPiece_39 : decode cX0_lengthOfPiece 39 = .ok (.iinc 4 1, 3) := by decide +kernel
theorem dX0_lengthOfPiece_42 : decode cX0_lengthOfPiece 42 = .ok (.goto (-37), 3) := by decide +kernel
theorem dX0_lengthOfPiece_45 : decode cX0_lengthOfPiece 45 = .ok (.iconst 0, 1) := by decide +kernel
theorem dX0_lengthOfPiece_46 : decode cX0_lengthOfPiece 46 = .ok (.ireturn, 1) := by decide +kernel
theorem dX1_init_0 : decode cX1_init 0 = .ok (.aload_n 0, 1) := by decide +kernel
theorem dX1_init_1 : decode cX1_init 1 = .ok (.invokespecial 3, 3) := by decide +kernel
theorem dX1_init_4 : decode cX1_init 4 = .ok (.aload_n 0, 1) := by decide +kernel
theorem dX1_init_5 : decode cX1_init 5 = .ok (.bipush 8, 2) := by decide +kernel
theorem dX1_init_7 : decode cX1_init 7 = .ok (.newarray .int, 2) := by decide +kernel
theorem dX1_init_9 : decode cX1_init 9 = .ok (.putfield 9, 3) := by decide +kernel
theorem dX1_init_12 : decode cX1_init 12 = .ok (.aload_n 0, 1) := by decide +kernel
theorem dX1_init_13 : decode cX1_init 13 = .ok (.bipush 8, 2) := by decide +kernel
theorem dX1_init_15 : decode cX1_init 15 = .ok (.newarray .int, 2) := by decide +kernel
theorem dX1_init_17 : decode cX1_init 17 = .ok (.putfield 15, 3) := by decide +kernel
theorem dX1_init_20 : decode cX1_init 20 = .ok (.aload_n 0, 1) := by decide +kernel
theorem dX1_init_21 : decode cX1_init 21 = .ok (.bipush 8, 2) := by decide +kernel
theorem dX1_init_23 : decode cX1_init 23 = .ok (.anewarray 18, 3) := by decide +kernel
theorem dX1_init_26 : decode cX1_init 26 = .ok (.putfield 20, 3) := by decide +kernel
theorem dX1_init_29 : decode cX1_init 29 = .ok (.return_, 1) := by decide +kernel
theorem dX1_note_0 : decode cX1_note 0 = .ok (.aload_n 0, 1) := by decide +kernel
theorem dX1_note_1 : decode cX1_note 1 = .ok (.getfield 9, 3) := by decide +kernel
theorem dX1_note_4 : decode cX1_note 4 = .ok (.aload_n 0, 1) := by decide +kernel
theorem dX1_note_5 : decode cX1_note 5 = .ok (.getfield 24, 3) := by decide +kernel
theorem dX1_note_8 : decode cX1_note 8 = .ok (.iload_n 1, 1) := by decide +kernel
theorem dX1_note_9 : decode cX1_note 9 = .ok (.iastore, 1) := by decide +kernel
theorem dX1_note_10 : decode cX1_note 10 = .ok (.aload_n 0, 1) := by decide +kernel
theorem dX1_note_11 : decode cX1_note 11 = .ok (.getfield 15, 3) := by decide +kernel
theorem dX1_note_14 : decode cX1_note 14 = .ok (.aload_n 0, 1) := by decide +kernel
theorem dX1_note_15 : decode cX1_note 15 = .ok (.getfield 24, 3) := by decide +kernel
theorem dX1_note_18 : decode cX1_note 18 = .ok (.iload_n 2, 1) := by decide +kernel
theorem dX1_note_19 : decode cX1_note 19 = .ok (.iastore, 1) := by decide +kernel
theorem dX1_note_20 : decode cX1_note 20 = .ok (.aload_n 0, 1) := by decide +kernel
theorem dX1_note_21 : decode cX1_note 21 = .ok (.getfield 20, 3) := by decide +kernel
theorem dX1_note_24 : decode cX1_note 24 = .ok (.aload_n 0, 1) := by decide +kernel
theorem dX1_note_25 : decode cX1_note 25 = .ok (.getfield 24, 3) := by decide +kernel
theorem dX1_note_28 : decode cX1_note 28 = .ok (.aload_n 3, 1) := by decide +kernel
theorem dX1_note_29 : decode cX1_note 29 = .ok (.aastore, 1) := by decide +kernel
theorem dX1_note_30 : decode cX1_note 30 = .ok (.aload_n 0, 1) := by decide +kernel
theorem dX1_note_31 : decode cX1_note 31 = .ok (.aload_n 0, 1) := by decide +kernel
theorem dX1_note_32 : decode cX1_note 32 = .ok (.getfield 24, 3) := by decide +kernel
theorem dX1_note_35 : decode cX1_note 35 = .ok (.iconst 1, 1) := by decide +kernel
theorem dX1_note_36 : decode cX1_note 36 = .ok (.iadd, 1) := by decide +kernel
theorem dX1_note_37 : decode cX1_note 37 = .ok (.bipush 8, 2) := by decide +kernel
theorem dX1_note_39 : decode cX1_note 39 = .ok (.irem, 1) := by decide +kernel
theorem dX1_note_40 : decode cX1_note 40 = .ok (.putfield 24, 3) := by decide +kernel
theorem dX1_note_43 : decode cX1_note 43 = .ok (.aload_n 0, 1) := by decide +kernel
theorem dX1_note_44 : decode cX1_note 44 = .ok (.aload_n 0, 1) := by decide +kernel
theorem dX1_note_45 : decode cX1_note 45 = .ok (.getfield 28, 3) := by decide +kernel
theorem dX1_note_48 : decode cX1_note 48 = .ok (.iconst 1, 1) := by decide +kernel
theorem dX1_note_49 : decode cX1_note 49 = .ok (.iadd, 1) := by decide +kernel
theorem dX1_note_50 : decode cX1_note 50 = .ok (.bipush 8, 2) := by decide +kernel
theorem dX1_note_52 : decode cX1_note 52 = .ok (.invokestatic 31, 3) := by decide +kernel
theorem dX1_note_55 : decode cX1_note 55 = .ok (.putfield 28, 3) := by decide +kernel
theorem dX1_note_58 : decode cX1_note 58 = .ok (.return_, 1) := by decide +kernel
theorem dX1_takeBack_0 : decode cX1_takeBack 0 = .ok (.aload_n 0, 1) := by decide +kernel
theorem dX1_takeBack_1 : decode cX1_takeBack 1 = .ok (.getfield 28, 3) := by decide +kernel
theorem dX1_takeBack_4 : decode cX1_takeBack 4 = .ok (.ifCond .ne 4, 3) := by decide +kernel
theorem dX1_takeBack_7 : decode cX1_takeBack 7 = .ok (.return_, 1) := by decide +kernel
theorem dX1_takeBack_8 : decode cX1_takeBack 8 = .ok (.aload_n 0, 1) := by decide +kernel
theorem dX1_takeBack_9 : decode cX1_takeBack 9 = .ok (.dup, 1) := by decide +kernel
theorem dX1_takeBack_10 : decode cX1_takeBack 10 = .ok (.getfield 28, 3) := by decide +kernel
theorem dX1_takeBack_13 : decode cX1_takeBack 13 = .ok (.iconst 1, 1) := by decide +kernel
theorem dX1_takeBack_14 : decode cX1_takeBack 14 = .ok (.isub, 1) := by decide +kernel
theorem dX1_takeBack_15 : decode cX1_takeBack 15 = .ok (.putfield 28, 3) := by decide +kernel
theorem dX1_takeBack_18 : decode cX1_takeBack 18 = .ok (.aload_n 0, 1) := by decide +kernel
theorem dX1_takeBack_19 : decode cX1_takeBack 19 = .ok (.aload_n 0, 1) := by decide +kernel
theorem dX1_takeBack_20 : decode cX1_takeBack 20 = .ok (.getfield 24, 3) := by decide +kernel
theorem dX1_takeBack_23 : decode cX1_takeBack 23 = .ok (.bipush 8, 2) := by decide +kernel
theorem dX1_takeBack_25 : decode cX1_takeBack 25 = .ok (.iadd, 1) := by decide +kernel
theorem dX1_takeBack_26 : decode cX1_takeBack 26 = .ok (.iconst 1, 1) := by decide +kernel
theorem dX1_takeBack_27 : decode cX1_takeBack 27 = .ok (.isub, 1) := by decide +kernel
theorem dX1_takeBack_28 : decode cX1_takeBack 28 = .ok (.bipush 8, 2) := by decide +kernel
theorem dX1_takeBack_30 : decode cX1_takeBack 30 = .ok (.irem, 1) := by decide +kernel
theorem dX1_takeBack_31 : decode cX1_takeBack 31 = .ok (.putfield 24, 3) := by decide +kernel
theorem dX1_takeBack_34 : decode cX1_takeBack 34 = .ok (.aload_n 0, 1) := by decide +kernel
theorem dX1_takeBack_35 : decode cX1_takeBack 35 = .ok (.getfield 9, 3) := by decide +kernel
theorem dX1_takeBack_38 : decode cX1_takeBack 38 = .ok (.aload_n 0, 1) := by decide +kernel
theorem dX1_takeBack_39 : decode cX1_takeBack 39 = .ok (.getfield 24, 3) := by decide +kernel
theorem dX1_takeBack_42 : decode cX1_takeBack 42 = .ok (.iaload, 1) := by decide +kernel
theorem dX1_takeBack_43 : decode cX1_takeBack 43 = .ok (.iconst 1, 1) := by decide +kernel
theorem dX1_takeBack_44 : decode cX1_takeBack 44 = .ok (.if_icmp .ne 10, 3) := by decide +kernel
theorem dX1_takeBack_47 : decode cX1_takeBack 47 = .ok (.aload_n 1, 1) := by decide +kernel
theorem dX1_takeBack_48 : decode cX1_takeBack 48 = .ok (.invokevirtual 37, 3) := by decide +kernel
theorem dX1_takeBack_51 : decode cX1_takeBack 51 = .ok (.goto 54, 3) := by decide +kernel
theorem dX1_takeBack_54 : decode cX1_takeBack 54 = .ok (.aload_n 0, 1) := by decide +kernel
theorem dX1_takeBack_55 : decode cX1_takeBack 55 = .ok (.getfield 9, 3) := by decide +kernel
theorem dX1_takeBack_58 : decode cX1_takeBack 58 = .ok (.aload_n 0, 1) := by decide +kernel
theorem dX1_takeBack_59 : decode cX1_takeBack 59 = .ok (.getfield 24, 3) := by decide +kernel
theorem dX1_takeBack_62 : decode cX1_takeBack 62 = .ok (.iaload, 1) := by decide +kernel
theorem dX1_takeBack_63 : decode cX1_takeBack 63 = .ok (.iconst 2, 1) := by decide +kernel
theorem dX1_takeBack_64 : decode cX1_takeBack 64 = .ok (.if_icmp .ne 19, 3) := by decide +kernel
theorem dX1_takeBack_67 : decode cX1_takeBack 67 = .ok (.aload_n 1, 1) := by decide +kernel
theorem dX1_takeBack_68 : decode cX1_takeBack 68 = .ok (.aload_n 0, 1) := by decide +kernel
theorem dX1_takeBack_69 : decode cX1_takeBack 69 = .ok (.getfield 15, 3) := by decide +kernel
theorem dX1_takeBack_72 : decode cX1_takeBack 72 = .ok (.aload_n 0, 1) := by decide +kernel
theorem dX1_takeBack_73 : decode cX1_takeBack 73 = .ok (.getfield 24, 3) := by decide +kernel
theorem dX1_takeBack_76 : decode cX1_takeBack 76 = .ok (.iaload, 1) := by decide +kernel
theorem dX1_takeBack_77 : decode cX1_takeBack 77 = .ok (.invokevirtual 42, 3) := by decide +kernel
theorem dX1_takeBack_80 : decode cX1_takeBack 80 = .ok (.goto 25, 3) := by decide +kernel
theorem dX1_takeBack_83 : decode cX1_takeBack 83 = .ok (.aload_n 1, 1) := by decide +kernel
theorem dX1_takeBack_84 : decode cX1_takeBack 84 = .ok (.aload_n 0, 1) := by decide +kernel
theorem dX1_takeBack_85 : decode cX1_takeBack 85 = .ok (.getfield 15, 3) := by decide +kernel
theorem dX1_takeBack_88 : decode cX1_takeBack 88 = .ok (.aload_n 0, 1) := by decide +kernel
theorem dX1_takeBack_89 : decode cX1_takeBack 89 = .ok (.getfield 24, 3) := by decide +kernel
theorem dX1_takeBack_92 : decode cX1_takeBack 92 = .ok (.iaload, 1) := by decide +kernel
theorem dX1_takeBack_93 : decode cX1_takeBack 93 = .ok (.aload_n 0, 1) := by decide +kernel
theorem dX1_takeBack_94 : decode cX1_takeBack 94 = .ok (.getfield 20, 3) := by decide +kernel
theorem dX1_takeBack_97 : decode cX1_takeBack 97 = .ok (.aload_n 0, 1) := by decide +kernel
theorem dX1_takeBack_98 : decode cX1_takeBack 98 = .ok (.getfield 24, 3) := by decide +kernel
theorem dX1_takeBack_101 : decode cX1_takeBack 101 = .ok (.aaload, 1) := by decide +kernel
theorem dX1_takeBack_102 : decode cX1_takeBack 102 = .ok (.invokevirtual 46, 3) := by decide +kernel
theorem dX1_takeBack_105 : decode cX1_takeBack 105 = .ok (.return_, 1) := by decide +kernel
theorem dX2_init_0 : decode cX2_init 0 = .ok (.aload_n 0, 1) := by decide +kernel
theorem dX2_init_1 : decode cX2_init 1 = .ok (.invokespecial 3, 3) := by decide +kernel
theorem dX2_init_4 : decode cX2_init 4 = .ok (.aload_n 0, 1) := by decide +kernel
theorem dX2_init_5 : decode cX2_init 5 = .ok (.iload_n 1, 1) := by decide +kernel
theorem dX2_init_6 : decode cX2_init 6 = .ok (.putfield 9, 3) := by decide +kernel
theorem dX2_init_9 : decode cX2_init 9 = .ok (.return_, 1) := by decide +kernel
theorem dX2_ofAccess_0 : decode cX2_ofAccess 0 = .ok (.new 10, 3) := by decide +kernel
theorem dX2_ofAccess_3 : decode cX2_ofAccess 3 = .ok (.dup, 1) := by decide +kernel
theorem dX2_ofAccess_4 : decode cX2_ofAccess 4 = .ok (.iload_n 0, 1) := by decide +kernel
theorem dX2_ofAccess_5 : decode cX2_ofAccess 5 = .ok (.invokespecial 15, 3) := by decide +kernel
theorem dX2_ofAccess_8 : decode cX2_ofAccess 8 = .ok (.astore 5, 2) := by decide +kernel
theorem dX2_ofAccess_10 : decode cX2_ofAccess 10 = .ok (.aload 5, 2) := by decide +kernel
theorem dX2_ofAccess_12 : decode cX2_ofAccess 12 = .ok (.iload_n 1, 1) := by decide +kernel
theorem dX2_ofAccess_13 : decode cX2_ofAccess 13 = .ok (.putfield 18, 3) := by decide +kernel
theorem dX2_ofAccess_16 : decode cX2_ofAccess 16 = .ok (.aload 5, 2) := by decide +kernel
theorem dX2_ofAccess_18 : decode cX2_ofAccess 18 = .ok (.iload_n 2, 1) := by decide +kernel
theorem dX2_ofAccess_19 : decode cX2_ofAccess 19 = .ok (.putfield 21, 3) := by decide +kernel
theorem dX2_ofAccess_22 : decode cX2_ofAccess 22 = .ok (.aload 5, 2) := by decide +kernel
theorem dX2_ofAccess_24 : decode cX2_ofAccess 24 = .ok (.iload_n 3, 1) := by decide +kernel
theorem dX2_ofAccess_25 : decode cX2_ofAccess 25 = .ok (.putfield 24, 3) := by decide +kernel
theorem dX2_ofAccess_28 : decode cX2_ofAccess 28 = .ok (.aload 5, 2) := by decide +kernel
theorem dX2_ofAccess_30 : decode cX2_ofAccess 30 = .ok (.iload 4, 2) := by decide +kernel
theorem dX2_ofAccess_32 : decode cX2_ofAccess 32 = .ok (.putfield 27, 3) := by decide +kernel
theorem dX2_ofAccess_35 : decode cX2_ofAccess 35 = .ok (.aload 5, 2) := by decide +kernel
theorem dX2_ofAccess_37 : decode cX2_ofAccess 37 = .ok (.areturn, 1) := by decide +kernel
theorem dX2_ofCopy_0 : decode cX2_ofCopy 0 = .ok (.new 10, 3) := by decide +kernel
theorem dX2_ofCopy_3 : decode cX2_ofCopy 3 = .ok (.dup, 1) := by decide +kernel
theorem dX2_ofCopy_4 : decode cX2_ofCopy 4 = .ok (.iconst 3, 1) := by decide +kernel
theorem dX2_ofCopy_5 : decode cX2_ofCopy 5 = .ok (.invokespecial 15, 3) := by decide +kernel
theorem dX2_ofCopy_8 : decode cX2_ofCopy 8 = .ok (.astore 5, 2) := by decide +kernel
theorem dX2_ofCopy_10 : decode cX2_ofCopy 10 = .ok (.aload 5, 2) := by decide +kernel
theorem dX2_ofCopy_12 : decode cX2_ofCopy 12 = .ok (.iload_n 0, 1) := by decide +kernel
theorem dX2_ofCopy_13 : decode cX2_ofCopy 13 = .ok (.putfield 18, 3) := by decide +kernel
theorem dX2_ofCopy_16 : decode cX2_ofCopy 16 = .ok (.aload 5, 2) := by decide +kernel
theorem dX2_ofCopy_18 : decode cX2_ofCopy 18 = .ok (.iload_n 1, 1) := by decide +kernel
theorem dX2_ofCopy_19 : decode cX2_ofCopy 19 = .ok (.putfield 21, 3) := by decide +kernel
theorem dX2_ofCopy_22 : decode cX2_ofCopy 22 = .ok (.aload 5, 2) := by decide +kernel
theorem dX2_ofCopy_24 : decode cX2_ofCopy 24 = .ok (.iload_n 2, 1) := by decide +kernel
theorem dX2_ofCopy_25 : decode cX2_ofCopy 25 = .ok (.putfield 30, 3) := by decide +kernel
theorem dX2_ofCopy_28 : decode cX2_ofCopy 28 = .ok (.aload 5, 2) := by decide +kernel
theorem dX2_ofCopy_30 : decode cX2_ofCopy 30 = .ok (.iload_n 3, 1) := by decide +kernel
theorem dX2_ofCopy_31 : decode cX2_ofCopy 31 = .ok (.putfield 33, 3) := by decide +kernel
theorem dX2_ofCopy_34 : decode cX2_ofCopy 34 = .ok (.aload 5, 2) := by decide +kernel
theorem dX2_ofCopy_36 : decode cX2_ofCopy 36 = .ok (.iload 4, 2) := by decide +kernel
theorem dX2_ofCopy_38 : decode cX2_ofCopy 38 = .ok (.putfield 24, 3) := by decide +kernel
theorem dX2_ofCopy_41 : decode cX2_ofCopy 41 = .ok (.aload 5, 2) := by decide +kernel
theorem dX2_ofCopy_43 : decode cX2_ofCopy 43 = .ok (.areturn, 1) := by decide +kernel
theorem dX2_ofEscape_0 : decode cX2_ofEscape 0 = .ok (.new 10, 3) := by decide +kernel
theorem dX2_ofEscape_3 : decode cX2_ofEscape 3 = .ok (.dup, 1) := by decide +kernel
theorem dX2_ofEscape_4 : decode cX2_ofEscape 4 = .ok (.iconst 4, 1) := by decide +kernel
theorem dX2_ofEscape_5 : decode cX2_ofEscape 5 = .ok (.invokespecial 15, 3) := by decide +kernel
theorem dX2_ofEscape_8 : decode cX2_ofEscape 8 = .ok (.astore_n 1, 1) := by decide +kernel
theorem dX2_ofEscape_9 : decode cX2_ofEscape 9 = .ok (.aload_n 1, 1) := by decide +kernel
theorem dX2_ofEscape_10 : decode cX2_ofEscape 10 = .ok (.iload_n 0, 1) := by decide +kernel
theorem dX2_ofEscape_11 : decode cX2_ofEscape 11 = .ok (.putfield 18, 3) := by decide +kernel
theorem dX2_ofEscape_14 : decode cX2_ofEscape 14 = .ok (.aload_n 1, 1) := by decide +kernel
theorem dX2_ofEscape_15 : decode cX2_ofEscape 15 = .ok (.areturn, 1) := by decide +kernel
theorem dX2_ofAdd_0 : decode cX2_ofAdd 0 = .ok (.new 10, 3) := by decide +kernel
theorem dX2_ofAdd_3 : decode cX2_ofAdd 3 = .ok (.dup, 1) := by decide +kernel
theorem dX2_ofAdd_4 : decode cX2_ofAdd 4 = .ok (.bipush 6, 2) := by decide +kernel
theorem dX2_ofAdd_6 : decode cX2_ofAdd 6 = .ok (.invokespecial 15, 3) := by decide +kernel
theorem dX2_ofAdd_9 : decode cX2_ofAdd 9 = .ok (.astore_n 3, 1) := by decide +kernel
theorem dX2_ofAdd_10 : decode cX2_ofAdd 10 = .ok (.aload_n 3, 1) := by decide +kernel
theorem dX2_ofAdd_11 : decode cX2_ofAdd 11 = .ok (.iload_n 0, 1) := by decide +kernel
theorem dX2_ofAdd_12 : decode cX2_ofAdd 12 = .ok (.putfield 27, 3) := by decide +kernel
theorem dX2_ofAdd_15 : decode cX2_ofAdd 15 = .ok (.aload_n 3, 1) := by decide +kernel
theorem dX2_ofAdd_16 : decode cX2_ofAdd 16 = .ok (.iload_n 1, 1) := by decide +kernel
theorem dX2_ofAdd_17 : decode cX2_ofAdd 17 = .ok (.putfield 36, 3) := by decide +kernel
theorem dX2_ofAdd_20 : decode cX2_ofAdd 20 = .ok (.aload_n 3, 1) := by decide +kernel
theorem dX2_ofAdd_21 : decode cX2_ofAdd 21 = .ok (.iload_n 2, 1) := by decide +kernel
theorem dX2_ofAdd_22 : decode cX2_ofAdd 22 = .ok (.putfield 39, 3) := by decide +kernel
theorem dX2_ofAdd_25 : decode cX2_ofAdd 25 = .ok (.aload_n 3, 1) := by decide +kernel
theorem dX2_ofAdd_26 : decode cX2_ofAdd 26 = .ok (.areturn, 1) := by decide +kernel
theorem dX2_ofNumber_0 : decode cX2_ofNumber 0 = .ok (.new 10, 3) := by decide +kernel
theorem dX2_ofNumber_3 : decode cX2_ofNumber 3 = .ok (.dup, 1) := by decide +kernel
theorem dX2_ofNumber_4 : decode cX2_ofNumber 4 = .ok (.iload_n 0, 1) := by decide +kernel
theorem dX2_ofNumber_5 : decode cX2_ofNumber 5 = .ok (.invokespecial 15, 3) := by decide +kernel
theorem dX2_ofNumber_8 : decode cX2_ofNumber 8 = .ok (.astore_n 3, 1) := by decide +kernel
theorem dX2_ofNumber_9 : decode cX2_ofNumber 9 = .ok (.aload_n 3, 1) := by decide +kernel
theorem dX2_ofNumber_10 : decode cX2_ofNumber 10 = .ok (.iload_n 1, 1) := by decide +kernel
theorem dX2_ofNumber_11 : decode cX2_ofNumber 11 = .ok (.putfield 27, 3) := by decide +kernel
theorem dX2_ofNumber_14 : decode cX2_ofNumber 14 = .ok (.aload_n 3, 1) := by decide +kernel
theorem dX2_ofNumber_15 : decode cX2_ofNumber 15 = .ok (.iload_n 2, 1) := by decide +kernel
theorem dX2_ofNumber_16 : decode cX2_ofNumber 16 = .ok (.putfield 42, 3) := by decide +kernel
theorem dX2_ofNumber_19 : decode cX2_ofNumber 19 = .ok (.aload_n 3, 1) := by decide +kernel
theorem dX2_ofNumber_20 : decode cX2_ofNumber 20 = .ok (.areturn, 1) := by decide +kernel
theorem dX2_isLoadOrStore_0 : decode cX2_isLoadOrStore 0 = .ok (.aload_n 0, 1) := by decide +kernel
theorem dX2_isLoadOrStore_1 : decode cX2_isLoadOrStore 1 = .ok (.getfield 9, 3) := by decide +kernel
theorem dX2_isLoadOrStore_4 : decode cX2_isLoadOrStore 4 = .ok (.iconst 2, 1) := by decide +kernel
theorem dX2_isLoadOrStore_5 : decode cX2_isLoadOrStore 5 = .ok (.if_icmp .eq 11, 3) := by decide +kernel
theorem dX2_isLoadOrStore_8 : decode cX2_isLoadOrStore 8 = .ok (.aload_n 0, 1) := by decide +kernel
theorem dX2_isLoadOrStore_9 : decode cX2_isLoadOrStore 9 = .ok (.getfield 9, 3) := by decide +kernel
theorem dX2_isLoadOrStore_12 : decode cX2_isLoadOrStore 12 = .ok (.iconst 1, 1) := by decide +kernel
theorem dX2_isLoadOrStore_13 : decode cX2_isLoadOrStore 13 = .ok (.if_icmp .ne 7, 3) := by decide +kernel
theorem dX2_isLoadOrStore_16 : decode cX2_isLoadOrStore 16 = .ok (.iconst 1, 1) := by decide +kernel
theorem dX2_isLoadOrStore_17 : decode cX2_isLoadOrStore 17 = .ok (.goto 4, 3) := by decide +kernel
theorem dX2_isLoadOrStore_20 : decode cX2_isLoadOrStore 20 = .ok (.iconst 0, 1) := by decide +kernel
theorem dX2_isLoadOrStore_21 : decode cX2_isLoadOrStore 21 = .ok (.ireturn, 1) := by decide +kernel
theorem dX3_init_0 : decode cX3_init 0 = .ok (.aload_n 0, 1) := by decide +kernel
theorem dX3_init_1 : decode cX3_init 1 = .ok (.invokespecial 3, 3) := by decide +kernel
theorem dX3_init_4 : decode cX3_init 4 = .ok (.aload_n 0, 1) := by decide +kernel
theorem dX3_init_5 : decode cX3_init 5 = .ok (.bipush 16, 2) := by decide +kernel
theorem dX3_init_7 : decode cX3_init 7 = .ok (.anewarray 9, 3) := by decide +kernel
theorem dX3_init_10 : decode cX3_init 10 = .ok (.putfield 11, 3) := by decide +kernel
theorem dX3_init_13 : decode cX3_init 13 = .ok (.aload_n 0, 1) := by decide +kernel
theorem dX3_init_14 : decode cX3_init 14 = .ok (.new 9, 3) := by decide +kernel
theorem dX3_init_17 : decode cX3_init 17 = .ok (.dup, 1) := by decide +kernel
theorem dX3_init_18 : decode cX3_init 18 = .ok (.invokespecial 17, 3) := by decide +kernel
theorem dX3_init_21 : decode cX3_init 21 = .ok (.putfield 18, 3) := by decide +kernel
theorem dX3_init_24 : decode cX3_init 24 = .ok (.aload_n 0, 1) := by decide +kernel
theorem dX3_init_25 : decode cX3_init 25 = .ok (.bipush 16, 2) := by decide +kernel
theorem dX3_init_27 : decode cX3_init 27 = .ok (.anewarray 9, 3) := by decide +kernel
theorem dX3_init_30 : decode cX3_init 30 = .ok (.putfield 22, 3) := by decide +kernel
theorem dX3_init_33 : decode cX3_init 33 = .ok (.aload_n 0, 1) := by decide +kernel
theorem dX3_init_34 : decode cX3_init 34 = .ok (.bipush 16, 2) := by decide +kernel
theorem dX3_init_36 : decode cX3_init 36 = .ok (.newarray .boolean, 2) := by decide +kernel
theorem dX3_init_38 : decode cX3_init 38 = .ok (.putfield 25, 3) := by decide +kernel
theorem dX3_init_41 : decode cX3_init 41 = .ok (.aload_n 0, 1) := by decide +kernel
theorem dX3_init_42 : decode cX3_init 42 = .ok (.bipush 16, 2) := by decide +kernel
theorem dX3_init_44 : decode cX3_init 44 = .ok (.newarray .boolean, 2) := by decide +kernel
theorem dX3_init_46 : decode cX3_init 46 = .ok (.putfield 29, 3) := by decide +kernel
theorem dX3_init_49 : decode cX3_init 49 = .ok (.aload_n 0, 1) := by decide +kernel
theorem dX3_init_50 : decode cX3_init 50 = .ok (.bipush 16, 2) := by decide +kernel
theorem dX3_init_52 : decode cX3_init 52 = .ok (.newarray .long, 2) := by decide +kernel
theorem dX3_init_54 : decode cX3_init 54 = .ok (.putfield 32, 3) := by decide +kernel
theorem dX3_init_57 : decode cX3_init 57 = .ok (.iconst 0, 1) := by decide +kernel
theorem dX3_init_58 : decode cX3_init 58 = .ok (.istore_n 1, 1) := by decide +kernel
theorem dX3_init_59 : decode cX3_init 59 = .ok (.iload_n 1, 1) := by decide +kernel
theorem dX3_init_60 : decode cX3_init 60 = .ok (.bipush 16, 2) := by decide +kernel
theorem dX3_init_62 : decode cX3_init 62 = .ok (.if_icmp .ge 32, 3) := by decide +kernel
theorem dX3_init_65 : decode cX3_init 65 = .ok (.aload_n 0, 1) := by decide +kernel
theorem dX3_init_66 : decode cX3_init 66 = .ok (.getfield 11, 3) := by decide +kernel
theorem dX3_init_69 : decode cX3_init 69 = .ok (.iload_n 1, 1) := by decide +kernel
theorem dX3_init_70 : decode cX3_init 70 = .ok (.new 9, 3) := by decide +kernel
theorem dX3_init_73 : decode cX3_init 73 = .ok (.dup, 1) := by decide +kernel
theorem dX3_init_74 : decode cX3_init 74 = .ok (.invokespecial 17, 3) := by decide +kernel
theorem dX3_init_77 : decode cX3_init 77 = .ok (.aastore, 1) := by decide +kernel
theorem dX3_init_78 : decode cX3_init 78 = .ok (.aload_n 0, 1) := by decide +kernel
theorem dX3_init_79 : decode cX3_init 79 = .ok (.getfield 22, 3) := by decide +kernel
theorem dX3_init_82 : decode cX3_init 82 = .ok (.iload_n 1, 1) := by decide +kernel
theorem dX3_init_83 : decode cX3_init 83 = .ok (.aload_n 0, 1) := by decide +kernel
theorem dX3_init_84 : decode cX3_init 84 = .ok (.getfield 18, 3) := by decide +kernel
theorem dX3_init_87 : decode cX3_init 87 = .ok (.aastore, 1) := by decide +kernel
theorem dX3_init_88 : decode cX3_init 88 = .ok (.iinc 1 1, 3) := by decide +kernel
theorem dX3_init_91 : decode cX3_init 91 = .ok (.goto (-32), 3) := by decide +kernel
theorem dX3_init_94 : decode cX3_init 94 = .ok (.return_, 1) := by decide +kernel
theorem dX3_clear_0 : decode cX3_clear 0 = .ok (.aload_n 0, 1) := by decide +kernel
theorem dX3_clear_1 : decode cX3_clear 1 = .ok (.iload_n 1, 1) := by decide +kernel
theorem dX3_clear_2 : decode cX3_clear 2 = .ok (.bipush 16, 2) := by decide +kernel
theorem dX3_clear_4 : decode cX3_clear 4 = .ok (.invokestatic 36, 3) := by decide +kernel
theorem dX3_clear_7 : decode cX3_clear 7 = .ok (.putfield 42, 3) := by decide +kernel
theorem dX3_clear_10 : decode cX3_clear 10 = .ok (.aload_n 0, 1) := by decide +kernel
theorem dX3_clear_11 : decode cX3_clear 11 = .ok (.iconst 0, 1) := by decide +kernel
theorem dX3_clear_12 : decode cX3_clear 12 = .ok (.putfield 46, 3) := by decide +kernel
theorem dX3_clear_15 : decode cX3_clear 15 = .ok (.aload_n 0, 1) := by decide +kernel
theorem dX3_clear_16 : decode cX3_clear 16 = .ok (.iconst 0, 1) := by decide +kernel
theorem dX3_clear_17 : decode cX3_clear 17 = .ok (.putfield 49, 3) := by decide +kernel
theorem dX3_clear_20 : decode cX3_clear 20 = .ok (.iconst 0, 1) := by decide +kernel
theorem dX3_clear_21 : decode cX3_clear 21 = .ok (.istore_n 2, 1) := by decide +kernel
theorem dX3_clear_22 : decode cX3_clear 22 = .ok (.iload_n 2, 1) := by decide +kernel
theorem dX3_clear_23 : decode cX3_clear 23 = .ok (.bipush 16, 2) := by decide +kernel
theorem dX3_clear_25 : decode cX3_clear 25 = .ok (.if_icmp .ge 40, 3) := by decide +kernel
theorem dX3_clear_28 : decode cX3_clear 28 = .ok (.aload_n 0, 1) := by decide +kernel
theorem dX3_clear_29 : decode cX3_clear 29 = .ok (.getfield 22, 3) := by decide +kernel
theorem dX3_clear_32 : decode cX3_clear 32 = .ok (.iload_n 2, 1) := by decide +kernel
theorem dX3_clear_33 : decode cX3_clear 33 = .ok (.aload_n 0, 1) := by decide +kernel
theorem dX3_clear_34 : decode cX3_clear 34 = .ok (.getfield 18, 3) := by decide +kernel
theorem dX3_clear_37 : decode cX3_clear 37 = .ok (.aastore, 1) := by decide +kernel
theorem dX3_clear_38 : decode cX3_clear 38 = .ok (.aload_n 0, 1) := by decide +kernel
theorem dX3_clear_39 : decode cX3_clear 39 = .ok (.getfield 25, 3) := by decide +kernel
theorem dX3_clear_42 : decode cX3_clear 42 = .ok (.iload_n 2, 1) := by decide +kernel
theorem dX3_clear_43 : decode cX3_clear 43 = .ok (.iconst 0, 1) := by decide +kernel
theorem dX3_clear_44 : decode cX3_clear 44 = .ok (.bastore, 1) := by decide +kernel
theorem dX3_clear_45 : decode cX3_clear 45 = .ok (.aload_n 0, 1) := by decide +kernel
theorem dX3_clear_46 : decode cX3_clear 46 = .ok (.getfield 29, 3) := by decide +kernel
theorem dX3_clear_49 : decode cX3_clear 49 = .ok (.iload_n 2, 1) := by decide +kernel
theorem dX3_clear_50 : decode cX3_clear 50 = .ok (.iconst 0, 1) := by decide +kernel
theorem dX3_clear_51 : decode cX3_clear 51 = .ok (.bastore, 1) := by decide +kernel
theorem dX3_clear_52 : decode cX3_clear 52 = .ok (.aload_n 0, 1) := by decide +kernel
theorem dX3_clear_53 : decode cX3_clear 53 = .ok (.getfield 32, 3) := by decide +kernel
theorem dX3_clear_56 : decode cX3_clear 56 = .ok (.iload_n 2, 1) := by decide +kernel
theorem dX3_clear_57 : decode cX3_clear 57 = .ok (.lconst 0, 1) := by decide +kernel
theorem dX3_clear_58 : decode cX3_clear 58 = .ok (.lastore, 1) := by decide +kernel
theorem dX3_clear_59 : decode cX3_clear 59 = .ok (.iinc 2 1, 3) := by decide +kernel
theorem dX3_clear_62 : decode cX3_clear 62 = .ok (.goto (-40), 3) := by decide +kernel
theorem dX3_clear_65 : decode cX3_clear 65 = .ok (.return_, 1) := by decide +kernel
theorem dX3_addAccess_0 : decode cX3_addAccess 0 = .ok (.iconst 0, 1) := by decide +kernel
theorem dX3_addAccess_1 : decode cX3_addAccess 1 = .ok (.istore_n 3, 1) := by decide +kernel
theorem dX3_addAccess_2 : decode cX3_addAccess 2 = .ok (.iload_n 3, 1) := by decide +kernel
theorem dX3_addAccess_3 : decode cX3_addAccess 3 = .ok (.iload_n 2, 1) := by decide +kernel
theorem dX3_addAccess_4 : decode cX3_addAccess 4 = .ok (.if_icmp .ge 48, 3) := by decide +kernel
theorem dX3_addAccess_7 : decode cX3_addAccess 7 = .ok (.aload_n 0, 1) := by decide +kernel
theorem dX3_addAccess_8 : decode cX3_addAccess 8 = .ok (.iload_n 1, 1) := by decide +kernel
theorem dX3_addAccess_9 : decode cX3_addAccess 9 = .ok (.iload_n 3, 1) := by decide +kernel
theorem dX3_addAccess_10 : decode cX3_addAccess 10 = .ok (.iadd, 1) := by decide +kernel
theorem dX3_addAccess_11 : decode cX3_addAccess 11 = .ok (.invokevirtual 53, 3) := by decide +kernel
theorem dX3_addAccess_14 : decode cX3_addAccess 14 = .ok (.ifCond .eq 32, 3) := by decide +kernel
theorem dX3_addAccess_17 : decode cX3_addAccess 17 = .ok (.aload_n 0, 1) := by decide +kernel
theorem dX3_addAccess_18 : decode cX3_addAccess 18 = .ok (.getfield 25, 3) := by decide +kernel
theorem dX3_addAccess_21 : decode cX3_addAccess 21 = .ok (.iload_n 1, 1) := by decide +kernel
theorem dX3_addAccess_22 : decode cX3_addAccess 22 = .ok (.iload_n 3, 1) := by decide +kernel
theorem dX3_addAccess_23 : decode cX3_addAccess 23 = .ok (.iadd, 1) := by decide +kernel
theorem dX3_addAccess_24 : decode cX3_addAccess 24 = .ok (.iconst 1, 1) := by decide +kernel
theorem dX3_addAccess_25 : decode cX3_addAccess 25 = .ok (.bastore, 1) := by decide +kernel
theorem dX3_addAccess_26 : decode cX3_addAccess 26 = .ok (.aload_n 0, 1) := by decide +kernel
theorem dX3_addAccess_27 : decode cX3_addAccess 27 = .ok (.getfield 29, 3) := by decide +kernel
theorem dX3_addAccess_30 : decode cX3_addAccess 30 = .ok (.iload_n 1, 1) := by decide +kernel
theorem dX3_addAccess_31 : decode cX3_addAccess 31 = .ok (.iload_n 3, 1) := by decide +kernel
theorem dX3_addAccess_32 : decode cX3_addAccess 32 = .ok (.iadd, 1) := by decide +kernel
theorem dX3_addAccess_33 : decode cX3_addAccess 33 = .ok (.dup2, 1) := by decide +kernel
theorem dX3_addAccess_34 : decode cX3_addAccess 34 = .ok (.baload, 1) := by decide +kernel
theorem dX3_addAccess_35 : decode cX3_addAccess 35 = .ok (.iload_n 3, 1) := by decide +kernel
theorem dX3_addAccess_36 : decode cX3_addAccess 36 = .ok (.ifCond .le 7, 3) := by decide +kernel
theorem dX3_addAccess_39 : decode cX3_addAccess 39 = .ok (.iconst 1, 1) := by decide +kernel
theorem dX3_addAccess_40 : decode cX3_addAccess 40 = .ok (.goto 4, 3) := by decide +kernel
theorem dX3_addAccess_43 : decode cX3_addAccess 43 = .ok (.iconst 0, 1) := by decide +kernel
theorem dX3_addAccess_44 : decode cX3_addAccess 44 = .ok (.ior, 1) := by decide +kernel
theorem dX3_addAccess_45 : decode cX3_addAccess 45 = .ok (.bastore, 1) := by decide +kernel
theorem dX3_addAccess_46 : decode cX3_addAccess 46 = .ok (.iinc 3 1, 3) := by decide +kernel
theorem dX3_addAccess_49 : decode cX3_addAccess 49 = .ok (.goto (-47), 3) := by decide +kernel
theorem dX3_addAccess_52 : decode cX3_addAccess 52 = .ok (.return_, 1) := by decide +kernel
theorem dX3_addCopyRange_0 : decode cX3_addCopyRange 0 = .ok (.iconst 0, 1) := by decide +kernel
theorem dX3_addCopyRange_1 : decode cX3_addCopyRange 1 = .ok (.istore 5, 2) := by decide +kernel
theorem dX3_addCopyRange_3 : decode cX3_addCopyRange 3 = .ok (.iload 5, 2) := by decide +kernel
theorem dX3_addCopyRange_5 : decode cX3_addCopyRange 5 = .ok (.iload_n 2, 1) := by decide +kernel
theorem dX3_addCopyRange_6 : decode cX3_addCopyRange 6 = .ok (.if_icmp .ge 33, 3) := by decide +kernel
theorem dX3_addCopyRange_9 : decode cX3_addCopyRange 9 = .ok (.aload_n 0, 1) := by decide +kernel
theorem dX3_addCopyRange_10 : decode cX3_addCopyRange 10 = .ok (.iload_n 1, 1) := by decide +kernel
theorem dX3_addCopyRange_11 : decode cX3_addCopyRange 11 = .ok (.iload 5, 2) := by decide +kernel
theorem dX3_addCopyRange_13 : decode cX3_addCopyRange 13 = .ok (.iadd, 1) := by decide +kernel
theorem dX3_addCopyRange_14 : decode cX3_addCopyRange 14 = .ok (.invokevirtual 53, 3) := by decide +kernel
theorem dX3_addCopyRange_17 : decode cX3_addCopyRange 17 = .ok (.ifCond .eq 16, 3) := by decide +kernel
theorem dX3_addCopyRange_20 : decode cX3_addCopyRange 20 = .ok (.aload_n 0, 1) := by decide +kernel
theorem dX3_addCopyRange_21 : decode cX3_addCopyRange 21 = .ok (.getfield 32, 3) := by decide +kernel
theorem dX3_addCopyRange_24 : decode cX3_addCopyRange 24 = .ok (.iload_n 1, 1) := by decide +kernel
theorem dX3_addCopyRange_25 : decode cX3_addCopyRange 25 = .ok (.iload 5, 2) := by decide +kernel
theorem dX3_addCopyRange_27 : decode cX3_addCopyRange 27 = .ok (.iadd, 1) := by decide +kernel
theorem dX3_addCopyRange_28 : decode cX3_addCopyRange 28 = .ok (.dup2, 1) := by decide +kernel
theorem dX3_addCopyRange_29 : decode cX3_addCopyRange 29 = .ok (.laload, 1) := by decide +kernel
theorem dX3_addCopyRange_30 : decode cX3_addCopyRange 30 = .ok (.lload_n 3, 1) := by decide +kernel
theorem dX3_addCopyRange_31 : decode cX3_addCopyRange 31 = .ok (.lor, 1) := by decide +kernel
theorem dX3_addCopyRange_32 : decode cX3_addCopyRange 32 = .ok (.lastore, 1) := by decide +kernel
theorem dX3_addCopyRange_33 : decode cX3_addCopyRange 33 = .ok (.iinc 5 1, 3) := by decide +kernel
theorem dX3_addCopyRange_36 : decode cX3_addCopyRange 36 = .ok (.goto (-33), 3) := by decide +kernel
theorem dX3_addCopyRange_39 : decode cX3_addCopyRange 39 = .ok (.return_, 1) := by decide +kernel
theorem dX3_formPartitions_0 : decode cX3_formPartitions 0 = .ok (.iconst 0, 1) := by decide +kernel
theorem dX3_formPartitions_1 : decode cX3_formPartitions 1 = .ok (.istore_n 1, 1) := by decide +kernel
theorem dX3_formPartitions_2 : decode cX3_formPartitions 2 = .ok (.iload_n 1, 1) := by decide +kernel
theorem dX3_formPartitions_3 : decode cX3_formPartitions 3 = .ok (.aload_n 0, 1) := by decide +kernel
theorem dX3_formPartitions_4 : decode cX3_formPartitions 4 = .ok (.getfield 42, 3) := by decide +kernel
theorem dX3_formPartitions_7 : decode cX3_formPartitions 7 = .ok (.if_icmp .ge 81, 3) := by decide +kernel
theorem dX3_formPartitions_10 : decode cX3_formPartitions 10 = .ok (.aload_n 0, 1) := by decide +kernel
theorem dX3_formPartitions_11 : decode cX3_formPartitions 11 = .ok (.iload_n 1, 1) := by decide +kernel
theorem dX3_formPartitions_12 : decode cX3_formPartitions 12 = .ok (.invokevirtual 57, 3) := by decide +kernel
theorem dX3_formPartitions_15 : decode cX3_formPartitions 15 = .ok (.ifCond .ne 67, 3) := by decide +kernel
theorem dX3_formPartitions_18 : decode cX3_formPartitions 18 = .ok (.aload_n 0, 1) := by decide +kernel
theorem dX3_formPartitions_19 : decode cX3_formPartitions 19 = .ok (.iload_n 1, 1) := by decide +kernel
theorem dX3_formPartitions_20 : decode cX3_formPartitions 20 = .ok (.invokevirtual 60, 3) := by decide +kernel
theorem dX3_formPartitions_23 : decode cX3_formPartitions 23 = .ok (.ifCond .eq 30, 3) := by decide +kernel
theorem dX3_formPartitions_26 : decode cX3_formPartitions 26 = .ok (.aload_n 0, 1) := by decide +kernel
theorem dX3_formPartitions_27 : decode cX3_formPartitions 27 = .ok (.getfield 11, 3) := by decide +kernel
theorem dX3_formPartitions_30 : decode cX3_formPartitions 30 = .ok (.aload_n 0, 1) := by decide +kernel
theorem dX3_formPartitions_31 : decode cX3_formPartitions 31 = .ok (.getfield 46, 3) := by decide +kernel
theorem dX3_formPartitions_34 : decode cX3_formPartitions 34 = .ok (.aaload, 1) := by decide +kernel
theorem dX3_formPartitions_35 : decode cX3_formPartitions 35 = .ok (.iload_n 1, 1) := by decide +kernel
theorem dX3_formPartitions_36 : decode cX3_formPartitions 36 = .ok (.aload_n 0, 1) := by decide +kernel
theorem dX3_formPartitions_37 : decode cX3_formPartitions 37 = .ok (.getfield 49, 3) := by decide +kernel
theorem dX3_formPartitions_40 : decode cX3_formPartitions 40 = .ok (.invokevirtual 63, 3) := by decide +kernel
theorem dX3_formPartitions_43 : decode cX3_formPartitions 43 = .ok (.aload_n 0, 1) := by decide +kernel
theorem dX3_formPartitions_44 : decode cX3_formPartitions 44 = .ok (.dup, 1) := by decide +kernel
theorem dX3_formPartitions_45 : decode cX3_formPartitions 45 = .ok (.getfield 46, 3) := by decide +kernel
theorem dX3_formPartitions_48 : decode cX3_formPartitions 48 = .ok (.iconst 1, 1) := by decide +kernel
theorem dX3_formPartitions_49 : decode cX3_formPartitions 49 = .ok (.iadd, 1) := by decide +kernel
theorem dX3_formPartitions_50 : decode cX3_formPartitions 50 = .ok (.putfield 46, 3) := by decide +kernel
theorem dX3_formPartitions_53 : decode cX3_formPartitions 53 = .ok (.aload_n 0, 1) := by decide +kernel
theorem dX3_formPartitions_54 : decode cX3_formPartitions 54 = .ok (.getfield 22, 3) := by decide +kernel
theorem dX3_formPartitions_57 : decode cX3_formPartitions 57 = .ok (.iload_n 1, 1) := by decide +kernel
theorem dX3_formPartitions_58 : decode cX3_formPartitions 58 = .ok (.aload_n 0, 1) := by decide +kernel
theorem dX3_formPartitions_59 : decode cX3_formPartitions 59 = .ok (.aload_n 0, 1) := by decide +kernel
theorem dX3_formPartitions_60 : decode cX3_formPartitions 60 = .ok (.getfield 46, 3) := by decide +kernel
theorem dX3_formPartitions_63 : decode cX3_formPartitions 63 = .ok (.iconst 1, 1) := by decide +kernel
theorem dX3_formPartitions_64 : decode cX3_formPartitions 64 = .ok (.isub, 1) := by decide +kernel
theorem dX3_formPartitions_65 : decode cX3_formPartitions 65 = .ok (.invokevirtual 67, 3) := by decide +kernel
theorem dX3_formPartitions_68 : decode cX3_formPartitions 68 = .ok (.aastore, 1) := by decide +kernel
theorem dX3_formPartitions_69 : decode cX3_formPartitions 69 = .ok (.aload_n 0, 1) := by decide +kernel
theorem dX3_formPartitions_70 : decode cX3_formPartitions 70 = .ok (.getfield 22, 3) := by decide +kernel
theorem dX3_formPartitions_73 : decode cX3_formPartitions 73 = .ok (.iload_n 1, 1) := by decide +kernel
theorem dX3_formPartitions_74 : decode cX3_formPartitions 74 = .ok (.aaload, 1) := by decide +kernel
theorem dX3_formPartitions_75 : decode cX3_formPartitions 75 = .ok (.aload_n 0, 1) := by decide +kernel
theorem dX3_formPartitions_76 : decode cX3_formPartitions 76 = .ok (.getfield 49, 3) := by decide +kernel
theorem dX3_formPartitions_79 : decode cX3_formPartitions 79 = .ok (.invokevirtual 71, 3) := by decide +kernel
theorem dX3_formPartitions_82 : decode cX3_formPartitions 82 = .ok (.iinc 1 1, 3) := by decide +kernel
theorem dX3_formPartitions_85 : decode cX3_formPartitions 85 = .ok (.goto (-83), 3) := by decide +kernel
theorem dX3_formPartitions_88 : decode cX3_formPartitions 88 = .ok (.return_, 1) := by decide +kernel
theorem dX3_isByte_0 : decode cX3_isByte 0 = .ok (.iload_n 1, 1) := by decide +kernel
theorem dX3_isByte_1 : decode cX3_isByte 1 = .ok (.ifCond .lt 15, 3) := by decide +kernel
theorem dX3_isByte_4 : decode cX3_isByte 4 = .ok (.iload_n 1, 1) := by decide +kernel
theorem dX3_isByte_5 : decode cX3_isByte 5 = .ok (.aload_n 0, 1) := by decide +kernel
theorem dX3_isByte_6 : decode cX3_isByte 6 = .ok (.getfield 42, 3) := by decide +kernel
theorem dX3_isByte_9 : decode cX3_isByte 9 = .ok (.if_icmp .ge 7, 3) := by decide +kernel
theorem dX3_isByte_12 : decode cX3_isByte 12 = .ok (.iconst 1, 1) := by decide +kernel
theorem dX3_isByte_13 : decode cX3_isByte 13 = .ok (.goto 4, 3) := by decide +kernel
theorem dX3_isByte_16 : decode cX3_isByte 16 = .ok (.iconst 0, 1) := by decide +kernel
theorem dX3_isByte_17 : decode cX3_isByte 17 = .ok (.ireturn, 1) := by decide +kernel
theorem dX3_isPadding_0 : decode cX3_isPadding 0 = .ok (.aload_n 0, 1) := by decide +kernel
theorem dX3_isPadding_1 : decode cX3_isPadding 1 = .ok (.getfield 49, 3) := by decide +kernel
theorem dX3_isPadding_4 : decode cX3_isPadding 4 = .ok (.ifCond .ne 27, 3) := by decide +kernel
theorem dX3_isPadding_7 : decode cX3_isPadding 7 = .ok (.aload_n 0, 1) := by decide +kernel
theorem dX3_isPadding_8 : decode cX3_isPadding 8 = .ok (.getfield 25, 3) := by decide +kernel
theorem dX3_isPadding_11 : decode cX3_isPadding 11 = .ok (.iload_n 1, 1) := by decide +kernel
theorem dX3_isPadding_12 : decode cX3_isPadding 12 = .ok (.baload, 1) := by decide +kernel
theorem dX3_isPadding_13 : decode cX3_isPadding 13 = .ok (.ifCond .ne 18, 3) := by decide +kernel
theorem dX3_isPadding_16 : decode cX3_isPadding 16 = .ok (.aload_n 0, 1) := by decide +kernel
theorem dX3_isPadding_17 : decode cX3_isPadding 17 = .ok (.getfield 32, 3) := by decide +kernel
theorem dX3_isPadding_20 : decode cX3_isPadding 20 = .ok (.iload_n 1, 1) := by decide +kernel
theorem dX3_isPadding_21 : decode cX3_isPadding 21 = .ok (.laload, 1) := by decide +kernel
theorem dX3_isPadding_22 : decode cX3_isPadding 22 = .ok (.lconst 0, 1) := by decide +kernel
theorem dX3_isPadding_23 : decode cX3_isPadding 23 = .ok (.lcmp, 1) := by decide +kernel
theorem dX3_isPadding_24 : decode cX3_isPadding 24 = .ok (.ifCond .ne 7, 3) := by decide +kernel
theorem dX3_isPadding_27 : decode cX3_isPadding 27 = .ok (.iconst 1, 1) := by decide +kernel
theorem dX3_isPadding_28 : decode cX3_isPadding 28 = .ok (.goto 4, 3) := by decide +kernel
theorem dX3_isPadding_31 : decode cX3_isPadding 31 = .ok (.iconst 0, 1) := by decide +kernel
theorem dX3_isPadding_32 : decode cX3_isPadding 32 = .ok (.ireturn, 1) := by decide +kernel
theorem dX3_beginsPartition_0 : decode cX3_beginsPartition 0 = .ok (.iload_n 1, 1) := by decide +kernel
theorem dX3_beginsPartition_1 : decode cX3_beginsPartition 1 = .ok (.ifCond .ne 5, 3) := by decide +kernel
theorem dX3_beginsPartition_4 : decode cX3_beginsPartition 4 = .ok (.iconst 1, 1) := by decide +kernel
theorem dX3_beginsPartition_5 : decode cX3_beginsPartition 5 = .ok (.ireturn, 1) := by decide +kernel
theorem dX3_beginsPartition_6 : decode cX3_beginsPartition 6 = .ok (.aload_n 0, 1) := by decide +kernel
theorem dX3_beginsPartition_7 : decode cX3_beginsPartition 7 = .ok (.getfield 49, 3) := by decide +kernel
theorem dX3_beginsPartition_10 : decode cX3_beginsPartition 10 = .ok (.ifCond .eq 5, 3) := by decide +kernel
theorem dX3_beginsPartition_13 : decode cX3_beginsPartition 13 = .ok (.iconst 0, 1) := by decide +kernel
theorem dX3_beginsPartition_14 : decode cX3_beginsPartition 14 = .ok (.ireturn, 1) := by decide +kernel
theorem dX3_beginsPartition_15 : decode cX3_beginsPartition 15 = .ok (.aload_n 0, 1) := by decide +kernel
theorem dX3_beginsPartition_16 : decode cX3_beginsPartition 16 = .ok (.getfield 25, 3) := by decide +kernel
theorem dX3_beginsPartition_19 : decode cX3_beginsPartition 19 = .ok (.iload_n 1, 1) := by decide +kernel
theorem dX3_beginsPartition_20 : decode cX3_beginsPartition 20 = .ok (.baload, 1) := by decide +kernel
theorem dX3_beginsPartition_21 : decode cX3_beginsPartition 21 = .ok (.ifCond .eq 18, 3) := by decide +kernel
theorem dX3_beginsPartition_24 : decode cX3_beginsPartition 24 = .ok (.aload_n 0, 1) := by decide +kernel
theorem dX3_beginsPartition_25 : decode cX3_beginsPartition 25 = .ok (.getfield 29, 3) := by decide +kernel
theorem dX3_beginsPartition_28 : decode cX3_beginsPartition 28 = .ok (.iload_n 1, 1) := by decide +kernel
theorem dX3_beginsPartition_29 : decode cX3_beginsPartition 29 = .ok (.baload, 1) := by decide +kernel
theorem dX3_beginsPartition_30 : decode cX3_beginsPartition 30 = .ok (.ifCond .ne 7, 3) := by decide +kernel
theorem dX3_beginsPartition_33 : decode cX3_beginsPartition 33 = .ok (.iconst 1, 1) := by decide +kernel
theorem dX3_beginsPartition_34 : decode cX3_beginsPartition 34 = .ok (.goto 4, 3) := by decide +kernel
theorem dX3_beginsPartition_37 : decode cX3_beginsPartition 37 = .ok (.iconst 0, 1) := by decide +kernel
theorem dX3_beginsPartition_38 : decode cX3_beginsPartition 38 = .ok (.ireturn, 1) := by decide +kernel
theorem dX3_beginsPartition_39 : decode cX3_beginsPartition 39 = .ok (.aload_n 0, 1) := by decide +kernel
theorem dX3_beginsPartition_40 : decode cX3_beginsPartition 40 = .ok (.getfield 25, 3) := by decide +kernel
theorem dX3_beginsPartition_43 : decode cX3_beginsPartition 43 = .ok (.iload_n 1, 1) := by decide +kernel
theorem dX3_beginsPartition_44 : decode cX3_beginsPartition 44 = .ok (.iconst 1, 1) := by decide +kernel
theorem dX3_beginsPartition_45 : decode cX3_beginsPartition 45 = .ok (.isub, 1) := by decide +kernel
theorem dX3_beginsPartition_46 : decode cX3_beginsPartition 46 = .ok (.baload, 1) := by decide +kernel
theorem dX3_beginsPartition_47 : decode cX3_beginsPartition 47 = .ok (.ifCond .ne 21, 3) := by decide +kernel
theorem dX3_beginsPartition_50 : decode cX3_beginsPartition 50 = .ok (.aload_n 0, 1) := by decide +kernel
theorem dX3_beginsPartition_51 : decode cX3_beginsPartition 51 = .ok (.getfield 32, 3) := by decide +kernel
theorem dX3_beginsPartition_54 : decode cX3_beginsPartition 54 = .ok (.iload_n 1, 1) := by decide +kernel
theorem dX3_beginsPartition_55 : decode cX3_beginsPartition 55 = .ok (.iconst 1, 1) := by decide +kernel
theorem dX3_beginsPartition_56 : decode cX3_beginsPartition 56 = .ok (.isub, 1) := by decide +kernel
theorem dX3_beginsPartition_57 : decode cX3_beginsPartition 57 = .ok (.laload, 1) := by decide +kernel
theorem dX3_beginsPartition_58 : decode cX3_beginsPartition 58 = .ok (.aload_n 0, 1) := by decide +kernel
theorem dX3_beginsPartition_59 : decode cX3_beginsPartition 59 = .ok (.getfield 32, 3) := by decide +kernel
theorem dX3_beginsPartition_62 : decode cX3_beginsPartition 62 = .ok (.iload_n 1, 1) := by decide +kernel
theorem dX3_beginsPartition_63 : decode cX3_beginsPartition 63 = .ok (.laload, 1) := by decide +kernel
theorem dX3_beginsPartition_64 : decode cX3_beginsPartition 64 = .ok (.lcmp, 1) := by decide +kernel
theorem dX3_beginsPartition_65 : decode cX3_beginsPartition 65 = .ok (.ifCond .eq 7, 3) := by decide +kernel
theorem dX3_beginsPartition_68 : decode cX3_beginsPartition 68 = .ok (.iconst 1, 1) := by decide +kernel
theorem dX3_beginsPartition_69 : decode cX3_beginsPartition 69 = .ok (.goto 4, 3) := by decide +kernel
theorem dX3_beginsPartition_72 : decode cX3_beginsPartition 72 = .ok (.iconst 0, 1) := by decide +kernel
theorem dX3_beginsPartition_73 : decode cX3_beginsPartition 73 = .ok (.ireturn, 1) := by decide +kernel
theorem dX3_numbered_0 : decode cX3_numbered 0 = .ok (.iload_n 1, 1) := by decide +kernel
theorem dX3_numbered_1 : decode cX3_numbered 1 = .ok (.ifCond .lt 20, 3) := by decide +kernel
theorem dX3_numbered_4 : decode cX3_numbered 4 = .ok (.iload_n 1, 1) := by decide +kernel
theorem dX3_numbered_5 : decode cX3_numbered 5 = .ok (.aload_n 0, 1) := by decide +kernel
theorem dX3_numbered_6 : decode cX3_numbered 6 = .ok (.getfield 46, 3) := by decide +kernel
theorem dX3_numbered_9 : decode cX3_numbered 9 = .ok (.if_icmp .ge 12, 3) := by decide +kernel
theorem dX3_numbered_12 : decode cX3_numbered 12 = .ok (.aload_n 0, 1) := by decide +kernel
theorem dX3_numbered_13 : decode cX3_numbered 13 = .ok (.getfield 11, 3) := by decide +kernel
theorem dX3_numbered_16 : decode cX3_numbered 16 = .ok (.iload_n 1, 1) := by decide +kernel
theorem dX3_numbered_17 : decode cX3_numbered 17 = .ok (.aaload, 1) := by decide +kernel
theorem dX3_numbered_18 : decode cX3_numbered 18 = .ok (.goto 7, 3) := by decide +kernel
theorem dX3_numbered_21 : decode cX3_numbered 21 = .ok (.aload_n 0, 1) := by decide +kernel
theorem dX3_numbered_22 : decode cX3_numbered 22 = .ok (.getfield 18, 3) := by decide +kernel
theorem dX3_numbered_25 : decode cX3_numbered 25 = .ok (.areturn, 1) := by decide +kernel
theorem dX3_holding_0 : decode cX3_holding 0 = .ok (.iload_n 1, 1) := by decide +kernel
theorem dX3_holding_1 : decode cX3_holding 1 = .ok (.ifCond .lt 18, 3) := by decide +kernel
theorem dX3_holding_4 : decode cX3_holding 4 = .ok (.iload_n 1, 1) := by decide +kernel
theorem dX3_holding_5 : decode cX3_holding 5 = .ok (.bipush 16, 2) := by decide +kernel
theorem dX3_holding_7 : decode cX3_holding 7 = .ok (.if_icmp .ge 12, 3) := by decide +kernel
theorem dX3_holding_10 : decode cX3_holding 10 = .ok (.aload_n 0, 1) := by decide +kernel
theorem dX3_holding_11 : decode cX3_holding 11 = .ok (.getfield 22, 3) := by decide +kernel
theorem dX3_holding_14 : decode cX3_holding 14 = .ok (.iload_n 1, 1) := by decide +kernel
theorem dX3_holding_15 : decode cX3_holding 15 = .ok (.aaload, 1) := by decide +kernel
theorem dX3_holding_16 : decode cX3_holding 16 = .ok (.goto 7, 3) := by decide +kernel
theorem dX3_holding_19 : decode cX3_holding 19 = .ok (.aload_n 0, 1) := by decide +kernel
theorem dX3_holding_20 : decode cX3_holding 20 = .ok (.getfield 18, 3) := by decide +kernel
theorem dX3_holding_23 : decode cX3_holding 23 = .ok (.areturn, 1) := by decide +kernel
theorem dX3_isStart_0 : decode cX3_isStart 0 = .ok (.aload_n 0, 1) := by decide +kernel
theorem dX3_isStart_1 : decode cX3_isStart 1 = .ok (.iload_n 1, 1) := by decide +kernel
theorem dX3_isStart_2 : decode cX3_isStart 2 = .ok (.invokevirtual 75, 3) := by decide +kernel
theorem dX3_isStart_5 : decode cX3_isStart 5 = .ok (.astore_n 2, 1) := by decide +kernel
theorem dX3_isStart_6 : decode cX3_isStart 6 = .ok (.aload_n 2, 1) := by decide +kernel
theorem dX3_isStart_7 : decode cX3_isStart 7 = .ok (.getfield 78, 3) := by decide +kernel
theorem dX3_isStart_10 : decode cX3_isStart 10 = .ok (.ifCond .le 15, 3) := by decide +kernel
theorem dX3_isStart_13 : decode cX3_isStart 13 = .ok (.aload_n 2, 1) := by decide +kernel
theorem dX3_isStart_14 : decode cX3_isStart 14 = .ok (.getfield 81, 3) := by decide +kernel
theorem dX3_isStart_17 : decode cX3_isStart 17 = .ok (.iload_n 1, 1) := by decide +kernel
theorem dX3_isStart_18 : decode cX3_isStart 18 = .ok (.if_icmp .ne 7, 3) := by decide +kernel
theorem dX3_isStart_21 : decode cX3_isStart 21 = .ok (.iconst 1, 1) := by decide +kernel
theorem dX3_isStart_22 : decode cX3_isStart 22 = .ok (.goto 4, 3) := by decide +kernel
theorem dX3_isStart_25 : decode cX3_isStart 25 = .ok (.iconst 0, 1) := by decide +kernel
theorem dX3_isStart_26 : decode cX3_isStart 26 = .ok (.ireturn, 1) := by decide +kernel
theorem dX3_countPadding_0 : decode cX3_countPadding 0 = .ok (.aload_n 0, 1) := by decide +kernel
theorem dX3_countPadding_1 : decode cX3_countPadding 1 = .ok (.getfield 42, 3) := by decide +kernel
theorem dX3_countPadding_4 : decode cX3_countPadding 4 = .ok (.istore_n 1, 1) := by decide +kernel
theorem dX3_countPadding_5 : decode cX3_countPadding 5 = .ok (.iconst 0, 1) := by decide +kernel
theorem dX3_countPadding_6 : decode cX3_countPadding 6 = .ok (.istore_n 2, 1) := by decide +kernel
theorem dX3_countPadding_7 : decode cX3_countPadding 7 = .ok (.iload_n 2, 1) := by decide +kernel
theorem dX3_countPadding_8 : decode cX3_countPadding 8 = .ok (.aload_n 0, 1) := by decide +kernel
theorem dX3_countPadding_9 : decode cX3_countPadding 9 = .ok (.getfield 46, 3) := by decide +kernel
theorem dX3_countPadding_12 : decode cX3_countPadding 12 = .ok (.if_icmp .ge 21, 3) := by decide +kernel
theorem dX3_countPadding_15 : decode cX3_countPadding 15 = .ok (.iload_n 1, 1) := by decide +kernel
theorem dX3_countPadding_16 : decode cX3_countPadding 16 = .ok (.aload_n 0, 1) := by decide +kernel
theorem dX3_countPadding_17 : decode cX3_countPadding 17 = .ok (.getfield 11, 3) := by decide +kernel
theorem dX3_countPadding_20 : decode cX3_countPadding 20 = .ok (.iload_n 2, 1) := by decide +kernel
theorem dX3_countPadding_21 : decode cX3_countPadding 21 = .ok (.aaload, 1) := by decide +kernel
theorem dX3_countPadding_22 : decode cX3_countPadding 22 = .ok (.getfield 78, 3) := by decide +kernel
theorem dX3_countPadding_25 : decode cX3_countPadding 25 = .ok (.isub, 1) := by decide +kernel
theorem dX3_countPadding_26 : decode cX3_countPadding 26 = .ok (.istore_n 1, 1) := by decide +kernel
theorem dX3_countPadding_27 : decode cX3_countPadding 27 = .ok (.iinc 2 1, 3) := by decide +kernel
theorem dX3_countPadding_30 : decode cX3_countPadding 30 = .ok (.goto (-23), 3) := by decide +kernel
theorem dX3_countPadding_33 : decode cX3_countPadding 33 = .ok (.iload_n 1, 1) := by decide +kernel
theorem dX3_countPadding_34 : decode cX3_countPadding 34 = .ok (.ireturn, 1) := by decide +kernel
theorem dX3_countScalars_0 : decode cX3_countScalars 0 = .ok (.iconst 0, 1) := by decide +kernel
theorem dX3_countScalars_1 : decode cX3_countScalars 1 = .ok (.istore_n 1, 1) := by decide +kernel
theorem dX3_countScalars_2 : decode cX3_countScalars 2 = .ok (.iconst 0, 1) := by decide +kernel
theorem dX3_countScalars_3 : decode cX3_countScalars 3 = .ok (.istore_n 2, 1) := by decide +kernel
theorem dX3_countScalars_4 : decode cX3_countScalars 4 = .ok (.iload_n 2, 1) := by decide +kernel
theorem dX3_countScalars_5 : decode cX3_countScalars 5 = .ok (.aload_n 0, 1) := by decide +kernel
theorem dX3_countScalars_6 : decode cX3_countScalars 6 = .ok (.getfield 46, 3) := by decide +kernel
theorem dX3_countScalars_9 : decode cX3_countScalars 9 = .ok (.if_icmp .ge 44, 3) := by decide +kernel
theorem dX3_countScalars_12 : decode cX3_countScalars 12 = .ok (.iload_n 1, 1) := by decide +kernel
theorem dX3_countScalars_13 : decode cX3_countScalars 13 = .ok (.aload_n 0, 1) := by decide +kernel
theorem dX3_countScalars_14 : decode cX3_countScalars 14 = .ok (.getfield 11, 3) := by decide +kernel
theorem dX3_countScalars_17 : decode cX3_countScalars 17 = .ok (.iload_n 2, 1) := by decide +kernel
theorem dX3_countScalars_18 : decode cX3_countScalars 18 = .ok (.aaload, 1) := by decide +kernel
theorem dX3_countScalars_19 : decode cX3_countScalars 19 = .ok (.getfield 84, 3) := by decide +kernel
theorem dX3_countScalars_22 : decode cX3_countScalars 22 = .ok (.ifCond .eq 19, 3) := by decide +kernel
theorem dX3_countScalars_25 : decode cX3_countScalars 25 = .ok (.aload_n 0, 1) := by decide +kernel
theorem dX3_countScalars_26 : decode cX3_countScalars 26 = .ok (.getfield 11, 3) := by decide +kernel
theorem dX3_countScalars_29 : decode cX3_countScalars 29 = .ok (.iload_n 2, 1) := by decide +kernel
theorem dX3_countScalars_30 : decode cX3_countScalars 30 = .ok (.aaload, 1) := by decide +kernel
theorem dX3_countScalars_31 : decode cX3_countScalars 31 = .ok (.getfield 87, 3) := by decide +kernel
theorem dX3_countScalars_34 : decode cX3_countScalars 34 = .ok (.ifCond .eq 7, 3) := by decide +kernel
theorem dX3_countScalars_37 : decode cX3_countScalars 37 = .ok (.iconst 1, 1) := by decide +kernel
theorem dX3_countScalars_38 : decode cX3_countScalars 38 = .ok (.goto 4, 3) := by decide +kernel
theorem dX3_countScalars_41 : decode cX3_countScalars 41 = .ok (.iconst 0, 1) := by decide +kernel
theorem dX3_countScalars_42 : decode cX3_countScalars 42 = .ok (.invokestatic 90, 3) := by decide +kernel
theorem dX3_countScalars_45 : decode cX3_countScalars 45 = .ok (.iadd, 1) := by decide +kernel
theorem dX3_countScalars_46 : decode cX3_countScalars 46 = .ok (.istore_n 1, 1) := by decide +kernel
theorem dX3_countScalars_47 : decode cX3_countScalars 47 = .ok (.iinc 2 1, 3) := by decide +kernel
theorem dX3_countScalars_50 : decode cX3_countScalars 50 = .ok (.goto (-46), 3) := by decide +kernel
theorem dX3_countScalars_53 : decode cX3_countScalars 53 = .ok (.iload_n 1, 1) := by decide +kernel
theorem dX3_countScalars_54 : decode cX3_countScalars 54 = .ok (.ireturn, 1) := by decide +kernel
theorem dX3_countLiveBytes_0 : decode cX3_countLiveBytes 0 = .ok (.iconst 0, 1) := by decide +kernel
theorem dX3_countLiveBytes_1 : decode cX3_countLiveBytes 1 = .ok (.istore_n 1, 1) := by decide +kernel
theorem dX3_countLiveBytes_2 : decode cX3_countLiveBytes 2 = .ok (.iconst 0, 1) := by decide +kernel
theorem dX3_countLiveBytes_3 : decode cX3_countLiveBytes 3 = .ok (.istore_n 2, 1) := by decide +kernel
theorem dX3_countLiveBytes_4 : decode cX3_countLiveBytes 4 = .ok (.iload_n 2, 1) := by decide +kernel
theorem dX3_countLiveBytes_5 : decode cX3_countLiveBytes 5 = .ok (.aload_n 0, 1) := by decide +kernel
theorem dX3_countLiveBytes_6 : decode cX3_countLiveBytes 6 = .ok (.getfield 46, 3) := by decide +kernel
theorem dX3_countLiveBytes_9 : decode cX3_countLiveBytes 9 = .ok (.if_icmp .ge 37, 3) := by decide +kernel
theorem dX3_countLiveBytes_12 : decode cX3_countLiveBytes 12 = .ok (.iload_n 1, 1) := by decide +kernel
theorem dX3_countLiveBytes_13 : decode cX3_countLiveBytes 13 = .ok (.aload_n 0, 1) := by decide +kernel
theorem dX3_countLiveBytes_14 : decode cX3_countLiveBytes 14 = .ok (.getfield 11, 3) := by decide +kernel
theorem dX3_countLiveBytes_17 : decode cX3_countLiveBytes 17 = .ok (.iload_n 2, 1) := by decide +kernel
theorem dX3_countLiveBytes_18 : decode cX3_countLiveBytes 18 = .ok (.aaload, 1) := by decide +kernel
theorem dX3_countLiveBytes_19 : decode cX3_countLiveBytes 19 = .ok (.getfield 84, 3) := by decide +kernel
theorem dX3_countLiveBytes_22 : decode cX3_countLiveBytes 22 = .ok (.ifCond .eq 15, 3) := by decide +kernel
theorem dX3_countLiveBytes_25 : decode cX3_countLiveBytes 25 = .ok (.aload_n 0, 1) := by decide +kernel
theorem dX3_countLiveBytes_26 : decode cX3_countLiveBytes 26 = .ok (.getfield 11, 3) := by decide +kernel
theorem dX3_countLiveBytes_29 : decode cX3_countLiveBytes 29 = .ok (.iload_n 2, 1) := by decide +kernel
theorem dX3_countLiveBytes_30 : decode cX3_countLiveBytes 30 = .ok (.aaload, 1) := by decide +kernel
theorem dX3_countLiveBytes_31 : decode cX3_countLiveBytes 31 = .ok (.getfield 78, 3) := by decide +kernel
theorem dX3_countLiveBytes_34 : decode cX3_countLiveBytes 34 = .ok (.goto 4, 3) := by decide +kernel
theorem dX3_countLiveBytes_37 : decode cX3_countLiveBytes 37 = .ok (.iconst 0, 1) := by decide +kernel
theorem dX3_countLiveBytes_38 : decode cX3_countLiveBytes 38 = .ok (.iadd, 1) := by decide +kernel
theorem dX3_countLiveBytes_39 : decode cX3_countLiveBytes 39 = .ok (.istore_n 1, 1) := by decide +kernel
theorem dX3_countLiveBytes_40 : decode cX3_countLiveBytes 40 = .ok (.iinc 2 1, 3) := by decide +kernel
theorem dX3_countLiveBytes_43 : decode cX3_countLiveBytes 43 = .ok (.goto (-39), 3) := by decide +kernel
theorem dX3_countLiveBytes_46 : decode cX3_countLiveBytes 46 = .ok (.iload_n 1, 1) := by decide +kernel
theorem dX3_countLiveBytes_47 : decode cX3_countLiveBytes 47 = .ok (.ireturn, 1) := by decide +kernel
theorem dX4_init_0 : decode cX4_init 0 = .ok (.aload_n 0, 1) := by decide +kernel
theorem dX4_init_1 : decode cX4_init 1 = .ok (.invokespecial 1, 3) := by decide +kernel
theorem dX4_init_4 : decode cX4_init 4 = .ok (.return_, 1) := by decide +kernel
theorem dX4_beginAt_0 : decode cX4_beginAt 0 = .ok (.aload_n 0, 1) := by decide +kernel
theorem dX4_beginAt_1 : decode cX4_beginAt 1 = .ok (.iload_n 1, 1) := by decide +kernel
theorem dX4_beginAt_2 : decode cX4_beginAt 2 = .ok (.putfield 7, 3) := by decide +kernel
theorem dX4_beginAt_5 : decode cX4_beginAt 5 = .ok (.aload_n 0, 1) := by decide +kernel
theorem dX4_beginAt_6 : decode cX4_beginAt 6 = .ok (.iconst 0, 1) := by decide +kernel
theorem dX4_beginAt_7 : decode cX4_beginAt 7 = .ok (.putfield 13, 3) := by decide +kernel
theorem dX4_beginAt_10 : decode cX4_beginAt 10 = .ok (.aload_n 0, 1) := by decide +kernel
theorem dX4_beginAt_11 : decode cX4_beginAt 11 = .ok (.iload_n 2, 1) := by decide +kernel
theorem dX4_beginAt_12 : decode cX4_beginAt 12 = .ok (.putfield 16, 3) := by decide +kernel
theorem dX4_beginAt_15 : decode cX4_beginAt 15 = .ok (.return_, 1) := by decide +kernel
theorem dX4_grow_0 : decode cX4_grow 0 = .ok (.aload_n 0, 1) := by decide +kernel
theorem dX4_grow_1 : decode cX4_grow 1 = .ok (.dup, 1) := by decide +kernel
theorem dX4_grow_2 : decode cX4_grow 2 = .ok (.getfield 13, 3) := by decide +kernel
theorem dX4_grow_5 : decode cX4_grow 5 = .ok (.iconst 1, 1) := by decide +kernel
theorem dX4_grow_6 : decode cX4_grow 6 = .ok (.iadd, 1) := by decide +kernel
theorem dX4_grow_7 : decode cX4_grow 7 = .ok (.putfield 13, 3) := by decide +kernel
theorem dX4_grow_10 : decode cX4_grow 10 = .ok (.aload_n 0, 1) := by decide +kernel
theorem dX4_grow_11 : decode cX4_grow 11 = .ok (.iload_n 1, 1) := by decide +kernel
theorem dX4_grow_12 : decode cX4_grow 12 = .ok (.ifCond .ne 17, 3) := by decide +kernel
theorem dX4_grow_15 : decode cX4_grow 15 = .ok (.aload_n 0, 1) := by decide +kernel
theorem dX4_grow_16 : decode cX4_grow 16 = .ok (.getfield 13, 3) := by decide +kernel
theorem dX4_grow_19 : decode cX4_grow 19 = .ok (.invokestatic 20, 3) := by decide +kernel
theorem dX4_grow_22 : decode cX4_grow 22 = .ok (.ifCond .eq 7, 3) := by decide +kernel
theorem dX4_grow_25 : decode cX4_grow 25 = .ok (.iconst 1, 1) := by decide +kernel
theorem dX4_grow_26 : decode cX4_grow 26 = .ok (.goto 4, 3) := by decide +kernel
theorem dX4_grow_29 : decode cX4_grow 29 = .ok (.iconst 0, 1) := by decide +kernel
theorem dX4_grow_30 : decode cX4_grow 30 = .ok (.putfield 26, 3) := by decide +kernel
theorem dX4_grow_33 : decode cX4_grow 33 = .ok (.return_, 1) := by decide +kernel
theorem dX4_touchWith_0 : decode cX4_touchWith 0 = .ok (.iload_n 1, 1) := by decide +kernel
theorem dX4_touchWith_1 : decode cX4_touchWith 1 = .ok (.aload_n 0, 1) := by decide +kernel
theorem dX4_touchWith_2 : decode cX4_touchWith 2 = .ok (.getfield 13, 3) := by decide +kernel
theorem dX4_touchWith_5 : decode cX4_touchWith 5 = .ok (.if_icmp .eq 8, 3) := by decide +kernel
theorem dX4_touchWith_8 : decode cX4_touchWith 8 = .ok (.aload_n 0, 1) := by decide +kernel
theorem dX4_touchWith_9 : decode cX4_touchWith 9 = .ok (.iconst 0, 1) := by decide +kernel
theorem dX4_touchWith_10 : decode cX4_touchWith 10 = .ok (.putfield 26, 3) := by decide +kernel
theorem dX4_touchWith_13 : decode cX4_touchWith 13 = .ok (.return_, 1) := by decide +kernel
theorem dX5_init_0 : decode cX5_init 0 = .ok (.aload_n 0, 1) := by decide +kernel
theorem dX5_init_1 : decode cX5_init 1 = .ok (.invokespecial 3, 3) := by decide +kernel
theorem dX5_init_4 : decode cX5_init 4 = .ok (.aload_n 0, 1) := by decide +kernel
theorem dX5_init_5 : decode cX5_init 5 = .ok (.iconst 4, 1) := by decide +kernel
theorem dX5_init_6 : decode cX5_init 6 = .ok (.newarray .int, 2) := by decide +kernel
theorem dX5_init_8 : decode cX5_init 8 = .ok (.putfield 9, 3) := by decide +kernel
theorem dX5_init_11 : decode cX5_init 11 = .ok (.aload_n 0, 1) := by decide +kernel
theorem dX5_init_12 : decode cX5_init 12 = .ok (.bipush 24, 2) := by decide +kernel
theorem dX5_init_14 : decode cX5_init 14 = .ok (.anewarray 15, 3) := by decide +kernel
theorem dX5_init_17 : decode cX5_init 17 = .ok (.putfield 17, 3) := by decide +kernel
theorem dX5_init_20 : decode cX5_init 20 = .ok (.aload_n 0, 1) := by decide +kernel
theorem dX5_init_21 : decode cX5_init 21 = .ok (.new 15, 3) := by decide +kernel
theorem dX5_init_24 : decode cX5_init 24 = .ok (.dup, 1) := by decide +kernel
theorem dX5_init_25 : decode cX5_init 25 = .ok (.iconst 0, 1) := by decide +kernel
theorem dX5_init_26 : decode cX5_init 26 = .ok (.invokespecial 21, 3) := by decide +kernel
theorem dX5_init_29 : decode cX5_init 29 = .ok (.putfield 24, 3) := by decide +kernel
theorem dX5_init_32 : decode cX5_init 32 = .ok (.iconst 0, 1) := by decide +kernel
theorem dX5_init_33 : decode cX5_init 33 = .ok (.istore_n 1, 1) := by decide +kernel
theorem dX5_init_34 : decode cX5_init 34 = .ok (.iload_n 1, 1) := by decide +kernel
theorem dX5_init_35 : decode cX5_init 35 = .ok (.bipush 24, 2) := by decide +kernel
theorem dX5_init_37 : decode cX5_init 37 = .ok (.if_icmp .ge 19, 3) := by decide +kernel
theorem dX5_init_40 : decode cX5_init 40 = .ok (.aload_n 0, 1) := by decide +kernel
theorem dX5_init_41 : decode cX5_init 41 = .ok (.getfield 17, 3) := by decide +kernel
theorem dX5_init_44 : decode cX5_init 44 = .ok (.iload_n 1, 1) := by decide +kernel
theorem dX5_init_45 : decode cX5_init 45 = .ok (.aload_n 0, 1) := by decide +kernel
theorem dX5_init_46 : decode cX5_init 46 = .ok (.getfield 24, 3) := by decide +kernel
theorem dX5_init_49 : decode cX5_init 49 = .ok (.aastore, 1) := by decide +kernel
theorem dX5_init_50 : decode cX5_init 50 = .ok (.iinc 1 1, 3) := by decide +kernel
theorem dX5_init_53 : decode cX5_init 53 = .ok (.goto (-19), 3) := by decide +kernel
theorem dX5_init_56 : decode cX5_init 56 = .ok (.return_, 1) := by decide +kernel
theorem dX5_hasRecord_0 : decode cX5_hasRecord 0 = .ok (.iload_n 1, 1) := by decide +kernel
theorem dX5_hasRecord_1 : decode cX5_hasRecord 1 = .ok (.ifCond .lt 15, 3) := by decide +kernel
theorem dX5_hasRecord_4 : decode cX5_hasRecord 4 = .ok (.iload_n 1, 1) := by decide +kernel
theorem dX5_hasRecord_5 : decode cX5_hasRecord 5 = .ok (.aload_n 0, 1) := by decide +kernel
theorem dX5_hasRecord_6 : decode cX5_hasRecord 6 = .ok (.getfield 28, 3) := by decide +kernel
theorem dX5_hasRecord_9 : decode cX5_hasRecord 9 = .ok (.if_icmp .ge 7, 3) := by decide +kernel
theorem dX5_hasRecord_12 : decode cX5_hasRecord 12 = .ok (.iconst 1, 1) := by decide +kernel
theorem dX5_hasRecord_13 : decode cX5_hasRecord 13 = .ok (.goto 4, 3) := by decide +kernel
theorem dX5_hasRecord_16 : decode cX5_hasRecord 16 = .ok (.iconst 0, 1) := by decide +kernel
theorem dX5_hasRecord_17 : decode cX5_hasRecord 17 = .ok (.ireturn, 1) := by decide +kernel
theorem dX5_hasInstruction_0 : decode cX5_hasInstruction 0 = .ok (.iload_n 1, 1) := by decide +kernel
theorem dX5_hasInstruction_1 : decode cX5_hasInstruction 1 = .ok (.ifCond .lt 15, 3) := by decide +kernel
theorem dX5_hasInstruction_4 : decode cX5_hasInstruction 4 = .ok (.iload_n 1, 1) := by decide +kernel
theorem dX5_hasInstruction_5 : decode cX5_hasInstruction 5 = .ok (.aload_n 0, 1) := by decide +kernel
theorem dX5_hasInstruction_6 : decode cX5_hasInstruction 6 = .ok (.getfield 32, 3) := by decide +kernel
theorem dX5_hasInstruction_9 : decode cX5_hasInstruction 9 = .ok (.if_icmp .ge 7, 3) := by decide +kernel
theorem dX5_hasInstruction_12 : decode cX5_hasInstruction 12 = .ok (.iconst 1, 1) := by decide +kernel
theorem dX5_hasInstruction_13 : decode cX5_hasInstruction 13 = .ok (.goto 4, 3) := by decide +kernel
theorem dX5_hasInstruction_16 : decode cX5_hasInstruction 16 = .ok (.iconst 0, 1) := by decide +kernel
theorem dX5_hasInstruction_17 : decode cX5_hasInstruction 17 = .ok (.ireturn, 1) := by decide +kernel
theorem dX5_sizeOf_0 : decode cX5_sizeOf 0 = .ok (.aload_n 0, 1) := by decide +kernel
theorem dX5_sizeOf_1 : decode cX5_sizeOf 1 = .ok (.iload_n 1, 1) := by decide +kernel
theorem dX5_sizeOf_2 : decode cX5_sizeOf 2 = .ok (.invokevirtual 35, 3) := by decide +kernel
theorem dX5_sizeOf_5 : decode cX5_sizeOf 5 = .ok (.ifCond .eq 12, 3) := by decide +kernel
theorem dX5_sizeOf_8 : decode cX5_sizeOf 8 = .ok (.aload_n 0, 1) := by decide +kernel
theorem dX5_sizeOf_9 : decode cX5_sizeOf 9 = .ok (.getfield 9, 3) := by decide +kernel
theorem dX5_sizeOf_12 : decode cX5_sizeOf 12 = .ok (.iload_n 1, 1) := by decide +kernel
theorem dX5_sizeOf_13 : decode cX5_sizeOf 13 = .ok (.iaload, 1) := by decide +kernel
theorem dX5_sizeOf_14 : decode cX5_sizeOf 14 = .ok (.goto 4, 3) := by decide +kernel
theorem dX5_sizeOf_17 : decode cX5_sizeOf 17 = .ok (.iconst 0, 1) := by decide +kernel
theorem dX5_sizeOf_18 : decode cX5_sizeOf 18 = .ok (.ireturn, 1) := by decide +kernel
theorem dX5_holdsRange_0 : decode cX5_holdsRange 0 = .ok (.aload_n 0, 1) := by decide +kernel
theorem dX5_holdsRange_1 : decode cX5_holdsRange 1 = .ok (.iload_n 1, 1) := by decide +kernel
theorem dX5_holdsRange_2 : decode cX5_holdsRange 2 = .ok (.invokevirtual 39, 3) := by decide +kernel
theorem dX5_holdsRange_5 : decode cX5_holdsRange 5 = .ok (.istore 4, 2) := by decide +kernel
theorem dX5_holdsRange_7 : decode cX5_holdsRange 7 = .ok (.iload_n 3, 1) := by decide +kernel
theorem dX5_holdsRange_8 : decode cX5_holdsRange 8 = .ok (.iconst 1, 1) := by decide +kernel
theorem dX5_holdsRange_9 : decode cX5_holdsRange 9 = .ok (.if_icmp .lt 25, 3) := by decide +kernel
theorem dX5_holdsRange_12 : decode cX5_holdsRange 12 = .ok (.iload_n 3, 1) := by decide +kernel
theorem dX5_holdsRange_13 : decode cX5_holdsRange 13 = .ok (.iload 4, 2) := by decide +kernel
theorem dX5_holdsRange_15 : decode cX5_holdsRange 15 = .ok (.if_icmp .gt 19, 3) := by decide +kernel
theorem dX5_holdsRange_18 : decode cX5_holdsRange 18 = .ok (.iload_n 2, 1) := by decide +kernel
theorem dX5_holdsRange_19 : decode cX5_holdsRange 19 = .ok (.ifCond .lt 15, 3) := by decide +kernel
theorem dX5_holdsRange_22 : decode cX5_holdsRange 22 = .ok (.iload_n 2, 1) := by decide +kernel
theorem dX5_holdsRange_23 : decode cX5_holdsRange 23 = .ok (.iload 4, 2) := by decide +kernel
theorem dX5_holdsRange_25 : decode cX5_holdsRange 25 = .ok (.iload_n 3, 1) := by decide +kernel
theorem dX5_holdsRange_26 : decode cX5_holdsRange 26 = .ok (.isub, 1) := by decide +kernel
theorem dX5_holdsRange_27 : decode cX5_holdsRange 27 = .ok (.if_icmp .gt 7, 3) := by decide +kernel
theorem dX5_holdsRange_30 : decode cX5_holdsRange 30 = .ok (.iconst 1, 1) := by decide +kernel
theorem dX5_holdsRange_31 : decode cX5_holdsRange 31 = .ok (.goto 4, 3) := by decide +kernel
theorem dX5_holdsRange_34 : decode cX5_holdsRange 34 = .ok (.iconst 0, 1) := by decide +kernel
theorem dX5_holdsRange_35 : decode cX5_holdsRange 35 = .ok (.ireturn, 1) := by decide +kernel
theorem dX5_at_0 : decode cX5_at 0 = .ok (.aload_n 0, 1) := by decide +kernel
theorem dX5_at_1 : decode cX5_at 1 = .ok (.iload_n 1, 1) := by decide +kernel
theorem dX5_at_2 : decode cX5_at 2 = .ok (.invokevirtual 43, 3) := by decide +kernel
theorem dX5_at_5 : decode cX5_at 5 = .ok (.ifCond .eq 12, 3) := by decide +kernel
theorem dX5_at_8 : decode cX5_at 8 = .ok (.aload_n 0, 1) := by decide +kernel
theorem dX5_at_9 : decode cX5_at 9 = .ok (.getfield 17, 3) := by decide +kernel
theorem dX5_at_12 : decode cX5_at 12 = .ok (.iload_n 1, 1) := by decide +kernel
theorem dX5_at_13 : decode cX5_at 13 = .ok (.aaload, 1) := by decide +kernel
theorem dX5_at_14 : decode cX5_at 14 = .ok (.goto 7, 3) := by decide +kernel
theorem dX5_at_17 : decode cX5_at 17 = .ok (.aload_n 0, 1) := by decide +kernel
theorem dX5_at_18 : decode cX5_at 18 = .ok (.getfield 24, 3) := by decide +kernel
theorem dX5_at_21 : decode cX5_at 21 = .ok (.areturn, 1) := by decide +kernel
theorem dX5_addRecord_0 : decode cX5_addRecord 0 = .ok (.aload_n 0, 1) := by decide +kernel
theorem dX5_addRecord_1 : decode cX5_addRecord 1 = .ok (.getfield 28, 3) := by decide +kernel
theorem dX5_addRecord_4 : decode cX5_addRecord 4 = .ok (.iconst 4, 1) := by decide +kernel
theorem dX5_addRecord_5 : decode cX5_addRecord 5 = .ok (.if_icmp .ge 23, 3) := by decide +kernel
theorem dX5_addRecord_8 : decode cX5_addRecord 8 = .ok (.aload_n 0, 1) := by decide +kernel
theorem dX5_addRecord_9 : decode cX5_addRecord 9 = .ok (.getfield 9, 3) := by decide +kernel
theorem dX5_addRecord_12 : decode cX5_addRecord 12 = .ok (.aload_n 0, 1) := by decide +kernel
theorem dX5_addRecord_13 : decode cX5_addRecord 13 = .ok (.getfield 28, 3) := by decide +kernel
theorem dX5_addRecord_16 : decode cX5_addRecord 16 = .ok (.iload_n 1, 1) := by decide +kernel
theorem dX5_addRecord_17 : decode cX5_addRecord 17 = .ok (.iastore, 1) := by decide +kernel
theorem dX5_addRecord_18 : decode cX5_addRecord 18 = .ok (.aload_n 0, 1) := by decide +kernel
theorem dX5_addRecord_19 : decode cX5_addRecord 19 = .ok (.dup, 1) := by decide +kernel
theorem dX5_addRecord_20 : decode cX5_addRecord 20 = .ok (.getfield 28, 3) := by decide +kernel
theorem dX5_addRecord_23 : decode cX5_addRecord 23 = .ok (.iconst 1, 1) := by decide +kernel
theorem dX5_addRecord_24 : decode cX5_addRecord 24 = .ok (.iadd, 1) := by decide +kernel
theorem dX5_addRecord_25 : decode cX5_addRecord 25 = .ok (.putfield 28, 3) := by decide +kernel
theorem dX5_addRecord_28 : decode cX5_addRecord 28 = .ok (.return_, 1) := by decide +kernel
theorem dX5_dropRecord_0 : decode cX5_dropRecord 0 = .ok (.aload_n 0, 1) := by decide +kernel
theorem dX5_dropRecord_1 : decode cX5_dropRecord 1 = .ok (.getfield 28, 3) := by decide +kernel
theorem dX5_dropRecord_4 : decode cX5_dropRecord 4 = .ok (.ifCond .le 13, 3) := by decide +kernel
theorem dX5_dropRecord_7 : decode cX5_dropRecord 7 = .ok (.aload_n 0, 1) := by decide +kernel
theorem dX5_dropRecord_8 : decode cX5_dropRecord 8 = .ok (.dup, 1) := by decide +kernel
theorem dX5_dropRecord_9 : decode cX5_dropRecord 9 = .ok (.getfield 28, 3) := by decide +kernel
theorem dX5_dropRecord_12 : decode cX5_dropRecord 12 = .ok (.iconst 1, 1) := by decide +kernel
theorem dX5_dropRecord_13 : decode cX5_dropRecord 13 = .ok (.isub, 1) := by decide +kernel
theorem dX5_dropRecord_14 : decode cX5_dropRecord 14 = .ok (.putfield 28, 3) := by decide +kernel
theorem dX5_dropRecord_17 : decode cX5_dropRecord 17 = .ok (.return_, 1) := by decide +kernel
theorem dX5_insert_0 : decode cX5_insert 0 = .ok (.iload_n 1, 1) := by decide +kernel
theorem dX5_insert_1 : decode cX5_insert 1 = .ok (.ifCond .lt 20, 3) := by decide +kernel
theorem dX5_insert_4 : decode cX5_insert 4 = .ok (.iload_n 1, 1) := by decide +kernel
theorem dX5_insert_5 : decode cX5_insert 5 = .ok (.aload_n 0, 1) := by decide +kernel
theorem dX5_insert_6 : decode cX5_insert 6 = .ok (.getfield 32, 3) := by decide +kernel
theorem dX5_insert_9 : decode cX5_insert 9 = .ok (.if_icmp .gt 12, 3) := by decide +kernel
theorem dX5_insert_12 : decode cX5_insert 12 = .ok (.aload_n 0, 1) := by decide +kernel
theorem dX5_insert_13 : decode cX5_insert 13 = .ok (.getfield 32, 3) := by decide +kernel
theorem dX5_insert_16 : decode cX5_insert 16 = .ok (.bipush 24, 2) := by decide +kernel
theorem dX5_insert_18 : decode cX5_insert 18 = .ok (.if_icmp .lt 4, 3) := by decide +kernel
theorem dX5_insert_21 : decode cX5_insert 21 = .ok (.return_, 1) := by decide +kernel
theorem dX5_insert_22 : decode cX5_insert 22 = .ok (.aload_n 0, 1) := by decide +kernel
theorem dX5_insert_23 : decode cX5_insert 23 = .ok (.getfield 32, 3) := by decide +kernel
theorem dX5_insert_26 : decode cX5_insert 26 = .ok (.istore_n 3, 1) := by decide +kernel
theorem dX5_insert_27 : decode cX5_insert 27 = .ok (.iload_n 3, 1) := by decide +kernel
theorem dX5_insert_28 : decode cX5_insert 28 = .ok (.iload_n 1, 1) := by decide +kernel
theorem dX5_insert_29 : decode cX5_insert 29 = .ok (.if_icmp .le 23, 3) := by decide +kernel
theorem dX5_insert_32 : decode cX5_insert 32 = .ok (.aload_n 0, 1) := by decide +kernel
theorem dX5_insert_33 : decode cX5_insert 33 = .ok (.getfield 17, 3) := by decide +kernel
theorem dX5_insert_36 : decode cX5_insert 36 = .ok (.iload_n 3, 1) := by decide +kernel
theorem dX5_insert_37 : decode cX5_insert 37 = .ok (.aload_n 0, 1) := by decide +kernel
theorem dX5_insert_38 : decode cX5_insert 38 = .ok (.getfield 17, 3) := by decide +kernel
theorem dX5_insert_41 : decode cX5_insert 41 = .ok (.iload_n 3, 1) := by decide +kernel
theorem dX5_insert_42 : decode cX5_insert 42 = .ok (.iconst 1, 1) := by decide +kernel
theorem dX5_insert_43 : decode cX5_insert 43 = .ok (.isub, 1) := by decide +kernel
theorem dX5_insert_44 : decode cX5_insert 44 = .ok (.aaload, 1) := by decide +kernel
theorem dX5_insert_45 : decode cX5_insert 45 = .ok (.aastore, 1) := by decide +kernel
theorem dX5_insert_46 : decode cX5_insert 46 = .ok (.iinc 3 (-1), 3) := by decide +kernel
theorem dX5_insert_49 : decode cX5_insert 49 = .ok (.goto (-22), 3) := by decide +kernel
theorem dX5_insert_52 : decode cX5_insert 52 = .ok (.aload_n 0, 1) := by decide +kernel
theorem dX5_insert_53 : decode cX5_insert 53 = .ok (.getfield 17, 3) := by decide +kernel
theorem dX5_insert_56 : decode cX5_insert 56 = .ok (.iload_n 1, 1) := by decide +kernel
theorem dX5_insert_57 : decode cX5_insert 57 = .ok (.aload_n 2, 1) := by decide +kernel
theorem dX5_insert_58 : decode cX5_insert 58 = .ok (.aastore, 1) := by decide +kernel
theorem dX5_insert_59 : decode cX5_insert 59 = .ok (.aload_n 0, 1) := by decide +kernel
theorem dX5_insert_60 : decode cX5_insert 60 = .ok (.dup, 1) := by decide +kernel
theorem dX5_insert_61 : decode cX5_insert 61 = .ok (.getfield 32, 3) := by decide +kernel
theorem dX5_insert_64 : decode cX5_insert 64 = .ok (.iconst 1, 1) := by decide +kernel
theorem dX5_insert_65 : decode cX5_insert 65 = .ok (.iadd, 1) := by decide +kernel
theorem dX5_insert_66 : decode cX5_insert 66 = .ok (.putfield 32, 3) := by decide +kernel
theorem dX5_insert_69 : decode cX5_insert 69 = .ok (.return_, 1) := by decide +kernel
theorem dX5_delete_0 : decode cX5_delete 0 = .ok (.aload_n 0, 1) := by decide +kernel
theorem dX5_delete_1 : decode cX5_delete 1 = .ok (.iload_n 1, 1) := by decide +kernel
theorem dX5_delete_2 : decode cX5_delete 2 = .ok (.invokevirtual 43, 3) := by decide +kernel
theorem dX5_delete_5 : decode cX5_delete 5 = .ok (.ifCond .ne 4, 3) := by decide +kernel
theorem dX5_delete_8 : decode cX5_delete 8 = .ok (.return_, 1) := by decide +kernel
theorem dX5_delete_9 : decode cX5_delete 9 = .ok (.aload_n 0, 1) := by decide +kernel
theorem dX5_delete_10 : decode cX5_delete 10 = .ok (.dup, 1) := by decide +kernel
theorem dX5_delete_11 : decode cX5_delete 11 = .ok (.getfield 32, 3) := by decide +kernel
theorem dX5_delete_14 : decode cX5_delete 14 = .ok (.iconst 1, 1) := by decide +kernel
theorem dX5_delete_15 : decode cX5_delete 15 = .ok (.isub, 1) := by decide +kernel
theorem dX5_delete_16 : decode cX5_delete 16 = .ok (.putfield 32, 3) := by decide +kernel
theorem dX5_delete_19 : decode cX5_delete 19 = .ok (.iload_n 1, 1) := by decide +kernel
theorem dX5_delete_20 : decode cX5_delete 20 = .ok (.istore_n 2, 1) := by decide +kernel
theorem dX5_delete_21 : decode cX5_delete 21 = .ok (.iload_n 2, 1) := by decide +kernel
theorem dX5_delete_22 : decode cX5_delete 22 = .ok (.aload_n 0, 1) := by decide +kernel
theorem dX5_delete_23 : decode cX5_delete 23 = .ok (.getfield 32, 3) := by decide +kernel
theorem dX5_delete_26 : decode cX5_delete 26 = .ok (.if_icmp .ge 23, 3) := by decide +kernel
theorem dX5_delete_29 : decode cX5_delete 29 = .ok (.aload_n 0, 1) := by decide +kernel
theorem dX5_delete_30 : decode cX5_delete 30 = .ok (.getfield 17, 3) := by decide +kernel
theorem dX5_delete_33 : decode cX5_delete 33 = .ok (.iload_n 2, 1) := by decide +kernel
theorem dX5_delete_34 : decode cX5_delete 34 = .ok (.aload_n 0, 1) := by decide +kernel
theorem dX5_delete_35 : decode cX5_delete 35 = .ok (.getfield 17, 3) := by decide +kernel
theorem dX5_delete_38 : decode cX5_delete 38 = .ok (.iload_n 2, 1) := by decide +kernel
theorem dX5_delete_39 : decode cX5_delete 39 = .ok (.iconst 1, 1) := by decide +kernel
theorem dX5_delete_40 : decode cX5_delete 40 = .ok (.iadd, 1) := by decide +kernel
theorem dX5_delete_41 : decode cX5_delete 41 = .ok (.aaload, 1) := by decide +kernel
theorem dX5_delete_42 : decode cX5_delete 42 = .ok (.aastore, 1) := by decide +kernel
theorem dX5_delete_43 : decode cX5_delete 43 = .ok (.iinc 2 1, 3) := by decide +kernel
theorem dX5_delete_46 : decode cX5_delete 46 = .ok (.goto (-25), 3) := by decide +kernel
theorem dX5_delete_49 : decode cX5_delete 49 = .ok (.aload_n 0, 1) := by decide +kernel
theorem dX5_delete_50 : decode cX5_delete 50 = .ok (.getfield 17, 3) := by decide +kernel
theorem dX5_delete_53 : decode cX5_delete 53 = .ok (.aload_n 0, 1) := by decide +kernel
theorem dX5_delete_54 : decode cX5_delete 54 = .ok (.getfield 32, 3) := by decide +kernel
theorem dX5_delete_57 : decode cX5_delete 57 = .ok (.aload_n 0, 1) := by decide +kernel
theorem dX5_delete_58 : decode cX5_delete 58 = .ok (.getfield 24, 3) := by decide +kernel
theorem dX5_delete_61 : decode cX5_delete 61 = .ok (.aastore, 1) := by decide +kernel
theorem dX5_delete_62 : decode cX5_delete 62 = .ok (.return_, 1) := by decide +kernel
theorem dX6_init_0 : decode cX6_init 0 = .ok (.aload_n 0, 1) := by decide +kernel
theorem dX6_init_1 : decode cX6_init 1 = .ok (.invokespecial 3, 3) := by decide +kernel
theorem dX6_init_4 : decode cX6_init 4 = .ok (.aload_n 0, 1) := by decide +kernel
theorem dX6_init_5 : decode cX6_init 5 = .ok (.bipush 8, 2) := by decide +kernel
theorem dX6_init_7 : decode cX6_init 7 = .ok (.newarray .int, 2) := by decide +kernel
theorem dX6_init_9 : decode cX6_init 9 = .ok (.putfield 9, 3) := by decide +kernel
theorem dX6_init_12 : decode cX6_init 12 = .ok (.aload_n 0, 1) := by decide +kernel
theorem dX6_init_13 : decode cX6_init 13 = .ok (.iconst 4, 1) := by decide +kernel
theorem dX6_init_14 : decode cX6_init 14 = .ok (.bipush 16, 2) := by decide +kernel
theorem dX6_init_16 : decode cX6_init 16 = .ok (.multianewarray 15 2, 4) := by decide +kernel
theorem dX6_init_20 : decode cX6_init 20 = .ok (.putfield 17, 3) := by decide +kernel
theorem dX6_init_23 : decode cX6_init 23 = .ok (.aload_n 0, 1) := by decide +kernel
theorem dX6_init_24 : decode cX6_init 24 = .ok (.bipush 24, 2) := by decide +kernel
theorem dX6_init_26 : decode cX6_init 26 = .ok (.newarray .int, 2) := by decide +kernel
theorem dX6_init_28 : decode cX6_init 28 = .ok (.putfield 20, 3) := by decide +kernel
theorem dX6_init_31 : decode cX6_init 31 = .ok (.aload_n 0, 1) := by decide +kernel
theorem dX6_init_32 : decode cX6_init 32 = .ok (.aload_n 1, 1) := by decide +kernel
theorem dX6_init_33 : decode cX6_init 33 = .ok (.putfield 23, 3) := by decide +kernel
theorem dX6_init_36 : decode cX6_init 36 = .ok (.aload_n 0, 1) := by decide +kernel
theorem dX6_init_37 : decode cX6_init 37 = .ok (.aload_n 2, 1) := by decide +kernel
theorem dX6_init_38 : decode cX6_init 38 = .ok (.putfield 27, 3) := by decide +kernel
theorem dX6_init_41 : decode cX6_init 41 = .ok (.return_, 1) := by decide +kernel
theorem dX6_execute_0 : decode cX6_execute 0 = .ok (.aload_n 0, 1) := by decide +kernel
theorem dX6_execute_1 : decode cX6_execute 1 = .ok (.iload_n 1, 1) := by decide +kernel
theorem dX6_execute_2 : decode cX6_execute 2 = .ok (.invokevirtual 31, 3) := by decide +kernel
theorem dX6_execute_5 : decode cX6_execute 5 = .ok (.iconst 0, 1) := by decide +kernel
theorem dX6_execute_6 : decode cX6_execute 6 = .ok (.istore_n 2, 1) := by decide +kernel
theorem dX6_execute_7 : decode cX6_execute 7 = .ok (.iload_n 2, 1) := by decide +kernel
theorem dX6_execute_8 : decode cX6_execute 8 = .ok (.aload_n 0, 1) := by decide +kernel
theorem dX6_execute_9 : decode cX6_execute 9 = .ok (.getfield 23, 3) := by decide +kernel
theorem dX6_execute_12 : decode cX6_execute 12 = .ok (.getfield 35, 3) := by decide +kernel
theorem dX6_execute_15 : decode cX6_execute 15 = .ok (.if_icmp .ge 39, 3) := by decide +kernel
theorem dX6_execute_18 : decode cX6_execute 18 = .ok (.aload_n 0, 1) := by decide +kernel
theorem dX6_execute_19 : decode cX6_execute 19 = .ok (.getfield 41, 3) := by decide +kernel
theorem dX6_execute_22 : decode cX6_execute 22 = .ok (.bipush (-9), 2) := by decide +kernel
theorem dX6_execute_24 : decode cX6_execute 24 = .ok (.if_icmp .ne 30, 3) := by decide +kernel
theorem dX6_execute_27 : decode cX6_execute 27 = .ok (.iload_n 2, 1) := by decide +kernel
theorem dX6_execute_28 : decode cX6_execute 28 = .ok (.aload_n 0, 1) := by decide +kernel
theorem dX6_execute_29 : decode cX6_execute 29 = .ok (.getfield 44, 3) := by decide +kernel
theorem dX6_execute_32 : decode cX6_execute 32 = .ok (.if_icmp .lt 16, 3) := by decide +kernel
theorem dX6_execute_35 : decode cX6_execute 35 = .ok (.aload_n 0, 1) := by decide +kernel
theorem dX6_execute_36 : decode cX6_execute 36 = .ok (.aload_n 0, 1) := by decide +kernel
theorem dX6_execute_37 : decode cX6_execute 37 = .ok (.getfield 23, 3) := by decide +kernel
theorem dX6_execute_40 : decode cX6_execute 40 = .ok (.iload_n 2, 1) := by decide +kernel
theorem dX6_execute_41 : decode cX6_execute 41 = .ok (.invokevirtual 47, 3) := by decide +kernel
theorem dX6_execute_44 : decode cX6_execute 44 = .ok (.iload_n 2, 1) := by decide +kernel
theorem dX6_execute_45 : decode cX6_execute 45 = .ok (.invokevirtual 51, 3) := by decide +kernel
theorem dX6_execute_48 : decode cX6_execute 48 = .ok (.iinc 2 1, 3) := by decide +kernel
theorem dX6_execute_51 : decode cX6_execute 51 = .ok (.goto (-44), 3) := by decide +kernel
theorem dX6_execute_54 : decode cX6_execute 54 = .ok (.return_, 1) := by decide +kernel
theorem dX6_outputOf_0 : decode cX6_outputOf 0 = .ok (.iload_n 1, 1) := by decide +kernel
theorem dX6_outputOf_1 : decode cX6_outputOf 1 = .ok (.ifCond .lt 20, 3) := by decide +kernel
theorem dX6_outputOf_4 : decode cX6_outputOf 4 = .ok (.iload_n 1, 1) := by decide +kernel
theorem dX6_outputOf_5 : decode cX6_outputOf 5 = .ok (.aload_n 0, 1) := by decide +kernel
theorem dX6_outputOf_6 : decode cX6_outputOf 6 = .ok (.getfield 55, 3) := by decide +kernel
theorem dX6_outputOf_9 : decode cX6_outputOf 9 = .ok (.if_icmp .ge 12, 3) := by decide +kernel
theorem dX6_outputOf_12 : decode cX6_outputOf 12 = .ok (.aload_n 0, 1) := by decide +kernel
theorem dX6_outputOf_13 : decode cX6_outputOf 13 = .ok (.getfield 20, 3) := by decide +kernel
theorem dX6_outputOf_16 : decode cX6_outputOf 16 = .ok (.iload_n 1, 1) := by decide +kernel
theorem dX6_outputOf_17 : decode cX6_outputOf 17 = .ok (.iaload, 1) := by decide +kernel
theorem dX6_outputOf_18 : decode cX6_outputOf 18 = .ok (.goto 4, 3) := by decide +kernel
theorem dX6_outputOf_21 : decode cX6_outputOf 21 = .ok (.iconst 0, 1) := by decide +kernel
theorem dX6_outputOf_22 : decode cX6_outputOf 22 = .ok (.ireturn, 1) := by decide +kernel
theorem dX6_clear_0 : decode cX6_clear 0 = .ok (.iconst 0, 1) := by decide +kernel
theorem dX6_clear_1 : decode cX6_clear 1 = .ok (.istore_n 2, 1) := by decide +kernel
theorem dX6_clear_2 : decode cX6_clear 2 = .ok (.iload_n 2, 1) := by decide +kernel
theorem dX6_clear_3 : decode cX6_clear 3 = .ok (.bipush 8, 2) := by decide +kernel
theorem dX6_clear_5 : decode cX6_clear 5 = .ok (.if_icmp .ge 16, 3) := by decide +kernel
theorem dX6_clear_8 : decode cX6_clear 8 = .ok (.aload_n 0, 1) := by decide +kernel
theorem dX6_clear_9 : decode cX6_clear 9 = .ok (.getfield 9, 3) := by decide +kernel
theorem dX6_clear_12 : decode cX6_clear 12 = .ok (.iload_n 2, 1) := by decide +kernel
theorem dX6_clear_13 : decode cX6_clear 13 = .ok (.iconst 0, 1) := by decide +kernel
theorem dX6_clear_14 : decode cX6_clear 14 = .ok (.iastore, 1) := by decide +kernel
theorem dX6_clear_15 : decode cX6_clear 15 = .ok (.iinc 2 1, 3) := by decide +kernel
theorem dX6_clear_18 : decode cX6_clear 18 = .ok (.goto (-16), 3) := by decide +kernel
theorem dX6_clear_21 : decode cX6_clear 21 = .ok (.iconst 0, 1) := by decide +kernel
theorem dX6_clear_22 : decode cX6_clear 22 = .ok (.istore_n 2, 1) := by decide +kernel
theorem dX6_clear_23 : decode cX6_clear 23 = .ok (.iload_n 2, 1) := by decide +kernel
theorem dX6_clear_24 : decode cX6_clear 24 = .ok (.iconst 4, 1) := by decide +kernel
theorem dX6_clear_25 : decode cX6_clear 25 = .ok (.if_icmp .ge 32, 3) := by decide +kernel
theorem dX6_clear_28 : decode cX6_clear 28 = .ok (.iconst 0, 1) := by decide +kernel
theorem dX6_clear_29 : decode cX6_clear 29 = .ok (.istore_n 3, 1) := by decide +kernel
theorem dX6_clear_30 : decode cX6_clear 30 = .ok (.iload_n 3, 1) := by decide +kernel
theorem dX6_clear_31 : decode cX6_clear 31 = .ok (.bipush 16, 2) := by decide +kernel
theorem dX6_clear_33 : decode cX6_clear 33 = .ok (.if_icmp .ge 18, 3) := by decide +kernel
theorem dX6_clear_36 : decode cX6_clear 36 = .ok (.aload_n 0, 1) := by decide +kernel
theorem dX6_clear_37 : decode cX6_clear 37 = .ok (.getfield 17, 3) := by decide +kernel
theorem dX6_clear_40 : decode cX6_clear 40 = .ok (.iload_n 2, 1) := by decide +kernel
theorem dX6_clear_41 : decode cX6_clear 41 = .ok (.aaload, 1) := by decide +kernel
theorem dX6_clear_42 : decode cX6_clear 42 = .ok (.iload_n 3, 1) := by decide +kernel
theorem dX6_clear_43 : decode cX6_clear 43 = .ok (.iconst 0, 1) := by decide +kernel
theorem dX6_clear_44 : decode cX6_clear 44 = .ok (.iastore, 1) := by decide +kernel
theorem dX6_clear_45 : decode cX6_clear 45 = .ok (.iinc 3 1, 3) := by decide +kernel
theorem dX6_clear_48 : decode cX6_clear 48 = .ok (.goto (-18), 3) := by decide +kernel
theorem dX6_clear_51 : decode cX6_clear 51 = .ok (.iinc 2 1, 3) := by decide +kernel
theorem dX6_clear_54 : decode cX6_clear 54 = .ok (.goto (-31), 3) := by decide +kernel
theorem dX6_clear_57 : decode cX6_clear 57 = .ok (.aload_n 0, 1) := by decide +kernel
theorem dX6_clear_58 : decode cX6_clear 58 = .ok (.iload_n 1, 1) := by decide +kernel
theorem dX6_clear_59 : decode cX6_clear 59 = .ok (.putfield 58, 3) := by decide +kernel
theorem dX6_clear_62 : decode cX6_clear 62 = .ok (.aload_n 0, 1) := by decide +kernel
theorem dX6_clear_63 : decode cX6_clear 63 = .ok (.iconst 0, 1) := by decide +kernel
theorem dX6_clear_64 : decode cX6_clear 64 = .ok (.putfield 55, 3) := by decide +kernel
theorem dX6_clear_67 : decode cX6_clear 67 = .ok (.aload_n 0, 1) := by decide +kernel
theorem dX6_clear_68 : decode cX6_clear 68 = .ok (.iconst 0, 1) := by decide +kernel
theorem dX6_clear_69 : decode cX6_clear 69 = .ok (.putfield 62, 3) := by decide +kernel
theorem dX6_clear_72 : decode cX6_clear 72 = .ok (.aload_n 0, 1) := by decide +kernel
theorem dX6_clear_73 : decode cX6_clear 73 = .ok (.iconst 0, 1) := by decide +kernel
theorem dX6_clear_74 : decode cX6_clear 74 = .ok (.putfield 65, 3) := by decide +kernel
theorem dX6_clear_77 : decode cX6_clear 77 = .ok (.aload_n 0, 1) := by decide +kernel
theorem dX6_clear_78 : decode cX6_clear 78 = .ok (.bipush (-9), 2) := by decide +kernel
theorem dX6_clear_80 : decode cX6_clear 80 = .ok (.putfield 41, 3) := by decide +kernel
theorem dX6_clear_83 : decode cX6_clear 83 = .ok (.aload_n 0, 1) := by decide +kernel
theorem dX6_clear_84 : decode cX6_clear 84 = .ok (.iconst 0, 1) := by decide +kernel
theorem dX6_clear_85 : decode cX6_clear 85 = .ok (.putfield 44, 3) := by decide +kernel
theorem dX6_clear_88 : decode cX6_clear 88 = .ok (.return_, 1) := by decide +kernel
theorem dX6_perform_0 : decode cX6_perform 0 = .ok (.aload_n 1, 1) := by decide +kernel
theorem dX6_perform_1 : decode cX6_perform 1 = .ok (.getfield 68, 3) := by decide +kernel
theorem dX6_perform_4 : decode cX6_perform 4 = .ok (.tableswitch 175 1 8 #[48, 56, 64, 96, 107, 123, 132, 159], 48) := by decide +kernel
theorem dX6_perform_52 : decode cX6_perform 52 = .ok (.aload_n 0, 1) := by decide +kernel
theorem dX6_perform_53 : decode cX6_perform 53 = .ok (.aload_n 1, 1) := by decide +kernel
theorem dX6_perform_54 : decode cX6_perform 54 = .ok (.invokevirtual 73, 3) := by decide +kernel
theorem dX6_perform_57 : decode cX6_perform 57 = .ok (.goto 122, 3) := by decide +kernel
theorem dX6_perform_60 : decode cX6_perform 60 = .ok (.aload_n 0, 1) := by decide +kernel
theorem dX6_perform_61 : decode cX6_perform 61 = .ok (.aload_n 1, 1) := by decide +kernel
theorem dX6_perform_62 : decode cX6_perform 62 = .ok (.invokevirtual 77, 3) := by decide +kernel
theorem dX6_perform_65 : decode cX6_perform 65 = .ok (.goto 114, 3) := by decide +kernel
theorem dX6_perform_68 : decode cX6_perform 68 = .ok (.aload_n 0, 1) := by decide +kernel
theorem dX6_perform_69 : decode cX6_perform 69 = .ok (.getfield 58, 3) := by decide +kernel
theorem dX6_perform_72 : decode cX6_perform 72 = .ok (.ifCond .eq 20, 3) := by decide +kernel
theorem dX6_perform_75 : decode cX6_perform 75 = .ok (.aload_n 0, 1) := by decide +kernel
theorem dX6_perform_76 : decode cX6_perform 76 = .ok (.aload_n 1, 1) := by decide +kernel
theorem dX6_perform_77 : decode cX6_perform 77 = .ok (.aload_n 0, 1) := by decide +kernel
theorem dX6_perform_78 : decode cX6_perform 78 = .ok (.getfield 27, 3) := by decide +kernel
theorem dX6_perform_81 : decode cX6_perform 81 = .ok (.getfield 80, 3) := by decide +kernel
theorem dX6_perform_84 : decode cX6_perform 84 = .ok (.iload_n 2, 1) := by decide +kernel
theorem dX6_perform_85 : decode cX6_perform 85 = .ok (.aaload, 1) := by decide +kernel
theorem dX6_perform_86 : decode cX6_perform 86 = .ok (.invokevirtual 85, 3) := by decide +kernel
theorem dX6_perform_89 : decode cX6_perform 89 = .ok (.goto 90, 3) := by decide +kernel
theorem dX6_perform_92 : decode cX6_perform 92 = .ok (.aload_n 0, 1) := by decide +kernel
theorem dX6_perform_93 : decode cX6_perform 93 = .ok (.aload_n 1, 1) := by decide +kernel
theorem dX6_perform_94 : decode cX6_perform 94 = .ok (.invokevirtual 89, 3) := by decide +kernel
theorem dX6_perform_97 : decode cX6_perform 97 = .ok (.goto 82, 3) := by decide +kernel
theorem dX6_perform_100 : decode cX6_perform 100 = .ok (.aload_n 0, 1) := by decide +kernel
theorem dX6_perform_101 : decode cX6_perform 101 = .ok (.aload_n 1, 1) := by decide +kernel
theorem dX6_perform_102 : decode cX6_perform 102 = .ok (.getfield 92, 3) := by decide +kernel
theorem dX6_perform_105 : decode cX6_perform 105 = .ok (.invokevirtual 95, 3) := by decide +kernel
theorem dX6_perform_108 : decode cX6_perform 108 = .ok (.goto 71, 3) := by decide +kernel
theorem dX6_perform_111 : decode cX6_perform 111 = .ok (.aload_n 0, 1) := by decide +kernel
theorem dX6_perform_112 : decode cX6_perform 112 = .ok (.getfield 9, 3) := by decide +kernel
theorem dX6_perform_115 : decode cX6_perform 115 = .ok (.aload_n 1, 1) := by decide +kernel
theorem dX6_perform_116 : decode cX6_perform 116 = .ok (.getfield 99, 3) := by decide +kernel
theorem dX6_perform_119 : decode cX6_perform 119 = .ok (.aload_n 1, 1) := by decide +kernel
theorem dX6_perform_120 : decode cX6_perform 120 = .ok (.getfield 102, 3) := by decide +kernel
theorem dX6_perform_123 : decode cX6_perform 123 = .ok (.iastore, 1) := by decide +kernel
theorem dX6_perform_124 : decode cX6_perform 124 = .ok (.goto 55, 3) := by decide +kernel
theorem dX6_perform_127 : decode cX6_perform 127 = .ok (.aload_n 0, 1) := by decide +kernel
theorem dX6_perform_128 : decode cX6_perform 128 = .ok (.aload_n 1, 1) := by decide +kernel
theorem dX6_perform_129 : decode cX6_perform 129 = .ok (.iload_n 2, 1) := by decide +kernel
theorem dX6_perform_130 : decode cX6_perform 130 = .ok (.invokevirtual 105, 3) := by decide +kernel
theorem dX6_perform_133 : decode cX6_perform 133 = .ok (.goto 46, 3) := by decide +kernel
theorem dX6_perform_136 : decode cX6_perform 136 = .ok (.aload_n 0, 1) := by decide +kernel
theorem dX6_perform_137 : decode cX6_perform 137 = .ok (.getfield 9, 3) := by decide +kernel
theorem dX6_perform_140 : decode cX6_perform 140 = .ok (.aload_n 1, 1) := by decide +kernel
theorem dX6_perform_141 : decode cX6_perform 141 = .ok (.getfield 99, 3) := by decide +kernel
theorem dX6_perform_144 : decode cX6_perform 144 = .ok (.iaload, 1) := by decide +kernel
theorem dX6_perform_145 : decode cX6_perform 145 = .ok (.ifCond .ne 34, 3) := by decide +kernel
theorem dX6_perform_148 : decode cX6_perform 148 = .ok (.aload_n 0, 1) := by decide +kernel
theorem dX6_perform_149 : decode cX6_perform 149 = .ok (.iload_n 2, 1) := by decide +kernel
theorem dX6_perform_150 : decode cX6_perform 150 = .ok (.iconst 1, 1) := by decide +kernel
theorem dX6_perform_151 : decode cX6_perform 151 = .ok (.iadd, 1) := by decide +kernel
theorem dX6_perform_152 : decode cX6_perform 152 = .ok (.aload_n 1, 1) := by decide +kernel
theorem dX6_perform_153 : decode cX6_perform 153 = .ok (.getfield 102, 3) := by decide +kernel
theorem dX6_perform_156 : decode cX6_perform 156 = .ok (.iadd, 1) := by decide +kernel
theorem dX6_perform_157 : decode cX6_perform 157 = .ok (.putfield 44, 3) := by decide +kernel
theorem dX6_perform_160 : decode cX6_perform 160 = .ok (.goto 19, 3) := by decide +kernel
theorem dX6_perform_163 : decode cX6_perform 163 = .ok (.aload_n 0, 1) := by decide +kernel
theorem dX6_perform_164 : decode cX6_perform 164 = .ok (.aload_n 0, 1) := by decide +kernel
theorem dX6_perform_165 : decode cX6_perform 165 = .ok (.getfield 9, 3) := by decide +kernel
theorem dX6_perform_168 : decode cX6_perform 168 = .ok (.aload_n 1, 1) := by decide +kernel
theorem dX6_perform_169 : decode cX6_perform 169 = .ok (.getfield 99, 3) := by decide +kernel
theorem dX6_perform_172 : decode cX6_perform 172 = .ok (.iaload, 1) := by decide +kernel
theorem dX6_perform_173 : decode cX6_perform 173 = .ok (.invokevirtual 108, 3) := by decide +kernel
theorem dX6_perform_176 : decode cX6_perform 176 = .ok (.goto 3, 3) := by decide +kernel
theorem dX6_perform_179 : decode cX6_perform 179 = .ok (.return_, 1) := by decide +kernel
theorem dX6_store_0 : decode cX6_store 0 = .ok (.aload_n 0, 1) := by decide +kernel
theorem dX6_store_1 : decode cX6_store 1 = .ok (.getfield 27, 3) := by decide +kernel
theorem dX6_store_4 : decode cX6_store 4 = .ok (.aload_n 1, 1) := by decide +kernel
theorem dX6_store_5 : decode cX6_store 5 = .ok (.iconst 0, 1) := by decide +kernel
theorem dX6_store_6 : decode cX6_store 6 = .ok (.invokevirtual 111, 3) := by decide +kernel
theorem dX6_store_9 : decode cX6_store 9 = .ok (.astore_n 2, 1) := by decide +kernel
theorem dX6_store_10 : decode cX6_store 10 = .ok (.aload_n 0, 1) := by decide +kernel
theorem dX6_store_11 : decode cX6_store 11 = .ok (.getfield 58, 3) := by decide +kernel
theorem dX6_store_14 : decode cX6_store 14 = .ok (.ifCond .eq 11, 3) := by decide +kernel
theorem dX6_store_17 : decode cX6_store 17 = .ok (.aload_n 2, 1) := by decide +kernel
theorem dX6_store_18 : decode cX6_store 18 = .ok (.getfield 115, 3) := by decide +kernel
theorem dX6_store_21 : decode cX6_store 21 = .ok (.ifCond .ne 4, 3) := by decide +kernel
theorem dX6_store_24 : decode cX6_store 24 = .ok (.return_, 1) := by decide +kernel
theorem dX6_store_25 : decode cX6_store 25 = .ok (.aload_n 0, 1) := by decide +kernel
theorem dX6_store_26 : decode cX6_store 26 = .ok (.getfield 9, 3) := by decide +kernel
theorem dX6_store_29 : decode cX6_store 29 = .ok (.aload_n 1, 1) := by decide +kernel
theorem dX6_store_30 : decode cX6_store 30 = .ok (.getfield 99, 3) := by decide +kernel
theorem dX6_store_33 : decode cX6_store 33 = .ok (.iaload, 1) := by decide +kernel
theorem dX6_store_34 : decode cX6_store 34 = .ok (.istore_n 3, 1) := by decide +kernel
theorem dX6_store_35 : decode cX6_store 35 = .ok (.iconst 0, 1) := by decide +kernel
theorem dX6_store_36 : decode cX6_store 36 = .ok (.istore 4, 2) := by decide +kernel
theorem dX6_store_38 : decode cX6_store 38 = .ok (.iload 4, 2) := by decide +kernel
theorem dX6_store_40 : decode cX6_store 40 = .ok (.aload_n 1, 1) := by decide +kernel
theorem dX6_store_41 : decode cX6_store 41 = .ok (.getfield 120, 3) := by decide +kernel
theorem dX6_store_44 : decode cX6_store 44 = .ok (.if_icmp .ge 37, 3) := by decide +kernel
theorem dX6_store_47 : decode cX6_store 47 = .ok (.aload_n 0, 1) := by decide +kernel
theorem dX6_store_48 : decode cX6_store 48 = .ok (.getfield 17, 3) := by decide +kernel
theorem dX6_store_51 : decode cX6_store 51 = .ok (.aload_n 1, 1) := by decide +kernel
theorem dX6_store_52 : decode cX6_store 52 = .ok (.getfield 92, 3) := by decide +kernel
theorem dX6_store_55 : decode cX6_store 55 = .ok (.aaload, 1) := by decide +kernel
theorem dX6_store_56 : decode cX6_store 56 = .ok (.aload_n 1, 1) := by decide +kernel
theorem dX6_store_57 : decode cX6_store 57 = .ok (.getfield 123, 3) := by decide +kernel
theorem dX6_store_60 : decode cX6_store 60 = .ok (.iload 4, 2) := by decide +kernel
theorem dX6_store_62 : decode cX6_store 62 = .ok (.iadd, 1) := by decide +kernel
theorem dX6_store_63 : decode cX6_store 63 = .ok (.iload_n 3, 1) := by decide +kernel
theorem dX6_store_64 : decode cX6_store 64 = .ok (.bipush 8, 2) := by decide +kernel
theorem dX6_store_66 : decode cX6_store 66 = .ok (.iload 4, 2) := by decide +kernel
theorem dX6_store_68 : decode cX6_store 68 = .ok (.imul, 1) := by decide +kernel
theorem dX6_store_69 : decode cX6_store 69 = .ok (.iushr, 1) := by decide +kernel
theorem dX6_store_70 : decode cX6_store 70 = .ok (.sipush 255, 3) := by decide +kernel
theorem dX6_store_73 : decode cX6_store 73 = .ok (.iand, 1) := by decide +kernel
theorem dX6_store_74 : decode cX6_store 74 = .ok (.iastore, 1) := by decide +kernel
theorem dX6_store_75 : decode cX6_store 75 = .ok (.iinc 4 1, 3) := by decide +kernel
theorem dX6_store_78 : decode cX6_store 78 = .ok (.goto (-40), 3) := by decide +kernel
theorem dX6_store_81 : decode cX6_store 81 = .ok (.aload_n 0, 1) := by decide +kernel
theorem dX6_store_82 : decode cX6_store 82 = .ok (.dup, 1) := by decide +kernel
theorem dX6_store_83 : decode cX6_store 83 = .ok (.getfield 65, 3) := by decide +kernel
theorem dX6_store_86 : decode cX6_store 86 = .ok (.aload_n 0, 1) := by decide +kernel
theorem dX6_store_87 : decode cX6_store 87 = .ok (.aload_n 2, 1) := by decide +kernel
theorem dX6_store_88 : decode cX6_store 88 = .ok (.invokevirtual 126, 3) := by decide +kernel
theorem dX6_store_91 : decode cX6_store 91 = .ok (.iadd, 1) := by decide +kernel
theorem dX6_store_92 : decode cX6_store 92 = .ok (.putfield 65, 3) := by decide +kernel
theorem dX6_store_95 : decode cX6_store 95 = .ok (.return_, 1) := by decide +kernel
theorem dX6_load_0 : decode cX6_load 0 = .ok (.iconst 0, 1) := by decide +kernel
theorem dX6_load_1 : decode cX6_load 1 = .ok (.istore_n 2, 1) := by decide +kernel
theorem dX6_load_2 : decode cX6_load 2 = .ok (.iconst 0, 1) := by decide +kernel
theorem dX6_load_3 : decode cX6_load 3 = .ok (.istore_n 3, 1) := by decide +kernel
theorem dX6_load_4 : decode cX6_load 4 = .ok (.iload_n 3, 1) := by decide +kernel
theorem dX6_load_5 : decode cX6_load 5 = .ok (.aload_n 1, 1) := by decide +kernel
theorem dX6_load_6 : decode cX6_load 6 = .ok (.getfield 120, 3) := by decide +kernel
theorem dX6_load_9 : decode cX6_load 9 = .ok (.if_icmp .ge 33, 3) := by decide +kernel
theorem dX6_load_12 : decode cX6_load 12 = .ok (.iload_n 2, 1) := by decide +kernel
theorem dX6_load_13 : decode cX6_load 13 = .ok (.aload_n 0, 1) := by decide +kernel
theorem dX6_load_14 : decode cX6_load 14 = .ok (.getfield 17, 3) := by decide +kernel
theorem dX6_load_17 : decode cX6_load 17 = .ok (.aload_n 1, 1) := by decide +kernel
theorem dX6_load_18 : decode cX6_load 18 = .ok (.getfield 92, 3) := by decide +kernel
theorem dX6_load_21 : decode cX6_load 21 = .ok (.aaload, 1) := by decide +kernel
theorem dX6_load_22 : decode cX6_load 22 = .ok (.aload_n 1, 1) := by decide +kernel
theorem dX6_load_23 : decode cX6_load 23 = .ok (.getfield 123, 3) := by decide +kernel
theorem dX6_load_26 : decode cX6_load 26 = .ok (.iload_n 3, 1) := by decide +kernel
theorem dX6_load_27 : decode cX6_load 27 = .ok (.iadd, 1) := by decide +kernel
theorem dX6_load_28 : decode cX6_load 28 = .ok (.iaload, 1) := by decide +kernel
theorem dX6_load_29 : decode cX6_load 29 = .ok (.bipush 8, 2) := by decide +kernel
theorem dX6_load_31 : decode cX6_load 31 = .ok (.iload_n 3, 1) := by decide +kernel
theorem dX6_load_32 : decode cX6_load 32 = .ok (.imul, 1) := by decide +kernel
theorem dX6_load_33 : decode cX6_load 33 = .ok (.ishl, 1) := by decide +kernel
theorem dX6_load_34 : decode cX6_load 34 = .ok (.ior, 1) := by decide +kernel
theorem dX6_load_35 : decode cX6_load 35 = .ok (.istore_n 2, 1) := by decide +kernel
theorem dX6_load_36 : decode cX6_load 36 = .ok (.iinc 3 1, 3) := by decide +kernel
theorem dX6_load_39 : decode cX6_load 39 = .ok (.goto (-35), 3) := by decide +kernel
theorem dX6_load_42 : decode cX6_load 42 = .ok (.aload_n 0, 1) := by decide +kernel
theorem dX6_load_43 : decode cX6_load 43 = .ok (.getfield 9, 3) := by decide +kernel
theorem dX6_load_46 : decode cX6_load 46 = .ok (.aload_n 1, 1) := by decide +kernel
theorem dX6_load_47 : decode cX6_load 47 = .ok (.getfield 99, 3) := by decide +kernel
theorem dX6_load_50 : decode cX6_load 50 = .ok (.iload_n 2, 1) := by decide +kernel
theorem dX6_load_51 : decode cX6_load 51 = .ok (.iastore, 1) := by decide +kernel
theorem dX6_load_52 : decode cX6_load 52 = .ok (.aload_n 0, 1) := by decide +kernel
theorem dX6_load_53 : decode cX6_load 53 = .ok (.dup, 1) := by decide +kernel
theorem dX6_load_54 : decode cX6_load 54 = .ok (.getfield 65, 3) := by decide +kernel
theorem dX6_load_57 : decode cX6_load 57 = .ok (.aload_n 0, 1) := by decide +kernel
theorem dX6_load_58 : decode cX6_load 58 = .ok (.aload_n 0, 1) := by decide +kernel
theorem dX6_load_59 : decode cX6_load 59 = .ok (.getfield 27, 3) := by decide +kernel
theorem dX6_load_62 : decode cX6_load 62 = .ok (.aload_n 1, 1) := by decide +kernel
theorem dX6_load_63 : decode cX6_load 63 = .ok (.iconst 0, 1) := by decide +kernel
theorem dX6_load_64 : decode cX6_load 64 = .ok (.invokevirtual 111, 3) := by decide +kernel
theorem dX6_load_67 : decode cX6_load 67 = .ok (.invokevirtual 126, 3) := by decide +kernel
theorem dX6_load_70 : decode cX6_load 70 = .ok (.iadd, 1) := by decide +kernel
theorem dX6_load_71 : decode cX6_load 71 = .ok (.putfield 65, 3) := by decide +kernel
theorem dX6_load_74 : decode cX6_load 74 = .ok (.return_, 1) := by decide +kernel
theorem dX6_priceOfAccess_0 : decode cX6_priceOfAccess 0 = .ok (.aload_n 0, 1) := by decide +kernel
theorem dX6_priceOfAccess_1 : decode cX6_priceOfAccess 1 = .ok (.getfield 58, 3) := by decide +kernel
theorem dX6_priceOfAccess_4 : decode cX6_priceOfAccess 4 = .ok (.ifCond .eq 14, 3) := by decide +kernel
theorem dX6_priceOfAccess_7 : decode cX6_priceOfAccess 7 = .ok (.aload_n 1, 1) := by decide +kernel
theorem dX6_priceOfAccess_8 : decode cX6_priceOfAccess 8 = .ok (.getfield 130, 3) := by decide +kernel
theorem dX6_priceOfAccess_11 : decode cX6_priceOfAccess 11 = .ok (.ifCond .eq 7, 3) := by decide +kernel
theorem dX6_priceOfAccess_14 : decode cX6_priceOfAccess 14 = .ok (.iconst 0, 1) := by decide +kernel
theorem dX6_priceOfAccess_15 : decode cX6_priceOfAccess 15 = .ok (.goto 4, 3) := by decide +kernel
theorem dX6_priceOfAccess_18 : decode cX6_priceOfAccess 18 = .ok (.iconst 1, 1) := by decide +kernel
theorem dX6_priceOfAccess_19 : decode cX6_priceOfAccess 19 = .ok (.ireturn, 1) := by decide +kernel
theorem dX6_copyWhole_0 : decode cX6_copyWhole 0 = .ok (.aload_n 0, 1) := by decide +kernel
theorem dX6_copyWhole_1 : decode cX6_copyWhole 1 = .ok (.aload_n 1, 1) := by decide +kernel
theorem dX6_copyWhole_2 : decode cX6_copyWhole 2 = .ok (.iconst 0, 1) := by decide +kernel
theorem dX6_copyWhole_3 : decode cX6_copyWhole 3 = .ok (.aload_n 1, 1) := by decide +kernel
theorem dX6_copyWhole_4 : decode cX6_copyWhole 4 = .ok (.getfield 120, 3) := by decide +kernel
theorem dX6_copyWhole_7 : decode cX6_copyWhole 7 = .ok (.invokevirtual 133, 3) := by decide +kernel
theorem dX6_copyWhole_10 : decode cX6_copyWhole 10 = .ok (.aload_n 0, 1) := by decide +kernel
theorem dX6_copyWhole_11 : decode cX6_copyWhole 11 = .ok (.dup, 1) := by decide +kernel
theorem dX6_copyWhole_12 : decode cX6_copyWhole 12 = .ok (.getfield 65, 3) := by decide +kernel
theorem dX6_copyWhole_15 : decode cX6_copyWhole 15 = .ok (.aload_n 1, 1) := by decide +kernel
theorem dX6_copyWhole_16 : decode cX6_copyWhole 16 = .ok (.getfield 120, 3) := by decide +kernel
theorem dX6_copyWhole_19 : decode cX6_copyWhole 19 = .ok (.iadd, 1) := by decide +kernel
theorem dX6_copyWhole_20 : decode cX6_copyWhole 20 = .ok (.putfield 65, 3) := by decide +kernel
theorem dX6_copyWhole_23 : decode cX6_copyWhole 23 = .ok (.return_, 1) := by decide +kernel
theorem dX6_copyLivePieces_0 : decode cX6_copyLivePieces 0 = .ok (.iconst 0, 1) := by decide +kernel
theorem dX6_copyLivePieces_1 : decode cX6_copyLivePieces 1 = .ok (.istore_n 3, 1) := by decide +kernel
theorem dX6_copyLivePieces_2 : decode cX6_copyLivePieces 2 = .ok (.iload_n 3, 1) := by decide +kernel
theorem dX6_copyLivePieces_3 : decode cX6_copyLivePieces 3 = .ok (.aload_n 1, 1) := by decide +kernel
theorem dX6_copyLivePieces_4 : decode cX6_copyLivePieces 4 = .ok (.getfield 120, 3) := by decide +kernel
theorem dX6_copyLivePieces_7 : decode cX6_copyLivePieces 7 = .ok (.if_icmp .ge 69, 3) := by decide +kernel
theorem dX6_copyLivePieces_10 : decode cX6_copyLivePieces 10 = .ok (.aload_n 0, 1) := by decide +kernel
theorem dX6_copyLivePieces_11 : decode cX6_copyLivePieces 11 = .ok (.getfield 27, 3) := by decide +kernel
theorem dX6_copyLivePieces_14 : decode cX6_copyLivePieces 14 = .ok (.aload_n 1, 1) := by decide +kernel
theorem dX6_copyLivePieces_15 : decode cX6_copyLivePieces 15 = .ok (.iload_n 3, 1) := by decide +kernel
theorem dX6_copyLivePieces_16 : decode cX6_copyLivePieces 16 = .ok (.invokevirtual 111, 3) := by decide +kernel
theorem dX6_copyLivePieces_19 : decode cX6_copyLivePieces 19 = .ok (.astore 4, 2) := by decide +kernel
theorem dX6_copyLivePieces_21 : decode cX6_copyLivePieces 21 = .ok (.aload_n 2, 1) := by decide +kernel
theorem dX6_copyLivePieces_22 : decode cX6_copyLivePieces 22 = .ok (.iload_n 3, 1) := by decide +kernel
theorem dX6_copyLivePieces_23 : decode cX6_copyLivePieces 23 = .ok (.iaload, 1) := by decide +kernel
theorem dX6_copyLivePieces_24 : decode cX6_copyLivePieces 24 = .ok (.ifCond .le 46, 3) := by decide +kernel
theorem dX6_copyLivePieces_27 : decode cX6_copyLivePieces 27 = .ok (.aload 4, 2) := by decide +kernel
theorem dX6_copyLivePieces_29 : decode cX6_copyLivePieces 29 = .ok (.getfield 115, 3) := by decide +kernel
theorem dX6_copyLivePieces_32 : decode cX6_copyLivePieces 32 = .ok (.ifCond .eq 38, 3) := by decide +kernel
theorem dX6_copyLivePieces_35 : decode cX6_copyLivePieces 35 = .ok (.aload_n 0, 1) := by decide +kernel
theorem dX6_copyLivePieces_36 : decode cX6_copyLivePieces 36 = .ok (.aload_n 1, 1) := by decide +kernel
theorem dX6_copyLivePieces_37 : decode cX6_copyLivePieces 37 = .ok (.iload_n 3, 1) := by decide +kernel
theorem dX6_copyLivePieces_38 : decode cX6_copyLivePieces 38 = .ok (.aload_n 2, 1) := by decide +kernel
theorem dX6_copyLivePieces_39 : decode cX6_copyLivePieces 39 = .ok (.iload_n 3, 1) := by decide +kernel
theorem dX6_copyLivePieces_40 : decode cX6_copyLivePieces 40 = .ok (.iaload, 1) := by decide +kernel
theorem dX6_copyLivePieces_41 : decode cX6_copyLivePieces 41 = .ok (.invokevirtual 133, 3) := by decide +kernel
theorem dX6_copyLivePieces_44 : decode cX6_copyLivePieces 44 = .ok (.aload_n 0, 1) := by decide +kernel
theorem dX6_copyLivePieces_45 : decode cX6_copyLivePieces 45 = .ok (.dup, 1) := by decide +kernel
theorem dX6_copyLivePieces_46 : decode cX6_copyLivePieces 46 = .ok (.getfield 65, 3) := by decide +kernel
theorem dX6_copyLivePieces_49 : decode cX6_copyLivePieces 49 = .ok (.aload 4, 2) := by decide +kernel
theorem dX6_copyLivePieces_51 : decode cX6_copyLivePieces 51 = .ok (.aload_n 0, 1) := by decide +kernel
theorem dX6_copyLivePieces_52 : decode cX6_copyLivePieces 52 = .ok (.getfield 27, 3) := by decide +kernel
theorem dX6_copyLivePieces_55 : decode cX6_copyLivePieces 55 = .ok (.aload_n 1, 1) := by decide +kernel
theorem dX6_copyLivePieces_56 : decode cX6_copyLivePieces 56 = .ok (.iload_n 3, 1) := by decide +kernel
theorem dX6_copyLivePieces_57 : decode cX6_copyLivePieces 57 = .ok (.invokevirtual 137, 3) := by decide +kernel
theorem dX6_copyLivePieces_60 : decode cX6_copyLivePieces 60 = .ok (.aload_n 2, 1) := by decide +kernel
theorem dX6_copyLivePieces_61 : decode cX6_copyLivePieces 61 = .ok (.iload_n 3, 1) := by decide +kernel
theorem dX6_copyLivePieces_62 : decode cX6_copyLivePieces 62 = .ok (.iaload, 1) := by decide +kernel
theorem dX6_copyLivePieces_63 : decode cX6_copyLivePieces 63 = .ok (.invokestatic 140, 3) := by decide +kernel
theorem dX6_copyLivePieces_66 : decode cX6_copyLivePieces 66 = .ok (.iadd, 1) := by decide +kernel
theorem dX6_copyLivePieces_67 : decode cX6_copyLivePieces 67 = .ok (.putfield 65, 3) := by decide +kernel
theorem dX6_copyLivePieces_70 : decode cX6_copyLivePieces 70 = .ok (.iinc 3 1, 3) := by decide +kernel
theorem dX6_copyLivePieces_73 : decode cX6_copyLivePieces 73 = .ok (.goto (-71), 3) := by decide +kernel
theorem dX6_copyLivePieces_76 : decode cX6_copyLivePieces 76 = .ok (.return_, 1) := by decide +kernel
theorem dX6_priceOfPiece_0 : decode cX6_priceOfPiece 0 = .ok (.aload_n 0, 1) := by decide +kernel
theorem dX6_priceOfPiece_1 : decode cX6_priceOfPiece 1 = .ok (.getfield 130, 3) := by decide +kernel
theorem dX6_priceOfPiece_4 : decode cX6_priceOfPiece 4 = .ok (.ifCond .eq 12, 3) := by decide +kernel
theorem dX6_priceOfPiece_7 : decode cX6_priceOfPiece 7 = .ok (.aload_n 1, 1) := by decide +kernel
theorem dX6_priceOfPiece_8 : decode cX6_priceOfPiece 8 = .ok (.getfield 130, 3) := by decide +kernel
theorem dX6_priceOfPiece_11 : decode cX6_priceOfPiece 11 = .ok (.ifCond .eq 5, 3) := by decide +kernel
theorem dX6_priceOfPiece_14 : decode cX6_priceOfPiece 14 = .ok (.iconst 0, 1) := by decide +kernel
theorem dX6_priceOfPiece_15 : decode cX6_priceOfPiece 15 = .ok (.ireturn, 1) := by decide +kernel
theorem dX6_priceOfPiece_16 : decode cX6_priceOfPiece 16 = .ok (.aload_n 0, 1) := by decide +kernel
theorem dX6_priceOfPiece_17 : decode cX6_priceOfPiece 17 = .ok (.getfield 130, 3) := by decide +kernel
theorem dX6_priceOfPiece_20 : decode cX6_priceOfPiece 20 = .ok (.ifCond .ne 10, 3) := by decide +kernel
theorem dX6_priceOfPiece_23 : decode cX6_priceOfPiece 23 = .ok (.aload_n 1, 1) := by decide +kernel
theorem dX6_priceOfPiece_24 : decode cX6_priceOfPiece 24 = .ok (.getfield 130, 3) := by decide +kernel
theorem dX6_priceOfPiece_27 : decode cX6_priceOfPiece 27 = .ok (.ifCond .eq 7, 3) := by decide +kernel
theorem dX6_priceOfPiece_30 : decode cX6_priceOfPiece 30 = .ok (.iconst 1, 1) := by decide +kernel
theorem dX6_priceOfPiece_31 : decode cX6_priceOfPiece 31 = .ok (.goto 4, 3) := by decide +kernel
theorem dX6_priceOfPiece_34 : decode cX6_priceOfPiece 34 = .ok (.iload_n 2, 1) := by decide +kernel
theorem dX6_priceOfPiece_35 : decode cX6_priceOfPiece 35 = .ok (.ireturn, 1) := by decide +kernel
theorem dX6_moveBytes_0 : decode cX6_moveBytes 0 = .ok (.iload_n 2, 1) := by decide +kernel
theorem dX6_moveBytes_1 : decode cX6_moveBytes 1 = .ok (.istore 4, 2) := by decide +kernel
theorem dX6_moveBytes_3 : decode cX6_moveBytes 3 = .ok (.iload 4, 2) := by decide +kernel
theorem dX6_moveBytes_5 : decode cX6_moveBytes 5 = .ok (.iload_n 2, 1) := by decide +kernel
theorem dX6_moveBytes_6 : decode cX6_moveBytes 6 = .ok (.iload_n 3, 1) := by decide +kernel
theorem dX6_moveBytes_7 : decode cX6_moveBytes 7 = .ok (.iadd, 1) := by decide +kernel
theorem dX6_moveBytes_8 : decode cX6_moveBytes 8 = .ok (.if_icmp .ge 43, 3) := by decide +kernel
theorem dX6_moveBytes_11 : decode cX6_moveBytes 11 = .ok (.aload_n 0, 1) := by decide +kernel
theorem dX6_moveBytes_12 : decode cX6_moveBytes 12 = .ok (.getfield 17, 3) := by decide +kernel
theorem dX6_moveBytes_15 : decode cX6_moveBytes 15 = .ok (.aload_n 1, 1) := by decide +kernel
theorem dX6_moveBytes_16 : decode cX6_moveBytes 16 = .ok (.getfield 92, 3) := by decide +kernel
theorem dX6_moveBytes_19 : decode cX6_moveBytes 19 = .ok (.aaload, 1) := by decide +kernel
theorem dX6_moveBytes_20 : decode cX6_moveBytes 20 = .ok (.aload_n 1, 1) := by decide +kernel
theorem dX6_moveBytes_21 : decode cX6_moveBytes 21 = .ok (.getfield 123, 3) := by decide +kernel
theorem dX6_moveBytes_24 : decode cX6_moveBytes 24 = .ok (.iload 4, 2) := by decide +kernel
theorem dX6_moveBytes_26 : decode cX6_moveBytes 26 = .ok (.iadd, 1) := by decide +kernel
theorem dX6_moveBytes_27 : decode cX6_moveBytes 27 = .ok (.aload_n 0, 1) := by decide +kernel
theorem dX6_moveBytes_28 : decode cX6_moveBytes 28 = .ok (.getfield 17, 3) := by decide +kernel
theorem dX6_moveBytes_31 : decode cX6_moveBytes 31 = .ok (.aload_n 1, 1) := by decide +kernel
theorem dX6_moveBytes_32 : decode cX6_moveBytes 32 = .ok (.getfield 144, 3) := by decide +kernel
theorem dX6_moveBytes_35 : decode cX6_moveBytes 35 = .ok (.aaload, 1) := by decide +kernel
theorem dX6_moveBytes_36 : decode cX6_moveBytes 36 = .ok (.aload_n 1, 1) := by decide +kernel
theorem dX6_moveBytes_37 : decode cX6_moveBytes 37 = .ok (.getfield 147, 3) := by decide +kernel
theorem dX6_moveBytes_40 : decode cX6_moveBytes 40 = .ok (.iload 4, 2) := by decide +kernel
theorem dX6_moveBytes_42 : decode cX6_moveBytes 42 = .ok (.iadd, 1) := by decide +kernel
theorem dX6_moveBytes_43 : decode cX6_moveBytes 43 = .ok (.iaload, 1) := by decide +kernel
theorem dX6_moveBytes_44 : decode cX6_moveBytes 44 = .ok (.iastore, 1) := by decide +kernel
theorem dX6_moveBytes_45 : decode cX6_moveBytes 45 = .ok (.iinc 4 1, 3) := by decide +kernel
theorem dX6_moveBytes_48 : decode cX6_moveBytes 48 = .ok (.goto (-45), 3) := by decide +kernel
theorem dX6_moveBytes_51 : decode cX6_moveBytes 51 = .ok (.return_, 1) := by decide +kernel
theorem dX6_escape_0 : decode cX6_escape 0 = .ok (.aload_n 0, 1) := by decide +kernel
theorem dX6_escape_1 : decode cX6_escape 1 = .ok (.getfield 23, 3) := by decide +kernel
theorem dX6_escape_4 : decode cX6_escape 4 = .ok (.iload_n 1, 1) := by decide +kernel
theorem dX6_escape_5 : decode cX6_escape 5 = .ok (.invokevirtual 150, 3) := by decide +kernel
theorem dX6_escape_8 : decode cX6_escape 8 = .ok (.istore_n 2, 1) := by decide +kernel
theorem dX6_escape_9 : decode cX6_escape 9 = .ok (.iconst 0, 1) := by decide +kernel
theorem dX6_escape_10 : decode cX6_escape 10 = .ok (.istore_n 3, 1) := by decide +kernel
theorem dX6_escape_11 : decode cX6_escape 11 = .ok (.iload_n 3, 1) := by decide +kernel
theorem dX6_escape_12 : decode cX6_escape 12 = .ok (.iload_n 2, 1) := by decide +kernel
theorem dX6_escape_13 : decode cX6_escape 13 = .ok (.if_icmp .ge 29, 3) := by decide +kernel
theorem dX6_escape_16 : decode cX6_escape 16 = .ok (.aload_n 0, 1) := by decide +kernel
theorem dX6_escape_17 : decode cX6_escape 17 = .ok (.bipush 31, 2) := by decide +kernel
theorem dX6_escape_19 : decode cX6_escape 19 = .ok (.aload_n 0, 1) := by decide +kernel
theorem dX6_escape_20 : decode cX6_escape 20 = .ok (.getfield 62, 3) := by decide +kernel
theorem dX6_escape_23 : decode cX6_escape 23 = .ok (.imul, 1) := by decide +kernel
theorem dX6_escape_24 : decode cX6_escape 24 = .ok (.aload_n 0, 1) := by decide +kernel
theorem dX6_escape_25 : decode cX6_escape 25 = .ok (.getfield 17, 3) := by decide +kernel
theorem dX6_escape_28 : decode cX6_escape 28 = .ok (.iload_n 1, 1) := by decide +kernel
theorem dX6_escape_29 : decode cX6_escape 29 = .ok (.aaload, 1) := by decide +kernel
theorem dX6_escape_30 : decode cX6_escape 30 = .ok (.iload_n 3, 1) := by decide +kernel
theorem dX6_escape_31 : decode cX6_escape 31 = .ok (.iaload, 1) := by decide +kernel
theorem dX6_escape_32 : decode cX6_escape 32 = .ok (.iadd, 1) := by decide +kernel
theorem dX6_escape_33 : decode cX6_escape 33 = .ok (.putfield 62, 3) := by decide +kernel
theorem dX6_escape_36 : decode cX6_escape 36 = .ok (.iinc 3 1, 3) := by decide +kernel
theorem dX6_escape_39 : decode cX6_escape 39 = .ok (.goto (-28), 3) := by decide +kernel
theorem dX6_escape_42 : decode cX6_escape 42 = .ok (.aload_n 0, 1) := by decide +kernel
theorem dX6_escape_43 : decode cX6_escape 43 = .ok (.getfield 17, 3) := by decide +kernel
theorem dX6_escape_46 : decode cX6_escape 46 = .ok (.iload_n 1, 1) := by decide +kernel
theorem dX6_escape_47 : decode cX6_escape 47 = .ok (.aaload, 1) := by decide +kernel
theorem dX6_escape_48 : decode cX6_escape 48 = .ok (.iconst 0, 1) := by decide +kernel
theorem dX6_escape_49 : decode cX6_escape 49 = .ok (.aload_n 0, 1) := by decide +kernel
theorem dX6_escape_50 : decode cX6_escape 50 = .ok (.getfield 17, 3) := by decide +kernel
theorem dX6_escape_53 : decode cX6_escape 53 = .ok (.iload_n 1, 1) := by decide +kernel
theorem dX6_escape_54 : decode cX6_escape 54 = .ok (.aaload, 1) := by decide +kernel
theorem dX6_escape_55 : decode cX6_escape 55 = .ok (.iconst 0, 1) := by decide +kernel
theorem dX6_escape_56 : decode cX6_escape 56 = .ok (.iaload, 1) := by decide +kernel
theorem dX6_escape_57 : decode cX6_escape 57 = .ok (.iconst 1, 1) := by decide +kernel
theorem dX6_escape_58 : decode cX6_escape 58 = .ok (.iadd, 1) := by decide +kernel
theorem dX6_escape_59 : decode cX6_escape 59 = .ok (.sipush 255, 3) := by decide +kernel
theorem dX6_escape_62 : decode cX6_escape 62 = .ok (.iand, 1) := by decide +kernel
theorem dX6_escape_63 : decode cX6_escape 63 = .ok (.iastore, 1) := by decide +kernel
theorem dX6_escape_64 : decode cX6_escape 64 = .ok (.aload_n 0, 1) := by decide +kernel
theorem dX6_escape_65 : decode cX6_escape 65 = .ok (.dup, 1) := by decide +kernel
theorem dX6_escape_66 : decode cX6_escape 66 = .ok (.getfield 65, 3) := by decide +kernel
theorem dX6_escape_69 : decode cX6_escape 69 = .ok (.iload_n 2, 1) := by decide +kernel
theorem dX6_escape_70 : decode cX6_escape 70 = .ok (.iadd, 1) := by decide +kernel
theorem dX6_escape_71 : decode cX6_escape 71 = .ok (.putfield 65, 3) := by decide +kernel
theorem dX6_escape_74 : decode cX6_escape 74 = .ok (.return_, 1) := by decide +kernel
theorem dX6_add_0 : decode cX6_add 0 = .ok (.aload_n 0, 1) := by decide +kernel
theorem dX6_add_1 : decode cX6_add 1 = .ok (.getfield 9, 3) := by decide +kernel
theorem dX6_add_4 : decode cX6_add 4 = .ok (.aload_n 1, 1) := by decide +kernel
theorem dX6_add_5 : decode cX6_add 5 = .ok (.getfield 154, 3) := by decide +kernel
theorem dX6_add_8 : decode cX6_add 8 = .ok (.iaload, 1) := by decide +kernel
theorem dX6_add_9 : decode cX6_add 9 = .ok (.i2l, 1) := by decide +kernel
theorem dX6_add_10 : decode cX6_add 10 = .ok (.aload_n 0, 1) := by decide +kernel
theorem dX6_add_11 : decode cX6_add 11 = .ok (.getfield 9, 3) := by decide +kernel
theorem dX6_add_14 : decode cX6_add 14 = .ok (.aload_n 1, 1) := by decide +kernel
theorem dX6_add_15 : decode cX6_add 15 = .ok (.getfield 157, 3) := by decide +kernel
theorem dX6_add_18 : decode cX6_add 18 = .ok (.iaload, 1) := by decide +kernel
theorem dX6_add_19 : decode cX6_add 19 = .ok (.i2l, 1) := by decide +kernel
theorem dX6_add_20 : decode cX6_add 20 = .ok (.ladd, 1) := by decide +kernel
theorem dX6_add_21 : decode cX6_add 21 = .ok (.lstore_n 3, 1) := by decide +kernel
theorem dX6_add_22 : decode cX6_add 22 = .ok (.lload_n 3, 1) := by decide +kernel
theorem dX6_add_23 : decode cX6_add 23 = .ok (.lload_n 3, 1) := by decide +kernel
theorem dX6_add_24 : decode cX6_add 24 = .ok (.l2i, 1) := by decide +kernel
theorem dX6_add_25 : decode cX6_add 25 = .ok (.i2l, 1) := by decide +kernel
theorem dX6_add_26 : decode cX6_add 26 = .ok (.lcmp, 1) := by decide +kernel
theorem dX6_add_27 : decode cX6_add 27 = .ok (.ifCond .ne 17, 3) := by decide +kernel
theorem dX6_add_30 : decode cX6_add 30 = .ok (.aload_n 0, 1) := by decide +kernel
theorem dX6_add_31 : decode cX6_add 31 = .ok (.getfield 9, 3) := by decide +kernel
theorem dX6_add_34 : decode cX6_add 34 = .ok (.aload_n 1, 1) := by decide +kernel
theorem dX6_add_35 : decode cX6_add 35 = .ok (.getfield 99, 3) := by decide +kernel
theorem dX6_add_38 : decode cX6_add 38 = .ok (.lload_n 3, 1) := by decide +kernel
theorem dX6_add_39 : decode cX6_add 39 = .ok (.l2i, 1) := by decide +kernel
theorem dX6_add_40 : decode cX6_add 40 = .ok (.iastore, 1) := by decide +kernel
theorem dX6_add_41 : decode cX6_add 41 = .ok (.goto 8, 3) := by decide +kernel
theorem dX6_add_44 : decode cX6_add 44 = .ok (.aload_n 0, 1) := by decide +kernel
theorem dX6_add_45 : decode cX6_add 45 = .ok (.iload_n 2, 1) := by decide +kernel
theorem dX6_add_46 : decode cX6_add 46 = .ok (.putfield 41, 3) := by decide +kernel
theorem dX6_add_49 : decode cX6_add 49 = .ok (.return_, 1) := by decide +kernel
theorem dX6_output_0 : decode cX6_output 0 = .ok (.aload_n 0, 1) := by decide +kernel
theorem dX6_output_1 : decode cX6_output 1 = .ok (.getfield 55, 3) := by decide +kernel
theorem dX6_output_4 : decode cX6_output 4 = .ok (.bipush 24, 2) := by decide +kernel
theorem dX6_output_6 : decode cX6_output 6 = .ok (.if_icmp .ge 23, 3) := by decide +kernel
theorem dX6_output_9 : decode cX6_output 9 = .ok (.aload_n 0, 1) := by decide +kernel
theorem dX6_output_10 : decode cX6_output 10 = .ok (.getfield 20, 3) := by decide +kernel
theorem dX6_output_13 : decode cX6_output 13 = .ok (.aload_n 0, 1) := by decide +kernel
theorem dX6_output_14 : decode cX6_output 14 = .ok (.getfield 55, 3) := by decide +kernel
theorem dX6_output_17 : decode cX6_output 17 = .ok (.iload_n 1, 1) := by decide +kernel
theorem dX6_output_18 : decode cX6_output 18 = .ok (.iastore, 1) := by decide +kernel
theorem dX6_output_19 : decode cX6_output 19 = .ok (.aload_n 0, 1) := by decide +kernel
theorem dX6_output_20 : decode cX6_output 20 = .ok (.dup, 1) := by decide +kernel
theorem dX6_output_21 : decode cX6_output 21 = .ok (.getfield 55, 3) := by decide +kernel
theorem dX6_output_24 : decode cX6_output 24 = .ok (.iconst 1, 1) := by decide +kernel
theorem dX6_output_25 : decode cX6_output 25 = .ok (.iadd, 1) := by decide +kernel
theorem dX6_output_26 : decode cX6_output 26 = .ok (.putfield 55, 3) := by decide +kernel
theorem dX6_output_29 : decode cX6_output 29 = .ok (.return_, 1) := by decide +kernel
theorem dX7_init_0 : decode cX7_init 0 = .ok (.aload_n 0, 1) := by decide +kernel
theorem dX7_init_1 : decode cX7_init 1 = .ok (.invokespecial 1, 3) := by decide +kernel
theorem dX7_init_4 : decode cX7_init 4 = .ok (.aload_n 0, 1) := by decide +kernel
theorem dX7_init_5 : decode cX7_init 5 = .ok (.new 7, 3) := by decide +kernel
theorem dX7_init_8 : decode cX7_init 8 = .ok (.dup, 1) := by decide +kernel
theorem dX7_init_9 : decode cX7_init 9 = .ok (.invokespecial 9, 3) := by decide +kernel
theorem dX7_init_12 : decode cX7_init 12 = .ok (.putfield 10, 3) := by decide +kernel
theorem dX7_init_15 : decode cX7_init 15 = .ok (.aload_n 0, 1) := by decide +kernel
theorem dX7_init_16 : decode cX7_init 16 = .ok (.new 16, 3) := by decide +kernel
theorem dX7_init_19 : decode cX7_init 19 = .ok (.dup, 1) := by decide +kernel
theorem dX7_init_20 : decode cX7_init 20 = .ok (.invokespecial 18, 3) := by decide +kernel
theorem dX7_init_23 : decode cX7_init 23 = .ok (.putfield 19, 3) := by decide +kernel
theorem dX7_init_26 : decode cX7_init 26 = .ok (.aload_n 0, 1) := by decide +kernel
theorem dX7_init_27 : decode cX7_init 27 = .ok (.new 23, 3) := by decide +kernel
theorem dX7_init_30 : decode cX7_init 30 = .ok (.dup, 1) := by decide +kernel
theorem dX7_init_31 : decode cX7_init 31 = .ok (.invokespecial 25, 3) := by decide +kernel
theorem dX7_init_34 : decode cX7_init 34 = .ok (.putfield 26, 3) := by decide +kernel
theorem dX7_init_37 : decode cX7_init 37 = .ok (.aload_n 0, 1) := by decide +kernel
theorem dX7_init_38 : decode cX7_init 38 = .ok (.new 30, 3) := by decide +kernel
theorem dX7_init_41 : decode cX7_init 41 = .ok (.dup, 1) := by decide +kernel
theorem dX7_init_42 : decode cX7_init 42 = .ok (.aload_n 0, 1) := by decide +kernel
theorem dX7_init_43 : decode cX7_init 43 = .ok (.getfield 10, 3) := by decide +kernel
theorem dX7_init_46 : decode cX7_init 46 = .ok (.aload_n 0, 1) := by decide +kernel
theorem dX7_init_47 : decode cX7_init 47 = .ok (.getfield 26, 3) := by decide +kernel
theorem dX7_init_50 : decode cX7_init 50 = .ok (.invokespecial 32, 3) := by decide +kernel
theorem dX7_init_53 : decode cX7_init 53 = .ok (.putfield 35, 3) := by decide +kernel
theorem dX7_init_56 : decode cX7_init 56 = .ok (.return_, 1) := by decide +kernel
theorem dX7_declareRecord_0 : decode cX7_declareRecord 0 = .ok (.iload_n 1, 1) := by decide +kernel
theorem dX7_declareRecord_1 : decode cX7_declareRecord 1 = .ok (.iconst 1, 1) := by decide +kernel
theorem dX7_declareRecord_2 : decode cX7_declareRecord 2 = .ok (.if_icmp .lt 9, 3) := by decide +kernel
theorem dX7_declareRecord_5 : decode cX7_declareRecord 5 = .ok (.iload_n 1, 1) := by decide +kernel
theorem dX7_declareRecord_6 : decode cX7_declareRecord 6 = .ok (.bipush 16, 2) := by decide +kernel
theorem dX7_declareRecord_8 : decode cX7_declareRecord 8 = .ok (.if_icmp .le 5, 3) := by decide +kernel
theorem dX7_declareRecord_11 : decode cX7_declareRecord 11 = .ok (.iconst (-1), 1) := by decide +kernel
theorem dX7_declareRecord_12 : decode cX7_declareRecord 12 = .ok (.ireturn, 1) := by decide +kernel
theorem dX7_declareRecord_13 : decode cX7_declareRecord 13 = .ok (.aload_n 0, 1) := by decide +kernel
theorem dX7_declareRecord_14 : decode cX7_declareRecord 14 = .ok (.getfield 10, 3) := by decide +kernel
theorem dX7_declareRecord_17 : decode cX7_declareRecord 17 = .ok (.getfield 39, 3) := by decide +kernel
theorem dX7_declareRecord_20 : decode cX7_declareRecord 20 = .ok (.istore_n 2, 1) := by decide +kernel
theorem dX7_declareRecord_21 : decode cX7_declareRecord 21 = .ok (.iload_n 2, 1) := by decide +kernel
theorem dX7_declareRecord_22 : decode cX7_declareRecord 22 = .ok (.iconst 4, 1) := by decide +kernel
theorem dX7_declareRecord_23 : decode cX7_declareRecord 23 = .ok (.if_icmp .lt 6, 3) := by decide +kernel
theorem dX7_declareRecord_26 : decode cX7_declareRecord 26 = .ok (.bipush (-3), 2) := by decide +kernel
theorem dX7_declareRecord_28 : decode cX7_declareRecord 28 = .ok (.ireturn, 1) := by decide +kernel
theorem dX7_declareRecord_29 : decode cX7_declareRecord 29 = .ok (.aload_n 0, 1) := by decide +kernel
theorem dX7_declareRecord_30 : decode cX7_declareRecord 30 = .ok (.getfield 10, 3) := by decide +kernel
theorem dX7_declareRecord_33 : decode cX7_declareRecord 33 = .ok (.iload_n 1, 1) := by decide +kernel
theorem dX7_declareRecord_34 : decode cX7_declareRecord 34 = .ok (.invokevirtual 43, 3) := by decide +kernel
theorem dX7_declareRecord_37 : decode cX7_declareRecord 37 = .ok (.aload_n 0, 1) := by decide +kernel
theorem dX7_declareRecord_38 : decode cX7_declareRecord 38 = .ok (.getfield 19, 3) := by decide +kernel
theorem dX7_declareRecord_41 : decode cX7_declareRecord 41 = .ok (.iconst 1, 1) := by decide +kernel
theorem dX7_declareRecord_42 : decode cX7_declareRecord 42 = .ok (.iload_n 2, 1) := by decide +kernel
theorem dX7_declareRecord_43 : decode cX7_declareRecord 43 = .ok (.aload_n 0, 1) := by decide +kernel
theorem dX7_declareRecord_44 : decode cX7_declareRecord 44 = .ok (.getfield 10, 3) := by decide +kernel
theorem dX7_declareRecord_47 : decode cX7_declareRecord 47 = .ok (.getfield 47, 3) := by decide +kernel
theorem dX7_declareRecord_50 : decode cX7_declareRecord 50 = .ok (.invokevirtual 51, 3) := by decide +kernel
theorem dX7_declareRecord_53 : decode cX7_declareRecord 53 = .ok (.aload_n 0, 1) := by decide +kernel
theorem dX7_declareRecord_54 : decode cX7_declareRecord 54 = .ok (.getfield 26, 3) := by decide +kernel
theorem dX7_declareRecord_57 : decode cX7_declareRecord 57 = .ok (.iconst 1, 1) := by decide +kernel
theorem dX7_declareRecord_58 : decode cX7_declareRecord 58 = .ok (.putfield 55, 3) := by decide +kernel
theorem dX7_declareRecord_61 : decode cX7_declareRecord 61 = .ok (.iload_n 2, 1) := by decide +kernel
theorem dX7_declareRecord_62 : decode cX7_declareRecord 62 = .ok (.ireturn, 1) := by decide +kernel
theorem dX7_appendStore_0 : decode cX7_appendStore 0 = .ok (.aload_n 0, 1) := by decide +kernel
theorem dX7_appendStore_1 : decode cX7_appendStore 1 = .ok (.iload_n 1, 1) := by decide +kernel
theorem dX7_appendStore_2 : decode cX7_appendStore 2 = .ok (.iload_n 2, 1) := by decide +kernel
theorem dX7_appendStore_3 : decode cX7_appendStore 3 = .ok (.iload_n 3, 1) := by decide +kernel
theorem dX7_appendStore_4 : decode cX7_appendStore 4 = .ok (.invokevirtual 59, 3) := by decide +kernel
theorem dX7_appendStore_7 : decode cX7_appendStore 7 = .ok (.ifCond .eq 11, 3) := by decide +kernel
theorem dX7_appendStore_10 : decode cX7_appendStore 10 = .ok (.iload 4, 2) := by decide +kernel
theorem dX7_appendStore_12 : decode cX7_appendStore 12 = .ok (.invokestatic 63, 3) := by decide +kernel
theorem dX7_appendStore_15 : decode cX7_appendStore 15 = .ok (.ifCond .ne 5, 3) := by decide +kernel
theorem dX7_appendStore_18 : decode cX7_appendStore 18 = .ok (.iconst (-1), 1) := by decide +kernel
theorem dX7_appendStore_19 : decode cX7_appendStore 19 = .ok (.ireturn, 1) := by decide +kernel
theorem dX7_appendStore_20 : decode cX7_appendStore 20 = .ok (.aload_n 0, 1) := by decide +kernel
theorem dX7_appendStore_21 : decode cX7_appendStore 21 = .ok (.iconst 1, 1) := by decide +kernel
theorem dX7_appendStore_22 : decode cX7_appendStore 22 = .ok (.iload_n 1, 1) := by decide +kernel
theorem dX7_appendStore_23 : decode cX7_appendStore 23 = .ok (.iload_n 2, 1) := by decide +kernel
theorem dX7_appendStore_24 : decode cX7_appendStore 24 = .ok (.iload_n 3, 1) := by decide +kernel
theorem dX7_appendStore_25 : decode cX7_appendStore 25 = .ok (.iload 4, 2) := by decide +kernel
theorem dX7_appendStore_27 : decode cX7_appendStore 27 = .ok (.invokestatic 67, 3) := by decide +kernel
theorem dX7_appendStore_30 : decode cX7_appendStore 30 = .ok (.invokevirtual 73, 3) := by decide +kernel
theorem dX7_appendStore_33 : decode cX7_appendStore 33 = .ok (.ireturn, 1) := by decide +kernel
theorem dX7_appendLoad_0 : decode cX7_appendLoad 0 = .ok (.aload_n 0, 1) := by decide +kernel
theorem dX7_appendLoad_1 : decode cX7_appendLoad 1 = .ok (.iload_n 2, 1) := by decide +kernel
theorem dX7_appendLoad_2 : decode cX7_appendLoad 2 = .ok (.iload_n 3, 1) := by decide +kernel
theorem dX7_appendLoad_3 : decode cX7_appendLoad 3 = .ok (.iload 4, 2) := by decide +kernel
theorem dX7_appendLoad_5 : decode cX7_appendLoad 5 = .ok (.invokevirtual 59, 3) := by decide +kernel
theorem dX7_appendLoad_8 : decode cX7_appendLoad 8 = .ok (.ifCond .eq 10, 3) := by decide +kernel
theorem dX7_appendLoad_11 : decode cX7_appendLoad 11 = .ok (.iload_n 1, 1) := by decide +kernel
theorem dX7_appendLoad_12 : decode cX7_appendLoad 12 = .ok (.invokestatic 63, 3) := by decide +kernel
theorem dX7_appendLoad_15 : decode cX7_appendLoad 15 = .ok (.ifCond .ne 5, 3) := by decide +kernel
theorem dX7_appendLoad_18 : decode cX7_appendLoad 18 = .ok (.iconst (-1), 1) := by decide +kernel
theorem dX7_appendLoad_19 : decode cX7_appendLoad 19 = .ok (.ireturn, 1) := by decide +kernel
theorem dX7_appendLoad_20 : decode cX7_appendLoad 20 = .ok (.aload_n 0, 1) := by decide +kernel
theorem dX7_appendLoad_21 : decode cX7_appendLoad 21 = .ok (.iconst 2, 1) := by decide +kernel
theorem dX7_appendLoad_22 : decode cX7_appendLoad 22 = .ok (.iload_n 2, 1) := by decide +kernel
theorem dX7_appendLoad_23 : decode cX7_appendLoad 23 = .ok (.iload_n 3, 1) := by decide +kernel
theorem dX7_appendLoad_24 : decode cX7_appendLoad 24 = .ok (.iload 4, 2) := by decide +kernel
theorem dX7_appendLoad_26 : decode cX7_appendLoad 26 = .ok (.iload_n 1, 1) := by decide +kernel
theorem dX7_appendLoad_27 : decode cX7_appendLoad 27 = .ok (.invokestatic 67, 3) := by decide +kernel
theorem dX7_appendLoad_30 : decode cX7_appendLoad 30 = .ok (.invokevirtual 73, 3) := by decide +kernel
theorem dX7_appendLoad_33 : decode cX7_appendLoad 33 = .ok (.ireturn, 1) := by decide +kernel
theorem dX7_appendCopy_0 : decode cX7_appendCopy 0 = .ok (.aload_n 0, 1) := by decide +kernel
theorem dX7_appendCopy_1 : decode cX7_appendCopy 1 = .ok (.getfield 10, 3) := by decide +kernel
theorem dX7_appendCopy_4 : decode cX7_appendCopy 4 = .ok (.iload_n 1, 1) := by decide +kernel
theorem dX7_appendCopy_5 : decode cX7_appendCopy 5 = .ok (.iload_n 2, 1) := by decide +kernel
theorem dX7_appendCopy_6 : decode cX7_appendCopy 6 = .ok (.iload 5, 2) := by decide +kernel
theorem dX7_appendCopy_8 : decode cX7_appendCopy 8 = .ok (.invokevirtual 77, 3) := by decide +kernel
theorem dX7_appendCopy_11 : decode cX7_appendCopy 11 = .ok (.ifCond .eq 18, 3) := by decide +kernel
theorem dX7_appendCopy_14 : decode cX7_appendCopy 14 = .ok (.aload_n 0, 1) := by decide +kernel
theorem dX7_appendCopy_15 : decode cX7_appendCopy 15 = .ok (.getfield 10, 3) := by decide +kernel
theorem dX7_appendCopy_18 : decode cX7_appendCopy 18 = .ok (.iload_n 3, 1) := by decide +kernel
theorem dX7_appendCopy_19 : decode cX7_appendCopy 19 = .ok (.iload 4, 2) := by decide +kernel
theorem dX7_appendCopy_21 : decode cX7_appendCopy 21 = .ok (.iload 5, 2) := by decide +kernel
theorem dX7_appendCopy_23 : decode cX7_appendCopy 23 = .ok (.invokevirtual 77, 3) := by decide +kernel
theorem dX7_appendCopy_26 : decode cX7_appendCopy 26 = .ok (.ifCond .ne 5, 3) := by decide +kernel
theorem dX7_appendCopy_29 : decode cX7_appendCopy 29 = .ok (.iconst (-1), 1) := by decide +kernel
theorem dX7_appendCopy_30 : decode cX7_appendCopy 30 = .ok (.ireturn, 1) := by decide +kernel
theorem dX7_appendCopy_31 : decode cX7_appendCopy 31 = .ok (.iload_n 1, 1) := by decide +kernel
theorem dX7_appendCopy_32 : decode cX7_appendCopy 32 = .ok (.iload_n 3, 1) := by decide +kernel
theorem dX7_appendCopy_33 : decode cX7_appendCopy 33 = .ok (.if_icmp .ne 17, 3) := by decide +kernel
theorem dX7_appendCopy_36 : decode cX7_appendCopy 36 = .ok (.iload_n 2, 1) := by decide +kernel
theorem dX7_appendCopy_37 : decode cX7_appendCopy 37 = .ok (.iload 4, 2) := by decide +kernel
theorem dX7_appendCopy_39 : decode cX7_appendCopy 39 = .ok (.isub, 1) := by decide +kernel
theorem dX7_appendCopy_40 : decode cX7_appendCopy 40 = .ok (.invokestatic 80, 3) := by decide +kernel
theorem dX7_appendCopy_43 : decode cX7_appendCopy 43 = .ok (.iload 5, 2) := by decide +kernel
theorem dX7_appendCopy_45 : decode cX7_appendCopy 45 = .ok (.if_icmp .ge 5, 3) := by decide +kernel
theorem dX7_appendCopy_48 : decode cX7_appendCopy 48 = .ok (.iconst (-1), 1) := by decide +kernel
theorem dX7_appendCopy_49 : decode cX7_appendCopy 49 = .ok (.ireturn, 1) := by decide +kernel
theorem dX7_appendCopy_50 : decode cX7_appendCopy 50 = .ok (.aload_n 0, 1) := by decide +kernel
theorem dX7_appendCopy_51 : decode cX7_appendCopy 51 = .ok (.iload_n 1, 1) := by decide +kernel
theorem dX7_appendCopy_52 : decode cX7_appendCopy 52 = .ok (.iload_n 2, 1) := by decide +kernel
theorem dX7_appendCopy_53 : decode cX7_appendCopy 53 = .ok (.iload_n 3, 1) := by decide +kernel
theorem dX7_appendCopy_54 : decode cX7_appendCopy 54 = .ok (.iload 4, 2) := by decide +kernel
theorem dX7_appendCopy_56 : decode cX7_appendCopy 56 = .ok (.iload 5, 2) := by decide +kernel
theorem dX7_appendCopy_58 : decode cX7_appendCopy 58 = .ok (.invokestatic 86, 3) := by decide +kernel
theorem dX7_appendCopy_61 : decode cX7_appendCopy 61 = .ok (.invokevirtual 73, 3) := by decide +kernel
theorem dX7_appendCopy_64 : decode cX7_appendCopy 64 = .ok (.ireturn, 1) := by decide +kernel
theorem dX7_appendEscape_0 : decode cX7_appendEscape 0 = .ok (.aload_n 0, 1) := by decide +kernel
theorem dX7_appendEscape_1 : decode cX7_appendEscape 1 = .ok (.getfield 10, 3) := by decide +kernel
theorem dX7_appendEscape_4 : decode cX7_appendEscape 4 = .ok (.iload_n 1, 1) := by decide +kernel
theorem dX7_appendEscape_5 : decode cX7_appendEscape 5 = .ok (.invokevirtual 89, 3) := by decide +kernel
theorem dX7_appendEscape_8 : decode cX7_appendEscape 8 = .ok (.ifCond .ne 5, 3) := by decide +kernel
theorem dX7_appendEscape_11 : decode cX7_appendEscape 11 = .ok (.iconst (-1), 1) := by decide +kernel
theorem dX7_appendEscape_12 : decode cX7_appendEscape 12 = .ok (.ireturn, 1) := by decide +kernel
theorem dX7_appendEscape_13 : decode cX7_appendEscape 13 = .ok (.aload_n 0, 1) := by decide +kernel
theorem dX7_appendEscape_14 : decode cX7_appendEscape 14 = .ok (.iload_n 1, 1) := by decide +kernel
theorem dX7_appendEscape_15 : decode cX7_appendEscape 15 = .ok (.invokestatic 92, 3) := by decide +kernel
theorem dX7_appendEscape_18 : decode cX7_appendEscape 18 = .ok (.invokevirtual 73, 3) := by decide +kernel
theorem dX7_appendEscape_21 : decode cX7_appendEscape 21 = .ok (.ireturn, 1) := by decide +kernel
theorem dX7_appendConstant_0 : decode cX7_appendConstant 0 = .ok (.iload_n 1, 1) := by decide +kernel
theorem dX7_appendConstant_1 : decode cX7_appendConstant 1 = .ok (.invokestatic 63, 3) := by decide +kernel
theorem dX7_appendConstant_4 : decode cX7_appendConstant 4 = .ok (.ifCond .ne 5, 3) := by decide +kernel
theorem dX7_appendConstant_7 : decode cX7_appendConstant 7 = .ok (.iconst (-1), 1) := by decide +kernel
theorem dX7_appendConstant_8 : decode cX7_appendConstant 8 = .ok (.ireturn, 1) := by decide +kernel
theorem dX7_appendConstant_9 : decode cX7_appendConstant 9 = .ok (.aload_n 0, 1) := by decide +kernel
theorem dX7_appendConstant_10 : decode cX7_appendConstant 10 = .ok (.iconst 5, 1) := by decide +kernel
theorem dX7_appendConstant_11 : decode cX7_appendConstant 11 = .ok (.iload_n 1, 1) := by decide +kernel
theorem dX7_appendConstant_12 : decode cX7_appendConstant 12 = .ok (.iload_n 2, 1) := by decide +kernel
theorem dX7_appendConstant_13 : decode cX7_appendConstant 13 = .ok (.invokestatic 96, 3) := by decide +kernel
theorem dX7_appendConstant_16 : decode cX7_appendConstant 16 = .ok (.invokevirtual 73, 3) := by decide +kernel
theorem dX7_appendConstant_19 : decode cX7_appendConstant 19 = .ok (.ireturn, 1) := by decide +kernel
theorem dX7_appendAdd_0 : decode cX7_appendAdd 0 = .ok (.iload_n 1, 1) := by decide +kernel
theorem dX7_appendAdd_1 : decode cX7_appendAdd 1 = .ok (.invokestatic 63, 3) := by decide +kernel
theorem dX7_appendAdd_4 : decode cX7_appendAdd 4 = .ok (.ifCond .eq 17, 3) := by decide +kernel
theorem dX7_appendAdd_7 : decode cX7_appendAdd 7 = .ok (.iload_n 2, 1) := by decide +kernel
theorem dX7_appendAdd_8 : decode cX7_appendAdd 8 = .ok (.invokestatic 63, 3) := by decide +kernel
theorem dX7_appendAdd_11 : decode cX7_appendAdd 11 = .ok (.ifCond .eq 10, 3) := by decide +kernel
theorem dX7_appendAdd_14 : decode cX7_appendAdd 14 = .ok (.iload_n 3, 1) := by decide +kernel
theorem dX7_appendAdd_15 : decode cX7_appendAdd 15 = .ok (.invokestatic 63, 3) := by decide +kernel
theorem dX7_appendAdd_18 : decode cX7_appendAdd 18 = .ok (.ifCond .ne 5, 3) := by decide +kernel
theorem dX7_appendAdd_21 : decode cX7_appendAdd 21 = .ok (.iconst (-1), 1) := by decide +kernel
theorem dX7_appendAdd_22 : decode cX7_appendAdd 22 = .ok (.ireturn, 1) := by decide +kernel
theorem dX7_appendAdd_23 : decode cX7_appendAdd 23 = .ok (.aload_n 0, 1) := by decide +kernel
theorem dX7_appendAdd_24 : decode cX7_appendAdd 24 = .ok (.iload_n 1, 1) := by decide +kernel
theorem dX7_appendAdd_25 : decode cX7_appendAdd 25 = .ok (.iload_n 2, 1) := by decide +kernel
theorem dX7_appendAdd_26 : decode cX7_appendAdd 26 = .ok (.iload_n 3, 1) := by decide +kernel
theorem dX7_appendAdd_27 : decode cX7_appendAdd 27 = .ok (.invokestatic 100, 3) := by decide +kernel
theorem dX7_appendAdd_30 : decode cX7_appendAdd 30 = .ok (.invokevirtual 73, 3) := by decide +kernel
theorem dX7_appendAdd_33 : decode cX7_appendAdd 33 = .ok (.ireturn, 1) := by decide +kernel
theorem dX7_appendSkip_0 : decode cX7_appendSkip 0 = .ok (.iload_n 1, 1) := by decide +kernel
theorem dX7_appendSkip_1 : decode cX7_appendSkip 1 = .ok (.invokestatic 63, 3) := by decide +kernel
theorem dX7_appendSkip_4 : decode cX7_appendSkip 4 = .ok (.ifCond .eq 14, 3) := by decide +kernel
theorem dX7_appendSkip_7 : decode cX7_appendSkip 7 = .ok (.iload_n 2, 1) := by decide +kernel
theorem dX7_appendSkip_8 : decode cX7_appendSkip 8 = .ok (.iconst 1, 1) := by decide +kernel
theorem dX7_appendSkip_9 : decode cX7_appendSkip 9 = .ok (.if_icmp .lt 9, 3) := by decide +kernel
theorem dX7_appendSkip_12 : decode cX7_appendSkip 12 = .ok (.iload_n 2, 1) := by decide +kernel
theorem dX7_appendSkip_13 : decode cX7_appendSkip 13 = .ok (.bipush 9, 2) := by decide +kernel
theorem dX7_appendSkip_15 : decode cX7_appendSkip 15 = .ok (.if_icmp .le 5, 3) := by decide +kernel
theorem dX7_appendSkip_18 : decode cX7_appendSkip 18 = .ok (.iconst (-1), 1) := by decide +kernel
theorem dX7_appendSkip_19 : decode cX7_appendSkip 19 = .ok (.ireturn, 1) := by decide +kernel
theorem dX7_appendSkip_20 : decode cX7_appendSkip 20 = .ok (.aload_n 0, 1) := by decide +kernel
theorem dX7_appendSkip_21 : decode cX7_appendSkip 21 = .ok (.bipush 7, 2) := by decide +kernel
theorem dX7_appendSkip_23 : decode cX7_appendSkip 23 = .ok (.iload_n 1, 1) := by decide +kernel
theorem dX7_appendSkip_24 : decode cX7_appendSkip 24 = .ok (.iload_n 2, 1) := by decide +kernel
theorem dX7_appendSkip_25 : decode cX7_appendSkip 25 = .ok (.invokestatic 96, 3) := by decide +kernel
theorem dX7_appendSkip_28 : decode cX7_appendSkip 28 = .ok (.invokevirtual 73, 3) := by decide +kernel
theorem dX7_appendSkip_31 : decode cX7_appendSkip 31 = .ok (.ireturn, 1) := by decide +kernel
theorem dX7_appendOutput_0 : decode cX7_appendOutput 0 = .ok (.iload_n 1, 1) := by decide +kernel
theorem dX7_appendOutput_1 : decode cX7_appendOutput 1 = .ok (.invokestatic 63, 3) := by decide +kernel
theorem dX7_appendOutput_4 : decode cX7_appendOutput 4 = .ok (.ifCond .ne 5, 3) := by decide +kernel
theorem dX7_appendOutput_7 : decode cX7_appendOutput 7 = .ok (.iconst (-1), 1) := by decide +kernel
theorem dX7_appendOutput_8 : decode cX7_appendOutput 8 = .ok (.ireturn, 1) := by decide +kernel
theorem dX7_appendOutput_9 : decode cX7_appendOutput 9 = .ok (.aload_n 0, 1) := by decide +kernel
theorem dX7_appendOutput_10 : decode cX7_appendOutput 10 = .ok (.bipush 8, 2) := by decide +kernel
theorem dX7_appendOutput_12 : decode cX7_appendOutput 12 = .ok (.iload_n 1, 1) := by decide +kernel
theorem dX7_appendOutput_13 : decode cX7_appendOutput 13 = .ok (.iconst 0, 1) := by decide +kernel
theorem dX7_appendOutput_14 : decode cX7_appendOutput 14 = .ok (.invokestatic 96, 3) := by decide +kernel
theorem dX7_appendOutput_17 : decode cX7_appendOutput 17 = .ok (.invokevirtual 73, 3) := by decide +kernel
theorem dX7_appendOutput_20 : decode cX7_appendOutput 20 = .ok (.ireturn, 1) := by decide +kernel
theorem dX7_removeInstruction_0 : decode cX7_removeInstruction 0 = .ok (.aload_n 0, 1) := by decide +kernel
theorem dX7_removeInstruction_1 : decode cX7_removeInstruction 1 = .ok (.getfield 10, 3) := by decide +kernel
theorem dX7_removeInstruction_4 : decode cX7_removeInstruction 4 = .ok (.iload_n 1, 1) := by decide +kernel
theorem dX7_removeInstruction_5 : decode cX7_removeInstruction 5 = .ok (.invokevirtual 103, 3) := by decide +kernel
theorem dX7_removeInstruction_8 : decode cX7_removeInstruction 8 = .ok (.ifCond .ne 5, 3) := by decide +kernel
theorem dX7_removeInstruction_11 : decode cX7_removeInstruction 11 = .ok (.iconst (-1), 1) := by decide +kernel
theorem dX7_removeInstruction_12 : decode cX7_removeInstruction 12 = .ok (.ireturn, 1) := by decide +kernel
theorem dX7_removeInstruction_13 : decode cX7_removeInstruction 13 = .ok (.aload_n 0, 1) := by decide +kernel
theorem dX7_removeInstruction_14 : decode cX7_removeInstruction 14 = .ok (.getfield 19, 3) := by decide +kernel
theorem dX7_removeInstruction_17 : decode cX7_removeInstruction 17 = .ok (.iconst 3, 1) := by decide +kernel
theorem dX7_removeInstruction_18 : decode cX7_removeInstruction 18 = .ok (.iload_n 1, 1) := by decide +kernel
theorem dX7_removeInstruction_19 : decode cX7_removeInstruction 19 = .ok (.aload_n 0, 1) := by decide +kernel
theorem dX7_removeInstruction_20 : decode cX7_removeInstruction 20 = .ok (.getfield 10, 3) := by decide +kernel
theorem dX7_removeInstruction_23 : decode cX7_removeInstruction 23 = .ok (.iload_n 1, 1) := by decide +kernel
theorem dX7_removeInstruction_24 : decode cX7_removeInstruction 24 = .ok (.invokevirtual 106, 3) := by decide +kernel
theorem dX7_removeInstruction_27 : decode cX7_removeInstruction 27 = .ok (.invokevirtual 51, 3) := by decide +kernel
theorem dX7_removeInstruction_30 : decode cX7_removeInstruction 30 = .ok (.aload_n 0, 1) := by decide +kernel
theorem dX7_removeInstruction_31 : decode cX7_removeInstruction 31 = .ok (.getfield 10, 3) := by decide +kernel
theorem dX7_removeInstruction_34 : decode cX7_removeInstruction 34 = .ok (.iload_n 1, 1) := by decide +kernel
theorem dX7_removeInstruction_35 : decode cX7_removeInstruction 35 = .ok (.invokevirtual 109, 3) := by decide +kernel
theorem dX7_removeInstruction_38 : decode cX7_removeInstruction 38 = .ok (.aload_n 0, 1) := by decide +kernel
theorem dX7_removeInstruction_39 : decode cX7_removeInstruction 39 = .ok (.getfield 26, 3) := by decide +kernel
theorem dX7_removeInstruction_42 : decode cX7_removeInstruction 42 = .ok (.iconst 1, 1) := by decide +kernel
theorem dX7_removeInstruction_43 : decode cX7_removeInstruction 43 = .ok (.putfield 55, 3) := by decide +kernel
theorem dX7_removeInstruction_46 : decode cX7_removeInstruction 46 = .ok (.aload_n 0, 1) := by decide +kernel
theorem dX7_removeInstruction_47 : decode cX7_removeInstruction 47 = .ok (.getfield 10, 3) := by decide +kernel
theorem dX7_removeInstruction_50 : decode cX7_removeInstruction 50 = .ok (.getfield 112, 3) := by decide +kernel
theorem dX7_removeInstruction_53 : decode cX7_removeInstruction 53 = .ok (.ireturn, 1) := by decide +kernel
theorem dX7_undo_0 : decode cX7_undo 0 = .ok (.aload_n 0, 1) := by decide +kernel
theorem dX7_undo_1 : decode cX7_undo 1 = .ok (.getfield 19, 3) := by decide +kernel
theorem dX7_undo_4 : decode cX7_undo 4 = .ok (.getfield 115, 3) := by decide +kernel
theorem dX7_undo_7 : decode cX7_undo 7 = .ok (.ifCond .ne 6, 3) := by decide +kernel
theorem dX7_undo_10 : decode cX7_undo 10 = .ok (.bipush (-2), 2) := by decide +kernel
theorem dX7_undo_12 : decode cX7_undo 12 = .ok (.ireturn, 1) := by decide +kernel
theorem dX7_undo_13 : decode cX7_undo 13 = .ok (.aload_n 0, 1) := by decide +kernel
theorem dX7_undo_14 : decode cX7_undo 14 = .ok (.getfield 19, 3) := by decide +kernel
theorem dX7_undo_17 : decode cX7_undo 17 = .ok (.aload_n 0, 1) := by decide +kernel
theorem dX7_undo_18 : decode cX7_undo 18 = .ok (.getfield 10, 3) := by decide +kernel
theorem dX7_undo_21 : decode cX7_undo 21 = .ok (.invokevirtual 118, 3) := by decide +kernel
theorem dX7_undo_24 : decode cX7_undo 24 = .ok (.aload_n 0, 1) := by decide +kernel
theorem dX7_undo_25 : decode cX7_undo 25 = .ok (.getfield 26, 3) := by decide +kernel
theorem dX7_undo_28 : decode cX7_undo 28 = .ok (.iconst 1, 1) := by decide +kernel
theorem dX7_undo_29 : decode cX7_undo 29 = .ok (.putfield 55, 3) := by decide +kernel
theorem dX7_undo_32 : decode cX7_undo 32 = .ok (.aload_n 0, 1) := by decide +kernel
theorem dX7_undo_33 : decode cX7_undo 33 = .ok (.getfield 19, 3) := by decide +kernel
theorem dX7_undo_36 : decode cX7_undo 36 = .ok (.getfield 115, 3) := by decide +kernel
theorem dX7_undo_39 : decode cX7_undo 39 = .ok (.ireturn, 1) := by decide +kernel
theorem dX7_recordCount_0 : decode cX7_recordCount 0 = .ok (.aload_n 0, 1) := by decide +kernel
theorem dX7_recordCount_1 : decode cX7_recordCount 1 = .ok (.getfield 10, 3) := by decide +kernel
theorem dX7_recordCount_4 : decode cX7_recordCount 4 = .ok (.getfield 39, 3) := by decide +kernel
theorem dX7_recordCount_7 : decode cX7_recordCount 7 = .ok (.ireturn, 1) := by decide +kernel
theorem dX7_instructionCount_0 : decode cX7_instructionCount 0 = .ok (.aload_n 0, 1) := by decide +kernel
theorem dX7_instructionCount_1 : decode cX7_instructionCount 1 = .ok (.getfield 10, 3) := by decide +kernel
theorem dX7_instructionCount_4 : decode cX7_instructionCount 4 = .ok (.getfield 112, 3) := by decide +kernel
theorem dX7_instructionCount_7 : decode cX7_instructionCount 7 = .ok (.ireturn, 1) := by decide +kernel
theorem dX7_escapes_0 : decode cX7_escapes 0 = .ok (.aload_n 0, 1) := by decide +kernel
theorem dX7_escapes_1 : decode cX7_escapes 1 = .ok (.getfield 10, 3) := by decide +kernel
theorem dX7_escapes_4 : decode cX7_escapes 4 = .ok (.iload_n 1, 1) := by decide +kernel
theorem dX7_escapes_5 : decode cX7_escapes 5 = .ok (.invokevirtual 89, 3) := by decide +kernel
theorem dX7_escapes_8 : decode cX7_escapes 8 = .ok (.ifCond .ne 5, 3) := by decide +kernel
theorem dX7_escapes_11 : decode cX7_escapes 11 = .ok (.iconst (-1), 1) := by decide +kernel
theorem dX7_escapes_12 : decode cX7_escapes 12 = .ok (.ireturn, 1) := by decide +kernel
theorem dX7_escapes_13 : decode cX7_escapes 13 = .ok (.aload_n 0, 1) := by decide +kernel
theorem dX7_escapes_14 : decode cX7_escapes 14 = .ok (.iload_n 1, 1) := by decide +kernel
theorem dX7_escapes_15 : decode cX7_escapes 15 = .ok (.invokevirtual 122, 3) := by decide +kernel
theorem dX7_escapes_18 : decode cX7_escapes 18 = .ok (.getfield 126, 3) := by decide +kernel
theorem dX7_escapes_21 : decode cX7_escapes 21 = .ok (.invokestatic 131, 3) := by decide +kernel
theorem dX7_escapes_24 : decode cX7_escapes 24 = .ok (.ireturn, 1) := by decide +kernel
theorem dX7_partitionCount_0 : decode cX7_partitionCount 0 = .ok (.aload_n 0, 1) := by decide +kernel
theorem dX7_partitionCount_1 : decode cX7_partitionCount 1 = .ok (.getfield 10, 3) := by decide +kernel
theorem dX7_partitionCount_4 : decode cX7_partitionCount 4 = .ok (.iload_n 1, 1) := by decide +kernel
theorem dX7_partitionCount_5 : decode cX7_partitionCount 5 = .ok (.invokevirtual 89, 3) := by decide +kernel
theorem dX7_partitionCount_8 : decode cX7_partitionCount 8 = .ok (.ifCond .ne 5, 3) := by decide +kernel
theorem dX7_partitionCount_11 : decode cX7_partitionCount 11 = .ok (.iconst (-1), 1) := by decide +kernel
theorem dX7_partitionCount_12 : decode cX7_partitionCount 12 = .ok (.ireturn, 1) := by decide +kernel
theorem dX7_partitionCount_13 : decode cX7_partitionCount 13 = .ok (.aload_n 0, 1) := by decide +kernel
theorem dX7_partitionCount_14 : decode cX7_partitionCount 14 = .ok (.iload_n 1, 1) := by decide +kernel
theorem dX7_partitionCount_15 : decode cX7_partitionCount 15 = .ok (.invokevirtual 122, 3) := by decide +kernel
theorem dX7_partitionCount_18 : decode cX7_partitionCount 18 = .ok (.getfield 135, 3) := by decide +kernel
theorem dX7_partitionCount_21 : decode cX7_partitionCount 21 = .ok (.ireturn, 1) := by decide +kernel
theorem dX7_partitionStart_0 : decode cX7_partitionStart 0 = .ok (.aload_n 0, 1) := by decide +kernel
theorem dX7_partitionStart_1 : decode cX7_partitionStart 1 = .ok (.iload_n 1, 1) := by decide +kernel
theorem dX7_partitionStart_2 : decode cX7_partitionStart 2 = .ok (.iload_n 2, 1) := by decide +kernel
theorem dX7_partitionStart_3 : decode cX7_partitionStart 3 = .ok (.invokevirtual 138, 3) := by decide +kernel
theorem dX7_partitionStart_6 : decode cX7_partitionStart 6 = .ok (.astore_n 3, 1) := by decide +kernel
theorem dX7_partitionStart_7 : decode cX7_partitionStart 7 = .ok (.aload_n 3, 1) := by decide +kernel
theorem dX7_partitionStart_8 : decode cX7_partitionStart 8 = .ok (.getfield 142, 3) := by decide +kernel
theorem dX7_partitionStart_11 : decode cX7_partitionStart 11 = .ok (.ifCond .ne 7, 3) := by decide +kernel
theorem dX7_partitionStart_14 : decode cX7_partitionStart 14 = .ok (.iconst (-1), 1) := by decide +kernel
theorem dX7_partitionStart_15 : decode cX7_partitionStart 15 = .ok (.goto 7, 3) := by decide +kernel
theorem dX7_partitionStart_18 : decode cX7_partitionStart 18 = .ok (.aload_n 3, 1) := by decide +kernel
theorem dX7_partitionStart_19 : decode cX7_partitionStart 19 = .ok (.getfield 147, 3) := by decide +kernel
theorem dX7_partitionStart_22 : decode cX7_partitionStart 22 = .ok (.ireturn, 1) := by decide +kernel
theorem dX7_partitionLength_0 : decode cX7_partitionLength 0 = .ok (.aload_n 0, 1) := by decide +kernel
theorem dX7_partitionLength_1 : decode cX7_partitionLength 1 = .ok (.iload_n 1, 1) := by decide +kernel
theorem dX7_partitionLength_2 : decode cX7_partitionLength 2 = .ok (.iload_n 2, 1) := by decide +kernel
theorem dX7_partitionLength_3 : decode cX7_partitionLength 3 = .ok (.invokevirtual 138, 3) := by decide +kernel
theorem dX7_partitionLength_6 : decode cX7_partitionLength 6 = .ok (.astore_n 3, 1) := by decide +kernel
theorem dX7_partitionLength_7 : decode cX7_partitionLength 7 = .ok (.aload_n 3, 1) := by decide +kernel
theorem dX7_partitionLength_8 : decode cX7_partitionLength 8 = .ok (.getfield 142, 3) := by decide +kernel
theorem dX7_partitionLength_11 : decode cX7_partitionLength 11 = .ok (.ifCond .ne 7, 3) := by decide +kernel
theorem dX7_partitionLength_14 : decode cX7_partitionLength 14 = .ok (.iconst (-1), 1) := by decide +kernel
theorem dX7_partitionLength_15 : decode cX7_partitionLength 15 = .ok (.goto 7, 3) := by decide +kernel
theorem dX7_partitionLength_18 : decode cX7_partitionLength 18 = .ok (.aload_n 3, 1) := by decide +kernel
theorem dX7_partitionLength_19 : decode cX7_partitionLength 19 = .ok (.getfield 142, 3) := by decide +kernel
theorem dX7_partitionLength_22 : decode cX7_partitionLength 22 = .ok (.ireturn, 1) := by decide +kernel
theorem dX7_isPromotable_0 : decode cX7_isPromotable 0 = .ok (.aload_n 0, 1) := by decide +kernel
theorem dX7_isPromotable_1 : decode cX7_isPromotable 1 = .ok (.iload_n 1, 1) := by decide +kernel
theorem dX7_isPromotable_2 : decode cX7_isPromotable 2 = .ok (.iload_n 2, 1) := by decide +kernel
theorem dX7_isPromotable_3 : decode cX7_isPromotable 3 = .ok (.invokevirtual 138, 3) := by decide +kernel
theorem dX7_isPromotable_6 : decode cX7_isPromotable 6 = .ok (.astore_n 3, 1) := by decide +kernel
theorem dX7_isPromotable_7 : decode cX7_isPromotable 7 = .ok (.aload_n 3, 1) := by decide +kernel
theorem dX7_isPromotable_8 : decode cX7_isPromotable 8 = .ok (.getfield 142, 3) := by decide +kernel
theorem dX7_isPromotable_11 : decode cX7_isPromotable 11 = .ok (.ifCond .ne 7, 3) := by decide +kernel
theorem dX7_isPromotable_14 : decode cX7_isPromotable 14 = .ok (.iconst (-1), 1) := by decide +kernel
theorem dX7_isPromotable_15 : decode cX7_isPromotable 15 = .ok (.goto 10, 3) := by decide +kernel
theorem dX7_isPromotable_18 : decode cX7_isPromotable 18 = .ok (.aload_n 3, 1) := by decide +kernel
theorem dX7_isPromotable_19 : decode cX7_isPromotable 19 = .ok (.getfield 150, 3) := by decide +kernel
theorem dX7_isPromotable_22 : decode cX7_isPromotable 22 = .ok (.invokestatic 131, 3) := by decide +kernel
theorem dX7_isPromotable_25 : decode cX7_isPromotable 25 = .ok (.ireturn, 1) := by decide +kernel
theorem dX7_isLive_0 : decode cX7_isLive 0 = .ok (.aload_n 0, 1) := by decide +kernel
theorem dX7_isLive_1 : decode cX7_isLive 1 = .ok (.iload_n 1, 1) := by decide +kernel
theorem dX7_isLive_2 : decode cX7_isLive 2 = .ok (.iload_n 2, 1) := by decide +kernel
theorem dX7_isLive_3 : decode cX7_isLive 3 = .ok (.invokevirtual 138, 3) := by decide +kernel
theorem dX7_isLive_6 : decode cX7_isLive 6 = .ok (.astore_n 3, 1) := by decide +kernel
theorem dX7_isLive_7 : decode cX7_isLive 7 = .ok (.aload_n 3, 1) := by decide +kernel
theorem dX7_isLive_8 : decode cX7_isLive 8 = .ok (.getfield 142, 3) := by decide +kernel
theorem dX7_isLive_11 : decode cX7_isLive 11 = .ok (.ifCond .ne 7, 3) := by decide +kernel
theorem dX7_isLive_14 : decode cX7_isLive 14 = .ok (.iconst (-1), 1) := by decide +kernel
theorem dX7_isLive_15 : decode cX7_isLive 15 = .ok (.goto 10, 3) := by decide +kernel
theorem dX7_isLive_18 : decode cX7_isLive 18 = .ok (.aload_n 3, 1) := by decide +kernel
theorem dX7_isLive_19 : decode cX7_isLive 19 = .ok (.getfield 153, 3) := by decide +kernel
theorem dX7_isLive_22 : decode cX7_isLive 22 = .ok (.invokestatic 131, 3) := by decide +kernel
theorem dX7_isLive_25 : decode cX7_isLive 25 = .ok (.ireturn, 1) := by decide +kernel
theorem dX7_paddingBytes_0 : decode cX7_paddingBytes 0 = .ok (.aload_n 0, 1) := by decide +kernel
theorem dX7_paddingBytes_1 : decode cX7_paddingBytes 1 = .ok (.getfield 10, 3) := by decide +kernel
theorem dX7_paddingBytes_4 : decode cX7_paddingBytes 4 = .ok (.iload_n 1, 1) := by decide +kernel
theorem dX7_paddingBytes_5 : decode cX7_paddingBytes 5 = .ok (.invokevirtual 89, 3) := by decide +kernel
theorem dX7_paddingBytes_8 : decode cX7_paddingBytes 8 = .ok (.ifCond .ne 5, 3) := by decide +kernel
theorem dX7_paddingBytes_11 : decode cX7_paddingBytes 11 = .ok (.iconst (-1), 1) := by decide +kernel
theorem dX7_paddingBytes_12 : decode cX7_paddingBytes 12 = .ok (.ireturn, 1) := by decide +kernel
theorem dX7_paddingBytes_13 : decode cX7_paddingBytes 13 = .ok (.aload_n 0, 1) := by decide +kernel
theorem dX7_paddingBytes_14 : decode cX7_paddingBytes 14 = .ok (.iload_n 1, 1) := by decide +kernel
theorem dX7_paddingBytes_15 : decode cX7_paddingBytes 15 = .ok (.invokevirtual 122, 3) := by decide +kernel
theorem dX7_paddingBytes_18 : decode cX7_paddingBytes 18 = .ok (.invokevirtual 156, 3) := by decide +kernel
theorem dX7_paddingBytes_21 : decode cX7_paddingBytes 21 = .ok (.ireturn, 1) := by decide +kernel
theorem dX7_pieceCount_0 : decode cX7_pieceCount 0 = .ok (.aload_n 0, 1) := by decide +kernel
theorem dX7_pieceCount_1 : decode cX7_pieceCount 1 = .ok (.getfield 10, 3) := by decide +kernel
theorem dX7_pieceCount_4 : decode cX7_pieceCount 4 = .ok (.iload_n 1, 1) := by decide +kernel
theorem dX7_pieceCount_5 : decode cX7_pieceCount 5 = .ok (.invokevirtual 106, 3) := by decide +kernel
theorem dX7_pieceCount_8 : decode cX7_pieceCount 8 = .ok (.getfield 160, 3) := by decide +kernel
theorem dX7_pieceCount_11 : decode cX7_pieceCount 11 = .ok (.iconst 3, 1) := by decide +kernel
theorem dX7_pieceCount_12 : decode cX7_pieceCount 12 = .ok (.if_icmp .eq 5, 3) := by decide +kernel
theorem dX7_pieceCount_15 : decode cX7_pieceCount 15 = .ok (.iconst (-1), 1) := by decide +kernel
theorem dX7_pieceCount_16 : decode cX7_pieceCount 16 = .ok (.ireturn, 1) := by decide +kernel
theorem dX7_pieceCount_17 : decode cX7_pieceCount 17 = .ok (.aload_n 0, 1) := by decide +kernel
theorem dX7_pieceCount_18 : decode cX7_pieceCount 18 = .ok (.getfield 26, 3) := by decide +kernel
theorem dX7_pieceCount_21 : decode cX7_pieceCount 21 = .ok (.aload_n 0, 1) := by decide +kernel
theorem dX7_pieceCount_22 : decode cX7_pieceCount 22 = .ok (.getfield 10, 3) := by decide +kernel
theorem dX7_pieceCount_25 : decode cX7_pieceCount 25 = .ok (.invokevirtual 163, 3) := by decide +kernel
theorem dX7_pieceCount_28 : decode cX7_pieceCount 28 = .ok (.aload_n 0, 1) := by decide +kernel
theorem dX7_pieceCount_29 : decode cX7_pieceCount 29 = .ok (.getfield 26, 3) := by decide +kernel
theorem dX7_pieceCount_32 : decode cX7_pieceCount 32 = .ok (.iload_n 1, 1) := by decide +kernel
theorem dX7_pieceCount_33 : decode cX7_pieceCount 33 = .ok (.invokevirtual 166, 3) := by decide +kernel
theorem dX7_pieceCount_36 : decode cX7_pieceCount 36 = .ok (.ireturn, 1) := by decide +kernel
theorem dX7_pieceLength_0 : decode cX7_pieceLength 0 = .ok (.aload_n 0, 1) := by decide +kernel
theorem dX7_pieceLength_1 : decode cX7_pieceLength 1 = .ok (.getfield 10, 3) := by decide +kernel
theorem dX7_pieceLength_4 : decode cX7_pieceLength 4 = .ok (.iload_n 1, 1) := by decide +kernel
theorem dX7_pieceLength_5 : decode cX7_pieceLength 5 = .ok (.invokevirtual 106, 3) := by decide +kernel
theorem dX7_pieceLength_8 : decode cX7_pieceLength 8 = .ok (.getfield 160, 3) := by decide +kernel
theorem dX7_pieceLength_11 : decode cX7_pieceLength 11 = .ok (.iconst 3, 1) := by decide +kernel
theorem dX7_pieceLength_12 : decode cX7_pieceLength 12 = .ok (.if_icmp .eq 5, 3) := by decide +kernel
theorem dX7_pieceLength_15 : decode cX7_pieceLength 15 = .ok (.iconst (-1), 1) := by decide +kernel
theorem dX7_pieceLength_16 : decode cX7_pieceLength 16 = .ok (.ireturn, 1) := by decide +kernel
theorem dX7_pieceLength_17 : decode cX7_pieceLength 17 = .ok (.aload_n 0, 1) := by decide +kernel
theorem dX7_pieceLength_18 : decode cX7_pieceLength 18 = .ok (.getfield 26, 3) := by decide +kernel
theorem dX7_pieceLength_21 : decode cX7_pieceLength 21 = .ok (.aload_n 0, 1) := by decide +kernel
theorem dX7_pieceLength_22 : decode cX7_pieceLength 22 = .ok (.getfield 10, 3) := by decide +kernel
theorem dX7_pieceLength_25 : decode cX7_pieceLength 25 = .ok (.invokevirtual 163, 3) := by decide +kernel
theorem dX7_pieceLength_28 : decode cX7_pieceLength 28 = .ok (.aload_n 0, 1) := by decide +kernel
theorem dX7_pieceLength_29 : decode cX7_pieceLength 29 = .ok (.getfield 26, 3) := by decide +kernel
theorem dX7_pieceLength_32 : decode cX7_pieceLength 32 = .ok (.iload_n 1, 1) := by decide +kernel
theorem dX7_pieceLength_33 : decode cX7_pieceLength 33 = .ok (.iload_n 2, 1) := by decide +kernel
theorem dX7_pieceLength_34 : decode cX7_pieceLength 34 = .ok (.invokevirtual 169, 3) := by decide +kernel
theorem dX7_pieceLength_37 : decode cX7_pieceLength 37 = .ok (.istore_n 3, 1) := by decide +kernel
theorem dX7_pieceLength_38 : decode cX7_pieceLength 38 = .ok (.iload_n 3, 1) := by decide +kernel
theorem dX7_pieceLength_39 : decode cX7_pieceLength 39 = .ok (.ifCond .ne 7, 3) := by decide +kernel
theorem dX7_pieceLength_42 : decode cX7_pieceLength 42 = .ok (.iconst (-1), 1) := by decide +kernel
theorem dX7_pieceLength_43 : decode cX7_pieceLength 43 = .ok (.goto 4, 3) := by decide +kernel
theorem dX7_pieceLength_46 : decode cX7_pieceLength 46 = .ok (.iload_n 3, 1) := by decide +kernel
theorem dX7_pieceLength_47 : decode cX7_pieceLength 47 = .ok (.ireturn, 1) := by decide +kernel
theorem dX7_scalarCount_0 : decode cX7_scalarCount 0 = .ok (.iconst 0, 1) := by decide +kernel
theorem dX7_scalarCount_1 : decode cX7_scalarCount 1 = .ok (.istore_n 1, 1) := by decide +kernel
theorem dX7_scalarCount_2 : decode cX7_scalarCount 2 = .ok (.iconst 0, 1) := by decide +kernel
theorem dX7_scalarCount_3 : decode cX7_scalarCount 3 = .ok (.istore_n 2, 1) := by decide +kernel
theorem dX7_scalarCount_4 : decode cX7_scalarCount 4 = .ok (.iload_n 2, 1) := by decide +kernel
theorem dX7_scalarCount_5 : decode cX7_scalarCount 5 = .ok (.aload_n 0, 1) := by decide +kernel
theorem dX7_scalarCount_6 : decode cX7_scalarCount 6 = .ok (.getfield 10, 3) := by decide +kernel
theorem dX7_scalarCount_9 : decode cX7_scalarCount 9 = .ok (.getfield 39, 3) := by decide +kernel
theorem dX7_scalarCount_12 : decode cX7_scalarCount 12 = .ok (.if_icmp .ge 20, 3) := by decide +kernel
theorem dX7_scalarCount_15 : decode cX7_scalarCount 15 = .ok (.iload_n 1, 1) := by decide +kernel
theorem dX7_scalarCount_16 : decode cX7_scalarCount 16 = .ok (.aload_n 0, 1) := by decide +kernel
theorem dX7_scalarCount_17 : decode cX7_scalarCount 17 = .ok (.iload_n 2, 1) := by decide +kernel
theorem dX7_scalarCount_18 : decode cX7_scalarCount 18 = .ok (.invokevirtual 122, 3) := by decide +kernel
theorem dX7_scalarCount_21 : decode cX7_scalarCount 21 = .ok (.invokevirtual 173, 3) := by decide +kernel
theorem dX7_scalarCount_24 : decode cX7_scalarCount 24 = .ok (.iadd, 1) := by decide +kernel
theorem dX7_scalarCount_25 : decode cX7_scalarCount 25 = .ok (.istore_n 1, 1) := by decide +kernel
theorem dX7_scalarCount_26 : decode cX7_scalarCount 26 = .ok (.iinc 2 1, 3) := by decide +kernel
theorem dX7_scalarCount_29 : decode cX7_scalarCount 29 = .ok (.goto (-25), 3) := by decide +kernel
theorem dX7_scalarCount_32 : decode cX7_scalarCount 32 = .ok (.iload_n 1, 1) := by decide +kernel
theorem dX7_scalarCount_33 : decode cX7_scalarCount 33 = .ok (.ireturn, 1) := by decide +kernel
theorem dX7_liveBytes_0 : decode cX7_liveBytes 0 = .ok (.iconst 0, 1) := by decide +kernel
theorem dX7_liveBytes_1 : decode cX7_liveBytes 1 = .ok (.istore_n 1, 1) := by decide +kernel
theorem dX7_liveBytes_2 : decode cX7_liveBytes 2 = .ok (.iconst 0, 1) := by decide +kernel
theorem dX7_liveBytes_3 : decode cX7_liveBytes 3 = .ok (.istore_n 2, 1) := by decide +kernel
theorem dX7_liveBytes_4 : decode cX7_liveBytes 4 = .ok (.iload_n 2, 1) := by decide +kernel
theorem dX7_liveBytes_5 : decode cX7_liveBytes 5 = .ok (.aload_n 0, 1) := by decide +kernel
theorem dX7_liveBytes_6 : decode cX7_liveBytes 6 = .ok (.getfield 10, 3) := by decide +kernel
theorem dX7_liveBytes_9 : decode cX7_liveBytes 9 = .ok (.getfield 39, 3) := by decide +kernel
theorem dX7_liveBytes_12 : decode cX7_liveBytes 12 = .ok (.if_icmp .ge 20, 3) := by decide +kernel
theorem dX7_liveBytes_15 : decode cX7_liveBytes 15 = .ok (.iload_n 1, 1) := by decide +kernel
theorem dX7_liveBytes_16 : decode cX7_liveBytes 16 = .ok (.aload_n 0, 1) := by decide +kernel
theorem dX7_liveBytes_17 : decode cX7_liveBytes 17 = .ok (.iload_n 2, 1) := by decide +kernel
theorem dX7_liveBytes_18 : decode cX7_liveBytes 18 = .ok (.invokevirtual 122, 3) := by decide +kernel
theorem dX7_liveBytes_21 : decode cX7_liveBytes 21 = .ok (.invokevirtual 176, 3) := by decide +kernel
theorem dX7_liveBytes_24 : decode cX7_liveBytes 24 = .ok (.iadd, 1) := by decide +kernel
theorem dX7_liveBytes_25 : decode cX7_liveBytes 25 = .ok (.istore_n 1, 1) := by decide +kernel
theorem dX7_liveBytes_26 : decode cX7_liveBytes 26 = .ok (.iinc 2 1, 3) := by decide +kernel
theorem dX7_liveBytes_29 : decode cX7_liveBytes 29 = .ok (.goto (-25), 3) := by decide +kernel
theorem dX7_liveBytes_32 : decode cX7_liveBytes 32 = .ok (.iload_n 1, 1) := by decide +kernel
theorem dX7_liveBytes_33 : decode cX7_liveBytes 33 = .ok (.ireturn, 1) := by decide +kernel
theorem dX7_trapPosition_0 : decode cX7_trapPosition 0 = .ok (.aload_n 0, 1) := by decide +kernel
theorem dX7_trapPosition_1 : decode cX7_trapPosition 1 = .ok (.iconst 0, 1) := by decide +kernel
theorem dX7_trapPosition_2 : decode cX7_trapPosition 2 = .ok (.invokevirtual 179, 3) := by decide +kernel
theorem dX7_trapPosition_5 : decode cX7_trapPosition 5 = .ok (.getfield 183, 3) := by decide +kernel
theorem dX7_trapPosition_8 : decode cX7_trapPosition 8 = .ok (.ireturn, 1) := by decide +kernel
theorem dX7_outputCount_0 : decode cX7_outputCount 0 = .ok (.iload_n 1, 1) := by decide +kernel
theorem dX7_outputCount_1 : decode cX7_outputCount 1 = .ok (.invokestatic 186, 3) := by decide +kernel
theorem dX7_outputCount_4 : decode cX7_outputCount 4 = .ok (.ifCond .eq 14, 3) := by decide +kernel
theorem dX7_outputCount_7 : decode cX7_outputCount 7 = .ok (.aload_n 0, 1) := by decide +kernel
theorem dX7_outputCount_8 : decode cX7_outputCount 8 = .ok (.iload_n 1, 1) := by decide +kernel
theorem dX7_outputCount_9 : decode cX7_outputCount 9 = .ok (.invokevirtual 179, 3) := by decide +kernel
theorem dX7_outputCount_12 : decode cX7_outputCount 12 = .ok (.getfield 189, 3) := by decide +kernel
theorem dX7_outputCount_15 : decode cX7_outputCount 15 = .ok (.goto 4, 3) := by decide +kernel
theorem dX7_outputCount_18 : decode cX7_outputCount 18 = .ok (.iconst (-1), 1) := by decide +kernel
theorem dX7_outputCount_19 : decode cX7_outputCount 19 = .ok (.ireturn, 1) := by decide +kernel
theorem dX7_outputAt_0 : decode cX7_outputAt 0 = .ok (.iload_n 1, 1) := by decide +kernel
theorem dX7_outputAt_1 : decode cX7_outputAt 1 = .ok (.invokestatic 186, 3) := by decide +kernel
theorem dX7_outputAt_4 : decode cX7_outputAt 4 = .ok (.ifCond .eq 15, 3) := by decide +kernel
theorem dX7_outputAt_7 : decode cX7_outputAt 7 = .ok (.aload_n 0, 1) := by decide +kernel
theorem dX7_outputAt_8 : decode cX7_outputAt 8 = .ok (.iload_n 1, 1) := by decide +kernel
theorem dX7_outputAt_9 : decode cX7_outputAt 9 = .ok (.invokevirtual 179, 3) := by decide +kernel
theorem dX7_outputAt_12 : decode cX7_outputAt 12 = .ok (.iload_n 2, 1) := by decide +kernel
theorem dX7_outputAt_13 : decode cX7_outputAt 13 = .ok (.invokevirtual 192, 3) := by decide +kernel
theorem dX7_outputAt_16 : decode cX7_outputAt 16 = .ok (.goto 4, 3) := by decide +kernel
theorem dX7_outputAt_19 : decode cX7_outputAt 19 = .ok (.iconst 0, 1) := by decide +kernel
theorem dX7_outputAt_20 : decode cX7_outputAt 20 = .ok (.ireturn, 1) := by decide +kernel
theorem dX7_checksum_0 : decode cX7_checksum 0 = .ok (.iload_n 1, 1) := by decide +kernel
theorem dX7_checksum_1 : decode cX7_checksum 1 = .ok (.invokestatic 186, 3) := by decide +kernel
theorem dX7_checksum_4 : decode cX7_checksum 4 = .ok (.ifCond .eq 14, 3) := by decide +kernel
theorem dX7_checksum_7 : decode cX7_checksum 7 = .ok (.aload_n 0, 1) := by decide +kernel
theorem dX7_checksum_8 : decode cX7_checksum 8 = .ok (.iload_n 1, 1) := by decide +kernel
theorem dX7_checksum_9 : decode cX7_checksum 9 = .ok (.invokevirtual 179, 3) := by decide +kernel
theorem dX7_checksum_12 : decode cX7_checksum 12 = .ok (.getfield 195, 3) := by decide +kernel
theorem dX7_checksum_15 : decode cX7_checksum 15 = .ok (.goto 4, 3) := by decide +kernel
theorem dX7_checksum_18 : decode cX7_checksum 18 = .ok (.iconst 0, 1) := by decide +kernel
theorem dX7_checksum_19 : decode cX7_checksum 19 = .ok (.ireturn, 1) := by decide +kernel
theorem dX7_cost_0 : decode cX7_cost 0 = .ok (.iload_n 1, 1) := by decide +kernel
theorem dX7_cost_1 : decode cX7_cost 1 = .ok (.invokestatic 186, 3) := by decide +kernel
theorem dX7_cost_4 : decode cX7_cost 4 = .ok (.ifCond .eq 14, 3) := by decide +kernel
theorem dX7_cost_7 : decode cX7_cost 7 = .ok (.aload_n 0, 1) := by decide +kernel
theorem dX7_cost_8 : decode cX7_cost 8 = .ok (.iload_n 1, 1) := by decide +kernel
theorem dX7_cost_9 : decode cX7_cost 9 = .ok (.invokevirtual 179, 3) := by decide +kernel
theorem dX7_cost_12 : decode cX7_cost 12 = .ok (.getfield 198, 3) := by decide +kernel
theorem dX7_cost_15 : decode cX7_cost 15 = .ok (.goto 4, 3) := by decide +kernel
theorem dX7_cost_18 : decode cX7_cost 18 = .ok (.iconst (-1), 1) := by decide +kernel
theorem dX7_cost_19 : decode cX7_cost 19 = .ok (.ireturn, 1) := by decide +kernel
theorem dX7_append_0 : decode cX7_append 0 = .ok (.aload_n 0, 1) := by decide +kernel
theorem dX7_append_1 : decode cX7_append 1 = .ok (.getfield 10, 3) := by decide +kernel
theorem dX7_append_4 : decode cX7_append 4 = .ok (.getfield 112, 3) := by decide +kernel
theorem dX7_append_7 : decode cX7_append 7 = .ok (.istore_n 2, 1) := by decide +kernel
theorem dX7_append_8 : decode cX7_append 8 = .ok (.iload_n 2, 1) := by decide +kernel
theorem dX7_append_9 : decode cX7_append 9 = .ok (.bipush 24, 2) := by decide +kernel
theorem dX7_append_11 : decode cX7_append 11 = .ok (.if_icmp .lt 6, 3) := by decide +kernel
theorem dX7_append_14 : decode cX7_append 14 = .ok (.bipush (-3), 2) := by decide +kernel
theorem dX7_append_16 : decode cX7_append 16 = .ok (.ireturn, 1) := by decide +kernel
theorem dX7_append_17 : decode cX7_append 17 = .ok (.aload_n 0, 1) := by decide +kernel
theorem dX7_append_18 : decode cX7_append 18 = .ok (.getfield 10, 3) := by decide +kernel
theorem dX7_append_21 : decode cX7_append 21 = .ok (.iload_n 2, 1) := by decide +kernel
theorem dX7_append_22 : decode cX7_append 22 = .ok (.aload_n 1, 1) := by decide +kernel
theorem dX7_append_23 : decode cX7_append 23 = .ok (.invokevirtual 201, 3) := by decide +kernel
theorem dX7_append_26 : decode cX7_append 26 = .ok (.aload_n 0, 1) := by decide +kernel
theorem dX7_append_27 : decode cX7_append 27 = .ok (.getfield 19, 3) := by decide +kernel
theorem dX7_append_30 : decode cX7_append 30 = .ok (.iconst 2, 1) := by decide +kernel
theorem dX7_append_31 : decode cX7_append 31 = .ok (.iload_n 2, 1) := by decide +kernel
theorem dX7_append_32 : decode cX7_append 32 = .ok (.aload_n 1, 1) := by decide +kernel
theorem dX7_append_33 : decode cX7_append 33 = .ok (.invokevirtual 51, 3) := by decide +kernel
theorem dX7_append_36 : decode cX7_append 36 = .ok (.aload_n 0, 1) := by decide +kernel
theorem dX7_append_37 : decode cX7_append 37 = .ok (.getfield 26, 3) := by decide +kernel
theorem dX7_append_40 : decode cX7_append 40 = .ok (.iconst 1, 1) := by decide +kernel
theorem dX7_append_41 : decode cX7_append 41 = .ok (.putfield 55, 3) := by decide +kernel
theorem dX7_append_44 : decode cX7_append 44 = .ok (.iload_n 2, 1) := by decide +kernel
theorem dX7_append_45 : decode cX7_append 45 = .ok (.ireturn, 1) := by decide +kernel
theorem dX7_isAccess_0 : decode cX7_isAccess 0 = .ok (.iload_n 3, 1) := by decide +kernel
theorem dX7_isAccess_1 : decode cX7_isAccess 1 = .ok (.invokestatic 205, 3) := by decide +kernel
theorem dX7_isAccess_4 : decode cX7_isAccess 4 = .ok (.ifCond .eq 20, 3) := by decide +kernel
theorem dX7_isAccess_7 : decode cX7_isAccess 7 = .ok (.aload_n 0, 1) := by decide +kernel
theorem dX7_isAccess_8 : decode cX7_isAccess 8 = .ok (.getfield 10, 3) := by decide +kernel
theorem dX7_isAccess_11 : decode cX7_isAccess 11 = .ok (.iload_n 1, 1) := by decide +kernel
theorem dX7_isAccess_12 : decode cX7_isAccess 12 = .ok (.iload_n 2, 1) := by decide +kernel
theorem dX7_isAccess_13 : decode cX7_isAccess 13 = .ok (.iload_n 3, 1) := by decide +kernel
theorem dX7_isAccess_14 : decode cX7_isAccess 14 = .ok (.invokevirtual 77, 3) := by decide +kernel
theorem dX7_isAccess_17 : decode cX7_isAccess 17 = .ok (.ifCond .eq 7, 3) := by decide +kernel
theorem dX7_isAccess_20 : decode cX7_isAccess 20 = .ok (.iconst 1, 1) := by decide +kernel
theorem dX7_isAccess_21 : decode cX7_isAccess 21 = .ok (.goto 4, 3) := by decide +kernel
theorem dX7_isAccess_24 : decode cX7_isAccess 24 = .ok (.iconst 0, 1) := by decide +kernel
theorem dX7_isAccess_25 : decode cX7_isAccess 25 = .ok (.ireturn, 1) := by decide +kernel
theorem dX7_layoutNow_0 : decode cX7_layoutNow 0 = .ok (.aload_n 0, 1) := by decide +kernel
theorem dX7_layoutNow_1 : decode cX7_layoutNow 1 = .ok (.getfield 26, 3) := by decide +kernel
theorem dX7_layoutNow_4 : decode cX7_layoutNow 4 = .ok (.aload_n 0, 1) := by decide +kernel
theorem dX7_layoutNow_5 : decode cX7_layoutNow 5 = .ok (.getfield 10, 3) := by decide +kernel
theorem dX7_layoutNow_8 : decode cX7_layoutNow 8 = .ok (.invokevirtual 163, 3) := by decide +kernel
theorem dX7_layoutNow_11 : decode cX7_layoutNow 11 = .ok (.aload_n 0, 1) := by decide +kernel
theorem dX7_layoutNow_12 : decode cX7_layoutNow 12 = .ok (.getfield 26, 3) := by decide +kernel
theorem dX7_layoutNow_15 : decode cX7_layoutNow 15 = .ok (.iload_n 1, 1) := by decide +kernel
theorem dX7_layoutNow_16 : decode cX7_layoutNow 16 = .ok (.invokevirtual 208, 3) := by decide +kernel
theorem dX7_layoutNow_19 : decode cX7_layoutNow 19 = .ok (.areturn, 1) := by decide +kernel
theorem dX7_partitionNow_0 : decode cX7_partitionNow 0 = .ok (.aload_n 0, 1) := by decide +kernel
theorem dX7_partitionNow_1 : decode cX7_partitionNow 1 = .ok (.getfield 26, 3) := by decide +kernel
theorem dX7_partitionNow_4 : decode cX7_partitionNow 4 = .ok (.aload_n 0, 1) := by decide +kernel
theorem dX7_partitionNow_5 : decode cX7_partitionNow 5 = .ok (.getfield 10, 3) := by decide +kernel
theorem dX7_partitionNow_8 : decode cX7_partitionNow 8 = .ok (.invokevirtual 163, 3) := by decide +kernel
theorem dX7_partitionNow_11 : decode cX7_partitionNow 11 = .ok (.aload_n 0, 1) := by decide +kernel
theorem dX7_partitionNow_12 : decode cX7_partitionNow 12 = .ok (.getfield 26, 3) := by decide +kernel
theorem dX7_partitionNow_15 : decode cX7_partitionNow 15 = .ok (.iload_n 1, 1) := by decide +kernel
theorem dX7_partitionNow_16 : decode cX7_partitionNow 16 = .ok (.invokevirtual 208, 3) := by decide +kernel
theorem dX7_partitionNow_19 : decode cX7_partitionNow 19 = .ok (.iload_n 2, 1) := by decide +kernel
theorem dX7_partitionNow_20 : decode cX7_partitionNow 20 = .ok (.invokevirtual 211, 3) := by decide +kernel
theorem dX7_partitionNow_23 : decode cX7_partitionNow 23 = .ok (.areturn, 1) := by decide +kernel
theorem dX7_runOf_0 : decode cX7_runOf 0 = .ok (.aload_n 0, 1) := by decide +kernel
theorem dX7_runOf_1 : decode cX7_runOf 1 = .ok (.getfield 26, 3) := by decide +kernel
theorem dX7_runOf_4 : decode cX7_runOf 4 = .ok (.aload_n 0, 1) := by decide +kernel
theorem dX7_runOf_5 : decode cX7_runOf 5 = .ok (.getfield 10, 3) := by decide +kernel
theorem dX7_runOf_8 : decode cX7_runOf 8 = .ok (.invokevirtual 163, 3) := by decide +kernel
theorem dX7_runOf_11 : decode cX7_runOf 11 = .ok (.aload_n 0, 1) := by decide +kernel
theorem dX7_runOf_12 : decode cX7_runOf 12 = .ok (.getfield 35, 3) := by decide +kernel
theorem dX7_runOf_15 : decode cX7_runOf 15 = .ok (.iload_n 1, 1) := by decide +kernel
theorem dX7_runOf_16 : decode cX7_runOf 16 = .ok (.iconst 1, 1) := by decide +kernel
theorem dX7_runOf_17 : decode cX7_runOf 17 = .ok (.if_icmp .ne 7, 3) := by decide +kernel
theorem dX7_runOf_20 : decode cX7_runOf 20 = .ok (.iconst 1, 1) := by decide +kernel
theorem dX7_runOf_21 : decode cX7_runOf 21 = .ok (.goto 4, 3) := by decide +kernel
theorem dX7_runOf_24 : decode cX7_runOf 24 = .ok (.iconst 0, 1) := by decide +kernel
theorem dX7_runOf_25 : decode cX7_runOf 25 = .ok (.invokevirtual 215, 3) := by decide +kernel
theorem dX7_runOf_28 : decode cX7_runOf 28 = .ok (.aload_n 0, 1) := by decide +kernel
theorem dX7_runOf_29 : decode cX7_runOf 29 = .ok (.getfield 35, 3) := by decide +kernel
theorem dX7_runOf_32 : decode cX7_runOf 32 = .ok (.areturn, 1) := by decide +kernel
theorem dX7_isForm_0 : decode cX7_isForm 0 = .ok (.iload_n 0, 1) := by decide +kernel
theorem dX7_isForm_1 : decode cX7_isForm 1 = .ok (.ifCond .eq 8, 3) := by decide +kernel
theorem dX7_isForm_4 : decode cX7_isForm 4 = .ok (.iload_n 0, 1) := by decide +kernel
theorem dX7_isForm_5 : decode cX7_isForm 5 = .ok (.iconst 1, 1) := by decide +kernel
theorem dX7_isForm_6 : decode cX7_isForm 6 = .ok (.if_icmp .ne 7, 3) := by decide +kernel
theorem dX7_isForm_9 : decode cX7_isForm 9 = .ok (.iconst 1, 1) := by decide +kernel
theorem dX7_isForm_10 : decode cX7_isForm 10 = .ok (.goto 4, 3) := by decide +kernel
theorem dX7_isForm_13 : decode cX7_isForm 13 = .ok (.iconst 0, 1) := by decide +kernel
theorem dX7_isForm_14 : decode cX7_isForm 14 = .ok (.ireturn, 1) := by decide +kernel
theorem dX7_isRegister_0 : decode cX7_isRegister 0 = .ok (.iload_n 0, 1) := by decide +kernel
theorem dX7_isRegister_1 : decode cX7_isRegister 1 = .ok (.ifCond .lt 13, 3) := by decide +kernel
theorem dX7_isRegister_4 : decode cX7_isRegister 4 = .ok (.iload_n 0, 1) := by decide +kernel
theorem dX7_isRegister_5 : decode cX7_isRegister 5 = .ok (.bipush 8, 2) := by decide +kernel
theorem dX7_isRegister_7 : decode cX7_isRegister 7 = .ok (.if_icmp .ge 7, 3) := by decide +kernel
theorem dX7_isRegister_10 : decode cX7_isRegister 10 = .ok (.iconst 1, 1) := by decide +kernel
theorem dX7_isRegister_11 : decode cX7_isRegister 11 = .ok (.goto 4, 3) := by decide +kernel
theorem dX7_isRegister_14 : decode cX7_isRegister 14 = .ok (.iconst 0, 1) := by decide +kernel
theorem dX7_isRegister_15 : decode cX7_isRegister 15 = .ok (.ireturn, 1) := by decide +kernel
theorem dX7_isScalarLength_0 : decode cX7_isScalarLength 0 = .ok (.iload_n 0, 1) := by decide +kernel
theorem dX7_isScalarLength_1 : decode cX7_isScalarLength 1 = .ok (.iconst 1, 1) := by decide +kernel
theorem dX7_isScalarLength_2 : decode cX7_isScalarLength 2 = .ok (.if_icmp .eq 13, 3) := by decide +kernel
theorem dX7_isScalarLength_5 : decode cX7_isScalarLength 5 = .ok (.iload_n 0, 1) := by decide +kernel
theorem dX7_isScalarLength_6 : decode cX7_isScalarLength 6 = .ok (.iconst 2, 1) := by decide +kernel
theorem dX7_isScalarLength_7 : decode cX7_isScalarLength 7 = .ok (.if_icmp .eq 8, 3) := by decide +kernel
theorem dX7_isScalarLength_10 : decode cX7_isScalarLength 10 = .ok (.iload_n 0, 1) := by decide +kernel
theorem dX7_isScalarLength_11 : decode cX7_isScalarLength 11 = .ok (.iconst 4, 1) := by decide +kernel
theorem dX7_isScalarLength_12 : decode cX7_isScalarLength 12 = .ok (.if_icmp .ne 7, 3) := by decide +kernel
theorem dX7_isScalarLength_15 : decode cX7_isScalarLength 15 = .ok (.iconst 1, 1) := by decide +kernel
theorem dX7_isScalarLength_16 : decode cX7_isScalarLength 16 = .ok (.goto 4, 3) := by decide +kernel
theorem dX7_isScalarLength_19 : decode cX7_isScalarLength 19 = .ok (.iconst 0, 1) := by decide +kernel
theorem dX7_isScalarLength_20 : decode cX7_isScalarLength 20 = .ok (.ireturn, 1) := by decide +kernel
theorem dX7_oneIf_0 : decode cX7_oneIf 0 = .ok (.iload_n 0, 1) := by decide +kernel
theorem dX7_oneIf_1 : decode cX7_oneIf 1 = .ok (.ifCond .eq 7, 3) := by decide +kernel
theorem dX7_oneIf_4 : decode cX7_oneIf 4 = .ok (.iconst 1, 1) := by decide +kernel
theorem dX7_oneIf_5 : decode cX7_oneIf 5 = .ok (.goto 4, 3) := by decide +kernel
theorem dX7_oneIf_8 : decode cX7_oneIf 8 = .ok (.iconst 0, 1) := by decide +kernel
theorem dX7_oneIf_9 : decode cX7_oneIf 9 = .ok (.ireturn, 1) := by decide +kernel
theorem dL_law_0 : decode cL_law 0 = .ok (.new 7, 3) := by decide +kernel
theorem dL_law_3 : decode cL_law 3 = .ok (.dup, 1) := by decide +kernel
theorem dL_law_4 : decode cL_law 4 = .ok (.invokespecial 9, 3) := by decide +kernel
theorem dL_law_7 : decode cL_law 7 = .ok (.astore_n 1, 1) := by decide +kernel
theorem dL_law_8 : decode cL_law 8 = .ok (.new 10, 3) := by decide +kernel
theorem dL_law_11 : decode cL_law 11 = .ok (.dup, 1) := by decide +kernel
theorem dL_law_12 : decode cL_law 12 = .ok (.invokespecial 12, 3) := by decide +kernel
theorem dL_law_15 : decode cL_law 15 = .ok (.astore_n 2, 1) := by decide +kernel
theorem dL_law_16 : decode cL_law 16 = .ok (.iconst 0, 1) := by decide +kernel
theorem dL_law_17 : decode cL_law 17 = .ok (.istore_n 3, 1) := by decide +kernel
theorem dL_law_18 : decode cL_law 18 = .ok (.iload_n 3, 1) := by decide +kernel
theorem dL_law_19 : decode cL_law 19 = .ok (.aload_n 0, 1) := by decide +kernel
theorem dL_law_20 : decode cL_law 20 = .ok (.arraylength, 1) := by decide +kernel
theorem dL_law_21 : decode cL_law 21 = .ok (.bipush 6, 2) := by decide +kernel
theorem dL_law_23 : decode cL_law 23 = .ok (.isub, 1) := by decide +kernel
theorem dL_law_24 : decode cL_law 24 = .ok (.if_icmp .gt 953, 3) := by decide +kernel
theorem dL_law_27 : decode cL_law 27 = .ok (.aload_n 0, 1) := by decide +kernel
theorem dL_law_28 : decode cL_law 28 = .ok (.iload_n 3, 1) := by decide +kernel
theorem dL_law_29 : decode cL_law 29 = .ok (.iaload, 1) := by decide +kernel
theorem dL_law_30 : decode cL_law 30 = .ok (.bipush 31, 2) := by decide +kernel
theorem dL_law_32 : decode cL_law 32 = .ok (.iand, 1) := by decide +kernel
theorem dL_law_33 : decode cL_law 33 = .ok (.tableswitch 938 0 28 #[131, 154, 207, 260, 323, 346, 379, 422, 455, 478, 501, 514, 527, 540, 563, 586, 619, 652, 685, 718, 741, 764, 797, 810, 823, 836, 859, 892, 915], 131) := by decide +kernel
theorem dL_law_164 : decode cL_law 164 = .ok (.aload_n 1, 1) := by decide +kernel
theorem dL_law_165 : decode cL_law 165 = .ok (.aload_n 0, 1) := by decide +kernel
theorem dL_law_166 : decode cL_law 166 = .ok (.iload_n 3, 1) := by decide +kernel
theorem dL_law_167 : decode cL_law 167 = .ok (.iconst 1, 1) := by decide +kernel
theorem dL_law_168 : decode cL_law 168 = .ok (.iadd, 1) := by decide +kernel
theorem dL_law_169 : decode cL_law 169 = .ok (.iaload, 1) := by decide +kernel
theorem dL_law_170 : decode cL_law 170 = .ok (.invokevirtual 13, 3) := by decide +kernel
theorem dL_law_173 : decode cL_law 173 = .ok (.aload_n 2, 1) := by decide +kernel
theorem dL_law_174 : decode cL_law 174 = .ok (.aload_n 0, 1) := by decide +kernel
theorem dL_law_175 : decode cL_law 175 = .ok (.iload_n 3, 1) := by decide +kernel
theorem dL_law_176 : decode cL_law 176 = .ok (.iconst 1, 1) := by decide +kernel
theorem dL_law_177 : decode cL_law 177 = .ok (.iadd, 1) := by decide +kernel
theorem dL_law_178 : decode cL_law 178 = .ok (.iaload, 1) := by decide +kernel
theorem dL_law_179 : decode cL_law 179 = .ok (.invokevirtual 17, 3) := by decide +kernel
theorem dL_law_182 : decode cL_law 182 = .ok (.if_icmp .eq 789, 3) := by decide +kernel
theorem dL_law_185 : decode cL_law 185 = .ok (.iconst 0, 1) := by decide +kernel
theorem dL_law_186 : decode cL_law 186 = .ok (.ireturn, 1) := by decide +kernel
theorem dL_law_187 : decode cL_law 187 = .ok (.aload_n 1, 1) := by decide +kernel
theorem dL_law_188 : decode cL_law 188 = .ok (.aload_n 0, 1) := by decide +kernel
theorem dL_law_189 : decode cL_law 189 = .ok (.iload_n 3, 1) := by decide +kernel
theorem dL_law_190 : decode cL_law 190 = .ok (.iconst 1, 1) := by decide +kernel
theorem dL_law_191 : decode cL_law 191 = .ok (.iadd, 1) := by decide +kernel
theorem dL_law_192 : decode cL_law 192 = .ok (.iaload, 1) := by decide +kernel
theorem dL_law_193 : decode cL_law 193 = .ok (.aload_n 0, 1) := by decide +kernel
theorem dL_law_194 : decode cL_law 194 = .ok (.iload_n 3, 1) := by decide +kernel
theorem dL_law_195 : decode cL_law 195 = .ok (.iconst 2, 1) := by decide +kernel
theorem dL_law_196 : decode cL_law 196 = .ok (.iadd, 1) := by decide +kernel
theorem dL_law_197 : decode cL_law 197 = .ok (.iaload, 1) := by decide +kernel
theorem dL_law_198 : decode cL_law 198 = .ok (.aload_n 0, 1) := by decide +kernel
theorem dL_law_199 : decode cL_law 199 = .ok (.iload_n 3, 1) := by decide +kernel
theorem dL_law_200 : decode cL_law 200 = .ok (.iconst 3, 1) := by decide +kernel
theorem dL_law_201 : decode cL_law 201 = .ok (.iadd, 1) := by decide +kernel
theorem dL_law_202 : decode cL_law 202 = .ok (.iaload, 1) := by decide +kernel
theorem dL_law_203 : decode cL_law 203 = .ok (.aload_n 0, 1) := by decide +kernel
theorem dL_law_204 : decode cL_law 204 = .ok (.iload_n 3, 1) := by decide +kernel
theorem dL_law_205 : decode cL_law 205 = .ok (.iconst 4, 1) := by decide +kernel
theorem dL_law_206 : decode cL_law 206 = .ok (.iadd, 1) := by decide +kernel
theorem dL_law_207 : decode cL_law 207 = .ok (.iaload, 1) := by decide +kernel
theorem dL_law_208 : decode cL_law 208 = .ok (.invokevirtual 18, 3) := by decide +kernel
theorem dL_law_211 : decode cL_law 211 = .ok (.aload_n 2, 1) := by decide +kernel
theorem dL_law_212 : decode cL_law 212 = .ok (.aload_n 0, 1) := by decide +kernel
theorem dL_law_213 : decode cL_law 213 = .ok (.iload_n 3, 1) := by decide +kernel
theorem dL_law_214 : decode cL_law 214 = .ok (.iconst 1, 1) := by decide +kernel
theorem dL_law_215 : decode cL_law 215 = .ok (.iadd, 1) := by decide +kernel
theorem dL_law_216 : decode cL_law 216 = .ok (.iaload, 1) := by decide +kernel
theorem dL_law_217 : decode cL_law 217 = .ok (.aload_n 0, 1) := by decide +kernel
theorem dL_law_218 : decode cL_law 218 = .ok (.iload_n 3, 1) := by decide +kernel
theorem dL_law_219 : decode cL_law 219 = .ok (.iconst 2, 1) := by decide +kernel
theorem dL_law_220 : decode cL_law 220 = .ok (.iadd, 1) := by decide +kernel
theorem dL_law_221 : decode cL_law 221 = .ok (.iaload, 1) := by decide +kernel
theorem dL_law_222 : decode cL_law 222 = .ok (.aload_n 0, 1) := by decide +kernel
theorem dL_law_223 : decode cL_law 223 = .ok (.iload_n 3, 1) := by decide +kernel
theorem dL_law_224 : decode cL_law 224 = .ok (.iconst 3, 1) := by decide +kernel
theorem dL_law_225 : decode cL_law 225 = .ok (.iadd, 1) := by decide +kernel
theorem dL_law_226 : decode cL_law 226 = .ok (.iaload, 1) := by decide +kernel
theorem dL_law_227 : decode cL_law 227 = .ok (.aload_n 0, 1) := by decide +kernel
theorem dL_law_228 : decode cL_law 228 = .ok (.iload_n 3, 1) := by decide +kernel
theorem dL_law_229 : decode cL_law 229 = .ok (.iconst 4, 1) := by decide +kernel
theorem dL_law_230 : decode cL_law 230 = .ok (.iadd, 1) := by decide +kernel
theorem dL_law_231 : decode cL_law 231 = .ok (.iaload, 1) := by decide +kernel
theorem dL_law_232 : decode cL_law 232 = .ok (.invokevirtual 22, 3) := by decide +kernel
theorem dL_law_235 : decode cL_law 235 = .ok (.if_icmp .eq 736, 3) := by decide +kernel
theorem dL_law_238 : decode cL_law 238 = .ok (.iconst 0, 1) := by decide +kernel
theorem dL_law_239 : decode cL_law 239 = .ok (.ireturn, 1) := by decide +kernel
theorem dL_law_240 : decode cL_law 240 = .ok (.aload_n 1, 1) := by decide +kernel
theorem dL_law_241 : decode cL_law 241 = .ok (.aload_n 0, 1) := by decide +kernel
theorem dL_law_242 : decode cL_law 242 = .ok (.iload_n 3, 1) := by decide +kernel
theorem dL_law_243 : decode cL_law 243 = .ok (.iconst 1, 1) := by decide +kernel
theorem dL_law_244 : decode cL_law 244 = .ok (.iadd, 1) := by decide +kernel
theorem dL_law_245 : decode cL_law 245 = .ok (.iaload, 1) := by decide +kernel
theorem dL_law_246 : decode cL_law 246 = .ok (.aload_n 0, 1) := by decide +kernel
theorem dL_law_247 : decode cL_law 247 = .ok (.iload_n 3, 1) := by decide +kernel
theorem dL_law_248 : decode cL_law 248 = .ok (.iconst 2, 1) := by decide +kernel
theorem dL_law_249 : decode cL_law 249 = .ok (.iadd, 1) := by decide +kernel
theorem dL_law_250 : decode cL_law 250 = .ok (.iaload, 1) := by decide +kernel
theorem dL_law_251 : decode cL_law 251 = .ok (.aload_n 0, 1) := by decide +kernel
theorem dL_law_252 : decode cL_law 252 = .ok (.iload_n 3, 1) := by decide +kernel
theorem dL_law_253 : decode cL_law 253 = .ok (.iconst 3, 1) := by decide +kernel
theorem dL_law_254 : decode cL_law 254 = .ok (.iadd, 1) := by decide +kernel
theorem dL_law_255 : decode cL_law 255 = .ok (.iaload, 1) := by decide +kernel
theorem dL_law_256 : decode cL_law 256 = .ok (.aload_n 0, 1) := by decide +kernel
theorem dL_law_257 : decode cL_law 257 = .ok (.iload_n 3, 1) := by decide +kernel
theorem dL_law_258 : decode cL_law 258 = .ok (.iconst 4, 1) := by decide +kernel
theorem dL_law_259 : decode cL_law 259 = .ok (.iadd, 1) := by decide +kernel
theorem dL_law_260 : decode cL_law 260 = .ok (.iaload, 1) := by decide +kernel
theorem dL_law_261 : decode cL_law 261 = .ok (.invokevirtual 23, 3) := by decide +kernel
theorem dL_law_264 : decode cL_law 264 = .ok (.aload_n 2, 1) := by decide +kernel
theorem dL_law_265 : decode cL_law 265 = .ok (.aload_n 0, 1) := by decide +kernel
theorem dL_law_266 : decode cL_law 266 = .ok (.iload_n 3, 1) := by decide +kernel
theorem dL_law_267 : decode cL_law 267 = .ok (.iconst 1, 1) := by decide +kernel
theorem dL_law_268 : decode cL_law 268 = .ok (.iadd, 1) := by decide +kernel
theorem dL_law_269 : decode cL_law 269 = .ok (.iaload, 1) := by decide +kernel
theorem dL_law_270 : decode cL_law 270 = .ok (.aload_n 0, 1) := by decide +kernel
theorem dL_law_271 : decode cL_law 271 = .ok (.iload_n 3, 1) := by decide +kernel
theorem dL_law_272 : decode cL_law 272 = .ok (.iconst 2, 1) := by decide +kernel
theorem dL_law_273 : decode cL_law 273 = .ok (.iadd, 1) := by decide +kernel
theorem dL_law_274 : decode cL_law 274 = .ok (.iaload, 1) := by decide +kernel
theorem dL_law_275 : decode cL_law 275 = .ok (.aload_n 0, 1) := by decide +kernel
theorem dL_law_276 : decode cL_law 276 = .ok (.iload_n 3, 1) := by decide +kernel
theorem dL_law_277 : decode cL_law 277 = .ok (.iconst 3, 1) := by decide +kernel
theorem dL_law_278 : decode cL_law 278 = .ok (.iadd, 1) := by decide +kernel
theorem dL_law_279 : decode cL_law 279 = .ok (.iaload, 1) := by decide +kernel
theorem dL_law_280 : decode cL_law 280 = .ok (.aload_n 0, 1) := by decide +kernel
theorem dL_law_281 : decode cL_law 281 = .ok (.iload_n 3, 1) := by decide +kernel
theorem dL_law_282 : decode cL_law 282 = .ok (.iconst 4, 1) := by decide +kernel
theorem dL_law_283 : decode cL_law 283 = .ok (.iadd, 1) := by decide +kernel
theorem dL_law_284 : decode cL_law 284 = .ok (.iaload, 1) := by decide +kernel
theorem dL_law_285 : decode cL_law 285 = .ok (.invokevirtual 26, 3) := by decide +kernel
theorem dL_law_288 : decode cL_law 288 = .ok (.if_icmp .eq 683, 3) := by decide +kernel
theorem dL_law_291 : decode cL_law 291 = .ok (.iconst 0, 1) := by decide +kernel
theorem dL_law_292 : decode cL_law 292 = .ok (.ireturn, 1) := by decide +kernel
theorem dL_law_293 : decode cL_law 293 = .ok (.aload_n 1, 1) := by decide +kernel
theorem dL_law_294 : decode cL_law 294 = .ok (.aload_n 0, 1) := by decide +kernel
theorem dL_law_295 : decode cL_law 295 = .ok (.iload_n 3, 1) := by decide +kernel
theorem dL_law_296 : decode cL_law 296 = .ok (.iconst 1, 1) := by decide +kernel
theorem dL_law_297 : decode cL_law 297 = .ok (.iadd, 1) := by decide +kernel
theorem dL_law_298 : decode cL_law 298 = .ok (.iaload, 1) := by decide +kernel
theorem dL_law_299 : decode cL_law 299 = .ok (.aload_n 0, 1) := by decide +kernel
theorem dL_law_300 : decode cL_law 300 = .ok (.iload_n 3, 1) := by decide +kernel
theorem dL_law_301 : decode cL_law 301 = .ok (.iconst 2, 1) := by decide +kernel
theorem dL_law_302 : decode cL_law 302 = .ok (.iadd, 1) := by decide +kernel
theorem dL_law_303 : decode cL_law 303 = .ok (.iaload, 1) := by decide +kernel
theorem dL_law_304 : decode cL_law 304 = .ok (.aload_n 0, 1) := by decide +kernel
theorem dL_law_305 : decode cL_law 305 = .ok (.iload_n 3, 1) := by decide +kernel
theorem dL_law_306 : decode cL_law 306 = .ok (.iconst 3, 1) := by decide +kernel
theorem dL_law_307 : decode cL_law 307 = .ok (.iadd, 1) := by decide +kernel
theorem dL_law_308 : decode cL_law 308 = .ok (.iaload, 1) := by decide +kernel
theorem dL_law_309 : decode cL_law 309 = .ok (.aload_n 0, 1) := by decide +kernel
theorem dL_law_310 : decode cL_law 310 = .ok (.iload_n 3, 1) := by decide +kernel
theorem dL_law_311 : decode cL_law 311 = .ok (.iconst 4, 1) := by decide +kernel
theorem dL_law_312 : decode cL_law 312 = .ok (.iadd, 1) := by decide +kernel
theorem dL_law_313 : decode cL_law 313 = .ok (.iaload, 1) := by decide +kernel
theorem dL_law_314 : decode cL_law 314 = .ok (.aload_n 0, 1) := by decide +kernel
theorem dL_law_315 : decode cL_law 315 = .ok (.iload_n 3, 1) := by decide +kernel
theorem dL_law_316 : decode cL_law 316 = .ok (.iconst 5, 1) := by decide +kernel
theorem dL_law_317 : decode cL_law 317 = .ok (.iadd, 1) := by decide +kernel
theorem dL_law_318 : decode cL_law 318 = .ok (.iaload, 1) := by decide +kernel
theorem dL_law_319 : decode cL_law 319 = .ok (.invokevirtual 27, 3) := by decide +kernel
theorem dL_law_322 : decode cL_law 322 = .ok (.aload_n 2, 1) := by decide +kernel
theorem dL_law_323 : decode cL_law 323 = .ok (.aload_n 0, 1) := by decide +kernel
theorem dL_law_324 : decode cL_law 324 = .ok (.iload_n 3, 1) := by decide +kernel
theorem dL_law_325 : decode cL_law 325 = .ok (.iconst 1, 1) := by decide +kernel
theorem dL_law_326 : decode cL_law 326 = .ok (.iadd, 1) := by decide +kernel
theorem dL_law_327 : decode cL_law 327 = .ok (.iaload, 1) := by decide +kernel
theorem dL_law_328 : decode cL_law 328 = .ok (.aload_n 0, 1) := by decide +kernel
theorem dL_law_329 : decode cL_law 329 = .ok (.iload_n 3, 1) := by decide +kernel
theorem dL_law_330 : decode cL_law 330 = .ok (.iconst 2, 1) := by decide +kernel
theorem dL_law_331 : decode cL_law 331 = .ok (.iadd, 1) := by decide +kernel
theorem dL_law_332 : decode cL_law 332 = .ok (.iaload, 1) := by decide +kernel
theorem dL_law_333 : decode cL_law 333 = .ok (.aload_n 0, 1) := by decide +kernel
theorem dL_law_334 : decode cL_law 334 = .ok (.iload_n 3, 1) := by decide +kernel
theorem dL_law_335 : decode cL_law 335 = .ok (.iconst 3, 1) := by decide +kernel
theorem dL_law_336 : decode cL_law 336 = .ok (.iadd, 1) := by decide +kernel
theorem dL_law_337 : decode cL_law 337 = .ok (.iaload, 1) := by decide +kernel
theorem dL_law_338 : decode cL_law 338 = .ok (.aload_n 0, 1) := by decide +kernel
theorem dL_law_339 : decode cL_law 339 = .ok (.iload_n 3, 1) := by decide +kernel
theorem dL_law_340 : decode cL_law 340 = .ok (.iconst 4, 1) := by decide +kernel
theorem dL_law_341 : decode cL_law 341 = .ok (.iadd, 1) := by decide +kernel
theorem dL_law_342 : decode cL_law 342 = .ok (.iaload, 1) := by decide +kernel
theorem dL_law_343 : decode cL_law 343 = .ok (.aload_n 0, 1) := by decide +kernel
theorem dL_law_344 : decode cL_law 344 = .ok (.iload_n 3, 1) := by decide +kernel
theorem dL_law_345 : decode cL_law 345 = .ok (.iconst 5, 1) := by decide +kernel
theorem dL_law_346 : decode cL_law 346 = .ok (.iadd, 1) := by decide +kernel
theorem dL_law_347 : decode cL_law 347 = .ok (.iaload, 1) := by decide +kernel
theorem dL_law_348 : decode cL_law 348 = .ok (.invokevirtual 31, 3) := by decide +kernel
theorem dL_law_351 : decode cL_law 351 = .ok (.if_icmp .eq 620, 3) := by decide +kernel
theorem dL_law_354 : decode cL_law 354 = .ok (.iconst 0, 1) := by decide +kernel
theorem dL_law_355 : decode cL_law 355 = .ok (.ireturn, 1) := by decide +kernel
theorem dL_law_356 : decode cL_law 356 = .ok (.aload_n 1, 1) := by decide +kernel
theorem dL_law_357 : decode cL_law 357 = .ok (.aload_n 0, 1) := by decide +kernel
theorem dL_law_358 : decode cL_law 358 = .ok (.iload_n 3, 1) := by decide +kernel
theorem dL_law_359 : decode cL_law 359 = .ok (.iconst 1, 1) := by decide +kernel
theorem dL_law_360 : decode cL_law 360 = .ok (.iadd, 1) := by decide +kernel
theorem dL_law_361 : decode cL_law 361 = .ok (.iaload, 1) := by decide +kernel
theorem dL_law_362 : decode cL_law 362 = .ok (.invokevirtual 32, 3) := by decide +kernel
theorem dL_law_365 : decode cL_law 365 = .ok (.aload_n 2, 1) := by decide +kernel
theorem dL_law_366 : decode cL_law 366 = .ok (.aload_n 0, 1) := by decide +kernel
theorem dL_law_367 : decode cL_law 367 = .ok (.iload_n 3, 1) := by decide +kernel
theorem dL_law_368 : decode cL_law 368 = .ok (.iconst 1, 1) := by decide +kernel
theorem dL_law_369 : decode cL_law 369 = .ok (.iadd, 1) := by decide +kernel
theorem dL_law_370 : decode cL_law 370 = .ok (.iaload, 1) := by decide +kernel
theorem dL_law_371 : decode cL_law 371 = .ok (.invokevirtual 35, 3) := by decide +kernel
theorem dL_law_374 : decode cL_law 374 = .ok (.if_icmp .eq 597, 3) := by decide +kernel
theorem dL_law_377 : decode cL_law 377 = .ok (.iconst 0, 1) := by decide +kernel
theorem dL_law_378 : decode cL_law 378 = .ok (.ireturn, 1) := by decide +kernel
theorem dL_law_379 : decode cL_law 379 = .ok (.aload_n 1, 1) := by decide +kernel
theorem dL_law_380 : decode cL_law 380 = .ok (.aload_n 0, 1) := by decide +kernel
theorem dL_law_381 : decode cL_law 381 = .ok (.iload_n 3, 1) := by decide +kernel
theorem dL_law_382 : decode cL_law 382 = .ok (.iconst 1, 1) := by decide +kernel
theorem dL_law_383 : decode cL_law 383 = .ok (.iadd, 1) := by decide +kernel
theorem dL_law_384 : decode cL_law 384 = .ok (.iaload, 1) := by decide +kernel
theorem dL_law_385 : decode cL_law 385 = .ok (.aload_n 0, 1) := by decide +kernel
theorem dL_law_386 : decode cL_law 386 = .ok (.iload_n 3, 1) := by decide +kernel
theorem dL_law_387 : decode cL_law 387 = .ok (.iconst 2, 1) := by decide +kernel
theorem dL_law_388 : decode cL_law 388 = .ok (.iadd, 1) := by decide +kernel
theorem dL_law_389 : decode cL_law 389 = .ok (.iaload, 1) := by decide +kernel
theorem dL_law_390 : decode cL_law 390 = .ok (.invokevirtual 36, 3) := by decide +kernel
theorem dL_law_393 : decode cL_law 393 = .ok (.aload_n 2, 1) := by decide +kernel
theorem dL_law_394 : decode cL_law 394 = .ok (.aload_n 0, 1) := by decide +kernel
theorem dL_law_395 : decode cL_law 395 = .ok (.iload_n 3, 1) := by decide +kernel
theorem dL_law_396 : decode cL_law 396 = .ok (.iconst 1, 1) := by decide +kernel
theorem dL_law_397 : decode cL_law 397 = .ok (.iadd, 1) := by decide +kernel
theorem dL_law_398 : decode cL_law 398 = .ok (.iaload, 1) := by decide +kernel
theorem dL_law_399 : decode cL_law 399 = .ok (.aload_n 0, 1) := by decide +kernel
theorem dL_law_400 : decode cL_law 400 = .ok (.iload_n 3, 1) := by decide +kernel
theorem dL_law_401 : decode cL_law 401 = .ok (.iconst 2, 1) := by decide +kernel
theorem dL_law_402 : decode cL_law 402 = .ok (.iadd, 1) := by decide +kernel
theorem dL_law_403 : decode cL_law 403 = .ok (.iaload, 1) := by decide +kernel
theorem dL_law_404 : decode cL_law 404 = .ok (.invokevirtual 40, 3) := by decide +kernel
theorem dL_law_407 : decode cL_law 407 = .ok (.if_icmp .eq 564, 3) := by decide +kernel
theorem dL_law_410 : decode cL_law 410 = .ok (.iconst 0, 1) := by decide +kernel
theorem dL_law_411 : decode cL_law 411 = .ok (.ireturn, 1) := by decide +kernel
theorem dL_law_412 : decode cL_law 412 = .ok (.aload_n 1, 1) := by decide +kernel
theorem dL_law_413 : decode cL_law 413 = .ok (.aload_n 0, 1) := by decide +kernel
theorem dL_law_414 : decode cL_law 414 = .ok (.iload_n 3, 1) := by decide +kernel
theorem dL_law_415 : decode cL_law 415 = .ok (.iconst 1, 1) := by decide +kernel
theorem dL_law_416 : decode cL_law 416 = .ok (.iadd, 1) := by decide +kernel
theorem dL_law_417 : decode cL_law 417 = .ok (.iaload, 1) := by decide +kernel
theorem dL_law_418 : decode cL_law 418 = .ok (.aload_n 0, 1) := by decide +kernel
theorem dL_law_419 : decode cL_law 419 = .ok (.iload_n 3, 1) := by decide +kernel
theorem dL_law_420 : decode cL_law 420 = .ok (.iconst 2, 1) := by decide +kernel
theorem dL_law_421 : decode cL_law 421 = .ok (.iadd, 1) := by decide +kernel
theorem dL_law_422 : decode cL_law 422 = .ok (.iaload, 1) := by decide +kernel
theorem dL_law_423 : decode cL_law 423 = .ok (.aload_n 0, 1) := by decide +kernel
theorem dL_law_424 : decode cL_law 424 = .ok (.iload_n 3, 1) := by decide +kernel
theorem dL_law_425 : decode cL_law 425 = .ok (.iconst 3, 1) := by decide +kernel
theorem dL_law_426 : decode cL_law 426 = .ok (.iadd, 1) := by decide +kernel
theorem dL_law_427 : decode cL_law 427 = .ok (.iaload, 1) := by decide +kernel
theorem dL_law_428 : decode cL_law 428 = .ok (.invokevirtual 41, 3) := by decide +kernel
theorem dL_law_431 : decode cL_law 431 = .ok (.aload_n 2, 1) := by decide +kernel
theorem dL_law_432 : decode cL_law 432 = .ok (.aload_n 0, 1) := by decide +kernel
theorem dL_law_433 : decode cL_law 433 = .ok (.iload_n 3, 1) := by decide +kernel
theorem dL_law_434 : decode cL_law 434 = .ok (.iconst 1, 1) := by decide +kernel
theorem dL_law_435 : decode cL_law 435 = .ok (.iadd, 1) := by decide +kernel
theorem dL_law_436 : decode cL_law 436 = .ok (.iaload, 1) := by decide +kernel
theorem dL_law_437 : decode cL_law 437 = .ok (.aload_n 0, 1) := by decide +kernel
theorem dL_law_438 : decode cL_law 438 = .ok (.iload_n 3, 1) := by decide +kernel
theorem dL_law_439 : decode cL_law 439 = .ok (.iconst 2, 1) := by decide +kernel
theorem dL_law_440 : decode cL_law 440 = .ok (.iadd, 1) := by decide +kernel
theorem dL_law_441 : decode cL_law 441 = .ok (.iaload, 1) := by decide +kernel
theorem dL_law_442 : decode cL_law 442 = .ok (.aload_n 0, 1) := by decide +kernel
theorem dL_law_443 : decode cL_law 443 = .ok (.iload_n 3, 1) := by decide +kernel
theorem dL_law_444 : decode cL_law 444 = .ok (.iconst 3, 1) := by decide +kernel
theorem dL_law_445 : decode cL_law 445 = .ok (.iadd, 1) := by decide +kernel
theorem dL_law_446 : decode cL_law 446 = .ok (.iaload, 1) := by decide +kernel
theorem dL_law_447 : decode cL_law 447 = .ok (.invokevirtual 45, 3) := by decide +kernel
theorem dL_law_450 : decode cL_law 450 = .ok (.if_icmp .eq 521, 3) := by decide +kernel
theorem dL_law_453 : decode cL_law 453 = .ok (.iconst 0, 1) := by decide +kernel
theorem dL_law_454 : decode cL_law 454 = .ok (.ireturn, 1) := by decide +kernel
theorem dL_law_455 : decode cL_law 455 = .ok (.aload_n 1, 1) := by decide +kernel
theorem dL_law_456 : decode cL_law 456 = .ok (.aload_n 0, 1) := by decide +kernel
theorem dL_law_457 : decode cL_law 457 = .ok (.iload_n 3, 1) := by decide +kernel
theorem dL_law_458 : decode cL_law 458 = .ok (.iconst 1, 1) := by decide +kernel
theorem dL_law_459 : decode cL_law 459 = .ok (.iadd, 1) := by decide +kernel
theorem dL_law_460 : decode cL_law 460 = .ok (.iaload, 1) := by decide +kernel
theorem dL_law_461 : decode cL_law 461 = .ok (.aload_n 0, 1) := by decide +kernel
theorem dL_law_462 : decode cL_law 462 = .ok (.iload_n 3, 1) := by decide +kernel
theorem dL_law_463 : decode cL_law 463 = .ok (.iconst 2, 1) := by decide +kernel
theorem dL_law_464 : decode cL_law 464 = .ok (.iadd, 1) := by decide +kernel
theorem dL_law_465 : decode cL_law 465 = .ok (.iaload, 1) := by decide +kernel
theorem dL_law_466 : decode cL_law 466 = .ok (.invokevirtual 46, 3) := by decide +kernel
theorem dL_law_469 : decode cL_law 469 = .ok (.aload_n 2, 1) := by decide +kernel
theorem dL_law_470 : decode cL_law 470 = .ok (.aload_n 0, 1) := by decide +kernel
theorem dL_law_471 : decode cL_law 471 = .ok (.iload_n 3, 1) := by decide +kernel
theorem dL_law_472 : decode cL_law 472 = .ok (.iconst 1, 1) := by decide +kernel
theorem dL_law_473 : decode cL_law 473 = .ok (.iadd, 1) := by decide +kernel
theorem dL_law_474 : decode cL_law 474 = .ok (.iaload, 1) := by decide +kernel
theorem dL_law_475 : decode cL_law 475 = .ok (.aload_n 0, 1) := by decide +kernel
theorem dL_law_476 : decode cL_law 476 = .ok (.iload_n 3, 1) := by decide +kernel
theorem dL_law_477 : decode cL_law 477 = .ok (.iconst 2, 1) := by decide +kernel
theorem dL_law_478 : decode cL_law 478 = .ok (.iadd, 1) := by decide +kernel
theorem dL_law_479 : decode cL_law 479 = .ok (.iaload, 1) := by decide +kernel
theorem dL_law_480 : decode cL_law 480 = .ok (.invokevirtual 49, 3) := by decide +kernel
theorem dL_law_483 : decode cL_law 483 = .ok (.if_icmp .eq 488, 3) := by decide +kernel
theorem dL_law_486 : decode cL_law 486 = .ok (.iconst 0, 1) := by decide +kernel
theorem dL_law_487 : decode cL_law 487 = .ok (.ireturn, 1) := by decide +kernel
theorem dL_law_488 : decode cL_law 488 = .ok (.aload_n 1, 1) := by decide +kernel
theorem dL_law_489 : decode cL_law 489 = .ok (.aload_n 0, 1) := by decide +kernel
theorem dL_law_490 : decode cL_law 490 = .ok (.iload_n 3, 1) := by decide +kernel
theorem dL_law_491 : decode cL_law 491 = .ok (.iconst 1, 1) := by decide +kernel
theorem dL_law_492 : decode cL_law 492 = .ok (.iadd, 1) := by decide +kernel
theorem dL_law_493 : decode cL_law 493 = .ok (.iaload, 1) := by decide +kernel
theorem dL_law_494 : decode cL_law 494 = .ok (.invokevirtual 50, 3) := by decide +kernel
theorem dL_law_497 : decode cL_law 497 = .ok (.aload_n 2, 1) := by decide +kernel
theorem dL_law_498 : decode cL_law 498 = .ok (.aload_n 0, 1) := by decide +kernel
theorem dL_law_499 : decode cL_law 499 = .ok (.iload_n 3, 1) := by decide +kernel
theorem dL_law_500 : decode cL_law 500 = .ok (.iconst 1, 1) := by decide +kernel
theorem dL_law_501 : decode cL_law 501 = .ok (.iadd, 1) := by decide +kernel
theorem dL_law_502 : decode cL_law 502 = .ok (.iaload, 1) := by decide +kernel
theorem dL_law_503 : decode cL_law 503 = .ok (.invokevirtual 53, 3) := by decide +kernel
theorem dL_law_506 : decode cL_law 506 = .ok (.if_icmp .eq 465, 3) := by decide +kernel
theorem dL_law_509 : decode cL_law 509 = .ok (.iconst 0, 1) := by decide +kernel
theorem dL_law_510 : decode cL_law 510 = .ok (.ireturn, 1) := by decide +kernel
theorem dL_law_511 : decode cL_law 511 = .ok (.aload_n 1, 1) := by decide +kernel
theorem dL_law_512 : decode cL_law 512 = .ok (.aload_n 0, 1) := by decide +kernel
theorem dL_law_513 : decode cL_law 513 = .ok (.iload_n 3, 1) := by decide +kernel
theorem dL_law_514 : decode cL_law 514 = .ok (.iconst 1, 1) := by decide +kernel
theorem dL_law_515 : decode cL_law 515 = .ok (.iadd, 1) := by decide +kernel
theorem dL_law_516 : decode cL_law 516 = .ok (.iaload, 1) := by decide +kernel
theorem dL_law_517 : decode cL_law 517 = .ok (.invokevirtual 54, 3) := by decide +kernel
theorem dL_law_520 : decode cL_law 520 = .ok (.aload_n 2, 1) := by decide +kernel
theorem dL_law_521 : decode cL_law 521 = .ok (.aload_n 0, 1) := by decide +kernel
theorem dL_law_522 : decode cL_law 522 = .ok (.iload_n 3, 1) := by decide +kernel
theorem dL_law_523 : decode cL_law 523 = .ok (.iconst 1, 1) := by decide +kernel
theorem dL_law_524 : decode cL_law 524 = .ok (.iadd, 1) := by decide +kernel
theorem dL_law_525 : decode cL_law 525 = .ok (.iaload, 1) := by decide +kernel
theorem dL_law_526 : decode cL_law 526 = .ok (.invokevirtual 57, 3) := by decide +kernel
theorem dL_law_529 : decode cL_law 529 = .ok (.if_icmp .eq 442, 3) := by decide +kernel
theorem dL_law_532 : decode cL_law 532 = .ok (.iconst 0, 1) := by decide +kernel
theorem dL_law_533 : decode cL_law 533 = .ok (.ireturn, 1) := by decide +kernel
theorem dL_law_534 : decode cL_law 534 = .ok (.aload_n 1, 1) := by decide +kernel
theorem dL_law_535 : decode cL_law 535 = .ok (.invokevirtual 58, 3) := by decide +kernel
theorem dL_law_538 : decode cL_law 538 = .ok (.aload_n 2, 1) := by decide +kernel
theorem dL_law_539 : decode cL_law 539 = .ok (.invokevirtual 62, 3) := by decide +kernel
theorem dL_law_542 : decode cL_law 542 = .ok (.if_icmp .eq 429, 3) := by decide +kernel
theorem dL_law_545 : decode cL_law 545 = .ok (.iconst 0, 1) := by decide +kernel
theorem dL_law_546 : decode cL_law 546 = .ok (.ireturn, 1) := by decide +kernel
theorem dL_law_547 : decode cL_law 547 = .ok (.aload_n 1, 1) := by decide +kernel
theorem dL_law_548 : decode cL_law 548 = .ok (.invokevirtual 63, 3) := by decide +kernel
theorem dL_law_551 : decode cL_law 551 = .ok (.aload_n 2, 1) := by decide +kernel
theorem dL_law_552 : decode cL_law 552 = .ok (.invokevirtual 66, 3) := by decide +kernel
theorem dL_law_555 : decode cL_law 555 = .ok (.if_icmp .eq 416, 3) := by decide +kernel
theorem dL_law_558 : decode cL_law 558 = .ok (.iconst 0, 1) := by decide +kernel
theorem dL_law_559 : decode cL_law 559 = .ok (.ireturn, 1) := by decide +kernel
theorem dL_law_560 : decode cL_law 560 = .ok (.aload_n 1, 1) := by decide +kernel
theorem dL_law_561 : decode cL_law 561 = .ok (.invokevirtual 67, 3) := by decide +kernel
theorem dL_law_564 : decode cL_law 564 = .ok (.aload_n 2, 1) := by decide +kernel
theorem dL_law_565 : decode cL_law 565 = .ok (.invokevirtual 70, 3) := by decide +kernel
theorem dL_law_568 : decode cL_law 568 = .ok (.if_icmp .eq 403, 3) := by decide +kernel
theorem dL_law_571 : decode cL_law 571 = .ok (.iconst 0, 1) := by decide +kernel
theorem dL_law_572 : decode cL_law 572 = .ok (.ireturn, 1) := by decide +kernel
theorem dL_law_573 : decode cL_law 573 = .ok (.aload_n 1, 1) := by decide +kernel
theorem dL_law_574 : decode cL_law 574 = .ok (.aload_n 0, 1) := by decide +kernel
theorem dL_law_575 : decode cL_law 575 = .ok (.iload_n 3, 1) := by decide +kernel
theorem dL_law_576 : decode cL_law 576 = .ok (.iconst 1, 1) := by decide +kernel
theorem dL_law_577 : decode cL_law 577 = .ok (.iadd, 1) := by decide +kernel
theorem dL_law_578 : decode cL_law 578 = .ok (.iaload, 1) := by decide +kernel
theorem dL_law_579 : decode cL_law 579 = .ok (.invokevirtual 71, 3) := by decide +kernel
theorem dL_law_582 : decode cL_law 582 = .ok (.aload_n 2, 1) := by decide +kernel
theorem dL_law_583 : decode cL_law 583 = .ok (.aload_n 0, 1) := by decide +kernel
theorem dL_law_584 : decode cL_law 584 = .ok (.iload_n 3, 1) := by decide +kernel
theorem dL_law_585 : decode cL_law 585 = .ok (.iconst 1, 1) := by decide +kernel
theorem dL_law_586 : decode cL_law 586 = .ok (.iadd, 1) := by decide +kernel
theorem dL_law_587 : decode cL_law 587 = .ok (.iaload, 1) := by decide +kernel
theorem dL_law_588 : decode cL_law 588 = .ok (.invokevirtual 74, 3) := by decide +kernel
theorem dL_law_591 : decode cL_law 591 = .ok (.if_icmp .eq 380, 3) := by decide +kernel
theorem dL_law_594 : decode cL_law 594 = .ok (.iconst 0, 1) := by decide +kernel
theorem dL_law_595 : decode cL_law 595 = .ok (.ireturn, 1) := by decide +kernel
theorem dL_law_596 : decode cL_law 596 = .ok (.aload_n 1, 1) := by decide +kernel
theorem dL_law_597 : decode cL_law 597 = .ok (.aload_n 0, 1) := by decide +kernel
theorem dL_law_598 : decode cL_law 598 = .ok (.iload_n 3, 1) := by decide +kernel
theorem dL_law_599 : decode cL_law 599 = .ok (.iconst 1, 1) := by decide +kernel
theorem dL_law_600 : decode cL_law 600 = .ok (.iadd, 1) := by decide +kernel
theorem dL_law_601 : decode cL_law 601 = .ok (.iaload, 1) := by decide +kernel
theorem dL_law_602 : decode cL_law 602 = .ok (.invokevirtual 75, 3) := by decide +kernel
theorem dL_law_605 : decode cL_law 605 = .ok (.aload_n 2, 1) := by decide +kernel
theorem dL_law_606 : decode cL_law 606 = .ok (.aload_n 0, 1) := by decide +kernel
theorem dL_law_607 : decode cL_law 607 = .ok (.iload_n 3, 1) := by decide +kernel
theorem dL_law_608 : decode cL_law 608 = .ok (.iconst 1, 1) := by decide +kernel
theorem dL_law_609 : decode cL_law 609 = .ok (.iadd, 1) := by decide +kernel
theorem dL_law_610 : decode cL_law 610 = .ok (.iaload, 1) := by decide +kernel
theorem dL_law_611 : decode cL_law 611 = .ok (.invokevirtual 78, 3) := by decide +kernel
theorem dL_law_614 : decode cL_law 614 = .ok (.if_icmp .eq 357, 3) := by decide +kernel
theorem dL_law_617 : decode cL_law 617 = .ok (.iconst 0, 1) := by decide +kernel
theorem dL_law_618 : decode cL_law 618 = .ok (.ireturn, 1) := by decide +kernel
theorem dL_law_619 : decode cL_law 619 = .ok (.aload_n 1, 1) := by decide +kernel
theorem dL_law_620 : decode cL_law 620 = .ok (.aload_n 0, 1) := by decide +kernel
theorem dL_law_621 : decode cL_law 621 = .ok (.iload_n 3, 1) := by decide +kernel
theorem dL_law_622 : decode cL_law 622 = .ok (.iconst 1, 1) := by decide +kernel
theorem dL_law_623 : decode cL_law 623 = .ok (.iadd, 1) := by decide +kernel
theorem dL_law_624 : decode cL_law 624 = .ok (.iaload, 1) := by decide +kernel
theorem dL_law_625 : decode cL_law 625 = .ok (.aload_n 0, 1) := by decide +kernel
theorem dL_law_626 : decode cL_law 626 = .ok (.iload_n 3, 1) := by decide +kernel
theorem dL_law_627 : decode cL_law 627 = .ok (.iconst 2, 1) := by decide +kernel
theorem dL_law_628 : decode cL_law 628 = .ok (.iadd, 1) := by decide +kernel
theorem dL_law_629 : decode cL_law 629 = .ok (.iaload, 1) := by decide +kernel
theorem dL_law_630 : decode cL_law 630 = .ok (.invokevirtual 79, 3) := by decide +kernel
theorem dL_law_633 : decode cL_law 633 = .ok (.aload_n 2, 1) := by decide +kernel
theorem dL_law_634 : decode cL_law 634 = .ok (.aload_n 0, 1) := by decide +kernel
theorem dL_law_635 : decode cL_law 635 = .ok (.iload_n 3, 1) := by decide +kernel
theorem dL_law_636 : decode cL_law 636 = .ok (.iconst 1, 1) := by decide +kernel
theorem dL_law_637 : decode cL_law 637 = .ok (.iadd, 1) := by decide +kernel
theorem dL_law_638 : decode cL_law 638 = .ok (.iaload, 1) := by decide +kernel
theorem dL_law_639 : decode cL_law 639 = .ok (.aload_n 0, 1) := by decide +kernel
theorem dL_law_640 : decode cL_law 640 = .ok (.iload_n 3, 1) := by decide +kernel
theorem dL_law_641 : decode cL_law 641 = .ok (.iconst 2, 1) := by decide +kernel
theorem dL_law_642 : decode cL_law 642 = .ok (.iadd, 1) := by decide +kernel
theorem dL_law_643 : decode cL_law 643 = .ok (.iaload, 1) := by decide +kernel
theorem dL_law_644 : decode cL_law 644 = .ok (.invokevirtual 82, 3) := by decide +kernel
theorem dL_law_647 : decode cL_law 647 = .ok (.if_icmp .eq 324, 3) := by decide +kernel
theorem dL_law_650 : decode cL_law 650 = .ok (.iconst 0, 1) := by decide +kernel
theorem dL_law_651 : decode cL_law 651 = .ok (.ireturn, 1) := by decide +kernel
theorem dL_law_652 : decode cL_law 652 = .ok (.aload_n 1, 1) := by decide +kernel
theorem dL_law_653 : decode cL_law 653 = .ok (.aload_n 0, 1) := by decide +kernel
theorem dL_law_654 : decode cL_law 654 = .ok (.iload_n 3, 1) := by decide +kernel
theorem dL_law_655 : decode cL_law 655 = .ok (.iconst 1, 1) := by decide +kernel
theorem dL_law_656 : decode cL_law 656 = .ok (.iadd, 1) := by decide +kernel
theorem dL_law_657 : decode cL_law 657 = .ok (.iaload, 1) := by decide +kernel
theorem dL_law_658 : decode cL_law 658 = .ok (.aload_n 0, 1) := by decide +kernel
theorem dL_law_659 : decode cL_law 659 = .ok (.iload_n 3, 1) := by decide +kernel
theorem dL_law_660 : decode cL_law 660 = .ok (.iconst 2, 1) := by decide +kernel
theorem dL_law_661 : decode cL_law 661 = .ok (.iadd, 1) := by decide +kernel
theorem dL_law_662 : decode cL_law 662 = .ok (.iaload, 1) := by decide +kernel
theorem dL_law_663 : decode cL_law 663 = .ok (.invokevirtual 83, 3) := by decide +kernel
theorem dL_law_666 : decode cL_law 666 = .ok (.aload_n 2, 1) := by decide +kernel
theorem dL_law_667 : decode cL_law 667 = .ok (.aload_n 0, 1) := by decide +kernel
theorem dL_law_668 : decode cL_law 668 = .ok (.iload_n 3, 1) := by decide +kernel
theorem dL_law_669 : decode cL_law 669 = .ok (.iconst 1, 1) := by decide +kernel
theorem dL_law_670 : decode cL_law 670 = .ok (.iadd, 1) := by decide +kernel
theorem dL_law_671 : decode cL_law 671 = .ok (.iaload, 1) := by decide +kernel
theorem dL_law_672 : decode cL_law 672 = .ok (.aload_n 0, 1) := by decide +kernel
theorem dL_law_673 : decode cL_law 673 = .ok (.iload_n 3, 1) := by decide +kernel
theorem dL_law_674 : decode cL_law 674 = .ok (.iconst 2, 1) := by decide +kernel
theorem dL_law_675 : decode cL_law 675 = .ok (.iadd, 1) := by decide +kernel
theorem dL_law_676 : decode cL_law 676 = .ok (.iaload, 1) := by decide +kernel
theorem dL_law_677 : decode cL_law 677 = .ok (.invokevirtual 86, 3) := by decide +kernel
theorem dL_law_680 : decode cL_law 680 = .ok (.if_icmp .eq 291, 3) := by decide +kernel
theorem dL_law_683 : decode cL_law 683 = .ok (.iconst 0, 1) := by decide +kernel
theorem dL_law_684 : decode cL_law 684 = .ok (.ireturn, 1) := by decide +kernel
theorem dL_law_685 : decode cL_law 685 = .ok (.aload_n 1, 1) := by decide +kernel
theorem dL_law_686 : decode cL_law 686 = .ok (.aload_n 0, 1) := by decide +kernel
theorem dL_law_687 : decode cL_law 687 = .ok (.iload_n 3, 1) := by decide +kernel
theorem dL_law_688 : decode cL_law 688 = .ok (.iconst 1, 1) := by decide +kernel
theorem dL_law_689 : decode cL_law 689 = .ok (.iadd, 1) := by decide +kernel
theorem dL_law_690 : decode cL_law 690 = .ok (.iaload, 1) := by decide +kernel
theorem dL_law_691 : decode cL_law 691 = .ok (.aload_n 0, 1) := by decide +kernel
theorem dL_law_692 : decode cL_law 692 = .ok (.iload_n 3, 1) := by decide +kernel
theorem dL_law_693 : decode cL_law 693 = .ok (.iconst 2, 1) := by decide +kernel
theorem dL_law_694 : decode cL_law 694 = .ok (.iadd, 1) := by decide +kernel
theorem dL_law_695 : decode cL_law 695 = .ok (.iaload, 1) := by decide +kernel
theorem dL_law_696 : decode cL_law 696 = .ok (.invokevirtual 87, 3) := by decide +kernel
theorem dL_law_699 : decode cL_law 699 = .ok (.aload_n 2, 1) := by decide +kernel
theorem dL_law_700 : decode cL_law 700 = .ok (.aload_n 0, 1) := by decide +kernel
theorem dL_law_701 : decode cL_law 701 = .ok (.iload_n 3, 1) := by decide +kernel
theorem dL_law_702 : decode cL_law 702 = .ok (.iconst 1, 1) := by decide +kernel
theorem dL_law_703 : decode cL_law 703 = .ok (.iadd, 1) := by decide +kernel
theorem dL_law_704 : decode cL_law 704 = .ok (.iaload, 1) := by decide +kernel
theorem dL_law_705 : decode cL_law 705 = .ok (.aload_n 0, 1) := by decide +kernel
theorem dL_law_706 : decode cL_law 706 = .ok (.iload_n 3, 1) := by decide +kernel
theorem dL_law_707 : decode cL_law 707 = .ok (.iconst 2, 1) := by decide +kernel
theorem dL_law_708 : decode cL_law 708 = .ok (.iadd, 1) := by decide +kernel
theorem dL_law_709 : decode cL_law 709 = .ok (.iaload, 1) := by decide +kernel
theorem dL_law_710 : decode cL_law 710 = .ok (.invokevirtual 90, 3) := by decide +kernel
theorem dL_law_713 : decode cL_law 713 = .ok (.if_icmp .eq 258, 3) := by decide +kernel
theorem dL_law_716 : decode cL_law 716 = .ok (.iconst 0, 1) := by decide +kernel
theorem dL_law_717 : decode cL_law 717 = .ok (.ireturn, 1) := by decide +kernel
theorem dL_law_718 : decode cL_law 718 = .ok (.aload_n 1, 1) := by decide +kernel
theorem dL_law_719 : decode cL_law 719 = .ok (.aload_n 0, 1) := by decide +kernel
theorem dL_law_720 : decode cL_law 720 = .ok (.iload_n 3, 1) := by decide +kernel
theorem dL_law_721 : decode cL_law 721 = .ok (.iconst 1, 1) := by decide +kernel
theorem dL_law_722 : decode cL_law 722 = .ok (.iadd, 1) := by decide +kernel
theorem dL_law_723 : decode cL_law 723 = .ok (.iaload, 1) := by decide +kernel
theorem dL_law_724 : decode cL_law 724 = .ok (.aload_n 0, 1) := by decide +kernel
theorem dL_law_725 : decode cL_law 725 = .ok (.iload_n 3, 1) := by decide +kernel
theorem dL_law_726 : decode cL_law 726 = .ok (.iconst 2, 1) := by decide +kernel
theorem dL_law_727 : decode cL_law 727 = .ok (.iadd, 1) := by decide +kernel
theorem dL_law_728 : decode cL_law 728 = .ok (.iaload, 1) := by decide +kernel
theorem dL_law_729 : decode cL_law 729 = .ok (.invokevirtual 91, 3) := by decide +kernel
theorem dL_law_732 : decode cL_law 732 = .ok (.aload_n 2, 1) := by decide +kernel
theorem dL_law_733 : decode cL_law 733 = .ok (.aload_n 0, 1) := by decide +kernel
theorem dL_law_734 : decode cL_law 734 = .ok (.iload_n 3, 1) := by decide +kernel
theorem dL_law_735 : decode cL_law 735 = .ok (.iconst 1, 1) := by decide +kernel
theorem dL_law_736 : decode cL_law 736 = .ok (.iadd, 1) := by decide +kernel
theorem dL_law_737 : decode cL_law 737 = .ok (.iaload, 1) := by decide +kernel
theorem dL_law_738 : decode cL_law 738 = .ok (.aload_n 0, 1) := by decide +kernel
theorem dL_law_739 : decode cL_law 739 = .ok (.iload_n 3, 1) := by decide +kernel
theorem dL_law_740 : decode cL_law 740 = .ok (.iconst 2, 1) := by decide +kernel
theorem dL_law_741 : decode cL_law 741 = .ok (.iadd, 1) := by decide +kernel
theorem dL_law_742 : decode cL_law 742 = .ok (.iaload, 1) := by decide +kernel
theorem dL_law_743 : decode cL_law 743 = .ok (.invokevirtual 94, 3) := by decide +kernel
theorem dL_law_746 : decode cL_law 746 = .ok (.if_icmp .eq 225, 3) := by decide +kernel
theorem dL_law_749 : decode cL_law 749 = .ok (.iconst 0, 1) := by decide +kernel
theorem dL_law_750 : decode cL_law 750 = .ok (.ireturn, 1) := by decide +kernel
theorem dL_law_751 : decode cL_law 751 = .ok (.aload_n 1, 1) := by decide +kernel
theorem dL_law_752 : decode cL_law 752 = .ok (.aload_n 0, 1) := by decide +kernel
theorem dL_law_753 : decode cL_law 753 = .ok (.iload_n 3, 1) := by decide +kernel
theorem dL_law_754 : decode cL_law 754 = .ok (.iconst 1, 1) := by decide +kernel
theorem dL_law_755 : decode cL_law 755 = .ok (.iadd, 1) := by decide +kernel
theorem dL_law_756 : decode cL_law 756 = .ok (.iaload, 1) := by decide +kernel
theorem dL_law_757 : decode cL_law 757 = .ok (.invokevirtual 95, 3) := by decide +kernel
theorem dL_law_760 : decode cL_law 760 = .ok (.aload_n 2, 1) := by decide +kernel
theorem dL_law_761 : decode cL_law 761 = .ok (.aload_n 0, 1) := by decide +kernel
theorem dL_law_762 : decode cL_law 762 = .ok (.iload_n 3, 1) := by decide +kernel
theorem dL_law_763 : decode cL_law 763 = .ok (.iconst 1, 1) := by decide +kernel
theorem dL_law_764 : decode cL_law 764 = .ok (.iadd, 1) := by decide +kernel
theorem dL_law_765 : decode cL_law 765 = .ok (.iaload, 1) := by decide +kernel
theorem dL_law_766 : decode cL_law 766 = .ok (.invokevirtual 98, 3) := by decide +kernel
theorem dL_law_769 : decode cL_law 769 = .ok (.if_icmp .eq 202, 3) := by decide +kernel
theorem dL_law_772 : decode cL_law 772 = .ok (.iconst 0, 1) := by decide +kernel
theorem dL_law_773 : decode cL_law 773 = .ok (.ireturn, 1) := by decide +kernel
theorem dL_law_774 : decode cL_law 774 = .ok (.aload_n 1, 1) := by decide +kernel
theorem dL_law_775 : decode cL_law 775 = .ok (.aload_n 0, 1) := by decide +kernel
theorem dL_law_776 : decode cL_law 776 = .ok (.iload_n 3, 1) := by decide +kernel
theorem dL_law_777 : decode cL_law 777 = .ok (.iconst 1, 1) := by decide +kernel
theorem dL_law_778 : decode cL_law 778 = .ok (.iadd, 1) := by decide +kernel
theorem dL_law_779 : decode cL_law 779 = .ok (.iaload, 1) := by decide +kernel
theorem dL_law_780 : decode cL_law 780 = .ok (.invokevirtual 99, 3) := by decide +kernel
theorem dL_law_783 : decode cL_law 783 = .ok (.aload_n 2, 1) := by decide +kernel
theorem dL_law_784 : decode cL_law 784 = .ok (.aload_n 0, 1) := by decide +kernel
theorem dL_law_785 : decode cL_law 785 = .ok (.iload_n 3, 1) := by decide +kernel
theorem dL_law_786 : decode cL_law 786 = .ok (.iconst 1, 1) := by decide +kernel
theorem dL_law_787 : decode cL_law 787 = .ok (.iadd, 1) := by decide +kernel
theorem dL_law_788 : decode cL_law 788 = .ok (.iaload, 1) := by decide +kernel
theorem dL_law_789 : decode cL_law 789 = .ok (.invokevirtual 102, 3) := by decide +kernel
theorem dL_law_792 : decode cL_law 792 = .ok (.if_icmp .eq 179, 3) := by decide +kernel
theorem dL_law_795 : decode cL_law 795 = .ok (.iconst 0, 1) := by decide +kernel
theorem dL_law_796 : decode cL_law 796 = .ok (.ireturn, 1) := by decide +kernel
theorem dL_law_797 : decode cL_law 797 = .ok (.aload_n 1, 1) := by decide +kernel
theorem dL_law_798 : decode cL_law 798 = .ok (.aload_n 0, 1) := by decide +kernel
theorem dL_law_799 : decode cL_law 799 = .ok (.iload_n 3, 1) := by decide +kernel
theorem dL_law_800 : decode cL_law 800 = .ok (.iconst 1, 1) := by decide +kernel
theorem dL_law_801 : decode cL_law 801 = .ok (.iadd, 1) := by decide +kernel
theorem dL_law_802 : decode cL_law 802 = .ok (.iaload, 1) := by decide +kernel
theorem dL_law_803 : decode cL_law 803 = .ok (.aload_n 0, 1) := by decide +kernel
theorem dL_law_804 : decode cL_law 804 = .ok (.iload_n 3, 1) := by decide +kernel
theorem dL_law_805 : decode cL_law 805 = .ok (.iconst 2, 1) := by decide +kernel
theorem dL_law_806 : decode cL_law 806 = .ok (.iadd, 1) := by decide +kernel
theorem dL_law_807 : decode cL_law 807 = .ok (.iaload, 1) := by decide +kernel
theorem dL_law_808 : decode cL_law 808 = .ok (.invokevirtual 103, 3) := by decide +kernel
theorem dL_law_811 : decode cL_law 811 = .ok (.aload_n 2, 1) := by decide +kernel
theorem dL_law_812 : decode cL_law 812 = .ok (.aload_n 0, 1) := by decide +kernel
theorem dL_law_813 : decode cL_law 813 = .ok (.iload_n 3, 1) := by decide +kernel
theorem dL_law_814 : decode cL_law 814 = .ok (.iconst 1, 1) := by decide +kernel
theorem dL_law_815 : decode cL_law 815 = .ok (.iadd, 1) := by decide +kernel
theorem dL_law_816 : decode cL_law 816 = .ok (.iaload, 1) := by decide +kernel
theorem dL_law_817 : decode cL_law 817 = .ok (.aload_n 0, 1) := by decide +kernel
theorem dL_law_818 : decode cL_law 818 = .ok (.iload_n 3, 1) := by decide +kernel
theorem dL_law_819 : decode cL_law 819 = .ok (.iconst 2, 1) := by decide +kernel
theorem dL_law_820 : decode cL_law 820 = .ok (.iadd, 1) := by decide +kernel
theorem dL_law_821 : decode cL_law 821 = .ok (.iaload, 1) := by decide +kernel
theorem dL_law_822 : decode cL_law 822 = .ok (.invokevirtual 106, 3) := by decide +kernel
theorem dL_law_825 : decode cL_law 825 = .ok (.if_icmp .eq 146, 3) := by decide +kernel
theorem dL_law_828 : decode cL_law 828 = .ok (.iconst 0, 1) := by decide +kernel
theorem dL_law_829 : decode cL_law 829 = .ok (.ireturn, 1) := by decide +kernel
theorem dL_law_830 : decode cL_law 830 = .ok (.aload_n 1, 1) := by decide +kernel
theorem dL_law_831 : decode cL_law 831 = .ok (.invokevirtual 107, 3) := by decide +kernel
theorem dL_law_834 : decode cL_law 834 = .ok (.aload_n 2, 1) := by decide +kernel
theorem dL_law_835 : decode cL_law 835 = .ok (.invokevirtual 110, 3) := by decide +kernel
theorem dL_law_838 : decode cL_law 838 = .ok (.if_icmp .eq 133, 3) := by decide +kernel
theorem dL_law_841 : decode cL_law 841 = .ok (.iconst 0, 1) := by decide +kernel
theorem dL_law_842 : decode cL_law 842 = .ok (.ireturn, 1) := by decide +kernel
theorem dL_law_843 : decode cL_law 843 = .ok (.aload_n 1, 1) := by decide +kernel
theorem dL_law_844 : decode cL_law 844 = .ok (.invokevirtual 111, 3) := by decide +kernel
theorem dL_law_847 : decode cL_law 847 = .ok (.aload_n 2, 1) := by decide +kernel
theorem dL_law_848 : decode cL_law 848 = .ok (.invokevirtual 114, 3) := by decide +kernel
theorem dL_law_851 : decode cL_law 851 = .ok (.if_icmp .eq 120, 3) := by decide +kernel
theorem dL_law_854 : decode cL_law 854 = .ok (.iconst 0, 1) := by decide +kernel
theorem dL_law_855 : decode cL_law 855 = .ok (.ireturn, 1) := by decide +kernel
theorem dL_law_856 : decode cL_law 856 = .ok (.aload_n 1, 1) := by decide +kernel
theorem dL_law_857 : decode cL_law 857 = .ok (.invokevirtual 115, 3) := by decide +kernel
theorem dL_law_860 : decode cL_law 860 = .ok (.aload_n 2, 1) := by decide +kernel
theorem dL_law_861 : decode cL_law 861 = .ok (.invokevirtual 118, 3) := by decide +kernel
theorem dL_law_864 : decode cL_law 864 = .ok (.if_icmp .eq 107, 3) := by decide +kernel
theorem dL_law_867 : decode cL_law 867 = .ok (.iconst 0, 1) := by decide +kernel
theorem dL_law_868 : decode cL_law 868 = .ok (.ireturn, 1) := by decide +kernel
theorem dL_law_869 : decode cL_law 869 = .ok (.aload_n 1, 1) := by decide +kernel
theorem dL_law_870 : decode cL_law 870 = .ok (.aload_n 0, 1) := by decide +kernel
theorem dL_law_871 : decode cL_law 871 = .ok (.iload_n 3, 1) := by decide +kernel
theorem dL_law_872 : decode cL_law 872 = .ok (.iconst 1, 1) := by decide +kernel
theorem dL_law_873 : decode cL_law 873 = .ok (.iadd, 1) := by decide +kernel
theorem dL_law_874 : decode cL_law 874 = .ok (.iaload, 1) := by decide +kernel
theorem dL_law_875 : decode cL_law 875 = .ok (.invokevirtual 119, 3) := by decide +kernel
theorem dL_law_878 : decode cL_law 878 = .ok (.aload_n 2, 1) := by decide +kernel
theorem dL_law_879 : decode cL_law 879 = .ok (.aload_n 0, 1) := by decide +kernel
theorem dL_law_880 : decode cL_law 880 = .ok (.iload_n 3, 1) := by decide +kernel
theorem dL_law_881 : decode cL_law 881 = .ok (.iconst 1, 1) := by decide +kernel
theorem dL_law_882 : decode cL_law 882 = .ok (.iadd, 1) := by decide +kernel
theorem dL_law_883 : decode cL_law 883 = .ok (.iaload, 1) := by decide +kernel
theorem dL_law_884 : decode cL_law 884 = .ok (.invokevirtual 122, 3) := by decide +kernel
theorem dL_law_887 : decode cL_law 887 = .ok (.if_icmp .eq 84, 3) := by decide +kernel
theorem dL_law_890 : decode cL_law 890 = .ok (.iconst 0, 1) := by decide +kernel
theorem dL_law_891 : decode cL_law 891 = .ok (.ireturn, 1) := by decide +kernel
theorem dL_law_892 : decode cL_law 892 = .ok (.aload_n 1, 1) := by decide +kernel
theorem dL_law_893 : decode cL_law 893 = .ok (.aload_n 0, 1) := by decide +kernel
theorem dL_law_894 : decode cL_law 894 = .ok (.iload_n 3, 1) := by decide +kernel
theorem dL_law_895 : decode cL_law 895 = .ok (.iconst 1, 1) := by decide +kernel
theorem dL_law_896 : decode cL_law 896 = .ok (.iadd, 1) := by decide +kernel
theorem dL_law_897 : decode cL_law 897 = .ok (.iaload, 1) := by decide +kernel
theorem dL_law_898 : decode cL_law 898 = .ok (.aload_n 0, 1) := by decide +kernel
theorem dL_law_899 : decode cL_law 899 = .ok (.iload_n 3, 1) := by decide +kernel
theorem dL_law_900 : decode cL_law 900 = .ok (.iconst 2, 1) := by decide +kernel
theorem dL_law_901 : decode cL_law 901 = .ok (.iadd, 1) := by decide +kernel
theorem dL_law_902 : decode cL_law 902 = .ok (.iaload, 1) := by decide +kernel
theorem dL_law_903 : decode cL_law 903 = .ok (.invokevirtual 123, 3) := by decide +kernel
theorem dL_law_906 : decode cL_law 906 = .ok (.aload_n 2, 1) := by decide +kernel
theorem dL_law_907 : decode cL_law 907 = .ok (.aload_n 0, 1) := by decide +kernel
theorem dL_law_908 : decode cL_law 908 = .ok (.iload_n 3, 1) := by decide +kernel
theorem dL_law_909 : decode cL_law 909 = .ok (.iconst 1, 1) := by decide +kernel
theorem dL_law_910 : decode cL_law 910 = .ok (.iadd, 1) := by decide +kernel
theorem dL_law_911 : decode cL_law 911 = .ok (.iaload, 1) := by decide +kernel
theorem dL_law_912 : decode cL_law 912 = .ok (.aload_n 0, 1) := by decide +kernel
theorem dL_law_913 : decode cL_law 913 = .ok (.iload_n 3, 1) := by decide +kernel
theorem dL_law_914 : decode cL_law 914 = .ok (.iconst 2, 1) := by decide +kernel
theorem dL_law_915 : decode cL_law 915 = .ok (.iadd, 1) := by decide +kernel
theorem dL_law_916 : decode cL_law 916 = .ok (.iaload, 1) := by decide +kernel
theorem dL_law_917 : decode cL_law 917 = .ok (.invokevirtual 126, 3) := by decide +kernel
theorem dL_law_920 : decode cL_law 920 = .ok (.if_icmp .eq 51, 3) := by decide +kernel
theorem dL_law_923 : decode cL_law 923 = .ok (.iconst 0, 1) := by decide +kernel
theorem dL_law_924 : decode cL_law 924 = .ok (.ireturn, 1) := by decide +kernel
theorem dL_law_925 : decode cL_law 925 = .ok (.aload_n 1, 1) := by decide +kernel
theorem dL_law_926 : decode cL_law 926 = .ok (.aload_n 0, 1) := by decide +kernel
theorem dL_law_927 : decode cL_law 927 = .ok (.iload_n 3, 1) := by decide +kernel
theorem dL_law_928 : decode cL_law 928 = .ok (.iconst 1, 1) := by decide +kernel
theorem dL_law_929 : decode cL_law 929 = .ok (.iadd, 1) := by decide +kernel
theorem dL_law_930 : decode cL_law 930 = .ok (.iaload, 1) := by decide +kernel
theorem dL_law_931 : decode cL_law 931 = .ok (.invokevirtual 127, 3) := by decide +kernel
theorem dL_law_934 : decode cL_law 934 = .ok (.aload_n 2, 1) := by decide +kernel
theorem dL_law_935 : decode cL_law 935 = .ok (.aload_n 0, 1) := by decide +kernel
theorem dL_law_936 : decode cL_law 936 = .ok (.iload_n 3, 1) := by decide +kernel
theorem dL_law_937 : decode cL_law 937 = .ok (.iconst 1, 1) := by decide +kernel
theorem dL_law_938 : decode cL_law 938 = .ok (.iadd, 1) := by decide +kernel
theorem dL_law_939 : decode cL_law 939 = .ok (.iaload, 1) := by decide +kernel
theorem dL_law_940 : decode cL_law 940 = .ok (.invokevirtual 130, 3) := by decide +kernel
theorem dL_law_943 : decode cL_law 943 = .ok (.if_icmp .eq 28, 3) := by decide +kernel
theorem dL_law_946 : decode cL_law 946 = .ok (.iconst 0, 1) := by decide +kernel
theorem dL_law_947 : decode cL_law 947 = .ok (.ireturn, 1) := by decide +kernel
theorem dL_law_948 : decode cL_law 948 = .ok (.aload_n 1, 1) := by decide +kernel
theorem dL_law_949 : decode cL_law 949 = .ok (.aload_n 0, 1) := by decide +kernel
theorem dL_law_950 : decode cL_law 950 = .ok (.iload_n 3, 1) := by decide +kernel
theorem dL_law_951 : decode cL_law 951 = .ok (.iconst 1, 1) := by decide +kernel
theorem dL_law_952 : decode cL_law 952 = .ok (.iadd, 1) := by decide +kernel
theorem dL_law_953 : decode cL_law 953 = .ok (.iaload, 1) := by decide +kernel
theorem dL_law_954 : decode cL_law 954 = .ok (.invokevirtual 131, 3) := by decide +kernel
theorem dL_law_957 : decode cL_law 957 = .ok (.aload_n 2, 1) := by decide +kernel
theorem dL_law_958 : decode cL_law 958 = .ok (.aload_n 0, 1) := by decide +kernel
theorem dL_law_959 : decode cL_law 959 = .ok (.iload_n 3, 1) := by decide +kernel
theorem dL_law_960 : decode cL_law 960 = .ok (.iconst 1, 1) := by decide +kernel
theorem dL_law_961 : decode cL_law 961 = .ok (.iadd, 1) := by decide +kernel
theorem dL_law_962 : decode cL_law 962 = .ok (.iaload, 1) := by decide +kernel
theorem dL_law_963 : decode cL_law 963 = .ok (.invokevirtual 134, 3) := by decide +kernel
theorem dL_law_966 : decode cL_law 966 = .ok (.if_icmp .eq 5, 3) := by decide +kernel
theorem dL_law_969 : decode cL_law 969 = .ok (.iconst 0, 1) := by decide +kernel
theorem dL_law_970 : decode cL_law 970 = .ok (.ireturn, 1) := by decide +kernel
theorem dL_law_971 : decode cL_law 971 = .ok (.iinc 3 6, 3) := by decide +kernel
theorem dL_law_974 : decode cL_law 974 = .ok (.goto (-956), 3) := by decide +kernel
theorem dL_law_977 : decode cL_law 977 = .ok (.iconst 1, 1) := by decide +kernel
theorem dL_law_978 : decode cL_law 978 = .ok (.ireturn, 1) := by decide +kernel
