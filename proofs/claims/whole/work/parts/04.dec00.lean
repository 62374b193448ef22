theorem dX0_init_0 : decode cX0_init 0 = .ok (.aload_n 0, 1) := by decide +kernel
theorem dX0_init_1 : decode cX0_init 1 = .ok (.invokespecial 3, 3) := by decide +kernel
theorem dX0_init_4 : decode cX0_init 4 = .ok (.aload_n 0, 1) := by decide +kernel
theorem dX0_init_5 : decode cX0_init 5 = .ok (.bipush 13, 2) := by decide +kernel
theorem dX0_init_7 : decode cX0_init 7 = .ok (.newarray .int, 2) := by decide +kernel
theorem dX0_init_9 : decode cX0_init 9 = .ok (.putfield 11, 3) := by decide +kernel
theorem dX0_init_12 : decode cX0_init 12 = .ok (.aload_n 0, 1) := by decide +kernel
theorem dX0_init_13 : decode cX0_init 13 = .ok (.bipush 13, 2) := by decide +kernel
theorem dX0_init_15 : decode cX0_init 15 = .ok (.newarray .int, 2) := by decide +kernel
theorem dX0_init_17 : decode cX0_init 17 = .ok (.putfield 15, 3) := by decide +kernel
theorem dX0_init_20 : decode cX0_init 20 = .ok (.aload_n 0, 1) := by decide +kernel
theorem dX0_init_21 : decode cX0_init 21 = .ok (.bipush 13, 2) := by decide +kernel
theorem dX0_init_23 : decode cX0_init 23 = .ok (.newarray .int, 2) := by decide +kernel
theorem dX0_init_25 : decode cX0_init 25 = .ok (.putfield 18, 3) := by decide +kernel
theorem dX0_init_28 : decode cX0_init 28 = .ok (.aload_n 0, 1) := by decide +kernel
theorem dX0_init_29 : decode cX0_init 29 = .ok (.bipush 13, 2) := by decide +kernel
theorem dX0_init_31 : decode cX0_init 31 = .ok (.newarray .int, 2) := by decide +kernel
theorem dX0_init_33 : decode cX0_init 33 = .ok (.putfield 21, 3) := by decide +kernel
theorem dX0_init_36 : decode cX0_init 36 = .ok (.return_, 1) := by decide +kernel
theorem dX0_hold_0 : decode cX0_hold 0 = .ok (.aload_n 0, 1) := by decide +kernel
theorem dX0_hold_1 : decode cX0_hold 1 = .ok (.aload_n 1, 1) := by decide +kernel
theorem dX0_hold_2 : decode cX0_hold 2 = .ok (.bipush 63, 2) := by decide +kernel
theorem dX0_hold_4 : decode cX0_hold 4 = .ok (.invokevirtual 24, 3) := by decide +kernel
theorem dX0_hold_7 : decode cX0_hold 7 = .ok (.aload_n 0, 1) := by decide +kernel
theorem dX0_hold_8 : decode cX0_hold 8 = .ok (.invokevirtual 28, 3) := by decide +kernel
theorem dX0_hold_11 : decode cX0_hold 11 = .ok (.return_, 1) := by decide +kernel
theorem dX0_gather_0 : decode cX0_gather 0 = .ok (.aload_n 0, 1) := by decide +kernel
theorem dX0_gather_1 : decode cX0_gather 1 = .ok (.iconst 0, 1) := by decide +kernel
theorem dX0_gather_2 : decode cX0_gather 2 = .ok (.putfield 31, 3) := by decide +kernel
theorem dX0_gather_5 : decode cX0_gather 5 = .ok (.iconst 0, 1) := by decide +kernel
theorem dX0_gather_6 : decode cX0_gather 6 = .ok (.istore_n 3, 1) := by decide +kernel
theorem dX0_gather_7 : decode cX0_gather 7 = .ok (.iload_n 3, 1) := by decide +kernel
theorem dX0_gather_8 : decode cX0_gather 8 = .ok (.aload_n 1, 1) := by decide +kernel
theorem dX0_gather_9 : decode cX0_gather 9 = .ok (.getfield 35, 3) := by decide +kernel
theorem dX0_gather_12 : decode cX0_gather 12 = .ok (.if_icmp .ge 49, 3) := by decide +kernel
theorem dX0_gather_15 : decode cX0_gather 15 = .ok (.aload_n 1, 1) := by decide +kernel
theorem dX0_gather_16 : decode cX0_gather 16 = .ok (.getfield 40, 3) := by decide +kernel
theorem dX0_gather_19 : decode cX0_gather 19 = .ok (.iload_n 3, 1) := by decide +kernel
theorem dX0_gather_20 : decode cX0_gather 20 = .ok (.aaload, 1) := by decide +kernel
theorem dX0_gather_21 : decode cX0_gather 21 = .ok (.astore 4, 2) := by decide +kernel
theorem dX0_gather_23 : decode cX0_gather 23 = .ok (.iload_n 2, 1) := by decide +kernel
theorem dX0_gather_24 : decode cX0_gather 24 = .ok (.aload 4, 2) := by decide +kernel
theorem dX0_gather_26 : decode cX0_gather 26 = .ok (.getfield 44, 3) := by decide +kernel
theorem dX0_gather_29 : decode cX0_gather 29 = .ok (.ishr, 1) := by decide +kernel
theorem dX0_gather_30 : decode cX0_gather 30 = .ok (.iconst 1, 1) := by decide +kernel
theorem dX0_gather_31 : decode cX0_gather 31 = .ok (.iand, 1) := by decide +kernel
theorem dX0_gather_32 : decode cX0_gather 32 = .ok (.iconst 1, 1) := by decide +kernel
theorem dX0_gather_33 : decode cX0_gather 33 = .ok (.if_icmp .ne 22, 3) := by decide +kernel
theorem dX0_gather_36 : decode cX0_gather 36 = .ok (.aload_n 0, 1) := by decide +kernel
theorem dX0_gather_37 : decode cX0_gather 37 = .ok (.aload 4, 2) := by decide +kernel
theorem dX0_gather_39 : decode cX0_gather 39 = .ok (.getfield 49, 3) := by decide +kernel
theorem dX0_gather_42 : decode cX0_gather 42 = .ok (.aload 4, 2) := by decide +kernel
theorem dX0_gather_44 : decode cX0_gather 44 = .ok (.getfield 52, 3) := by decide +kernel
theorem dX0_gather_47 : decode cX0_gather 47 = .ok (.aload 4, 2) := by decide +kernel
theorem dX0_gather_49 : decode cX0_gather 49 = .ok (.getfield 55, 3) := by decide +kernel
theorem dX0_gather_52 : decode cX0_gather 52 = .ok (.invokevirtual 58, 3) := by decide +kernel
theorem dX0_gather_55 : decode cX0_gather 55 = .ok (.iinc 3 1, 3) := by decide +kernel
theorem dX0_gather_58 : decode cX0_gather 58 = .ok (.goto (-51), 3) := by decide +kernel
theorem dX0_gather_61 : decode cX0_gather 61 = .ok (.return_, 1) := by decide +kernel
theorem dX0_add_0 : decode cX0_add 0 = .ok (.aload_n 0, 1) := by decide +kernel
theorem dX0_add_1 : decode cX0_add 1 = .ok (.getfield 31, 3) := by decide +kernel
theorem dX0_add_4 : decode cX0_add 4 = .ok (.ifCond .lt 62, 3) := by decide +kernel
theorem dX0_add_7 : decode cX0_add 7 = .ok (.aload_n 0, 1) := by decide +kernel
theorem dX0_add_8 : decode cX0_add 8 = .ok (.getfield 31, 3) := by decide +kernel
theorem dX0_add_11 : decode cX0_add 11 = .ok (.bipush 13, 2) := by decide +kernel
theorem dX0_add_13 : decode cX0_add 13 = .ok (.if_icmp .ge 53, 3) := by decide +kernel
theorem dX0_add_16 : decode cX0_add 16 = .ok (.aload_n 0, 1) := by decide +kernel
theorem dX0_add_17 : decode cX0_add 17 = .ok (.getfield 11, 3) := by decide +kernel
theorem dX0_add_20 : decode cX0_add 20 = .ok (.aload_n 0, 1) := by decide +kernel
theorem dX0_add_21 : decode cX0_add 21 = .ok (.getfield 31, 3) := by decide +kernel
theorem dX0_add_24 : decode cX0_add 24 = .ok (.iload_n 1, 1) := by decide +kernel
theorem dX0_add_25 : decode cX0_add 25 = .ok (.iastore, 1) := by decide +kernel
theorem dX0_add_26 : decode cX0_add 26 = .ok (.aload_n 0, 1) := by decide +kernel
theorem dX0_add_27 : decode cX0_add 27 = .ok (.getfield 15, 3) := by decide +kernel
theorem dX0_add_30 : decode cX0_add 30 = .ok (.aload_n 0, 1) := by decide +kernel
theorem dX0_add_31 : decode cX0_add 31 = .ok (.getfield 31, 3) := by decide +kernel
theorem dX0_add_34 : decode cX0_add 34 = .ok (.iload_n 2, 1) := by decide +kernel
theorem dX0_add_35 : decode cX0_add 35 = .ok (.iastore, 1) := by decide +kernel
theorem dX0_add_36 : decode cX0_add 36 = .ok (.aload_n 0, 1) := by decide +kernel
theorem dX0_add_37 : decode cX0_add 37 = .ok (.getfield 18, 3) := by decide +kernel
theorem dX0_add_40 : decode cX0_add 40 = .ok (.aload_n 0, 1) := by decide +kernel
theorem dX0_add_41 : decode cX0_add 41 = .ok (.getfield 31, 3) := by decide +kernel
theorem dX0_add_44 : decode cX0_add 44 = .ok (.iconst 0, 1) := by decide +kernel
theorem dX0_add_45 : decode cX0_add 45 = .ok (.iastore, 1) := by decide +kernel
theorem dX0_add_46 : decode cX0_add 46 = .ok (.aload_n 0, 1) := by decide +kernel
theorem dX0_add_47 : decode cX0_add 47 = .ok (.getfield 21, 3) := by decide +kernel
theorem dX0_add_50 : decode cX0_add 50 = .ok (.aload_n 0, 1) := by decide +kernel
theorem dX0_add_51 : decode cX0_add 51 = .ok (.getfield 31, 3) := by decide +kernel
theorem dX0_add_54 : decode cX0_add 54 = .ok (.iload_n 3, 1) := by decide +kernel
theorem dX0_add_55 : decode cX0_add 55 = .ok (.iastore, 1) := by decide +kernel
theorem dX0_add_56 : decode cX0_add 56 = .ok (.aload_n 0, 1) := by decide +kernel
theorem dX0_add_57 : decode cX0_add 57 = .ok (.dup, 1) := by decide +kernel
theorem dX0_add_58 : decode cX0_add 58 = .ok (.getfield 31, 3) := by decide +kernel
theorem dX0_add_61 : decode cX0_add 61 = .ok (.iconst 1, 1) := by decide +kernel
theorem dX0_add_62 : decode cX0_add 62 = .ok (.iadd, 1) := by decide +kernel
theorem dX0_add_63 : decode cX0_add 63 = .ok (.putfield 31, 3) := by decide +kernel
theorem dX0_add_66 : decode cX0_add 66 = .ok (.return_, 1) := by decide +kernel
theorem dX0_match_0 : decode cX0_match 0 = .ok (.aload_n 0, 1) := by decide +kernel
theorem dX0_match_1 : decode cX0_match 1 = .ok (.iconst 0, 1) := by decide +kernel
theorem dX0_match_2 : decode cX0_match 2 = .ok (.putfield 62, 3) := by decide +kernel
theorem dX0_match_5 : decode cX0_match 5 = .ok (.aload_n 0, 1) := by decide +kernel
theorem dX0_match_6 : decode cX0_match 6 = .ok (.bipush (-9), 2) := by decide +kernel
theorem dX0_match_8 : decode cX0_match 8 = .ok (.putfield 65, 3) := by decide +kernel
theorem dX0_match_11 : decode cX0_match 11 = .ok (.aload_n 0, 1) := by decide +kernel
theorem dX0_match_12 : decode cX0_match 12 = .ok (.iconst 0, 1) := by decide +kernel
theorem dX0_match_13 : decode cX0_match 13 = .ok (.putfield 66, 3) := by decide +kernel
theorem dX0_match_16 : decode cX0_match 16 = .ok (.iconst 0, 1) := by decide +kernel
theorem dX0_match_17 : decode cX0_match 17 = .ok (.istore_n 1, 1) := by decide +kernel
theorem dX0_match_18 : decode cX0_match 18 = .ok (.iload_n 1, 1) := by decide +kernel
theorem dX0_match_19 : decode cX0_match 19 = .ok (.bipush 13, 2) := by decide +kernel
theorem dX0_match_21 : decode cX0_match 21 = .ok (.if_icmp .ge 129, 3) := by decide +kernel
theorem dX0_match_24 : decode cX0_match 24 = .ok (.aload_n 0, 1) := by decide +kernel
theorem dX0_match_25 : decode cX0_match 25 = .ok (.invokevirtual 69, 3) := by decide +kernel
theorem dX0_match_28 : decode cX0_match 28 = .ok (.istore_n 2, 1) := by decide +kernel
theorem dX0_match_29 : decode cX0_match 29 = .ok (.aload_n 0, 1) := by decide +kernel
theorem dX0_match_30 : decode cX0_match 30 = .ok (.invokevirtual 73, 3) := by decide +kernel
theorem dX0_match_33 : decode cX0_match 33 = .ok (.istore_n 3, 1) := by decide +kernel
theorem dX0_match_34 : decode cX0_match 34 = .ok (.iload_n 2, 1) := by decide +kernel
theorem dX0_match_35 : decode cX0_match 35 = .ok (.ifCond .lt 22, 3) := by decide +kernel
theorem dX0_match_38 : decode cX0_match 38 = .ok (.iload_n 3, 1) := by decide +kernel
theorem dX0_match_39 : decode cX0_match 39 = .ok (.ifCond .lt 18, 3) := by decide +kernel
theorem dX0_match_42 : decode cX0_match 42 = .ok (.aload_n 0, 1) := by decide +kernel
theorem dX0_match_43 : decode cX0_match 43 = .ok (.getfield 15, 3) := by decide +kernel
theorem dX0_match_46 : decode cX0_match 46 = .ok (.iload_n 2, 1) := by decide +kernel
theorem dX0_match_47 : decode cX0_match 47 = .ok (.iaload, 1) := by decide +kernel
theorem dX0_match_48 : decode cX0_match 48 = .ok (.aload_n 0, 1) := by decide +kernel
theorem dX0_match_49 : decode cX0_match 49 = .ok (.getfield 15, 3) := by decide +kernel
theorem dX0_match_52 : decode cX0_match 52 = .ok (.iload_n 3, 1) := by decide +kernel
theorem dX0_match_53 : decode cX0_match 53 = .ok (.iaload, 1) := by decide +kernel
theorem dX0_match_54 : decode cX0_match 54 = .ok (.if_icmp .ge 4, 3) := by decide +kernel
theorem dX0_match_57 : decode cX0_match 57 = .ok (.return_, 1) := by decide +kernel
theorem dX0_match_58 : decode cX0_match 58 = .ok (.aload_n 0, 1) := by decide +kernel
theorem dX0_match_59 : decode cX0_match 59 = .ok (.getfield 21, 3) := by decide +kernel
theorem dX0_match_62 : decode cX0_match 62 = .ok (.iload_n 2, 1) := by decide +kernel
theorem dX0_match_63 : decode cX0_match 63 = .ok (.iaload, 1) := by decide +kernel
theorem dX0_match_64 : decode cX0_match 64 = .ok (.aload_n 0, 1) := by decide +kernel
theorem dX0_match_65 : decode cX0_match 65 = .ok (.getfield 21, 3) := by decide +kernel
theorem dX0_match_68 : decode cX0_match 68 = .ok (.iload_n 3, 1) := by decide +kernel
theorem dX0_match_69 : decode cX0_match 69 = .ok (.iaload, 1) := by decide +kernel
theorem dX0_match_70 : decode cX0_match 70 = .ok (.invokestatic 76, 3) := by decide +kernel
theorem dX0_match_73 : decode cX0_match 73 = .ok (.istore 4, 2) := by decide +kernel
theorem dX0_match_75 : decode cX0_match 75 = .ok (.aload_n 0, 1) := by decide +kernel
theorem dX0_match_76 : decode cX0_match 76 = .ok (.iload_n 2, 1) := by decide +kernel
theorem dX0_match_77 : decode cX0_match 77 = .ok (.iload 4, 2) := by decide +kernel
theorem dX0_match_79 : decode cX0_match 79 = .ok (.invokevirtual 82, 3) := by decide +kernel
theorem dX0_match_82 : decode cX0_match 82 = .ok (.aload_n 0, 1) := by decide +kernel
theorem dX0_match_83 : decode cX0_match 83 = .ok (.iload_n 3, 1) := by decide +kernel
theorem dX0_match_84 : decode cX0_match 84 = .ok (.iload 4, 2) := by decide +kernel
theorem dX0_match_86 : decode cX0_match 86 = .ok (.invokevirtual 82, 3) := by decide +kernel
theorem dX0_match_89 : decode cX0_match 89 = .ok (.aload_n 0, 1) := by decide +kernel
theorem dX0_match_90 : decode cX0_match 90 = .ok (.dup, 1) := by decide +kernel
theorem dX0_match_91 : decode cX0_match 91 = .ok (.getfield 62, 3) := by decide +kernel
theorem dX0_match_94 : decode cX0_match 94 = .ok (.iload 4, 2) := by decide +kernel
theorem dX0_match_96 : decode cX0_match 96 = .ok (.iadd, 1) := by decide +kernel
theorem dX0_match_97 : decode cX0_match 97 = .ok (.putfield 62, 3) := by decide +kernel
theorem dX0_match_100 : decode cX0_match 100 = .ok (.aload_n 0, 1) := by decide +kernel
theorem dX0_match_101 : decode cX0_match 101 = .ok (.aload_n 0, 1) := by decide +kernel
theorem dX0_match_102 : decode cX0_match 102 = .ok (.getfield 15, 3) := by decide +kernel
theorem dX0_match_105 : decode cX0_match 105 = .ok (.iload_n 2, 1) := by decide +kernel
theorem dX0_match_106 : decode cX0_match 106 = .ok (.iaload, 1) := by decide +kernel
theorem dX0_match_107 : decode cX0_match 107 = .ok (.aload_n 0, 1) := by decide +kernel
theorem dX0_match_108 : decode cX0_match 108 = .ok (.getfield 15, 3) := by decide +kernel
theorem dX0_match_111 : decode cX0_match 111 = .ok (.iload_n 3, 1) := by decide +kernel
theorem dX0_match_112 : decode cX0_match 112 = .ok (.iaload, 1) := by decide +kernel
theorem dX0_match_113 : decode cX0_match 113 = .ok (.iadd, 1) := by decide +kernel
theorem dX0_match_114 : decode cX0_match 114 = .ok (.iconst 2, 1) := by decide +kernel
theorem dX0_match_115 : decode cX0_match 115 = .ok (.idiv, 1) := by decide +kernel
theorem dX0_match_116 : decode cX0_match 116 = .ok (.putfield 65, 3) := by decide +kernel
theorem dX0_match_119 : decode cX0_match 119 = .ok (.aload_n 0, 1) := by decide +kernel
theorem dX0_match_120 : decode cX0_match 120 = .ok (.dup, 1) := by decide +kernel
theorem dX0_match_121 : decode cX0_match 121 = .ok (.getfield 66, 3) := by decide +kernel
theorem dX0_match_124 : decode cX0_match 124 = .ok (.aload_n 0, 1) := by decide +kernel
theorem dX0_match_125 : decode cX0_match 125 = .ok (.getfield 15, 3) := by decide +kernel
theorem dX0_match_128 : decode cX0_match 128 = .ok (.iload_n 2, 1) := by decide +kernel
theorem dX0_match_129 : decode cX0_match 129 = .ok (.iaload, 1) := by decide +kernel
theorem dX0_match_130 : decode cX0_match 130 = .ok (.aload_n 0, 1) := by decide +kernel
theorem dX0_match_131 : decode cX0_match 131 = .ok (.getfield 15, 3) := by decide +kernel
theorem dX0_match_134 : decode cX0_match 134 = .ok (.iload_n 3, 1) := by decide +kernel
theorem dX0_match_135 : decode cX0_match 135 = .ok (.iaload, 1) := by decide +kernel
theorem dX0_match_136 : decode cX0_match 136 = .ok (.isub, 1) := by decide +kernel
theorem dX0_match_137 : decode cX0_match 137 = .ok (.iload 4, 2) := by decide +kernel
theorem dX0_match_139 : decode cX0_match 139 = .ok (.imul, 1) := by decide +kernel
theorem dX0_match_140 : decode cX0_match 140 = .ok (.iadd, 1) := by decide +kernel
theorem dX0_match_141 : decode cX0_match 141 = .ok (.putfield 66, 3) := by decide +kernel
theorem dX0_match_144 : decode cX0_match 144 = .ok (.iinc 1 1, 3) := by decide +kernel
theorem dX0_match_147 : decode cX0_match 147 = .ok (.goto (-129), 3) := by decide +kernel
theorem dX0_match_150 : decode cX0_match 150 = .ok (.return_, 1) := by decide +kernel
theorem dX0_fill_0 : decode cX0_fill 0 = .ok (.aload_n 0, 1) := by decide +kernel
theorem dX0_fill_1 : decode cX0_fill 1 = .ok (.getfield 18, 3) := by decide +kernel
theorem dX0_fill_4 : decode cX0_fill 4 = .ok (.iload_n 1, 1) := by decide +kernel
theorem dX0_fill_5 : decode cX0_fill 5 = .ok (.dup2, 1) := by decide +kernel
theorem dX0_fill_6 : decode cX0_fill 6 = .ok (.iaload, 1) := by decide +kernel
theorem dX0_fill_7 : decode cX0_fill 7 = .ok (.iload_n 2, 1) := by decide +kernel
theorem dX0_fill_8 : decode cX0_fill 8 = .ok (.iadd, 1) := by decide +kernel
theorem dX0_fill_9 : decode cX0_fill 9 = .ok (.iastore, 1) := by decide +kernel
theorem dX0_fill_10 : decode cX0_fill 10 = .ok (.aload_n 0, 1) := by decide +kernel
theorem dX0_fill_11 : decode cX0_fill 11 = .ok (.getfield 21, 3) := by decide +kernel
theorem dX0_fill_14 : decode cX0_fill 14 = .ok (.iload_n 1, 1) := by decide +kernel
theorem dX0_fill_15 : decode cX0_fill 15 = .ok (.dup2, 1) := by decide +kernel
theorem dX0_fill_16 : decode cX0_fill 16 = .ok (.iaload, 1) := by decide +kernel
theorem dX0_fill_17 : decode cX0_fill 17 = .ok (.iload_n 2, 1) := by decide +kernel
theorem dX0_fill_18 : decode cX0_fill 18 = .ok (.isub, 1) := by decide +kernel
theorem dX0_fill_19 : decode cX0_fill 19 = .ok (.iastore, 1) := by decide +kernel
theorem dX0_fill_20 : decode cX0_fill 20 = .ok (.return_, 1) := by decide +kernel
theorem dX0_firstBidLeft_0 : decode cX0_firstBidLeft 0 = .ok (.iconst (-1), 1) := by decide +kernel
theorem dX0_firstBidLeft_1 : decode cX0_firstBidLeft 1 = .ok (.istore_n 1, 1) := by decide +kernel
theorem dX0_firstBidLeft_2 : decode cX0_firstBidLeft 2 = .ok (.iconst 0, 1) := by decide +kernel
theorem dX0_firstBidLeft_3 : decode cX0_firstBidLeft 3 = .ok (.istore_n 2, 1) := by decide +kernel
theorem dX0_firstBidLeft_4 : decode cX0_firstBidLeft 4 = .ok (.iload_n 2, 1) := by decide +kernel
theorem dX0_firstBidLeft_5 : decode cX0_firstBidLeft 5 = .ok (.aload_n 0, 1) := by decide +kernel
theorem dX0_firstBidLeft_6 : decode cX0_firstBidLeft 6 = .ok (.getfield 31, 3) := by decide +kernel
theorem dX0_firstBidLeft_9 : decode cX0_firstBidLeft 9 = .ok (.if_icmp .ge 48, 3) := by decide +kernel
theorem dX0_firstBidLeft_12 : decode cX0_firstBidLeft 12 = .ok (.aload_n 0, 1) := by decide +kernel
theorem dX0_firstBidLeft_13 : decode cX0_firstBidLeft 13 = .ok (.getfield 11, 3) := by decide +kernel
theorem dX0_firstBidLeft_16 : decode cX0_firstBidLeft 16 = .ok (.iload_n 2, 1) := by decide +kernel
theorem dX0_firstBidLeft_17 : decode cX0_firstBidLeft 17 = .ok (.iaload, 1) := by decide +kernel
theorem dX0_firstBidLeft_18 : decode cX0_firstBidLeft 18 = .ok (.ifCond .ne 33, 3) := by decide +kernel
theorem dX0_firstBidLeft_21 : decode cX0_firstBidLeft 21 = .ok (.aload_n 0, 1) := by decide +kernel
theorem dX0_firstBidLeft_22 : decode cX0_firstBidLeft 22 = .ok (.getfield 21, 3) := by decide +kernel
theorem dX0_firstBidLeft_25 : decode cX0_firstBidLeft 25 = .ok (.iload_n 2, 1) := by decide +kernel
theorem dX0_firstBidLeft_26 : decode cX0_firstBidLeft 26 = .ok (.iaload, 1) := by decide +kernel
theorem dX0_firstBidLeft_27 : decode cX0_firstBidLeft 27 = .ok (.ifCond .le 24, 3) := by decide +kernel
theorem dX0_firstBidLeft_30 : decode cX0_firstBidLeft 30 = .ok (.iload_n 1, 1) := by decide +kernel
theorem dX0_firstBidLeft_31 : decode cX0_firstBidLeft 31 = .ok (.ifCond .lt 18, 3) := by decide +kernel
theorem dX0_firstBidLeft_34 : decode cX0_firstBidLeft 34 = .ok (.aload_n 0, 1) := by decide +kernel
theorem dX0_firstBidLeft_35 : decode cX0_firstBidLeft 35 = .ok (.getfield 15, 3) := by decide +kernel
theorem dX0_firstBidLeft_38 : decode cX0_firstBidLeft 38 = .ok (.iload_n 2, 1) := by decide +kernel
theorem dX0_firstBidLeft_39 : decode cX0_firstBidLeft 39 = .ok (.iaload, 1) := by decide +kernel
theorem dX0_firstBidLeft_40 : decode cX0_firstBidLeft 40 = .ok (.aload_n 0, 1) := by decide +kernel
theorem dX0_firstBidLeft_41 : decode cX0_firstBidLeft 41 = .ok (.getfield 15, 3) := by decide +kernel
theorem dX0_firstBidLeft_44 : decode cX0_firstBidLeft 44 = .ok (.iload_n 1, 1) := by decide +kernel
theorem dX0_firstBidLeft_45 : decode cX0_firstBidLeft 45 = .ok (.iaload, 1) := by decide +kernel
theorem dX0_firstBidLeft_46 : decode cX0_firstBidLeft 46 = .ok (.if_icmp .le 5, 3) := by decide +kernel
theorem dX0_firstBidLeft_49 : decode cX0_firstBidLeft 49 = .ok (.iload_n 2, 1) := by decide +kernel
theorem dX0_firstBidLeft_50 : decode cX0_firstBidLeft 50 = .ok (.istore_n 1, 1) := by decide +kernel
theorem dX0_firstBidLeft_51 : decode cX0_firstBidLeft 51 = .ok (.iinc 2 1, 3) := by decide +kernel
theorem dX0_firstBidLeft_54 : decode cX0_firstBidLeft 54 = .ok (.goto (-50), 3) := by decide +kernel
theorem dX0_firstBidLeft_57 : decode cX0_firstBidLeft 57 = .ok (.iload_n 1, 1) := by decide +kernel
theorem dX0_firstBidLeft_58 : decode cX0_firstBidLeft 58 = .ok (.ireturn, 1) := by decide +kernel
theorem dX0_firstAskLeft_0 : decode cX0_firstAskLeft 0 = .ok (.iconst (-1), 1) := by decide +kernel
theorem dX0_firstAskLeft_1 : decode cX0_firstAskLeft 1 = .ok (.istore_n 1, 1) := by decide +kernel
theorem dX0_firstAskLeft_2 : decode cX0_firstAskLeft 2 = .ok (.iconst 0, 1) := by decide +kernel
theorem dX0_firstAskLeft_3 : decode cX0_firstAskLeft 3 = .ok (.istore_n 2, 1) := by decide +kernel
theorem dX0_firstAskLeft_4 : decode cX0_firstAskLeft 4 = .ok (.iload_n 2, 1) := by decide +kernel
theorem dX0_firstAskLeft_5 : decode cX0_firstAskLeft 5 = .ok (.aload_n 0, 1) := by decide +kernel
theorem dX0_firstAskLeft_6 : decode cX0_firstAskLeft 6 = .ok (.getfield 31, 3) := by decide +kernel
theorem dX0_firstAskLeft_9 : decode cX0_firstAskLeft 9 = .ok (.if_icmp .ge 42, 3) := by decide +kernel
theorem dX0_firstAskLeft_12 : decode cX0_firstAskLeft 12 = .ok (.aload_n 0, 1) := by decide +kernel
theorem dX0_firstAskLeft_13 : decode cX0_firstAskLeft 13 = .ok (.getfield 11, 3) := by decide +kernel
theorem dX0_firstAskLeft_16 : decode cX0_firstAskLeft 16 = .ok (.iload_n 2, 1) := by decide +kernel
theorem dX0_firstAskLeft_17 : decode cX0_firstAskLeft 17 = .ok (.iaload, 1) := by decide +kernel
theorem dX0_firstAskLeft_18 : decode cX0_firstAskLeft 18 = .ok (.ifCond .eq 27, 3) := by decide +kernel
theorem dX0_firstAskLeft_21 : decode cX0_firstAskLeft 21 = .ok (.aload_n 0, 1) := by decide +kernel
theorem dX0_firstAskLeft_22 : decode cX0_firstAskLeft 22 = .ok (.getfield 21, 3) := by decide +kernel
theorem dX0_firstAskLeft_25 : decode cX0_firstAskLeft 25 = .ok (.iload_n 2, 1) := by decide +kernel
theorem dX0_firstAskLeft_26 : decode cX0_firstAskLeft 26 = .ok (.iaload, 1) := by decide +kernel
theorem dX0_firstAskLeft_27 : decode cX0_firstAskLeft 27 = .ok (.ifCond .le 18, 3) := by decide +kernel
theorem dX0_firstAskLeft_30 : decode cX0_firstAskLeft 30 = .ok (.iload_n 1, 1) := by decide +kernel
theorem dX0_firstAskLeft_31 : decode cX0_firstAskLeft 31 = .ok (.ifCond .lt 12, 3) := by decide +kernel
theorem dX0_firstAskLeft_34 : decode cX0_firstAskLeft 34 = .ok (.aload_n 0, 1) := by decide +kernel
theorem dX0_firstAskLeft_35 : decode cX0_firstAskLeft 35 = .ok (.iload_n 2, 1) := by decide +kernel
theorem dX0_firstAskLeft_36 : decode cX0_firstAskLeft 36 = .ok (.iload_n 1, 1) := by decide +kernel
theorem dX0_firstAskLeft_37 : decode cX0_firstAskLeft 37 = .ok (.invokevirtual 86, 3) := by decide +kernel
theorem dX0_firstAskLeft_40 : decode cX0_firstAskLeft 40 = .ok (.ifCond .eq 5, 3) := by decide +kernel
theorem dX0_firstAskLeft_43 : decode cX0_firstAskLeft 43 = .ok (.iload_n 2, 1) := by decide +kernel
theorem dX0_firstAskLeft_44 : decode cX0_firstAskLeft 44 = .ok (.istore_n 1, 1) := by decide +kernel
theorem dX0_firstAskLeft_45 : decode cX0_firstAskLeft 45 = .ok (.iinc 2 1, 3) := by decide +kernel
theorem dX0_firstAskLeft_48 : decode cX0_firstAskLeft 48 = .ok (.goto (-44), 3) := by decide +kernel
theorem dX0_firstAskLeft_51 : decode cX0_firstAskLeft 51 = .ok (.iload_n 1, 1) := by decide +kernel
theorem dX0_firstAskLeft_52 : decode cX0_firstAskLeft 52 = .ok (.ireturn, 1) := by decide +kernel
theorem dX0_isAskBefore_0 : decode cX0_isAskBefore 0 = .ok (.aload_n 0, 1) := by decide +kernel
theorem dX0_isAskBefore_1 : decode cX0_isAskBefore 1 = .ok (.getfield 15, 3) := by decide +kernel
theorem dX0_isAskBefore_4 : decode cX0_isAskBefore 4 = .ok (.iload_n 1, 1) := by decide +kernel
theorem dX0_isAskBefore_5 : decode cX0_isAskBefore 5 = .ok (.iaload, 1) := by decide +kernel
theorem dX0_isAskBefore_6 : decode cX0_isAskBefore 6 = .ok (.aload_n 0, 1) := by decide +kernel
theorem dX0_isAskBefore_7 : decode cX0_isAskBefore 7 = .ok (.getfield 15, 3) := by decide +kernel
theorem dX0_isAskBefore_10 : decode cX0_isAskBefore 10 = .ok (.iload_n 2, 1) := by decide +kernel
theorem dX0_isAskBefore_11 : decode cX0_isAskBefore 11 = .ok (.iaload, 1) := by decide +kernel
theorem dX0_isAskBefore_12 : decode cX0_isAskBefore 12 = .ok (.if_icmp .lt 33, 3) := by decide +kernel
theorem dX0_isAskBefore_15 : decode cX0_isAskBefore 15 = .ok (.aload_n 0, 1) := by decide +kernel
theorem dX0_isAskBefore_16 : decode cX0_isAskBefore 16 = .ok (.getfield 15, 3) := by decide +kernel
theorem dX0_isAskBefore_19 : decode cX0_isAskBefore 19 = .ok (.iload_n 1, 1) := by decide +kernel
theorem dX0_isAskBefore_20 : decode cX0_isAskBefore 20 = .ok (.iaload, 1) := by decide +kernel
theorem dX0_isAskBefore_21 : decode cX0_isAskBefore 21 = .ok (.aload_n 0, 1) := by decide +kernel
theorem dX0_isAskBefore_22 : decode cX0_isAskBefore 22 = .ok (.getfield 15, 3) := by decide +kernel
theorem dX0_isAskBefore_25 : decode cX0_isAskBefore 25 = .ok (.iload_n 2, 1) := by decide +kernel
theorem dX0_isAskBefore_26 : decode cX0_isAskBefore 26 = .ok (.iaload, 1) := by decide +kernel
theorem dX0_isAskBefore_27 : decode cX0_isAskBefore 27 = .ok (.if_icmp .ne 22, 3) := by decide +kernel
theorem dX0_isAskBefore_30 : decode cX0_isAskBefore 30 = .ok (.aload_n 0, 1) := by decide +kernel
theorem dX0_isAskBefore_31 : decode cX0_isAskBefore 31 = .ok (.getfield 11, 3) := by decide +kernel
theorem dX0_isAskBefore_34 : decode cX0_isAskBefore 34 = .ok (.iload_n 1, 1) := by decide +kernel
theorem dX0_isAskBefore_35 : decode cX0_isAskBefore 35 = .ok (.iaload, 1) := by decide +kernel
theorem dX0_isAskBefore_36 : decode cX0_isAskBefore 36 = .ok (.aload_n 0, 1) := by decide +kernel
theorem dX0_isAskBefore_37 : decode cX0_isAskBefore 37 = .ok (.getfield 11, 3) := by decide +kernel
theorem dX0_isAskBefore_40 : decode cX0_isAskBefore 40 = .ok (.iload_n 2, 1) := by decide +kernel
theorem dX0_isAskBefore_41 : decode cX0_isAskBefore 41 = .ok (.iaload, 1) := by decide +kernel
theorem dX0_isAskBefore_42 : decode cX0_isAskBefore 42 = .ok (.if_icmp .ge 7, 3) := by decide +kernel
theorem dX0_isAskBefore_45 : decode cX0_isAskBefore 45 = .ok (.iconst 1, 1) := by decide +kernel
theorem dX0_isAskBefore_46 : decode cX0_isAskBefore 46 = .ok (.goto 4, 3) := by decide +kernel
theorem dX0_isAskBefore_49 : decode cX0_isAskBefore 49 = .ok (.iconst 0, 1) := by decide +kernel
theorem dX0_isAskBefore_50 : decode cX0_isAskBefore 50 = .ok (.ireturn, 1) := by decide +kernel
theorem dX0_fillOf_0 : decode cX0_fillOf 0 = .ok (.iload_n 1, 1) := by decide +kernel
theorem dX0_fillOf_1 : decode cX0_fillOf 1 = .ok (.ifCond .lt 26, 3) := by decide +kernel
theorem dX0_fillOf_4 : decode cX0_fillOf 4 = .ok (.iload_n 1, 1) := by decide +kernel
theorem dX0_fillOf_5 : decode cX0_fillOf 5 = .ok (.aload_n 0, 1) := by decide +kernel
theorem dX0_fillOf_6 : decode cX0_fillOf 6 = .ok (.getfield 31, 3) := by decide +kernel
theorem dX0_fillOf_9 : decode cX0_fillOf 9 = .ok (.if_icmp .ge 18, 3) := by decide +kernel
theorem dX0_fillOf_12 : decode cX0_fillOf 12 = .ok (.iload_n 1, 1) := by decide +kernel
theorem dX0_fillOf_13 : decode cX0_fillOf 13 = .ok (.bipush 13, 2) := by decide +kernel
theorem dX0_fillOf_15 : decode cX0_fillOf 15 = .ok (.if_icmp .ge 12, 3) := by decide +kernel
theorem dX0_fillOf_18 : decode cX0_fillOf 18 = .ok (.aload_n 0, 1) := by decide +kernel
theorem dX0_fillOf_19 : decode cX0_fillOf 19 = .ok (.getfield 18, 3) := by decide +kernel
theorem dX0_fillOf_22 : decode cX0_fillOf 22 = .ok (.iload_n 1, 1) := by decide +kernel
theorem dX0_fillOf_23 : decode cX0_fillOf 23 = .ok (.iaload, 1) := by decide +kernel
theorem dX0_fillOf_24 : decode cX0_fillOf 24 = .ok (.goto 4, 3) := by decide +kernel
theorem dX0_fillOf_27 : decode cX0_fillOf 27 = .ok (.iconst 0, 1) := by decide +kernel
theorem dX0_fillOf_28 : decode cX0_fillOf 28 = .ok (.ireturn, 1) := by decide +kernel
theorem dX0_countWhollyFilled_0 : decode cX0_countWhollyFilled 0 = .ok (.iconst 0, 1) := by decide +kernel
theorem dX0_countWhollyFilled_1 : decode cX0_countWhollyFilled 1 = .ok (.istore_n 1, 1) := by decide +kernel
theorem dX0_countWhollyFilled_2 : decode cX0_countWhollyFilled 2 = .ok (.iconst 0, 1) := by decide +kernel
theorem dX0_countWhollyFilled_3 : decode cX0_countWhollyFilled 3 = .ok (.istore_n 2, 1) := by decide +kernel
theorem dX0_countWhollyFilled_4 : decode cX0_countWhollyFilled 4 = .ok (.iload_n 2, 1) := by decide +kernel
theorem dX0_countWhollyFilled_5 : decode cX0_countWhollyFilled 5 = .ok (.aload_n 0, 1) := by decide +kernel
theorem dX0_countWhollyFilled_6 : decode cX0_countWhollyFilled 6 = .ok (.getfield 31, 3) := by decide +kernel
theorem dX0_countWhollyFilled_9 : decode cX0_countWhollyFilled 9 = .ok (.if_icmp .ge 21, 3) := by decide +kernel
theorem dX0_countWhollyFilled_12 : decode cX0_countWhollyFilled 12 = .ok (.aload_n 0, 1) := by decide +kernel
theorem dX0_countWhollyFilled_13 : decode cX0_countWhollyFilled 13 = .ok (.getfield 21, 3) := by decide +kernel
theorem dX0_countWhollyFilled_16 : decode cX0_countWhollyFilled 16 = .ok (.iload_n 2, 1) := by decide +kernel
theorem dX0_countWhollyFilled_17 : decode cX0_countWhollyFilled 17 = .ok (.iaload, 1) := by decide +kernel
theorem dX0_countWhollyFilled_18 : decode cX0_countWhollyFilled 18 = .ok (.ifCond .ne 6, 3) := by decide +kernel
theorem dX0_countWhollyFilled_21 : decode cX0_countWhollyFilled 21 = .ok (.iinc 1 1, 3) := by decide +kernel
theorem dX0_countWhollyFilled_24 : decode cX0_countWhollyFilled 24 = .ok (.iinc 2 1, 3) := by decide +kernel
theorem dX0_countWhollyFilled_27 : decode cX0_countWhollyFilled 27 = .ok (.goto (-23), 3) := by decide +kernel
theorem dX0_countWhollyFilled_30 : decode cX0_countWhollyFilled 30 = .ok (.iload_n 1, 1) := by decide +kernel
theorem dX0_countWhollyFilled_31 : decode cX0_countWhollyFilled 31 = .ok (.ireturn, 1) := by decide +kernel
theorem dX1_init_0 : decode cX1_init 0 = .ok (.aload_n 0, 1) := by decide +kernel
theorem dX1_init_1 : decode cX1_init 1 = .ok (.invokespecial 3, 3) := by decide +kernel
theorem dX1_init_4 : decode cX1_init 4 = .ok (.aload_n 0, 1) := by decide +kernel
theorem dX1_init_5 : decode cX1_init 5 = .ok (.sipush 160, 3) := by decide +kernel
theorem dX1_init_8 : decode cX1_init 8 = .ok (.newarray .int, 2) := by decide +kernel
theorem dX1_init_10 : decode cX1_init 10 = .ok (.putfield 9, 3) := by decide +kernel
theorem dX1_init_13 : decode cX1_init 13 = .ok (.return_, 1) := by decide +kernel
theorem dX1_isFull_0 : decode cX1_isFull 0 = .ok (.aload_n 0, 1) := by decide +kernel
theorem dX1_isFull_1 : decode cX1_isFull 1 = .ok (.getfield 15, 3) := by decide +kernel
theorem dX1_isFull_4 : decode cX1_isFull 4 = .ok (.sipush 160, 3) := by decide +kernel
theorem dX1_isFull_7 : decode cX1_isFull 7 = .ok (.if_icmp .lt 7, 3) := by decide +kernel
theorem dX1_isFull_10 : decode cX1_isFull 10 = .ok (.iconst 1, 1) := by decide +kernel
theorem dX1_isFull_11 : decode cX1_isFull 11 = .ok (.goto 4, 3) := by decide +kernel
theorem dX1_isFull_14 : decode cX1_isFull 14 = .ok (.iconst 0, 1) := by decide +kernel
theorem dX1_isFull_15 : decode cX1_isFull 15 = .ok (.ireturn, 1) := by decide +kernel
theorem dX1_add_0 : decode cX1_add 0 = .ok (.aload_n 0, 1) := by decide +kernel
theorem dX1_add_1 : decode cX1_add 1 = .ok (.getfield 15, 3) := by decide +kernel
theorem dX1_add_4 : decode cX1_add 4 = .ok (.ifCond .lt 33, 3) := by decide +kernel
theorem dX1_add_7 : decode cX1_add 7 = .ok (.aload_n 0, 1) := by decide +kernel
theorem dX1_add_8 : decode cX1_add 8 = .ok (.getfield 15, 3) := by decide +kernel
theorem dX1_add_11 : decode cX1_add 11 = .ok (.sipush 160, 3) := by decide +kernel
theorem dX1_add_14 : decode cX1_add 14 = .ok (.if_icmp .ge 23, 3) := by decide +kernel
theorem dX1_add_17 : decode cX1_add 17 = .ok (.aload_n 0, 1) := by decide +kernel
theorem dX1_add_18 : decode cX1_add 18 = .ok (.getfield 9, 3) := by decide +kernel
theorem dX1_add_21 : decode cX1_add 21 = .ok (.aload_n 0, 1) := by decide +kernel
theorem dX1_add_22 : decode cX1_add 22 = .ok (.getfield 15, 3) := by decide +kernel
theorem dX1_add_25 : decode cX1_add 25 = .ok (.iload_n 1, 1) := by decide +kernel
theorem dX1_add_26 : decode cX1_add 26 = .ok (.iastore, 1) := by decide +kernel
theorem dX1_add_27 : decode cX1_add 27 = .ok (.aload_n 0, 1) := by decide +kernel
theorem dX1_add_28 : decode cX1_add 28 = .ok (.dup, 1) := by decide +kernel
theorem dX1_add_29 : decode cX1_add 29 = .ok (.getfield 15, 3) := by decide +kernel
theorem dX1_add_32 : decode cX1_add 32 = .ok (.iconst 1, 1) := by decide +kernel
theorem dX1_add_33 : decode cX1_add 33 = .ok (.iadd, 1) := by decide +kernel
theorem dX1_add_34 : decode cX1_add 34 = .ok (.putfield 15, 3) := by decide +kernel
theorem dX1_add_37 : decode cX1_add 37 = .ok (.aload_n 0, 1) := by decide +kernel
theorem dX1_add_38 : decode cX1_add 38 = .ok (.getfield 15, 3) := by decide +kernel
theorem dX1_add_41 : decode cX1_add 41 = .ok (.ireturn, 1) := by decide +kernel
theorem dX1_empty_0 : decode cX1_empty 0 = .ok (.aload_n 0, 1) := by decide +kernel
theorem dX1_empty_1 : decode cX1_empty 1 = .ok (.getfield 15, 3) := by decide +kernel
theorem dX1_empty_4 : decode cX1_empty 4 = .ok (.istore_n 1, 1) := by decide +kernel
theorem dX1_empty_5 : decode cX1_empty 5 = .ok (.aload_n 0, 1) := by decide +kernel
theorem dX1_empty_6 : decode cX1_empty 6 = .ok (.iconst 0, 1) := by decide +kernel
theorem dX1_empty_7 : decode cX1_empty 7 = .ok (.putfield 15, 3) := by decide +kernel
theorem dX1_empty_10 : decode cX1_empty 10 = .ok (.iload_n 1, 1) := by decide +kernel
theorem dX1_empty_11 : decode cX1_empty 11 = .ok (.ireturn, 1) := by decide +kernel
theorem dX1_readInto_0 : decode cX1_readInto 0 = .ok (.aload_n 0, 1) := by decide +kernel
theorem dX1_readInto_1 : decode cX1_readInto 1 = .ok (.iconst 0, 1) := by decide +kernel
theorem dX1_readInto_2 : decode cX1_readInto 2 = .ok (.putfield 19, 3) := by decide +kernel
theorem dX1_readInto_5 : decode cX1_readInto 5 = .ok (.aload_n 0, 1) := by decide +kernel
theorem dX1_readInto_6 : decode cX1_readInto 6 = .ok (.iconst 0, 1) := by decide +kernel
theorem dX1_readInto_7 : decode cX1_readInto 7 = .ok (.putfield 22, 3) := by decide +kernel
theorem dX1_readInto_10 : decode cX1_readInto 10 = .ok (.aload_n 0, 1) := by decide +kernel
theorem dX1_readInto_11 : decode cX1_readInto 11 = .ok (.aload_n 1, 1) := by decide +kernel
theorem dX1_readInto_12 : decode cX1_readInto 12 = .ok (.invokevirtual 26, 3) := by decide +kernel
theorem dX1_readInto_15 : decode cX1_readInto 15 = .ok (.aload_n 0, 1) := by decide +kernel
theorem dX1_readInto_16 : decode cX1_readInto 16 = .ok (.aload_n 1, 1) := by decide +kernel
theorem dX1_readInto_17 : decode cX1_readInto 17 = .ok (.invokevirtual 30, 3) := by decide +kernel
theorem dX1_readInto_20 : decode cX1_readInto 20 = .ok (.aload_n 0, 1) := by decide +kernel
theorem dX1_readInto_21 : decode cX1_readInto 21 = .ok (.aload_n 1, 1) := by decide +kernel
theorem dX1_readInto_22 : decode cX1_readInto 22 = .ok (.invokevirtual 33, 3) := by decide +kernel
theorem dX1_readInto_25 : decode cX1_readInto 25 = .ok (.aload_n 0, 1) := by decide +kernel
theorem dX1_readInto_26 : decode cX1_readInto 26 = .ok (.getfield 22, 3) := by decide +kernel
theorem dX1_readInto_29 : decode cX1_readInto 29 = .ok (.ifCond .eq 10, 3) := by decide +kernel
theorem dX1_readInto_32 : decode cX1_readInto 32 = .ok (.aload_n 0, 1) := by decide +kernel
theorem dX1_readInto_33 : decode cX1_readInto 33 = .ok (.getfield 19, 3) := by decide +kernel
theorem dX1_readInto_36 : decode cX1_readInto 36 = .ok (.goto 5, 3) := by decide +kernel
theorem dX1_readInto_39 : decode cX1_readInto 39 = .ok (.bipush (-9), 2) := by decide +kernel
theorem dX1_readInto_41 : decode cX1_readInto 41 = .ok (.ireturn, 1) := by decide +kernel
theorem dX1_readLink_0 : decode cX1_readLink 0 = .ok (.aload_n 0, 1) := by decide +kernel
theorem dX1_readLink_1 : decode cX1_readLink 1 = .ok (.bipush 76, 2) := by decide +kernel
theorem dX1_readLink_3 : decode cX1_readLink 3 = .ok (.invokevirtual 36, 3) := by decide +kernel
theorem dX1_readLink_6 : decode cX1_readLink 6 = .ok (.aload_n 0, 1) := by decide +kernel
theorem dX1_readLink_7 : decode cX1_readLink 7 = .ok (.iconst 3, 1) := by decide +kernel
theorem dX1_readLink_8 : decode cX1_readLink 8 = .ok (.iconst 1, 1) := by decide +kernel
theorem dX1_readLink_9 : decode cX1_readLink 9 = .ok (.sipush 999, 3) := by decide +kernel
theorem dX1_readLink_12 : decode cX1_readLink 12 = .ok (.invokevirtual 40, 3) := by decide +kernel
theorem dX1_readLink_15 : decode cX1_readLink 15 = .ok (.istore_n 2, 1) := by decide +kernel
theorem dX1_readLink_16 : decode cX1_readLink 16 = .ok (.aload_n 0, 1) := by decide +kernel
theorem dX1_readLink_17 : decode cX1_readLink 17 = .ok (.iconst 2, 1) := by decide +kernel
theorem dX1_readLink_18 : decode cX1_readLink 18 = .ok (.iconst 1, 1) := by decide +kernel
theorem dX1_readLink_19 : decode cX1_readLink 19 = .ok (.bipush 20, 2) := by decide +kernel
theorem dX1_readLink_21 : decode cX1_readLink 21 = .ok (.invokevirtual 40, 3) := by decide +kernel
theorem dX1_readLink_24 : decode cX1_readLink 24 = .ok (.istore_n 3, 1) := by decide +kernel
theorem dX1_readLink_25 : decode cX1_readLink 25 = .ok (.aload_n 0, 1) := by decide +kernel
theorem dX1_readLink_26 : decode cX1_readLink 26 = .ok (.iconst 2, 1) := by decide +kernel
theorem dX1_readLink_27 : decode cX1_readLink 27 = .ok (.iconst 1, 1) := by decide +kernel
theorem dX1_readLink_28 : decode cX1_readLink 28 = .ok (.bipush 50, 2) := by decide +kernel
theorem dX1_readLink_30 : decode cX1_readLink 30 = .ok (.invokevirtual 40, 3) := by decide +kernel
theorem dX1_readLink_33 : decode cX1_readLink 33 = .ok (.istore 4, 2) := by decide +kernel
theorem dX1_readLink_35 : decode cX1_readLink 35 = .ok (.aload_n 0, 1) := by decide +kernel
theorem dX1_readLink_36 : decode cX1_readLink 36 = .ok (.iconst 2, 1) := by decide +kernel
theorem dX1_readLink_37 : decode cX1_readLink 37 = .ok (.iconst 0, 1) := by decide +kernel
theorem dX1_readLink_38 : decode cX1_readLink 38 = .ok (.bipush 99, 2) := by decide +kernel
theorem dX1_readLink_40 : decode cX1_readLink 40 = .ok (.invokevirtual 40, 3) := by decide +kernel
theorem dX1_readLink_43 : decode cX1_readLink 43 = .ok (.istore 5, 2) := by decide +kernel
theorem dX1_readLink_45 : decode cX1_readLink 45 = .ok (.aload_n 1, 1) := by decide +kernel
theorem dX1_readLink_46 : decode cX1_readLink 46 = .ok (.iload_n 2, 1) := by decide +kernel
theorem dX1_readLink_47 : decode cX1_readLink 47 = .ok (.iload_n 3, 1) := by decide +kernel
theorem dX1_readLink_48 : decode cX1_readLink 48 = .ok (.iload 4, 2) := by decide +kernel
theorem dX1_readLink_50 : decode cX1_readLink 50 = .ok (.iload 5, 2) := by decide +kernel
theorem dX1_readLink_52 : decode cX1_readLink 52 = .ok (.invokevirtual 44, 3) := by decide +kernel
theorem dX1_readLink_55 : decode cX1_readLink 55 = .ok (.return_, 1) := by decide +kernel
theorem dX1_readTenants_0 : decode cX1_readTenants 0 = .ok (.iconst 0, 1) := by decide +kernel
theorem dX1_readTenants_1 : decode cX1_readTenants 1 = .ok (.istore_n 2, 1) := by decide +kernel
theorem dX1_readTenants_2 : decode cX1_readTenants 2 = .ok (.iload_n 2, 1) := by decide +kernel
theorem dX1_readTenants_3 : decode cX1_readTenants 3 = .ok (.bipush 6, 2) := by decide +kernel
theorem dX1_readTenants_5 : decode cX1_readTenants 5 = .ok (.if_icmp .ge 76, 3) := by decide +kernel
theorem dX1_readTenants_8 : decode cX1_readTenants 8 = .ok (.aload_n 0, 1) := by decide +kernel
theorem dX1_readTenants_9 : decode cX1_readTenants 9 = .ok (.getfield 22, 3) := by decide +kernel
theorem dX1_readTenants_12 : decode cX1_readTenants 12 = .ok (.ifCond .ne 69, 3) := by decide +kernel
theorem dX1_readTenants_15 : decode cX1_readTenants 15 = .ok (.iload_n 2, 1) := by decide +kernel
theorem dX1_readTenants_16 : decode cX1_readTenants 16 = .ok (.ifCond .le 13, 3) := by decide +kernel
theorem dX1_readTenants_19 : decode cX1_readTenants 19 = .ok (.aload_n 0, 1) := by decide +kernel
theorem dX1_readTenants_20 : decode cX1_readTenants 20 = .ok (.invokevirtual 50, 3) := by decide +kernel
theorem dX1_readTenants_23 : decode cX1_readTenants 23 = .ok (.bipush 116, 2) := by decide +kernel
theorem dX1_readTenants_25 : decode cX1_readTenants 25 = .ok (.if_icmp .eq 4, 3) := by decide +kernel
theorem dX1_readTenants_28 : decode cX1_readTenants 28 = .ok (.return_, 1) := by decide +kernel
theorem dX1_readTenants_29 : decode cX1_readTenants 29 = .ok (.aload_n 0, 1) := by decide +kernel
theorem dX1_readTenants_30 : decode cX1_readTenants 30 = .ok (.bipush 116, 2) := by decide +kernel
theorem dX1_readTenants_32 : decode cX1_readTenants 32 = .ok (.invokevirtual 36, 3) := by decide +kernel
theorem dX1_readTenants_35 : decode cX1_readTenants 35 = .ok (.aload_n 0, 1) := by decide +kernel
theorem dX1_readTenants_36 : decode cX1_readTenants 36 = .ok (.iconst 3, 1) := by decide +kernel
theorem dX1_readTenants_37 : decode cX1_readTenants 37 = .ok (.iconst 1, 1) := by decide +kernel
theorem dX1_readTenants_38 : decode cX1_readTenants 38 = .ok (.sipush 999, 3) := by decide +kernel
theorem dX1_readTenants_41 : decode cX1_readTenants 41 = .ok (.invokevirtual 40, 3) := by decide +kernel
theorem dX1_readTenants_44 : decode cX1_readTenants 44 = .ok (.istore_n 3, 1) := by decide +kernel
theorem dX1_readTenants_45 : decode cX1_readTenants 45 = .ok (.aload_n 0, 1) := by decide +kernel
theorem dX1_readTenants_46 : decode cX1_readTenants 46 = .ok (.iconst 2, 1) := by decide +kernel
theorem dX1_readTenants_47 : decode cX1_readTenants 47 = .ok (.iconst 0, 1) := by decide +kernel
theorem dX1_readTenants_48 : decode cX1_readTenants 48 = .ok (.bipush 99, 2) := by decide +kernel
theorem dX1_readTenants_50 : decode cX1_readTenants 50 = .ok (.invokevirtual 40, 3) := by decide +kernel
theorem dX1_readTenants_53 : decode cX1_readTenants 53 = .ok (.istore 4, 2) := by decide +kernel
theorem dX1_readTenants_55 : decode cX1_readTenants 55 = .ok (.aload_n 0, 1) := by decide +kernel
theorem dX1_readTenants_56 : decode cX1_readTenants 56 = .ok (.iconst 4, 1) := by decide +kernel
theorem dX1_readTenants_57 : decode cX1_readTenants 57 = .ok (.iconst 0, 1) := by decide +kernel
theorem dX1_readTenants_58 : decode cX1_readTenants 58 = .ok (.sipush 9999, 3) := by decide +kernel
theorem dX1_readTenants_61 : decode cX1_readTenants 61 = .ok (.invokevirtual 40, 3) := by decide +kernel
theorem dX1_readTenants_64 : decode cX1_readTenants 64 = .ok (.istore 5, 2) := by decide +kernel
theorem dX1_readTenants_66 : decode cX1_readTenants 66 = .ok (.aload_n 1, 1) := by decide +kernel
theorem dX1_readTenants_67 : decode cX1_readTenants 67 = .ok (.iload_n 3, 1) := by decide +kernel
theorem dX1_readTenants_68 : decode cX1_readTenants 68 = .ok (.iload 4, 2) := by decide +kernel
theorem dX1_readTenants_70 : decode cX1_readTenants 70 = .ok (.iload 5, 2) := by decide +kernel
theorem dX1_readTenants_72 : decode cX1_readTenants 72 = .ok (.invokevirtual 54, 3) := by decide +kernel
theorem dX1_readTenants_75 : decode cX1_readTenants 75 = .ok (.iinc 2 1, 3) := by decide +kernel
theorem dX1_readTenants_78 : decode cX1_readTenants 78 = .ok (.goto (-76), 3) := by decide +kernel
theorem dX1_readTenants_81 : decode cX1_readTenants 81 = .ok (.return_, 1) := by decide +kernel
theorem dX1_readMessages_0 : decode cX1_readMessages 0 = .ok (.iconst 0, 1) := by decide +kernel
theorem dX1_readMessages_1 : decode cX1_readMessages 1 = .ok (.istore_n 2, 1) := by decide +kernel
theorem dX1_readMessages_2 : decode cX1_readMessages 2 = .ok (.iload_n 2, 1) := by decide +kernel
theorem dX1_readMessages_3 : decode cX1_readMessages 3 = .ok (.sipush 160, 3) := by decide +kernel
theorem dX1_readMessages_6 : decode cX1_readMessages 6 = .ok (.if_icmp .ge 76, 3) := by decide +kernel
theorem dX1_readMessages_9 : decode cX1_readMessages 9 = .ok (.aload_n 0, 1) := by decide +kernel
theorem dX1_readMessages_10 : decode cX1_readMessages 10 = .ok (.getfield 22, 3) := by decide +kernel
theorem dX1_readMessages_13 : decode cX1_readMessages 13 = .ok (.ifCond .ne 69, 3) := by decide +kernel
theorem dX1_readMessages_16 : decode cX1_readMessages 16 = .ok (.aload_n 0, 1) := by decide +kernel
theorem dX1_readMessages_17 : decode cX1_readMessages 17 = .ok (.getfield 19, 3) := by decide +kernel
theorem dX1_readMessages_20 : decode cX1_readMessages 20 = .ok (.aload_n 0, 1) := by decide +kernel
theorem dX1_readMessages_21 : decode cX1_readMessages 21 = .ok (.getfield 15, 3) := by decide +kernel
theorem dX1_readMessages_24 : decode cX1_readMessages 24 = .ok (.if_icmp .ge 58, 3) := by decide +kernel
theorem dX1_readMessages_27 : decode cX1_readMessages 27 = .ok (.aload_n 0, 1) := by decide +kernel
theorem dX1_readMessages_28 : decode cX1_readMessages 28 = .ok (.aload_n 1, 1) := by decide +kernel
theorem dX1_readMessages_29 : decode cX1_readMessages 29 = .ok (.invokevirtual 58, 3) := by decide +kernel
theorem dX1_readMessages_32 : decode cX1_readMessages 32 = .ok (.putfield 22, 3) := by decide +kernel
theorem dX1_readMessages_35 : decode cX1_readMessages 35 = .ok (.aload_n 0, 1) := by decide +kernel
theorem dX1_readMessages_36 : decode cX1_readMessages 36 = .ok (.bipush 109, 2) := by decide +kernel
theorem dX1_readMessages_38 : decode cX1_readMessages 38 = .ok (.invokevirtual 36, 3) := by decide +kernel
theorem dX1_readMessages_41 : decode cX1_readMessages 41 = .ok (.aload_n 0, 1) := by decide +kernel
theorem dX1_readMessages_42 : decode cX1_readMessages 42 = .ok (.aload_n 1, 1) := by decide +kernel
theorem dX1_readMessages_43 : decode cX1_readMessages 43 = .ok (.invokevirtual 62, 3) := by decide +kernel
theorem dX1_readMessages_46 : decode cX1_readMessages 46 = .ok (.istore_n 3, 1) := by decide +kernel
theorem dX1_readMessages_47 : decode cX1_readMessages 47 = .ok (.aload_n 0, 1) := by decide +kernel
theorem dX1_readMessages_48 : decode cX1_readMessages 48 = .ok (.iconst 2, 1) := by decide +kernel
theorem dX1_readMessages_49 : decode cX1_readMessages 49 = .ok (.iconst 1, 1) := by decide +kernel
theorem dX1_readMessages_50 : decode cX1_readMessages 50 = .ok (.bipush 99, 2) := by decide +kernel
theorem dX1_readMessages_52 : decode cX1_readMessages 52 = .ok (.invokevirtual 40, 3) := by decide +kernel
theorem dX1_readMessages_55 : decode cX1_readMessages 55 = .ok (.istore 4, 2) := by decide +kernel
theorem dX1_readMessages_57 : decode cX1_readMessages 57 = .ok (.aload_n 0, 1) := by decide +kernel
theorem dX1_readMessages_58 : decode cX1_readMessages 58 = .ok (.getfield 22, 3) := by decide +kernel
theorem dX1_readMessages_61 : decode cX1_readMessages 61 = .ok (.ifCond .ne 15, 3) := by decide +kernel
theorem dX1_readMessages_64 : decode cX1_readMessages 64 = .ok (.aload_n 1, 1) := by decide +kernel
theorem dX1_readMessages_65 : decode cX1_readMessages 65 = .ok (.getfield 66, 3) := by decide +kernel
theorem dX1_readMessages_68 : decode cX1_readMessages 68 = .ok (.iload_n 3, 1) := by decide +kernel
theorem dX1_readMessages_69 : decode cX1_readMessages 69 = .ok (.aaload, 1) := by decide +kernel
theorem dX1_readMessages_70 : decode cX1_readMessages 70 = .ok (.iload 4, 2) := by decide +kernel
theorem dX1_readMessages_72 : decode cX1_readMessages 72 = .ok (.invokevirtual 70, 3) := by decide +kernel
theorem dX1_readMessages_75 : decode cX1_readMessages 75 = .ok (.pop, 1) := by decide +kernel
theorem dX1_readMessages_76 : decode cX1_readMessages 76 = .ok (.iinc 2 1, 3) := by decide +kernel
theorem dX1_readMessages_79 : decode cX1_readMessages 79 = .ok (.goto (-77), 3) := by decide +kernel
theorem dX1_readMessages_82 : decode cX1_readMessages 82 = .ok (.return_, 1) := by decide +kernel
theorem dX1_sign_0 : decode cX1_sign 0 = .ok (.aload_n 0, 1) := by decide +kernel
theorem dX1_sign_1 : decode cX1_sign 1 = .ok (.getfield 19, 3) := by decide +kernel
theorem dX1_sign_4 : decode cX1_sign 4 = .ok (.ifCond .lt 36, 3) := by decide +kernel
theorem dX1_sign_7 : decode cX1_sign 7 = .ok (.aload_n 0, 1) := by decide +kernel
theorem dX1_sign_8 : decode cX1_sign 8 = .ok (.getfield 19, 3) := by decide +kernel
theorem dX1_sign_11 : decode cX1_sign 11 = .ok (.aload_n 0, 1) := by decide +kernel
theorem dX1_sign_12 : decode cX1_sign 12 = .ok (.getfield 15, 3) := by decide +kernel
theorem dX1_sign_15 : decode cX1_sign 15 = .ok (.if_icmp .ge 25, 3) := by decide +kernel
theorem dX1_sign_18 : decode cX1_sign 18 = .ok (.aload_n 0, 1) := by decide +kernel
theorem dX1_sign_19 : decode cX1_sign 19 = .ok (.getfield 19, 3) := by decide +kernel
theorem dX1_sign_22 : decode cX1_sign 22 = .ok (.sipush 160, 3) := by decide +kernel
theorem dX1_sign_25 : decode cX1_sign 25 = .ok (.if_icmp .ge 15, 3) := by decide +kernel
theorem dX1_sign_28 : decode cX1_sign 28 = .ok (.aload_n 0, 1) := by decide +kernel
theorem dX1_sign_29 : decode cX1_sign 29 = .ok (.getfield 9, 3) := by decide +kernel
theorem dX1_sign_32 : decode cX1_sign 32 = .ok (.aload_n 0, 1) := by decide +kernel
theorem dX1_sign_33 : decode cX1_sign 33 = .ok (.getfield 19, 3) := by decide +kernel
theorem dX1_sign_36 : decode cX1_sign 36 = .ok (.iaload, 1) := by decide +kernel
theorem dX1_sign_37 : decode cX1_sign 37 = .ok (.goto 4, 3) := by decide +kernel
theorem dX1_sign_40 : decode cX1_sign 40 = .ok (.iconst (-1), 1) := by decide +kernel
theorem dX1_sign_41 : decode cX1_sign 41 = .ok (.ireturn, 1) := by decide +kernel
theorem dX1_readLetter_0 : decode cX1_readLetter 0 = .ok (.aload_n 0, 1) := by decide +kernel
theorem dX1_readLetter_1 : decode cX1_readLetter 1 = .ok (.aload_n 0, 1) := by decide +kernel
theorem dX1_readLetter_2 : decode cX1_readLetter 2 = .ok (.getfield 22, 3) := by decide +kernel
theorem dX1_readLetter_5 : decode cX1_readLetter 5 = .ok (.ifCond .ne 11, 3) := by decide +kernel
theorem dX1_readLetter_8 : decode cX1_readLetter 8 = .ok (.aload_n 0, 1) := by decide +kernel
theorem dX1_readLetter_9 : decode cX1_readLetter 9 = .ok (.invokevirtual 50, 3) := by decide +kernel
theorem dX1_readLetter_12 : decode cX1_readLetter 12 = .ok (.iload_n 1, 1) := by decide +kernel
theorem dX1_readLetter_13 : decode cX1_readLetter 13 = .ok (.if_icmp .eq 7, 3) := by decide +kernel
theorem dX1_readLetter_16 : decode cX1_readLetter 16 = .ok (.iconst 1, 1) := by decide +kernel
theorem dX1_readLetter_17 : decode cX1_readLetter 17 = .ok (.goto 4, 3) := by decide +kernel
theorem dX1_readLetter_20 : decode cX1_readLetter 20 = .ok (.iconst 0, 1) := by decide +kernel
theorem dX1_readLetter_21 : decode cX1_readLetter 21 = .ok (.putfield 22, 3) := by decide +kernel
theorem dX1_readLetter_24 : decode cX1_readLetter 24 = .ok (.aload_n 0, 1) := by decide +kernel
theorem dX1_readLetter_25 : decode cX1_readLetter 25 = .ok (.getfield 22, 3) := by decide +kernel
theorem dX1_readLetter_28 : decode cX1_readLetter 28 = .ok (.ifCond .ne 13, 3) := by decide +kernel
theorem dX1_readLetter_31 : decode cX1_readLetter 31 = .ok (.aload_n 0, 1) := by decide +kernel
theorem dX1_readLetter_32 : decode cX1_readLetter 32 = .ok (.dup, 1) := by decide +kernel
theorem dX1_readLetter_33 : decode cX1_readLetter 33 = .ok (.getfield 19, 3) := by decide +kernel
theorem dX1_readLetter_36 : decode cX1_readLetter 36 = .ok (.iconst 1, 1) := by decide +kernel
theorem dX1_readLetter_37 : decode cX1_readLetter 37 = .ok (.iadd, 1) := by decide +kernel
theorem dX1_readLetter_38 : decode cX1_readLetter 38 = .ok (.putfield 19, 3) := by decide +kernel
theorem dX1_readLetter_41 : decode cX1_readLetter 41 = .ok (.return_, 1) := by decide +kernel
theorem dX1_readQueue_0 : decode cX1_readQueue 0 = .ok (.aload_n 0, 1) := by decide +kernel
theorem dX1_readQueue_1 : decode cX1_readQueue 1 = .ok (.invokevirtual 50, 3) := by decide +kernel
theorem dX1_readQueue_4 : decode cX1_readQueue 4 = .ok (.bipush 48, 2) := by decide +kernel
theorem dX1_readQueue_6 : decode cX1_readQueue 6 = .ok (.isub, 1) := by decide +kernel
theorem dX1_readQueue_7 : decode cX1_readQueue 7 = .ok (.istore_n 2, 1) := by decide +kernel
theorem dX1_readQueue_8 : decode cX1_readQueue 8 = .ok (.aload_n 0, 1) := by decide +kernel
theorem dX1_readQueue_9 : decode cX1_readQueue 9 = .ok (.aload_n 0, 1) := by decide +kernel
theorem dX1_readQueue_10 : decode cX1_readQueue 10 = .ok (.getfield 22, 3) := by decide +kernel
theorem dX1_readQueue_13 : decode cX1_readQueue 13 = .ok (.ifCond .ne 23, 3) := by decide +kernel
theorem dX1_readQueue_16 : decode cX1_readQueue 16 = .ok (.aload_n 1, 1) := by decide +kernel
theorem dX1_readQueue_17 : decode cX1_readQueue 17 = .ok (.iload_n 2, 1) := by decide +kernel
theorem dX1_readQueue_18 : decode cX1_readQueue 18 = .ok (.invokevirtual 76, 3) := by decide +kernel
theorem dX1_readQueue_21 : decode cX1_readQueue 21 = .ok (.ifCond .eq 15, 3) := by decide +kernel
theorem dX1_readQueue_24 : decode cX1_readQueue 24 = .ok (.aload_n 1, 1) := by decide +kernel
theorem dX1_readQueue_25 : decode cX1_readQueue 25 = .ok (.getfield 66, 3) := by decide +kernel
theorem dX1_readQueue_28 : decode cX1_readQueue 28 = .ok (.iload_n 2, 1) := by decide +kernel
theorem dX1_readQueue_29 : decode cX1_readQueue 29 = .ok (.aaload, 1) := by decide +kernel
theorem dX1_readQueue_30 : decode cX1_readQueue 30 = .ok (.invokevirtual 80, 3) := by decide +kernel
theorem dX1_readQueue_33 : decode cX1_readQueue 33 = .ok (.ifCond .eq 7, 3) := by decide +kernel
theorem dX1_readQueue_36 : decode cX1_readQueue 36 = .ok (.iconst 1, 1) := by decide +kernel
theorem dX1_readQueue_37 : decode cX1_readQueue 37 = .ok (.goto 4, 3) := by decide +kernel
theorem dX1_readQueue_40 : decode cX1_readQueue 40 = .ok (.iconst 0, 1) := by decide +kernel
theorem dX1_readQueue_41 : decode cX1_readQueue 41 = .ok (.putfield 22, 3) := by decide +kernel
theorem dX1_readQueue_44 : decode cX1_readQueue 44 = .ok (.aload_n 0, 1) := by decide +kernel
theorem dX1_readQueue_45 : decode cX1_readQueue 45 = .ok (.getfield 22, 3) := by decide +kernel
theorem dX1_readQueue_48 : decode cX1_readQueue 48 = .ok (.ifCond .ne 13, 3) := by decide +kernel
theorem dX1_readQueue_51 : decode cX1_readQueue 51 = .ok (.aload_n 0, 1) := by decide +kernel
theorem dX1_readQueue_52 : decode cX1_readQueue 52 = .ok (.dup, 1) := by decide +kernel
theorem dX1_readQueue_53 : decode cX1_readQueue 53 = .ok (.getfield 19, 3) := by decide +kernel
theorem dX1_readQueue_56 : decode cX1_readQueue 56 = .ok (.iconst 1, 1) := by decide +kernel
theorem dX1_readQueue_57 : decode cX1_readQueue 57 = .ok (.iadd, 1) := by decide +kernel
theorem dX1_readQueue_58 : decode cX1_readQueue 58 = .ok (.putfield 19, 3) := by decide +kernel
theorem dX1_readQueue_61 : decode cX1_readQueue 61 = .ok (.iload_n 2, 1) := by decide +kernel
theorem dX1_readQueue_62 : decode cX1_readQueue 62 = .ok (.ireturn, 1) := by decide +kernel
theorem dX1_readNumber_0 : decode cX1_readNumber 0 = .ok (.iconst 1, 1) := by decide +kernel
theorem dX1_readNumber_1 : decode cX1_readNumber 1 = .ok (.istore 4, 2) := by decide +kernel
theorem dX1_readNumber_3 : decode cX1_readNumber 3 = .ok (.iconst 0, 1) := by decide +kernel
theorem dX1_readNumber_4 : decode cX1_readNumber 4 = .ok (.istore 5, 2) := by decide +kernel
theorem dX1_readNumber_6 : decode cX1_readNumber 6 = .ok (.iload 5, 2) := by decide +kernel
theorem dX1_readNumber_8 : decode cX1_readNumber 8 = .ok (.iload_n 1, 1) := by decide +kernel
theorem dX1_readNumber_9 : decode cX1_readNumber 9 = .ok (.if_icmp .ge 16, 3) := by decide +kernel
theorem dX1_readNumber_12 : decode cX1_readNumber 12 = .ok (.iload 4, 2) := by decide +kernel
theorem dX1_readNumber_14 : decode cX1_readNumber 14 = .ok (.bipush 10, 2) := by decide +kernel
theorem dX1_readNumber_16 : decode cX1_readNumber 16 = .ok (.imul, 1) := by decide +kernel
theorem dX1_readNumber_17 : decode cX1_readNumber 17 = .ok (.istore 4, 2) := by decide +kernel
theorem dX1_readNumber_19 : decode cX1_readNumber 19 = .ok (.iinc 5 1, 3) := by decide +kernel
theorem dX1_readNumber_22 : decode cX1_readNumber 22 = .ok (.goto (-16), 3) := by decide +kernel
theorem dX1_readNumber_25 : decode cX1_readNumber 25 = .ok (.iconst 0, 1) := by decide +kernel
theorem dX1_readNumber_26 : decode cX1_readNumber 26 = .ok (.istore 5, 2) := by decide +kernel
theorem dX1_readNumber_28 : decode cX1_readNumber 28 = .ok (.iconst 0, 1) := by decide +kernel
theorem dX1_readNumber_29 : decode cX1_readNumber 29 = .ok (.istore 6, 2) := by decide +kernel
theorem dX1_readNumber_31 : decode cX1_readNumber 31 = .ok (.iload 6, 2) := by decide +kernel
theorem dX1_readNumber_33 : decode cX1_readNumber 33 = .ok (.iload_n 1, 1) := by decide +kernel
theorem dX1_readNumber_34 : decode cX1_readNumber 34 = .ok (.if_icmp .ge 107, 3) := by decide +kernel
theorem dX1_readNumber_37 : decode cX1_readNumber 37 = .ok (.aload_n 0, 1) := by decide +kernel
theorem dX1_readNumber_38 : decode cX1_readNumber 38 = .ok (.getfield 22, 3) := by decide +kernel
theorem dX1_readNumber_41 : decode cX1_readNumber 41 = .ok (.ifCond .ne 100, 3) := by decide +kernel
theorem dX1_readNumber_44 : decode cX1_readNumber 44 = .ok (.iload 4, 2) := by decide +kernel
theorem dX1_readNumber_46 : decode cX1_readNumber 46 = .ok (.bipush 10, 2) := by decide +kernel
theorem dX1_readNumber_48 : decode cX1_readNumber 48 = .ok (.idiv, 1) := by decide +kernel
theorem dX1_readNumber_49 : decode cX1_readNumber 49 = .ok (.istore 4, 2) := by decide +kernel
theorem dX1_readNumber_51 : decode cX1_readNumber 51 = .ok (.aload_n 0, 1) := by decide +kernel
theorem dX1_readNumber_52 : decode cX1_readNumber 52 = .ok (.invokevirtual 50, 3) := by decide +kernel
theorem dX1_readNumber_55 : decode cX1_readNumber 55 = .ok (.bipush 48, 2) := by decide +kernel
theorem dX1_readNumber_57 : decode cX1_readNumber 57 = .ok (.isub, 1) := by decide +kernel
theorem dX1_readNumber_58 : decode cX1_readNumber 58 = .ok (.istore 7, 2) := by decide +kernel
theorem dX1_readNumber_60 : decode cX1_readNumber 60 = .ok (.iload 5, 2) := by decide +kernel
theorem dX1_readNumber_62 : decode cX1_readNumber 62 = .ok (.bipush 10, 2) := by decide +kernel
theorem dX1_readNumber_64 : decode cX1_readNumber 64 = .ok (.imul, 1) := by decide +kernel
theorem dX1_readNumber_65 : decode cX1_readNumber 65 = .ok (.iload 7, 2) := by decide +kernel
theorem dX1_readNumber_67 : decode cX1_readNumber 67 = .ok (.iadd, 1) := by decide +kernel
theorem dX1_readNumber_68 : decode cX1_readNumber 68 = .ok (.istore 8, 2) := by decide +kernel
theorem dX1_readNumber_70 : decode cX1_readNumber 70 = .ok (.aload_n 0, 1) := by decide +kernel
theorem dX1_readNumber_71 : decode cX1_readNumber 71 = .ok (.iload 7, 2) := by decide +kernel
theorem dX1_readNumber_73 : decode cX1_readNumber 73 = .ok (.ifCond .lt 33, 3) := by decide +kernel
theorem dX1_readNumber_76 : decode cX1_readNumber 76 = .ok (.iload 7, 2) := by decide +kernel
theorem dX1_readNumber_78 : decode cX1_readNumber 78 = .ok (.bipush 9, 2) := by decide +kernel
theorem dX1_readNumber_80 : decode cX1_readNumber 80 = .ok (.if_icmp .gt 26, 3) := by decide +kernel
theorem dX1_readNumber_83 : decode cX1_readNumber 83 = .ok (.iload 8, 2) := by decide +kernel
theorem dX1_readNumber_85 : decode cX1_readNumber 85 = .ok (.iload 4, 2) := by decide +kernel
theorem dX1_readNumber_87 : decode cX1_readNumber 87 = .ok (.imul, 1) := by decide +kernel
theorem dX1_readNumber_88 : decode cX1_readNumber 88 = .ok (.iload_n 3, 1) := by decide +kernel
theorem dX1_readNumber_89 : decode cX1_readNumber 89 = .ok (.if_icmp .gt 17, 3) := by decide +kernel
theorem dX1_readNumber_92 : decode cX1_readNumber 92 = .ok (.iload 8, 2) := by decide +kernel
theorem dX1_readNumber_94 : decode cX1_readNumber 94 = .ok (.iload 4, 2) := by decide +kernel
theorem dX1_readNumber_96 : decode cX1_readNumber 96 = .ok (.imul, 1) := by decide +kernel
theorem dX1_readNumber_97 : decode cX1_readNumber 97 = .ok (.iload 4, 2) := by decide +kernel
theorem dX1_readNumber_99 : decode cX1_readNumber 99 = .ok (.iadd, 1) := by decide +kernel
theorem dX1_readNumber_100 : decode cX1_readNumber 100 = .ok (.iconst 1, 1) := by decide +kernel
theorem dX1_readNumber_101 : decode cX1_readNumber 101 = .ok (.isub, 1) := by decide +kernel
theorem dX1_readNumber_102 : decode cX1_readNumber 102 = .ok (.iload_n 2, 1) := by decide +kernel
theorem dX1_readNumber_103 : decode cX1_readNumber 103 = .ok (.if_icmp .ge 7, 3) := by decide +kernel
theorem dX1_readNumber_106 : decode cX1_readNumber 106 = .ok (.iconst 1, 1) := by decide +kernel
theorem dX1_readNumber_107 : decode cX1_readNumber 107 = .ok (.goto 4, 3) := by decide +kernel
theorem dX1_readNumber_110 : decode cX1_readNumber 110 = .ok (.iconst 0, 1) := by decide +kernel
theorem dX1_readNumber_111 : decode cX1_readNumber 111 = .ok (.putfield 22, 3) := by decide +kernel
theorem dX1_readNumber_114 : decode cX1_readNumber 114 = .ok (.aload_n 0, 1) := by decide +kernel
theorem dX1_readNumber_115 : decode cX1_readNumber 115 = .ok (.getfield 22, 3) := by decide +kernel
theorem dX1_readNumber_118 : decode cX1_readNumber 118 = .ok (.ifCond .ne 17, 3) := by decide +kernel
theorem dX1_readNumber_121 : decode cX1_readNumber 121 = .ok (.iload 8, 2) := by decide +kernel
theorem dX1_readNumber_123 : decode cX1_readNumber 123 = .ok (.istore 5, 2) := by decide +kernel
theorem dX1_readNumber_125 : decode cX1_readNumber 125 = .ok (.aload_n 0, 1) := by decide +kernel
theorem dX1_readNumber_126 : decode cX1_readNumber 126 = .ok (.dup, 1) := by decide +kernel
theorem dX1_readNumber_127 : decode cX1_readNumber 127 = .ok (.getfield 19, 3) := by decide +kernel
theorem dX1_readNumber_130 : decode cX1_readNumber 130 = .ok (.iconst 1, 1) := by decide +kernel
theorem dX1_readNumber_131 : decode cX1_readNumber 131 = .ok (.iadd, 1) := by decide +kernel
theorem dX1_readNumber_132 : decode cX1_readNumber 132 = .ok (.putfield 19, 3) := by decide +kernel
theorem dX1_readNumber_135 : decode cX1_readNumber 135 = .ok (.iinc 6 1, 3) := by decide +kernel
theorem dX1_readNumber_138 : decode cX1_readNumber 138 = .ok (.goto (-107), 3) := by decide +kernel
theorem dX1_readNumber_141 : decode cX1_readNumber 141 = .ok (.iload 5, 2) := by decide +kernel
theorem dX1_readNumber_143 : decode cX1_readNumber 143 = .ok (.ireturn, 1) := by decide +kernel
theorem dX2_init_0 : decode cX2_init 0 = .ok (.aload_n 0, 1) := by decide +kernel
theorem dX2_init_1 : decode cX2_init 1 = .ok (.invokespecial 3, 3) := by decide +kernel
theorem dX2_init_4 : decode cX2_init 4 = .ok (.aload_n 0, 1) := by decide +kernel
theorem dX2_init_5 : decode cX2_init 5 = .ok (.bipush 14, 2) := by decide +kernel
theorem dX2_init_7 : decode cX2_init 7 = .ok (.anewarray 9, 3) := by decide +kernel
theorem dX2_init_10 : decode cX2_init 10 = .ok (.putfield 11, 3) := by decide +kernel
theorem dX2_init_13 : decode cX2_init 13 = .ok (.return_, 1) := by decide +kernel
theorem dX2_remember_0 : decode cX2_remember 0 = .ok (.aload_n 0, 1) := by decide +kernel
theorem dX2_remember_1 : decode cX2_remember 1 = .ok (.getfield 11, 3) := by decide +kernel
theorem dX2_remember_4 : decode cX2_remember 4 = .ok (.aload_n 0, 1) := by decide +kernel
theorem dX2_remember_5 : decode cX2_remember 5 = .ok (.getfield 17, 3) := by decide +kernel
theorem dX2_remember_8 : decode cX2_remember 8 = .ok (.aaload, 1) := by decide +kernel
theorem dX2_remember_9 : decode cX2_remember 9 = .ok (.astore_n 2, 1) := by decide +kernel
theorem dX2_remember_10 : decode cX2_remember 10 = .ok (.aload_n 2, 1) := by decide +kernel
theorem dX2_remember_11 : decode cX2_remember 11 = .ok (.ifnonnull 21, 3) := by decide +kernel
theorem dX2_remember_14 : decode cX2_remember 14 = .ok (.new 9, 3) := by decide +kernel
theorem dX2_remember_17 : decode cX2_remember 17 = .ok (.dup, 1) := by decide +kernel
theorem dX2_remember_18 : decode cX2_remember 18 = .ok (.invokespecial 21, 3) := by decide +kernel
theorem dX2_remember_21 : decode cX2_remember 21 = .ok (.astore_n 2, 1) := by decide +kernel
theorem dX2_remember_22 : decode cX2_remember 22 = .ok (.aload_n 0, 1) := by decide +kernel
theorem dX2_remember_23 : decode cX2_remember 23 = .ok (.getfield 11, 3) := by decide +kernel
theorem dX2_remember_26 : decode cX2_remember 26 = .ok (.aload_n 0, 1) := by decide +kernel
theorem dX2_remember_27 : decode cX2_remember 27 = .ok (.getfield 17, 3) := by decide +kernel
theorem dX2_remember_30 : decode cX2_remember 30 = .ok (.aload_n 2, 1) := by decide +kernel
theorem dX2_remember_31 : decode cX2_remember 31 = .ok (.aastore, 1) := by decide +kernel
theorem dX2_remember_32 : decode cX2_remember 32 = .ok (.aload_n 2, 1) := by decide +kernel
theorem dX2_remember_33 : decode cX2_remember 33 = .ok (.aload_n 1, 1) := by decide +kernel
theorem dX2_remember_34 : decode cX2_remember 34 = .ok (.invokevirtual 22, 3) := by decide +kernel
theorem dX2_remember_37 : decode cX2_remember 37 = .ok (.aload_n 0, 1) := by decide +kernel
theorem dX2_remember_38 : decode cX2_remember 38 = .ok (.aload_n 0, 1) := by decide +kernel
theorem dX2_remember_39 : decode cX2_remember 39 = .ok (.getfield 17, 3) := by decide +kernel
theorem dX2_remember_42 : decode cX2_remember 42 = .ok (.iconst 1, 1) := by decide +kernel
theorem dX2_remember_43 : decode cX2_remember 43 = .ok (.iadd, 1) := by decide +kernel
theorem dX2_remember_44 : decode cX2_remember 44 = .ok (.bipush 14, 2) := by decide +kernel
theorem dX2_remember_46 : decode cX2_remember 46 = .ok (.irem, 1) := by decide +kernel
theorem dX2_remember_47 : decode cX2_remember 47 = .ok (.putfield 17, 3) := by decide +kernel
theorem dX2_remember_50 : decode cX2_remember 50 = .ok (.aload_n 0, 1) := by decide +kernel
theorem dX2_remember_51 : decode cX2_remember 51 = .ok (.bipush 14, 2) := by decide +kernel
theorem dX2_remember_53 : decode cX2_remember 53 = .ok (.aload_n 0, 1) := by decide +kernel
theorem dX2_remember_54 : decode cX2_remember 54 = .ok (.getfield 26, 3) := by decide +kernel
theorem dX2_remember_57 : decode cX2_remember 57 = .ok (.iconst 1, 1) := by decide +kernel
theorem dX2_remember_58 : decode cX2_remember 58 = .ok (.iadd, 1) := by decide +kernel
theorem dX2_remember_59 : decode cX2_remember 59 = .ok (.invokestatic 29, 3) := by decide +kernel
theorem dX2_remember_62 : decode cX2_remember 62 = .ok (.putfield 26, 3) := by decide +kernel
theorem dX2_remember_65 : decode cX2_remember 65 = .ok (.return_, 1) := by decide +kernel
theorem dX2_takeBack_0 : decode cX2_takeBack 0 = .ok (.aload_n 0, 1) := by decide +kernel
theorem dX2_takeBack_1 : decode cX2_takeBack 1 = .ok (.getfield 17, 3) := by decide +kernel
theorem dX2_takeBack_4 : decode cX2_takeBack 4 = .ok (.bipush 14, 2) := by decide +kernel
theorem dX2_takeBack_6 : decode cX2_takeBack 6 = .ok (.iadd, 1) := by decide +kernel
theorem dX2_takeBack_7 : decode cX2_takeBack 7 = .ok (.iconst 1, 1) := by decide +kernel
theorem dX2_takeBack_8 : decode cX2_takeBack 8 = .ok (.isub, 1) := by decide +kernel
theorem dX2_takeBack_9 : decode cX2_takeBack 9 = .ok (.bipush 14, 2) := by decide +kernel
theorem dX2_takeBack_11 : decode cX2_takeBack 11 = .ok (.irem, 1) := by decide +kernel
theorem dX2_takeBack_12 : decode cX2_takeBack 12 = .ok (.istore_n 2, 1) := by decide +kernel
theorem dX2_takeBack_13 : decode cX2_takeBack 13 = .ok (.aload_n 0, 1) := by decide +kernel
theorem dX2_takeBack_14 : decode cX2_takeBack 14 = .ok (.getfield 11, 3) := by decide +kernel
theorem dX2_takeBack_17 : decode cX2_takeBack 17 = .ok (.iload_n 2, 1) := by decide +kernel
theorem dX2_takeBack_18 : decode cX2_takeBack 18 = .ok (.aaload, 1) := by decide +kernel
theorem dX2_takeBack_19 : decode cX2_takeBack 19 = .ok (.astore_n 3, 1) := by decide +kernel
theorem dX2_takeBack_20 : decode cX2_takeBack 20 = .ok (.aload_n 0, 1) := by decide +kernel
theorem dX2_takeBack_21 : decode cX2_takeBack 21 = .ok (.getfield 26, 3) := by decide +kernel
theorem dX2_takeBack_24 : decode cX2_takeBack 24 = .ok (.ifCond .le 27, 3) := by decide +kernel
theorem dX2_takeBack_27 : decode cX2_takeBack 27 = .ok (.aload_n 3, 1) := by decide +kernel
theorem dX2_takeBack_28 : decode cX2_takeBack 28 = .ok (.ifnull 23, 3) := by decide +kernel
theorem dX2_takeBack_31 : decode cX2_takeBack 31 = .ok (.aload_n 1, 1) := by decide +kernel
theorem dX2_takeBack_32 : decode cX2_takeBack 32 = .ok (.aload_n 3, 1) := by decide +kernel
theorem dX2_takeBack_33 : decode cX2_takeBack 33 = .ok (.invokevirtual 22, 3) := by decide +kernel
theorem dX2_takeBack_36 : decode cX2_takeBack 36 = .ok (.aload_n 0, 1) := by decide +kernel
theorem dX2_takeBack_37 : decode cX2_takeBack 37 = .ok (.iload_n 2, 1) := by decide +kernel
theorem dX2_takeBack_38 : decode cX2_takeBack 38 = .ok (.putfield 17, 3) := by decide +kernel
theorem dX2_takeBack_41 : decode cX2_takeBack 41 = .ok (.aload_n 0, 1) := by decide +kernel
theorem dX2_takeBack_42 : decode cX2_takeBack 42 = .ok (.dup, 1) := by decide +kernel
theorem dX2_takeBack_43 : decode cX2_takeBack 43 = .ok (.getfield 26, 3) := by decide +kernel
theorem dX2_takeBack_46 : decode cX2_takeBack 46 = .ok (.iconst 1, 1) := by decide +kernel
theorem dX2_takeBack_47 : decode cX2_takeBack 47 = .ok (.isub, 1) := by decide +kernel
theorem dX2_takeBack_48 : decode cX2_takeBack 48 = .ok (.putfield 26, 3) := by decide +kernel
theorem dX2_takeBack_51 : decode cX2_takeBack 51 = .ok (.aload_n 0, 1) := by decide +kernel
theorem dX2_takeBack_52 : decode cX2_takeBack 52 = .ok (.getfield 26, 3) := by decide +kernel
theorem dX2_takeBack_55 : decode cX2_takeBack 55 = .ok (.ireturn, 1) := by decide +kernel
theorem dX2_forget_0 : decode cX2_forget 0 = .ok (.aload_n 0, 1) := by decide +kernel
theorem dX2_forget_1 : decode cX2_forget 1 = .ok (.iconst 0, 1) := by decide +kernel
theorem dX2_forget_2 : decode cX2_forget 2 = .ok (.putfield 26, 3) := by decide +kernel
theorem dX2_forget_5 : decode cX2_forget 5 = .ok (.return_, 1) := by decide +kernel
theorem dX3_init_0 : decode cX3_init 0 = .ok (.aload_n 0, 1) := by decide +kernel
theorem dX3_init_1 : decode cX3_init 1 = .ok (.invokespecial 1, 3) := by decide +kernel
theorem dX3_init_4 : decode cX3_init 4 = .ok (.return_, 1) := by decide +kernel
theorem dX3_begin_0 : decode cX3_begin 0 = .ok (.aload_n 0, 1) := by decide +kernel
theorem dX3_begin_1 : decode cX3_begin 1 = .ok (.iload_n 1, 1) := by decide +kernel
theorem dX3_begin_2 : decode cX3_begin 2 = .ok (.putfield 7, 3) := by decide +kernel
theorem dX3_begin_5 : decode cX3_begin 5 = .ok (.aload_n 0, 1) := by decide +kernel
theorem dX3_begin_6 : decode cX3_begin 6 = .ok (.iload_n 2, 1) := by decide +kernel
theorem dX3_begin_7 : decode cX3_begin 7 = .ok (.putfield 13, 3) := by decide +kernel
theorem dX3_begin_10 : decode cX3_begin 10 = .ok (.aload_n 0, 1) := by decide +kernel
theorem dX3_begin_11 : decode cX3_begin 11 = .ok (.iload_n 3, 1) := by decide +kernel
theorem dX3_begin_12 : decode cX3_begin 12 = .ok (.putfield 16, 3) := by decide +kernel
theorem dX3_begin_15 : decode cX3_begin 15 = .ok (.aload_n 0, 1) := by decide +kernel
theorem dX3_begin_16 : decode cX3_begin 16 = .ok (.iload 4, 2) := by decide +kernel
theorem dX3_begin_18 : decode cX3_begin 18 = .ok (.putfield 19, 3) := by decide +kernel
theorem dX3_begin_21 : decode cX3_begin 21 = .ok (.return_, 1) := by decide +kernel
theorem dX4_init_0 : decode cX4_init 0 = .ok (.aload_n 0, 1) := by decide +kernel
theorem dX4_init_1 : decode cX4_init 1 = .ok (.invokespecial 3, 3) := by decide +kernel
theorem dX4_init_4 : decode cX4_init 4 = .ok (.aload_n 0, 1) := by decide +kernel
theorem dX4_init_5 : decode cX4_init 5 = .ok (.bipush 6, 2) := by decide +kernel
theorem dX4_init_7 : decode cX4_init 7 = .ok (.anewarray 9, 3) := by decide +kernel
theorem dX4_init_10 : decode cX4_init 10 = .ok (.putfield 11, 3) := by decide +kernel
theorem dX4_init_13 : decode cX4_init 13 = .ok (.aload_n 0, 1) := by decide +kernel
theorem dX4_init_14 : decode cX4_init 14 = .ok (.bipush 12, 2) := by decide +kernel
theorem dX4_init_16 : decode cX4_init 16 = .ok (.anewarray 17, 3) := by decide +kernel
theorem dX4_init_19 : decode cX4_init 19 = .ok (.putfield 19, 3) := by decide +kernel
theorem dX4_init_22 : decode cX4_init 22 = .ok (.iconst 0, 1) := by decide +kernel
theorem dX4_init_23 : decode cX4_init 23 = .ok (.istore_n 1, 1) := by decide +kernel
theorem dX4_init_24 : decode cX4_init 24 = .ok (.iload_n 1, 1) := by decide +kernel
theorem dX4_init_25 : decode cX4_init 25 = .ok (.aload_n 0, 1) := by decide +kernel
theorem dX4_init_26 : decode cX4_init 26 = .ok (.getfield 11, 3) := by decide +kernel
theorem dX4_init_29 : decode cX4_init 29 = .ok (.arraylength, 1) := by decide +kernel
theorem dX4_init_30 : decode cX4_init 30 = .ok (.if_icmp .ge 22, 3) := by decide +kernel
theorem dX4_init_33 : decode cX4_init 33 = .ok (.aload_n 0, 1) := by decide +kernel
theorem dX4_init_34 : decode cX4_init 34 = .ok (.getfield 11, 3) := by decide +kernel
theorem dX4_init_37 : decode cX4_init 37 = .ok (.iload_n 1, 1) := by decide +kernel
theorem dX4_init_38 : decode cX4_init 38 = .ok (.new 9, 3) := by decide +kernel
theorem dX4_init_41 : decode cX4_init 41 = .ok (.dup, 1) := by decide +kernel
theorem dX4_init_42 : decode cX4_init 42 = .ok (.invokespecial 23, 3) := by decide +kernel
theorem dX4_init_45 : decode cX4_init 45 = .ok (.aastore, 1) := by decide +kernel
theorem dX4_init_46 : decode cX4_init 46 = .ok (.iinc 1 1, 3) := by decide +kernel
theorem dX4_init_49 : decode cX4_init 49 = .ok (.goto (-25), 3) := by decide +kernel
theorem dX4_init_52 : decode cX4_init 52 = .ok (.iconst 0, 1) := by decide +kernel
theorem dX4_init_53 : decode cX4_init 53 = .ok (.istore_n 1, 1) := by decide +kernel
theorem dX4_init_54 : decode cX4_init 54 = .ok (.iload_n 1, 1) := by decide +kernel
theorem dX4_init_55 : decode cX4_init 55 = .ok (.aload_n 0, 1) := by decide +kernel
theorem dX4_init_56 : decode cX4_init 56 = .ok (.getfield 19, 3) := by decide +kernel
theorem dX4_init_59 : decode cX4_init 59 = .ok (.arraylength, 1) := by decide +kernel
theorem dX4_init_60 : decode cX4_init 60 = .ok (.if_icmp .ge 22, 3) := by decide +kernel
theorem dX4_init_63 : decode cX4_init 63 = .ok (.aload_n 0, 1) := by decide +kernel
theorem dX4_init_64 : decode cX4_init 64 = .ok (.getfield 19, 3) := by decide +kernel
theorem dX4_init_67 : decode cX4_init 67 = .ok (.iload_n 1, 1) := by decide +kernel
theorem dX4_init_68 : decode cX4_init 68 = .ok (.new 17, 3) := by decide +kernel
theorem dX4_init_71 : decode cX4_init 71 = .ok (.dup, 1) := by decide +kernel
theorem dX4_init_72 : decode cX4_init 72 = .ok (.invokespecial 24, 3) := by decide +kernel
theorem dX4_init_75 : decode cX4_init 75 = .ok (.aastore, 1) := by decide +kernel
theorem dX4_init_76 : decode cX4_init 76 = .ok (.iinc 1 1, 3) := by decide +kernel
theorem dX4_init_79 : decode cX4_init 79 = .ok (.goto (-25), 3) := by decide +kernel
theorem dX4_init_82 : decode cX4_init 82 = .ok (.return_, 1) := by decide +kernel
theorem dX4_begin_0 : decode cX4_begin 0 = .ok (.aload_n 0, 1) := by decide +kernel
theorem dX4_begin_1 : decode cX4_begin 1 = .ok (.iload_n 1, 1) := by decide +kernel
theorem dX4_begin_2 : decode cX4_begin 2 = .ok (.putfield 25, 3) := by decide +kernel
theorem dX4_begin_5 : decode cX4_begin 5 = .ok (.aload_n 0, 1) := by decide +kernel
theorem dX4_begin_6 : decode cX4_begin 6 = .ok (.iload_n 2, 1) := by decide +kernel
theorem dX4_begin_7 : decode cX4_begin 7 = .ok (.putfield 29, 3) := by decide +kernel
theorem dX4_begin_10 : decode cX4_begin 10 = .ok (.aload_n 0, 1) := by decide +kernel
theorem dX4_begin_11 : decode cX4_begin 11 = .ok (.iload_n 3, 1) := by decide +kernel
theorem dX4_begin_12 : decode cX4_begin 12 = .ok (.putfield 32, 3) := by decide +kernel
theorem dX4_begin_15 : decode cX4_begin 15 = .ok (.aload_n 0, 1) := by decide +kernel
theorem dX4_begin_16 : decode cX4_begin 16 = .ok (.iload 4, 2) := by decide +kernel
theorem dX4_begin_18 : decode cX4_begin 18 = .ok (.putfield 35, 3) := by decide +kernel
theorem dX4_begin_21 : decode cX4_begin 21 = .ok (.aload_n 0, 1) := by decide +kernel
theorem dX4_begin_22 : decode cX4_begin 22 = .ok (.iconst 0, 1) := by decide +kernel
theorem dX4_begin_23 : decode cX4_begin 23 = .ok (.putfield 38, 3) := by decide +kernel
theorem dX4_begin_26 : decode cX4_begin 26 = .ok (.aload_n 0, 1) := by decide +kernel
theorem dX4_begin_27 : decode cX4_begin 27 = .ok (.iconst 0, 1) := by decide +kernel
theorem dX4_begin_28 : decode cX4_begin 28 = .ok (.putfield 41, 3) := by decide +kernel
theorem dX4_begin_31 : decode cX4_begin 31 = .ok (.aload_n 0, 1) := by decide +kernel
theorem dX4_begin_32 : decode cX4_begin 32 = .ok (.iconst 0, 1) := by decide +kernel
theorem dX4_begin_33 : decode cX4_begin 33 = .ok (.putfield 44, 3) := by decide +kernel
theorem dX4_begin_36 : decode cX4_begin 36 = .ok (.aload_n 0, 1) := by decide +kernel
theorem dX4_begin_37 : decode cX4_begin 37 = .ok (.iconst 0, 1) := by decide +kernel
theorem dX4_begin_38 : decode cX4_begin 38 = .ok (.putfield 47, 3) := by decide +kernel
theorem dX4_begin_41 : decode cX4_begin 41 = .ok (.aload_n 0, 1) := by decide +kernel
theorem dX4_begin_42 : decode cX4_begin 42 = .ok (.bipush (-9), 2) := by decide +kernel
theorem dX4_begin_44 : decode cX4_begin 44 = .ok (.putfield 50, 3) := by decide +kernel
theorem dX4_begin_47 : decode cX4_begin 47 = .ok (.aload_n 0, 1) := by decide +kernel
theorem dX4_begin_48 : decode cX4_begin 48 = .ok (.iconst 0, 1) := by decide +kernel
theorem dX4_begin_49 : decode cX4_begin 49 = .ok (.putfield 53, 3) := by decide +kernel
theorem dX4_begin_52 : decode cX4_begin 52 = .ok (.return_, 1) := by decide +kernel
theorem dX4_addTenant_0 : decode cX4_addTenant 0 = .ok (.aload_n 0, 1) := by decide +kernel
theorem dX4_addTenant_1 : decode cX4_addTenant 1 = .ok (.getfield 38, 3) := by decide +kernel
theorem dX4_addTenant_4 : decode cX4_addTenant 4 = .ok (.ifCond .lt 40, 3) := by decide +kernel
theorem dX4_addTenant_7 : decode cX4_addTenant 7 = .ok (.aload_n 0, 1) := by decide +kernel
theorem dX4_addTenant_8 : decode cX4_addTenant 8 = .ok (.getfield 38, 3) := by decide +kernel
theorem dX4_addTenant_11 : decode cX4_addTenant 11 = .ok (.aload_n 0, 1) := by decide +kernel
theorem dX4_addTenant_12 : decode cX4_addTenant 12 = .ok (.getfield 11, 3) := by decide +kernel
theorem dX4_addTenant_15 : decode cX4_addTenant 15 = .ok (.arraylength, 1) := by decide +kernel
theorem dX4_addTenant_16 : decode cX4_addTenant 16 = .ok (.if_icmp .ge 28, 3) := by decide +kernel
theorem dX4_addTenant_19 : decode cX4_addTenant 19 = .ok (.aload_n 0, 1) := by decide +kernel
theorem dX4_addTenant_20 : decode cX4_addTenant 20 = .ok (.getfield 11, 3) := by decide +kernel
theorem dX4_addTenant_23 : decode cX4_addTenant 23 = .ok (.aload_n 0, 1) := by decide +kernel
theorem dX4_addTenant_24 : decode cX4_addTenant 24 = .ok (.getfield 38, 3) := by decide +kernel
theorem dX4_addTenant_27 : decode cX4_addTenant 27 = .ok (.aaload, 1) := by decide +kernel
theorem dX4_addTenant_28 : decode cX4_addTenant 28 = .ok (.iload_n 1, 1) := by decide +kernel
theorem dX4_addTenant_29 : decode cX4_addTenant 29 = .ok (.iload_n 2, 1) := by decide +kernel
theorem dX4_addTenant_30 : decode cX4_addTenant 30 = .ok (.iload_n 3, 1) := by decide +kernel
theorem dX4_addTenant_31 : decode cX4_addTenant 31 = .ok (.invokevirtual 56, 3) := by decide +kernel
theorem dX4_addTenant_34 : decode cX4_addTenant 34 = .ok (.aload_n 0, 1) := by decide +kernel
theorem dX4_addTenant_35 : decode cX4_addTenant 35 = .ok (.dup, 1) := by decide +kernel
theorem dX4_addTenant_36 : decode cX4_addTenant 36 = .ok (.getfield 38, 3) := by decide +kernel
theorem dX4_addTenant_39 : decode cX4_addTenant 39 = .ok (.iconst 1, 1) := by decide +kernel
theorem dX4_addTenant_40 : decode cX4_addTenant 40 = .ok (.iadd, 1) := by decide +kernel
theorem dX4_addTenant_41 : decode cX4_addTenant 41 = .ok (.putfield 38, 3) := by decide +kernel
theorem dX4_addTenant_44 : decode cX4_addTenant 44 = .ok (.return_, 1) := by decide +kernel
