theorem dX4_settle_0 : decode cX4_settle 0 = .ok (.aload_n 1, 1) := by decide +kernel
theorem dX4_settle_1 : decode cX4_settle 1 = .ok (.getfield 203, 3) := by decide +kernel
theorem dX4_settle_4 : decode cX4_settle 4 = .ok (.ifCond .ne 4, 3) := by decide +kernel
theorem dX4_settle_7 : decode cX4_settle 7 = .ok (.return_, 1) := by decide +kernel
theorem dX4_settle_8 : decode cX4_settle 8 = .ok (.aload_n 0, 1) := by decide +kernel
theorem dX4_settle_9 : decode cX4_settle 9 = .ok (.aload_n 1, 1) := by decide +kernel
theorem dX4_settle_10 : decode cX4_settle 10 = .ok (.getfield 206, 3) := by decide +kernel
theorem dX4_settle_13 : decode cX4_settle 13 = .ok (.putfield 50, 3) := by decide +kernel
theorem dX4_settle_16 : decode cX4_settle 16 = .ok (.iconst 0, 1) := by decide +kernel
theorem dX4_settle_17 : decode cX4_settle 17 = .ok (.istore_n 2, 1) := by decide +kernel
theorem dX4_settle_18 : decode cX4_settle 18 = .ok (.iload_n 2, 1) := by decide +kernel
theorem dX4_settle_19 : decode cX4_settle 19 = .ok (.aload_n 0, 1) := by decide +kernel
theorem dX4_settle_20 : decode cX4_settle 20 = .ok (.getfield 41, 3) := by decide +kernel
theorem dX4_settle_23 : decode cX4_settle 23 = .ok (.if_icmp .ge 28, 3) := by decide +kernel
theorem dX4_settle_26 : decode cX4_settle 26 = .ok (.aload_n 0, 1) := by decide +kernel
theorem dX4_settle_27 : decode cX4_settle 27 = .ok (.aload_n 0, 1) := by decide +kernel
theorem dX4_settle_28 : decode cX4_settle 28 = .ok (.getfield 19, 3) := by decide +kernel
theorem dX4_settle_31 : decode cX4_settle 31 = .ok (.iload_n 2, 1) := by decide +kernel
theorem dX4_settle_32 : decode cX4_settle 32 = .ok (.aaload, 1) := by decide +kernel
theorem dX4_settle_33 : decode cX4_settle 33 = .ok (.aload_n 1, 1) := by decide +kernel
theorem dX4_settle_34 : decode cX4_settle 34 = .ok (.iload_n 2, 1) := by decide +kernel
theorem dX4_settle_35 : decode cX4_settle 35 = .ok (.invokevirtual 207, 3) := by decide +kernel
theorem dX4_settle_38 : decode cX4_settle 38 = .ok (.aload_n 1, 1) := by decide +kernel
theorem dX4_settle_39 : decode cX4_settle 39 = .ok (.getfield 206, 3) := by decide +kernel
theorem dX4_settle_42 : decode cX4_settle 42 = .ok (.invokevirtual 210, 3) := by decide +kernel
theorem dX4_settle_45 : decode cX4_settle 45 = .ok (.iinc 2 1, 3) := by decide +kernel
theorem dX4_settle_48 : decode cX4_settle 48 = .ok (.goto (-30), 3) := by decide +kernel
theorem dX4_settle_51 : decode cX4_settle 51 = .ok (.aload_n 0, 1) := by decide +kernel
theorem dX4_settle_52 : decode cX4_settle 52 = .ok (.invokevirtual 161, 3) := by decide +kernel
theorem dX4_settle_55 : decode cX4_settle 55 = .ok (.return_, 1) := by decide +kernel
theorem dX4_settleOrder_0 : decode cX4_settleOrder 0 = .ok (.aload_n 0, 1) := by decide +kernel
theorem dX4_settleOrder_1 : decode cX4_settleOrder 1 = .ok (.getfield 11, 3) := by decide +kernel
theorem dX4_settleOrder_4 : decode cX4_settleOrder 4 = .ok (.aload_n 1, 1) := by decide +kernel
theorem dX4_settleOrder_5 : decode cX4_settleOrder 5 = .ok (.getfield 64, 3) := by decide +kernel
theorem dX4_settleOrder_8 : decode cX4_settleOrder 8 = .ok (.aaload, 1) := by decide +kernel
theorem dX4_settleOrder_9 : decode cX4_settleOrder 9 = .ok (.astore 4, 2) := by decide +kernel
theorem dX4_settleOrder_11 : decode cX4_settleOrder 11 = .ok (.aload_n 1, 1) := by decide +kernel
theorem dX4_settleOrder_12 : decode cX4_settleOrder 12 = .ok (.getfield 67, 3) := by decide +kernel
theorem dX4_settleOrder_15 : decode cX4_settleOrder 15 = .ok (.ifCond .ne 35, 3) := by decide +kernel
theorem dX4_settleOrder_18 : decode cX4_settleOrder 18 = .ok (.aload 4, 2) := by decide +kernel
theorem dX4_settleOrder_20 : decode cX4_settleOrder 20 = .ok (.dup, 1) := by decide +kernel
theorem dX4_settleOrder_21 : decode cX4_settleOrder 21 = .ok (.getfield 95, 3) := by decide +kernel
theorem dX4_settleOrder_24 : decode cX4_settleOrder 24 = .ok (.iload_n 2, 1) := by decide +kernel
theorem dX4_settleOrder_25 : decode cX4_settleOrder 25 = .ok (.iadd, 1) := by decide +kernel
theorem dX4_settleOrder_26 : decode cX4_settleOrder 26 = .ok (.putfield 95, 3) := by decide +kernel
theorem dX4_settleOrder_29 : decode cX4_settleOrder 29 = .ok (.aload 4, 2) := by decide +kernel
theorem dX4_settleOrder_31 : decode cX4_settleOrder 31 = .ok (.dup, 1) := by decide +kernel
theorem dX4_settleOrder_32 : decode cX4_settleOrder 32 = .ok (.getfield 98, 3) := by decide +kernel
theorem dX4_settleOrder_35 : decode cX4_settleOrder 35 = .ok (.aload_n 1, 1) := by decide +kernel
theorem dX4_settleOrder_36 : decode cX4_settleOrder 36 = .ok (.getfield 70, 3) := by decide +kernel
theorem dX4_settleOrder_39 : decode cX4_settleOrder 39 = .ok (.iload_n 3, 1) := by decide +kernel
theorem dX4_settleOrder_40 : decode cX4_settleOrder 40 = .ok (.isub, 1) := by decide +kernel
theorem dX4_settleOrder_41 : decode cX4_settleOrder 41 = .ok (.iload_n 2, 1) := by decide +kernel
theorem dX4_settleOrder_42 : decode cX4_settleOrder 42 = .ok (.imul, 1) := by decide +kernel
theorem dX4_settleOrder_43 : decode cX4_settleOrder 43 = .ok (.iadd, 1) := by decide +kernel
theorem dX4_settleOrder_44 : decode cX4_settleOrder 44 = .ok (.putfield 98, 3) := by decide +kernel
theorem dX4_settleOrder_47 : decode cX4_settleOrder 47 = .ok (.goto 16, 3) := by decide +kernel
theorem dX4_settleOrder_50 : decode cX4_settleOrder 50 = .ok (.aload 4, 2) := by decide +kernel
theorem dX4_settleOrder_52 : decode cX4_settleOrder 52 = .ok (.dup, 1) := by decide +kernel
theorem dX4_settleOrder_53 : decode cX4_settleOrder 53 = .ok (.getfield 98, 3) := by decide +kernel
theorem dX4_settleOrder_56 : decode cX4_settleOrder 56 = .ok (.iload_n 3, 1) := by decide +kernel
theorem dX4_settleOrder_57 : decode cX4_settleOrder 57 = .ok (.iload_n 2, 1) := by decide +kernel
theorem dX4_settleOrder_58 : decode cX4_settleOrder 58 = .ok (.imul, 1) := by decide +kernel
theorem dX4_settleOrder_59 : decode cX4_settleOrder 59 = .ok (.iadd, 1) := by decide +kernel
theorem dX4_settleOrder_60 : decode cX4_settleOrder 60 = .ok (.putfield 98, 3) := by decide +kernel
theorem dX4_settleOrder_63 : decode cX4_settleOrder 63 = .ok (.aload_n 1, 1) := by decide +kernel
theorem dX4_settleOrder_64 : decode cX4_settleOrder 64 = .ok (.getfield 67, 3) := by decide +kernel
theorem dX4_settleOrder_67 : decode cX4_settleOrder 67 = .ok (.iconst 2, 1) := by decide +kernel
theorem dX4_settleOrder_68 : decode cX4_settleOrder 68 = .ok (.if_icmp .ne 18, 3) := by decide +kernel
theorem dX4_settleOrder_71 : decode cX4_settleOrder 71 = .ok (.aload 4, 2) := by decide +kernel
theorem dX4_settleOrder_73 : decode cX4_settleOrder 73 = .ok (.iload_n 2, 1) := by decide +kernel
theorem dX4_settleOrder_74 : decode cX4_settleOrder 74 = .ok (.aload_n 0, 1) := by decide +kernel
theorem dX4_settleOrder_75 : decode cX4_settleOrder 75 = .ok (.getfield 44, 3) := by decide +kernel
theorem dX4_settleOrder_78 : decode cX4_settleOrder 78 = .ok (.aload_n 0, 1) := by decide +kernel
theorem dX4_settleOrder_79 : decode cX4_settleOrder 79 = .ok (.getfield 32, 3) := by decide +kernel
theorem dX4_settleOrder_82 : decode cX4_settleOrder 82 = .ok (.iadd, 1) := by decide +kernel
theorem dX4_settleOrder_83 : decode cX4_settleOrder 83 = .ok (.invokevirtual 214, 3) := by decide +kernel
theorem dX4_settleOrder_86 : decode cX4_settleOrder 86 = .ok (.aload_n 1, 1) := by decide +kernel
theorem dX4_settleOrder_87 : decode cX4_settleOrder 87 = .ok (.dup, 1) := by decide +kernel
theorem dX4_settleOrder_88 : decode cX4_settleOrder 88 = .ok (.getfield 73, 3) := by decide +kernel
theorem dX4_settleOrder_91 : decode cX4_settleOrder 91 = .ok (.iload_n 2, 1) := by decide +kernel
theorem dX4_settleOrder_92 : decode cX4_settleOrder 92 = .ok (.isub, 1) := by decide +kernel
theorem dX4_settleOrder_93 : decode cX4_settleOrder 93 = .ok (.putfield 73, 3) := by decide +kernel
theorem dX4_settleOrder_96 : decode cX4_settleOrder 96 = .ok (.return_, 1) := by decide +kernel
theorem dX4_collectDebts_0 : decode cX4_collectDebts 0 = .ok (.iconst 0, 1) := by decide +kernel
theorem dX4_collectDebts_1 : decode cX4_collectDebts 1 = .ok (.istore_n 1, 1) := by decide +kernel
theorem dX4_collectDebts_2 : decode cX4_collectDebts 2 = .ok (.iload_n 1, 1) := by decide +kernel
theorem dX4_collectDebts_3 : decode cX4_collectDebts 3 = .ok (.aload_n 0, 1) := by decide +kernel
theorem dX4_collectDebts_4 : decode cX4_collectDebts 4 = .ok (.getfield 38, 3) := by decide +kernel
theorem dX4_collectDebts_7 : decode cX4_collectDebts 7 = .ok (.if_icmp .ge 48, 3) := by decide +kernel
theorem dX4_collectDebts_10 : decode cX4_collectDebts 10 = .ok (.aload_n 0, 1) := by decide +kernel
theorem dX4_collectDebts_11 : decode cX4_collectDebts 11 = .ok (.getfield 11, 3) := by decide +kernel
theorem dX4_collectDebts_14 : decode cX4_collectDebts 14 = .ok (.iload_n 1, 1) := by decide +kernel
theorem dX4_collectDebts_15 : decode cX4_collectDebts 15 = .ok (.aaload, 1) := by decide +kernel
theorem dX4_collectDebts_16 : decode cX4_collectDebts 16 = .ok (.aload_n 0, 1) := by decide +kernel
theorem dX4_collectDebts_17 : decode cX4_collectDebts 17 = .ok (.getfield 44, 3) := by decide +kernel
theorem dX4_collectDebts_20 : decode cX4_collectDebts 20 = .ok (.invokevirtual 127, 3) := by decide +kernel
theorem dX4_collectDebts_23 : decode cX4_collectDebts 23 = .ok (.istore_n 2, 1) := by decide +kernel
theorem dX4_collectDebts_24 : decode cX4_collectDebts 24 = .ok (.iload_n 2, 1) := by decide +kernel
theorem dX4_collectDebts_25 : decode cX4_collectDebts 25 = .ok (.ifCond .le 24, 3) := by decide +kernel
theorem dX4_collectDebts_28 : decode cX4_collectDebts 28 = .ok (.aload_n 0, 1) := by decide +kernel
theorem dX4_collectDebts_29 : decode cX4_collectDebts 29 = .ok (.getfield 11, 3) := by decide +kernel
theorem dX4_collectDebts_32 : decode cX4_collectDebts 32 = .ok (.iload_n 1, 1) := by decide +kernel
theorem dX4_collectDebts_33 : decode cX4_collectDebts 33 = .ok (.aaload, 1) := by decide +kernel
theorem dX4_collectDebts_34 : decode cX4_collectDebts 34 = .ok (.iload_n 2, 1) := by decide +kernel
theorem dX4_collectDebts_35 : decode cX4_collectDebts 35 = .ok (.ineg, 1) := by decide +kernel
theorem dX4_collectDebts_36 : decode cX4_collectDebts 36 = .ok (.aload_n 0, 1) := by decide +kernel
theorem dX4_collectDebts_37 : decode cX4_collectDebts 37 = .ok (.getfield 44, 3) := by decide +kernel
theorem dX4_collectDebts_40 : decode cX4_collectDebts 40 = .ok (.invokevirtual 214, 3) := by decide +kernel
theorem dX4_collectDebts_43 : decode cX4_collectDebts 43 = .ok (.aload_n 0, 1) := by decide +kernel
theorem dX4_collectDebts_44 : decode cX4_collectDebts 44 = .ok (.iload_n 1, 1) := by decide +kernel
theorem dX4_collectDebts_45 : decode cX4_collectDebts 45 = .ok (.iload_n 2, 1) := by decide +kernel
theorem dX4_collectDebts_46 : decode cX4_collectDebts 46 = .ok (.invokevirtual 218, 3) := by decide +kernel
theorem dX4_collectDebts_49 : decode cX4_collectDebts 49 = .ok (.iinc 1 1, 3) := by decide +kernel
theorem dX4_collectDebts_52 : decode cX4_collectDebts 52 = .ok (.goto (-50), 3) := by decide +kernel
theorem dX4_collectDebts_55 : decode cX4_collectDebts 55 = .ok (.return_, 1) := by decide +kernel
theorem dX4_collect_0 : decode cX4_collect 0 = .ok (.aload_n 0, 1) := by decide +kernel
theorem dX4_collect_1 : decode cX4_collect 1 = .ok (.getfield 11, 3) := by decide +kernel
theorem dX4_collect_4 : decode cX4_collect 4 = .ok (.iload_n 1, 1) := by decide +kernel
theorem dX4_collect_5 : decode cX4_collect 5 = .ok (.aaload, 1) := by decide +kernel
theorem dX4_collect_6 : decode cX4_collect 6 = .ok (.astore_n 3, 1) := by decide +kernel
theorem dX4_collect_7 : decode cX4_collect 7 = .ok (.iload_n 2, 1) := by decide +kernel
theorem dX4_collect_8 : decode cX4_collect 8 = .ok (.aload_n 3, 1) := by decide +kernel
theorem dX4_collect_9 : decode cX4_collect 9 = .ok (.iload_n 2, 1) := by decide +kernel
theorem dX4_collect_10 : decode cX4_collect 10 = .ok (.invokevirtual 136, 3) := by decide +kernel
theorem dX4_collect_13 : decode cX4_collect 13 = .ok (.isub, 1) := by decide +kernel
theorem dX4_collect_14 : decode cX4_collect 14 = .ok (.istore 4, 2) := by decide +kernel
theorem dX4_collect_16 : decode cX4_collect 16 = .ok (.iload 4, 2) := by decide +kernel
theorem dX4_collect_18 : decode cX4_collect 18 = .ok (.ifCond .le 19, 3) := by decide +kernel
theorem dX4_collect_21 : decode cX4_collect 21 = .ok (.aload_n 0, 1) := by decide +kernel
theorem dX4_collect_22 : decode cX4_collect 22 = .ok (.iload_n 1, 1) := by decide +kernel
theorem dX4_collect_23 : decode cX4_collect 23 = .ok (.invokevirtual 221, 3) := by decide +kernel
theorem dX4_collect_26 : decode cX4_collect 26 = .ok (.iload 4, 2) := by decide +kernel
theorem dX4_collect_28 : decode cX4_collect 28 = .ok (.aload_n 3, 1) := by decide +kernel
theorem dX4_collect_29 : decode cX4_collect 29 = .ok (.iload 4, 2) := by decide +kernel
theorem dX4_collect_31 : decode cX4_collect 31 = .ok (.invokevirtual 136, 3) := by decide +kernel
theorem dX4_collect_34 : decode cX4_collect 34 = .ok (.isub, 1) := by decide +kernel
theorem dX4_collect_35 : decode cX4_collect 35 = .ok (.istore 4, 2) := by decide +kernel
theorem dX4_collect_37 : decode cX4_collect 37 = .ok (.iload 4, 2) := by decide +kernel
theorem dX4_collect_39 : decode cX4_collect 39 = .ok (.istore 5, 2) := by decide +kernel
theorem dX4_collect_41 : decode cX4_collect 41 = .ok (.iload 5, 2) := by decide +kernel
theorem dX4_collect_43 : decode cX4_collect 43 = .ok (.ifCond .le 49, 3) := by decide +kernel
theorem dX4_collect_46 : decode cX4_collect 46 = .ok (.aload_n 3, 1) := by decide +kernel
theorem dX4_collect_47 : decode cX4_collect 47 = .ok (.getfield 98, 3) := by decide +kernel
theorem dX4_collect_50 : decode cX4_collect 50 = .ok (.aload_n 0, 1) := by decide +kernel
theorem dX4_collect_51 : decode cX4_collect 51 = .ok (.getfield 35, 3) := by decide +kernel
theorem dX4_collect_54 : decode cX4_collect 54 = .ok (.if_icmp .lt 38, 3) := by decide +kernel
theorem dX4_collect_57 : decode cX4_collect 57 = .ok (.aload_n 3, 1) := by decide +kernel
theorem dX4_collect_58 : decode cX4_collect 58 = .ok (.dup, 1) := by decide +kernel
theorem dX4_collect_59 : decode cX4_collect 59 = .ok (.getfield 98, 3) := by decide +kernel
theorem dX4_collect_62 : decode cX4_collect 62 = .ok (.aload_n 0, 1) := by decide +kernel
theorem dX4_collect_63 : decode cX4_collect 63 = .ok (.getfield 35, 3) := by decide +kernel
theorem dX4_collect_66 : decode cX4_collect 66 = .ok (.isub, 1) := by decide +kernel
theorem dX4_collect_67 : decode cX4_collect 67 = .ok (.putfield 98, 3) := by decide +kernel
theorem dX4_collect_70 : decode cX4_collect 70 = .ok (.aload_n 0, 1) := by decide +kernel
theorem dX4_collect_71 : decode cX4_collect 71 = .ok (.dup, 1) := by decide +kernel
theorem dX4_collect_72 : decode cX4_collect 72 = .ok (.getfield 47, 3) := by decide +kernel
theorem dX4_collect_75 : decode cX4_collect 75 = .ok (.aload_n 0, 1) := by decide +kernel
theorem dX4_collect_76 : decode cX4_collect 76 = .ok (.getfield 35, 3) := by decide +kernel
theorem dX4_collect_79 : decode cX4_collect 79 = .ok (.iadd, 1) := by decide +kernel
theorem dX4_collect_80 : decode cX4_collect 80 = .ok (.putfield 47, 3) := by decide +kernel
theorem dX4_collect_83 : decode cX4_collect 83 = .ok (.iinc 4 (-1), 3) := by decide +kernel
theorem dX4_collect_86 : decode cX4_collect 86 = .ok (.iinc 5 (-1), 3) := by decide +kernel
theorem dX4_collect_89 : decode cX4_collect 89 = .ok (.goto (-48), 3) := by decide +kernel
theorem dX4_collect_92 : decode cX4_collect 92 = .ok (.iload 4, 2) := by decide +kernel
theorem dX4_collect_94 : decode cX4_collect 94 = .ok (.ifCond .le 18, 3) := by decide +kernel
theorem dX4_collect_97 : decode cX4_collect 97 = .ok (.aload_n 3, 1) := by decide +kernel
theorem dX4_collect_98 : decode cX4_collect 98 = .ok (.aload_n 0, 1) := by decide +kernel
theorem dX4_collect_99 : decode cX4_collect 99 = .ok (.getfield 44, 3) := by decide +kernel
theorem dX4_collect_102 : decode cX4_collect 102 = .ok (.iconst 2, 1) := by decide +kernel
theorem dX4_collect_103 : decode cX4_collect 103 = .ok (.aload_n 0, 1) := by decide +kernel
theorem dX4_collect_104 : decode cX4_collect 104 = .ok (.getfield 32, 3) := by decide +kernel
theorem dX4_collect_107 : decode cX4_collect 107 = .ok (.imul, 1) := by decide +kernel
theorem dX4_collect_108 : decode cX4_collect 108 = .ok (.iadd, 1) := by decide +kernel
theorem dX4_collect_109 : decode cX4_collect 109 = .ok (.putfield 79, 3) := by decide +kernel
theorem dX4_collect_112 : decode cX4_collect 112 = .ok (.return_, 1) := by decide +kernel
theorem dX5_init_0 : decode cX5_init 0 = .ok (.aload_n 0, 1) := by decide +kernel
theorem dX5_init_1 : decode cX5_init 1 = .ok (.invokespecial 3, 3) := by decide +kernel
theorem dX5_init_4 : decode cX5_init 4 = .ok (.aload_n 0, 1) := by decide +kernel
theorem dX5_init_5 : decode cX5_init 5 = .ok (.bipush 8, 2) := by decide +kernel
theorem dX5_init_7 : decode cX5_init 7 = .ok (.newarray .int, 2) := by decide +kernel
theorem dX5_init_9 : decode cX5_init 9 = .ok (.putfield 9, 3) := by decide +kernel
theorem dX5_init_12 : decode cX5_init 12 = .ok (.aload_n 0, 1) := by decide +kernel
theorem dX5_init_13 : decode cX5_init 13 = .ok (.bipush 51, 2) := by decide +kernel
theorem dX5_init_15 : decode cX5_init 15 = .ok (.newarray .int, 2) := by decide +kernel
theorem dX5_init_17 : decode cX5_init 17 = .ok (.putfield 15, 3) := by decide +kernel
theorem dX5_init_20 : decode cX5_init 20 = .ok (.return_, 1) := by decide +kernel
theorem dX5_begin_0 : decode cX5_begin 0 = .ok (.aload_n 0, 1) := by decide +kernel
theorem dX5_begin_1 : decode cX5_begin 1 = .ok (.iload_n 1, 1) := by decide +kernel
theorem dX5_begin_2 : decode cX5_begin 2 = .ok (.putfield 18, 3) := by decide +kernel
theorem dX5_begin_5 : decode cX5_begin 5 = .ok (.aload_n 0, 1) := by decide +kernel
theorem dX5_begin_6 : decode cX5_begin 6 = .ok (.iload_n 2, 1) := by decide +kernel
theorem dX5_begin_7 : decode cX5_begin 7 = .ok (.putfield 22, 3) := by decide +kernel
theorem dX5_begin_10 : decode cX5_begin 10 = .ok (.aload_n 0, 1) := by decide +kernel
theorem dX5_begin_11 : decode cX5_begin 11 = .ok (.iload_n 3, 1) := by decide +kernel
theorem dX5_begin_12 : decode cX5_begin 12 = .ok (.putfield 25, 3) := by decide +kernel
theorem dX5_begin_15 : decode cX5_begin 15 = .ok (.aload_n 0, 1) := by decide +kernel
theorem dX5_begin_16 : decode cX5_begin 16 = .ok (.iload_n 1, 1) := by decide +kernel
theorem dX5_begin_17 : decode cX5_begin 17 = .ok (.putfield 28, 3) := by decide +kernel
theorem dX5_begin_20 : decode cX5_begin 20 = .ok (.aload_n 0, 1) := by decide +kernel
theorem dX5_begin_21 : decode cX5_begin 21 = .ok (.iconst 0, 1) := by decide +kernel
theorem dX5_begin_22 : decode cX5_begin 22 = .ok (.putfield 31, 3) := by decide +kernel
theorem dX5_begin_25 : decode cX5_begin 25 = .ok (.aload_n 0, 1) := by decide +kernel
theorem dX5_begin_26 : decode cX5_begin 26 = .ok (.iconst 0, 1) := by decide +kernel
theorem dX5_begin_27 : decode cX5_begin 27 = .ok (.putfield 34, 3) := by decide +kernel
theorem dX5_begin_30 : decode cX5_begin 30 = .ok (.aload_n 0, 1) := by decide +kernel
theorem dX5_begin_31 : decode cX5_begin 31 = .ok (.iconst 0, 1) := by decide +kernel
theorem dX5_begin_32 : decode cX5_begin 32 = .ok (.putfield 37, 3) := by decide +kernel
theorem dX5_begin_35 : decode cX5_begin 35 = .ok (.aload_n 0, 1) := by decide +kernel
theorem dX5_begin_36 : decode cX5_begin 36 = .ok (.iconst 0, 1) := by decide +kernel
theorem dX5_begin_37 : decode cX5_begin 37 = .ok (.putfield 40, 3) := by decide +kernel
theorem dX5_begin_40 : decode cX5_begin 40 = .ok (.iconst 0, 1) := by decide +kernel
theorem dX5_begin_41 : decode cX5_begin 41 = .ok (.istore 4, 2) := by decide +kernel
theorem dX5_begin_43 : decode cX5_begin 43 = .ok (.iload 4, 2) := by decide +kernel
theorem dX5_begin_45 : decode cX5_begin 45 = .ok (.aload_n 0, 1) := by decide +kernel
theorem dX5_begin_46 : decode cX5_begin 46 = .ok (.getfield 15, 3) := by decide +kernel
theorem dX5_begin_49 : decode cX5_begin 49 = .ok (.arraylength, 1) := by decide +kernel
theorem dX5_begin_50 : decode cX5_begin 50 = .ok (.if_icmp .ge 17, 3) := by decide +kernel
theorem dX5_begin_53 : decode cX5_begin 53 = .ok (.aload_n 0, 1) := by decide +kernel
theorem dX5_begin_54 : decode cX5_begin 54 = .ok (.getfield 15, 3) := by decide +kernel
theorem dX5_begin_57 : decode cX5_begin 57 = .ok (.iload 4, 2) := by decide +kernel
theorem dX5_begin_59 : decode cX5_begin 59 = .ok (.iconst 0, 1) := by decide +kernel
theorem dX5_begin_60 : decode cX5_begin 60 = .ok (.iastore, 1) := by decide +kernel
theorem dX5_begin_61 : decode cX5_begin 61 = .ok (.iinc 4 1, 3) := by decide +kernel
theorem dX5_begin_64 : decode cX5_begin 64 = .ok (.goto (-21), 3) := by decide +kernel
theorem dX5_begin_67 : decode cX5_begin 67 = .ok (.return_, 1) := by decide +kernel
theorem dX5_copyFrom_0 : decode cX5_copyFrom 0 = .ok (.aload_n 0, 1) := by decide +kernel
theorem dX5_copyFrom_1 : decode cX5_copyFrom 1 = .ok (.aload_n 1, 1) := by decide +kernel
theorem dX5_copyFrom_2 : decode cX5_copyFrom 2 = .ok (.getfield 18, 3) := by decide +kernel
theorem dX5_copyFrom_5 : decode cX5_copyFrom 5 = .ok (.putfield 18, 3) := by decide +kernel
theorem dX5_copyFrom_8 : decode cX5_copyFrom 8 = .ok (.aload_n 0, 1) := by decide +kernel
theorem dX5_copyFrom_9 : decode cX5_copyFrom 9 = .ok (.aload_n 1, 1) := by decide +kernel
theorem dX5_copyFrom_10 : decode cX5_copyFrom 10 = .ok (.getfield 22, 3) := by decide +kernel
theorem dX5_copyFrom_13 : decode cX5_copyFrom 13 = .ok (.putfield 22, 3) := by decide +kernel
theorem dX5_copyFrom_16 : decode cX5_copyFrom 16 = .ok (.aload_n 0, 1) := by decide +kernel
theorem dX5_copyFrom_17 : decode cX5_copyFrom 17 = .ok (.aload_n 1, 1) := by decide +kernel
theorem dX5_copyFrom_18 : decode cX5_copyFrom 18 = .ok (.getfield 28, 3) := by decide +kernel
theorem dX5_copyFrom_21 : decode cX5_copyFrom 21 = .ok (.putfield 28, 3) := by decide +kernel
theorem dX5_copyFrom_24 : decode cX5_copyFrom 24 = .ok (.aload_n 0, 1) := by decide +kernel
theorem dX5_copyFrom_25 : decode cX5_copyFrom 25 = .ok (.aload_n 1, 1) := by decide +kernel
theorem dX5_copyFrom_26 : decode cX5_copyFrom 26 = .ok (.getfield 31, 3) := by decide +kernel
theorem dX5_copyFrom_29 : decode cX5_copyFrom 29 = .ok (.putfield 31, 3) := by decide +kernel
theorem dX5_copyFrom_32 : decode cX5_copyFrom 32 = .ok (.aload_n 0, 1) := by decide +kernel
theorem dX5_copyFrom_33 : decode cX5_copyFrom 33 = .ok (.aload_n 1, 1) := by decide +kernel
theorem dX5_copyFrom_34 : decode cX5_copyFrom 34 = .ok (.getfield 25, 3) := by decide +kernel
theorem dX5_copyFrom_37 : decode cX5_copyFrom 37 = .ok (.putfield 25, 3) := by decide +kernel
theorem dX5_copyFrom_40 : decode cX5_copyFrom 40 = .ok (.aload_n 0, 1) := by decide +kernel
theorem dX5_copyFrom_41 : decode cX5_copyFrom 41 = .ok (.aload_n 1, 1) := by decide +kernel
theorem dX5_copyFrom_42 : decode cX5_copyFrom 42 = .ok (.getfield 34, 3) := by decide +kernel
theorem dX5_copyFrom_45 : decode cX5_copyFrom 45 = .ok (.putfield 34, 3) := by decide +kernel
theorem dX5_copyFrom_48 : decode cX5_copyFrom 48 = .ok (.aload_n 0, 1) := by decide +kernel
theorem dX5_copyFrom_49 : decode cX5_copyFrom 49 = .ok (.aload_n 1, 1) := by decide +kernel
theorem dX5_copyFrom_50 : decode cX5_copyFrom 50 = .ok (.getfield 37, 3) := by decide +kernel
theorem dX5_copyFrom_53 : decode cX5_copyFrom 53 = .ok (.putfield 37, 3) := by decide +kernel
theorem dX5_copyFrom_56 : decode cX5_copyFrom 56 = .ok (.aload_n 0, 1) := by decide +kernel
theorem dX5_copyFrom_57 : decode cX5_copyFrom 57 = .ok (.aload_n 1, 1) := by decide +kernel
theorem dX5_copyFrom_58 : decode cX5_copyFrom 58 = .ok (.getfield 40, 3) := by decide +kernel
theorem dX5_copyFrom_61 : decode cX5_copyFrom 61 = .ok (.putfield 40, 3) := by decide +kernel
theorem dX5_copyFrom_64 : decode cX5_copyFrom 64 = .ok (.aload_n 1, 1) := by decide +kernel
theorem dX5_copyFrom_65 : decode cX5_copyFrom 65 = .ok (.getfield 9, 3) := by decide +kernel
theorem dX5_copyFrom_68 : decode cX5_copyFrom 68 = .ok (.iconst 0, 1) := by decide +kernel
theorem dX5_copyFrom_69 : decode cX5_copyFrom 69 = .ok (.aload_n 0, 1) := by decide +kernel
theorem dX5_copyFrom_70 : decode cX5_copyFrom 70 = .ok (.getfield 9, 3) := by decide +kernel
theorem dX5_copyFrom_73 : decode cX5_copyFrom 73 = .ok (.iconst 0, 1) := by decide +kernel
theorem dX5_copyFrom_74 : decode cX5_copyFrom 74 = .ok (.bipush 8, 2) := by decide +kernel
theorem dX5_copyFrom_76 : decode cX5_copyFrom 76 = .ok (.invokestatic 43, 3) := by decide +kernel
theorem dX5_copyFrom_79 : decode cX5_copyFrom 79 = .ok (.aload_n 1, 1) := by decide +kernel
theorem dX5_copyFrom_80 : decode cX5_copyFrom 80 = .ok (.getfield 15, 3) := by decide +kernel
theorem dX5_copyFrom_83 : decode cX5_copyFrom 83 = .ok (.iconst 0, 1) := by decide +kernel
theorem dX5_copyFrom_84 : decode cX5_copyFrom 84 = .ok (.aload_n 0, 1) := by decide +kernel
theorem dX5_copyFrom_85 : decode cX5_copyFrom 85 = .ok (.getfield 15, 3) := by decide +kernel
theorem dX5_copyFrom_88 : decode cX5_copyFrom 88 = .ok (.iconst 0, 1) := by decide +kernel
theorem dX5_copyFrom_89 : decode cX5_copyFrom 89 = .ok (.bipush 51, 2) := by decide +kernel
theorem dX5_copyFrom_91 : decode cX5_copyFrom 91 = .ok (.invokestatic 43, 3) := by decide +kernel
theorem dX5_copyFrom_94 : decode cX5_copyFrom 94 = .ok (.return_, 1) := by decide +kernel
theorem dX5_credits_0 : decode cX5_credits 0 = .ok (.aload_n 0, 1) := by decide +kernel
theorem dX5_credits_1 : decode cX5_credits 1 = .ok (.getfield 28, 3) := by decide +kernel
theorem dX5_credits_4 : decode cX5_credits 4 = .ok (.aload_n 0, 1) := by decide +kernel
theorem dX5_credits_5 : decode cX5_credits 5 = .ok (.getfield 31, 3) := by decide +kernel
theorem dX5_credits_8 : decode cX5_credits 8 = .ok (.iadd, 1) := by decide +kernel
theorem dX5_credits_9 : decode cX5_credits 9 = .ok (.ireturn, 1) := by decide +kernel
theorem dX5_takeUpTo_0 : decode cX5_takeUpTo 0 = .ok (.aload_n 0, 1) := by decide +kernel
theorem dX5_takeUpTo_1 : decode cX5_takeUpTo 1 = .ok (.getfield 31, 3) := by decide +kernel
theorem dX5_takeUpTo_4 : decode cX5_takeUpTo 4 = .ok (.iload_n 1, 1) := by decide +kernel
theorem dX5_takeUpTo_5 : decode cX5_takeUpTo 5 = .ok (.invokestatic 49, 3) := by decide +kernel
theorem dX5_takeUpTo_8 : decode cX5_takeUpTo 8 = .ok (.istore_n 2, 1) := by decide +kernel
theorem dX5_takeUpTo_9 : decode cX5_takeUpTo 9 = .ok (.aload_n 0, 1) := by decide +kernel
theorem dX5_takeUpTo_10 : decode cX5_takeUpTo 10 = .ok (.getfield 28, 3) := by decide +kernel
theorem dX5_takeUpTo_13 : decode cX5_takeUpTo 13 = .ok (.iload_n 1, 1) := by decide +kernel
theorem dX5_takeUpTo_14 : decode cX5_takeUpTo 14 = .ok (.iload_n 2, 1) := by decide +kernel
theorem dX5_takeUpTo_15 : decode cX5_takeUpTo 15 = .ok (.isub, 1) := by decide +kernel
theorem dX5_takeUpTo_16 : decode cX5_takeUpTo 16 = .ok (.invokestatic 49, 3) := by decide +kernel
theorem dX5_takeUpTo_19 : decode cX5_takeUpTo 19 = .ok (.istore_n 3, 1) := by decide +kernel
theorem dX5_takeUpTo_20 : decode cX5_takeUpTo 20 = .ok (.aload_n 0, 1) := by decide +kernel
theorem dX5_takeUpTo_21 : decode cX5_takeUpTo 21 = .ok (.dup, 1) := by decide +kernel
theorem dX5_takeUpTo_22 : decode cX5_takeUpTo 22 = .ok (.getfield 31, 3) := by decide +kernel
theorem dX5_takeUpTo_25 : decode cX5_takeUpTo 25 = .ok (.iload_n 2, 1) := by decide +kernel
theorem dX5_takeUpTo_26 : decode cX5_takeUpTo 26 = .ok (.isub, 1) := by decide +kernel
theorem dX5_takeUpTo_27 : decode cX5_takeUpTo 27 = .ok (.putfield 31, 3) := by decide +kernel
theorem dX5_takeUpTo_30 : decode cX5_takeUpTo 30 = .ok (.aload_n 0, 1) := by decide +kernel
theorem dX5_takeUpTo_31 : decode cX5_takeUpTo 31 = .ok (.dup, 1) := by decide +kernel
theorem dX5_takeUpTo_32 : decode cX5_takeUpTo 32 = .ok (.getfield 28, 3) := by decide +kernel
theorem dX5_takeUpTo_35 : decode cX5_takeUpTo 35 = .ok (.iload_n 3, 1) := by decide +kernel
theorem dX5_takeUpTo_36 : decode cX5_takeUpTo 36 = .ok (.isub, 1) := by decide +kernel
theorem dX5_takeUpTo_37 : decode cX5_takeUpTo 37 = .ok (.putfield 28, 3) := by decide +kernel
theorem dX5_takeUpTo_40 : decode cX5_takeUpTo 40 = .ok (.iload_n 2, 1) := by decide +kernel
theorem dX5_takeUpTo_41 : decode cX5_takeUpTo 41 = .ok (.iload_n 3, 1) := by decide +kernel
theorem dX5_takeUpTo_42 : decode cX5_takeUpTo 42 = .ok (.iadd, 1) := by decide +kernel
theorem dX5_takeUpTo_43 : decode cX5_takeUpTo 43 = .ok (.ireturn, 1) := by decide +kernel
theorem dX5_isQueueFull_0 : decode cX5_isQueueFull 0 = .ok (.aload_n 0, 1) := by decide +kernel
theorem dX5_isQueueFull_1 : decode cX5_isQueueFull 1 = .ok (.getfield 40, 3) := by decide +kernel
theorem dX5_isQueueFull_4 : decode cX5_isQueueFull 4 = .ok (.aload_n 0, 1) := by decide +kernel
theorem dX5_isQueueFull_5 : decode cX5_isQueueFull 5 = .ok (.getfield 9, 3) := by decide +kernel
theorem dX5_isQueueFull_8 : decode cX5_isQueueFull 8 = .ok (.arraylength, 1) := by decide +kernel
theorem dX5_isQueueFull_9 : decode cX5_isQueueFull 9 = .ok (.if_icmp .lt 7, 3) := by decide +kernel
theorem dX5_isQueueFull_12 : decode cX5_isQueueFull 12 = .ok (.iconst 1, 1) := by decide +kernel
theorem dX5_isQueueFull_13 : decode cX5_isQueueFull 13 = .ok (.goto 4, 3) := by decide +kernel
theorem dX5_isQueueFull_16 : decode cX5_isQueueFull 16 = .ok (.iconst 0, 1) := by decide +kernel
theorem dX5_isQueueFull_17 : decode cX5_isQueueFull 17 = .ok (.ireturn, 1) := by decide +kernel
theorem dX5_sizeAt_0 : decode cX5_sizeAt 0 = .ok (.iload_n 1, 1) := by decide +kernel
theorem dX5_sizeAt_1 : decode cX5_sizeAt 1 = .ok (.ifCond .lt 29, 3) := by decide +kernel
theorem dX5_sizeAt_4 : decode cX5_sizeAt 4 = .ok (.iload_n 1, 1) := by decide +kernel
theorem dX5_sizeAt_5 : decode cX5_sizeAt 5 = .ok (.aload_n 0, 1) := by decide +kernel
theorem dX5_sizeAt_6 : decode cX5_sizeAt 6 = .ok (.getfield 40, 3) := by decide +kernel
theorem dX5_sizeAt_9 : decode cX5_sizeAt 9 = .ok (.if_icmp .ge 21, 3) := by decide +kernel
theorem dX5_sizeAt_12 : decode cX5_sizeAt 12 = .ok (.iload_n 1, 1) := by decide +kernel
theorem dX5_sizeAt_13 : decode cX5_sizeAt 13 = .ok (.aload_n 0, 1) := by decide +kernel
theorem dX5_sizeAt_14 : decode cX5_sizeAt 14 = .ok (.getfield 9, 3) := by decide +kernel
theorem dX5_sizeAt_17 : decode cX5_sizeAt 17 = .ok (.arraylength, 1) := by decide +kernel
theorem dX5_sizeAt_18 : decode cX5_sizeAt 18 = .ok (.if_icmp .ge 12, 3) := by decide +kernel
theorem dX5_sizeAt_21 : decode cX5_sizeAt 21 = .ok (.aload_n 0, 1) := by decide +kernel
theorem dX5_sizeAt_22 : decode cX5_sizeAt 22 = .ok (.getfield 9, 3) := by decide +kernel
theorem dX5_sizeAt_25 : decode cX5_sizeAt 25 = .ok (.iload_n 1, 1) := by decide +kernel
theorem dX5_sizeAt_26 : decode cX5_sizeAt 26 = .ok (.iaload, 1) := by decide +kernel
theorem dX5_sizeAt_27 : decode cX5_sizeAt 27 = .ok (.goto 5, 3) := by decide +kernel
theorem dX5_sizeAt_30 : decode cX5_sizeAt 30 = .ok (.bipush (-9), 2) := by decide +kernel
theorem dX5_sizeAt_32 : decode cX5_sizeAt 32 = .ok (.ireturn, 1) := by decide +kernel
theorem dX5_queueMessage_0 : decode cX5_queueMessage 0 = .ok (.aload_n 0, 1) := by decide +kernel
theorem dX5_queueMessage_1 : decode cX5_queueMessage 1 = .ok (.getfield 40, 3) := by decide +kernel
theorem dX5_queueMessage_4 : decode cX5_queueMessage 4 = .ok (.ifCond .lt 35, 3) := by decide +kernel
theorem dX5_queueMessage_7 : decode cX5_queueMessage 7 = .ok (.aload_n 0, 1) := by decide +kernel
theorem dX5_queueMessage_8 : decode cX5_queueMessage 8 = .ok (.getfield 40, 3) := by decide +kernel
theorem dX5_queueMessage_11 : decode cX5_queueMessage 11 = .ok (.aload_n 0, 1) := by decide +kernel
theorem dX5_queueMessage_12 : decode cX5_queueMessage 12 = .ok (.getfield 9, 3) := by decide +kernel
theorem dX5_queueMessage_15 : decode cX5_queueMessage 15 = .ok (.arraylength, 1) := by decide +kernel
theorem dX5_queueMessage_16 : decode cX5_queueMessage 16 = .ok (.if_icmp .ge 23, 3) := by decide +kernel
theorem dX5_queueMessage_19 : decode cX5_queueMessage 19 = .ok (.aload_n 0, 1) := by decide +kernel
theorem dX5_queueMessage_20 : decode cX5_queueMessage 20 = .ok (.getfield 9, 3) := by decide +kernel
theorem dX5_queueMessage_23 : decode cX5_queueMessage 23 = .ok (.aload_n 0, 1) := by decide +kernel
theorem dX5_queueMessage_24 : decode cX5_queueMessage 24 = .ok (.getfield 40, 3) := by decide +kernel
theorem dX5_queueMessage_27 : decode cX5_queueMessage 27 = .ok (.iload_n 1, 1) := by decide +kernel
theorem dX5_queueMessage_28 : decode cX5_queueMessage 28 = .ok (.iastore, 1) := by decide +kernel
theorem dX5_queueMessage_29 : decode cX5_queueMessage 29 = .ok (.aload_n 0, 1) := by decide +kernel
theorem dX5_queueMessage_30 : decode cX5_queueMessage 30 = .ok (.dup, 1) := by decide +kernel
theorem dX5_queueMessage_31 : decode cX5_queueMessage 31 = .ok (.getfield 40, 3) := by decide +kernel
theorem dX5_queueMessage_34 : decode cX5_queueMessage 34 = .ok (.iconst 1, 1) := by decide +kernel
theorem dX5_queueMessage_35 : decode cX5_queueMessage 35 = .ok (.iadd, 1) := by decide +kernel
theorem dX5_queueMessage_36 : decode cX5_queueMessage 36 = .ok (.putfield 40, 3) := by decide +kernel
theorem dX5_queueMessage_39 : decode cX5_queueMessage 39 = .ok (.aload_n 0, 1) := by decide +kernel
theorem dX5_queueMessage_40 : decode cX5_queueMessage 40 = .ok (.getfield 40, 3) := by decide +kernel
theorem dX5_queueMessage_43 : decode cX5_queueMessage 43 = .ok (.ireturn, 1) := by decide +kernel
theorem dX5_sendFirst_0 : decode cX5_sendFirst 0 = .ok (.aload_n 0, 1) := by decide +kernel
theorem dX5_sendFirst_1 : decode cX5_sendFirst 1 = .ok (.getfield 9, 3) := by decide +kernel
theorem dX5_sendFirst_4 : decode cX5_sendFirst 4 = .ok (.iconst 0, 1) := by decide +kernel
theorem dX5_sendFirst_5 : decode cX5_sendFirst 5 = .ok (.iaload, 1) := by decide +kernel
theorem dX5_sendFirst_6 : decode cX5_sendFirst 6 = .ok (.istore_n 1, 1) := by decide +kernel
theorem dX5_sendFirst_7 : decode cX5_sendFirst 7 = .ok (.iconst 1, 1) := by decide +kernel
theorem dX5_sendFirst_8 : decode cX5_sendFirst 8 = .ok (.istore_n 2, 1) := by decide +kernel
theorem dX5_sendFirst_9 : decode cX5_sendFirst 9 = .ok (.iload_n 2, 1) := by decide +kernel
theorem dX5_sendFirst_10 : decode cX5_sendFirst 10 = .ok (.aload_n 0, 1) := by decide +kernel
theorem dX5_sendFirst_11 : decode cX5_sendFirst 11 = .ok (.getfield 9, 3) := by decide +kernel
theorem dX5_sendFirst_14 : decode cX5_sendFirst 14 = .ok (.arraylength, 1) := by decide +kernel
theorem dX5_sendFirst_15 : decode cX5_sendFirst 15 = .ok (.if_icmp .ge 23, 3) := by decide +kernel
theorem dX5_sendFirst_18 : decode cX5_sendFirst 18 = .ok (.aload_n 0, 1) := by decide +kernel
theorem dX5_sendFirst_19 : decode cX5_sendFirst 19 = .ok (.getfield 9, 3) := by decide +kernel
theorem dX5_sendFirst_22 : decode cX5_sendFirst 22 = .ok (.iload_n 2, 1) := by decide +kernel
theorem dX5_sendFirst_23 : decode cX5_sendFirst 23 = .ok (.iconst 1, 1) := by decide +kernel
theorem dX5_sendFirst_24 : decode cX5_sendFirst 24 = .ok (.isub, 1) := by decide +kernel
theorem dX5_sendFirst_25 : decode cX5_sendFirst 25 = .ok (.aload_n 0, 1) := by decide +kernel
theorem dX5_sendFirst_26 : decode cX5_sendFirst 26 = .ok (.getfield 9, 3) := by decide +kernel
theorem dX5_sendFirst_29 : decode cX5_sendFirst 29 = .ok (.iload_n 2, 1) := by decide +kernel
theorem dX5_sendFirst_30 : decode cX5_sendFirst 30 = .ok (.iaload, 1) := by decide +kernel
theorem dX5_sendFirst_31 : decode cX5_sendFirst 31 = .ok (.iastore, 1) := by decide +kernel
theorem dX5_sendFirst_32 : decode cX5_sendFirst 32 = .ok (.iinc 2 1, 3) := by decide +kernel
theorem dX5_sendFirst_35 : decode cX5_sendFirst 35 = .ok (.goto (-26), 3) := by decide +kernel
theorem dX5_sendFirst_38 : decode cX5_sendFirst 38 = .ok (.aload_n 0, 1) := by decide +kernel
theorem dX5_sendFirst_39 : decode cX5_sendFirst 39 = .ok (.dup, 1) := by decide +kernel
theorem dX5_sendFirst_40 : decode cX5_sendFirst 40 = .ok (.getfield 40, 3) := by decide +kernel
theorem dX5_sendFirst_43 : decode cX5_sendFirst 43 = .ok (.iconst 1, 1) := by decide +kernel
theorem dX5_sendFirst_44 : decode cX5_sendFirst 44 = .ok (.isub, 1) := by decide +kernel
theorem dX5_sendFirst_45 : decode cX5_sendFirst 45 = .ok (.putfield 40, 3) := by decide +kernel
theorem dX5_sendFirst_48 : decode cX5_sendFirst 48 = .ok (.aload_n 0, 1) := by decide +kernel
theorem dX5_sendFirst_49 : decode cX5_sendFirst 49 = .ok (.iload_n 1, 1) := by decide +kernel
theorem dX5_sendFirst_50 : decode cX5_sendFirst 50 = .ok (.invokevirtual 55, 3) := by decide +kernel
theorem dX5_sendFirst_53 : decode cX5_sendFirst 53 = .ok (.pop, 1) := by decide +kernel
theorem dX5_sendFirst_54 : decode cX5_sendFirst 54 = .ok (.aload_n 0, 1) := by decide +kernel
theorem dX5_sendFirst_55 : decode cX5_sendFirst 55 = .ok (.dup, 1) := by decide +kernel
theorem dX5_sendFirst_56 : decode cX5_sendFirst 56 = .ok (.getfield 34, 3) := by decide +kernel
theorem dX5_sendFirst_59 : decode cX5_sendFirst 59 = .ok (.iload_n 1, 1) := by decide +kernel
theorem dX5_sendFirst_60 : decode cX5_sendFirst 60 = .ok (.iadd, 1) := by decide +kernel
theorem dX5_sendFirst_61 : decode cX5_sendFirst 61 = .ok (.putfield 34, 3) := by decide +kernel
theorem dX5_sendFirst_64 : decode cX5_sendFirst 64 = .ok (.iload_n 1, 1) := by decide +kernel
theorem dX5_sendFirst_65 : decode cX5_sendFirst 65 = .ok (.ireturn, 1) := by decide +kernel
theorem dX5_owe_0 : decode cX5_owe 0 = .ok (.aload_n 0, 1) := by decide +kernel
theorem dX5_owe_1 : decode cX5_owe 1 = .ok (.getfield 15, 3) := by decide +kernel
theorem dX5_owe_4 : decode cX5_owe 4 = .ok (.iload_n 2, 1) := by decide +kernel
theorem dX5_owe_5 : decode cX5_owe 5 = .ok (.bipush 51, 2) := by decide +kernel
theorem dX5_owe_7 : decode cX5_owe 7 = .ok (.invokestatic 59, 3) := by decide +kernel
theorem dX5_owe_10 : decode cX5_owe 10 = .ok (.dup2, 1) := by decide +kernel
theorem dX5_owe_11 : decode cX5_owe 11 = .ok (.iaload, 1) := by decide +kernel
theorem dX5_owe_12 : decode cX5_owe 12 = .ok (.iload_n 1, 1) := by decide +kernel
theorem dX5_owe_13 : decode cX5_owe 13 = .ok (.iadd, 1) := by decide +kernel
theorem dX5_owe_14 : decode cX5_owe 14 = .ok (.iastore, 1) := by decide +kernel
theorem dX5_owe_15 : decode cX5_owe 15 = .ok (.return_, 1) := by decide +kernel
theorem dX5_owedAt_0 : decode cX5_owedAt 0 = .ok (.aload_n 0, 1) := by decide +kernel
theorem dX5_owedAt_1 : decode cX5_owedAt 1 = .ok (.getfield 15, 3) := by decide +kernel
theorem dX5_owedAt_4 : decode cX5_owedAt 4 = .ok (.iload_n 1, 1) := by decide +kernel
theorem dX5_owedAt_5 : decode cX5_owedAt 5 = .ok (.bipush 51, 2) := by decide +kernel
theorem dX5_owedAt_7 : decode cX5_owedAt 7 = .ok (.invokestatic 59, 3) := by decide +kernel
theorem dX5_owedAt_10 : decode cX5_owedAt 10 = .ok (.iaload, 1) := by decide +kernel
theorem dX5_owedAt_11 : decode cX5_owedAt 11 = .ok (.ireturn, 1) := by decide +kernel
theorem dX5_owedInAll_0 : decode cX5_owedInAll 0 = .ok (.iconst 0, 1) := by decide +kernel
theorem dX5_owedInAll_1 : decode cX5_owedInAll 1 = .ok (.istore_n 1, 1) := by decide +kernel
theorem dX5_owedInAll_2 : decode cX5_owedInAll 2 = .ok (.aload_n 0, 1) := by decide +kernel
theorem dX5_owedInAll_3 : decode cX5_owedInAll 3 = .ok (.getfield 15, 3) := by decide +kernel
theorem dX5_owedInAll_6 : decode cX5_owedInAll 6 = .ok (.astore_n 2, 1) := by decide +kernel
theorem dX5_owedInAll_7 : decode cX5_owedInAll 7 = .ok (.aload_n 2, 1) := by decide +kernel
theorem dX5_owedInAll_8 : decode cX5_owedInAll 8 = .ok (.arraylength, 1) := by decide +kernel
theorem dX5_owedInAll_9 : decode cX5_owedInAll 9 = .ok (.istore_n 3, 1) := by decide +kernel
theorem dX5_owedInAll_10 : decode cX5_owedInAll 10 = .ok (.iconst 0, 1) := by decide +kernel
theorem dX5_owedInAll_11 : decode cX5_owedInAll 11 = .ok (.istore 4, 2) := by decide +kernel
theorem dX5_owedInAll_13 : decode cX5_owedInAll 13 = .ok (.iload 4, 2) := by decide +kernel
theorem dX5_owedInAll_15 : decode cX5_owedInAll 15 = .ok (.iload_n 3, 1) := by decide +kernel
theorem dX5_owedInAll_16 : decode cX5_owedInAll 16 = .ok (.if_icmp .ge 20, 3) := by decide +kernel
theorem dX5_owedInAll_19 : decode cX5_owedInAll 19 = .ok (.aload_n 2, 1) := by decide +kernel
theorem dX5_owedInAll_20 : decode cX5_owedInAll 20 = .ok (.iload 4, 2) := by decide +kernel
theorem dX5_owedInAll_22 : decode cX5_owedInAll 22 = .ok (.iaload, 1) := by decide +kernel
theorem dX5_owedInAll_23 : decode cX5_owedInAll 23 = .ok (.istore 5, 2) := by decide +kernel
theorem dX5_owedInAll_25 : decode cX5_owedInAll 25 = .ok (.iload_n 1, 1) := by decide +kernel
theorem dX5_owedInAll_26 : decode cX5_owedInAll 26 = .ok (.iload 5, 2) := by decide +kernel
theorem dX5_owedInAll_28 : decode cX5_owedInAll 28 = .ok (.iadd, 1) := by decide +kernel
theorem dX5_owedInAll_29 : decode cX5_owedInAll 29 = .ok (.istore_n 1, 1) := by decide +kernel
theorem dX5_owedInAll_30 : decode cX5_owedInAll 30 = .ok (.iinc 4 1, 3) := by decide +kernel
theorem dX5_owedInAll_33 : decode cX5_owedInAll 33 = .ok (.goto (-20), 3) := by decide +kernel
theorem dX5_owedInAll_36 : decode cX5_owedInAll 36 = .ok (.iload_n 1, 1) := by decide +kernel
theorem dX5_owedInAll_37 : decode cX5_owedInAll 37 = .ok (.ireturn, 1) := by decide +kernel
theorem dX6_init_0 : decode cX6_init 0 = .ok (.aload_n 0, 1) := by decide +kernel
theorem dX6_init_1 : decode cX6_init 1 = .ok (.invokespecial 3, 3) := by decide +kernel
theorem dX6_init_4 : decode cX6_init 4 = .ok (.aload_n 0, 1) := by decide +kernel
theorem dX6_init_5 : decode cX6_init 5 = .ok (.new 9, 3) := by decide +kernel
theorem dX6_init_8 : decode cX6_init 8 = .ok (.dup, 1) := by decide +kernel
theorem dX6_init_9 : decode cX6_init 9 = .ok (.invokespecial 11, 3) := by decide +kernel
theorem dX6_init_12 : decode cX6_init 12 = .ok (.putfield 12, 3) := by decide +kernel
theorem dX6_init_15 : decode cX6_init 15 = .ok (.aload_n 0, 1) := by decide +kernel
theorem dX6_init_16 : decode cX6_init 16 = .ok (.new 9, 3) := by decide +kernel
theorem dX6_init_19 : decode cX6_init 19 = .ok (.dup, 1) := by decide +kernel
theorem dX6_init_20 : decode cX6_init 20 = .ok (.invokespecial 11, 3) := by decide +kernel
theorem dX6_init_23 : decode cX6_init 23 = .ok (.putfield 16, 3) := by decide +kernel
theorem dX6_init_26 : decode cX6_init 26 = .ok (.aload_n 0, 1) := by decide +kernel
theorem dX6_init_27 : decode cX6_init 27 = .ok (.new 19, 3) := by decide +kernel
theorem dX6_init_30 : decode cX6_init 30 = .ok (.dup, 1) := by decide +kernel
theorem dX6_init_31 : decode cX6_init 31 = .ok (.invokespecial 21, 3) := by decide +kernel
theorem dX6_init_34 : decode cX6_init 34 = .ok (.putfield 22, 3) := by decide +kernel
theorem dX6_init_37 : decode cX6_init 37 = .ok (.aload_n 0, 1) := by decide +kernel
theorem dX6_init_38 : decode cX6_init 38 = .ok (.new 26, 3) := by decide +kernel
theorem dX6_init_41 : decode cX6_init 41 = .ok (.dup, 1) := by decide +kernel
theorem dX6_init_42 : decode cX6_init 42 = .ok (.invokespecial 28, 3) := by decide +kernel
theorem dX6_init_45 : decode cX6_init 45 = .ok (.putfield 29, 3) := by decide +kernel
theorem dX6_init_48 : decode cX6_init 48 = .ok (.aload_n 0, 1) := by decide +kernel
theorem dX6_init_49 : decode cX6_init 49 = .ok (.iconst 2, 1) := by decide +kernel
theorem dX6_init_50 : decode cX6_init 50 = .ok (.anewarray 9, 3) := by decide +kernel
theorem dX6_init_53 : decode cX6_init 53 = .ok (.putfield 33, 3) := by decide +kernel
theorem dX6_init_56 : decode cX6_init 56 = .ok (.aload_n 0, 1) := by decide +kernel
theorem dX6_init_57 : decode cX6_init 57 = .ok (.iconst 2, 1) := by decide +kernel
theorem dX6_init_58 : decode cX6_init 58 = .ok (.newarray .boolean, 2) := by decide +kernel
theorem dX6_init_60 : decode cX6_init 60 = .ok (.putfield 37, 3) := by decide +kernel
theorem dX6_init_63 : decode cX6_init 63 = .ok (.aload_n 0, 1) := by decide +kernel
theorem dX6_init_64 : decode cX6_init 64 = .ok (.new 41, 3) := by decide +kernel
theorem dX6_init_67 : decode cX6_init 67 = .ok (.dup, 1) := by decide +kernel
theorem dX6_init_68 : decode cX6_init 68 = .ok (.invokespecial 43, 3) := by decide +kernel
theorem dX6_init_71 : decode cX6_init 71 = .ok (.putfield 44, 3) := by decide +kernel
theorem dX6_init_74 : decode cX6_init 74 = .ok (.aload_n 0, 1) := by decide +kernel
theorem dX6_init_75 : decode cX6_init 75 = .ok (.getfield 12, 3) := by decide +kernel
theorem dX6_init_78 : decode cX6_init 78 = .ok (.iconst 1, 1) := by decide +kernel
theorem dX6_init_79 : decode cX6_init 79 = .ok (.iconst 1, 1) := by decide +kernel
theorem dX6_init_80 : decode cX6_init 80 = .ok (.iconst 1, 1) := by decide +kernel
theorem dX6_init_81 : decode cX6_init 81 = .ok (.iconst 0, 1) := by decide +kernel
theorem dX6_init_82 : decode cX6_init 82 = .ok (.invokevirtual 48, 3) := by decide +kernel
theorem dX6_init_85 : decode cX6_init 85 = .ok (.aload_n 0, 1) := by decide +kernel
theorem dX6_init_86 : decode cX6_init 86 = .ok (.getfield 12, 3) := by decide +kernel
theorem dX6_init_89 : decode cX6_init 89 = .ok (.iconst 1, 1) := by decide +kernel
theorem dX6_init_90 : decode cX6_init 90 = .ok (.iconst 0, 1) := by decide +kernel
theorem dX6_init_91 : decode cX6_init 91 = .ok (.iconst 0, 1) := by decide +kernel
theorem dX6_init_92 : decode cX6_init 92 = .ok (.invokevirtual 52, 3) := by decide +kernel
theorem dX6_init_95 : decode cX6_init 95 = .ok (.return_, 1) := by decide +kernel
theorem dX6_append_0 : decode cX6_append 0 = .ok (.iload_n 1, 1) := by decide +kernel
theorem dX6_append_1 : decode cX6_append 1 = .ok (.iconst 0, 1) := by decide +kernel
theorem dX6_append_2 : decode cX6_append 2 = .ok (.sipush 255, 3) := by decide +kernel
theorem dX6_append_5 : decode cX6_append 5 = .ok (.invokestatic 56, 3) := by decide +kernel
theorem dX6_append_8 : decode cX6_append 8 = .ok (.invokestatic 60, 3) := by decide +kernel
theorem dX6_append_11 : decode cX6_append 11 = .ok (.aload_n 0, 1) := by decide +kernel
theorem dX6_append_12 : decode cX6_append 12 = .ok (.getfield 44, 3) := by decide +kernel
theorem dX6_append_15 : decode cX6_append 15 = .ok (.invokevirtual 64, 3) := by decide +kernel
theorem dX6_append_18 : decode cX6_append 18 = .ok (.ifCond .ne 7, 3) := by decide +kernel
theorem dX6_append_21 : decode cX6_append 21 = .ok (.iconst 1, 1) := by decide +kernel
theorem dX6_append_22 : decode cX6_append 22 = .ok (.goto 4, 3) := by decide +kernel
theorem dX6_append_25 : decode cX6_append 25 = .ok (.iconst 0, 1) := by decide +kernel
theorem dX6_append_26 : decode cX6_append 26 = .ok (.invokestatic 68, 3) := by decide +kernel
theorem dX6_append_29 : decode cX6_append 29 = .ok (.aload_n 0, 1) := by decide +kernel
theorem dX6_append_30 : decode cX6_append 30 = .ok (.getfield 44, 3) := by decide +kernel
theorem dX6_append_33 : decode cX6_append 33 = .ok (.iload_n 1, 1) := by decide +kernel
theorem dX6_append_34 : decode cX6_append 34 = .ok (.invokevirtual 71, 3) := by decide +kernel
theorem dX6_append_37 : decode cX6_append 37 = .ok (.ireturn, 1) := by decide +kernel
theorem dX6_clearText_0 : decode cX6_clearText 0 = .ok (.aload_n 0, 1) := by decide +kernel
theorem dX6_clearText_1 : decode cX6_clearText 1 = .ok (.getfield 44, 3) := by decide +kernel
theorem dX6_clearText_4 : decode cX6_clearText 4 = .ok (.invokevirtual 75, 3) := by decide +kernel
theorem dX6_clearText_7 : decode cX6_clearText 7 = .ok (.ireturn, 1) := by decide +kernel
theorem dX6_errorPosition_0 : decode cX6_errorPosition 0 = .ok (.aload_n 0, 1) := by decide +kernel
theorem dX6_errorPosition_1 : decode cX6_errorPosition 1 = .ok (.getfield 44, 3) := by decide +kernel
theorem dX6_errorPosition_4 : decode cX6_errorPosition 4 = .ok (.aload_n 0, 1) := by decide +kernel
theorem dX6_errorPosition_5 : decode cX6_errorPosition 5 = .ok (.getfield 16, 3) := by decide +kernel
theorem dX6_errorPosition_8 : decode cX6_errorPosition 8 = .ok (.invokevirtual 79, 3) := by decide +kernel
theorem dX6_errorPosition_11 : decode cX6_errorPosition 11 = .ok (.ireturn, 1) := by decide +kernel
theorem dX6_load_0 : decode cX6_load 0 = .ok (.aload_n 0, 1) := by decide +kernel
theorem dX6_load_1 : decode cX6_load 1 = .ok (.getfield 44, 3) := by decide +kernel
theorem dX6_load_4 : decode cX6_load 4 = .ok (.aload_n 0, 1) := by decide +kernel
theorem dX6_load_5 : decode cX6_load 5 = .ok (.getfield 16, 3) := by decide +kernel
theorem dX6_load_8 : decode cX6_load 8 = .ok (.invokevirtual 79, 3) := by decide +kernel
theorem dX6_load_11 : decode cX6_load 11 = .ok (.bipush (-9), 2) := by decide +kernel
theorem dX6_load_13 : decode cX6_load 13 = .ok (.if_icmp .ne 7, 3) := by decide +kernel
theorem dX6_load_16 : decode cX6_load 16 = .ok (.iconst 1, 1) := by decide +kernel
theorem dX6_load_17 : decode cX6_load 17 = .ok (.goto 4, 3) := by decide +kernel
theorem dX6_load_20 : decode cX6_load 20 = .ok (.iconst 0, 1) := by decide +kernel
theorem dX6_load_21 : decode cX6_load 21 = .ok (.invokestatic 68, 3) := by decide +kernel
theorem dX6_load_24 : decode cX6_load 24 = .ok (.aload_n 0, 1) := by decide +kernel
theorem dX6_load_25 : decode cX6_load 25 = .ok (.getfield 12, 3) := by decide +kernel
theorem dX6_load_28 : decode cX6_load 28 = .ok (.aload_n 0, 1) := by decide +kernel
theorem dX6_load_29 : decode cX6_load 29 = .ok (.getfield 16, 3) := by decide +kernel
theorem dX6_load_32 : decode cX6_load 32 = .ok (.invokevirtual 83, 3) := by decide +kernel
theorem dX6_load_35 : decode cX6_load 35 = .ok (.aload_n 0, 1) := by decide +kernel
theorem dX6_load_36 : decode cX6_load 36 = .ok (.getfield 29, 3) := by decide +kernel
theorem dX6_load_39 : decode cX6_load 39 = .ok (.invokevirtual 87, 3) := by decide +kernel
theorem dX6_load_42 : decode cX6_load 42 = .ok (.iconst 0, 1) := by decide +kernel
theorem dX6_load_43 : decode cX6_load 43 = .ok (.istore_n 1, 1) := by decide +kernel
theorem dX6_load_44 : decode cX6_load 44 = .ok (.iload_n 1, 1) := by decide +kernel
theorem dX6_load_45 : decode cX6_load 45 = .ok (.aload_n 0, 1) := by decide +kernel
theorem dX6_load_46 : decode cX6_load 46 = .ok (.getfield 37, 3) := by decide +kernel
theorem dX6_load_49 : decode cX6_load 49 = .ok (.arraylength, 1) := by decide +kernel
theorem dX6_load_50 : decode cX6_load 50 = .ok (.if_icmp .ge 16, 3) := by decide +kernel
theorem dX6_load_53 : decode cX6_load 53 = .ok (.aload_n 0, 1) := by decide +kernel
theorem dX6_load_54 : decode cX6_load 54 = .ok (.getfield 37, 3) := by decide +kernel
theorem dX6_load_57 : decode cX6_load 57 = .ok (.iload_n 1, 1) := by decide +kernel
theorem dX6_load_58 : decode cX6_load 58 = .ok (.iconst 0, 1) := by decide +kernel
theorem dX6_load_59 : decode cX6_load 59 = .ok (.bastore, 1) := by decide +kernel
theorem dX6_load_60 : decode cX6_load 60 = .ok (.iinc 1 1, 3) := by decide +kernel
theorem dX6_load_63 : decode cX6_load 63 = .ok (.goto (-19), 3) := by decide +kernel
theorem dX6_load_66 : decode cX6_load 66 = .ok (.aload_n 0, 1) := by decide +kernel
theorem dX6_load_67 : decode cX6_load 67 = .ok (.getfield 12, 3) := by decide +kernel
theorem dX6_load_70 : decode cX6_load 70 = .ok (.getfield 90, 3) := by decide +kernel
theorem dX6_load_73 : decode cX6_load 73 = .ok (.ireturn, 1) := by decide +kernel
theorem dX6_about_0 : decode cX6_about 0 = .ok (.iload_n 1, 1) := by decide +kernel
theorem dX6_about_1 : decode cX6_about 1 = .ok (.iconst 0, 1) := by decide +kernel
theorem dX6_about_2 : decode cX6_about 2 = .ok (.bipush 9, 2) := by decide +kernel
theorem dX6_about_4 : decode cX6_about 4 = .ok (.invokestatic 56, 3) := by decide +kernel
theorem dX6_about_7 : decode cX6_about 7 = .ok (.invokestatic 60, 3) := by decide +kernel
theorem dX6_about_10 : decode cX6_about 10 = .ok (.aload_n 0, 1) := by decide +kernel
theorem dX6_about_11 : decode cX6_about 11 = .ok (.getfield 12, 3) := by decide +kernel
theorem dX6_about_14 : decode cX6_about 14 = .ok (.iload_n 1, 1) := by decide +kernel
theorem dX6_about_15 : decode cX6_about 15 = .ok (.invokevirtual 94, 3) := by decide +kernel
theorem dX6_about_18 : decode cX6_about 18 = .ok (.ireturn, 1) := by decide +kernel
theorem dX6_tenant_0 : decode cX6_tenant 0 = .ok (.aload_n 0, 1) := by decide +kernel
theorem dX6_tenant_1 : decode cX6_tenant 1 = .ok (.getfield 12, 3) := by decide +kernel
theorem dX6_tenant_4 : decode cX6_tenant 4 = .ok (.iload_n 1, 1) := by decide +kernel
theorem dX6_tenant_5 : decode cX6_tenant 5 = .ok (.invokevirtual 97, 3) := by decide +kernel
theorem dX6_tenant_8 : decode cX6_tenant 8 = .ok (.invokestatic 101, 3) := by decide +kernel
theorem dX6_tenant_11 : decode cX6_tenant 11 = .ok (.iload_n 2, 1) := by decide +kernel
theorem dX6_tenant_12 : decode cX6_tenant 12 = .ok (.iconst 0, 1) := by decide +kernel
theorem dX6_tenant_13 : decode cX6_tenant 13 = .ok (.bipush 11, 2) := by decide +kernel
theorem dX6_tenant_15 : decode cX6_tenant 15 = .ok (.invokestatic 56, 3) := by decide +kernel
theorem dX6_tenant_18 : decode cX6_tenant 18 = .ok (.invokestatic 60, 3) := by decide +kernel
theorem dX6_tenant_21 : decode cX6_tenant 21 = .ok (.aload_n 0, 1) := by decide +kernel
theorem dX6_tenant_22 : decode cX6_tenant 22 = .ok (.getfield 12, 3) := by decide +kernel
theorem dX6_tenant_25 : decode cX6_tenant 25 = .ok (.iload_n 1, 1) := by decide +kernel
theorem dX6_tenant_26 : decode cX6_tenant 26 = .ok (.iload_n 2, 1) := by decide +kernel
theorem dX6_tenant_27 : decode cX6_tenant 27 = .ok (.invokevirtual 104, 3) := by decide +kernel
theorem dX6_tenant_30 : decode cX6_tenant 30 = .ok (.ireturn, 1) := by decide +kernel
theorem dX6_message_0 : decode cX6_message 0 = .ok (.aload_n 0, 1) := by decide +kernel
theorem dX6_message_1 : decode cX6_message 1 = .ok (.getfield 12, 3) := by decide +kernel
theorem dX6_message_4 : decode cX6_message 4 = .ok (.iload_n 1, 1) := by decide +kernel
theorem dX6_message_5 : decode cX6_message 5 = .ok (.invokevirtual 97, 3) := by decide +kernel
theorem dX6_message_8 : decode cX6_message 8 = .ok (.invokestatic 101, 3) := by decide +kernel
theorem dX6_message_11 : decode cX6_message 11 = .ok (.iload_n 2, 1) := by decide +kernel
theorem dX6_message_12 : decode cX6_message 12 = .ok (.invokestatic 108, 3) := by decide +kernel
theorem dX6_message_15 : decode cX6_message 15 = .ok (.invokestatic 60, 3) := by decide +kernel
theorem dX6_message_18 : decode cX6_message 18 = .ok (.aload_n 0, 1) := by decide +kernel
theorem dX6_message_19 : decode cX6_message 19 = .ok (.getfield 12, 3) := by decide +kernel
theorem dX6_message_22 : decode cX6_message 22 = .ok (.getfield 111, 3) := by decide +kernel
theorem dX6_message_25 : decode cX6_message 25 = .ok (.iload_n 1, 1) := by decide +kernel
theorem dX6_message_26 : decode cX6_message 26 = .ok (.aaload, 1) := by decide +kernel
theorem dX6_message_27 : decode cX6_message 27 = .ok (.iload_n 2, 1) := by decide +kernel
theorem dX6_message_28 : decode cX6_message 28 = .ok (.invokevirtual 115, 3) := by decide +kernel
theorem dX6_message_31 : decode cX6_message 31 = .ok (.ireturn, 1) := by decide +kernel
theorem dX6_order_0 : decode cX6_order 0 = .ok (.aload_n 0, 1) := by decide +kernel
theorem dX6_order_1 : decode cX6_order 1 = .ok (.getfield 12, 3) := by decide +kernel
theorem dX6_order_4 : decode cX6_order 4 = .ok (.iload_n 1, 1) := by decide +kernel
theorem dX6_order_5 : decode cX6_order 5 = .ok (.invokevirtual 120, 3) := by decide +kernel
theorem dX6_order_8 : decode cX6_order 8 = .ok (.invokestatic 101, 3) := by decide +kernel
theorem dX6_order_11 : decode cX6_order 11 = .ok (.iload_n 2, 1) := by decide +kernel
theorem dX6_order_12 : decode cX6_order 12 = .ok (.iconst 0, 1) := by decide +kernel
theorem dX6_order_13 : decode cX6_order 13 = .ok (.iconst 4, 1) := by decide +kernel
theorem dX6_order_14 : decode cX6_order 14 = .ok (.invokestatic 56, 3) := by decide +kernel
theorem dX6_order_17 : decode cX6_order 17 = .ok (.invokestatic 60, 3) := by decide +kernel
theorem dX6_order_20 : decode cX6_order 20 = .ok (.aload_n 0, 1) := by decide +kernel
theorem dX6_order_21 : decode cX6_order 21 = .ok (.getfield 12, 3) := by decide +kernel
theorem dX6_order_24 : decode cX6_order 24 = .ok (.getfield 123, 3) := by decide +kernel
theorem dX6_order_27 : decode cX6_order 27 = .ok (.iload_n 1, 1) := by decide +kernel
theorem dX6_order_28 : decode cX6_order 28 = .ok (.aaload, 1) := by decide +kernel
theorem dX6_order_29 : decode cX6_order 29 = .ok (.astore_n 3, 1) := by decide +kernel
theorem dX6_order_30 : decode cX6_order 30 = .ok (.iload_n 2, 1) := by decide +kernel
theorem dX6_order_31 : decode cX6_order 31 = .ok (.tableswitch 49 0 3 #[29, 34, 39, 44], 29) := by decide +kernel
theorem dX6_order_60 : decode cX6_order 60 = .ok (.aload_n 3, 1) := by decide +kernel
theorem dX6_order_61 : decode cX6_order 61 = .ok (.getfield 127, 3) := by decide +kernel
theorem dX6_order_64 : decode cX6_order 64 = .ok (.ireturn, 1) := by decide +kernel
theorem dX6_order_65 : decode cX6_order 65 = .ok (.aload_n 3, 1) := by decide +kernel
theorem dX6_order_66 : decode cX6_order 66 = .ok (.getfield 132, 3) := by decide +kernel
theorem dX6_order_69 : decode cX6_order 69 = .ok (.ireturn, 1) := by decide +kernel
theorem dX6_order_70 : decode cX6_order 70 = .ok (.aload_n 3, 1) := by decide +kernel
theorem dX6_order_71 : decode cX6_order 71 = .ok (.getfield 135, 3) := by decide +kernel
theorem dX6_order_74 : decode cX6_order 74 = .ok (.ireturn, 1) := by decide +kernel
theorem dX6_order_75 : decode cX6_order 75 = .ok (.aload_n 3, 1) := by decide +kernel
theorem dX6_order_76 : decode cX6_order 76 = .ok (.getfield 138, 3) := by decide +kernel
theorem dX6_order_79 : decode cX6_order 79 = .ok (.ireturn, 1) := by decide +kernel
theorem dX6_order_80 : decode cX6_order 80 = .ok (.aload_n 0, 1) := by decide +kernel
theorem dX6_order_81 : decode cX6_order 81 = .ok (.getfield 22, 3) := by decide +kernel
theorem dX6_order_84 : decode cX6_order 84 = .ok (.aload_n 0, 1) := by decide +kernel
theorem dX6_order_85 : decode cX6_order 85 = .ok (.getfield 12, 3) := by decide +kernel
theorem dX6_order_88 : decode cX6_order 88 = .ok (.invokevirtual 141, 3) := by decide +kernel
theorem dX6_order_91 : decode cX6_order 91 = .ok (.aload_n 0, 1) := by decide +kernel
theorem dX6_order_92 : decode cX6_order 92 = .ok (.getfield 22, 3) := by decide +kernel
theorem dX6_order_95 : decode cX6_order 95 = .ok (.iload_n 1, 1) := by decide +kernel
theorem dX6_order_96 : decode cX6_order 96 = .ok (.invokevirtual 144, 3) := by decide +kernel
theorem dX6_order_99 : decode cX6_order 99 = .ok (.ireturn, 1) := by decide +kernel
theorem dX6_bid_0 : decode cX6_bid 0 = .ok (.aload_n 0, 1) := by decide +kernel
theorem dX6_bid_1 : decode cX6_bid 1 = .ok (.iconst 0, 1) := by decide +kernel
theorem dX6_bid_2 : decode cX6_bid 2 = .ok (.iload_n 1, 1) := by decide +kernel
theorem dX6_bid_3 : decode cX6_bid 3 = .ok (.iload_n 2, 1) := by decide +kernel
theorem dX6_bid_4 : decode cX6_bid 4 = .ok (.iload_n 3, 1) := by decide +kernel
theorem dX6_bid_5 : decode cX6_bid 5 = .ok (.invokevirtual 147, 3) := by decide +kernel
theorem dX6_bid_8 : decode cX6_bid 8 = .ok (.ireturn, 1) := by decide +kernel
theorem dX6_ask_0 : decode cX6_ask 0 = .ok (.aload_n 0, 1) := by decide +kernel
theorem dX6_ask_1 : decode cX6_ask 1 = .ok (.iconst 1, 1) := by decide +kernel
theorem dX6_ask_2 : decode cX6_ask 2 = .ok (.iload_n 1, 1) := by decide +kernel
theorem dX6_ask_3 : decode cX6_ask 3 = .ok (.iload_n 2, 1) := by decide +kernel
theorem dX6_ask_4 : decode cX6_ask 4 = .ok (.iload_n 3, 1) := by decide +kernel
theorem dX6_ask_5 : decode cX6_ask 5 = .ok (.invokevirtual 147, 3) := by decide +kernel
theorem dX6_ask_8 : decode cX6_ask 8 = .ok (.ireturn, 1) := by decide +kernel
theorem dX6_askShort_0 : decode cX6_askShort 0 = .ok (.aload_n 0, 1) := by decide +kernel
theorem dX6_askShort_1 : decode cX6_askShort 1 = .ok (.iconst 2, 1) := by decide +kernel
theorem dX6_askShort_2 : decode cX6_askShort 2 = .ok (.iload_n 1, 1) := by decide +kernel
theorem dX6_askShort_3 : decode cX6_askShort 3 = .ok (.iload_n 2, 1) := by decide +kernel
theorem dX6_askShort_4 : decode cX6_askShort 4 = .ok (.iload_n 3, 1) := by decide +kernel
theorem dX6_askShort_5 : decode cX6_askShort 5 = .ok (.invokevirtual 147, 3) := by decide +kernel
theorem dX6_askShort_8 : decode cX6_askShort 8 = .ok (.ireturn, 1) := by decide +kernel
theorem dX6_withdraw_0 : decode cX6_withdraw 0 = .ok (.aload_n 0, 1) := by decide +kernel
theorem dX6_withdraw_1 : decode cX6_withdraw 1 = .ok (.getfield 12, 3) := by decide +kernel
theorem dX6_withdraw_4 : decode cX6_withdraw 4 = .ok (.iload_n 1, 1) := by decide +kernel
theorem dX6_withdraw_5 : decode cX6_withdraw 5 = .ok (.invokevirtual 120, 3) := by decide +kernel
theorem dX6_withdraw_8 : decode cX6_withdraw 8 = .ok (.invokestatic 101, 3) := by decide +kernel
theorem dX6_withdraw_11 : decode cX6_withdraw 11 = .ok (.aload_n 0, 1) := by decide +kernel
theorem dX6_withdraw_12 : decode cX6_withdraw 12 = .ok (.getfield 29, 3) := by decide +kernel
theorem dX6_withdraw_15 : decode cX6_withdraw 15 = .ok (.aload_n 0, 1) := by decide +kernel
theorem dX6_withdraw_16 : decode cX6_withdraw 16 = .ok (.getfield 12, 3) := by decide +kernel
theorem dX6_withdraw_19 : decode cX6_withdraw 19 = .ok (.invokevirtual 151, 3) := by decide +kernel
theorem dX6_withdraw_22 : decode cX6_withdraw 22 = .ok (.aload_n 0, 1) := by decide +kernel
theorem dX6_withdraw_23 : decode cX6_withdraw 23 = .ok (.getfield 12, 3) := by decide +kernel
theorem dX6_withdraw_26 : decode cX6_withdraw 26 = .ok (.iload_n 1, 1) := by decide +kernel
theorem dX6_withdraw_27 : decode cX6_withdraw 27 = .ok (.invokevirtual 154, 3) := by decide +kernel
theorem dX6_withdraw_30 : decode cX6_withdraw 30 = .ok (.ireturn, 1) := by decide +kernel
theorem dX6_push_0 : decode cX6_push 0 = .ok (.aload_n 0, 1) := by decide +kernel
theorem dX6_push_1 : decode cX6_push 1 = .ok (.getfield 12, 3) := by decide +kernel
theorem dX6_push_4 : decode cX6_push 4 = .ok (.iload_n 1, 1) := by decide +kernel
theorem dX6_push_5 : decode cX6_push 5 = .ok (.invokevirtual 97, 3) := by decide +kernel
theorem dX6_push_8 : decode cX6_push 8 = .ok (.invokestatic 101, 3) := by decide +kernel
theorem dX6_push_11 : decode cX6_push 11 = .ok (.iload_n 2, 1) := by decide +kernel
theorem dX6_push_12 : decode cX6_push 12 = .ok (.invokestatic 157, 3) := by decide +kernel
theorem dX6_push_15 : decode cX6_push 15 = .ok (.invokestatic 60, 3) := by decide +kernel
theorem dX6_push_18 : decode cX6_push 18 = .ok (.aload_n 0, 1) := by decide +kernel
theorem dX6_push_19 : decode cX6_push 19 = .ok (.getfield 12, 3) := by decide +kernel
theorem dX6_push_22 : decode cX6_push 22 = .ok (.getfield 111, 3) := by decide +kernel
theorem dX6_push_25 : decode cX6_push 25 = .ok (.iload_n 1, 1) := by decide +kernel
theorem dX6_push_26 : decode cX6_push 26 = .ok (.aaload, 1) := by decide +kernel
theorem dX6_push_27 : decode cX6_push 27 = .ok (.invokevirtual 160, 3) := by decide +kernel
theorem dX6_push_30 : decode cX6_push 30 = .ok (.ifCond .ne 7, 3) := by decide +kernel
theorem dX6_push_33 : decode cX6_push 33 = .ok (.iconst 1, 1) := by decide +kernel
theorem dX6_push_34 : decode cX6_push 34 = .ok (.goto 4, 3) := by decide +kernel
theorem dX6_push_37 : decode cX6_push 37 = .ok (.iconst 0, 1) := by decide +kernel
theorem dX6_push_38 : decode cX6_push 38 = .ok (.invokestatic 68, 3) := by decide +kernel
theorem dX6_push_41 : decode cX6_push 41 = .ok (.aload_n 0, 1) := by decide +kernel
theorem dX6_push_42 : decode cX6_push 42 = .ok (.getfield 29, 3) := by decide +kernel
theorem dX6_push_45 : decode cX6_push 45 = .ok (.aload_n 0, 1) := by decide +kernel
theorem dX6_push_46 : decode cX6_push 46 = .ok (.getfield 12, 3) := by decide +kernel
theorem dX6_push_49 : decode cX6_push 49 = .ok (.invokevirtual 151, 3) := by decide +kernel
theorem dX6_push_52 : decode cX6_push 52 = .ok (.aload_n 0, 1) := by decide +kernel
theorem dX6_push_53 : decode cX6_push 53 = .ok (.getfield 12, 3) := by decide +kernel
theorem dX6_push_56 : decode cX6_push 56 = .ok (.getfield 111, 3) := by decide +kernel
theorem dX6_push_59 : decode cX6_push 59 = .ok (.iload_n 1, 1) := by decide +kernel
theorem dX6_push_60 : decode cX6_push 60 = .ok (.aaload, 1) := by decide +kernel
theorem dX6_push_61 : decode cX6_push 61 = .ok (.iload_n 2, 1) := by decide +kernel
theorem dX6_push_62 : decode cX6_push 62 = .ok (.invokevirtual 163, 3) := by decide +kernel
theorem dX6_push_65 : decode cX6_push 65 = .ok (.ireturn, 1) := by decide +kernel
theorem dX6_deposit_0 : decode cX6_deposit 0 = .ok (.aload_n 0, 1) := by decide +kernel
theorem dX6_deposit_1 : decode cX6_deposit 1 = .ok (.getfield 12, 3) := by decide +kernel
theorem dX6_deposit_4 : decode cX6_deposit 4 = .ok (.iload_n 1, 1) := by decide +kernel
theorem dX6_deposit_5 : decode cX6_deposit 5 = .ok (.invokevirtual 97, 3) := by decide +kernel
theorem dX6_deposit_8 : decode cX6_deposit 8 = .ok (.invokestatic 101, 3) := by decide +kernel
theorem dX6_deposit_11 : decode cX6_deposit 11 = .ok (.iload_n 2, 1) := by decide +kernel
theorem dX6_deposit_12 : decode cX6_deposit 12 = .ok (.iconst 1, 1) := by decide +kernel
theorem dX6_deposit_13 : decode cX6_deposit 13 = .ok (.sipush 9999, 3) := by decide +kernel
theorem dX6_deposit_16 : decode cX6_deposit 16 = .ok (.invokestatic 56, 3) := by decide +kernel
theorem dX6_deposit_19 : decode cX6_deposit 19 = .ok (.invokestatic 60, 3) := by decide +kernel
theorem dX6_deposit_22 : decode cX6_deposit 22 = .ok (.aload_n 0, 1) := by decide +kernel
theorem dX6_deposit_23 : decode cX6_deposit 23 = .ok (.getfield 12, 3) := by decide +kernel
theorem dX6_deposit_26 : decode cX6_deposit 26 = .ok (.getfield 111, 3) := by decide +kernel
theorem dX6_deposit_29 : decode cX6_deposit 29 = .ok (.iload_n 1, 1) := by decide +kernel
theorem dX6_deposit_30 : decode cX6_deposit 30 = .ok (.aaload, 1) := by decide +kernel
theorem dX6_deposit_31 : decode cX6_deposit 31 = .ok (.astore_n 3, 1) := by decide +kernel
theorem dX6_deposit_32 : decode cX6_deposit 32 = .ok (.aload_n 3, 1) := by decide +kernel
theorem dX6_deposit_33 : decode cX6_deposit 33 = .ok (.getfield 166, 3) := by decide +kernel
theorem dX6_deposit_36 : decode cX6_deposit 36 = .ok (.iload_n 2, 1) := by decide +kernel
theorem dX6_deposit_37 : decode cX6_deposit 37 = .ok (.iadd, 1) := by decide +kernel
theorem dX6_deposit_38 : decode cX6_deposit 38 = .ok (.ldc 169, 2) := by decide +kernel
theorem dX6_deposit_40 : decode cX6_deposit 40 = .ok (.if_icmp .gt 7, 3) := by decide +kernel
theorem dX6_deposit_43 : decode cX6_deposit 43 = .ok (.iconst 1, 1) := by decide +kernel
theorem dX6_deposit_44 : decode cX6_deposit 44 = .ok (.goto 4, 3) := by decide +kernel
theorem dX6_deposit_47 : decode cX6_deposit 47 = .ok (.iconst 0, 1) := by decide +kernel
theorem dX6_deposit_48 : decode cX6_deposit 48 = .ok (.invokestatic 68, 3) := by decide +kernel
theorem dX6_deposit_51 : decode cX6_deposit 51 = .ok (.aload_n 0, 1) := by decide +kernel
theorem dX6_deposit_52 : decode cX6_deposit 52 = .ok (.getfield 29, 3) := by decide +kernel
theorem dX6_deposit_55 : decode cX6_deposit 55 = .ok (.aload_n 0, 1) := by decide +kernel
theorem dX6_deposit_56 : decode cX6_deposit 56 = .ok (.getfield 12, 3) := by decide +kernel
theorem dX6_deposit_59 : decode cX6_deposit 59 = .ok (.invokevirtual 151, 3) := by decide +kernel
theorem dX6_deposit_62 : decode cX6_deposit 62 = .ok (.aload_n 3, 1) := by decide +kernel
theorem dX6_deposit_63 : decode cX6_deposit 63 = .ok (.dup, 1) := by decide +kernel
theorem dX6_deposit_64 : decode cX6_deposit 64 = .ok (.getfield 166, 3) := by decide +kernel
theorem dX6_deposit_67 : decode cX6_deposit 67 = .ok (.iload_n 2, 1) := by decide +kernel
theorem dX6_deposit_68 : decode cX6_deposit 68 = .ok (.iadd, 1) := by decide +kernel
theorem dX6_deposit_69 : decode cX6_deposit 69 = .ok (.putfield 166, 3) := by decide +kernel
theorem dX6_deposit_72 : decode cX6_deposit 72 = .ok (.aload_n 3, 1) := by decide +kernel
theorem dX6_deposit_73 : decode cX6_deposit 73 = .ok (.getfield 166, 3) := by decide +kernel
theorem dX6_deposit_76 : decode cX6_deposit 76 = .ok (.ireturn, 1) := by decide +kernel
theorem dX6_tick_0 : decode cX6_tick 0 = .ok (.iload_n 1, 1) := by decide +kernel
theorem dX6_tick_1 : decode cX6_tick 1 = .ok (.iconst 1, 1) := by decide +kernel
theorem dX6_tick_2 : decode cX6_tick 2 = .ok (.bipush 50, 2) := by decide +kernel
theorem dX6_tick_4 : decode cX6_tick 4 = .ok (.invokestatic 56, 3) := by decide +kernel
theorem dX6_tick_7 : decode cX6_tick 7 = .ok (.invokestatic 60, 3) := by decide +kernel
theorem dX6_tick_10 : decode cX6_tick 10 = .ok (.aload_n 0, 1) := by decide +kernel
theorem dX6_tick_11 : decode cX6_tick 11 = .ok (.getfield 29, 3) := by decide +kernel
theorem dX6_tick_14 : decode cX6_tick 14 = .ok (.aload_n 0, 1) := by decide +kernel
theorem dX6_tick_15 : decode cX6_tick 15 = .ok (.getfield 12, 3) := by decide +kernel
theorem dX6_tick_18 : decode cX6_tick 18 = .ok (.invokevirtual 151, 3) := by decide +kernel
theorem dX6_tick_21 : decode cX6_tick 21 = .ok (.aload_n 0, 1) := by decide +kernel
theorem dX6_tick_22 : decode cX6_tick 22 = .ok (.getfield 12, 3) := by decide +kernel
theorem dX6_tick_25 : decode cX6_tick 25 = .ok (.iload_n 1, 1) := by decide +kernel
theorem dX6_tick_26 : decode cX6_tick 26 = .ok (.aload_n 0, 1) := by decide +kernel
theorem dX6_tick_27 : decode cX6_tick 27 = .ok (.getfield 22, 3) := by decide +kernel
theorem dX6_tick_30 : decode cX6_tick 30 = .ok (.invokevirtual 170, 3) := by decide +kernel
theorem dX6_tick_33 : decode cX6_tick 33 = .ok (.ireturn, 1) := by decide +kernel
theorem dX6_setRate_0 : decode cX6_setRate 0 = .ok (.aload_n 0, 1) := by decide +kernel
theorem dX6_setRate_1 : decode cX6_setRate 1 = .ok (.getfield 12, 3) := by decide +kernel
theorem dX6_setRate_4 : decode cX6_setRate 4 = .ok (.iload_n 1, 1) := by decide +kernel
theorem dX6_setRate_5 : decode cX6_setRate 5 = .ok (.invokevirtual 97, 3) := by decide +kernel
theorem dX6_setRate_8 : decode cX6_setRate 8 = .ok (.invokestatic 101, 3) := by decide +kernel
theorem dX6_setRate_11 : decode cX6_setRate 11 = .ok (.iload_n 2, 1) := by decide +kernel
theorem dX6_setRate_12 : decode cX6_setRate 12 = .ok (.iconst 0, 1) := by decide +kernel
theorem dX6_setRate_13 : decode cX6_setRate 13 = .ok (.bipush 99, 2) := by decide +kernel
theorem dX6_setRate_15 : decode cX6_setRate 15 = .ok (.invokestatic 56, 3) := by decide +kernel
theorem dX6_setRate_18 : decode cX6_setRate 18 = .ok (.invokestatic 60, 3) := by decide +kernel
theorem dX6_setRate_21 : decode cX6_setRate 21 = .ok (.aload_n 0, 1) := by decide +kernel
theorem dX6_setRate_22 : decode cX6_setRate 22 = .ok (.getfield 29, 3) := by decide +kernel
theorem dX6_setRate_25 : decode cX6_setRate 25 = .ok (.aload_n 0, 1) := by decide +kernel
theorem dX6_setRate_26 : decode cX6_setRate 26 = .ok (.getfield 12, 3) := by decide +kernel
theorem dX6_setRate_29 : decode cX6_setRate 29 = .ok (.invokevirtual 151, 3) := by decide +kernel
theorem dX6_setRate_32 : decode cX6_setRate 32 = .ok (.aload_n 0, 1) := by decide +kernel
theorem dX6_setRate_33 : decode cX6_setRate 33 = .ok (.getfield 12, 3) := by decide +kernel
theorem dX6_setRate_36 : decode cX6_setRate 36 = .ok (.getfield 111, 3) := by decide +kernel
theorem dX6_setRate_39 : decode cX6_setRate 39 = .ok (.iload_n 1, 1) := by decide +kernel
theorem dX6_setRate_40 : decode cX6_setRate 40 = .ok (.aaload, 1) := by decide +kernel
theorem dX6_setRate_41 : decode cX6_setRate 41 = .ok (.getfield 174, 3) := by decide +kernel
theorem dX6_setRate_44 : decode cX6_setRate 44 = .ok (.istore_n 3, 1) := by decide +kernel
theorem dX6_setRate_45 : decode cX6_setRate 45 = .ok (.aload_n 0, 1) := by decide +kernel
theorem dX6_setRate_46 : decode cX6_setRate 46 = .ok (.getfield 12, 3) := by decide +kernel
theorem dX6_setRate_49 : decode cX6_setRate 49 = .ok (.getfield 111, 3) := by decide +kernel
theorem dX6_setRate_52 : decode cX6_setRate 52 = .ok (.iload_n 1, 1) := by decide +kernel
theorem dX6_setRate_53 : decode cX6_setRate 53 = .ok (.aaload, 1) := by decide +kernel
theorem dX6_setRate_54 : decode cX6_setRate 54 = .ok (.iload_n 2, 1) := by decide +kernel
theorem dX6_setRate_55 : decode cX6_setRate 55 = .ok (.putfield 174, 3) := by decide +kernel
theorem dX6_setRate_58 : decode cX6_setRate 58 = .ok (.iload_n 3, 1) := by decide +kernel
theorem dX6_setRate_59 : decode cX6_setRate 59 = .ok (.ireturn, 1) := by decide +kernel
theorem dX6_setWidth_0 : decode cX6_setWidth 0 = .ok (.iload_n 1, 1) := by decide +kernel
theorem dX6_setWidth_1 : decode cX6_setWidth 1 = .ok (.iconst 1, 1) := by decide +kernel
theorem dX6_setWidth_2 : decode cX6_setWidth 2 = .ok (.sipush 999, 3) := by decide +kernel
theorem dX6_setWidth_5 : decode cX6_setWidth 5 = .ok (.invokestatic 56, 3) := by decide +kernel
theorem dX6_setWidth_8 : decode cX6_setWidth 8 = .ok (.invokestatic 60, 3) := by decide +kernel
theorem dX6_setWidth_11 : decode cX6_setWidth 11 = .ok (.aload_n 0, 1) := by decide +kernel
theorem dX6_setWidth_12 : decode cX6_setWidth 12 = .ok (.getfield 29, 3) := by decide +kernel
theorem dX6_setWidth_15 : decode cX6_setWidth 15 = .ok (.aload_n 0, 1) := by decide +kernel
theorem dX6_setWidth_16 : decode cX6_setWidth 16 = .ok (.getfield 12, 3) := by decide +kernel
theorem dX6_setWidth_19 : decode cX6_setWidth 19 = .ok (.invokevirtual 151, 3) := by decide +kernel
theorem dX6_setWidth_22 : decode cX6_setWidth 22 = .ok (.aload_n 0, 1) := by decide +kernel
theorem dX6_setWidth_23 : decode cX6_setWidth 23 = .ok (.getfield 12, 3) := by decide +kernel
theorem dX6_setWidth_26 : decode cX6_setWidth 26 = .ok (.getfield 177, 3) := by decide +kernel
theorem dX6_setWidth_29 : decode cX6_setWidth 29 = .ok (.istore_n 2, 1) := by decide +kernel
theorem dX6_setWidth_30 : decode cX6_setWidth 30 = .ok (.aload_n 0, 1) := by decide +kernel
theorem dX6_setWidth_31 : decode cX6_setWidth 31 = .ok (.getfield 12, 3) := by decide +kernel
theorem dX6_setWidth_34 : decode cX6_setWidth 34 = .ok (.iload_n 1, 1) := by decide +kernel
theorem dX6_setWidth_35 : decode cX6_setWidth 35 = .ok (.putfield 177, 3) := by decide +kernel
theorem dX6_setWidth_38 : decode cX6_setWidth 38 = .ok (.iload_n 2, 1) := by decide +kernel
theorem dX6_setWidth_39 : decode cX6_setWidth 39 = .ok (.ireturn, 1) := by decide +kernel
theorem dX6_undo_0 : decode cX6_undo 0 = .ok (.aload_n 0, 1) := by decide +kernel
theorem dX6_undo_1 : decode cX6_undo 1 = .ok (.getfield 29, 3) := by decide +kernel
theorem dX6_undo_4 : decode cX6_undo 4 = .ok (.getfield 180, 3) := by decide +kernel
theorem dX6_undo_7 : decode cX6_undo 7 = .ok (.ifCond .le 7, 3) := by decide +kernel
theorem dX6_undo_10 : decode cX6_undo 10 = .ok (.iconst 1, 1) := by decide +kernel
theorem dX6_undo_11 : decode cX6_undo 11 = .ok (.goto 4, 3) := by decide +kernel
theorem dX6_undo_14 : decode cX6_undo 14 = .ok (.iconst 0, 1) := by decide +kernel
theorem dX6_undo_15 : decode cX6_undo 15 = .ok (.invokestatic 68, 3) := by decide +kernel
theorem dX6_undo_18 : decode cX6_undo 18 = .ok (.aload_n 0, 1) := by decide +kernel
theorem dX6_undo_19 : decode cX6_undo 19 = .ok (.getfield 29, 3) := by decide +kernel
theorem dX6_undo_22 : decode cX6_undo 22 = .ok (.aload_n 0, 1) := by decide +kernel
theorem dX6_undo_23 : decode cX6_undo 23 = .ok (.getfield 12, 3) := by decide +kernel
theorem dX6_undo_26 : decode cX6_undo 26 = .ok (.invokevirtual 183, 3) := by decide +kernel
theorem dX6_undo_29 : decode cX6_undo 29 = .ok (.ireturn, 1) := by decide +kernel
theorem dX6_demand_0 : decode cX6_demand 0 = .ok (.iload_n 1, 1) := by decide +kernel
theorem dX6_demand_1 : decode cX6_demand 1 = .ok (.invokestatic 157, 3) := by decide +kernel
theorem dX6_demand_4 : decode cX6_demand 4 = .ok (.invokestatic 60, 3) := by decide +kernel
theorem dX6_demand_7 : decode cX6_demand 7 = .ok (.aload_n 0, 1) := by decide +kernel
theorem dX6_demand_8 : decode cX6_demand 8 = .ok (.getfield 12, 3) := by decide +kernel
theorem dX6_demand_11 : decode cX6_demand 11 = .ok (.iload_n 1, 1) := by decide +kernel
theorem dX6_demand_12 : decode cX6_demand 12 = .ok (.invokevirtual 186, 3) := by decide +kernel
theorem dX6_demand_15 : decode cX6_demand 15 = .ok (.ireturn, 1) := by decide +kernel
theorem dX6_supply_0 : decode cX6_supply 0 = .ok (.iload_n 1, 1) := by decide +kernel
theorem dX6_supply_1 : decode cX6_supply 1 = .ok (.invokestatic 157, 3) := by decide +kernel
theorem dX6_supply_4 : decode cX6_supply 4 = .ok (.invokestatic 60, 3) := by decide +kernel
theorem dX6_supply_7 : decode cX6_supply 7 = .ok (.aload_n 0, 1) := by decide +kernel
theorem dX6_supply_8 : decode cX6_supply 8 = .ok (.getfield 12, 3) := by decide +kernel
theorem dX6_supply_11 : decode cX6_supply 11 = .ok (.iload_n 1, 1) := by decide +kernel
theorem dX6_supply_12 : decode cX6_supply 12 = .ok (.invokevirtual 189, 3) := by decide +kernel
theorem dX6_supply_15 : decode cX6_supply 15 = .ok (.ireturn, 1) := by decide +kernel
theorem dX6_auction_0 : decode cX6_auction 0 = .ok (.iload_n 1, 1) := by decide +kernel
theorem dX6_auction_1 : decode cX6_auction 1 = .ok (.iconst 0, 1) := by decide +kernel
theorem dX6_auction_2 : decode cX6_auction 2 = .ok (.iconst 3, 1) := by decide +kernel
theorem dX6_auction_3 : decode cX6_auction 3 = .ok (.invokestatic 56, 3) := by decide +kernel
theorem dX6_auction_6 : decode cX6_auction 6 = .ok (.invokestatic 60, 3) := by decide +kernel
theorem dX6_auction_9 : decode cX6_auction 9 = .ok (.aload_n 0, 1) := by decide +kernel
theorem dX6_auction_10 : decode cX6_auction 10 = .ok (.getfield 22, 3) := by decide +kernel
theorem dX6_auction_13 : decode cX6_auction 13 = .ok (.aload_n 0, 1) := by decide +kernel
theorem dX6_auction_14 : decode cX6_auction 14 = .ok (.getfield 12, 3) := by decide +kernel
theorem dX6_auction_17 : decode cX6_auction 17 = .ok (.invokevirtual 141, 3) := by decide +kernel
theorem dX6_auction_20 : decode cX6_auction 20 = .ok (.iload_n 1, 1) := by decide +kernel
theorem dX6_auction_21 : decode cX6_auction 21 = .ok (.tableswitch 51 0 2 #[27, 35, 43], 27) := by decide +kernel
theorem dX6_auction_48 : decode cX6_auction 48 = .ok (.aload_n 0, 1) := by decide +kernel
theorem dX6_auction_49 : decode cX6_auction 49 = .ok (.getfield 22, 3) := by decide +kernel
theorem dX6_auction_52 : decode cX6_auction 52 = .ok (.getfield 192, 3) := by decide +kernel
theorem dX6_auction_55 : decode cX6_auction 55 = .ok (.ireturn, 1) := by decide +kernel
theorem dX6_auction_56 : decode cX6_auction 56 = .ok (.aload_n 0, 1) := by decide +kernel
theorem dX6_auction_57 : decode cX6_auction 57 = .ok (.getfield 22, 3) := by decide +kernel
theorem dX6_auction_60 : decode cX6_auction 60 = .ok (.getfield 195, 3) := by decide +kernel
theorem dX6_auction_63 : decode cX6_auction 63 = .ok (.ireturn, 1) := by decide +kernel
theorem dX6_auction_64 : decode cX6_auction 64 = .ok (.aload_n 0, 1) := by decide +kernel
theorem dX6_auction_65 : decode cX6_auction 65 = .ok (.getfield 22, 3) := by decide +kernel
theorem dX6_auction_68 : decode cX6_auction 68 = .ok (.getfield 196, 3) := by decide +kernel
theorem dX6_auction_71 : decode cX6_auction 71 = .ok (.ireturn, 1) := by decide +kernel
theorem dX6_auction_72 : decode cX6_auction 72 = .ok (.aload_n 0, 1) := by decide +kernel
theorem dX6_auction_73 : decode cX6_auction 73 = .ok (.getfield 22, 3) := by decide +kernel
theorem dX6_auction_76 : decode cX6_auction 76 = .ok (.invokevirtual 199, 3) := by decide +kernel
theorem dX6_auction_79 : decode cX6_auction 79 = .ok (.ireturn, 1) := by decide +kernel
