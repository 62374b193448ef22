theorem dX4_copyFrom_0 : decode cX4_copyFrom 0 = .ok (.aload_n 0, 1) := by decide +kernel
theorem dX4_copyFrom_1 : decode cX4_copyFrom 1 = .ok (.aload_n 1, 1) := by decide +kernel
theorem dX4_copyFrom_2 : decode cX4_copyFrom 2 = .ok (.getfield 38, 3) := by decide +kernel
theorem dX4_copyFrom_5 : decode cX4_copyFrom 5 = .ok (.putfield 38, 3) := by decide +kernel
theorem dX4_copyFrom_8 : decode cX4_copyFrom 8 = .ok (.aload_n 0, 1) := by decide +kernel
theorem dX4_copyFrom_9 : decode cX4_copyFrom 9 = .ok (.aload_n 1, 1) := by decide +kernel
theorem dX4_copyFrom_10 : decode cX4_copyFrom 10 = .ok (.getfield 41, 3) := by decide +kernel
theorem dX4_copyFrom_13 : decode cX4_copyFrom 13 = .ok (.putfield 41, 3) := by decide +kernel
theorem dX4_copyFrom_16 : decode cX4_copyFrom 16 = .ok (.aload_n 0, 1) := by decide +kernel
theorem dX4_copyFrom_17 : decode cX4_copyFrom 17 = .ok (.aload_n 1, 1) := by decide +kernel
theorem dX4_copyFrom_18 : decode cX4_copyFrom 18 = .ok (.getfield 25, 3) := by decide +kernel
theorem dX4_copyFrom_21 : decode cX4_copyFrom 21 = .ok (.putfield 25, 3) := by decide +kernel
theorem dX4_copyFrom_24 : decode cX4_copyFrom 24 = .ok (.aload_n 0, 1) := by decide +kernel
theorem dX4_copyFrom_25 : decode cX4_copyFrom 25 = .ok (.aload_n 1, 1) := by decide +kernel
theorem dX4_copyFrom_26 : decode cX4_copyFrom 26 = .ok (.getfield 29, 3) := by decide +kernel
theorem dX4_copyFrom_29 : decode cX4_copyFrom 29 = .ok (.putfield 29, 3) := by decide +kernel
theorem dX4_copyFrom_32 : decode cX4_copyFrom 32 = .ok (.aload_n 0, 1) := by decide +kernel
theorem dX4_copyFrom_33 : decode cX4_copyFrom 33 = .ok (.aload_n 1, 1) := by decide +kernel
theorem dX4_copyFrom_34 : decode cX4_copyFrom 34 = .ok (.getfield 32, 3) := by decide +kernel
theorem dX4_copyFrom_37 : decode cX4_copyFrom 37 = .ok (.putfield 32, 3) := by decide +kernel
theorem dX4_copyFrom_40 : decode cX4_copyFrom 40 = .ok (.aload_n 0, 1) := by decide +kernel
theorem dX4_copyFrom_41 : decode cX4_copyFrom 41 = .ok (.aload_n 1, 1) := by decide +kernel
theorem dX4_copyFrom_42 : decode cX4_copyFrom 42 = .ok (.getfield 35, 3) := by decide +kernel
theorem dX4_copyFrom_45 : decode cX4_copyFrom 45 = .ok (.putfield 35, 3) := by decide +kernel
theorem dX4_copyFrom_48 : decode cX4_copyFrom 48 = .ok (.aload_n 0, 1) := by decide +kernel
theorem dX4_copyFrom_49 : decode cX4_copyFrom 49 = .ok (.aload_n 1, 1) := by decide +kernel
theorem dX4_copyFrom_50 : decode cX4_copyFrom 50 = .ok (.getfield 44, 3) := by decide +kernel
theorem dX4_copyFrom_53 : decode cX4_copyFrom 53 = .ok (.putfield 44, 3) := by decide +kernel
theorem dX4_copyFrom_56 : decode cX4_copyFrom 56 = .ok (.aload_n 0, 1) := by decide +kernel
theorem dX4_copyFrom_57 : decode cX4_copyFrom 57 = .ok (.aload_n 1, 1) := by decide +kernel
theorem dX4_copyFrom_58 : decode cX4_copyFrom 58 = .ok (.getfield 47, 3) := by decide +kernel
theorem dX4_copyFrom_61 : decode cX4_copyFrom 61 = .ok (.putfield 47, 3) := by decide +kernel
theorem dX4_copyFrom_64 : decode cX4_copyFrom 64 = .ok (.aload_n 0, 1) := by decide +kernel
theorem dX4_copyFrom_65 : decode cX4_copyFrom 65 = .ok (.aload_n 1, 1) := by decide +kernel
theorem dX4_copyFrom_66 : decode cX4_copyFrom 66 = .ok (.getfield 50, 3) := by decide +kernel
theorem dX4_copyFrom_69 : decode cX4_copyFrom 69 = .ok (.putfield 50, 3) := by decide +kernel
theorem dX4_copyFrom_72 : decode cX4_copyFrom 72 = .ok (.aload_n 0, 1) := by decide +kernel
theorem dX4_copyFrom_73 : decode cX4_copyFrom 73 = .ok (.aload_n 1, 1) := by decide +kernel
theorem dX4_copyFrom_74 : decode cX4_copyFrom 74 = .ok (.getfield 53, 3) := by decide +kernel
theorem dX4_copyFrom_77 : decode cX4_copyFrom 77 = .ok (.putfield 53, 3) := by decide +kernel
theorem dX4_copyFrom_80 : decode cX4_copyFrom 80 = .ok (.iconst 0, 1) := by decide +kernel
theorem dX4_copyFrom_81 : decode cX4_copyFrom 81 = .ok (.istore_n 2, 1) := by decide +kernel
theorem dX4_copyFrom_82 : decode cX4_copyFrom 82 = .ok (.iload_n 2, 1) := by decide +kernel
theorem dX4_copyFrom_83 : decode cX4_copyFrom 83 = .ok (.aload_n 0, 1) := by decide +kernel
theorem dX4_copyFrom_84 : decode cX4_copyFrom 84 = .ok (.getfield 38, 3) := by decide +kernel
theorem dX4_copyFrom_87 : decode cX4_copyFrom 87 = .ok (.if_icmp .ge 24, 3) := by decide +kernel
theorem dX4_copyFrom_90 : decode cX4_copyFrom 90 = .ok (.aload_n 0, 1) := by decide +kernel
theorem dX4_copyFrom_91 : decode cX4_copyFrom 91 = .ok (.getfield 11, 3) := by decide +kernel
theorem dX4_copyFrom_94 : decode cX4_copyFrom 94 = .ok (.iload_n 2, 1) := by decide +kernel
theorem dX4_copyFrom_95 : decode cX4_copyFrom 95 = .ok (.aaload, 1) := by decide +kernel
theorem dX4_copyFrom_96 : decode cX4_copyFrom 96 = .ok (.aload_n 1, 1) := by decide +kernel
theorem dX4_copyFrom_97 : decode cX4_copyFrom 97 = .ok (.getfield 11, 3) := by decide +kernel
theorem dX4_copyFrom_100 : decode cX4_copyFrom 100 = .ok (.iload_n 2, 1) := by decide +kernel
theorem dX4_copyFrom_101 : decode cX4_copyFrom 101 = .ok (.aaload, 1) := by decide +kernel
theorem dX4_copyFrom_102 : decode cX4_copyFrom 102 = .ok (.invokevirtual 60, 3) := by decide +kernel
theorem dX4_copyFrom_105 : decode cX4_copyFrom 105 = .ok (.iinc 2 1, 3) := by decide +kernel
theorem dX4_copyFrom_108 : decode cX4_copyFrom 108 = .ok (.goto (-26), 3) := by decide +kernel
theorem dX4_copyFrom_111 : decode cX4_copyFrom 111 = .ok (.iconst 0, 1) := by decide +kernel
theorem dX4_copyFrom_112 : decode cX4_copyFrom 112 = .ok (.istore_n 2, 1) := by decide +kernel
theorem dX4_copyFrom_113 : decode cX4_copyFrom 113 = .ok (.iload_n 2, 1) := by decide +kernel
theorem dX4_copyFrom_114 : decode cX4_copyFrom 114 = .ok (.aload_n 0, 1) := by decide +kernel
theorem dX4_copyFrom_115 : decode cX4_copyFrom 115 = .ok (.getfield 41, 3) := by decide +kernel
theorem dX4_copyFrom_118 : decode cX4_copyFrom 118 = .ok (.if_icmp .ge 41, 3) := by decide +kernel
theorem dX4_copyFrom_121 : decode cX4_copyFrom 121 = .ok (.aload_n 1, 1) := by decide +kernel
theorem dX4_copyFrom_122 : decode cX4_copyFrom 122 = .ok (.getfield 19, 3) := by decide +kernel
theorem dX4_copyFrom_125 : decode cX4_copyFrom 125 = .ok (.iload_n 2, 1) := by decide +kernel
theorem dX4_copyFrom_126 : decode cX4_copyFrom 126 = .ok (.aaload, 1) := by decide +kernel
theorem dX4_copyFrom_127 : decode cX4_copyFrom 127 = .ok (.astore_n 3, 1) := by decide +kernel
theorem dX4_copyFrom_128 : decode cX4_copyFrom 128 = .ok (.aload_n 0, 1) := by decide +kernel
theorem dX4_copyFrom_129 : decode cX4_copyFrom 129 = .ok (.getfield 19, 3) := by decide +kernel
theorem dX4_copyFrom_132 : decode cX4_copyFrom 132 = .ok (.iload_n 2, 1) := by decide +kernel
theorem dX4_copyFrom_133 : decode cX4_copyFrom 133 = .ok (.aaload, 1) := by decide +kernel
theorem dX4_copyFrom_134 : decode cX4_copyFrom 134 = .ok (.aload_n 3, 1) := by decide +kernel
theorem dX4_copyFrom_135 : decode cX4_copyFrom 135 = .ok (.getfield 64, 3) := by decide +kernel
theorem dX4_copyFrom_138 : decode cX4_copyFrom 138 = .ok (.aload_n 3, 1) := by decide +kernel
theorem dX4_copyFrom_139 : decode cX4_copyFrom 139 = .ok (.getfield 67, 3) := by decide +kernel
theorem dX4_copyFrom_142 : decode cX4_copyFrom 142 = .ok (.aload_n 3, 1) := by decide +kernel
theorem dX4_copyFrom_143 : decode cX4_copyFrom 143 = .ok (.getfield 70, 3) := by decide +kernel
theorem dX4_copyFrom_146 : decode cX4_copyFrom 146 = .ok (.aload_n 3, 1) := by decide +kernel
theorem dX4_copyFrom_147 : decode cX4_copyFrom 147 = .ok (.getfield 73, 3) := by decide +kernel
theorem dX4_copyFrom_150 : decode cX4_copyFrom 150 = .ok (.invokevirtual 76, 3) := by decide +kernel
theorem dX4_copyFrom_153 : decode cX4_copyFrom 153 = .ok (.iinc 2 1, 3) := by decide +kernel
theorem dX4_copyFrom_156 : decode cX4_copyFrom 156 = .ok (.goto (-43), 3) := by decide +kernel
theorem dX4_copyFrom_159 : decode cX4_copyFrom 159 = .ok (.return_, 1) := by decide +kernel
theorem dX4_hasTenant_0 : decode cX4_hasTenant 0 = .ok (.iload_n 1, 1) := by decide +kernel
theorem dX4_hasTenant_1 : decode cX4_hasTenant 1 = .ok (.ifCond .lt 24, 3) := by decide +kernel
theorem dX4_hasTenant_4 : decode cX4_hasTenant 4 = .ok (.iload_n 1, 1) := by decide +kernel
theorem dX4_hasTenant_5 : decode cX4_hasTenant 5 = .ok (.aload_n 0, 1) := by decide +kernel
theorem dX4_hasTenant_6 : decode cX4_hasTenant 6 = .ok (.getfield 38, 3) := by decide +kernel
theorem dX4_hasTenant_9 : decode cX4_hasTenant 9 = .ok (.if_icmp .ge 16, 3) := by decide +kernel
theorem dX4_hasTenant_12 : decode cX4_hasTenant 12 = .ok (.iload_n 1, 1) := by decide +kernel
theorem dX4_hasTenant_13 : decode cX4_hasTenant 13 = .ok (.aload_n 0, 1) := by decide +kernel
theorem dX4_hasTenant_14 : decode cX4_hasTenant 14 = .ok (.getfield 11, 3) := by decide +kernel
theorem dX4_hasTenant_17 : decode cX4_hasTenant 17 = .ok (.arraylength, 1) := by decide +kernel
theorem dX4_hasTenant_18 : decode cX4_hasTenant 18 = .ok (.if_icmp .ge 7, 3) := by decide +kernel
theorem dX4_hasTenant_21 : decode cX4_hasTenant 21 = .ok (.iconst 1, 1) := by decide +kernel
theorem dX4_hasTenant_22 : decode cX4_hasTenant 22 = .ok (.goto 4, 3) := by decide +kernel
theorem dX4_hasTenant_25 : decode cX4_hasTenant 25 = .ok (.iconst 0, 1) := by decide +kernel
theorem dX4_hasTenant_26 : decode cX4_hasTenant 26 = .ok (.ireturn, 1) := by decide +kernel
theorem dX4_hasOrder_0 : decode cX4_hasOrder 0 = .ok (.iload_n 1, 1) := by decide +kernel
theorem dX4_hasOrder_1 : decode cX4_hasOrder 1 = .ok (.ifCond .lt 24, 3) := by decide +kernel
theorem dX4_hasOrder_4 : decode cX4_hasOrder 4 = .ok (.iload_n 1, 1) := by decide +kernel
theorem dX4_hasOrder_5 : decode cX4_hasOrder 5 = .ok (.aload_n 0, 1) := by decide +kernel
theorem dX4_hasOrder_6 : decode cX4_hasOrder 6 = .ok (.getfield 41, 3) := by decide +kernel
theorem dX4_hasOrder_9 : decode cX4_hasOrder 9 = .ok (.if_icmp .ge 16, 3) := by decide +kernel
theorem dX4_hasOrder_12 : decode cX4_hasOrder 12 = .ok (.iload_n 1, 1) := by decide +kernel
theorem dX4_hasOrder_13 : decode cX4_hasOrder 13 = .ok (.aload_n 0, 1) := by decide +kernel
theorem dX4_hasOrder_14 : decode cX4_hasOrder 14 = .ok (.getfield 19, 3) := by decide +kernel
theorem dX4_hasOrder_17 : decode cX4_hasOrder 17 = .ok (.arraylength, 1) := by decide +kernel
theorem dX4_hasOrder_18 : decode cX4_hasOrder 18 = .ok (.if_icmp .ge 7, 3) := by decide +kernel
theorem dX4_hasOrder_21 : decode cX4_hasOrder 21 = .ok (.iconst 1, 1) := by decide +kernel
theorem dX4_hasOrder_22 : decode cX4_hasOrder 22 = .ok (.goto 4, 3) := by decide +kernel
theorem dX4_hasOrder_25 : decode cX4_hasOrder 25 = .ok (.iconst 0, 1) := by decide +kernel
theorem dX4_hasOrder_26 : decode cX4_hasOrder 26 = .ok (.ireturn, 1) := by decide +kernel
theorem dX4_isSuspended_0 : decode cX4_isSuspended 0 = .ok (.aload_n 1, 1) := by decide +kernel
theorem dX4_isSuspended_1 : decode cX4_isSuspended 1 = .ok (.getfield 79, 3) := by decide +kernel
theorem dX4_isSuspended_4 : decode cX4_isSuspended 4 = .ok (.aload_n 0, 1) := by decide +kernel
theorem dX4_isSuspended_5 : decode cX4_isSuspended 5 = .ok (.getfield 44, 3) := by decide +kernel
theorem dX4_isSuspended_8 : decode cX4_isSuspended 8 = .ok (.if_icmp .le 7, 3) := by decide +kernel
theorem dX4_isSuspended_11 : decode cX4_isSuspended 11 = .ok (.iconst 1, 1) := by decide +kernel
theorem dX4_isSuspended_12 : decode cX4_isSuspended 12 = .ok (.goto 4, 3) := by decide +kernel
theorem dX4_isSuspended_15 : decode cX4_isSuspended 15 = .ok (.iconst 0, 1) := by decide +kernel
theorem dX4_isSuspended_16 : decode cX4_isSuspended 16 = .ok (.ireturn, 1) := by decide +kernel
theorem dX4_areAllQueuesFull_0 : decode cX4_areAllQueuesFull 0 = .ok (.iconst 0, 1) := by decide +kernel
theorem dX4_areAllQueuesFull_1 : decode cX4_areAllQueuesFull 1 = .ok (.istore_n 1, 1) := by decide +kernel
theorem dX4_areAllQueuesFull_2 : decode cX4_areAllQueuesFull 2 = .ok (.iload_n 1, 1) := by decide +kernel
theorem dX4_areAllQueuesFull_3 : decode cX4_areAllQueuesFull 3 = .ok (.aload_n 0, 1) := by decide +kernel
theorem dX4_areAllQueuesFull_4 : decode cX4_areAllQueuesFull 4 = .ok (.getfield 38, 3) := by decide +kernel
theorem dX4_areAllQueuesFull_7 : decode cX4_areAllQueuesFull 7 = .ok (.if_icmp .ge 23, 3) := by decide +kernel
theorem dX4_areAllQueuesFull_10 : decode cX4_areAllQueuesFull 10 = .ok (.aload_n 0, 1) := by decide +kernel
theorem dX4_areAllQueuesFull_11 : decode cX4_areAllQueuesFull 11 = .ok (.getfield 11, 3) := by decide +kernel
theorem dX4_areAllQueuesFull_14 : decode cX4_areAllQueuesFull 14 = .ok (.iload_n 1, 1) := by decide +kernel
theorem dX4_areAllQueuesFull_15 : decode cX4_areAllQueuesFull 15 = .ok (.aaload, 1) := by decide +kernel
theorem dX4_areAllQueuesFull_16 : decode cX4_areAllQueuesFull 16 = .ok (.invokevirtual 82, 3) := by decide +kernel
theorem dX4_areAllQueuesFull_19 : decode cX4_areAllQueuesFull 19 = .ok (.ifCond .ne 5, 3) := by decide +kernel
theorem dX4_areAllQueuesFull_22 : decode cX4_areAllQueuesFull 22 = .ok (.iconst 0, 1) := by decide +kernel
theorem dX4_areAllQueuesFull_23 : decode cX4_areAllQueuesFull 23 = .ok (.ireturn, 1) := by decide +kernel
theorem dX4_areAllQueuesFull_24 : decode cX4_areAllQueuesFull 24 = .ok (.iinc 1 1, 3) := by decide +kernel
theorem dX4_areAllQueuesFull_27 : decode cX4_areAllQueuesFull 27 = .ok (.goto (-25), 3) := by decide +kernel
theorem dX4_areAllQueuesFull_30 : decode cX4_areAllQueuesFull 30 = .ok (.iconst 1, 1) := by decide +kernel
theorem dX4_areAllQueuesFull_31 : decode cX4_areAllQueuesFull 31 = .ok (.ireturn, 1) := by decide +kernel
theorem dX4_number_0 : decode cX4_number 0 = .ok (.iload_n 1, 1) := by decide +kernel
theorem dX4_number_1 : decode cX4_number 1 = .ok (.tableswitch 96 0 8 #[51, 56, 61, 66, 71, 76, 81, 86, 91], 51) := by decide +kernel
theorem dX4_number_52 : decode cX4_number 52 = .ok (.aload_n 0, 1) := by decide +kernel
theorem dX4_number_53 : decode cX4_number 53 = .ok (.getfield 38, 3) := by decide +kernel
theorem dX4_number_56 : decode cX4_number 56 = .ok (.ireturn, 1) := by decide +kernel
theorem dX4_number_57 : decode cX4_number 57 = .ok (.aload_n 0, 1) := by decide +kernel
theorem dX4_number_58 : decode cX4_number 58 = .ok (.getfield 25, 3) := by decide +kernel
theorem dX4_number_61 : decode cX4_number 61 = .ok (.ireturn, 1) := by decide +kernel
theorem dX4_number_62 : decode cX4_number 62 = .ok (.aload_n 0, 1) := by decide +kernel
theorem dX4_number_63 : decode cX4_number 63 = .ok (.getfield 29, 3) := by decide +kernel
theorem dX4_number_66 : decode cX4_number 66 = .ok (.ireturn, 1) := by decide +kernel
theorem dX4_number_67 : decode cX4_number 67 = .ok (.aload_n 0, 1) := by decide +kernel
theorem dX4_number_68 : decode cX4_number 68 = .ok (.getfield 32, 3) := by decide +kernel
theorem dX4_number_71 : decode cX4_number 71 = .ok (.ireturn, 1) := by decide +kernel
theorem dX4_number_72 : decode cX4_number 72 = .ok (.aload_n 0, 1) := by decide +kernel
theorem dX4_number_73 : decode cX4_number 73 = .ok (.getfield 35, 3) := by decide +kernel
theorem dX4_number_76 : decode cX4_number 76 = .ok (.ireturn, 1) := by decide +kernel
theorem dX4_number_77 : decode cX4_number 77 = .ok (.aload_n 0, 1) := by decide +kernel
theorem dX4_number_78 : decode cX4_number 78 = .ok (.getfield 44, 3) := by decide +kernel
theorem dX4_number_81 : decode cX4_number 81 = .ok (.ireturn, 1) := by decide +kernel
theorem dX4_number_82 : decode cX4_number 82 = .ok (.aload_n 0, 1) := by decide +kernel
theorem dX4_number_83 : decode cX4_number 83 = .ok (.getfield 47, 3) := by decide +kernel
theorem dX4_number_86 : decode cX4_number 86 = .ok (.ireturn, 1) := by decide +kernel
theorem dX4_number_87 : decode cX4_number 87 = .ok (.aload_n 0, 1) := by decide +kernel
theorem dX4_number_88 : decode cX4_number 88 = .ok (.getfield 50, 3) := by decide +kernel
theorem dX4_number_91 : decode cX4_number 91 = .ok (.ireturn, 1) := by decide +kernel
theorem dX4_number_92 : decode cX4_number 92 = .ok (.aload_n 0, 1) := by decide +kernel
theorem dX4_number_93 : decode cX4_number 93 = .ok (.getfield 41, 3) := by decide +kernel
theorem dX4_number_96 : decode cX4_number 96 = .ok (.ireturn, 1) := by decide +kernel
theorem dX4_number_97 : decode cX4_number 97 = .ok (.aload_n 0, 1) := by decide +kernel
theorem dX4_number_98 : decode cX4_number 98 = .ok (.getfield 53, 3) := by decide +kernel
theorem dX4_number_101 : decode cX4_number 101 = .ok (.ireturn, 1) := by decide +kernel
theorem dX4_tenantNumber_0 : decode cX4_tenantNumber 0 = .ok (.aload_n 0, 1) := by decide +kernel
theorem dX4_tenantNumber_1 : decode cX4_tenantNumber 1 = .ok (.getfield 11, 3) := by decide +kernel
theorem dX4_tenantNumber_4 : decode cX4_tenantNumber 4 = .ok (.iload_n 1, 1) := by decide +kernel
theorem dX4_tenantNumber_5 : decode cX4_tenantNumber 5 = .ok (.aaload, 1) := by decide +kernel
theorem dX4_tenantNumber_6 : decode cX4_tenantNumber 6 = .ok (.astore_n 3, 1) := by decide +kernel
theorem dX4_tenantNumber_7 : decode cX4_tenantNumber 7 = .ok (.iload_n 2, 1) := by decide +kernel
theorem dX4_tenantNumber_8 : decode cX4_tenantNumber 8 = .ok (.tableswitch 119 0 10 #[60, 65, 70, 75, 80, 85, 92, 98, 103, 109, 114], 60) := by decide +kernel
theorem dX4_tenantNumber_68 : decode cX4_tenantNumber 68 = .ok (.aload_n 3, 1) := by decide +kernel
theorem dX4_tenantNumber_69 : decode cX4_tenantNumber 69 = .ok (.getfield 86, 3) := by decide +kernel
theorem dX4_tenantNumber_72 : decode cX4_tenantNumber 72 = .ok (.ireturn, 1) := by decide +kernel
theorem dX4_tenantNumber_73 : decode cX4_tenantNumber 73 = .ok (.aload_n 3, 1) := by decide +kernel
theorem dX4_tenantNumber_74 : decode cX4_tenantNumber 74 = .ok (.getfield 89, 3) := by decide +kernel
theorem dX4_tenantNumber_77 : decode cX4_tenantNumber 77 = .ok (.ireturn, 1) := by decide +kernel
theorem dX4_tenantNumber_78 : decode cX4_tenantNumber 78 = .ok (.aload_n 3, 1) := by decide +kernel
theorem dX4_tenantNumber_79 : decode cX4_tenantNumber 79 = .ok (.getfield 92, 3) := by decide +kernel
theorem dX4_tenantNumber_82 : decode cX4_tenantNumber 82 = .ok (.ireturn, 1) := by decide +kernel
theorem dX4_tenantNumber_83 : decode cX4_tenantNumber 83 = .ok (.aload_n 3, 1) := by decide +kernel
theorem dX4_tenantNumber_84 : decode cX4_tenantNumber 84 = .ok (.getfield 95, 3) := by decide +kernel
theorem dX4_tenantNumber_87 : decode cX4_tenantNumber 87 = .ok (.ireturn, 1) := by decide +kernel
theorem dX4_tenantNumber_88 : decode cX4_tenantNumber 88 = .ok (.aload_n 3, 1) := by decide +kernel
theorem dX4_tenantNumber_89 : decode cX4_tenantNumber 89 = .ok (.getfield 98, 3) := by decide +kernel
theorem dX4_tenantNumber_92 : decode cX4_tenantNumber 92 = .ok (.ireturn, 1) := by decide +kernel
theorem dX4_tenantNumber_93 : decode cX4_tenantNumber 93 = .ok (.aload_n 0, 1) := by decide +kernel
theorem dX4_tenantNumber_94 : decode cX4_tenantNumber 94 = .ok (.iload_n 1, 1) := by decide +kernel
theorem dX4_tenantNumber_95 : decode cX4_tenantNumber 95 = .ok (.iconst 1, 1) := by decide +kernel
theorem dX4_tenantNumber_96 : decode cX4_tenantNumber 96 = .ok (.invokevirtual 101, 3) := by decide +kernel
theorem dX4_tenantNumber_99 : decode cX4_tenantNumber 99 = .ok (.ireturn, 1) := by decide +kernel
theorem dX4_tenantNumber_100 : decode cX4_tenantNumber 100 = .ok (.aload_n 0, 1) := by decide +kernel
theorem dX4_tenantNumber_101 : decode cX4_tenantNumber 101 = .ok (.iload_n 1, 1) := by decide +kernel
theorem dX4_tenantNumber_102 : decode cX4_tenantNumber 102 = .ok (.invokevirtual 105, 3) := by decide +kernel
theorem dX4_tenantNumber_105 : decode cX4_tenantNumber 105 = .ok (.ireturn, 1) := by decide +kernel
theorem dX4_tenantNumber_106 : decode cX4_tenantNumber 106 = .ok (.aload_n 3, 1) := by decide +kernel
theorem dX4_tenantNumber_107 : decode cX4_tenantNumber 107 = .ok (.invokevirtual 109, 3) := by decide +kernel
theorem dX4_tenantNumber_110 : decode cX4_tenantNumber 110 = .ok (.ireturn, 1) := by decide +kernel
theorem dX4_tenantNumber_111 : decode cX4_tenantNumber 111 = .ok (.aload_n 0, 1) := by decide +kernel
theorem dX4_tenantNumber_112 : decode cX4_tenantNumber 112 = .ok (.aload_n 3, 1) := by decide +kernel
theorem dX4_tenantNumber_113 : decode cX4_tenantNumber 113 = .ok (.invokevirtual 113, 3) := by decide +kernel
theorem dX4_tenantNumber_116 : decode cX4_tenantNumber 116 = .ok (.ireturn, 1) := by decide +kernel
theorem dX4_tenantNumber_117 : decode cX4_tenantNumber 117 = .ok (.aload_n 3, 1) := by decide +kernel
theorem dX4_tenantNumber_118 : decode cX4_tenantNumber 118 = .ok (.getfield 117, 3) := by decide +kernel
theorem dX4_tenantNumber_121 : decode cX4_tenantNumber 121 = .ok (.ireturn, 1) := by decide +kernel
theorem dX4_tenantNumber_122 : decode cX4_tenantNumber 122 = .ok (.aload_n 3, 1) := by decide +kernel
theorem dX4_tenantNumber_123 : decode cX4_tenantNumber 123 = .ok (.getfield 120, 3) := by decide +kernel
theorem dX4_tenantNumber_126 : decode cX4_tenantNumber 126 = .ok (.ireturn, 1) := by decide +kernel
theorem dX4_tenantNumber_127 : decode cX4_tenantNumber 127 = .ok (.aload_n 0, 1) := by decide +kernel
theorem dX4_tenantNumber_128 : decode cX4_tenantNumber 128 = .ok (.aload_n 3, 1) := by decide +kernel
theorem dX4_tenantNumber_129 : decode cX4_tenantNumber 129 = .ok (.invokevirtual 123, 3) := by decide +kernel
theorem dX4_tenantNumber_132 : decode cX4_tenantNumber 132 = .ok (.ifCond .eq 10, 3) := by decide +kernel
theorem dX4_tenantNumber_135 : decode cX4_tenantNumber 135 = .ok (.aload_n 3, 1) := by decide +kernel
theorem dX4_tenantNumber_136 : decode cX4_tenantNumber 136 = .ok (.getfield 79, 3) := by decide +kernel
theorem dX4_tenantNumber_139 : decode cX4_tenantNumber 139 = .ok (.goto 5, 3) := by decide +kernel
theorem dX4_tenantNumber_142 : decode cX4_tenantNumber 142 = .ok (.bipush (-9), 2) := by decide +kernel
theorem dX4_tenantNumber_144 : decode cX4_tenantNumber 144 = .ok (.ireturn, 1) := by decide +kernel
theorem dX4_quantityOf_0 : decode cX4_quantityOf 0 = .ok (.iconst 0, 1) := by decide +kernel
theorem dX4_quantityOf_1 : decode cX4_quantityOf 1 = .ok (.istore_n 3, 1) := by decide +kernel
theorem dX4_quantityOf_2 : decode cX4_quantityOf 2 = .ok (.iconst 0, 1) := by decide +kernel
theorem dX4_quantityOf_3 : decode cX4_quantityOf 3 = .ok (.istore 4, 2) := by decide +kernel
theorem dX4_quantityOf_5 : decode cX4_quantityOf 5 = .ok (.iload 4, 2) := by decide +kernel
theorem dX4_quantityOf_7 : decode cX4_quantityOf 7 = .ok (.aload_n 0, 1) := by decide +kernel
theorem dX4_quantityOf_8 : decode cX4_quantityOf 8 = .ok (.getfield 41, 3) := by decide +kernel
theorem dX4_quantityOf_11 : decode cX4_quantityOf 11 = .ok (.if_icmp .ge 50, 3) := by decide +kernel
theorem dX4_quantityOf_14 : decode cX4_quantityOf 14 = .ok (.aload_n 0, 1) := by decide +kernel
theorem dX4_quantityOf_15 : decode cX4_quantityOf 15 = .ok (.getfield 19, 3) := by decide +kernel
theorem dX4_quantityOf_18 : decode cX4_quantityOf 18 = .ok (.iload 4, 2) := by decide +kernel
theorem dX4_quantityOf_20 : decode cX4_quantityOf 20 = .ok (.aaload, 1) := by decide +kernel
theorem dX4_quantityOf_21 : decode cX4_quantityOf 21 = .ok (.getfield 64, 3) := by decide +kernel
theorem dX4_quantityOf_24 : decode cX4_quantityOf 24 = .ok (.iload_n 1, 1) := by decide +kernel
theorem dX4_quantityOf_25 : decode cX4_quantityOf 25 = .ok (.if_icmp .ne 30, 3) := by decide +kernel
theorem dX4_quantityOf_28 : decode cX4_quantityOf 28 = .ok (.aload_n 0, 1) := by decide +kernel
theorem dX4_quantityOf_29 : decode cX4_quantityOf 29 = .ok (.getfield 19, 3) := by decide +kernel
theorem dX4_quantityOf_32 : decode cX4_quantityOf 32 = .ok (.iload 4, 2) := by decide +kernel
theorem dX4_quantityOf_34 : decode cX4_quantityOf 34 = .ok (.aaload, 1) := by decide +kernel
theorem dX4_quantityOf_35 : decode cX4_quantityOf 35 = .ok (.getfield 67, 3) := by decide +kernel
theorem dX4_quantityOf_38 : decode cX4_quantityOf 38 = .ok (.iload_n 2, 1) := by decide +kernel
theorem dX4_quantityOf_39 : decode cX4_quantityOf 39 = .ok (.if_icmp .ne 16, 3) := by decide +kernel
theorem dX4_quantityOf_42 : decode cX4_quantityOf 42 = .ok (.iload_n 3, 1) := by decide +kernel
theorem dX4_quantityOf_43 : decode cX4_quantityOf 43 = .ok (.aload_n 0, 1) := by decide +kernel
theorem dX4_quantityOf_44 : decode cX4_quantityOf 44 = .ok (.getfield 19, 3) := by decide +kernel
theorem dX4_quantityOf_47 : decode cX4_quantityOf 47 = .ok (.iload 4, 2) := by decide +kernel
theorem dX4_quantityOf_49 : decode cX4_quantityOf 49 = .ok (.aaload, 1) := by decide +kernel
theorem dX4_quantityOf_50 : decode cX4_quantityOf 50 = .ok (.getfield 73, 3) := by decide +kernel
theorem dX4_quantityOf_53 : decode cX4_quantityOf 53 = .ok (.iadd, 1) := by decide +kernel
theorem dX4_quantityOf_54 : decode cX4_quantityOf 54 = .ok (.istore_n 3, 1) := by decide +kernel
theorem dX4_quantityOf_55 : decode cX4_quantityOf 55 = .ok (.iinc 4 1, 3) := by decide +kernel
theorem dX4_quantityOf_58 : decode cX4_quantityOf 58 = .ok (.goto (-53), 3) := by decide +kernel
theorem dX4_quantityOf_61 : decode cX4_quantityOf 61 = .ok (.iload_n 3, 1) := by decide +kernel
theorem dX4_quantityOf_62 : decode cX4_quantityOf 62 = .ok (.ireturn, 1) := by decide +kernel
theorem dX4_cashSetAside_0 : decode cX4_cashSetAside 0 = .ok (.iconst 0, 1) := by decide +kernel
theorem dX4_cashSetAside_1 : decode cX4_cashSetAside 1 = .ok (.istore_n 2, 1) := by decide +kernel
theorem dX4_cashSetAside_2 : decode cX4_cashSetAside 2 = .ok (.iconst 0, 1) := by decide +kernel
theorem dX4_cashSetAside_3 : decode cX4_cashSetAside 3 = .ok (.istore_n 3, 1) := by decide +kernel
theorem dX4_cashSetAside_4 : decode cX4_cashSetAside 4 = .ok (.iload_n 3, 1) := by decide +kernel
theorem dX4_cashSetAside_5 : decode cX4_cashSetAside 5 = .ok (.aload_n 0, 1) := by decide +kernel
theorem dX4_cashSetAside_6 : decode cX4_cashSetAside 6 = .ok (.getfield 41, 3) := by decide +kernel
theorem dX4_cashSetAside_9 : decode cX4_cashSetAside 9 = .ok (.if_icmp .ge 56, 3) := by decide +kernel
theorem dX4_cashSetAside_12 : decode cX4_cashSetAside 12 = .ok (.aload_n 0, 1) := by decide +kernel
theorem dX4_cashSetAside_13 : decode cX4_cashSetAside 13 = .ok (.getfield 19, 3) := by decide +kernel
theorem dX4_cashSetAside_16 : decode cX4_cashSetAside 16 = .ok (.iload_n 3, 1) := by decide +kernel
theorem dX4_cashSetAside_17 : decode cX4_cashSetAside 17 = .ok (.aaload, 1) := by decide +kernel
theorem dX4_cashSetAside_18 : decode cX4_cashSetAside 18 = .ok (.getfield 64, 3) := by decide +kernel
theorem dX4_cashSetAside_21 : decode cX4_cashSetAside 21 = .ok (.iload_n 1, 1) := by decide +kernel
theorem dX4_cashSetAside_22 : decode cX4_cashSetAside 22 = .ok (.if_icmp .ne 37, 3) := by decide +kernel
theorem dX4_cashSetAside_25 : decode cX4_cashSetAside 25 = .ok (.aload_n 0, 1) := by decide +kernel
theorem dX4_cashSetAside_26 : decode cX4_cashSetAside 26 = .ok (.getfield 19, 3) := by decide +kernel
theorem dX4_cashSetAside_29 : decode cX4_cashSetAside 29 = .ok (.iload_n 3, 1) := by decide +kernel
theorem dX4_cashSetAside_30 : decode cX4_cashSetAside 30 = .ok (.aaload, 1) := by decide +kernel
theorem dX4_cashSetAside_31 : decode cX4_cashSetAside 31 = .ok (.getfield 67, 3) := by decide +kernel
theorem dX4_cashSetAside_34 : decode cX4_cashSetAside 34 = .ok (.ifCond .ne 25, 3) := by decide +kernel
theorem dX4_cashSetAside_37 : decode cX4_cashSetAside 37 = .ok (.iload_n 2, 1) := by decide +kernel
theorem dX4_cashSetAside_38 : decode cX4_cashSetAside 38 = .ok (.aload_n 0, 1) := by decide +kernel
theorem dX4_cashSetAside_39 : decode cX4_cashSetAside 39 = .ok (.getfield 19, 3) := by decide +kernel
theorem dX4_cashSetAside_42 : decode cX4_cashSetAside 42 = .ok (.iload_n 3, 1) := by decide +kernel
theorem dX4_cashSetAside_43 : decode cX4_cashSetAside 43 = .ok (.aaload, 1) := by decide +kernel
theorem dX4_cashSetAside_44 : decode cX4_cashSetAside 44 = .ok (.getfield 70, 3) := by decide +kernel
theorem dX4_cashSetAside_47 : decode cX4_cashSetAside 47 = .ok (.aload_n 0, 1) := by decide +kernel
theorem dX4_cashSetAside_48 : decode cX4_cashSetAside 48 = .ok (.getfield 19, 3) := by decide +kernel
theorem dX4_cashSetAside_51 : decode cX4_cashSetAside 51 = .ok (.iload_n 3, 1) := by decide +kernel
theorem dX4_cashSetAside_52 : decode cX4_cashSetAside 52 = .ok (.aaload, 1) := by decide +kernel
theorem dX4_cashSetAside_53 : decode cX4_cashSetAside 53 = .ok (.getfield 73, 3) := by decide +kernel
theorem dX4_cashSetAside_56 : decode cX4_cashSetAside 56 = .ok (.imul, 1) := by decide +kernel
theorem dX4_cashSetAside_57 : decode cX4_cashSetAside 57 = .ok (.iadd, 1) := by decide +kernel
theorem dX4_cashSetAside_58 : decode cX4_cashSetAside 58 = .ok (.istore_n 2, 1) := by decide +kernel
theorem dX4_cashSetAside_59 : decode cX4_cashSetAside 59 = .ok (.iinc 3 1, 3) := by decide +kernel
theorem dX4_cashSetAside_62 : decode cX4_cashSetAside 62 = .ok (.goto (-58), 3) := by decide +kernel
theorem dX4_cashSetAside_65 : decode cX4_cashSetAside 65 = .ok (.iload_n 2, 1) := by decide +kernel
theorem dX4_cashSetAside_66 : decode cX4_cashSetAside 66 = .ok (.ireturn, 1) := by decide +kernel
theorem dX4_earliestDueTime_0 : decode cX4_earliestDueTime 0 = .ok (.iconst 0, 1) := by decide +kernel
theorem dX4_earliestDueTime_1 : decode cX4_earliestDueTime 1 = .ok (.istore_n 2, 1) := by decide +kernel
theorem dX4_earliestDueTime_2 : decode cX4_earliestDueTime 2 = .ok (.iload_n 2, 1) := by decide +kernel
theorem dX4_earliestDueTime_3 : decode cX4_earliestDueTime 3 = .ok (.aload_n 0, 1) := by decide +kernel
theorem dX4_earliestDueTime_4 : decode cX4_earliestDueTime 4 = .ok (.getfield 32, 3) := by decide +kernel
theorem dX4_earliestDueTime_7 : decode cX4_earliestDueTime 7 = .ok (.if_icmp .gt 29, 3) := by decide +kernel
theorem dX4_earliestDueTime_10 : decode cX4_earliestDueTime 10 = .ok (.aload_n 1, 1) := by decide +kernel
theorem dX4_earliestDueTime_11 : decode cX4_earliestDueTime 11 = .ok (.aload_n 0, 1) := by decide +kernel
theorem dX4_earliestDueTime_12 : decode cX4_earliestDueTime 12 = .ok (.getfield 44, 3) := by decide +kernel
theorem dX4_earliestDueTime_15 : decode cX4_earliestDueTime 15 = .ok (.iload_n 2, 1) := by decide +kernel
theorem dX4_earliestDueTime_16 : decode cX4_earliestDueTime 16 = .ok (.iadd, 1) := by decide +kernel
theorem dX4_earliestDueTime_17 : decode cX4_earliestDueTime 17 = .ok (.invokevirtual 127, 3) := by decide +kernel
theorem dX4_earliestDueTime_20 : decode cX4_earliestDueTime 20 = .ok (.ifCond .le 10, 3) := by decide +kernel
theorem dX4_earliestDueTime_23 : decode cX4_earliestDueTime 23 = .ok (.aload_n 0, 1) := by decide +kernel
theorem dX4_earliestDueTime_24 : decode cX4_earliestDueTime 24 = .ok (.getfield 44, 3) := by decide +kernel
theorem dX4_earliestDueTime_27 : decode cX4_earliestDueTime 27 = .ok (.iload_n 2, 1) := by decide +kernel
theorem dX4_earliestDueTime_28 : decode cX4_earliestDueTime 28 = .ok (.iadd, 1) := by decide +kernel
theorem dX4_earliestDueTime_29 : decode cX4_earliestDueTime 29 = .ok (.ireturn, 1) := by decide +kernel
theorem dX4_earliestDueTime_30 : decode cX4_earliestDueTime 30 = .ok (.iinc 2 1, 3) := by decide +kernel
theorem dX4_earliestDueTime_33 : decode cX4_earliestDueTime 33 = .ok (.goto (-31), 3) := by decide +kernel
theorem dX4_earliestDueTime_36 : decode cX4_earliestDueTime 36 = .ok (.bipush (-9), 2) := by decide +kernel
theorem dX4_earliestDueTime_38 : decode cX4_earliestDueTime 38 = .ok (.ireturn, 1) := by decide +kernel
theorem dX4_wantedAt_0 : decode cX4_wantedAt 0 = .ok (.iconst 0, 1) := by decide +kernel
theorem dX4_wantedAt_1 : decode cX4_wantedAt 1 = .ok (.istore_n 2, 1) := by decide +kernel
theorem dX4_wantedAt_2 : decode cX4_wantedAt 2 = .ok (.iconst 0, 1) := by decide +kernel
theorem dX4_wantedAt_3 : decode cX4_wantedAt 3 = .ok (.istore_n 3, 1) := by decide +kernel
theorem dX4_wantedAt_4 : decode cX4_wantedAt 4 = .ok (.iload_n 3, 1) := by decide +kernel
theorem dX4_wantedAt_5 : decode cX4_wantedAt 5 = .ok (.aload_n 0, 1) := by decide +kernel
theorem dX4_wantedAt_6 : decode cX4_wantedAt 6 = .ok (.getfield 41, 3) := by decide +kernel
theorem dX4_wantedAt_9 : decode cX4_wantedAt 9 = .ok (.if_icmp .ge 46, 3) := by decide +kernel
theorem dX4_wantedAt_12 : decode cX4_wantedAt 12 = .ok (.aload_n 0, 1) := by decide +kernel
theorem dX4_wantedAt_13 : decode cX4_wantedAt 13 = .ok (.getfield 19, 3) := by decide +kernel
theorem dX4_wantedAt_16 : decode cX4_wantedAt 16 = .ok (.iload_n 3, 1) := by decide +kernel
theorem dX4_wantedAt_17 : decode cX4_wantedAt 17 = .ok (.aaload, 1) := by decide +kernel
theorem dX4_wantedAt_18 : decode cX4_wantedAt 18 = .ok (.getfield 67, 3) := by decide +kernel
theorem dX4_wantedAt_21 : decode cX4_wantedAt 21 = .ok (.ifCond .ne 28, 3) := by decide +kernel
theorem dX4_wantedAt_24 : decode cX4_wantedAt 24 = .ok (.aload_n 0, 1) := by decide +kernel
theorem dX4_wantedAt_25 : decode cX4_wantedAt 25 = .ok (.getfield 19, 3) := by decide +kernel
theorem dX4_wantedAt_28 : decode cX4_wantedAt 28 = .ok (.iload_n 3, 1) := by decide +kernel
theorem dX4_wantedAt_29 : decode cX4_wantedAt 29 = .ok (.aaload, 1) := by decide +kernel
theorem dX4_wantedAt_30 : decode cX4_wantedAt 30 = .ok (.getfield 70, 3) := by decide +kernel
theorem dX4_wantedAt_33 : decode cX4_wantedAt 33 = .ok (.iload_n 1, 1) := by decide +kernel
theorem dX4_wantedAt_34 : decode cX4_wantedAt 34 = .ok (.if_icmp .lt 15, 3) := by decide +kernel
theorem dX4_wantedAt_37 : decode cX4_wantedAt 37 = .ok (.iload_n 2, 1) := by decide +kernel
theorem dX4_wantedAt_38 : decode cX4_wantedAt 38 = .ok (.aload_n 0, 1) := by decide +kernel
theorem dX4_wantedAt_39 : decode cX4_wantedAt 39 = .ok (.getfield 19, 3) := by decide +kernel
theorem dX4_wantedAt_42 : decode cX4_wantedAt 42 = .ok (.iload_n 3, 1) := by decide +kernel
theorem dX4_wantedAt_43 : decode cX4_wantedAt 43 = .ok (.aaload, 1) := by decide +kernel
theorem dX4_wantedAt_44 : decode cX4_wantedAt 44 = .ok (.getfield 73, 3) := by decide +kernel
theorem dX4_wantedAt_47 : decode cX4_wantedAt 47 = .ok (.iadd, 1) := by decide +kernel
theorem dX4_wantedAt_48 : decode cX4_wantedAt 48 = .ok (.istore_n 2, 1) := by decide +kernel
theorem dX4_wantedAt_49 : decode cX4_wantedAt 49 = .ok (.iinc 3 1, 3) := by decide +kernel
theorem dX4_wantedAt_52 : decode cX4_wantedAt 52 = .ok (.goto (-48), 3) := by decide +kernel
theorem dX4_wantedAt_55 : decode cX4_wantedAt 55 = .ok (.iload_n 2, 1) := by decide +kernel
theorem dX4_wantedAt_56 : decode cX4_wantedAt 56 = .ok (.ireturn, 1) := by decide +kernel
theorem dX4_offeredAt_0 : decode cX4_offeredAt 0 = .ok (.iconst 0, 1) := by decide +kernel
theorem dX4_offeredAt_1 : decode cX4_offeredAt 1 = .ok (.istore_n 2, 1) := by decide +kernel
theorem dX4_offeredAt_2 : decode cX4_offeredAt 2 = .ok (.iconst 0, 1) := by decide +kernel
theorem dX4_offeredAt_3 : decode cX4_offeredAt 3 = .ok (.istore_n 3, 1) := by decide +kernel
theorem dX4_offeredAt_4 : decode cX4_offeredAt 4 = .ok (.iload_n 3, 1) := by decide +kernel
theorem dX4_offeredAt_5 : decode cX4_offeredAt 5 = .ok (.aload_n 0, 1) := by decide +kernel
theorem dX4_offeredAt_6 : decode cX4_offeredAt 6 = .ok (.getfield 41, 3) := by decide +kernel
theorem dX4_offeredAt_9 : decode cX4_offeredAt 9 = .ok (.if_icmp .ge 46, 3) := by decide +kernel
theorem dX4_offeredAt_12 : decode cX4_offeredAt 12 = .ok (.aload_n 0, 1) := by decide +kernel
theorem dX4_offeredAt_13 : decode cX4_offeredAt 13 = .ok (.getfield 19, 3) := by decide +kernel
theorem dX4_offeredAt_16 : decode cX4_offeredAt 16 = .ok (.iload_n 3, 1) := by decide +kernel
theorem dX4_offeredAt_17 : decode cX4_offeredAt 17 = .ok (.aaload, 1) := by decide +kernel
theorem dX4_offeredAt_18 : decode cX4_offeredAt 18 = .ok (.getfield 67, 3) := by decide +kernel
theorem dX4_offeredAt_21 : decode cX4_offeredAt 21 = .ok (.ifCond .eq 28, 3) := by decide +kernel
theorem dX4_offeredAt_24 : decode cX4_offeredAt 24 = .ok (.aload_n 0, 1) := by decide +kernel
theorem dX4_offeredAt_25 : decode cX4_offeredAt 25 = .ok (.getfield 19, 3) := by decide +kernel
theorem dX4_offeredAt_28 : decode cX4_offeredAt 28 = .ok (.iload_n 3, 1) := by decide +kernel
theorem dX4_offeredAt_29 : decode cX4_offeredAt 29 = .ok (.aaload, 1) := by decide +kernel
theorem dX4_offeredAt_30 : decode cX4_offeredAt 30 = .ok (.getfield 70, 3) := by decide +kernel
theorem dX4_offeredAt_33 : decode cX4_offeredAt 33 = .ok (.iload_n 1, 1) := by decide +kernel
theorem dX4_offeredAt_34 : decode cX4_offeredAt 34 = .ok (.if_icmp .gt 15, 3) := by decide +kernel
theorem dX4_offeredAt_37 : decode cX4_offeredAt 37 = .ok (.iload_n 2, 1) := by decide +kernel
theorem dX4_offeredAt_38 : decode cX4_offeredAt 38 = .ok (.aload_n 0, 1) := by decide +kernel
theorem dX4_offeredAt_39 : decode cX4_offeredAt 39 = .ok (.getfield 19, 3) := by decide +kernel
theorem dX4_offeredAt_42 : decode cX4_offeredAt 42 = .ok (.iload_n 3, 1) := by decide +kernel
theorem dX4_offeredAt_43 : decode cX4_offeredAt 43 = .ok (.aaload, 1) := by decide +kernel
theorem dX4_offeredAt_44 : decode cX4_offeredAt 44 = .ok (.getfield 73, 3) := by decide +kernel
theorem dX4_offeredAt_47 : decode cX4_offeredAt 47 = .ok (.iadd, 1) := by decide +kernel
theorem dX4_offeredAt_48 : decode cX4_offeredAt 48 = .ok (.istore_n 2, 1) := by decide +kernel
theorem dX4_offeredAt_49 : decode cX4_offeredAt 49 = .ok (.iinc 3 1, 3) := by decide +kernel
theorem dX4_offeredAt_52 : decode cX4_offeredAt 52 = .ok (.goto (-48), 3) := by decide +kernel
theorem dX4_offeredAt_55 : decode cX4_offeredAt 55 = .ok (.iload_n 2, 1) := by decide +kernel
theorem dX4_offeredAt_56 : decode cX4_offeredAt 56 = .ok (.ireturn, 1) := by decide +kernel
theorem dX4_wealthOf_0 : decode cX4_wealthOf 0 = .ok (.aload_n 0, 1) := by decide +kernel
theorem dX4_wealthOf_1 : decode cX4_wealthOf 1 = .ok (.getfield 11, 3) := by decide +kernel
theorem dX4_wealthOf_4 : decode cX4_wealthOf 4 = .ok (.iload_n 1, 1) := by decide +kernel
theorem dX4_wealthOf_5 : decode cX4_wealthOf 5 = .ok (.aaload, 1) := by decide +kernel
theorem dX4_wealthOf_6 : decode cX4_wealthOf 6 = .ok (.astore_n 2, 1) := by decide +kernel
theorem dX4_wealthOf_7 : decode cX4_wealthOf 7 = .ok (.aload_n 0, 1) := by decide +kernel
theorem dX4_wealthOf_8 : decode cX4_wealthOf 8 = .ok (.getfield 50, 3) := by decide +kernel
theorem dX4_wealthOf_11 : decode cX4_wealthOf 11 = .ok (.bipush (-9), 2) := by decide +kernel
theorem dX4_wealthOf_13 : decode cX4_wealthOf 13 = .ok (.if_icmp .ne 7, 3) := by decide +kernel
theorem dX4_wealthOf_16 : decode cX4_wealthOf 16 = .ok (.iconst 0, 1) := by decide +kernel
theorem dX4_wealthOf_17 : decode cX4_wealthOf 17 = .ok (.goto 7, 3) := by decide +kernel
theorem dX4_wealthOf_20 : decode cX4_wealthOf 20 = .ok (.aload_n 0, 1) := by decide +kernel
theorem dX4_wealthOf_21 : decode cX4_wealthOf 21 = .ok (.getfield 50, 3) := by decide +kernel
theorem dX4_wealthOf_24 : decode cX4_wealthOf 24 = .ok (.istore_n 3, 1) := by decide +kernel
theorem dX4_wealthOf_25 : decode cX4_wealthOf 25 = .ok (.aload_n 2, 1) := by decide +kernel
theorem dX4_wealthOf_26 : decode cX4_wealthOf 26 = .ok (.invokevirtual 130, 3) := by decide +kernel
theorem dX4_wealthOf_29 : decode cX4_wealthOf 29 = .ok (.aload_n 0, 1) := by decide +kernel
theorem dX4_wealthOf_30 : decode cX4_wealthOf 30 = .ok (.iload_n 1, 1) := by decide +kernel
theorem dX4_wealthOf_31 : decode cX4_wealthOf 31 = .ok (.iconst 1, 1) := by decide +kernel
theorem dX4_wealthOf_32 : decode cX4_wealthOf 32 = .ok (.invokevirtual 101, 3) := by decide +kernel
theorem dX4_wealthOf_35 : decode cX4_wealthOf 35 = .ok (.iadd, 1) := by decide +kernel
theorem dX4_wealthOf_36 : decode cX4_wealthOf 36 = .ok (.aload_n 2, 1) := by decide +kernel
theorem dX4_wealthOf_37 : decode cX4_wealthOf 37 = .ok (.invokevirtual 109, 3) := by decide +kernel
theorem dX4_wealthOf_40 : decode cX4_wealthOf 40 = .ok (.isub, 1) := by decide +kernel
theorem dX4_wealthOf_41 : decode cX4_wealthOf 41 = .ok (.istore 4, 2) := by decide +kernel
theorem dX4_wealthOf_43 : decode cX4_wealthOf 43 = .ok (.aload_n 2, 1) := by decide +kernel
theorem dX4_wealthOf_44 : decode cX4_wealthOf 44 = .ok (.getfield 98, 3) := by decide +kernel
theorem dX4_wealthOf_47 : decode cX4_wealthOf 47 = .ok (.aload_n 0, 1) := by decide +kernel
theorem dX4_wealthOf_48 : decode cX4_wealthOf 48 = .ok (.iload_n 1, 1) := by decide +kernel
theorem dX4_wealthOf_49 : decode cX4_wealthOf 49 = .ok (.invokevirtual 105, 3) := by decide +kernel
theorem dX4_wealthOf_52 : decode cX4_wealthOf 52 = .ok (.iadd, 1) := by decide +kernel
theorem dX4_wealthOf_53 : decode cX4_wealthOf 53 = .ok (.iload_n 3, 1) := by decide +kernel
theorem dX4_wealthOf_54 : decode cX4_wealthOf 54 = .ok (.iload 4, 2) := by decide +kernel
theorem dX4_wealthOf_56 : decode cX4_wealthOf 56 = .ok (.imul, 1) := by decide +kernel
theorem dX4_wealthOf_57 : decode cX4_wealthOf 57 = .ok (.iadd, 1) := by decide +kernel
theorem dX4_wealthOf_58 : decode cX4_wealthOf 58 = .ok (.ireturn, 1) := by decide +kernel
theorem dX4_rankByWealth_0 : decode cX4_rankByWealth 0 = .ok (.aload_n 0, 1) := by decide +kernel
theorem dX4_rankByWealth_1 : decode cX4_rankByWealth 1 = .ok (.iload_n 1, 1) := by decide +kernel
theorem dX4_rankByWealth_2 : decode cX4_rankByWealth 2 = .ok (.invokevirtual 133, 3) := by decide +kernel
theorem dX4_rankByWealth_5 : decode cX4_rankByWealth 5 = .ok (.istore_n 2, 1) := by decide +kernel
theorem dX4_rankByWealth_6 : decode cX4_rankByWealth 6 = .ok (.iconst 0, 1) := by decide +kernel
theorem dX4_rankByWealth_7 : decode cX4_rankByWealth 7 = .ok (.istore_n 3, 1) := by decide +kernel
theorem dX4_rankByWealth_8 : decode cX4_rankByWealth 8 = .ok (.iconst 0, 1) := by decide +kernel
theorem dX4_rankByWealth_9 : decode cX4_rankByWealth 9 = .ok (.istore 4, 2) := by decide +kernel
theorem dX4_rankByWealth_11 : decode cX4_rankByWealth 11 = .ok (.iload 4, 2) := by decide +kernel
theorem dX4_rankByWealth_13 : decode cX4_rankByWealth 13 = .ok (.aload_n 0, 1) := by decide +kernel
theorem dX4_rankByWealth_14 : decode cX4_rankByWealth 14 = .ok (.getfield 38, 3) := by decide +kernel
theorem dX4_rankByWealth_17 : decode cX4_rankByWealth 17 = .ok (.if_icmp .ge 38, 3) := by decide +kernel
theorem dX4_rankByWealth_20 : decode cX4_rankByWealth 20 = .ok (.aload_n 0, 1) := by decide +kernel
theorem dX4_rankByWealth_21 : decode cX4_rankByWealth 21 = .ok (.iload 4, 2) := by decide +kernel
theorem dX4_rankByWealth_23 : decode cX4_rankByWealth 23 = .ok (.invokevirtual 133, 3) := by decide +kernel
theorem dX4_rankByWealth_26 : decode cX4_rankByWealth 26 = .ok (.istore 5, 2) := by decide +kernel
theorem dX4_rankByWealth_28 : decode cX4_rankByWealth 28 = .ok (.iload 5, 2) := by decide +kernel
theorem dX4_rankByWealth_30 : decode cX4_rankByWealth 30 = .ok (.iload_n 2, 1) := by decide +kernel
theorem dX4_rankByWealth_31 : decode cX4_rankByWealth 31 = .ok (.if_icmp .gt 15, 3) := by decide +kernel
theorem dX4_rankByWealth_34 : decode cX4_rankByWealth 34 = .ok (.iload 5, 2) := by decide +kernel
theorem dX4_rankByWealth_36 : decode cX4_rankByWealth 36 = .ok (.iload_n 2, 1) := by decide +kernel
theorem dX4_rankByWealth_37 : decode cX4_rankByWealth 37 = .ok (.if_icmp .ne 12, 3) := by decide +kernel
theorem dX4_rankByWealth_40 : decode cX4_rankByWealth 40 = .ok (.iload 4, 2) := by decide +kernel
theorem dX4_rankByWealth_42 : decode cX4_rankByWealth 42 = .ok (.iload_n 1, 1) := by decide +kernel
theorem dX4_rankByWealth_43 : decode cX4_rankByWealth 43 = .ok (.if_icmp .ge 6, 3) := by decide +kernel
theorem dX4_rankByWealth_46 : decode cX4_rankByWealth 46 = .ok (.iinc 3 1, 3) := by decide +kernel
theorem dX4_rankByWealth_49 : decode cX4_rankByWealth 49 = .ok (.iinc 4 1, 3) := by decide +kernel
theorem dX4_rankByWealth_52 : decode cX4_rankByWealth 52 = .ok (.goto (-41), 3) := by decide +kernel
theorem dX4_rankByWealth_55 : decode cX4_rankByWealth 55 = .ok (.iload_n 3, 1) := by decide +kernel
theorem dX4_rankByWealth_56 : decode cX4_rankByWealth 56 = .ok (.ireturn, 1) := by decide +kernel
theorem dX4_canPlace_0 : decode cX4_canPlace 0 = .ok (.aload_n 0, 1) := by decide +kernel
theorem dX4_canPlace_1 : decode cX4_canPlace 1 = .ok (.getfield 11, 3) := by decide +kernel
theorem dX4_canPlace_4 : decode cX4_canPlace 4 = .ok (.iload_n 2, 1) := by decide +kernel
theorem dX4_canPlace_5 : decode cX4_canPlace 5 = .ok (.aaload, 1) := by decide +kernel
theorem dX4_canPlace_6 : decode cX4_canPlace 6 = .ok (.astore 5, 2) := by decide +kernel
theorem dX4_canPlace_8 : decode cX4_canPlace 8 = .ok (.aload_n 0, 1) := by decide +kernel
theorem dX4_canPlace_9 : decode cX4_canPlace 9 = .ok (.getfield 41, 3) := by decide +kernel
theorem dX4_canPlace_12 : decode cX4_canPlace 12 = .ok (.aload_n 0, 1) := by decide +kernel
theorem dX4_canPlace_13 : decode cX4_canPlace 13 = .ok (.getfield 19, 3) := by decide +kernel
theorem dX4_canPlace_16 : decode cX4_canPlace 16 = .ok (.arraylength, 1) := by decide +kernel
theorem dX4_canPlace_17 : decode cX4_canPlace 17 = .ok (.if_icmp .ge 12, 3) := by decide +kernel
theorem dX4_canPlace_20 : decode cX4_canPlace 20 = .ok (.aload_n 0, 1) := by decide +kernel
theorem dX4_canPlace_21 : decode cX4_canPlace 21 = .ok (.aload 5, 2) := by decide +kernel
theorem dX4_canPlace_23 : decode cX4_canPlace 23 = .ok (.invokevirtual 123, 3) := by decide +kernel
theorem dX4_canPlace_26 : decode cX4_canPlace 26 = .ok (.ifCond .eq 5, 3) := by decide +kernel
theorem dX4_canPlace_29 : decode cX4_canPlace 29 = .ok (.iconst 0, 1) := by decide +kernel
theorem dX4_canPlace_30 : decode cX4_canPlace 30 = .ok (.ireturn, 1) := by decide +kernel
theorem dX4_canPlace_31 : decode cX4_canPlace 31 = .ok (.iload_n 1, 1) := by decide +kernel
theorem dX4_canPlace_32 : decode cX4_canPlace 32 = .ok (.ifCond .ne 21, 3) := by decide +kernel
theorem dX4_canPlace_35 : decode cX4_canPlace 35 = .ok (.aload 5, 2) := by decide +kernel
theorem dX4_canPlace_37 : decode cX4_canPlace 37 = .ok (.getfield 98, 3) := by decide +kernel
theorem dX4_canPlace_40 : decode cX4_canPlace 40 = .ok (.iload_n 3, 1) := by decide +kernel
theorem dX4_canPlace_41 : decode cX4_canPlace 41 = .ok (.iload 4, 2) := by decide +kernel
theorem dX4_canPlace_43 : decode cX4_canPlace 43 = .ok (.imul, 1) := by decide +kernel
theorem dX4_canPlace_44 : decode cX4_canPlace 44 = .ok (.if_icmp .lt 7, 3) := by decide +kernel
theorem dX4_canPlace_47 : decode cX4_canPlace 47 = .ok (.iconst 1, 1) := by decide +kernel
theorem dX4_canPlace_48 : decode cX4_canPlace 48 = .ok (.goto 4, 3) := by decide +kernel
theorem dX4_canPlace_51 : decode cX4_canPlace 51 = .ok (.iconst 0, 1) := by decide +kernel
theorem dX4_canPlace_52 : decode cX4_canPlace 52 = .ok (.ireturn, 1) := by decide +kernel
theorem dX4_canPlace_53 : decode cX4_canPlace 53 = .ok (.iload_n 1, 1) := by decide +kernel
theorem dX4_canPlace_54 : decode cX4_canPlace 54 = .ok (.iconst 1, 1) := by decide +kernel
theorem dX4_canPlace_55 : decode cX4_canPlace 55 = .ok (.if_icmp .ne 19, 3) := by decide +kernel
theorem dX4_canPlace_58 : decode cX4_canPlace 58 = .ok (.aload 5, 2) := by decide +kernel
theorem dX4_canPlace_60 : decode cX4_canPlace 60 = .ok (.invokevirtual 130, 3) := by decide +kernel
theorem dX4_canPlace_63 : decode cX4_canPlace 63 = .ok (.iload 4, 2) := by decide +kernel
theorem dX4_canPlace_65 : decode cX4_canPlace 65 = .ok (.if_icmp .lt 7, 3) := by decide +kernel
theorem dX4_canPlace_68 : decode cX4_canPlace 68 = .ok (.iconst 1, 1) := by decide +kernel
theorem dX4_canPlace_69 : decode cX4_canPlace 69 = .ok (.goto 4, 3) := by decide +kernel
theorem dX4_canPlace_72 : decode cX4_canPlace 72 = .ok (.iconst 0, 1) := by decide +kernel
theorem dX4_canPlace_73 : decode cX4_canPlace 73 = .ok (.ireturn, 1) := by decide +kernel
theorem dX4_canPlace_74 : decode cX4_canPlace 74 = .ok (.aload 5, 2) := by decide +kernel
theorem dX4_canPlace_76 : decode cX4_canPlace 76 = .ok (.invokevirtual 109, 3) := by decide +kernel
theorem dX4_canPlace_79 : decode cX4_canPlace 79 = .ok (.aload_n 0, 1) := by decide +kernel
theorem dX4_canPlace_80 : decode cX4_canPlace 80 = .ok (.iload_n 2, 1) := by decide +kernel
theorem dX4_canPlace_81 : decode cX4_canPlace 81 = .ok (.iconst 2, 1) := by decide +kernel
theorem dX4_canPlace_82 : decode cX4_canPlace 82 = .ok (.invokevirtual 101, 3) := by decide +kernel
theorem dX4_canPlace_85 : decode cX4_canPlace 85 = .ok (.iadd, 1) := by decide +kernel
theorem dX4_canPlace_86 : decode cX4_canPlace 86 = .ok (.iload 4, 2) := by decide +kernel
theorem dX4_canPlace_88 : decode cX4_canPlace 88 = .ok (.iadd, 1) := by decide +kernel
theorem dX4_canPlace_89 : decode cX4_canPlace 89 = .ok (.bipush 99, 2) := by decide +kernel
theorem dX4_canPlace_91 : decode cX4_canPlace 91 = .ok (.if_icmp .gt 7, 3) := by decide +kernel
theorem dX4_canPlace_94 : decode cX4_canPlace 94 = .ok (.iconst 1, 1) := by decide +kernel
theorem dX4_canPlace_95 : decode cX4_canPlace 95 = .ok (.goto 4, 3) := by decide +kernel
theorem dX4_canPlace_98 : decode cX4_canPlace 98 = .ok (.iconst 0, 1) := by decide +kernel
theorem dX4_canPlace_99 : decode cX4_canPlace 99 = .ok (.ireturn, 1) := by decide +kernel
theorem dX4_place_0 : decode cX4_place 0 = .ok (.iload_n 1, 1) := by decide +kernel
theorem dX4_place_1 : decode cX4_place 1 = .ok (.ifCond .ne 24, 3) := by decide +kernel
theorem dX4_place_4 : decode cX4_place 4 = .ok (.aload_n 0, 1) := by decide +kernel
theorem dX4_place_5 : decode cX4_place 5 = .ok (.getfield 11, 3) := by decide +kernel
theorem dX4_place_8 : decode cX4_place 8 = .ok (.iload_n 2, 1) := by decide +kernel
theorem dX4_place_9 : decode cX4_place 9 = .ok (.aaload, 1) := by decide +kernel
theorem dX4_place_10 : decode cX4_place 10 = .ok (.dup, 1) := by decide +kernel
theorem dX4_place_11 : decode cX4_place 11 = .ok (.getfield 98, 3) := by decide +kernel
theorem dX4_place_14 : decode cX4_place 14 = .ok (.iload_n 3, 1) := by decide +kernel
theorem dX4_place_15 : decode cX4_place 15 = .ok (.iload 4, 2) := by decide +kernel
theorem dX4_place_17 : decode cX4_place 17 = .ok (.imul, 1) := by decide +kernel
theorem dX4_place_18 : decode cX4_place 18 = .ok (.isub, 1) := by decide +kernel
theorem dX4_place_19 : decode cX4_place 19 = .ok (.putfield 98, 3) := by decide +kernel
theorem dX4_place_22 : decode cX4_place 22 = .ok (.goto 20, 3) := by decide +kernel
theorem dX4_place_25 : decode cX4_place 25 = .ok (.iload_n 1, 1) := by decide +kernel
theorem dX4_place_26 : decode cX4_place 26 = .ok (.iconst 1, 1) := by decide +kernel
theorem dX4_place_27 : decode cX4_place 27 = .ok (.if_icmp .ne 15, 3) := by decide +kernel
theorem dX4_place_30 : decode cX4_place 30 = .ok (.aload_n 0, 1) := by decide +kernel
theorem dX4_place_31 : decode cX4_place 31 = .ok (.getfield 11, 3) := by decide +kernel
theorem dX4_place_34 : decode cX4_place 34 = .ok (.iload_n 2, 1) := by decide +kernel
theorem dX4_place_35 : decode cX4_place 35 = .ok (.aaload, 1) := by decide +kernel
theorem dX4_place_36 : decode cX4_place 36 = .ok (.iload 4, 2) := by decide +kernel
theorem dX4_place_38 : decode cX4_place 38 = .ok (.invokevirtual 136, 3) := by decide +kernel
theorem dX4_place_41 : decode cX4_place 41 = .ok (.pop, 1) := by decide +kernel
theorem dX4_place_42 : decode cX4_place 42 = .ok (.aload_n 0, 1) := by decide +kernel
theorem dX4_place_43 : decode cX4_place 43 = .ok (.getfield 19, 3) := by decide +kernel
theorem dX4_place_46 : decode cX4_place 46 = .ok (.aload_n 0, 1) := by decide +kernel
theorem dX4_place_47 : decode cX4_place 47 = .ok (.getfield 41, 3) := by decide +kernel
theorem dX4_place_50 : decode cX4_place 50 = .ok (.aaload, 1) := by decide +kernel
theorem dX4_place_51 : decode cX4_place 51 = .ok (.iload_n 2, 1) := by decide +kernel
theorem dX4_place_52 : decode cX4_place 52 = .ok (.iload_n 1, 1) := by decide +kernel
theorem dX4_place_53 : decode cX4_place 53 = .ok (.iload_n 3, 1) := by decide +kernel
theorem dX4_place_54 : decode cX4_place 54 = .ok (.iload 4, 2) := by decide +kernel
theorem dX4_place_56 : decode cX4_place 56 = .ok (.invokevirtual 76, 3) := by decide +kernel
theorem dX4_place_59 : decode cX4_place 59 = .ok (.aload_n 0, 1) := by decide +kernel
theorem dX4_place_60 : decode cX4_place 60 = .ok (.dup, 1) := by decide +kernel
theorem dX4_place_61 : decode cX4_place 61 = .ok (.getfield 41, 3) := by decide +kernel
theorem dX4_place_64 : decode cX4_place 64 = .ok (.iconst 1, 1) := by decide +kernel
theorem dX4_place_65 : decode cX4_place 65 = .ok (.iadd, 1) := by decide +kernel
theorem dX4_place_66 : decode cX4_place 66 = .ok (.putfield 41, 3) := by decide +kernel
theorem dX4_place_69 : decode cX4_place 69 = .ok (.aload_n 0, 1) := by decide +kernel
theorem dX4_place_70 : decode cX4_place 70 = .ok (.getfield 41, 3) := by decide +kernel
theorem dX4_place_73 : decode cX4_place 73 = .ok (.iconst 1, 1) := by decide +kernel
theorem dX4_place_74 : decode cX4_place 74 = .ok (.isub, 1) := by decide +kernel
theorem dX4_place_75 : decode cX4_place 75 = .ok (.ireturn, 1) := by decide +kernel
theorem dX4_tryPlace_0 : decode cX4_tryPlace 0 = .ok (.aload_n 0, 1) := by decide +kernel
theorem dX4_tryPlace_1 : decode cX4_tryPlace 1 = .ok (.iload_n 2, 1) := by decide +kernel
theorem dX4_tryPlace_2 : decode cX4_tryPlace 2 = .ok (.invokevirtual 139, 3) := by decide +kernel
theorem dX4_tryPlace_5 : decode cX4_tryPlace 5 = .ok (.ifCond .eq 34, 3) := by decide +kernel
theorem dX4_tryPlace_8 : decode cX4_tryPlace 8 = .ok (.iload_n 3, 1) := by decide +kernel
theorem dX4_tryPlace_9 : decode cX4_tryPlace 9 = .ok (.invokestatic 143, 3) := by decide +kernel
theorem dX4_tryPlace_12 : decode cX4_tryPlace 12 = .ok (.ifCond .eq 27, 3) := by decide +kernel
theorem dX4_tryPlace_15 : decode cX4_tryPlace 15 = .ok (.iload 4, 2) := by decide +kernel
theorem dX4_tryPlace_17 : decode cX4_tryPlace 17 = .ok (.invokestatic 143, 3) := by decide +kernel
theorem dX4_tryPlace_20 : decode cX4_tryPlace 20 = .ok (.ifCond .eq 19, 3) := by decide +kernel
theorem dX4_tryPlace_23 : decode cX4_tryPlace 23 = .ok (.aload_n 0, 1) := by decide +kernel
theorem dX4_tryPlace_24 : decode cX4_tryPlace 24 = .ok (.iload_n 1, 1) := by decide +kernel
theorem dX4_tryPlace_25 : decode cX4_tryPlace 25 = .ok (.iload_n 2, 1) := by decide +kernel
theorem dX4_tryPlace_26 : decode cX4_tryPlace 26 = .ok (.iload_n 3, 1) := by decide +kernel
theorem dX4_tryPlace_27 : decode cX4_tryPlace 27 = .ok (.iload 4, 2) := by decide +kernel
theorem dX4_tryPlace_29 : decode cX4_tryPlace 29 = .ok (.invokevirtual 146, 3) := by decide +kernel
theorem dX4_tryPlace_32 : decode cX4_tryPlace 32 = .ok (.ifCond .eq 7, 3) := by decide +kernel
theorem dX4_tryPlace_35 : decode cX4_tryPlace 35 = .ok (.iconst 1, 1) := by decide +kernel
theorem dX4_tryPlace_36 : decode cX4_tryPlace 36 = .ok (.goto 4, 3) := by decide +kernel
theorem dX4_tryPlace_39 : decode cX4_tryPlace 39 = .ok (.iconst 0, 1) := by decide +kernel
theorem dX4_tryPlace_40 : decode cX4_tryPlace 40 = .ok (.istore 5, 2) := by decide +kernel
theorem dX4_tryPlace_42 : decode cX4_tryPlace 42 = .ok (.iload 5, 2) := by decide +kernel
theorem dX4_tryPlace_44 : decode cX4_tryPlace 44 = .ok (.ifCond .eq 13, 3) := by decide +kernel
theorem dX4_tryPlace_47 : decode cX4_tryPlace 47 = .ok (.aload_n 0, 1) := by decide +kernel
theorem dX4_tryPlace_48 : decode cX4_tryPlace 48 = .ok (.iload_n 1, 1) := by decide +kernel
theorem dX4_tryPlace_49 : decode cX4_tryPlace 49 = .ok (.iload_n 2, 1) := by decide +kernel
theorem dX4_tryPlace_50 : decode cX4_tryPlace 50 = .ok (.iload_n 3, 1) := by decide +kernel
theorem dX4_tryPlace_51 : decode cX4_tryPlace 51 = .ok (.iload 4, 2) := by decide +kernel
theorem dX4_tryPlace_53 : decode cX4_tryPlace 53 = .ok (.invokevirtual 150, 3) := by decide +kernel
theorem dX4_tryPlace_56 : decode cX4_tryPlace 56 = .ok (.pop, 1) := by decide +kernel
theorem dX4_tryPlace_57 : decode cX4_tryPlace 57 = .ok (.iload 5, 2) := by decide +kernel
theorem dX4_tryPlace_59 : decode cX4_tryPlace 59 = .ok (.ireturn, 1) := by decide +kernel
theorem dX4_tryQueue_0 : decode cX4_tryQueue 0 = .ok (.aload_n 0, 1) := by decide +kernel
theorem dX4_tryQueue_1 : decode cX4_tryQueue 1 = .ok (.iload_n 1, 1) := by decide +kernel
theorem dX4_tryQueue_2 : decode cX4_tryQueue 2 = .ok (.invokevirtual 139, 3) := by decide +kernel
theorem dX4_tryQueue_5 : decode cX4_tryQueue 5 = .ok (.ifCond .eq 26, 3) := by decide +kernel
theorem dX4_tryQueue_8 : decode cX4_tryQueue 8 = .ok (.iload_n 2, 1) := by decide +kernel
theorem dX4_tryQueue_9 : decode cX4_tryQueue 9 = .ok (.invokestatic 143, 3) := by decide +kernel
theorem dX4_tryQueue_12 : decode cX4_tryQueue 12 = .ok (.ifCond .eq 19, 3) := by decide +kernel
theorem dX4_tryQueue_15 : decode cX4_tryQueue 15 = .ok (.aload_n 0, 1) := by decide +kernel
theorem dX4_tryQueue_16 : decode cX4_tryQueue 16 = .ok (.getfield 11, 3) := by decide +kernel
theorem dX4_tryQueue_19 : decode cX4_tryQueue 19 = .ok (.iload_n 1, 1) := by decide +kernel
theorem dX4_tryQueue_20 : decode cX4_tryQueue 20 = .ok (.aaload, 1) := by decide +kernel
theorem dX4_tryQueue_21 : decode cX4_tryQueue 21 = .ok (.invokevirtual 82, 3) := by decide +kernel
theorem dX4_tryQueue_24 : decode cX4_tryQueue 24 = .ok (.ifCond .ne 7, 3) := by decide +kernel
theorem dX4_tryQueue_27 : decode cX4_tryQueue 27 = .ok (.iconst 1, 1) := by decide +kernel
theorem dX4_tryQueue_28 : decode cX4_tryQueue 28 = .ok (.goto 4, 3) := by decide +kernel
theorem dX4_tryQueue_31 : decode cX4_tryQueue 31 = .ok (.iconst 0, 1) := by decide +kernel
theorem dX4_tryQueue_32 : decode cX4_tryQueue 32 = .ok (.istore_n 3, 1) := by decide +kernel
theorem dX4_tryQueue_33 : decode cX4_tryQueue 33 = .ok (.iload_n 3, 1) := by decide +kernel
theorem dX4_tryQueue_34 : decode cX4_tryQueue 34 = .ok (.ifCond .eq 14, 3) := by decide +kernel
theorem dX4_tryQueue_37 : decode cX4_tryQueue 37 = .ok (.aload_n 0, 1) := by decide +kernel
theorem dX4_tryQueue_38 : decode cX4_tryQueue 38 = .ok (.getfield 11, 3) := by decide +kernel
theorem dX4_tryQueue_41 : decode cX4_tryQueue 41 = .ok (.iload_n 1, 1) := by decide +kernel
theorem dX4_tryQueue_42 : decode cX4_tryQueue 42 = .ok (.aaload, 1) := by decide +kernel
theorem dX4_tryQueue_43 : decode cX4_tryQueue 43 = .ok (.iload_n 2, 1) := by decide +kernel
theorem dX4_tryQueue_44 : decode cX4_tryQueue 44 = .ok (.invokevirtual 154, 3) := by decide +kernel
theorem dX4_tryQueue_47 : decode cX4_tryQueue 47 = .ok (.pop, 1) := by decide +kernel
theorem dX4_tryQueue_48 : decode cX4_tryQueue 48 = .ok (.iload_n 3, 1) := by decide +kernel
theorem dX4_tryQueue_49 : decode cX4_tryQueue 49 = .ok (.ireturn, 1) := by decide +kernel
theorem dX4_withdrawOrder_0 : decode cX4_withdrawOrder 0 = .ok (.aload_n 0, 1) := by decide +kernel
theorem dX4_withdrawOrder_1 : decode cX4_withdrawOrder 1 = .ok (.getfield 19, 3) := by decide +kernel
theorem dX4_withdrawOrder_4 : decode cX4_withdrawOrder 4 = .ok (.iload_n 1, 1) := by decide +kernel
theorem dX4_withdrawOrder_5 : decode cX4_withdrawOrder 5 = .ok (.aaload, 1) := by decide +kernel
theorem dX4_withdrawOrder_6 : decode cX4_withdrawOrder 6 = .ok (.getfield 73, 3) := by decide +kernel
theorem dX4_withdrawOrder_9 : decode cX4_withdrawOrder 9 = .ok (.istore_n 2, 1) := by decide +kernel
theorem dX4_withdrawOrder_10 : decode cX4_withdrawOrder 10 = .ok (.aload_n 0, 1) := by decide +kernel
theorem dX4_withdrawOrder_11 : decode cX4_withdrawOrder 11 = .ok (.aload_n 0, 1) := by decide +kernel
theorem dX4_withdrawOrder_12 : decode cX4_withdrawOrder 12 = .ok (.getfield 19, 3) := by decide +kernel
theorem dX4_withdrawOrder_15 : decode cX4_withdrawOrder 15 = .ok (.iload_n 1, 1) := by decide +kernel
theorem dX4_withdrawOrder_16 : decode cX4_withdrawOrder 16 = .ok (.aaload, 1) := by decide +kernel
theorem dX4_withdrawOrder_17 : decode cX4_withdrawOrder 17 = .ok (.invokevirtual 157, 3) := by decide +kernel
theorem dX4_withdrawOrder_20 : decode cX4_withdrawOrder 20 = .ok (.aload_n 0, 1) := by decide +kernel
theorem dX4_withdrawOrder_21 : decode cX4_withdrawOrder 21 = .ok (.invokevirtual 161, 3) := by decide +kernel
theorem dX4_withdrawOrder_24 : decode cX4_withdrawOrder 24 = .ok (.iload_n 2, 1) := by decide +kernel
theorem dX4_withdrawOrder_25 : decode cX4_withdrawOrder 25 = .ok (.ireturn, 1) := by decide +kernel
theorem dX4_withdrawAllOf_0 : decode cX4_withdrawAllOf 0 = .ok (.iconst 0, 1) := by decide +kernel
theorem dX4_withdrawAllOf_1 : decode cX4_withdrawAllOf 1 = .ok (.istore_n 2, 1) := by decide +kernel
theorem dX4_withdrawAllOf_2 : decode cX4_withdrawAllOf 2 = .ok (.iload_n 2, 1) := by decide +kernel
theorem dX4_withdrawAllOf_3 : decode cX4_withdrawAllOf 3 = .ok (.aload_n 0, 1) := by decide +kernel
theorem dX4_withdrawAllOf_4 : decode cX4_withdrawAllOf 4 = .ok (.getfield 41, 3) := by decide +kernel
theorem dX4_withdrawAllOf_7 : decode cX4_withdrawAllOf 7 = .ok (.if_icmp .ge 32, 3) := by decide +kernel
theorem dX4_withdrawAllOf_10 : decode cX4_withdrawAllOf 10 = .ok (.aload_n 0, 1) := by decide +kernel
theorem dX4_withdrawAllOf_11 : decode cX4_withdrawAllOf 11 = .ok (.getfield 19, 3) := by decide +kernel
theorem dX4_withdrawAllOf_14 : decode cX4_withdrawAllOf 14 = .ok (.iload_n 2, 1) := by decide +kernel
theorem dX4_withdrawAllOf_15 : decode cX4_withdrawAllOf 15 = .ok (.aaload, 1) := by decide +kernel
theorem dX4_withdrawAllOf_16 : decode cX4_withdrawAllOf 16 = .ok (.getfield 64, 3) := by decide +kernel
theorem dX4_withdrawAllOf_19 : decode cX4_withdrawAllOf 19 = .ok (.iload_n 1, 1) := by decide +kernel
theorem dX4_withdrawAllOf_20 : decode cX4_withdrawAllOf 20 = .ok (.if_icmp .ne 13, 3) := by decide +kernel
theorem dX4_withdrawAllOf_23 : decode cX4_withdrawAllOf 23 = .ok (.aload_n 0, 1) := by decide +kernel
theorem dX4_withdrawAllOf_24 : decode cX4_withdrawAllOf 24 = .ok (.aload_n 0, 1) := by decide +kernel
theorem dX4_withdrawAllOf_25 : decode cX4_withdrawAllOf 25 = .ok (.getfield 19, 3) := by decide +kernel
theorem dX4_withdrawAllOf_28 : decode cX4_withdrawAllOf 28 = .ok (.iload_n 2, 1) := by decide +kernel
theorem dX4_withdrawAllOf_29 : decode cX4_withdrawAllOf 29 = .ok (.aaload, 1) := by decide +kernel
theorem dX4_withdrawAllOf_30 : decode cX4_withdrawAllOf 30 = .ok (.invokevirtual 157, 3) := by decide +kernel
theorem dX4_withdrawAllOf_33 : decode cX4_withdrawAllOf 33 = .ok (.iinc 2 1, 3) := by decide +kernel
theorem dX4_withdrawAllOf_36 : decode cX4_withdrawAllOf 36 = .ok (.goto (-34), 3) := by decide +kernel
theorem dX4_withdrawAllOf_39 : decode cX4_withdrawAllOf 39 = .ok (.aload_n 0, 1) := by decide +kernel
theorem dX4_withdrawAllOf_40 : decode cX4_withdrawAllOf 40 = .ok (.invokevirtual 161, 3) := by decide +kernel
theorem dX4_withdrawAllOf_43 : decode cX4_withdrawAllOf 43 = .ok (.return_, 1) := by decide +kernel
theorem dX4_giveBack_0 : decode cX4_giveBack 0 = .ok (.aload_n 0, 1) := by decide +kernel
theorem dX4_giveBack_1 : decode cX4_giveBack 1 = .ok (.getfield 11, 3) := by decide +kernel
theorem dX4_giveBack_4 : decode cX4_giveBack 4 = .ok (.aload_n 1, 1) := by decide +kernel
theorem dX4_giveBack_5 : decode cX4_giveBack 5 = .ok (.getfield 64, 3) := by decide +kernel
theorem dX4_giveBack_8 : decode cX4_giveBack 8 = .ok (.aaload, 1) := by decide +kernel
theorem dX4_giveBack_9 : decode cX4_giveBack 9 = .ok (.astore_n 2, 1) := by decide +kernel
theorem dX4_giveBack_10 : decode cX4_giveBack 10 = .ok (.aload_n 1, 1) := by decide +kernel
theorem dX4_giveBack_11 : decode cX4_giveBack 11 = .ok (.getfield 67, 3) := by decide +kernel
theorem dX4_giveBack_14 : decode cX4_giveBack 14 = .ok (.ifCond .ne 24, 3) := by decide +kernel
theorem dX4_giveBack_17 : decode cX4_giveBack 17 = .ok (.aload_n 2, 1) := by decide +kernel
theorem dX4_giveBack_18 : decode cX4_giveBack 18 = .ok (.dup, 1) := by decide +kernel
theorem dX4_giveBack_19 : decode cX4_giveBack 19 = .ok (.getfield 98, 3) := by decide +kernel
theorem dX4_giveBack_22 : decode cX4_giveBack 22 = .ok (.aload_n 1, 1) := by decide +kernel
theorem dX4_giveBack_23 : decode cX4_giveBack 23 = .ok (.getfield 70, 3) := by decide +kernel
theorem dX4_giveBack_26 : decode cX4_giveBack 26 = .ok (.aload_n 1, 1) := by decide +kernel
theorem dX4_giveBack_27 : decode cX4_giveBack 27 = .ok (.getfield 73, 3) := by decide +kernel
theorem dX4_giveBack_30 : decode cX4_giveBack 30 = .ok (.imul, 1) := by decide +kernel
theorem dX4_giveBack_31 : decode cX4_giveBack 31 = .ok (.iadd, 1) := by decide +kernel
theorem dX4_giveBack_32 : decode cX4_giveBack 32 = .ok (.putfield 98, 3) := by decide +kernel
theorem dX4_giveBack_35 : decode cX4_giveBack 35 = .ok (.goto 24, 3) := by decide +kernel
theorem dX4_giveBack_38 : decode cX4_giveBack 38 = .ok (.aload_n 1, 1) := by decide +kernel
theorem dX4_giveBack_39 : decode cX4_giveBack 39 = .ok (.getfield 67, 3) := by decide +kernel
theorem dX4_giveBack_42 : decode cX4_giveBack 42 = .ok (.iconst 1, 1) := by decide +kernel
theorem dX4_giveBack_43 : decode cX4_giveBack 43 = .ok (.if_icmp .ne 16, 3) := by decide +kernel
theorem dX4_giveBack_46 : decode cX4_giveBack 46 = .ok (.aload_n 2, 1) := by decide +kernel
theorem dX4_giveBack_47 : decode cX4_giveBack 47 = .ok (.dup, 1) := by decide +kernel
theorem dX4_giveBack_48 : decode cX4_giveBack 48 = .ok (.getfield 95, 3) := by decide +kernel
theorem dX4_giveBack_51 : decode cX4_giveBack 51 = .ok (.aload_n 1, 1) := by decide +kernel
theorem dX4_giveBack_52 : decode cX4_giveBack 52 = .ok (.getfield 73, 3) := by decide +kernel
theorem dX4_giveBack_55 : decode cX4_giveBack 55 = .ok (.iadd, 1) := by decide +kernel
theorem dX4_giveBack_56 : decode cX4_giveBack 56 = .ok (.putfield 95, 3) := by decide +kernel
theorem dX4_giveBack_59 : decode cX4_giveBack 59 = .ok (.aload_n 1, 1) := by decide +kernel
theorem dX4_giveBack_60 : decode cX4_giveBack 60 = .ok (.iconst 0, 1) := by decide +kernel
theorem dX4_giveBack_61 : decode cX4_giveBack 61 = .ok (.putfield 73, 3) := by decide +kernel
theorem dX4_giveBack_64 : decode cX4_giveBack 64 = .ok (.return_, 1) := by decide +kernel
theorem dX4_removeEmptyOrders_0 : decode cX4_removeEmptyOrders 0 = .ok (.iconst 0, 1) := by decide +kernel
theorem dX4_removeEmptyOrders_1 : decode cX4_removeEmptyOrders 1 = .ok (.istore_n 1, 1) := by decide +kernel
theorem dX4_removeEmptyOrders_2 : decode cX4_removeEmptyOrders 2 = .ok (.iconst 0, 1) := by decide +kernel
theorem dX4_removeEmptyOrders_3 : decode cX4_removeEmptyOrders 3 = .ok (.istore_n 2, 1) := by decide +kernel
theorem dX4_removeEmptyOrders_4 : decode cX4_removeEmptyOrders 4 = .ok (.iload_n 2, 1) := by decide +kernel
theorem dX4_removeEmptyOrders_5 : decode cX4_removeEmptyOrders 5 = .ok (.aload_n 0, 1) := by decide +kernel
theorem dX4_removeEmptyOrders_6 : decode cX4_removeEmptyOrders 6 = .ok (.getfield 41, 3) := by decide +kernel
theorem dX4_removeEmptyOrders_9 : decode cX4_removeEmptyOrders 9 = .ok (.if_icmp .ge 45, 3) := by decide +kernel
theorem dX4_removeEmptyOrders_12 : decode cX4_removeEmptyOrders 12 = .ok (.aload_n 0, 1) := by decide +kernel
theorem dX4_removeEmptyOrders_13 : decode cX4_removeEmptyOrders 13 = .ok (.getfield 19, 3) := by decide +kernel
theorem dX4_removeEmptyOrders_16 : decode cX4_removeEmptyOrders 16 = .ok (.iload_n 2, 1) := by decide +kernel
theorem dX4_removeEmptyOrders_17 : decode cX4_removeEmptyOrders 17 = .ok (.aaload, 1) := by decide +kernel
theorem dX4_removeEmptyOrders_18 : decode cX4_removeEmptyOrders 18 = .ok (.astore_n 3, 1) := by decide +kernel
theorem dX4_removeEmptyOrders_19 : decode cX4_removeEmptyOrders 19 = .ok (.aload_n 3, 1) := by decide +kernel
theorem dX4_removeEmptyOrders_20 : decode cX4_removeEmptyOrders 20 = .ok (.getfield 73, 3) := by decide +kernel
theorem dX4_removeEmptyOrders_23 : decode cX4_removeEmptyOrders 23 = .ok (.ifCond .le 25, 3) := by decide +kernel
theorem dX4_removeEmptyOrders_26 : decode cX4_removeEmptyOrders 26 = .ok (.aload_n 0, 1) := by decide +kernel
theorem dX4_removeEmptyOrders_27 : decode cX4_removeEmptyOrders 27 = .ok (.getfield 19, 3) := by decide +kernel
theorem dX4_removeEmptyOrders_30 : decode cX4_removeEmptyOrders 30 = .ok (.iload_n 2, 1) := by decide +kernel
theorem dX4_removeEmptyOrders_31 : decode cX4_removeEmptyOrders 31 = .ok (.aload_n 0, 1) := by decide +kernel
theorem dX4_removeEmptyOrders_32 : decode cX4_removeEmptyOrders 32 = .ok (.getfield 19, 3) := by decide +kernel
theorem dX4_removeEmptyOrders_35 : decode cX4_removeEmptyOrders 35 = .ok (.iload_n 1, 1) := by decide +kernel
theorem dX4_removeEmptyOrders_36 : decode cX4_removeEmptyOrders 36 = .ok (.aaload, 1) := by decide +kernel
theorem dX4_removeEmptyOrders_37 : decode cX4_removeEmptyOrders 37 = .ok (.aastore, 1) := by decide +kernel
theorem dX4_removeEmptyOrders_38 : decode cX4_removeEmptyOrders 38 = .ok (.aload_n 0, 1) := by decide +kernel
theorem dX4_removeEmptyOrders_39 : decode cX4_removeEmptyOrders 39 = .ok (.getfield 19, 3) := by decide +kernel
theorem dX4_removeEmptyOrders_42 : decode cX4_removeEmptyOrders 42 = .ok (.iload_n 1, 1) := by decide +kernel
theorem dX4_removeEmptyOrders_43 : decode cX4_removeEmptyOrders 43 = .ok (.aload_n 3, 1) := by decide +kernel
theorem dX4_removeEmptyOrders_44 : decode cX4_removeEmptyOrders 44 = .ok (.aastore, 1) := by decide +kernel
theorem dX4_removeEmptyOrders_45 : decode cX4_removeEmptyOrders 45 = .ok (.iinc 1 1, 3) := by decide +kernel
theorem dX4_removeEmptyOrders_48 : decode cX4_removeEmptyOrders 48 = .ok (.iinc 2 1, 3) := by decide +kernel
theorem dX4_removeEmptyOrders_51 : decode cX4_removeEmptyOrders 51 = .ok (.goto (-47), 3) := by decide +kernel
theorem dX4_removeEmptyOrders_54 : decode cX4_removeEmptyOrders 54 = .ok (.aload_n 0, 1) := by decide +kernel
theorem dX4_removeEmptyOrders_55 : decode cX4_removeEmptyOrders 55 = .ok (.iload_n 1, 1) := by decide +kernel
theorem dX4_removeEmptyOrders_56 : decode cX4_removeEmptyOrders 56 = .ok (.putfield 41, 3) := by decide +kernel
theorem dX4_removeEmptyOrders_59 : decode cX4_removeEmptyOrders 59 = .ok (.return_, 1) := by decide +kernel
theorem dX4_advance_0 : decode cX4_advance 0 = .ok (.iconst 0, 1) := by decide +kernel
theorem dX4_advance_1 : decode cX4_advance 1 = .ok (.istore_n 3, 1) := by decide +kernel
theorem dX4_advance_2 : decode cX4_advance 2 = .ok (.iconst 0, 1) := by decide +kernel
theorem dX4_advance_3 : decode cX4_advance 3 = .ok (.istore 4, 2) := by decide +kernel
theorem dX4_advance_5 : decode cX4_advance 5 = .ok (.iload 4, 2) := by decide +kernel
theorem dX4_advance_7 : decode cX4_advance 7 = .ok (.iload_n 1, 1) := by decide +kernel
theorem dX4_advance_8 : decode cX4_advance 8 = .ok (.if_icmp .ge 67, 3) := by decide +kernel
theorem dX4_advance_11 : decode cX4_advance 11 = .ok (.aload_n 0, 1) := by decide +kernel
theorem dX4_advance_12 : decode cX4_advance 12 = .ok (.dup, 1) := by decide +kernel
theorem dX4_advance_13 : decode cX4_advance 13 = .ok (.getfield 44, 3) := by decide +kernel
theorem dX4_advance_16 : decode cX4_advance 16 = .ok (.iconst 1, 1) := by decide +kernel
theorem dX4_advance_17 : decode cX4_advance 17 = .ok (.iadd, 1) := by decide +kernel
theorem dX4_advance_18 : decode cX4_advance 18 = .ok (.putfield 44, 3) := by decide +kernel
theorem dX4_advance_21 : decode cX4_advance 21 = .ok (.aload_n 0, 1) := by decide +kernel
theorem dX4_advance_22 : decode cX4_advance 22 = .ok (.invokevirtual 164, 3) := by decide +kernel
theorem dX4_advance_25 : decode cX4_advance 25 = .ok (.aload_n 0, 1) := by decide +kernel
theorem dX4_advance_26 : decode cX4_advance 26 = .ok (.invokevirtual 167, 3) := by decide +kernel
theorem dX4_advance_29 : decode cX4_advance 29 = .ok (.iload_n 3, 1) := by decide +kernel
theorem dX4_advance_30 : decode cX4_advance 30 = .ok (.aload_n 0, 1) := by decide +kernel
theorem dX4_advance_31 : decode cX4_advance 31 = .ok (.getfield 53, 3) := by decide +kernel
theorem dX4_advance_34 : decode cX4_advance 34 = .ok (.iadd, 1) := by decide +kernel
theorem dX4_advance_35 : decode cX4_advance 35 = .ok (.istore_n 3, 1) := by decide +kernel
theorem dX4_advance_36 : decode cX4_advance 36 = .ok (.aload_n 0, 1) := by decide +kernel
theorem dX4_advance_37 : decode cX4_advance 37 = .ok (.getfield 29, 3) := by decide +kernel
theorem dX4_advance_40 : decode cX4_advance 40 = .ok (.ifCond .le 25, 3) := by decide +kernel
theorem dX4_advance_43 : decode cX4_advance 43 = .ok (.aload_n 0, 1) := by decide +kernel
theorem dX4_advance_44 : decode cX4_advance 44 = .ok (.getfield 44, 3) := by decide +kernel
theorem dX4_advance_47 : decode cX4_advance 47 = .ok (.aload_n 0, 1) := by decide +kernel
theorem dX4_advance_48 : decode cX4_advance 48 = .ok (.getfield 29, 3) := by decide +kernel
theorem dX4_advance_51 : decode cX4_advance 51 = .ok (.irem, 1) := by decide +kernel
theorem dX4_advance_52 : decode cX4_advance 52 = .ok (.ifCond .ne 13, 3) := by decide +kernel
theorem dX4_advance_55 : decode cX4_advance 55 = .ok (.aload_n 2, 1) := by decide +kernel
theorem dX4_advance_56 : decode cX4_advance 56 = .ok (.aload_n 0, 1) := by decide +kernel
theorem dX4_advance_57 : decode cX4_advance 57 = .ok (.invokevirtual 170, 3) := by decide +kernel
theorem dX4_advance_60 : decode cX4_advance 60 = .ok (.aload_n 0, 1) := by decide +kernel
theorem dX4_advance_61 : decode cX4_advance 61 = .ok (.aload_n 2, 1) := by decide +kernel
theorem dX4_advance_62 : decode cX4_advance 62 = .ok (.invokevirtual 176, 3) := by decide +kernel
theorem dX4_advance_65 : decode cX4_advance 65 = .ok (.aload_n 0, 1) := by decide +kernel
theorem dX4_advance_66 : decode cX4_advance 66 = .ok (.invokevirtual 180, 3) := by decide +kernel
theorem dX4_advance_69 : decode cX4_advance 69 = .ok (.iinc 4 1, 3) := by decide +kernel
theorem dX4_advance_72 : decode cX4_advance 72 = .ok (.goto (-67), 3) := by decide +kernel
theorem dX4_advance_75 : decode cX4_advance 75 = .ok (.iload_n 3, 1) := by decide +kernel
theorem dX4_advance_76 : decode cX4_advance 76 = .ok (.ireturn, 1) := by decide +kernel
theorem dX4_fillBuckets_0 : decode cX4_fillBuckets 0 = .ok (.iconst 0, 1) := by decide +kernel
theorem dX4_fillBuckets_1 : decode cX4_fillBuckets 1 = .ok (.istore_n 1, 1) := by decide +kernel
theorem dX4_fillBuckets_2 : decode cX4_fillBuckets 2 = .ok (.iload_n 1, 1) := by decide +kernel
theorem dX4_fillBuckets_3 : decode cX4_fillBuckets 3 = .ok (.aload_n 0, 1) := by decide +kernel
theorem dX4_fillBuckets_4 : decode cX4_fillBuckets 4 = .ok (.getfield 38, 3) := by decide +kernel
theorem dX4_fillBuckets_7 : decode cX4_fillBuckets 7 = .ok (.if_icmp .ge 44, 3) := by decide +kernel
theorem dX4_fillBuckets_10 : decode cX4_fillBuckets 10 = .ok (.aload_n 0, 1) := by decide +kernel
theorem dX4_fillBuckets_11 : decode cX4_fillBuckets 11 = .ok (.getfield 11, 3) := by decide +kernel
theorem dX4_fillBuckets_14 : decode cX4_fillBuckets 14 = .ok (.iload_n 1, 1) := by decide +kernel
theorem dX4_fillBuckets_15 : decode cX4_fillBuckets 15 = .ok (.aaload, 1) := by decide +kernel
theorem dX4_fillBuckets_16 : decode cX4_fillBuckets 16 = .ok (.astore_n 2, 1) := by decide +kernel
theorem dX4_fillBuckets_17 : decode cX4_fillBuckets 17 = .ok (.aload_n 0, 1) := by decide +kernel
theorem dX4_fillBuckets_18 : decode cX4_fillBuckets 18 = .ok (.aload_n 2, 1) := by decide +kernel
theorem dX4_fillBuckets_19 : decode cX4_fillBuckets 19 = .ok (.invokevirtual 123, 3) := by decide +kernel
theorem dX4_fillBuckets_22 : decode cX4_fillBuckets 22 = .ok (.ifCond .ne 23, 3) := by decide +kernel
theorem dX4_fillBuckets_25 : decode cX4_fillBuckets 25 = .ok (.aload_n 2, 1) := by decide +kernel
theorem dX4_fillBuckets_26 : decode cX4_fillBuckets 26 = .ok (.aload_n 2, 1) := by decide +kernel
theorem dX4_fillBuckets_27 : decode cX4_fillBuckets 27 = .ok (.getfield 86, 3) := by decide +kernel
theorem dX4_fillBuckets_30 : decode cX4_fillBuckets 30 = .ok (.aload_n 2, 1) := by decide +kernel
theorem dX4_fillBuckets_31 : decode cX4_fillBuckets 31 = .ok (.getfield 92, 3) := by decide +kernel
theorem dX4_fillBuckets_34 : decode cX4_fillBuckets 34 = .ok (.aload_n 2, 1) := by decide +kernel
theorem dX4_fillBuckets_35 : decode cX4_fillBuckets 35 = .ok (.getfield 89, 3) := by decide +kernel
theorem dX4_fillBuckets_38 : decode cX4_fillBuckets 38 = .ok (.iadd, 1) := by decide +kernel
theorem dX4_fillBuckets_39 : decode cX4_fillBuckets 39 = .ok (.invokestatic 183, 3) := by decide +kernel
theorem dX4_fillBuckets_42 : decode cX4_fillBuckets 42 = .ok (.putfield 92, 3) := by decide +kernel
theorem dX4_fillBuckets_45 : decode cX4_fillBuckets 45 = .ok (.iinc 1 1, 3) := by decide +kernel
theorem dX4_fillBuckets_48 : decode cX4_fillBuckets 48 = .ok (.goto (-46), 3) := by decide +kernel
theorem dX4_fillBuckets_51 : decode cX4_fillBuckets 51 = .ok (.return_, 1) := by decide +kernel
theorem dX4_sendMessages_0 : decode cX4_sendMessages 0 = .ok (.aload_n 0, 1) := by decide +kernel
theorem dX4_sendMessages_1 : decode cX4_sendMessages 1 = .ok (.iconst 0, 1) := by decide +kernel
theorem dX4_sendMessages_2 : decode cX4_sendMessages 2 = .ok (.putfield 53, 3) := by decide +kernel
theorem dX4_sendMessages_5 : decode cX4_sendMessages 5 = .ok (.iconst 1, 1) := by decide +kernel
theorem dX4_sendMessages_6 : decode cX4_sendMessages 6 = .ok (.istore_n 1, 1) := by decide +kernel
theorem dX4_sendMessages_7 : decode cX4_sendMessages 7 = .ok (.iconst 0, 1) := by decide +kernel
theorem dX4_sendMessages_8 : decode cX4_sendMessages 8 = .ok (.istore_n 2, 1) := by decide +kernel
theorem dX4_sendMessages_9 : decode cX4_sendMessages 9 = .ok (.iload_n 1, 1) := by decide +kernel
theorem dX4_sendMessages_10 : decode cX4_sendMessages 10 = .ok (.ifCond .eq 20, 3) := by decide +kernel
theorem dX4_sendMessages_13 : decode cX4_sendMessages 13 = .ok (.iload_n 2, 1) := by decide +kernel
theorem dX4_sendMessages_14 : decode cX4_sendMessages 14 = .ok (.bipush 48, 2) := by decide +kernel
theorem dX4_sendMessages_16 : decode cX4_sendMessages 16 = .ok (.if_icmp .gt 14, 3) := by decide +kernel
theorem dX4_sendMessages_19 : decode cX4_sendMessages 19 = .ok (.aload_n 0, 1) := by decide +kernel
theorem dX4_sendMessages_20 : decode cX4_sendMessages 20 = .ok (.invokevirtual 188, 3) := by decide +kernel
theorem dX4_sendMessages_23 : decode cX4_sendMessages 23 = .ok (.istore_n 1, 1) := by decide +kernel
theorem dX4_sendMessages_24 : decode cX4_sendMessages 24 = .ok (.iinc 2 1, 3) := by decide +kernel
theorem dX4_sendMessages_27 : decode cX4_sendMessages 27 = .ok (.goto (-18), 3) := by decide +kernel
theorem dX4_sendMessages_30 : decode cX4_sendMessages 30 = .ok (.return_, 1) := by decide +kernel
theorem dX4_sendRound_0 : decode cX4_sendRound 0 = .ok (.aload_n 0, 1) := by decide +kernel
theorem dX4_sendRound_1 : decode cX4_sendRound 1 = .ok (.getfield 53, 3) := by decide +kernel
theorem dX4_sendRound_4 : decode cX4_sendRound 4 = .ok (.istore_n 1, 1) := by decide +kernel
theorem dX4_sendRound_5 : decode cX4_sendRound 5 = .ok (.iconst 0, 1) := by decide +kernel
theorem dX4_sendRound_6 : decode cX4_sendRound 6 = .ok (.istore_n 2, 1) := by decide +kernel
theorem dX4_sendRound_7 : decode cX4_sendRound 7 = .ok (.iload_n 2, 1) := by decide +kernel
theorem dX4_sendRound_8 : decode cX4_sendRound 8 = .ok (.aload_n 0, 1) := by decide +kernel
theorem dX4_sendRound_9 : decode cX4_sendRound 9 = .ok (.getfield 38, 3) := by decide +kernel
theorem dX4_sendRound_12 : decode cX4_sendRound 12 = .ok (.if_icmp .ge 49, 3) := by decide +kernel
theorem dX4_sendRound_15 : decode cX4_sendRound 15 = .ok (.aload_n 0, 1) := by decide +kernel
theorem dX4_sendRound_16 : decode cX4_sendRound 16 = .ok (.getfield 11, 3) := by decide +kernel
theorem dX4_sendRound_19 : decode cX4_sendRound 19 = .ok (.aload_n 0, 1) := by decide +kernel
theorem dX4_sendRound_20 : decode cX4_sendRound 20 = .ok (.getfield 44, 3) := by decide +kernel
theorem dX4_sendRound_23 : decode cX4_sendRound 23 = .ok (.iload_n 2, 1) := by decide +kernel
theorem dX4_sendRound_24 : decode cX4_sendRound 24 = .ok (.iadd, 1) := by decide +kernel
theorem dX4_sendRound_25 : decode cX4_sendRound 25 = .ok (.aload_n 0, 1) := by decide +kernel
theorem dX4_sendRound_26 : decode cX4_sendRound 26 = .ok (.getfield 38, 3) := by decide +kernel
theorem dX4_sendRound_29 : decode cX4_sendRound 29 = .ok (.invokestatic 191, 3) := by decide +kernel
theorem dX4_sendRound_32 : decode cX4_sendRound 32 = .ok (.aaload, 1) := by decide +kernel
theorem dX4_sendRound_33 : decode cX4_sendRound 33 = .ok (.astore_n 3, 1) := by decide +kernel
theorem dX4_sendRound_34 : decode cX4_sendRound 34 = .ok (.aload_n 0, 1) := by decide +kernel
theorem dX4_sendRound_35 : decode cX4_sendRound 35 = .ok (.aload_n 3, 1) := by decide +kernel
theorem dX4_sendRound_36 : decode cX4_sendRound 36 = .ok (.invokevirtual 194, 3) := by decide +kernel
theorem dX4_sendRound_39 : decode cX4_sendRound 39 = .ok (.ifCond .eq 16, 3) := by decide +kernel
theorem dX4_sendRound_42 : decode cX4_sendRound 42 = .ok (.aload_n 0, 1) := by decide +kernel
theorem dX4_sendRound_43 : decode cX4_sendRound 43 = .ok (.dup, 1) := by decide +kernel
theorem dX4_sendRound_44 : decode cX4_sendRound 44 = .ok (.getfield 53, 3) := by decide +kernel
theorem dX4_sendRound_47 : decode cX4_sendRound 47 = .ok (.aload_n 3, 1) := by decide +kernel
theorem dX4_sendRound_48 : decode cX4_sendRound 48 = .ok (.invokevirtual 197, 3) := by decide +kernel
theorem dX4_sendRound_51 : decode cX4_sendRound 51 = .ok (.iadd, 1) := by decide +kernel
theorem dX4_sendRound_52 : decode cX4_sendRound 52 = .ok (.putfield 53, 3) := by decide +kernel
theorem dX4_sendRound_55 : decode cX4_sendRound 55 = .ok (.iinc 2 1, 3) := by decide +kernel
theorem dX4_sendRound_58 : decode cX4_sendRound 58 = .ok (.goto (-51), 3) := by decide +kernel
theorem dX4_sendRound_61 : decode cX4_sendRound 61 = .ok (.aload_n 0, 1) := by decide +kernel
theorem dX4_sendRound_62 : decode cX4_sendRound 62 = .ok (.getfield 53, 3) := by decide +kernel
theorem dX4_sendRound_65 : decode cX4_sendRound 65 = .ok (.iload_n 1, 1) := by decide +kernel
theorem dX4_sendRound_66 : decode cX4_sendRound 66 = .ok (.if_icmp .le 7, 3) := by decide +kernel
theorem dX4_sendRound_69 : decode cX4_sendRound 69 = .ok (.iconst 1, 1) := by decide +kernel
theorem dX4_sendRound_70 : decode cX4_sendRound 70 = .ok (.goto 4, 3) := by decide +kernel
theorem dX4_sendRound_73 : decode cX4_sendRound 73 = .ok (.iconst 0, 1) := by decide +kernel
theorem dX4_sendRound_74 : decode cX4_sendRound 74 = .ok (.ireturn, 1) := by decide +kernel
theorem dX4_canSend_0 : decode cX4_canSend 0 = .ok (.aload_n 1, 1) := by decide +kernel
theorem dX4_canSend_1 : decode cX4_canSend 1 = .ok (.getfield 117, 3) := by decide +kernel
theorem dX4_canSend_4 : decode cX4_canSend 4 = .ok (.ifCond .eq 11, 3) := by decide +kernel
theorem dX4_canSend_7 : decode cX4_canSend 7 = .ok (.aload_n 0, 1) := by decide +kernel
theorem dX4_canSend_8 : decode cX4_canSend 8 = .ok (.aload_n 1, 1) := by decide +kernel
theorem dX4_canSend_9 : decode cX4_canSend 9 = .ok (.invokevirtual 123, 3) := by decide +kernel
theorem dX4_canSend_12 : decode cX4_canSend 12 = .ok (.ifCond .eq 5, 3) := by decide +kernel
theorem dX4_canSend_15 : decode cX4_canSend 15 = .ok (.iconst 0, 1) := by decide +kernel
theorem dX4_canSend_16 : decode cX4_canSend 16 = .ok (.ireturn, 1) := by decide +kernel
theorem dX4_canSend_17 : decode cX4_canSend 17 = .ok (.aload_n 1, 1) := by decide +kernel
theorem dX4_canSend_18 : decode cX4_canSend 18 = .ok (.iconst 0, 1) := by decide +kernel
theorem dX4_canSend_19 : decode cX4_canSend 19 = .ok (.invokevirtual 200, 3) := by decide +kernel
theorem dX4_canSend_22 : decode cX4_canSend 22 = .ok (.istore_n 2, 1) := by decide +kernel
theorem dX4_canSend_23 : decode cX4_canSend 23 = .ok (.iload_n 2, 1) := by decide +kernel
theorem dX4_canSend_24 : decode cX4_canSend 24 = .ok (.aload_n 1, 1) := by decide +kernel
theorem dX4_canSend_25 : decode cX4_canSend 25 = .ok (.invokevirtual 130, 3) := by decide +kernel
theorem dX4_canSend_28 : decode cX4_canSend 28 = .ok (.if_icmp .gt 20, 3) := by decide +kernel
theorem dX4_canSend_31 : decode cX4_canSend 31 = .ok (.iload_n 2, 1) := by decide +kernel
theorem dX4_canSend_32 : decode cX4_canSend 32 = .ok (.aload_n 0, 1) := by decide +kernel
theorem dX4_canSend_33 : decode cX4_canSend 33 = .ok (.getfield 53, 3) := by decide +kernel
theorem dX4_canSend_36 : decode cX4_canSend 36 = .ok (.iadd, 1) := by decide +kernel
theorem dX4_canSend_37 : decode cX4_canSend 37 = .ok (.aload_n 0, 1) := by decide +kernel
theorem dX4_canSend_38 : decode cX4_canSend 38 = .ok (.getfield 25, 3) := by decide +kernel
theorem dX4_canSend_41 : decode cX4_canSend 41 = .ok (.if_icmp .gt 7, 3) := by decide +kernel
theorem dX4_canSend_44 : decode cX4_canSend 44 = .ok (.iconst 1, 1) := by decide +kernel
theorem dX4_canSend_45 : decode cX4_canSend 45 = .ok (.goto 4, 3) := by decide +kernel
theorem dX4_canSend_48 : decode cX4_canSend 48 = .ok (.iconst 0, 1) := by decide +kernel
theorem dX4_canSend_49 : decode cX4_canSend 49 = .ok (.ireturn, 1) := by decide +kernel
