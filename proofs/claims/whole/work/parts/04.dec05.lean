theorem dX7_tell_0 : decode cX7_tell 0 = .ok (.iload_n 1, 1) := by decide +kernel
theorem dX7_tell_1 : decode cX7_tell 1 = .ok (.invokestatic 90, 3) := by decide +kernel
theorem dX7_tell_4 : decode cX7_tell 4 = .ok (.istore_n 3, 1) := by decide +kernel
theorem dX7_tell_5 : decode cX7_tell 5 = .ok (.iload_n 2, 1) := by decide +kernel
theorem dX7_tell_6 : decode cX7_tell 6 = .ok (.tableswitch 146 0 10 #[58, 64, 70, 76, 82, 88, 96, 104, 110, 133, 140], 58) := by decide +kernel
theorem dX7_tell_64 : decode cX7_tell 64 = .ok (.aload_n 0, 1) := by decide +kernel
theorem dX7_tell_65 : decode cX7_tell 65 = .ok (.iload_n 3, 1) := by decide +kernel
theorem dX7_tell_66 : decode cX7_tell 66 = .ok (.iconst 0, 1) := by decide +kernel
theorem dX7_tell_67 : decode cX7_tell 67 = .ok (.iadd, 1) := by decide +kernel
theorem dX7_tell_68 : decode cX7_tell 68 = .ok (.iaload, 1) := by decide +kernel
theorem dX7_tell_69 : decode cX7_tell 69 = .ok (.ireturn, 1) := by decide +kernel
theorem dX7_tell_70 : decode cX7_tell 70 = .ok (.aload_n 0, 1) := by decide +kernel
theorem dX7_tell_71 : decode cX7_tell 71 = .ok (.iload_n 3, 1) := by decide +kernel
theorem dX7_tell_72 : decode cX7_tell 72 = .ok (.iconst 1, 1) := by decide +kernel
theorem dX7_tell_73 : decode cX7_tell 73 = .ok (.iadd, 1) := by decide +kernel
theorem dX7_tell_74 : decode cX7_tell 74 = .ok (.iaload, 1) := by decide +kernel
theorem dX7_tell_75 : decode cX7_tell 75 = .ok (.ireturn, 1) := by decide +kernel
theorem dX7_tell_76 : decode cX7_tell 76 = .ok (.aload_n 0, 1) := by decide +kernel
theorem dX7_tell_77 : decode cX7_tell 77 = .ok (.iload_n 3, 1) := by decide +kernel
theorem dX7_tell_78 : decode cX7_tell 78 = .ok (.iconst 2, 1) := by decide +kernel
theorem dX7_tell_79 : decode cX7_tell 79 = .ok (.iadd, 1) := by decide +kernel
theorem dX7_tell_80 : decode cX7_tell 80 = .ok (.iaload, 1) := by decide +kernel
theorem dX7_tell_81 : decode cX7_tell 81 = .ok (.ireturn, 1) := by decide +kernel
theorem dX7_tell_82 : decode cX7_tell 82 = .ok (.aload_n 0, 1) := by decide +kernel
theorem dX7_tell_83 : decode cX7_tell 83 = .ok (.iload_n 3, 1) := by decide +kernel
theorem dX7_tell_84 : decode cX7_tell 84 = .ok (.iconst 3, 1) := by decide +kernel
theorem dX7_tell_85 : decode cX7_tell 85 = .ok (.iadd, 1) := by decide +kernel
theorem dX7_tell_86 : decode cX7_tell 86 = .ok (.iaload, 1) := by decide +kernel
theorem dX7_tell_87 : decode cX7_tell 87 = .ok (.ireturn, 1) := by decide +kernel
theorem dX7_tell_88 : decode cX7_tell 88 = .ok (.aload_n 0, 1) := by decide +kernel
theorem dX7_tell_89 : decode cX7_tell 89 = .ok (.iload_n 3, 1) := by decide +kernel
theorem dX7_tell_90 : decode cX7_tell 90 = .ok (.iconst 4, 1) := by decide +kernel
theorem dX7_tell_91 : decode cX7_tell 91 = .ok (.iadd, 1) := by decide +kernel
theorem dX7_tell_92 : decode cX7_tell 92 = .ok (.iaload, 1) := by decide +kernel
theorem dX7_tell_93 : decode cX7_tell 93 = .ok (.ireturn, 1) := by decide +kernel
theorem dX7_tell_94 : decode cX7_tell 94 = .ok (.aload_n 0, 1) := by decide +kernel
theorem dX7_tell_95 : decode cX7_tell 95 = .ok (.iload_n 1, 1) := by decide +kernel
theorem dX7_tell_96 : decode cX7_tell 96 = .ok (.iconst 1, 1) := by decide +kernel
theorem dX7_tell_97 : decode cX7_tell 97 = .ok (.iconst 0, 1) := by decide +kernel
theorem dX7_tell_98 : decode cX7_tell 98 = .ok (.invokestatic 122, 3) := by decide +kernel
theorem dX7_tell_101 : decode cX7_tell 101 = .ok (.ireturn, 1) := by decide +kernel
theorem dX7_tell_102 : decode cX7_tell 102 = .ok (.aload_n 0, 1) := by decide +kernel
theorem dX7_tell_103 : decode cX7_tell 103 = .ok (.iload_n 1, 1) := by decide +kernel
theorem dX7_tell_104 : decode cX7_tell 104 = .ok (.iconst 0, 1) := by decide +kernel
theorem dX7_tell_105 : decode cX7_tell 105 = .ok (.iconst 1, 1) := by decide +kernel
theorem dX7_tell_106 : decode cX7_tell 106 = .ok (.invokestatic 122, 3) := by decide +kernel
theorem dX7_tell_109 : decode cX7_tell 109 = .ok (.ireturn, 1) := by decide +kernel
theorem dX7_tell_110 : decode cX7_tell 110 = .ok (.aload_n 0, 1) := by decide +kernel
theorem dX7_tell_111 : decode cX7_tell 111 = .ok (.iload_n 1, 1) := by decide +kernel
theorem dX7_tell_112 : decode cX7_tell 112 = .ok (.invokestatic 126, 3) := by decide +kernel
theorem dX7_tell_115 : decode cX7_tell 115 = .ok (.ireturn, 1) := by decide +kernel
theorem dX7_tell_116 : decode cX7_tell 116 = .ok (.aload_n 0, 1) := by decide +kernel
theorem dX7_tell_117 : decode cX7_tell 117 = .ok (.iload_n 3, 1) := by decide +kernel
theorem dX7_tell_118 : decode cX7_tell 118 = .ok (.bipush 16, 2) := by decide +kernel
theorem dX7_tell_120 : decode cX7_tell 120 = .ok (.iadd, 1) := by decide +kernel
theorem dX7_tell_121 : decode cX7_tell 121 = .ok (.iaload, 1) := by decide +kernel
theorem dX7_tell_122 : decode cX7_tell 122 = .ok (.ifCond .ne 8, 3) := by decide +kernel
theorem dX7_tell_125 : decode cX7_tell 125 = .ok (.bipush (-9), 2) := by decide +kernel
theorem dX7_tell_127 : decode cX7_tell 127 = .ok (.goto 11, 3) := by decide +kernel
theorem dX7_tell_130 : decode cX7_tell 130 = .ok (.aload_n 0, 1) := by decide +kernel
theorem dX7_tell_131 : decode cX7_tell 131 = .ok (.iload_n 3, 1) := by decide +kernel
theorem dX7_tell_132 : decode cX7_tell 132 = .ok (.bipush 17, 2) := by decide +kernel
theorem dX7_tell_134 : decode cX7_tell 134 = .ok (.iadd, 1) := by decide +kernel
theorem dX7_tell_135 : decode cX7_tell 135 = .ok (.iconst 1, 1) := by decide +kernel
theorem dX7_tell_136 : decode cX7_tell 136 = .ok (.iadd, 1) := by decide +kernel
theorem dX7_tell_137 : decode cX7_tell 137 = .ok (.iaload, 1) := by decide +kernel
theorem dX7_tell_138 : decode cX7_tell 138 = .ok (.ireturn, 1) := by decide +kernel
theorem dX7_tell_139 : decode cX7_tell 139 = .ok (.aload_n 0, 1) := by decide +kernel
theorem dX7_tell_140 : decode cX7_tell 140 = .ok (.iload_n 3, 1) := by decide +kernel
theorem dX7_tell_141 : decode cX7_tell 141 = .ok (.bipush 7, 2) := by decide +kernel
theorem dX7_tell_143 : decode cX7_tell 143 = .ok (.iadd, 1) := by decide +kernel
theorem dX7_tell_144 : decode cX7_tell 144 = .ok (.iaload, 1) := by decide +kernel
theorem dX7_tell_145 : decode cX7_tell 145 = .ok (.ireturn, 1) := by decide +kernel
theorem dX7_tell_146 : decode cX7_tell 146 = .ok (.aload_n 0, 1) := by decide +kernel
theorem dX7_tell_147 : decode cX7_tell 147 = .ok (.iload_n 3, 1) := by decide +kernel
theorem dX7_tell_148 : decode cX7_tell 148 = .ok (.iconst 5, 1) := by decide +kernel
theorem dX7_tell_149 : decode cX7_tell 149 = .ok (.iadd, 1) := by decide +kernel
theorem dX7_tell_150 : decode cX7_tell 150 = .ok (.iaload, 1) := by decide +kernel
theorem dX7_tell_151 : decode cX7_tell 151 = .ok (.ireturn, 1) := by decide +kernel
theorem dX7_tell_152 : decode cX7_tell 152 = .ok (.aload_n 0, 1) := by decide +kernel
theorem dX7_tell_153 : decode cX7_tell 153 = .ok (.iload_n 1, 1) := by decide +kernel
theorem dX7_tell_154 : decode cX7_tell 154 = .ok (.invokestatic 130, 3) := by decide +kernel
theorem dX7_tell_157 : decode cX7_tell 157 = .ok (.ifCond .eq 12, 3) := by decide +kernel
theorem dX7_tell_160 : decode cX7_tell 160 = .ok (.aload_n 0, 1) := by decide +kernel
theorem dX7_tell_161 : decode cX7_tell 161 = .ok (.iload_n 3, 1) := by decide +kernel
theorem dX7_tell_162 : decode cX7_tell 162 = .ok (.bipush 6, 2) := by decide +kernel
theorem dX7_tell_164 : decode cX7_tell 164 = .ok (.iadd, 1) := by decide +kernel
theorem dX7_tell_165 : decode cX7_tell 165 = .ok (.iaload, 1) := by decide +kernel
theorem dX7_tell_166 : decode cX7_tell 166 = .ok (.goto 5, 3) := by decide +kernel
theorem dX7_tell_169 : decode cX7_tell 169 = .ok (.bipush (-9), 2) := by decide +kernel
theorem dX7_tell_171 : decode cX7_tell 171 = .ok (.ireturn, 1) := by decide +kernel
theorem dX7_about_0 : decode cX7_about 0 = .ok (.aload_n 0, 1) := by decide +kernel
theorem dX7_about_1 : decode cX7_about 1 = .ok (.iload_n 1, 1) := by decide +kernel
theorem dX7_about_2 : decode cX7_about 2 = .ok (.i2l, 1) := by decide +kernel
theorem dX7_about_3 : decode cX7_about 3 = .ok (.lconst 0, 1) := by decide +kernel
theorem dX7_about_4 : decode cX7_about 4 = .ok (.ldc2_w 81, 3) := by decide +kernel
theorem dX7_about_7 : decode cX7_about 7 = .ok (.invokestatic 65, 3) := by decide +kernel
theorem dX7_about_10 : decode cX7_about 10 = .ok (.ifCond .eq 7, 3) := by decide +kernel
theorem dX7_about_13 : decode cX7_about 13 = .ok (.iconst 0, 1) := by decide +kernel
theorem dX7_about_14 : decode cX7_about 14 = .ok (.goto 4, 3) := by decide +kernel
theorem dX7_about_17 : decode cX7_about 17 = .ok (.iconst 1, 1) := by decide +kernel
theorem dX7_about_18 : decode cX7_about 18 = .ok (.invokevirtual 74, 3) := by decide +kernel
theorem dX7_about_21 : decode cX7_about 21 = .ok (.ifCond .eq 5, 3) := by decide +kernel
theorem dX7_about_24 : decode cX7_about 24 = .ok (.iconst 0, 1) := by decide +kernel
theorem dX7_about_25 : decode cX7_about 25 = .ok (.ireturn, 1) := by decide +kernel
theorem dX7_about_26 : decode cX7_about 26 = .ok (.aload_n 0, 1) := by decide +kernel
theorem dX7_about_27 : decode cX7_about 27 = .ok (.getfield 7, 3) := by decide +kernel
theorem dX7_about_30 : decode cX7_about 30 = .ok (.iload_n 1, 1) := by decide +kernel
theorem dX7_about_31 : decode cX7_about 31 = .ok (.iaload, 1) := by decide +kernel
theorem dX7_about_32 : decode cX7_about 32 = .ok (.ireturn, 1) := by decide +kernel
theorem dX7_tenant_0 : decode cX7_tenant 0 = .ok (.aload_n 0, 1) := by decide +kernel
theorem dX7_tenant_1 : decode cX7_tenant 1 = .ok (.aload_n 0, 1) := by decide +kernel
theorem dX7_tenant_2 : decode cX7_tenant 2 = .ok (.getfield 7, 3) := by decide +kernel
theorem dX7_tenant_5 : decode cX7_tenant 5 = .ok (.iload_n 1, 1) := by decide +kernel
theorem dX7_tenant_6 : decode cX7_tenant 6 = .ok (.invokestatic 94, 3) := by decide +kernel
theorem dX7_tenant_9 : decode cX7_tenant 9 = .ok (.ifCond .ne 7, 3) := by decide +kernel
theorem dX7_tenant_12 : decode cX7_tenant 12 = .ok (.iconst 1, 1) := by decide +kernel
theorem dX7_tenant_13 : decode cX7_tenant 13 = .ok (.goto 20, 3) := by decide +kernel
theorem dX7_tenant_16 : decode cX7_tenant 16 = .ok (.iload_n 2, 1) := by decide +kernel
theorem dX7_tenant_17 : decode cX7_tenant 17 = .ok (.i2l, 1) := by decide +kernel
theorem dX7_tenant_18 : decode cX7_tenant 18 = .ok (.lconst 0, 1) := by decide +kernel
theorem dX7_tenant_19 : decode cX7_tenant 19 = .ok (.ldc2_w 133, 3) := by decide +kernel
theorem dX7_tenant_22 : decode cX7_tenant 22 = .ok (.invokestatic 65, 3) := by decide +kernel
theorem dX7_tenant_25 : decode cX7_tenant 25 = .ok (.ifCond .ne 7, 3) := by decide +kernel
theorem dX7_tenant_28 : decode cX7_tenant 28 = .ok (.iconst 2, 1) := by decide +kernel
theorem dX7_tenant_29 : decode cX7_tenant 29 = .ok (.goto 4, 3) := by decide +kernel
theorem dX7_tenant_32 : decode cX7_tenant 32 = .ok (.iconst 0, 1) := by decide +kernel
theorem dX7_tenant_33 : decode cX7_tenant 33 = .ok (.invokevirtual 74, 3) := by decide +kernel
theorem dX7_tenant_36 : decode cX7_tenant 36 = .ok (.ifCond .eq 5, 3) := by decide +kernel
theorem dX7_tenant_39 : decode cX7_tenant 39 = .ok (.iconst 0, 1) := by decide +kernel
theorem dX7_tenant_40 : decode cX7_tenant 40 = .ok (.ireturn, 1) := by decide +kernel
theorem dX7_tenant_41 : decode cX7_tenant 41 = .ok (.aload_n 0, 1) := by decide +kernel
theorem dX7_tenant_42 : decode cX7_tenant 42 = .ok (.getfield 7, 3) := by decide +kernel
theorem dX7_tenant_45 : decode cX7_tenant 45 = .ok (.iload_n 1, 1) := by decide +kernel
theorem dX7_tenant_46 : decode cX7_tenant 46 = .ok (.iload_n 2, 1) := by decide +kernel
theorem dX7_tenant_47 : decode cX7_tenant 47 = .ok (.invokestatic 135, 3) := by decide +kernel
theorem dX7_tenant_50 : decode cX7_tenant 50 = .ok (.ireturn, 1) := by decide +kernel
theorem dX7_message_0 : decode cX7_message 0 = .ok (.aload_n 0, 1) := by decide +kernel
theorem dX7_message_1 : decode cX7_message 1 = .ok (.aload_n 0, 1) := by decide +kernel
theorem dX7_message_2 : decode cX7_message 2 = .ok (.getfield 7, 3) := by decide +kernel
theorem dX7_message_5 : decode cX7_message 5 = .ok (.iload_n 1, 1) := by decide +kernel
theorem dX7_message_6 : decode cX7_message 6 = .ok (.invokestatic 94, 3) := by decide +kernel
theorem dX7_message_9 : decode cX7_message 9 = .ok (.ifCond .ne 7, 3) := by decide +kernel
theorem dX7_message_12 : decode cX7_message 12 = .ok (.iconst 1, 1) := by decide +kernel
theorem dX7_message_13 : decode cX7_message 13 = .ok (.goto 20, 3) := by decide +kernel
theorem dX7_message_16 : decode cX7_message 16 = .ok (.iload_n 2, 1) := by decide +kernel
theorem dX7_message_17 : decode cX7_message 17 = .ok (.i2l, 1) := by decide +kernel
theorem dX7_message_18 : decode cX7_message 18 = .ok (.lconst 0, 1) := by decide +kernel
theorem dX7_message_19 : decode cX7_message 19 = .ok (.ldc2_w 139, 3) := by decide +kernel
theorem dX7_message_22 : decode cX7_message 22 = .ok (.invokestatic 65, 3) := by decide +kernel
theorem dX7_message_25 : decode cX7_message 25 = .ok (.ifCond .ne 7, 3) := by decide +kernel
theorem dX7_message_28 : decode cX7_message 28 = .ok (.iconst 2, 1) := by decide +kernel
theorem dX7_message_29 : decode cX7_message 29 = .ok (.goto 4, 3) := by decide +kernel
theorem dX7_message_32 : decode cX7_message 32 = .ok (.iconst 0, 1) := by decide +kernel
theorem dX7_message_33 : decode cX7_message 33 = .ok (.invokevirtual 74, 3) := by decide +kernel
theorem dX7_message_36 : decode cX7_message 36 = .ok (.ifCond .eq 5, 3) := by decide +kernel
theorem dX7_message_39 : decode cX7_message 39 = .ok (.iconst 0, 1) := by decide +kernel
theorem dX7_message_40 : decode cX7_message 40 = .ok (.ireturn, 1) := by decide +kernel
theorem dX7_message_41 : decode cX7_message 41 = .ok (.iload_n 2, 1) := by decide +kernel
theorem dX7_message_42 : decode cX7_message 42 = .ok (.aload_n 0, 1) := by decide +kernel
theorem dX7_message_43 : decode cX7_message 43 = .ok (.getfield 7, 3) := by decide +kernel
theorem dX7_message_46 : decode cX7_message 46 = .ok (.iload_n 1, 1) := by decide +kernel
theorem dX7_message_47 : decode cX7_message 47 = .ok (.invokestatic 90, 3) := by decide +kernel
theorem dX7_message_50 : decode cX7_message 50 = .ok (.bipush 7, 2) := by decide +kernel
theorem dX7_message_52 : decode cX7_message 52 = .ok (.iadd, 1) := by decide +kernel
theorem dX7_message_53 : decode cX7_message 53 = .ok (.iaload, 1) := by decide +kernel
theorem dX7_message_54 : decode cX7_message 54 = .ok (.if_icmp .ge 20, 3) := by decide +kernel
theorem dX7_message_57 : decode cX7_message 57 = .ok (.aload_n 0, 1) := by decide +kernel
theorem dX7_message_58 : decode cX7_message 58 = .ok (.getfield 7, 3) := by decide +kernel
theorem dX7_message_61 : decode cX7_message 61 = .ok (.iload_n 1, 1) := by decide +kernel
theorem dX7_message_62 : decode cX7_message 62 = .ok (.invokestatic 90, 3) := by decide +kernel
theorem dX7_message_65 : decode cX7_message 65 = .ok (.bipush 8, 2) := by decide +kernel
theorem dX7_message_67 : decode cX7_message 67 = .ok (.iadd, 1) := by decide +kernel
theorem dX7_message_68 : decode cX7_message 68 = .ok (.iload_n 2, 1) := by decide +kernel
theorem dX7_message_69 : decode cX7_message 69 = .ok (.iadd, 1) := by decide +kernel
theorem dX7_message_70 : decode cX7_message 70 = .ok (.iaload, 1) := by decide +kernel
theorem dX7_message_71 : decode cX7_message 71 = .ok (.goto 5, 3) := by decide +kernel
theorem dX7_message_74 : decode cX7_message 74 = .ok (.bipush (-9), 2) := by decide +kernel
theorem dX7_message_76 : decode cX7_message 76 = .ok (.ireturn, 1) := by decide +kernel
theorem dX7_order_0 : decode cX7_order 0 = .ok (.aload_n 0, 1) := by decide +kernel
theorem dX7_order_1 : decode cX7_order 1 = .ok (.aload_n 0, 1) := by decide +kernel
theorem dX7_order_2 : decode cX7_order 2 = .ok (.iload_n 1, 1) := by decide +kernel
theorem dX7_order_3 : decode cX7_order 3 = .ok (.invokevirtual 141, 3) := by decide +kernel
theorem dX7_order_6 : decode cX7_order 6 = .ok (.ifCond .ne 7, 3) := by decide +kernel
theorem dX7_order_9 : decode cX7_order 9 = .ok (.iconst 1, 1) := by decide +kernel
theorem dX7_order_10 : decode cX7_order 10 = .ok (.goto 20, 3) := by decide +kernel
theorem dX7_order_13 : decode cX7_order 13 = .ok (.iload_n 2, 1) := by decide +kernel
theorem dX7_order_14 : decode cX7_order 14 = .ok (.i2l, 1) := by decide +kernel
theorem dX7_order_15 : decode cX7_order 15 = .ok (.lconst 0, 1) := by decide +kernel
theorem dX7_order_16 : decode cX7_order 16 = .ok (.ldc2_w 144, 3) := by decide +kernel
theorem dX7_order_19 : decode cX7_order 19 = .ok (.invokestatic 65, 3) := by decide +kernel
theorem dX7_order_22 : decode cX7_order 22 = .ok (.ifCond .ne 7, 3) := by decide +kernel
theorem dX7_order_25 : decode cX7_order 25 = .ok (.iconst 2, 1) := by decide +kernel
theorem dX7_order_26 : decode cX7_order 26 = .ok (.goto 4, 3) := by decide +kernel
theorem dX7_order_29 : decode cX7_order 29 = .ok (.iconst 0, 1) := by decide +kernel
theorem dX7_order_30 : decode cX7_order 30 = .ok (.invokevirtual 74, 3) := by decide +kernel
theorem dX7_order_33 : decode cX7_order 33 = .ok (.ifCond .eq 5, 3) := by decide +kernel
theorem dX7_order_36 : decode cX7_order 36 = .ok (.iconst 0, 1) := by decide +kernel
theorem dX7_order_37 : decode cX7_order 37 = .ok (.ireturn, 1) := by decide +kernel
theorem dX7_order_38 : decode cX7_order 38 = .ok (.iload_n 2, 1) := by decide +kernel
theorem dX7_order_39 : decode cX7_order 39 = .ok (.iconst 4, 1) := by decide +kernel
theorem dX7_order_40 : decode cX7_order 40 = .ok (.if_icmp .ge 15, 3) := by decide +kernel
theorem dX7_order_43 : decode cX7_order 43 = .ok (.aload_n 0, 1) := by decide +kernel
theorem dX7_order_44 : decode cX7_order 44 = .ok (.getfield 7, 3) := by decide +kernel
theorem dX7_order_47 : decode cX7_order 47 = .ok (.iload_n 1, 1) := by decide +kernel
theorem dX7_order_48 : decode cX7_order 48 = .ok (.invokestatic 119, 3) := by decide +kernel
theorem dX7_order_51 : decode cX7_order 51 = .ok (.iload_n 2, 1) := by decide +kernel
theorem dX7_order_52 : decode cX7_order 52 = .ok (.iadd, 1) := by decide +kernel
theorem dX7_order_53 : decode cX7_order 53 = .ok (.iaload, 1) := by decide +kernel
theorem dX7_order_54 : decode cX7_order 54 = .ok (.ireturn, 1) := by decide +kernel
theorem dX7_order_55 : decode cX7_order 55 = .ok (.aload_n 0, 1) := by decide +kernel
theorem dX7_order_56 : decode cX7_order 56 = .ok (.aload_n 0, 1) := by decide +kernel
theorem dX7_order_57 : decode cX7_order 57 = .ok (.getfield 7, 3) := by decide +kernel
theorem dX7_order_60 : decode cX7_order 60 = .ok (.bipush 63, 2) := by decide +kernel
theorem dX7_order_62 : decode cX7_order 62 = .ok (.invokevirtual 146, 3) := by decide +kernel
theorem dX7_order_65 : decode cX7_order 65 = .ok (.aload_n 0, 1) := by decide +kernel
theorem dX7_order_66 : decode cX7_order 66 = .ok (.invokevirtual 150, 3) := by decide +kernel
theorem dX7_order_69 : decode cX7_order 69 = .ok (.aload_n 0, 1) := by decide +kernel
theorem dX7_order_70 : decode cX7_order 70 = .ok (.getfield 41, 3) := by decide +kernel
theorem dX7_order_73 : decode cX7_order 73 = .ok (.iload_n 1, 1) := by decide +kernel
theorem dX7_order_74 : decode cX7_order 74 = .ok (.iaload, 1) := by decide +kernel
theorem dX7_order_75 : decode cX7_order 75 = .ok (.ireturn, 1) := by decide +kernel
theorem dX7_layBench_0 : decode cX7_layBench 0 = .ok (.aload_n 0, 1) := by decide +kernel
theorem dX7_layBench_1 : decode cX7_layBench 1 = .ok (.iconst 0, 1) := by decide +kernel
theorem dX7_layBench_2 : decode cX7_layBench 2 = .ok (.putfield 153, 3) := by decide +kernel
theorem dX7_layBench_5 : decode cX7_layBench 5 = .ok (.iconst 0, 1) := by decide +kernel
theorem dX7_layBench_6 : decode cX7_layBench 6 = .ok (.istore_n 3, 1) := by decide +kernel
theorem dX7_layBench_7 : decode cX7_layBench 7 = .ok (.iload_n 3, 1) := by decide +kernel
theorem dX7_layBench_8 : decode cX7_layBench 8 = .ok (.aload_n 1, 1) := by decide +kernel
theorem dX7_layBench_9 : decode cX7_layBench 9 = .ok (.bipush 8, 2) := by decide +kernel
theorem dX7_layBench_11 : decode cX7_layBench 11 = .ok (.iaload, 1) := by decide +kernel
theorem dX7_layBench_12 : decode cX7_layBench 12 = .ok (.if_icmp .ge 73, 3) := by decide +kernel
theorem dX7_layBench_15 : decode cX7_layBench 15 = .ok (.iload_n 2, 1) := by decide +kernel
theorem dX7_layBench_16 : decode cX7_layBench 16 = .ok (.aload_n 1, 1) := by decide +kernel
theorem dX7_layBench_17 : decode cX7_layBench 17 = .ok (.iload_n 3, 1) := by decide +kernel
theorem dX7_layBench_18 : decode cX7_layBench 18 = .ok (.invokestatic 119, 3) := by decide +kernel
theorem dX7_layBench_21 : decode cX7_layBench 21 = .ok (.iconst 0, 1) := by decide +kernel
theorem dX7_layBench_22 : decode cX7_layBench 22 = .ok (.iadd, 1) := by decide +kernel
theorem dX7_layBench_23 : decode cX7_layBench 23 = .ok (.iaload, 1) := by decide +kernel
theorem dX7_layBench_24 : decode cX7_layBench 24 = .ok (.ishr, 1) := by decide +kernel
theorem dX7_layBench_25 : decode cX7_layBench 25 = .ok (.iconst 1, 1) := by decide +kernel
theorem dX7_layBench_26 : decode cX7_layBench 26 = .ok (.iand, 1) := by decide +kernel
theorem dX7_layBench_27 : decode cX7_layBench 27 = .ok (.iconst 1, 1) := by decide +kernel
theorem dX7_layBench_28 : decode cX7_layBench 28 = .ok (.if_icmp .ne 51, 3) := by decide +kernel
theorem dX7_layBench_31 : decode cX7_layBench 31 = .ok (.iconst 0, 1) := by decide +kernel
theorem dX7_layBench_32 : decode cX7_layBench 32 = .ok (.istore 4, 2) := by decide +kernel
theorem dX7_layBench_34 : decode cX7_layBench 34 = .ok (.iload 4, 2) := by decide +kernel
theorem dX7_layBench_36 : decode cX7_layBench 36 = .ok (.iconst 4, 1) := by decide +kernel
theorem dX7_layBench_37 : decode cX7_layBench 37 = .ok (.if_icmp .ge 32, 3) := by decide +kernel
theorem dX7_layBench_40 : decode cX7_layBench 40 = .ok (.aload_n 0, 1) := by decide +kernel
theorem dX7_layBench_41 : decode cX7_layBench 41 = .ok (.getfield 32, 3) := by decide +kernel
theorem dX7_layBench_44 : decode cX7_layBench 44 = .ok (.iconst 4, 1) := by decide +kernel
theorem dX7_layBench_45 : decode cX7_layBench 45 = .ok (.aload_n 0, 1) := by decide +kernel
theorem dX7_layBench_46 : decode cX7_layBench 46 = .ok (.getfield 153, 3) := by decide +kernel
theorem dX7_layBench_49 : decode cX7_layBench 49 = .ok (.imul, 1) := by decide +kernel
theorem dX7_layBench_50 : decode cX7_layBench 50 = .ok (.iload 4, 2) := by decide +kernel
theorem dX7_layBench_52 : decode cX7_layBench 52 = .ok (.iadd, 1) := by decide +kernel
theorem dX7_layBench_53 : decode cX7_layBench 53 = .ok (.aload_n 1, 1) := by decide +kernel
theorem dX7_layBench_54 : decode cX7_layBench 54 = .ok (.iload_n 3, 1) := by decide +kernel
theorem dX7_layBench_55 : decode cX7_layBench 55 = .ok (.invokestatic 119, 3) := by decide +kernel
theorem dX7_layBench_58 : decode cX7_layBench 58 = .ok (.iload 4, 2) := by decide +kernel
theorem dX7_layBench_60 : decode cX7_layBench 60 = .ok (.iadd, 1) := by decide +kernel
theorem dX7_layBench_61 : decode cX7_layBench 61 = .ok (.iaload, 1) := by decide +kernel
theorem dX7_layBench_62 : decode cX7_layBench 62 = .ok (.iastore, 1) := by decide +kernel
theorem dX7_layBench_63 : decode cX7_layBench 63 = .ok (.iinc 4 1, 3) := by decide +kernel
theorem dX7_layBench_66 : decode cX7_layBench 66 = .ok (.goto (-32), 3) := by decide +kernel
theorem dX7_layBench_69 : decode cX7_layBench 69 = .ok (.aload_n 0, 1) := by decide +kernel
theorem dX7_layBench_70 : decode cX7_layBench 70 = .ok (.dup, 1) := by decide +kernel
theorem dX7_layBench_71 : decode cX7_layBench 71 = .ok (.getfield 153, 3) := by decide +kernel
theorem dX7_layBench_74 : decode cX7_layBench 74 = .ok (.iconst 1, 1) := by decide +kernel
theorem dX7_layBench_75 : decode cX7_layBench 75 = .ok (.iadd, 1) := by decide +kernel
theorem dX7_layBench_76 : decode cX7_layBench 76 = .ok (.putfield 153, 3) := by decide +kernel
theorem dX7_layBench_79 : decode cX7_layBench 79 = .ok (.iinc 3 1, 3) := by decide +kernel
theorem dX7_layBench_82 : decode cX7_layBench 82 = .ok (.goto (-75), 3) := by decide +kernel
theorem dX7_layBench_85 : decode cX7_layBench 85 = .ok (.return_, 1) := by decide +kernel
theorem dX7_benchMore_0 : decode cX7_benchMore 0 = .ok (.aload_n 0, 1) := by decide +kernel
theorem dX7_benchMore_1 : decode cX7_benchMore 1 = .ok (.getfield 32, 3) := by decide +kernel
theorem dX7_benchMore_4 : decode cX7_benchMore 4 = .ok (.iconst 4, 1) := by decide +kernel
theorem dX7_benchMore_5 : decode cX7_benchMore 5 = .ok (.aload_n 0, 1) := by decide +kernel
theorem dX7_benchMore_6 : decode cX7_benchMore 6 = .ok (.getfield 153, 3) := by decide +kernel
theorem dX7_benchMore_9 : decode cX7_benchMore 9 = .ok (.imul, 1) := by decide +kernel
theorem dX7_benchMore_10 : decode cX7_benchMore 10 = .ok (.iconst 0, 1) := by decide +kernel
theorem dX7_benchMore_11 : decode cX7_benchMore 11 = .ok (.iadd, 1) := by decide +kernel
theorem dX7_benchMore_12 : decode cX7_benchMore 12 = .ok (.iload_n 1, 1) := by decide +kernel
theorem dX7_benchMore_13 : decode cX7_benchMore 13 = .ok (.iastore, 1) := by decide +kernel
theorem dX7_benchMore_14 : decode cX7_benchMore 14 = .ok (.aload_n 0, 1) := by decide +kernel
theorem dX7_benchMore_15 : decode cX7_benchMore 15 = .ok (.getfield 32, 3) := by decide +kernel
theorem dX7_benchMore_18 : decode cX7_benchMore 18 = .ok (.iconst 4, 1) := by decide +kernel
theorem dX7_benchMore_19 : decode cX7_benchMore 19 = .ok (.aload_n 0, 1) := by decide +kernel
theorem dX7_benchMore_20 : decode cX7_benchMore 20 = .ok (.getfield 153, 3) := by decide +kernel
theorem dX7_benchMore_23 : decode cX7_benchMore 23 = .ok (.imul, 1) := by decide +kernel
theorem dX7_benchMore_24 : decode cX7_benchMore 24 = .ok (.iconst 1, 1) := by decide +kernel
theorem dX7_benchMore_25 : decode cX7_benchMore 25 = .ok (.iadd, 1) := by decide +kernel
theorem dX7_benchMore_26 : decode cX7_benchMore 26 = .ok (.iload_n 2, 1) := by decide +kernel
theorem dX7_benchMore_27 : decode cX7_benchMore 27 = .ok (.iastore, 1) := by decide +kernel
theorem dX7_benchMore_28 : decode cX7_benchMore 28 = .ok (.aload_n 0, 1) := by decide +kernel
theorem dX7_benchMore_29 : decode cX7_benchMore 29 = .ok (.getfield 32, 3) := by decide +kernel
theorem dX7_benchMore_32 : decode cX7_benchMore 32 = .ok (.iconst 4, 1) := by decide +kernel
theorem dX7_benchMore_33 : decode cX7_benchMore 33 = .ok (.aload_n 0, 1) := by decide +kernel
theorem dX7_benchMore_34 : decode cX7_benchMore 34 = .ok (.getfield 153, 3) := by decide +kernel
theorem dX7_benchMore_37 : decode cX7_benchMore 37 = .ok (.imul, 1) := by decide +kernel
theorem dX7_benchMore_38 : decode cX7_benchMore 38 = .ok (.iconst 2, 1) := by decide +kernel
theorem dX7_benchMore_39 : decode cX7_benchMore 39 = .ok (.iadd, 1) := by decide +kernel
theorem dX7_benchMore_40 : decode cX7_benchMore 40 = .ok (.iload_n 3, 1) := by decide +kernel
theorem dX7_benchMore_41 : decode cX7_benchMore 41 = .ok (.iastore, 1) := by decide +kernel
theorem dX7_benchMore_42 : decode cX7_benchMore 42 = .ok (.aload_n 0, 1) := by decide +kernel
theorem dX7_benchMore_43 : decode cX7_benchMore 43 = .ok (.getfield 32, 3) := by decide +kernel
theorem dX7_benchMore_46 : decode cX7_benchMore 46 = .ok (.iconst 4, 1) := by decide +kernel
theorem dX7_benchMore_47 : decode cX7_benchMore 47 = .ok (.aload_n 0, 1) := by decide +kernel
theorem dX7_benchMore_48 : decode cX7_benchMore 48 = .ok (.getfield 153, 3) := by decide +kernel
theorem dX7_benchMore_51 : decode cX7_benchMore 51 = .ok (.imul, 1) := by decide +kernel
theorem dX7_benchMore_52 : decode cX7_benchMore 52 = .ok (.iconst 3, 1) := by decide +kernel
theorem dX7_benchMore_53 : decode cX7_benchMore 53 = .ok (.iadd, 1) := by decide +kernel
theorem dX7_benchMore_54 : decode cX7_benchMore 54 = .ok (.iload 4, 2) := by decide +kernel
theorem dX7_benchMore_56 : decode cX7_benchMore 56 = .ok (.iastore, 1) := by decide +kernel
theorem dX7_benchMore_57 : decode cX7_benchMore 57 = .ok (.aload_n 0, 1) := by decide +kernel
theorem dX7_benchMore_58 : decode cX7_benchMore 58 = .ok (.dup, 1) := by decide +kernel
theorem dX7_benchMore_59 : decode cX7_benchMore 59 = .ok (.getfield 153, 3) := by decide +kernel
theorem dX7_benchMore_62 : decode cX7_benchMore 62 = .ok (.iconst 1, 1) := by decide +kernel
theorem dX7_benchMore_63 : decode cX7_benchMore 63 = .ok (.iadd, 1) := by decide +kernel
theorem dX7_benchMore_64 : decode cX7_benchMore 64 = .ok (.putfield 153, 3) := by decide +kernel
theorem dX7_benchMore_67 : decode cX7_benchMore 67 = .ok (.return_, 1) := by decide +kernel
theorem dX7_isBefore_0 : decode cX7_isBefore 0 = .ok (.aload_n 0, 1) := by decide +kernel
theorem dX7_isBefore_1 : decode cX7_isBefore 1 = .ok (.getfield 32, 3) := by decide +kernel
theorem dX7_isBefore_4 : decode cX7_isBefore 4 = .ok (.iconst 4, 1) := by decide +kernel
theorem dX7_isBefore_5 : decode cX7_isBefore 5 = .ok (.iload_n 1, 1) := by decide +kernel
theorem dX7_isBefore_6 : decode cX7_isBefore 6 = .ok (.imul, 1) := by decide +kernel
theorem dX7_isBefore_7 : decode cX7_isBefore 7 = .ok (.iconst 2, 1) := by decide +kernel
theorem dX7_isBefore_8 : decode cX7_isBefore 8 = .ok (.iadd, 1) := by decide +kernel
theorem dX7_isBefore_9 : decode cX7_isBefore 9 = .ok (.iaload, 1) := by decide +kernel
theorem dX7_isBefore_10 : decode cX7_isBefore 10 = .ok (.istore_n 3, 1) := by decide +kernel
theorem dX7_isBefore_11 : decode cX7_isBefore 11 = .ok (.aload_n 0, 1) := by decide +kernel
theorem dX7_isBefore_12 : decode cX7_isBefore 12 = .ok (.getfield 32, 3) := by decide +kernel
theorem dX7_isBefore_15 : decode cX7_isBefore 15 = .ok (.iconst 4, 1) := by decide +kernel
theorem dX7_isBefore_16 : decode cX7_isBefore 16 = .ok (.iload_n 2, 1) := by decide +kernel
theorem dX7_isBefore_17 : decode cX7_isBefore 17 = .ok (.imul, 1) := by decide +kernel
theorem dX7_isBefore_18 : decode cX7_isBefore 18 = .ok (.iconst 2, 1) := by decide +kernel
theorem dX7_isBefore_19 : decode cX7_isBefore 19 = .ok (.iadd, 1) := by decide +kernel
theorem dX7_isBefore_20 : decode cX7_isBefore 20 = .ok (.iaload, 1) := by decide +kernel
theorem dX7_isBefore_21 : decode cX7_isBefore 21 = .ok (.istore 4, 2) := by decide +kernel
theorem dX7_isBefore_23 : decode cX7_isBefore 23 = .ok (.aload_n 0, 1) := by decide +kernel
theorem dX7_isBefore_24 : decode cX7_isBefore 24 = .ok (.getfield 32, 3) := by decide +kernel
theorem dX7_isBefore_27 : decode cX7_isBefore 27 = .ok (.iconst 4, 1) := by decide +kernel
theorem dX7_isBefore_28 : decode cX7_isBefore 28 = .ok (.iload_n 1, 1) := by decide +kernel
theorem dX7_isBefore_29 : decode cX7_isBefore 29 = .ok (.imul, 1) := by decide +kernel
theorem dX7_isBefore_30 : decode cX7_isBefore 30 = .ok (.iconst 1, 1) := by decide +kernel
theorem dX7_isBefore_31 : decode cX7_isBefore 31 = .ok (.iadd, 1) := by decide +kernel
theorem dX7_isBefore_32 : decode cX7_isBefore 32 = .ok (.iaload, 1) := by decide +kernel
theorem dX7_isBefore_33 : decode cX7_isBefore 33 = .ok (.ifCond .ne 15, 3) := by decide +kernel
theorem dX7_isBefore_36 : decode cX7_isBefore 36 = .ok (.iload_n 3, 1) := by decide +kernel
theorem dX7_isBefore_37 : decode cX7_isBefore 37 = .ok (.iload 4, 2) := by decide +kernel
theorem dX7_isBefore_39 : decode cX7_isBefore 39 = .ok (.if_icmp .le 7, 3) := by decide +kernel
theorem dX7_isBefore_42 : decode cX7_isBefore 42 = .ok (.iconst 1, 1) := by decide +kernel
theorem dX7_isBefore_43 : decode cX7_isBefore 43 = .ok (.goto 4, 3) := by decide +kernel
theorem dX7_isBefore_46 : decode cX7_isBefore 46 = .ok (.iconst 0, 1) := by decide +kernel
theorem dX7_isBefore_47 : decode cX7_isBefore 47 = .ok (.ireturn, 1) := by decide +kernel
theorem dX7_isBefore_48 : decode cX7_isBefore 48 = .ok (.iload_n 3, 1) := by decide +kernel
theorem dX7_isBefore_49 : decode cX7_isBefore 49 = .ok (.iload 4, 2) := by decide +kernel
theorem dX7_isBefore_51 : decode cX7_isBefore 51 = .ok (.if_icmp .lt 32, 3) := by decide +kernel
theorem dX7_isBefore_54 : decode cX7_isBefore 54 = .ok (.iload_n 3, 1) := by decide +kernel
theorem dX7_isBefore_55 : decode cX7_isBefore 55 = .ok (.iload 4, 2) := by decide +kernel
theorem dX7_isBefore_57 : decode cX7_isBefore 57 = .ok (.if_icmp .ne 30, 3) := by decide +kernel
theorem dX7_isBefore_60 : decode cX7_isBefore 60 = .ok (.aload_n 0, 1) := by decide +kernel
theorem dX7_isBefore_61 : decode cX7_isBefore 61 = .ok (.getfield 32, 3) := by decide +kernel
theorem dX7_isBefore_64 : decode cX7_isBefore 64 = .ok (.iconst 4, 1) := by decide +kernel
theorem dX7_isBefore_65 : decode cX7_isBefore 65 = .ok (.iload_n 1, 1) := by decide +kernel
theorem dX7_isBefore_66 : decode cX7_isBefore 66 = .ok (.imul, 1) := by decide +kernel
theorem dX7_isBefore_67 : decode cX7_isBefore 67 = .ok (.iconst 1, 1) := by decide +kernel
theorem dX7_isBefore_68 : decode cX7_isBefore 68 = .ok (.iadd, 1) := by decide +kernel
theorem dX7_isBefore_69 : decode cX7_isBefore 69 = .ok (.iaload, 1) := by decide +kernel
theorem dX7_isBefore_70 : decode cX7_isBefore 70 = .ok (.aload_n 0, 1) := by decide +kernel
theorem dX7_isBefore_71 : decode cX7_isBefore 71 = .ok (.getfield 32, 3) := by decide +kernel
theorem dX7_isBefore_74 : decode cX7_isBefore 74 = .ok (.iconst 4, 1) := by decide +kernel
theorem dX7_isBefore_75 : decode cX7_isBefore 75 = .ok (.iload_n 2, 1) := by decide +kernel
theorem dX7_isBefore_76 : decode cX7_isBefore 76 = .ok (.imul, 1) := by decide +kernel
theorem dX7_isBefore_77 : decode cX7_isBefore 77 = .ok (.iconst 1, 1) := by decide +kernel
theorem dX7_isBefore_78 : decode cX7_isBefore 78 = .ok (.iadd, 1) := by decide +kernel
theorem dX7_isBefore_79 : decode cX7_isBefore 79 = .ok (.iaload, 1) := by decide +kernel
theorem dX7_isBefore_80 : decode cX7_isBefore 80 = .ok (.if_icmp .ge 7, 3) := by decide +kernel
theorem dX7_isBefore_83 : decode cX7_isBefore 83 = .ok (.iconst 1, 1) := by decide +kernel
theorem dX7_isBefore_84 : decode cX7_isBefore 84 = .ok (.goto 4, 3) := by decide +kernel
theorem dX7_isBefore_87 : decode cX7_isBefore 87 = .ok (.iconst 0, 1) := by decide +kernel
theorem dX7_isBefore_88 : decode cX7_isBefore 88 = .ok (.ireturn, 1) := by decide +kernel
theorem dX7_laySide_0 : decode cX7_laySide 0 = .ok (.iconst 0, 1) := by decide +kernel
theorem dX7_laySide_1 : decode cX7_laySide 1 = .ok (.istore_n 3, 1) := by decide +kernel
theorem dX7_laySide_2 : decode cX7_laySide 2 = .ok (.iconst 0, 1) := by decide +kernel
theorem dX7_laySide_3 : decode cX7_laySide 3 = .ok (.istore 4, 2) := by decide +kernel
theorem dX7_laySide_5 : decode cX7_laySide 5 = .ok (.iload 4, 2) := by decide +kernel
theorem dX7_laySide_7 : decode cX7_laySide 7 = .ok (.aload_n 0, 1) := by decide +kernel
theorem dX7_laySide_8 : decode cX7_laySide 8 = .ok (.getfield 153, 3) := by decide +kernel
theorem dX7_laySide_11 : decode cX7_laySide 11 = .ok (.if_icmp .ge 80, 3) := by decide +kernel
theorem dX7_laySide_14 : decode cX7_laySide 14 = .ok (.aload_n 0, 1) := by decide +kernel
theorem dX7_laySide_15 : decode cX7_laySide 15 = .ok (.getfield 32, 3) := by decide +kernel
theorem dX7_laySide_18 : decode cX7_laySide 18 = .ok (.iconst 4, 1) := by decide +kernel
theorem dX7_laySide_19 : decode cX7_laySide 19 = .ok (.iload 4, 2) := by decide +kernel
theorem dX7_laySide_21 : decode cX7_laySide 21 = .ok (.imul, 1) := by decide +kernel
theorem dX7_laySide_22 : decode cX7_laySide 22 = .ok (.iconst 1, 1) := by decide +kernel
theorem dX7_laySide_23 : decode cX7_laySide 23 = .ok (.iadd, 1) := by decide +kernel
theorem dX7_laySide_24 : decode cX7_laySide 24 = .ok (.iaload, 1) := by decide +kernel
theorem dX7_laySide_25 : decode cX7_laySide 25 = .ok (.ifCond .ne 7, 3) := by decide +kernel
theorem dX7_laySide_28 : decode cX7_laySide 28 = .ok (.iconst 1, 1) := by decide +kernel
theorem dX7_laySide_29 : decode cX7_laySide 29 = .ok (.goto 4, 3) := by decide +kernel
theorem dX7_laySide_32 : decode cX7_laySide 32 = .ok (.iconst 0, 1) := by decide +kernel
theorem dX7_laySide_33 : decode cX7_laySide 33 = .ok (.iload_n 2, 1) := by decide +kernel
theorem dX7_laySide_34 : decode cX7_laySide 34 = .ok (.if_icmp .ne 51, 3) := by decide +kernel
theorem dX7_laySide_37 : decode cX7_laySide 37 = .ok (.iload_n 3, 1) := by decide +kernel
theorem dX7_laySide_38 : decode cX7_laySide 38 = .ok (.istore 5, 2) := by decide +kernel
theorem dX7_laySide_40 : decode cX7_laySide 40 = .ok (.iload 5, 2) := by decide +kernel
theorem dX7_laySide_42 : decode cX7_laySide 42 = .ok (.ifCond .le 34, 3) := by decide +kernel
theorem dX7_laySide_45 : decode cX7_laySide 45 = .ok (.aload_n 0, 1) := by decide +kernel
theorem dX7_laySide_46 : decode cX7_laySide 46 = .ok (.iload 4, 2) := by decide +kernel
theorem dX7_laySide_48 : decode cX7_laySide 48 = .ok (.aload_n 1, 1) := by decide +kernel
theorem dX7_laySide_49 : decode cX7_laySide 49 = .ok (.iload 5, 2) := by decide +kernel
theorem dX7_laySide_51 : decode cX7_laySide 51 = .ok (.iconst 1, 1) := by decide +kernel
theorem dX7_laySide_52 : decode cX7_laySide 52 = .ok (.isub, 1) := by decide +kernel
theorem dX7_laySide_53 : decode cX7_laySide 53 = .ok (.iaload, 1) := by decide +kernel
theorem dX7_laySide_54 : decode cX7_laySide 54 = .ok (.invokevirtual 156, 3) := by decide +kernel
theorem dX7_laySide_57 : decode cX7_laySide 57 = .ok (.ifCond .eq 19, 3) := by decide +kernel
theorem dX7_laySide_60 : decode cX7_laySide 60 = .ok (.aload_n 1, 1) := by decide +kernel
theorem dX7_laySide_61 : decode cX7_laySide 61 = .ok (.iload 5, 2) := by decide +kernel
theorem dX7_laySide_63 : decode cX7_laySide 63 = .ok (.aload_n 1, 1) := by decide +kernel
theorem dX7_laySide_64 : decode cX7_laySide 64 = .ok (.iload 5, 2) := by decide +kernel
theorem dX7_laySide_66 : decode cX7_laySide 66 = .ok (.iconst 1, 1) := by decide +kernel
theorem dX7_laySide_67 : decode cX7_laySide 67 = .ok (.isub, 1) := by decide +kernel
theorem dX7_laySide_68 : decode cX7_laySide 68 = .ok (.iaload, 1) := by decide +kernel
theorem dX7_laySide_69 : decode cX7_laySide 69 = .ok (.iastore, 1) := by decide +kernel
theorem dX7_laySide_70 : decode cX7_laySide 70 = .ok (.iinc 5 (-1), 3) := by decide +kernel
theorem dX7_laySide_73 : decode cX7_laySide 73 = .ok (.goto (-33), 3) := by decide +kernel
theorem dX7_laySide_76 : decode cX7_laySide 76 = .ok (.aload_n 1, 1) := by decide +kernel
theorem dX7_laySide_77 : decode cX7_laySide 77 = .ok (.iload 5, 2) := by decide +kernel
theorem dX7_laySide_79 : decode cX7_laySide 79 = .ok (.iload 4, 2) := by decide +kernel
theorem dX7_laySide_81 : decode cX7_laySide 81 = .ok (.iastore, 1) := by decide +kernel
theorem dX7_laySide_82 : decode cX7_laySide 82 = .ok (.iinc 3 1, 3) := by decide +kernel
theorem dX7_laySide_85 : decode cX7_laySide 85 = .ok (.iinc 4 1, 3) := by decide +kernel
theorem dX7_laySide_88 : decode cX7_laySide 88 = .ok (.goto (-83), 3) := by decide +kernel
theorem dX7_laySide_91 : decode cX7_laySide 91 = .ok (.iload_n 3, 1) := by decide +kernel
theorem dX7_laySide_92 : decode cX7_laySide 92 = .ok (.ireturn, 1) := by decide +kernel
theorem dX7_match_0 : decode cX7_match 0 = .ok (.aload_n 0, 1) := by decide +kernel
theorem dX7_match_1 : decode cX7_match 1 = .ok (.aload_n 0, 1) := by decide +kernel
theorem dX7_match_2 : decode cX7_match 2 = .ok (.getfield 35, 3) := by decide +kernel
theorem dX7_match_5 : decode cX7_match 5 = .ok (.iconst 1, 1) := by decide +kernel
theorem dX7_match_6 : decode cX7_match 6 = .ok (.invokevirtual 160, 3) := by decide +kernel
theorem dX7_match_9 : decode cX7_match 9 = .ok (.istore_n 1, 1) := by decide +kernel
theorem dX7_match_10 : decode cX7_match 10 = .ok (.aload_n 0, 1) := by decide +kernel
theorem dX7_match_11 : decode cX7_match 11 = .ok (.aload_n 0, 1) := by decide +kernel
theorem dX7_match_12 : decode cX7_match 12 = .ok (.getfield 38, 3) := by decide +kernel
theorem dX7_match_15 : decode cX7_match 15 = .ok (.iconst 0, 1) := by decide +kernel
theorem dX7_match_16 : decode cX7_match 16 = .ok (.invokevirtual 160, 3) := by decide +kernel
theorem dX7_match_19 : decode cX7_match 19 = .ok (.istore_n 2, 1) := by decide +kernel
theorem dX7_match_20 : decode cX7_match 20 = .ok (.iconst 0, 1) := by decide +kernel
theorem dX7_match_21 : decode cX7_match 21 = .ok (.istore_n 3, 1) := by decide +kernel
theorem dX7_match_22 : decode cX7_match 22 = .ok (.iload_n 3, 1) := by decide +kernel
theorem dX7_match_23 : decode cX7_match 23 = .ok (.aload_n 0, 1) := by decide +kernel
theorem dX7_match_24 : decode cX7_match 24 = .ok (.getfield 153, 3) := by decide +kernel
theorem dX7_match_27 : decode cX7_match 27 = .ok (.if_icmp .ge 16, 3) := by decide +kernel
theorem dX7_match_30 : decode cX7_match 30 = .ok (.aload_n 0, 1) := by decide +kernel
theorem dX7_match_31 : decode cX7_match 31 = .ok (.getfield 41, 3) := by decide +kernel
theorem dX7_match_34 : decode cX7_match 34 = .ok (.iload_n 3, 1) := by decide +kernel
theorem dX7_match_35 : decode cX7_match 35 = .ok (.iconst 0, 1) := by decide +kernel
theorem dX7_match_36 : decode cX7_match 36 = .ok (.iastore, 1) := by decide +kernel
theorem dX7_match_37 : decode cX7_match 37 = .ok (.iinc 3 1, 3) := by decide +kernel
theorem dX7_match_40 : decode cX7_match 40 = .ok (.goto (-18), 3) := by decide +kernel
theorem dX7_match_43 : decode cX7_match 43 = .ok (.aload_n 0, 1) := by decide +kernel
theorem dX7_match_44 : decode cX7_match 44 = .ok (.iconst 0, 1) := by decide +kernel
theorem dX7_match_45 : decode cX7_match 45 = .ok (.putfield 164, 3) := by decide +kernel
theorem dX7_match_48 : decode cX7_match 48 = .ok (.aload_n 0, 1) := by decide +kernel
theorem dX7_match_49 : decode cX7_match 49 = .ok (.bipush (-9), 2) := by decide +kernel
theorem dX7_match_51 : decode cX7_match 51 = .ok (.putfield 167, 3) := by decide +kernel
theorem dX7_match_54 : decode cX7_match 54 = .ok (.aload_n 0, 1) := by decide +kernel
theorem dX7_match_55 : decode cX7_match 55 = .ok (.iconst 0, 1) := by decide +kernel
theorem dX7_match_56 : decode cX7_match 56 = .ok (.putfield 170, 3) := by decide +kernel
theorem dX7_match_59 : decode cX7_match 59 = .ok (.iconst 0, 1) := by decide +kernel
theorem dX7_match_60 : decode cX7_match 60 = .ok (.istore_n 3, 1) := by decide +kernel
theorem dX7_match_61 : decode cX7_match 61 = .ok (.iconst 0, 1) := by decide +kernel
theorem dX7_match_62 : decode cX7_match 62 = .ok (.istore 4, 2) := by decide +kernel
theorem dX7_match_64 : decode cX7_match 64 = .ok (.iload_n 3, 1) := by decide +kernel
theorem dX7_match_65 : decode cX7_match 65 = .ok (.iload_n 1, 1) := by decide +kernel
theorem dX7_match_66 : decode cX7_match 66 = .ok (.if_icmp .ge 245, 3) := by decide +kernel
theorem dX7_match_69 : decode cX7_match 69 = .ok (.iload 4, 2) := by decide +kernel
theorem dX7_match_71 : decode cX7_match 71 = .ok (.iload_n 2, 1) := by decide +kernel
theorem dX7_match_72 : decode cX7_match 72 = .ok (.if_icmp .ge 239, 3) := by decide +kernel
theorem dX7_match_75 : decode cX7_match 75 = .ok (.aload_n 0, 1) := by decide +kernel
theorem dX7_match_76 : decode cX7_match 76 = .ok (.getfield 32, 3) := by decide +kernel
theorem dX7_match_79 : decode cX7_match 79 = .ok (.iconst 4, 1) := by decide +kernel
theorem dX7_match_80 : decode cX7_match 80 = .ok (.aload_n 0, 1) := by decide +kernel
theorem dX7_match_81 : decode cX7_match 81 = .ok (.getfield 35, 3) := by decide +kernel
theorem dX7_match_84 : decode cX7_match 84 = .ok (.iload_n 3, 1) := by decide +kernel
theorem dX7_match_85 : decode cX7_match 85 = .ok (.iaload, 1) := by decide +kernel
theorem dX7_match_86 : decode cX7_match 86 = .ok (.imul, 1) := by decide +kernel
theorem dX7_match_87 : decode cX7_match 87 = .ok (.iconst 2, 1) := by decide +kernel
theorem dX7_match_88 : decode cX7_match 88 = .ok (.iadd, 1) := by decide +kernel
theorem dX7_match_89 : decode cX7_match 89 = .ok (.iaload, 1) := by decide +kernel
theorem dX7_match_90 : decode cX7_match 90 = .ok (.aload_n 0, 1) := by decide +kernel
theorem dX7_match_91 : decode cX7_match 91 = .ok (.getfield 32, 3) := by decide +kernel
theorem dX7_match_94 : decode cX7_match 94 = .ok (.iconst 4, 1) := by decide +kernel
theorem dX7_match_95 : decode cX7_match 95 = .ok (.aload_n 0, 1) := by decide +kernel
theorem dX7_match_96 : decode cX7_match 96 = .ok (.getfield 38, 3) := by decide +kernel
theorem dX7_match_99 : decode cX7_match 99 = .ok (.iload 4, 2) := by decide +kernel
theorem dX7_match_101 : decode cX7_match 101 = .ok (.iaload, 1) := by decide +kernel
theorem dX7_match_102 : decode cX7_match 102 = .ok (.imul, 1) := by decide +kernel
theorem dX7_match_103 : decode cX7_match 103 = .ok (.iconst 2, 1) := by decide +kernel
theorem dX7_match_104 : decode cX7_match 104 = .ok (.iadd, 1) := by decide +kernel
theorem dX7_match_105 : decode cX7_match 105 = .ok (.iaload, 1) := by decide +kernel
theorem dX7_match_106 : decode cX7_match 106 = .ok (.if_icmp .lt 205, 3) := by decide +kernel
theorem dX7_match_109 : decode cX7_match 109 = .ok (.aload_n 0, 1) := by decide +kernel
theorem dX7_match_110 : decode cX7_match 110 = .ok (.getfield 35, 3) := by decide +kernel
theorem dX7_match_113 : decode cX7_match 113 = .ok (.iload_n 3, 1) := by decide +kernel
theorem dX7_match_114 : decode cX7_match 114 = .ok (.iaload, 1) := by decide +kernel
theorem dX7_match_115 : decode cX7_match 115 = .ok (.istore 5, 2) := by decide +kernel
theorem dX7_match_117 : decode cX7_match 117 = .ok (.aload_n 0, 1) := by decide +kernel
theorem dX7_match_118 : decode cX7_match 118 = .ok (.getfield 38, 3) := by decide +kernel
theorem dX7_match_121 : decode cX7_match 121 = .ok (.iload 4, 2) := by decide +kernel
theorem dX7_match_123 : decode cX7_match 123 = .ok (.iaload, 1) := by decide +kernel
theorem dX7_match_124 : decode cX7_match 124 = .ok (.istore 6, 2) := by decide +kernel
theorem dX7_match_126 : decode cX7_match 126 = .ok (.aload_n 0, 1) := by decide +kernel
theorem dX7_match_127 : decode cX7_match 127 = .ok (.getfield 32, 3) := by decide +kernel
theorem dX7_match_130 : decode cX7_match 130 = .ok (.iconst 4, 1) := by decide +kernel
theorem dX7_match_131 : decode cX7_match 131 = .ok (.iload 5, 2) := by decide +kernel
theorem dX7_match_133 : decode cX7_match 133 = .ok (.imul, 1) := by decide +kernel
theorem dX7_match_134 : decode cX7_match 134 = .ok (.iconst 3, 1) := by decide +kernel
theorem dX7_match_135 : decode cX7_match 135 = .ok (.iadd, 1) := by decide +kernel
theorem dX7_match_136 : decode cX7_match 136 = .ok (.iaload, 1) := by decide +kernel
theorem dX7_match_137 : decode cX7_match 137 = .ok (.aload_n 0, 1) := by decide +kernel
theorem dX7_match_138 : decode cX7_match 138 = .ok (.getfield 41, 3) := by decide +kernel
theorem dX7_match_141 : decode cX7_match 141 = .ok (.iload 5, 2) := by decide +kernel
theorem dX7_match_143 : decode cX7_match 143 = .ok (.iaload, 1) := by decide +kernel
theorem dX7_match_144 : decode cX7_match 144 = .ok (.isub, 1) := by decide +kernel
theorem dX7_match_145 : decode cX7_match 145 = .ok (.istore 7, 2) := by decide +kernel
theorem dX7_match_147 : decode cX7_match 147 = .ok (.aload_n 0, 1) := by decide +kernel
theorem dX7_match_148 : decode cX7_match 148 = .ok (.getfield 32, 3) := by decide +kernel
theorem dX7_match_151 : decode cX7_match 151 = .ok (.iconst 4, 1) := by decide +kernel
theorem dX7_match_152 : decode cX7_match 152 = .ok (.iload 6, 2) := by decide +kernel
theorem dX7_match_154 : decode cX7_match 154 = .ok (.imul, 1) := by decide +kernel
theorem dX7_match_155 : decode cX7_match 155 = .ok (.iconst 3, 1) := by decide +kernel
theorem dX7_match_156 : decode cX7_match 156 = .ok (.iadd, 1) := by decide +kernel
theorem dX7_match_157 : decode cX7_match 157 = .ok (.iaload, 1) := by decide +kernel
theorem dX7_match_158 : decode cX7_match 158 = .ok (.aload_n 0, 1) := by decide +kernel
theorem dX7_match_159 : decode cX7_match 159 = .ok (.getfield 41, 3) := by decide +kernel
theorem dX7_match_162 : decode cX7_match 162 = .ok (.iload 6, 2) := by decide +kernel
theorem dX7_match_164 : decode cX7_match 164 = .ok (.iaload, 1) := by decide +kernel
theorem dX7_match_165 : decode cX7_match 165 = .ok (.isub, 1) := by decide +kernel
theorem dX7_match_166 : decode cX7_match 166 = .ok (.istore 8, 2) := by decide +kernel
theorem dX7_match_168 : decode cX7_match 168 = .ok (.iload 7, 2) := by decide +kernel
theorem dX7_match_170 : decode cX7_match 170 = .ok (.iload 8, 2) := by decide +kernel
theorem dX7_match_172 : decode cX7_match 172 = .ok (.invokestatic 115, 3) := by decide +kernel
theorem dX7_match_175 : decode cX7_match 175 = .ok (.istore 9, 2) := by decide +kernel
theorem dX7_match_177 : decode cX7_match 177 = .ok (.aload_n 0, 1) := by decide +kernel
theorem dX7_match_178 : decode cX7_match 178 = .ok (.getfield 41, 3) := by decide +kernel
theorem dX7_match_181 : decode cX7_match 181 = .ok (.iload 5, 2) := by decide +kernel
theorem dX7_match_183 : decode cX7_match 183 = .ok (.dup2, 1) := by decide +kernel
theorem dX7_match_184 : decode cX7_match 184 = .ok (.iaload, 1) := by decide +kernel
theorem dX7_match_185 : decode cX7_match 185 = .ok (.iload 9, 2) := by decide +kernel
theorem dX7_match_187 : decode cX7_match 187 = .ok (.iadd, 1) := by decide +kernel
theorem dX7_match_188 : decode cX7_match 188 = .ok (.iastore, 1) := by decide +kernel
theorem dX7_match_189 : decode cX7_match 189 = .ok (.aload_n 0, 1) := by decide +kernel
theorem dX7_match_190 : decode cX7_match 190 = .ok (.getfield 41, 3) := by decide +kernel
theorem dX7_match_193 : decode cX7_match 193 = .ok (.iload 6, 2) := by decide +kernel
theorem dX7_match_195 : decode cX7_match 195 = .ok (.dup2, 1) := by decide +kernel
theorem dX7_match_196 : decode cX7_match 196 = .ok (.iaload, 1) := by decide +kernel
theorem dX7_match_197 : decode cX7_match 197 = .ok (.iload 9, 2) := by decide +kernel
theorem dX7_match_199 : decode cX7_match 199 = .ok (.iadd, 1) := by decide +kernel
theorem dX7_match_200 : decode cX7_match 200 = .ok (.iastore, 1) := by decide +kernel
theorem dX7_match_201 : decode cX7_match 201 = .ok (.aload_n 0, 1) := by decide +kernel
theorem dX7_match_202 : decode cX7_match 202 = .ok (.dup, 1) := by decide +kernel
theorem dX7_match_203 : decode cX7_match 203 = .ok (.getfield 164, 3) := by decide +kernel
theorem dX7_match_206 : decode cX7_match 206 = .ok (.iload 9, 2) := by decide +kernel
theorem dX7_match_208 : decode cX7_match 208 = .ok (.iadd, 1) := by decide +kernel
theorem dX7_match_209 : decode cX7_match 209 = .ok (.putfield 164, 3) := by decide +kernel
theorem dX7_match_212 : decode cX7_match 212 = .ok (.aload_n 0, 1) := by decide +kernel
theorem dX7_match_213 : decode cX7_match 213 = .ok (.dup, 1) := by decide +kernel
theorem dX7_match_214 : decode cX7_match 214 = .ok (.getfield 170, 3) := by decide +kernel
theorem dX7_match_217 : decode cX7_match 217 = .ok (.iload 9, 2) := by decide +kernel
theorem dX7_match_219 : decode cX7_match 219 = .ok (.aload_n 0, 1) := by decide +kernel
theorem dX7_match_220 : decode cX7_match 220 = .ok (.getfield 32, 3) := by decide +kernel
theorem dX7_match_223 : decode cX7_match 223 = .ok (.iconst 4, 1) := by decide +kernel
theorem dX7_match_224 : decode cX7_match 224 = .ok (.iload 5, 2) := by decide +kernel
theorem dX7_match_226 : decode cX7_match 226 = .ok (.imul, 1) := by decide +kernel
theorem dX7_match_227 : decode cX7_match 227 = .ok (.iconst 2, 1) := by decide +kernel
theorem dX7_match_228 : decode cX7_match 228 = .ok (.iadd, 1) := by decide +kernel
theorem dX7_match_229 : decode cX7_match 229 = .ok (.iaload, 1) := by decide +kernel
theorem dX7_match_230 : decode cX7_match 230 = .ok (.aload_n 0, 1) := by decide +kernel
theorem dX7_match_231 : decode cX7_match 231 = .ok (.getfield 32, 3) := by decide +kernel
theorem dX7_match_234 : decode cX7_match 234 = .ok (.iconst 4, 1) := by decide +kernel
theorem dX7_match_235 : decode cX7_match 235 = .ok (.iload 6, 2) := by decide +kernel
theorem dX7_match_237 : decode cX7_match 237 = .ok (.imul, 1) := by decide +kernel
theorem dX7_match_238 : decode cX7_match 238 = .ok (.iconst 2, 1) := by decide +kernel
theorem dX7_match_239 : decode cX7_match 239 = .ok (.iadd, 1) := by decide +kernel
theorem dX7_match_240 : decode cX7_match 240 = .ok (.iaload, 1) := by decide +kernel
theorem dX7_match_241 : decode cX7_match 241 = .ok (.isub, 1) := by decide +kernel
theorem dX7_match_242 : decode cX7_match 242 = .ok (.imul, 1) := by decide +kernel
theorem dX7_match_243 : decode cX7_match 243 = .ok (.iadd, 1) := by decide +kernel
theorem dX7_match_244 : decode cX7_match 244 = .ok (.putfield 170, 3) := by decide +kernel
theorem dX7_match_247 : decode cX7_match 247 = .ok (.aload_n 0, 1) := by decide +kernel
theorem dX7_match_248 : decode cX7_match 248 = .ok (.aload_n 0, 1) := by decide +kernel
theorem dX7_match_249 : decode cX7_match 249 = .ok (.getfield 32, 3) := by decide +kernel
theorem dX7_match_252 : decode cX7_match 252 = .ok (.iconst 4, 1) := by decide +kernel
theorem dX7_match_253 : decode cX7_match 253 = .ok (.iload 5, 2) := by decide +kernel
theorem dX7_match_255 : decode cX7_match 255 = .ok (.imul, 1) := by decide +kernel
theorem dX7_match_256 : decode cX7_match 256 = .ok (.iconst 2, 1) := by decide +kernel
theorem dX7_match_257 : decode cX7_match 257 = .ok (.iadd, 1) := by decide +kernel
theorem dX7_match_258 : decode cX7_match 258 = .ok (.iaload, 1) := by decide +kernel
theorem dX7_match_259 : decode cX7_match 259 = .ok (.aload_n 0, 1) := by decide +kernel
theorem dX7_match_260 : decode cX7_match 260 = .ok (.getfield 32, 3) := by decide +kernel
theorem dX7_match_263 : decode cX7_match 263 = .ok (.iconst 4, 1) := by decide +kernel
theorem dX7_match_264 : decode cX7_match 264 = .ok (.iload 6, 2) := by decide +kernel
theorem dX7_match_266 : decode cX7_match 266 = .ok (.imul, 1) := by decide +kernel
theorem dX7_match_267 : decode cX7_match 267 = .ok (.iconst 2, 1) := by decide +kernel
theorem dX7_match_268 : decode cX7_match 268 = .ok (.iadd, 1) := by decide +kernel
theorem dX7_match_269 : decode cX7_match 269 = .ok (.iaload, 1) := by decide +kernel
theorem dX7_match_270 : decode cX7_match 270 = .ok (.iadd, 1) := by decide +kernel
theorem dX7_match_271 : decode cX7_match 271 = .ok (.iconst 2, 1) := by decide +kernel
theorem dX7_match_272 : decode cX7_match 272 = .ok (.idiv, 1) := by decide +kernel
theorem dX7_match_273 : decode cX7_match 273 = .ok (.putfield 167, 3) := by decide +kernel
theorem dX7_match_276 : decode cX7_match 276 = .ok (.iload_n 3, 1) := by decide +kernel
theorem dX7_match_277 : decode cX7_match 277 = .ok (.iload 9, 2) := by decide +kernel
theorem dX7_match_279 : decode cX7_match 279 = .ok (.iload 7, 2) := by decide +kernel
theorem dX7_match_281 : decode cX7_match 281 = .ok (.if_icmp .ne 7, 3) := by decide +kernel
theorem dX7_match_284 : decode cX7_match 284 = .ok (.iconst 1, 1) := by decide +kernel
theorem dX7_match_285 : decode cX7_match 285 = .ok (.goto 4, 3) := by decide +kernel
theorem dX7_match_288 : decode cX7_match 288 = .ok (.iconst 0, 1) := by decide +kernel
theorem dX7_match_289 : decode cX7_match 289 = .ok (.iadd, 1) := by decide +kernel
theorem dX7_match_290 : decode cX7_match 290 = .ok (.istore_n 3, 1) := by decide +kernel
theorem dX7_match_291 : decode cX7_match 291 = .ok (.iload 4, 2) := by decide +kernel
theorem dX7_match_293 : decode cX7_match 293 = .ok (.iload 9, 2) := by decide +kernel
theorem dX7_match_295 : decode cX7_match 295 = .ok (.iload 8, 2) := by decide +kernel
theorem dX7_match_297 : decode cX7_match 297 = .ok (.if_icmp .ne 7, 3) := by decide +kernel
theorem dX7_match_300 : decode cX7_match 300 = .ok (.iconst 1, 1) := by decide +kernel
theorem dX7_match_301 : decode cX7_match 301 = .ok (.goto 4, 3) := by decide +kernel
theorem dX7_match_304 : decode cX7_match 304 = .ok (.iconst 0, 1) := by decide +kernel
theorem dX7_match_305 : decode cX7_match 305 = .ok (.iadd, 1) := by decide +kernel
theorem dX7_match_306 : decode cX7_match 306 = .ok (.istore 4, 2) := by decide +kernel
theorem dX7_match_308 : decode cX7_match 308 = .ok (.goto (-244), 3) := by decide +kernel
theorem dX7_match_311 : decode cX7_match 311 = .ok (.return_, 1) := by decide +kernel
theorem dX7_removeOrder_0 : decode cX7_removeOrder 0 = .ok (.aload_n 0, 1) := by decide +kernel
theorem dX7_removeOrder_1 : decode cX7_removeOrder 1 = .ok (.bipush 8, 2) := by decide +kernel
theorem dX7_removeOrder_3 : decode cX7_removeOrder 3 = .ok (.dup2, 1) := by decide +kernel
theorem dX7_removeOrder_4 : decode cX7_removeOrder 4 = .ok (.iaload, 1) := by decide +kernel
theorem dX7_removeOrder_5 : decode cX7_removeOrder 5 = .ok (.iconst 1, 1) := by decide +kernel
theorem dX7_removeOrder_6 : decode cX7_removeOrder 6 = .ok (.isub, 1) := by decide +kernel
theorem dX7_removeOrder_7 : decode cX7_removeOrder 7 = .ok (.iastore, 1) := by decide +kernel
theorem dX7_removeOrder_8 : decode cX7_removeOrder 8 = .ok (.iload_n 1, 1) := by decide +kernel
theorem dX7_removeOrder_9 : decode cX7_removeOrder 9 = .ok (.invokestatic 119, 3) := by decide +kernel
theorem dX7_removeOrder_12 : decode cX7_removeOrder 12 = .ok (.istore_n 2, 1) := by decide +kernel
theorem dX7_removeOrder_13 : decode cX7_removeOrder 13 = .ok (.iload_n 2, 1) := by decide +kernel
theorem dX7_removeOrder_14 : decode cX7_removeOrder 14 = .ok (.aload_n 0, 1) := by decide +kernel
theorem dX7_removeOrder_15 : decode cX7_removeOrder 15 = .ok (.bipush 8, 2) := by decide +kernel
theorem dX7_removeOrder_17 : decode cX7_removeOrder 17 = .ok (.iaload, 1) := by decide +kernel
theorem dX7_removeOrder_18 : decode cX7_removeOrder 18 = .ok (.invokestatic 119, 3) := by decide +kernel
theorem dX7_removeOrder_21 : decode cX7_removeOrder 21 = .ok (.if_icmp .ge 17, 3) := by decide +kernel
theorem dX7_removeOrder_24 : decode cX7_removeOrder 24 = .ok (.aload_n 0, 1) := by decide +kernel
theorem dX7_removeOrder_25 : decode cX7_removeOrder 25 = .ok (.iload_n 2, 1) := by decide +kernel
theorem dX7_removeOrder_26 : decode cX7_removeOrder 26 = .ok (.aload_n 0, 1) := by decide +kernel
theorem dX7_removeOrder_27 : decode cX7_removeOrder 27 = .ok (.iload_n 2, 1) := by decide +kernel
theorem dX7_removeOrder_28 : decode cX7_removeOrder 28 = .ok (.iconst 4, 1) := by decide +kernel
theorem dX7_removeOrder_29 : decode cX7_removeOrder 29 = .ok (.iadd, 1) := by decide +kernel
theorem dX7_removeOrder_30 : decode cX7_removeOrder 30 = .ok (.iaload, 1) := by decide +kernel
theorem dX7_removeOrder_31 : decode cX7_removeOrder 31 = .ok (.iastore, 1) := by decide +kernel
theorem dX7_removeOrder_32 : decode cX7_removeOrder 32 = .ok (.iinc 2 1, 3) := by decide +kernel
theorem dX7_removeOrder_35 : decode cX7_removeOrder 35 = .ok (.goto (-22), 3) := by decide +kernel
theorem dX7_removeOrder_38 : decode cX7_removeOrder 38 = .ok (.iconst 0, 1) := by decide +kernel
theorem dX7_removeOrder_39 : decode cX7_removeOrder 39 = .ok (.istore_n 2, 1) := by decide +kernel
theorem dX7_removeOrder_40 : decode cX7_removeOrder 40 = .ok (.iload_n 2, 1) := by decide +kernel
theorem dX7_removeOrder_41 : decode cX7_removeOrder 41 = .ok (.iconst 4, 1) := by decide +kernel
theorem dX7_removeOrder_42 : decode cX7_removeOrder 42 = .ok (.if_icmp .ge 21, 3) := by decide +kernel
theorem dX7_removeOrder_45 : decode cX7_removeOrder 45 = .ok (.aload_n 0, 1) := by decide +kernel
theorem dX7_removeOrder_46 : decode cX7_removeOrder 46 = .ok (.aload_n 0, 1) := by decide +kernel
theorem dX7_removeOrder_47 : decode cX7_removeOrder 47 = .ok (.bipush 8, 2) := by decide +kernel
theorem dX7_removeOrder_49 : decode cX7_removeOrder 49 = .ok (.iaload, 1) := by decide +kernel
theorem dX7_removeOrder_50 : decode cX7_removeOrder 50 = .ok (.invokestatic 119, 3) := by decide +kernel
theorem dX7_removeOrder_53 : decode cX7_removeOrder 53 = .ok (.iload_n 2, 1) := by decide +kernel
theorem dX7_removeOrder_54 : decode cX7_removeOrder 54 = .ok (.iadd, 1) := by decide +kernel
theorem dX7_removeOrder_55 : decode cX7_removeOrder 55 = .ok (.iconst 0, 1) := by decide +kernel
theorem dX7_removeOrder_56 : decode cX7_removeOrder 56 = .ok (.iastore, 1) := by decide +kernel
theorem dX7_removeOrder_57 : decode cX7_removeOrder 57 = .ok (.iinc 2 1, 3) := by decide +kernel
theorem dX7_removeOrder_60 : decode cX7_removeOrder 60 = .ok (.goto (-20), 3) := by decide +kernel
theorem dX7_removeOrder_63 : decode cX7_removeOrder 63 = .ok (.return_, 1) := by decide +kernel
theorem dX7_withdrawFrom_0 : decode cX7_withdrawFrom 0 = .ok (.iload_n 1, 1) := by decide +kernel
theorem dX7_withdrawFrom_1 : decode cX7_withdrawFrom 1 = .ok (.invokestatic 119, 3) := by decide +kernel
theorem dX7_withdrawFrom_4 : decode cX7_withdrawFrom 4 = .ok (.istore_n 2, 1) := by decide +kernel
theorem dX7_withdrawFrom_5 : decode cX7_withdrawFrom 5 = .ok (.aload_n 0, 1) := by decide +kernel
theorem dX7_withdrawFrom_6 : decode cX7_withdrawFrom 6 = .ok (.iload_n 2, 1) := by decide +kernel
theorem dX7_withdrawFrom_7 : decode cX7_withdrawFrom 7 = .ok (.iconst 0, 1) := by decide +kernel
theorem dX7_withdrawFrom_8 : decode cX7_withdrawFrom 8 = .ok (.iadd, 1) := by decide +kernel
theorem dX7_withdrawFrom_9 : decode cX7_withdrawFrom 9 = .ok (.iaload, 1) := by decide +kernel
theorem dX7_withdrawFrom_10 : decode cX7_withdrawFrom 10 = .ok (.invokestatic 90, 3) := by decide +kernel
theorem dX7_withdrawFrom_13 : decode cX7_withdrawFrom 13 = .ok (.istore_n 3, 1) := by decide +kernel
theorem dX7_withdrawFrom_14 : decode cX7_withdrawFrom 14 = .ok (.aload_n 0, 1) := by decide +kernel
theorem dX7_withdrawFrom_15 : decode cX7_withdrawFrom 15 = .ok (.iload_n 3, 1) := by decide +kernel
theorem dX7_withdrawFrom_16 : decode cX7_withdrawFrom 16 = .ok (.iconst 4, 1) := by decide +kernel
theorem dX7_withdrawFrom_17 : decode cX7_withdrawFrom 17 = .ok (.iadd, 1) := by decide +kernel
theorem dX7_withdrawFrom_18 : decode cX7_withdrawFrom 18 = .ok (.dup2, 1) := by decide +kernel
theorem dX7_withdrawFrom_19 : decode cX7_withdrawFrom 19 = .ok (.iaload, 1) := by decide +kernel
theorem dX7_withdrawFrom_20 : decode cX7_withdrawFrom 20 = .ok (.aload_n 0, 1) := by decide +kernel
theorem dX7_withdrawFrom_21 : decode cX7_withdrawFrom 21 = .ok (.iload_n 2, 1) := by decide +kernel
theorem dX7_withdrawFrom_22 : decode cX7_withdrawFrom 22 = .ok (.iconst 1, 1) := by decide +kernel
theorem dX7_withdrawFrom_23 : decode cX7_withdrawFrom 23 = .ok (.iadd, 1) := by decide +kernel
theorem dX7_withdrawFrom_24 : decode cX7_withdrawFrom 24 = .ok (.iaload, 1) := by decide +kernel
theorem dX7_withdrawFrom_25 : decode cX7_withdrawFrom 25 = .ok (.ifCond .ne 17, 3) := by decide +kernel
theorem dX7_withdrawFrom_28 : decode cX7_withdrawFrom 28 = .ok (.aload_n 0, 1) := by decide +kernel
theorem dX7_withdrawFrom_29 : decode cX7_withdrawFrom 29 = .ok (.iload_n 2, 1) := by decide +kernel
theorem dX7_withdrawFrom_30 : decode cX7_withdrawFrom 30 = .ok (.iconst 2, 1) := by decide +kernel
theorem dX7_withdrawFrom_31 : decode cX7_withdrawFrom 31 = .ok (.iadd, 1) := by decide +kernel
theorem dX7_withdrawFrom_32 : decode cX7_withdrawFrom 32 = .ok (.iaload, 1) := by decide +kernel
theorem dX7_withdrawFrom_33 : decode cX7_withdrawFrom 33 = .ok (.aload_n 0, 1) := by decide +kernel
theorem dX7_withdrawFrom_34 : decode cX7_withdrawFrom 34 = .ok (.iload_n 2, 1) := by decide +kernel
theorem dX7_withdrawFrom_35 : decode cX7_withdrawFrom 35 = .ok (.iconst 3, 1) := by decide +kernel
theorem dX7_withdrawFrom_36 : decode cX7_withdrawFrom 36 = .ok (.iadd, 1) := by decide +kernel
theorem dX7_withdrawFrom_37 : decode cX7_withdrawFrom 37 = .ok (.iaload, 1) := by decide +kernel
theorem dX7_withdrawFrom_38 : decode cX7_withdrawFrom 38 = .ok (.imul, 1) := by decide +kernel
theorem dX7_withdrawFrom_39 : decode cX7_withdrawFrom 39 = .ok (.goto 4, 3) := by decide +kernel
theorem dX7_withdrawFrom_42 : decode cX7_withdrawFrom 42 = .ok (.iconst 0, 1) := by decide +kernel
theorem dX7_withdrawFrom_43 : decode cX7_withdrawFrom 43 = .ok (.iadd, 1) := by decide +kernel
theorem dX7_withdrawFrom_44 : decode cX7_withdrawFrom 44 = .ok (.iastore, 1) := by decide +kernel
theorem dX7_withdrawFrom_45 : decode cX7_withdrawFrom 45 = .ok (.aload_n 0, 1) := by decide +kernel
theorem dX7_withdrawFrom_46 : decode cX7_withdrawFrom 46 = .ok (.iload_n 3, 1) := by decide +kernel
theorem dX7_withdrawFrom_47 : decode cX7_withdrawFrom 47 = .ok (.iconst 3, 1) := by decide +kernel
theorem dX7_withdrawFrom_48 : decode cX7_withdrawFrom 48 = .ok (.iadd, 1) := by decide +kernel
theorem dX7_withdrawFrom_49 : decode cX7_withdrawFrom 49 = .ok (.dup2, 1) := by decide +kernel
theorem dX7_withdrawFrom_50 : decode cX7_withdrawFrom 50 = .ok (.iaload, 1) := by decide +kernel
theorem dX7_withdrawFrom_51 : decode cX7_withdrawFrom 51 = .ok (.aload_n 0, 1) := by decide +kernel
theorem dX7_withdrawFrom_52 : decode cX7_withdrawFrom 52 = .ok (.iload_n 2, 1) := by decide +kernel
theorem dX7_withdrawFrom_53 : decode cX7_withdrawFrom 53 = .ok (.iconst 1, 1) := by decide +kernel
theorem dX7_withdrawFrom_54 : decode cX7_withdrawFrom 54 = .ok (.iadd, 1) := by decide +kernel
theorem dX7_withdrawFrom_55 : decode cX7_withdrawFrom 55 = .ok (.iaload, 1) := by decide +kernel
theorem dX7_withdrawFrom_56 : decode cX7_withdrawFrom 56 = .ok (.iconst 1, 1) := by decide +kernel
theorem dX7_withdrawFrom_57 : decode cX7_withdrawFrom 57 = .ok (.if_icmp .ne 11, 3) := by decide +kernel
theorem dX7_withdrawFrom_60 : decode cX7_withdrawFrom 60 = .ok (.aload_n 0, 1) := by decide +kernel
theorem dX7_withdrawFrom_61 : decode cX7_withdrawFrom 61 = .ok (.iload_n 2, 1) := by decide +kernel
theorem dX7_withdrawFrom_62 : decode cX7_withdrawFrom 62 = .ok (.iconst 3, 1) := by decide +kernel
theorem dX7_withdrawFrom_63 : decode cX7_withdrawFrom 63 = .ok (.iadd, 1) := by decide +kernel
theorem dX7_withdrawFrom_64 : decode cX7_withdrawFrom 64 = .ok (.iaload, 1) := by decide +kernel
theorem dX7_withdrawFrom_65 : decode cX7_withdrawFrom 65 = .ok (.goto 4, 3) := by decide +kernel
theorem dX7_withdrawFrom_68 : decode cX7_withdrawFrom 68 = .ok (.iconst 0, 1) := by decide +kernel
theorem dX7_withdrawFrom_69 : decode cX7_withdrawFrom 69 = .ok (.iadd, 1) := by decide +kernel
theorem dX7_withdrawFrom_70 : decode cX7_withdrawFrom 70 = .ok (.iastore, 1) := by decide +kernel
theorem dX7_withdrawFrom_71 : decode cX7_withdrawFrom 71 = .ok (.aload_n 0, 1) := by decide +kernel
theorem dX7_withdrawFrom_72 : decode cX7_withdrawFrom 72 = .ok (.iload_n 1, 1) := by decide +kernel
theorem dX7_withdrawFrom_73 : decode cX7_withdrawFrom 73 = .ok (.invokestatic 173, 3) := by decide +kernel
theorem dX7_withdrawFrom_76 : decode cX7_withdrawFrom 76 = .ok (.return_, 1) := by decide +kernel
theorem dX7_settle_0 : decode cX7_settle 0 = .ok (.iload_n 2, 1) := by decide +kernel
theorem dX7_settle_1 : decode cX7_settle 1 = .ok (.invokestatic 119, 3) := by decide +kernel
theorem dX7_settle_4 : decode cX7_settle 4 = .ok (.istore_n 3, 1) := by decide +kernel
theorem dX7_settle_5 : decode cX7_settle 5 = .ok (.aload_n 1, 1) := by decide +kernel
theorem dX7_settle_6 : decode cX7_settle 6 = .ok (.iload_n 3, 1) := by decide +kernel
theorem dX7_settle_7 : decode cX7_settle 7 = .ok (.iconst 0, 1) := by decide +kernel
theorem dX7_settle_8 : decode cX7_settle 8 = .ok (.iadd, 1) := by decide +kernel
theorem dX7_settle_9 : decode cX7_settle 9 = .ok (.iaload, 1) := by decide +kernel
theorem dX7_settle_10 : decode cX7_settle 10 = .ok (.invokestatic 90, 3) := by decide +kernel
theorem dX7_settle_13 : decode cX7_settle 13 = .ok (.istore 4, 2) := by decide +kernel
theorem dX7_settle_15 : decode cX7_settle 15 = .ok (.aload_n 0, 1) := by decide +kernel
theorem dX7_settle_16 : decode cX7_settle 16 = .ok (.getfield 41, 3) := by decide +kernel
theorem dX7_settle_19 : decode cX7_settle 19 = .ok (.iload_n 2, 1) := by decide +kernel
theorem dX7_settle_20 : decode cX7_settle 20 = .ok (.iaload, 1) := by decide +kernel
theorem dX7_settle_21 : decode cX7_settle 21 = .ok (.istore 5, 2) := by decide +kernel
theorem dX7_settle_23 : decode cX7_settle 23 = .ok (.aload_n 1, 1) := by decide +kernel
theorem dX7_settle_24 : decode cX7_settle 24 = .ok (.iload_n 3, 1) := by decide +kernel
theorem dX7_settle_25 : decode cX7_settle 25 = .ok (.iconst 1, 1) := by decide +kernel
theorem dX7_settle_26 : decode cX7_settle 26 = .ok (.iadd, 1) := by decide +kernel
theorem dX7_settle_27 : decode cX7_settle 27 = .ok (.iaload, 1) := by decide +kernel
theorem dX7_settle_28 : decode cX7_settle 28 = .ok (.ifCond .ne 39, 3) := by decide +kernel
theorem dX7_settle_31 : decode cX7_settle 31 = .ok (.aload_n 1, 1) := by decide +kernel
theorem dX7_settle_32 : decode cX7_settle 32 = .ok (.iload 4, 2) := by decide +kernel
theorem dX7_settle_34 : decode cX7_settle 34 = .ok (.iconst 3, 1) := by decide +kernel
theorem dX7_settle_35 : decode cX7_settle 35 = .ok (.iadd, 1) := by decide +kernel
theorem dX7_settle_36 : decode cX7_settle 36 = .ok (.dup2, 1) := by decide +kernel
theorem dX7_settle_37 : decode cX7_settle 37 = .ok (.iaload, 1) := by decide +kernel
theorem dX7_settle_38 : decode cX7_settle 38 = .ok (.iload 5, 2) := by decide +kernel
theorem dX7_settle_40 : decode cX7_settle 40 = .ok (.iadd, 1) := by decide +kernel
theorem dX7_settle_41 : decode cX7_settle 41 = .ok (.iastore, 1) := by decide +kernel
theorem dX7_settle_42 : decode cX7_settle 42 = .ok (.aload_n 1, 1) := by decide +kernel
theorem dX7_settle_43 : decode cX7_settle 43 = .ok (.iload 4, 2) := by decide +kernel
theorem dX7_settle_45 : decode cX7_settle 45 = .ok (.iconst 4, 1) := by decide +kernel
theorem dX7_settle_46 : decode cX7_settle 46 = .ok (.iadd, 1) := by decide +kernel
theorem dX7_settle_47 : decode cX7_settle 47 = .ok (.dup2, 1) := by decide +kernel
theorem dX7_settle_48 : decode cX7_settle 48 = .ok (.iaload, 1) := by decide +kernel
theorem dX7_settle_49 : decode cX7_settle 49 = .ok (.aload_n 1, 1) := by decide +kernel
theorem dX7_settle_50 : decode cX7_settle 50 = .ok (.iload_n 3, 1) := by decide +kernel
theorem dX7_settle_51 : decode cX7_settle 51 = .ok (.iconst 2, 1) := by decide +kernel
theorem dX7_settle_52 : decode cX7_settle 52 = .ok (.iadd, 1) := by decide +kernel
theorem dX7_settle_53 : decode cX7_settle 53 = .ok (.iaload, 1) := by decide +kernel
theorem dX7_settle_54 : decode cX7_settle 54 = .ok (.aload_n 0, 1) := by decide +kernel
theorem dX7_settle_55 : decode cX7_settle 55 = .ok (.getfield 167, 3) := by decide +kernel
theorem dX7_settle_58 : decode cX7_settle 58 = .ok (.isub, 1) := by decide +kernel
theorem dX7_settle_59 : decode cX7_settle 59 = .ok (.iload 5, 2) := by decide +kernel
theorem dX7_settle_61 : decode cX7_settle 61 = .ok (.imul, 1) := by decide +kernel
theorem dX7_settle_62 : decode cX7_settle 62 = .ok (.iadd, 1) := by decide +kernel
theorem dX7_settle_63 : decode cX7_settle 63 = .ok (.iastore, 1) := by decide +kernel
theorem dX7_settle_64 : decode cX7_settle 64 = .ok (.goto 19, 3) := by decide +kernel
theorem dX7_settle_67 : decode cX7_settle 67 = .ok (.aload_n 1, 1) := by decide +kernel
theorem dX7_settle_68 : decode cX7_settle 68 = .ok (.iload 4, 2) := by decide +kernel
theorem dX7_settle_70 : decode cX7_settle 70 = .ok (.iconst 4, 1) := by decide +kernel
theorem dX7_settle_71 : decode cX7_settle 71 = .ok (.iadd, 1) := by decide +kernel
theorem dX7_settle_72 : decode cX7_settle 72 = .ok (.dup2, 1) := by decide +kernel
theorem dX7_settle_73 : decode cX7_settle 73 = .ok (.iaload, 1) := by decide +kernel
theorem dX7_settle_74 : decode cX7_settle 74 = .ok (.aload_n 0, 1) := by decide +kernel
theorem dX7_settle_75 : decode cX7_settle 75 = .ok (.getfield 167, 3) := by decide +kernel
theorem dX7_settle_78 : decode cX7_settle 78 = .ok (.iload 5, 2) := by decide +kernel
theorem dX7_settle_80 : decode cX7_settle 80 = .ok (.imul, 1) := by decide +kernel
theorem dX7_settle_81 : decode cX7_settle 81 = .ok (.iadd, 1) := by decide +kernel
theorem dX7_settle_82 : decode cX7_settle 82 = .ok (.iastore, 1) := by decide +kernel
theorem dX7_settle_83 : decode cX7_settle 83 = .ok (.aload_n 1, 1) := by decide +kernel
theorem dX7_settle_84 : decode cX7_settle 84 = .ok (.iload_n 3, 1) := by decide +kernel
theorem dX7_settle_85 : decode cX7_settle 85 = .ok (.iconst 1, 1) := by decide +kernel
theorem dX7_settle_86 : decode cX7_settle 86 = .ok (.iadd, 1) := by decide +kernel
theorem dX7_settle_87 : decode cX7_settle 87 = .ok (.iaload, 1) := by decide +kernel
theorem dX7_settle_88 : decode cX7_settle 88 = .ok (.iconst 2, 1) := by decide +kernel
theorem dX7_settle_89 : decode cX7_settle 89 = .ok (.if_icmp .ne 55, 3) := by decide +kernel
theorem dX7_settle_92 : decode cX7_settle 92 = .ok (.iload 5, 2) := by decide +kernel
theorem dX7_settle_94 : decode cX7_settle 94 = .ok (.ifCond .le 50, 3) := by decide +kernel
theorem dX7_settle_97 : decode cX7_settle 97 = .ok (.iload 4, 2) := by decide +kernel
theorem dX7_settle_99 : decode cX7_settle 99 = .ok (.bipush 17, 2) := by decide +kernel
theorem dX7_settle_101 : decode cX7_settle 101 = .ok (.iadd, 1) := by decide +kernel
theorem dX7_settle_102 : decode cX7_settle 102 = .ok (.iconst 2, 1) := by decide +kernel
theorem dX7_settle_103 : decode cX7_settle 103 = .ok (.aload_n 1, 1) := by decide +kernel
theorem dX7_settle_104 : decode cX7_settle 104 = .ok (.iload 4, 2) := by decide +kernel
theorem dX7_settle_106 : decode cX7_settle 106 = .ok (.bipush 16, 2) := by decide +kernel
theorem dX7_settle_108 : decode cX7_settle 108 = .ok (.iadd, 1) := by decide +kernel
theorem dX7_settle_109 : decode cX7_settle 109 = .ok (.iaload, 1) := by decide +kernel
theorem dX7_settle_110 : decode cX7_settle 110 = .ok (.imul, 1) := by decide +kernel
theorem dX7_settle_111 : decode cX7_settle 111 = .ok (.iadd, 1) := by decide +kernel
theorem dX7_settle_112 : decode cX7_settle 112 = .ok (.istore 6, 2) := by decide +kernel
theorem dX7_settle_114 : decode cX7_settle 114 = .ok (.aload_n 1, 1) := by decide +kernel
theorem dX7_settle_115 : decode cX7_settle 115 = .ok (.iload 6, 2) := by decide +kernel
theorem dX7_settle_117 : decode cX7_settle 117 = .ok (.iload 5, 2) := by decide +kernel
theorem dX7_settle_119 : decode cX7_settle 119 = .ok (.iastore, 1) := by decide +kernel
theorem dX7_settle_120 : decode cX7_settle 120 = .ok (.aload_n 1, 1) := by decide +kernel
theorem dX7_settle_121 : decode cX7_settle 121 = .ok (.iload 6, 2) := by decide +kernel
theorem dX7_settle_123 : decode cX7_settle 123 = .ok (.iconst 1, 1) := by decide +kernel
theorem dX7_settle_124 : decode cX7_settle 124 = .ok (.iadd, 1) := by decide +kernel
theorem dX7_settle_125 : decode cX7_settle 125 = .ok (.aload_n 1, 1) := by decide +kernel
theorem dX7_settle_126 : decode cX7_settle 126 = .ok (.iconst 5, 1) := by decide +kernel
theorem dX7_settle_127 : decode cX7_settle 127 = .ok (.iaload, 1) := by decide +kernel
theorem dX7_settle_128 : decode cX7_settle 128 = .ok (.aload_n 1, 1) := by decide +kernel
theorem dX7_settle_129 : decode cX7_settle 129 = .ok (.iconst 3, 1) := by decide +kernel
theorem dX7_settle_130 : decode cX7_settle 130 = .ok (.iaload, 1) := by decide +kernel
theorem dX7_settle_131 : decode cX7_settle 131 = .ok (.iadd, 1) := by decide +kernel
theorem dX7_settle_132 : decode cX7_settle 132 = .ok (.iastore, 1) := by decide +kernel
theorem dX7_settle_133 : decode cX7_settle 133 = .ok (.aload_n 1, 1) := by decide +kernel
theorem dX7_settle_134 : decode cX7_settle 134 = .ok (.iload 4, 2) := by decide +kernel
theorem dX7_settle_136 : decode cX7_settle 136 = .ok (.bipush 16, 2) := by decide +kernel
theorem dX7_settle_138 : decode cX7_settle 138 = .ok (.iadd, 1) := by decide +kernel
theorem dX7_settle_139 : decode cX7_settle 139 = .ok (.dup2, 1) := by decide +kernel
theorem dX7_settle_140 : decode cX7_settle 140 = .ok (.iaload, 1) := by decide +kernel
theorem dX7_settle_141 : decode cX7_settle 141 = .ok (.iconst 1, 1) := by decide +kernel
theorem dX7_settle_142 : decode cX7_settle 142 = .ok (.iadd, 1) := by decide +kernel
theorem dX7_settle_143 : decode cX7_settle 143 = .ok (.iastore, 1) := by decide +kernel
theorem dX7_settle_144 : decode cX7_settle 144 = .ok (.aload_n 1, 1) := by decide +kernel
theorem dX7_settle_145 : decode cX7_settle 145 = .ok (.iload_n 3, 1) := by decide +kernel
theorem dX7_settle_146 : decode cX7_settle 146 = .ok (.iconst 3, 1) := by decide +kernel
theorem dX7_settle_147 : decode cX7_settle 147 = .ok (.iadd, 1) := by decide +kernel
theorem dX7_settle_148 : decode cX7_settle 148 = .ok (.dup2, 1) := by decide +kernel
theorem dX7_settle_149 : decode cX7_settle 149 = .ok (.iaload, 1) := by decide +kernel
theorem dX7_settle_150 : decode cX7_settle 150 = .ok (.iload 5, 2) := by decide +kernel
theorem dX7_settle_152 : decode cX7_settle 152 = .ok (.isub, 1) := by decide +kernel
theorem dX7_settle_153 : decode cX7_settle 153 = .ok (.iastore, 1) := by decide +kernel
theorem dX7_settle_154 : decode cX7_settle 154 = .ok (.return_, 1) := by decide +kernel
