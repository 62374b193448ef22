theorem dX7_command_0 : decode cX7_command 0 = .ok (.iload_n 1, 1) := by decide +kernel
theorem dX7_command_1 : decode cX7_command 1 = .ok (.sipush 10000, 3) := by decide +kernel
theorem dX7_command_4 : decode cX7_command 4 = .ok (.idiv, 1) := by decide +kernel
theorem dX7_command_5 : decode cX7_command 5 = .ok (.bipush 10, 2) := by decide +kernel
theorem dX7_command_7 : decode cX7_command 7 = .ok (.irem, 1) := by decide +kernel
theorem dX7_command_8 : decode cX7_command 8 = .ok (.istore_n 2, 1) := by decide +kernel
theorem dX7_command_9 : decode cX7_command 9 = .ok (.iload_n 1, 1) := by decide +kernel
theorem dX7_command_10 : decode cX7_command 10 = .ok (.bipush 100, 2) := by decide +kernel
theorem dX7_command_12 : decode cX7_command 12 = .ok (.idiv, 1) := by decide +kernel
theorem dX7_command_13 : decode cX7_command 13 = .ok (.bipush 100, 2) := by decide +kernel
theorem dX7_command_15 : decode cX7_command 15 = .ok (.irem, 1) := by decide +kernel
theorem dX7_command_16 : decode cX7_command 16 = .ok (.istore_n 3, 1) := by decide +kernel
theorem dX7_command_17 : decode cX7_command 17 = .ok (.iload_n 1, 1) := by decide +kernel
theorem dX7_command_18 : decode cX7_command 18 = .ok (.bipush 100, 2) := by decide +kernel
theorem dX7_command_20 : decode cX7_command 20 = .ok (.irem, 1) := by decide +kernel
theorem dX7_command_21 : decode cX7_command 21 = .ok (.istore 4, 2) := by decide +kernel
theorem dX7_command_23 : decode cX7_command 23 = .ok (.iload_n 1, 1) := by decide +kernel
theorem dX7_command_24 : decode cX7_command 24 = .ok (.ldc_w 267, 3) := by decide +kernel
theorem dX7_command_27 : decode cX7_command 27 = .ok (.idiv, 1) := by decide +kernel
theorem dX7_command_28 : decode cX7_command 28 = .ok (.tableswitch 245 1 8 #[48, 61, 74, 87, 123, 146, 184, 219], 48) := by decide +kernel
theorem dX7_command_76 : decode cX7_command 76 = .ok (.aload_n 0, 1) := by decide +kernel
theorem dX7_command_77 : decode cX7_command 77 = .ok (.getfield 13, 3) := by decide +kernel
theorem dX7_command_80 : decode cX7_command 80 = .ok (.iload_n 2, 1) := by decide +kernel
theorem dX7_command_81 : decode cX7_command 81 = .ok (.iconst 0, 1) := by decide +kernel
theorem dX7_command_82 : decode cX7_command 82 = .ok (.iload_n 3, 1) := by decide +kernel
theorem dX7_command_83 : decode cX7_command 83 = .ok (.iload 4, 2) := by decide +kernel
theorem dX7_command_85 : decode cX7_command 85 = .ok (.invokestatic 268, 3) := by decide +kernel
theorem dX7_command_88 : decode cX7_command 88 = .ok (.ireturn, 1) := by decide +kernel
theorem dX7_command_89 : decode cX7_command 89 = .ok (.aload_n 0, 1) := by decide +kernel
theorem dX7_command_90 : decode cX7_command 90 = .ok (.getfield 13, 3) := by decide +kernel
theorem dX7_command_93 : decode cX7_command 93 = .ok (.iload_n 2, 1) := by decide +kernel
theorem dX7_command_94 : decode cX7_command 94 = .ok (.iconst 1, 1) := by decide +kernel
theorem dX7_command_95 : decode cX7_command 95 = .ok (.iload_n 3, 1) := by decide +kernel
theorem dX7_command_96 : decode cX7_command 96 = .ok (.iload 4, 2) := by decide +kernel
theorem dX7_command_98 : decode cX7_command 98 = .ok (.invokestatic 268, 3) := by decide +kernel
theorem dX7_command_101 : decode cX7_command 101 = .ok (.ireturn, 1) := by decide +kernel
theorem dX7_command_102 : decode cX7_command 102 = .ok (.aload_n 0, 1) := by decide +kernel
theorem dX7_command_103 : decode cX7_command 103 = .ok (.getfield 13, 3) := by decide +kernel
theorem dX7_command_106 : decode cX7_command 106 = .ok (.iload_n 2, 1) := by decide +kernel
theorem dX7_command_107 : decode cX7_command 107 = .ok (.iconst 2, 1) := by decide +kernel
theorem dX7_command_108 : decode cX7_command 108 = .ok (.iload_n 3, 1) := by decide +kernel
theorem dX7_command_109 : decode cX7_command 109 = .ok (.iload 4, 2) := by decide +kernel
theorem dX7_command_111 : decode cX7_command 111 = .ok (.invokestatic 268, 3) := by decide +kernel
theorem dX7_command_114 : decode cX7_command 114 = .ok (.ireturn, 1) := by decide +kernel
theorem dX7_command_115 : decode cX7_command 115 = .ok (.iload_n 2, 1) := by decide +kernel
theorem dX7_command_116 : decode cX7_command 116 = .ok (.ifCond .ne 20, 3) := by decide +kernel
theorem dX7_command_119 : decode cX7_command 119 = .ok (.iload_n 3, 1) := by decide +kernel
theorem dX7_command_120 : decode cX7_command 120 = .ok (.ifCond .ne 16, 3) := by decide +kernel
theorem dX7_command_123 : decode cX7_command 123 = .ok (.iload 4, 2) := by decide +kernel
theorem dX7_command_125 : decode cX7_command 125 = .ok (.i2l, 1) := by decide +kernel
theorem dX7_command_126 : decode cX7_command 126 = .ok (.lconst 1, 1) := by decide +kernel
theorem dX7_command_127 : decode cX7_command 127 = .ok (.ldc2_w 231, 3) := by decide +kernel
theorem dX7_command_130 : decode cX7_command 130 = .ok (.invokestatic 65, 3) := by decide +kernel
theorem dX7_command_133 : decode cX7_command 133 = .ok (.ifCond .ne 5, 3) := by decide +kernel
theorem dX7_command_136 : decode cX7_command 136 = .ok (.iconst 0, 1) := by decide +kernel
theorem dX7_command_137 : decode cX7_command 137 = .ok (.ireturn, 1) := by decide +kernel
theorem dX7_command_138 : decode cX7_command 138 = .ok (.aload_n 0, 1) := by decide +kernel
theorem dX7_command_139 : decode cX7_command 139 = .ok (.aload_n 0, 1) := by decide +kernel
theorem dX7_command_140 : decode cX7_command 140 = .ok (.getfield 13, 3) := by decide +kernel
theorem dX7_command_143 : decode cX7_command 143 = .ok (.iload 4, 2) := by decide +kernel
theorem dX7_command_145 : decode cX7_command 145 = .ok (.invokevirtual 233, 3) := by decide +kernel
theorem dX7_command_148 : decode cX7_command 148 = .ok (.pop, 1) := by decide +kernel
theorem dX7_command_149 : decode cX7_command 149 = .ok (.iconst 1, 1) := by decide +kernel
theorem dX7_command_150 : decode cX7_command 150 = .ok (.ireturn, 1) := by decide +kernel
theorem dX7_command_151 : decode cX7_command 151 = .ok (.iload_n 3, 1) := by decide +kernel
theorem dX7_command_152 : decode cX7_command 152 = .ok (.ifCond .ne 20, 3) := by decide +kernel
theorem dX7_command_155 : decode cX7_command 155 = .ok (.aload_n 0, 1) := by decide +kernel
theorem dX7_command_156 : decode cX7_command 156 = .ok (.getfield 13, 3) := by decide +kernel
theorem dX7_command_159 : decode cX7_command 159 = .ok (.iload_n 2, 1) := by decide +kernel
theorem dX7_command_160 : decode cX7_command 160 = .ok (.iload 4, 2) := by decide +kernel
theorem dX7_command_162 : decode cX7_command 162 = .ok (.invokestatic 272, 3) := by decide +kernel
theorem dX7_command_165 : decode cX7_command 165 = .ok (.ifCond .eq 7, 3) := by decide +kernel
theorem dX7_command_168 : decode cX7_command 168 = .ok (.iconst 1, 1) := by decide +kernel
theorem dX7_command_169 : decode cX7_command 169 = .ok (.goto 4, 3) := by decide +kernel
theorem dX7_command_172 : decode cX7_command 172 = .ok (.iconst 0, 1) := by decide +kernel
theorem dX7_command_173 : decode cX7_command 173 = .ok (.ireturn, 1) := by decide +kernel
theorem dX7_command_174 : decode cX7_command 174 = .ok (.aload_n 0, 1) := by decide +kernel
theorem dX7_command_175 : decode cX7_command 175 = .ok (.getfield 13, 3) := by decide +kernel
theorem dX7_command_178 : decode cX7_command 178 = .ok (.iload_n 2, 1) := by decide +kernel
theorem dX7_command_179 : decode cX7_command 179 = .ok (.invokestatic 94, 3) := by decide +kernel
theorem dX7_command_182 : decode cX7_command 182 = .ok (.ifCond .eq 28, 3) := by decide +kernel
theorem dX7_command_185 : decode cX7_command 185 = .ok (.aload_n 0, 1) := by decide +kernel
theorem dX7_command_186 : decode cX7_command 186 = .ok (.getfield 13, 3) := by decide +kernel
theorem dX7_command_189 : decode cX7_command 189 = .ok (.iload_n 2, 1) := by decide +kernel
theorem dX7_command_190 : decode cX7_command 190 = .ok (.invokestatic 90, 3) := by decide +kernel
theorem dX7_command_193 : decode cX7_command 193 = .ok (.iconst 4, 1) := by decide +kernel
theorem dX7_command_194 : decode cX7_command 194 = .ok (.iadd, 1) := by decide +kernel
theorem dX7_command_195 : decode cX7_command 195 = .ok (.iaload, 1) := by decide +kernel
theorem dX7_command_196 : decode cX7_command 196 = .ok (.bipush 100, 2) := by decide +kernel
theorem dX7_command_198 : decode cX7_command 198 = .ok (.iload_n 3, 1) := by decide +kernel
theorem dX7_command_199 : decode cX7_command 199 = .ok (.imul, 1) := by decide +kernel
theorem dX7_command_200 : decode cX7_command 200 = .ok (.iload 4, 2) := by decide +kernel
theorem dX7_command_202 : decode cX7_command 202 = .ok (.iadd, 1) := by decide +kernel
theorem dX7_command_203 : decode cX7_command 203 = .ok (.if_icmp .lt 7, 3) := by decide +kernel
theorem dX7_command_206 : decode cX7_command 206 = .ok (.iconst 1, 1) := by decide +kernel
theorem dX7_command_207 : decode cX7_command 207 = .ok (.goto 4, 3) := by decide +kernel
theorem dX7_command_210 : decode cX7_command 210 = .ok (.iconst 0, 1) := by decide +kernel
theorem dX7_command_211 : decode cX7_command 211 = .ok (.ireturn, 1) := by decide +kernel
theorem dX7_command_212 : decode cX7_command 212 = .ok (.aload_n 0, 1) := by decide +kernel
theorem dX7_command_213 : decode cX7_command 213 = .ok (.getfield 13, 3) := by decide +kernel
theorem dX7_command_216 : decode cX7_command 216 = .ok (.iload_n 2, 1) := by decide +kernel
theorem dX7_command_217 : decode cX7_command 217 = .ok (.invokestatic 94, 3) := by decide +kernel
theorem dX7_command_220 : decode cX7_command 220 = .ok (.ifCond .eq 25, 3) := by decide +kernel
theorem dX7_command_223 : decode cX7_command 223 = .ok (.aload_n 0, 1) := by decide +kernel
theorem dX7_command_224 : decode cX7_command 224 = .ok (.getfield 13, 3) := by decide +kernel
theorem dX7_command_227 : decode cX7_command 227 = .ok (.iload_n 2, 1) := by decide +kernel
theorem dX7_command_228 : decode cX7_command 228 = .ok (.invokestatic 179, 3) := by decide +kernel
theorem dX7_command_231 : decode cX7_command 231 = .ok (.bipush 100, 2) := by decide +kernel
theorem dX7_command_233 : decode cX7_command 233 = .ok (.iload_n 3, 1) := by decide +kernel
theorem dX7_command_234 : decode cX7_command 234 = .ok (.imul, 1) := by decide +kernel
theorem dX7_command_235 : decode cX7_command 235 = .ok (.iload 4, 2) := by decide +kernel
theorem dX7_command_237 : decode cX7_command 237 = .ok (.iadd, 1) := by decide +kernel
theorem dX7_command_238 : decode cX7_command 238 = .ok (.if_icmp .lt 7, 3) := by decide +kernel
theorem dX7_command_241 : decode cX7_command 241 = .ok (.iconst 1, 1) := by decide +kernel
theorem dX7_command_242 : decode cX7_command 242 = .ok (.goto 4, 3) := by decide +kernel
theorem dX7_command_245 : decode cX7_command 245 = .ok (.iconst 0, 1) := by decide +kernel
theorem dX7_command_246 : decode cX7_command 246 = .ok (.ireturn, 1) := by decide +kernel
theorem dX7_command_247 : decode cX7_command 247 = .ok (.iload_n 2, 1) := by decide +kernel
theorem dX7_command_248 : decode cX7_command 248 = .ok (.ifCond .ne 23, 3) := by decide +kernel
theorem dX7_command_251 : decode cX7_command 251 = .ok (.iload_n 3, 1) := by decide +kernel
theorem dX7_command_252 : decode cX7_command 252 = .ok (.ifCond .ne 19, 3) := by decide +kernel
theorem dX7_command_255 : decode cX7_command 255 = .ok (.aload_n 0, 1) := by decide +kernel
theorem dX7_command_256 : decode cX7_command 256 = .ok (.getfield 13, 3) := by decide +kernel
theorem dX7_command_259 : decode cX7_command 259 = .ok (.bipush 7, 2) := by decide +kernel
theorem dX7_command_261 : decode cX7_command 261 = .ok (.iaload, 1) := by decide +kernel
theorem dX7_command_262 : decode cX7_command 262 = .ok (.iload 4, 2) := by decide +kernel
theorem dX7_command_264 : decode cX7_command 264 = .ok (.if_icmp .ne 7, 3) := by decide +kernel
theorem dX7_command_267 : decode cX7_command 267 = .ok (.iconst 1, 1) := by decide +kernel
theorem dX7_command_268 : decode cX7_command 268 = .ok (.goto 4, 3) := by decide +kernel
theorem dX7_command_271 : decode cX7_command 271 = .ok (.iconst 0, 1) := by decide +kernel
theorem dX7_command_272 : decode cX7_command 272 = .ok (.ireturn, 1) := by decide +kernel
theorem dX7_command_273 : decode cX7_command 273 = .ok (.iconst 0, 1) := by decide +kernel
theorem dX7_command_274 : decode cX7_command 274 = .ok (.ireturn, 1) := by decide +kernel
theorem dX7_million_0 : decode cX7_million 0 = .ok (.lconst 1, 1) := by decide +kernel
theorem dX7_million_1 : decode cX7_million 1 = .ok (.lstore_n 1, 1) := by decide +kernel
theorem dX7_million_2 : decode cX7_million 2 = .ok (.iconst 0, 1) := by decide +kernel
theorem dX7_million_3 : decode cX7_million 3 = .ok (.istore_n 3, 1) := by decide +kernel
theorem dX7_million_4 : decode cX7_million 4 = .ok (.iload_n 3, 1) := by decide +kernel
theorem dX7_million_5 : decode cX7_million 5 = .ok (.iload_n 0, 1) := by decide +kernel
theorem dX7_million_6 : decode cX7_million 6 = .ok (.if_icmp .ge 15, 3) := by decide +kernel
theorem dX7_million_9 : decode cX7_million 9 = .ok (.lload_n 1, 1) := by decide +kernel
theorem dX7_million_10 : decode cX7_million 10 = .ok (.ldc2_w 276, 3) := by decide +kernel
theorem dX7_million_13 : decode cX7_million 13 = .ok (.lmul, 1) := by decide +kernel
theorem dX7_million_14 : decode cX7_million 14 = .ok (.lstore_n 1, 1) := by decide +kernel
theorem dX7_million_15 : decode cX7_million 15 = .ok (.iinc 3 1, 3) := by decide +kernel
theorem dX7_million_18 : decode cX7_million 18 = .ok (.goto (-14), 3) := by decide +kernel
theorem dX7_million_21 : decode cX7_million 21 = .ok (.lload_n 1, 1) := by decide +kernel
theorem dX7_million_22 : decode cX7_million 22 = .ok (.lreturn, 1) := by decide +kernel
theorem dX7_runScript_0 : decode cX7_runScript 0 = .ok (.aload_n 0, 1) := by decide +kernel
theorem dX7_runScript_1 : decode cX7_runScript 1 = .ok (.iload_n 1, 1) := by decide +kernel
theorem dX7_runScript_2 : decode cX7_runScript 2 = .ok (.i2l, 1) := by decide +kernel
theorem dX7_runScript_3 : decode cX7_runScript 3 = .ok (.lconst 1, 1) := by decide +kernel
theorem dX7_runScript_4 : decode cX7_runScript 4 = .ok (.ldc2_w 242, 3) := by decide +kernel
theorem dX7_runScript_7 : decode cX7_runScript 7 = .ok (.invokestatic 65, 3) := by decide +kernel
theorem dX7_runScript_10 : decode cX7_runScript 10 = .ok (.ifCond .eq 21, 3) := by decide +kernel
theorem dX7_runScript_13 : decode cX7_runScript 13 = .ok (.lload_n 2, 1) := by decide +kernel
theorem dX7_runScript_14 : decode cX7_runScript 14 = .ok (.lconst 0, 1) := by decide +kernel
theorem dX7_runScript_15 : decode cX7_runScript 15 = .ok (.iload_n 1, 1) := by decide +kernel
theorem dX7_runScript_16 : decode cX7_runScript 16 = .ok (.invokestatic 278, 3) := by decide +kernel
theorem dX7_runScript_19 : decode cX7_runScript 19 = .ok (.lconst 1, 1) := by decide +kernel
theorem dX7_runScript_20 : decode cX7_runScript 20 = .ok (.lsub, 1) := by decide +kernel
theorem dX7_runScript_21 : decode cX7_runScript 21 = .ok (.invokestatic 65, 3) := by decide +kernel
theorem dX7_runScript_24 : decode cX7_runScript 24 = .ok (.ifCond .eq 7, 3) := by decide +kernel
theorem dX7_runScript_27 : decode cX7_runScript 27 = .ok (.iconst 0, 1) := by decide +kernel
theorem dX7_runScript_28 : decode cX7_runScript 28 = .ok (.goto 4, 3) := by decide +kernel
theorem dX7_runScript_31 : decode cX7_runScript 31 = .ok (.iconst 1, 1) := by decide +kernel
theorem dX7_runScript_32 : decode cX7_runScript 32 = .ok (.invokevirtual 74, 3) := by decide +kernel
theorem dX7_runScript_35 : decode cX7_runScript 35 = .ok (.ifCond .eq 5, 3) := by decide +kernel
theorem dX7_runScript_38 : decode cX7_runScript 38 = .ok (.iconst 0, 1) := by decide +kernel
theorem dX7_runScript_39 : decode cX7_runScript 39 = .ok (.ireturn, 1) := by decide +kernel
theorem dX7_runScript_40 : decode cX7_runScript 40 = .ok (.aload_n 0, 1) := by decide +kernel
theorem dX7_runScript_41 : decode cX7_runScript 41 = .ok (.getfield 7, 3) := by decide +kernel
theorem dX7_runScript_44 : decode cX7_runScript 44 = .ok (.iconst 0, 1) := by decide +kernel
theorem dX7_runScript_45 : decode cX7_runScript 45 = .ok (.aload_n 0, 1) := by decide +kernel
theorem dX7_runScript_46 : decode cX7_runScript 46 = .ok (.getfield 13, 3) := by decide +kernel
theorem dX7_runScript_49 : decode cX7_runScript 49 = .ok (.iconst 0, 1) := by decide +kernel
theorem dX7_runScript_50 : decode cX7_runScript 50 = .ok (.invokestatic 58, 3) := by decide +kernel
theorem dX7_runScript_53 : decode cX7_runScript 53 = .ok (.iconst 0, 1) := by decide +kernel
theorem dX7_runScript_54 : decode cX7_runScript 54 = .ok (.istore 4, 2) := by decide +kernel
theorem dX7_runScript_56 : decode cX7_runScript 56 = .ok (.iload 4, 2) := by decide +kernel
theorem dX7_runScript_58 : decode cX7_runScript 58 = .ok (.iload_n 1, 1) := by decide +kernel
theorem dX7_runScript_59 : decode cX7_runScript 59 = .ok (.if_icmp .ge 35, 3) := by decide +kernel
theorem dX7_runScript_62 : decode cX7_runScript 62 = .ok (.aload_n 0, 1) := by decide +kernel
theorem dX7_runScript_63 : decode cX7_runScript 63 = .ok (.lload_n 2, 1) := by decide +kernel
theorem dX7_runScript_64 : decode cX7_runScript 64 = .ok (.iload_n 1, 1) := by decide +kernel
theorem dX7_runScript_65 : decode cX7_runScript 65 = .ok (.iconst 1, 1) := by decide +kernel
theorem dX7_runScript_66 : decode cX7_runScript 66 = .ok (.isub, 1) := by decide +kernel
theorem dX7_runScript_67 : decode cX7_runScript 67 = .ok (.iload 4, 2) := by decide +kernel
theorem dX7_runScript_69 : decode cX7_runScript 69 = .ok (.isub, 1) := by decide +kernel
theorem dX7_runScript_70 : decode cX7_runScript 70 = .ok (.invokestatic 278, 3) := by decide +kernel
theorem dX7_runScript_73 : decode cX7_runScript 73 = .ok (.ldiv, 1) := by decide +kernel
theorem dX7_runScript_74 : decode cX7_runScript 74 = .ok (.ldc2_w 276, 3) := by decide +kernel
theorem dX7_runScript_77 : decode cX7_runScript 77 = .ok (.lrem, 1) := by decide +kernel
theorem dX7_runScript_78 : decode cX7_runScript 78 = .ok (.l2i, 1) := by decide +kernel
theorem dX7_runScript_79 : decode cX7_runScript 79 = .ok (.invokevirtual 281, 3) := by decide +kernel
theorem dX7_runScript_82 : decode cX7_runScript 82 = .ok (.ifCond .ne 6, 3) := by decide +kernel
theorem dX7_runScript_85 : decode cX7_runScript 85 = .ok (.iload 4, 2) := by decide +kernel
theorem dX7_runScript_87 : decode cX7_runScript 87 = .ok (.ireturn, 1) := by decide +kernel
theorem dX7_runScript_88 : decode cX7_runScript 88 = .ok (.iinc 4 1, 3) := by decide +kernel
theorem dX7_runScript_91 : decode cX7_runScript 91 = .ok (.goto (-35), 3) := by decide +kernel
theorem dX7_runScript_94 : decode cX7_runScript 94 = .ok (.bipush (-9), 2) := by decide +kernel
theorem dX7_runScript_96 : decode cX7_runScript 96 = .ok (.ireturn, 1) := by decide +kernel
theorem dX7_simulate_0 : decode cX7_simulate 0 = .ok (.aload_n 0, 1) := by decide +kernel
theorem dX7_simulate_1 : decode cX7_simulate 1 = .ok (.iload_n 3, 1) := by decide +kernel
theorem dX7_simulate_2 : decode cX7_simulate 2 = .ok (.i2l, 1) := by decide +kernel
theorem dX7_simulate_3 : decode cX7_simulate 3 = .ok (.lconst 1, 1) := by decide +kernel
theorem dX7_simulate_4 : decode cX7_simulate 4 = .ok (.ldc2_w 284, 3) := by decide +kernel
theorem dX7_simulate_7 : decode cX7_simulate 7 = .ok (.invokestatic 65, 3) := by decide +kernel
theorem dX7_simulate_10 : decode cX7_simulate 10 = .ok (.ifCond .eq 7, 3) := by decide +kernel
theorem dX7_simulate_13 : decode cX7_simulate 13 = .ok (.iconst 0, 1) := by decide +kernel
theorem dX7_simulate_14 : decode cX7_simulate 14 = .ok (.goto 4, 3) := by decide +kernel
theorem dX7_simulate_17 : decode cX7_simulate 17 = .ok (.iconst 1, 1) := by decide +kernel
theorem dX7_simulate_18 : decode cX7_simulate 18 = .ok (.invokevirtual 74, 3) := by decide +kernel
theorem dX7_simulate_21 : decode cX7_simulate 21 = .ok (.ifCond .eq 5, 3) := by decide +kernel
theorem dX7_simulate_24 : decode cX7_simulate 24 = .ok (.iconst 0, 1) := by decide +kernel
theorem dX7_simulate_25 : decode cX7_simulate 25 = .ok (.ireturn, 1) := by decide +kernel
theorem dX7_simulate_26 : decode cX7_simulate 26 = .ok (.aload_n 0, 1) := by decide +kernel
theorem dX7_simulate_27 : decode cX7_simulate 27 = .ok (.getfield 7, 3) := by decide +kernel
theorem dX7_simulate_30 : decode cX7_simulate 30 = .ok (.iconst 0, 1) := by decide +kernel
theorem dX7_simulate_31 : decode cX7_simulate 31 = .ok (.aload_n 0, 1) := by decide +kernel
theorem dX7_simulate_32 : decode cX7_simulate 32 = .ok (.getfield 13, 3) := by decide +kernel
theorem dX7_simulate_35 : decode cX7_simulate 35 = .ok (.iconst 0, 1) := by decide +kernel
theorem dX7_simulate_36 : decode cX7_simulate 36 = .ok (.invokestatic 58, 3) := by decide +kernel
theorem dX7_simulate_39 : decode cX7_simulate 39 = .ok (.lload_n 1, 1) := by decide +kernel
theorem dX7_simulate_40 : decode cX7_simulate 40 = .ok (.lstore 4, 2) := by decide +kernel
theorem dX7_simulate_42 : decode cX7_simulate 42 = .ok (.iconst 0, 1) := by decide +kernel
theorem dX7_simulate_43 : decode cX7_simulate 43 = .ok (.istore 6, 2) := by decide +kernel
theorem dX7_simulate_45 : decode cX7_simulate 45 = .ok (.iconst 0, 1) := by decide +kernel
theorem dX7_simulate_46 : decode cX7_simulate 46 = .ok (.istore 7, 2) := by decide +kernel
theorem dX7_simulate_48 : decode cX7_simulate 48 = .ok (.iload 7, 2) := by decide +kernel
theorem dX7_simulate_50 : decode cX7_simulate 50 = .ok (.iload_n 3, 1) := by decide +kernel
theorem dX7_simulate_51 : decode cX7_simulate 51 = .ok (.if_icmp .ge 126, 3) := by decide +kernel
theorem dX7_simulate_54 : decode cX7_simulate 54 = .ok (.lload 4, 2) := by decide +kernel
theorem dX7_simulate_56 : decode cX7_simulate 56 = .ok (.ldc2_w 286, 3) := by decide +kernel
theorem dX7_simulate_59 : decode cX7_simulate 59 = .ok (.lmul, 1) := by decide +kernel
theorem dX7_simulate_60 : decode cX7_simulate 60 = .ok (.ldc2_w 288, 3) := by decide +kernel
theorem dX7_simulate_63 : decode cX7_simulate 63 = .ok (.ladd, 1) := by decide +kernel
theorem dX7_simulate_64 : decode cX7_simulate 64 = .ok (.lstore 4, 2) := by decide +kernel
theorem dX7_simulate_66 : decode cX7_simulate 66 = .ok (.lload 4, 2) := by decide +kernel
theorem dX7_simulate_68 : decode cX7_simulate 68 = .ok (.bipush 33, 2) := by decide +kernel
theorem dX7_simulate_70 : decode cX7_simulate 70 = .ok (.lushr, 1) := by decide +kernel
theorem dX7_simulate_71 : decode cX7_simulate 71 = .ok (.l2i, 1) := by decide +kernel
theorem dX7_simulate_72 : decode cX7_simulate 72 = .ok (.istore 8, 2) := by decide +kernel
theorem dX7_simulate_74 : decode cX7_simulate 74 = .ok (.iload 8, 2) := by decide +kernel
theorem dX7_simulate_76 : decode cX7_simulate 76 = .ok (.aload_n 0, 1) := by decide +kernel
theorem dX7_simulate_77 : decode cX7_simulate 77 = .ok (.getfield 13, 3) := by decide +kernel
theorem dX7_simulate_80 : decode cX7_simulate 80 = .ok (.iconst 0, 1) := by decide +kernel
theorem dX7_simulate_81 : decode cX7_simulate 81 = .ok (.iaload, 1) := by decide +kernel
theorem dX7_simulate_82 : decode cX7_simulate 82 = .ok (.irem, 1) := by decide +kernel
theorem dX7_simulate_83 : decode cX7_simulate 83 = .ok (.istore 9, 2) := by decide +kernel
theorem dX7_simulate_85 : decode cX7_simulate 85 = .ok (.iconst 1, 1) := by decide +kernel
theorem dX7_simulate_86 : decode cX7_simulate 86 = .ok (.iload 8, 2) := by decide +kernel
theorem dX7_simulate_88 : decode cX7_simulate 88 = .ok (.bipush 8, 2) := by decide +kernel
theorem dX7_simulate_90 : decode cX7_simulate 90 = .ok (.idiv, 1) := by decide +kernel
theorem dX7_simulate_91 : decode cX7_simulate 91 = .ok (.bipush 99, 2) := by decide +kernel
theorem dX7_simulate_93 : decode cX7_simulate 93 = .ok (.irem, 1) := by decide +kernel
theorem dX7_simulate_94 : decode cX7_simulate 94 = .ok (.iadd, 1) := by decide +kernel
theorem dX7_simulate_95 : decode cX7_simulate 95 = .ok (.istore 10, 2) := by decide +kernel
theorem dX7_simulate_97 : decode cX7_simulate 97 = .ok (.iconst 1, 1) := by decide +kernel
theorem dX7_simulate_98 : decode cX7_simulate 98 = .ok (.iload 8, 2) := by decide +kernel
theorem dX7_simulate_100 : decode cX7_simulate 100 = .ok (.sipush 1024, 3) := by decide +kernel
theorem dX7_simulate_103 : decode cX7_simulate 103 = .ok (.idiv, 1) := by decide +kernel
theorem dX7_simulate_104 : decode cX7_simulate 104 = .ok (.bipush 20, 2) := by decide +kernel
theorem dX7_simulate_106 : decode cX7_simulate 106 = .ok (.irem, 1) := by decide +kernel
theorem dX7_simulate_107 : decode cX7_simulate 107 = .ok (.iadd, 1) := by decide +kernel
theorem dX7_simulate_108 : decode cX7_simulate 108 = .ok (.istore 11, 2) := by decide +kernel
theorem dX7_simulate_110 : decode cX7_simulate 110 = .ok (.iload 8, 2) := by decide +kernel
theorem dX7_simulate_112 : decode cX7_simulate 112 = .ok (.ldc_w 290, 3) := by decide +kernel
theorem dX7_simulate_115 : decode cX7_simulate 115 = .ok (.idiv, 1) := by decide +kernel
theorem dX7_simulate_116 : decode cX7_simulate 116 = .ok (.iconst 4, 1) := by decide +kernel
theorem dX7_simulate_117 : decode cX7_simulate 117 = .ok (.irem, 1) := by decide +kernel
theorem dX7_simulate_118 : decode cX7_simulate 118 = .ok (.istore 12, 2) := by decide +kernel
theorem dX7_simulate_120 : decode cX7_simulate 120 = .ok (.iload 12, 2) := by decide +kernel
theorem dX7_simulate_122 : decode cX7_simulate 122 = .ok (.iconst 3, 1) := by decide +kernel
theorem dX7_simulate_123 : decode cX7_simulate 123 = .ok (.if_icmp .ne 17, 3) := by decide +kernel
theorem dX7_simulate_126 : decode cX7_simulate 126 = .ok (.aload_n 0, 1) := by decide +kernel
theorem dX7_simulate_127 : decode cX7_simulate 127 = .ok (.getfield 13, 3) := by decide +kernel
theorem dX7_simulate_130 : decode cX7_simulate 130 = .ok (.iload 9, 2) := by decide +kernel
theorem dX7_simulate_132 : decode cX7_simulate 132 = .ok (.iload 11, 2) := by decide +kernel
theorem dX7_simulate_134 : decode cX7_simulate 134 = .ok (.invokestatic 272, 3) := by decide +kernel
theorem dX7_simulate_137 : decode cX7_simulate 137 = .ok (.goto 18, 3) := by decide +kernel
theorem dX7_simulate_140 : decode cX7_simulate 140 = .ok (.aload_n 0, 1) := by decide +kernel
theorem dX7_simulate_141 : decode cX7_simulate 141 = .ok (.getfield 13, 3) := by decide +kernel
theorem dX7_simulate_144 : decode cX7_simulate 144 = .ok (.iload 9, 2) := by decide +kernel
theorem dX7_simulate_146 : decode cX7_simulate 146 = .ok (.iload 12, 2) := by decide +kernel
theorem dX7_simulate_148 : decode cX7_simulate 148 = .ok (.iload 10, 2) := by decide +kernel
theorem dX7_simulate_150 : decode cX7_simulate 150 = .ok (.iload 11, 2) := by decide +kernel
theorem dX7_simulate_152 : decode cX7_simulate 152 = .ok (.invokestatic 268, 3) := by decide +kernel
theorem dX7_simulate_155 : decode cX7_simulate 155 = .ok (.istore 13, 2) := by decide +kernel
theorem dX7_simulate_157 : decode cX7_simulate 157 = .ok (.iload 6, 2) := by decide +kernel
theorem dX7_simulate_159 : decode cX7_simulate 159 = .ok (.aload_n 0, 1) := by decide +kernel
theorem dX7_simulate_160 : decode cX7_simulate 160 = .ok (.aload_n 0, 1) := by decide +kernel
theorem dX7_simulate_161 : decode cX7_simulate 161 = .ok (.getfield 13, 3) := by decide +kernel
theorem dX7_simulate_164 : decode cX7_simulate 164 = .ok (.iconst 1, 1) := by decide +kernel
theorem dX7_simulate_165 : decode cX7_simulate 165 = .ok (.invokevirtual 233, 3) := by decide +kernel
theorem dX7_simulate_168 : decode cX7_simulate 168 = .ok (.iadd, 1) := by decide +kernel
theorem dX7_simulate_169 : decode cX7_simulate 169 = .ok (.istore 6, 2) := by decide +kernel
theorem dX7_simulate_171 : decode cX7_simulate 171 = .ok (.iinc 7 1, 3) := by decide +kernel
theorem dX7_simulate_174 : decode cX7_simulate 174 = .ok (.goto (-126), 3) := by decide +kernel
theorem dX7_simulate_177 : decode cX7_simulate 177 = .ok (.iload 6, 2) := by decide +kernel
theorem dX7_simulate_179 : decode cX7_simulate 179 = .ok (.ireturn, 1) := by decide +kernel
theorem dX7_save_0 : decode cX7_save 0 = .ok (.aload_n 0, 1) := by decide +kernel
theorem dX7_save_1 : decode cX7_save 1 = .ok (.iload_n 1, 1) := by decide +kernel
theorem dX7_save_2 : decode cX7_save 2 = .ok (.i2l, 1) := by decide +kernel
theorem dX7_save_3 : decode cX7_save 3 = .ok (.lconst 0, 1) := by decide +kernel
theorem dX7_save_4 : decode cX7_save 4 = .ok (.lconst 1, 1) := by decide +kernel
theorem dX7_save_5 : decode cX7_save 5 = .ok (.invokestatic 65, 3) := by decide +kernel
theorem dX7_save_8 : decode cX7_save 8 = .ok (.ifCond .eq 7, 3) := by decide +kernel
theorem dX7_save_11 : decode cX7_save 11 = .ok (.iconst 0, 1) := by decide +kernel
theorem dX7_save_12 : decode cX7_save 12 = .ok (.goto 4, 3) := by decide +kernel
theorem dX7_save_15 : decode cX7_save 15 = .ok (.iconst 1, 1) := by decide +kernel
theorem dX7_save_16 : decode cX7_save 16 = .ok (.invokevirtual 74, 3) := by decide +kernel
theorem dX7_save_19 : decode cX7_save 19 = .ok (.ifCond .eq 5, 3) := by decide +kernel
theorem dX7_save_22 : decode cX7_save 22 = .ok (.iconst 0, 1) := by decide +kernel
theorem dX7_save_23 : decode cX7_save 23 = .ok (.ireturn, 1) := by decide +kernel
theorem dX7_save_24 : decode cX7_save 24 = .ok (.aload_n 0, 1) := by decide +kernel
theorem dX7_save_25 : decode cX7_save 25 = .ok (.getfield 22, 3) := by decide +kernel
theorem dX7_save_28 : decode cX7_save 28 = .ok (.iload_n 1, 1) := by decide +kernel
theorem dX7_save_29 : decode cX7_save 29 = .ok (.iconst 1, 1) := by decide +kernel
theorem dX7_save_30 : decode cX7_save 30 = .ok (.bastore, 1) := by decide +kernel
theorem dX7_save_31 : decode cX7_save 31 = .ok (.aload_n 0, 1) := by decide +kernel
theorem dX7_save_32 : decode cX7_save 32 = .ok (.getfield 7, 3) := by decide +kernel
theorem dX7_save_35 : decode cX7_save 35 = .ok (.iconst 0, 1) := by decide +kernel
theorem dX7_save_36 : decode cX7_save 36 = .ok (.aload_n 0, 1) := by decide +kernel
theorem dX7_save_37 : decode cX7_save 37 = .ok (.getfield 19, 3) := by decide +kernel
theorem dX7_save_40 : decode cX7_save 40 = .ok (.sipush 1360, 3) := by decide +kernel
theorem dX7_save_43 : decode cX7_save 43 = .ok (.iload_n 1, 1) := by decide +kernel
theorem dX7_save_44 : decode cX7_save 44 = .ok (.imul, 1) := by decide +kernel
theorem dX7_save_45 : decode cX7_save 45 = .ok (.invokestatic 58, 3) := by decide +kernel
theorem dX7_save_48 : decode cX7_save 48 = .ok (.aload_n 0, 1) := by decide +kernel
theorem dX7_save_49 : decode cX7_save 49 = .ok (.getfield 7, 3) := by decide +kernel
theorem dX7_save_52 : decode cX7_save 52 = .ok (.iconst 5, 1) := by decide +kernel
theorem dX7_save_53 : decode cX7_save 53 = .ok (.iaload, 1) := by decide +kernel
theorem dX7_save_54 : decode cX7_save 54 = .ok (.ireturn, 1) := by decide +kernel
theorem dX7_restore_0 : decode cX7_restore 0 = .ok (.aload_n 0, 1) := by decide +kernel
theorem dX7_restore_1 : decode cX7_restore 1 = .ok (.iload_n 1, 1) := by decide +kernel
theorem dX7_restore_2 : decode cX7_restore 2 = .ok (.i2l, 1) := by decide +kernel
theorem dX7_restore_3 : decode cX7_restore 3 = .ok (.lconst 0, 1) := by decide +kernel
theorem dX7_restore_4 : decode cX7_restore 4 = .ok (.lconst 1, 1) := by decide +kernel
theorem dX7_restore_5 : decode cX7_restore 5 = .ok (.invokestatic 65, 3) := by decide +kernel
theorem dX7_restore_8 : decode cX7_restore 8 = .ok (.ifCond .ne 7, 3) := by decide +kernel
theorem dX7_restore_11 : decode cX7_restore 11 = .ok (.iconst 1, 1) := by decide +kernel
theorem dX7_restore_12 : decode cX7_restore 12 = .ok (.goto 17, 3) := by decide +kernel
theorem dX7_restore_15 : decode cX7_restore 15 = .ok (.aload_n 0, 1) := by decide +kernel
theorem dX7_restore_16 : decode cX7_restore 16 = .ok (.getfield 22, 3) := by decide +kernel
theorem dX7_restore_19 : decode cX7_restore 19 = .ok (.iload_n 1, 1) := by decide +kernel
theorem dX7_restore_20 : decode cX7_restore 20 = .ok (.baload, 1) := by decide +kernel
theorem dX7_restore_21 : decode cX7_restore 21 = .ok (.ifCond .ne 7, 3) := by decide +kernel
theorem dX7_restore_24 : decode cX7_restore 24 = .ok (.iconst 2, 1) := by decide +kernel
theorem dX7_restore_25 : decode cX7_restore 25 = .ok (.goto 4, 3) := by decide +kernel
theorem dX7_restore_28 : decode cX7_restore 28 = .ok (.iconst 0, 1) := by decide +kernel
theorem dX7_restore_29 : decode cX7_restore 29 = .ok (.invokevirtual 74, 3) := by decide +kernel
theorem dX7_restore_32 : decode cX7_restore 32 = .ok (.ifCond .eq 5, 3) := by decide +kernel
theorem dX7_restore_35 : decode cX7_restore 35 = .ok (.iconst 0, 1) := by decide +kernel
theorem dX7_restore_36 : decode cX7_restore 36 = .ok (.ireturn, 1) := by decide +kernel
theorem dX7_restore_37 : decode cX7_restore 37 = .ok (.aload_n 0, 1) := by decide +kernel
theorem dX7_restore_38 : decode cX7_restore 38 = .ok (.getfield 19, 3) := by decide +kernel
theorem dX7_restore_41 : decode cX7_restore 41 = .ok (.sipush 1360, 3) := by decide +kernel
theorem dX7_restore_44 : decode cX7_restore 44 = .ok (.iload_n 1, 1) := by decide +kernel
theorem dX7_restore_45 : decode cX7_restore 45 = .ok (.imul, 1) := by decide +kernel
theorem dX7_restore_46 : decode cX7_restore 46 = .ok (.aload_n 0, 1) := by decide +kernel
theorem dX7_restore_47 : decode cX7_restore 47 = .ok (.getfield 7, 3) := by decide +kernel
theorem dX7_restore_50 : decode cX7_restore 50 = .ok (.iconst 0, 1) := by decide +kernel
theorem dX7_restore_51 : decode cX7_restore 51 = .ok (.invokestatic 58, 3) := by decide +kernel
theorem dX7_restore_54 : decode cX7_restore 54 = .ok (.aload_n 0, 1) := by decide +kernel
theorem dX7_restore_55 : decode cX7_restore 55 = .ok (.iconst 0, 1) := by decide +kernel
theorem dX7_restore_56 : decode cX7_restore 56 = .ok (.putfield 62, 3) := by decide +kernel
theorem dX7_restore_59 : decode cX7_restore 59 = .ok (.aload_n 0, 1) := by decide +kernel
theorem dX7_restore_60 : decode cX7_restore 60 = .ok (.getfield 7, 3) := by decide +kernel
theorem dX7_restore_63 : decode cX7_restore 63 = .ok (.iconst 5, 1) := by decide +kernel
theorem dX7_restore_64 : decode cX7_restore 64 = .ok (.iaload, 1) := by decide +kernel
theorem dX7_restore_65 : decode cX7_restore 65 = .ok (.ireturn, 1) := by decide +kernel
theorem dJ6_bitCount_0f7a4_0 : decode cJ6_bitCount_0f7a4 0 = .ok (.iload_n 0, 1) := by decide +kernel
theorem dJ6_bitCount_0f7a4_1 : decode cJ6_bitCount_0f7a4 1 = .ok (.iload_n 0, 1) := by decide +kernel
theorem dJ6_bitCount_0f7a4_2 : decode cJ6_bitCount_0f7a4 2 = .ok (.iconst 1, 1) := by decide +kernel
theorem dJ6_bitCount_0f7a4_3 : decode cJ6_bitCount_0f7a4 3 = .ok (.iushr, 1) := by decide +kernel
theorem dJ6_bitCount_0f7a4_4 : decode cJ6_bitCount_0f7a4 4 = .ok (.ldc_w 265, 3) := by decide +kernel
theorem dJ6_bitCount_0f7a4_7 : decode cJ6_bitCount_0f7a4 7 = .ok (.iand, 1) := by decide +kernel
theorem dJ6_bitCount_0f7a4_8 : decode cJ6_bitCount_0f7a4 8 = .ok (.isub, 1) := by decide +kernel
theorem dJ6_bitCount_0f7a4_9 : decode cJ6_bitCount_0f7a4 9 = .ok (.istore_n 0, 1) := by decide +kernel
theorem dJ6_bitCount_0f7a4_10 : decode cJ6_bitCount_0f7a4 10 = .ok (.iload_n 0, 1) := by decide +kernel
theorem dJ6_bitCount_0f7a4_11 : decode cJ6_bitCount_0f7a4 11 = .ok (.ldc_w 266, 3) := by decide +kernel
theorem dJ6_bitCount_0f7a4_14 : decode cJ6_bitCount_0f7a4 14 = .ok (.iand, 1) := by decide +kernel
theorem dJ6_bitCount_0f7a4_15 : decode cJ6_bitCount_0f7a4 15 = .ok (.iload_n 0, 1) := by decide +kernel
theorem dJ6_bitCount_0f7a4_16 : decode cJ6_bitCount_0f7a4 16 = .ok (.iconst 2, 1) := by decide +kernel
theorem dJ6_bitCount_0f7a4_17 : decode cJ6_bitCount_0f7a4 17 = .ok (.iushr, 1) := by decide +kernel
theorem dJ6_bitCount_0f7a4_18 : decode cJ6_bitCount_0f7a4 18 = .ok (.ldc_w 266, 3) := by decide +kernel
theorem dJ6_bitCount_0f7a4_21 : decode cJ6_bitCount_0f7a4 21 = .ok (.iand, 1) := by decide +kernel
theorem dJ6_bitCount_0f7a4_22 : decode cJ6_bitCount_0f7a4 22 = .ok (.iadd, 1) := by decide +kernel
theorem dJ6_bitCount_0f7a4_23 : decode cJ6_bitCount_0f7a4 23 = .ok (.istore_n 0, 1) := by decide +kernel
theorem dJ6_bitCount_0f7a4_24 : decode cJ6_bitCount_0f7a4 24 = .ok (.iload_n 0, 1) := by decide +kernel
theorem dJ6_bitCount_0f7a4_25 : decode cJ6_bitCount_0f7a4 25 = .ok (.iload_n 0, 1) := by decide +kernel
theorem dJ6_bitCount_0f7a4_26 : decode cJ6_bitCount_0f7a4 26 = .ok (.iconst 4, 1) := by decide +kernel
theorem dJ6_bitCount_0f7a4_27 : decode cJ6_bitCount_0f7a4 27 = .ok (.iushr, 1) := by decide +kernel
theorem dJ6_bitCount_0f7a4_28 : decode cJ6_bitCount_0f7a4 28 = .ok (.iadd, 1) := by decide +kernel
theorem dJ6_bitCount_0f7a4_29 : decode cJ6_bitCount_0f7a4 29 = .ok (.ldc_w 267, 3) := by decide +kernel
theorem dJ6_bitCount_0f7a4_32 : decode cJ6_bitCount_0f7a4 32 = .ok (.iand, 1) := by decide +kernel
theorem dJ6_bitCount_0f7a4_33 : decode cJ6_bitCount_0f7a4 33 = .ok (.istore_n 0, 1) := by decide +kernel
theorem dJ6_bitCount_0f7a4_34 : decode cJ6_bitCount_0f7a4 34 = .ok (.iload_n 0, 1) := by decide +kernel
theorem dJ6_bitCount_0f7a4_35 : decode cJ6_bitCount_0f7a4 35 = .ok (.iload_n 0, 1) := by decide +kernel
theorem dJ6_bitCount_0f7a4_36 : decode cJ6_bitCount_0f7a4 36 = .ok (.bipush 8, 2) := by decide +kernel
theorem dJ6_bitCount_0f7a4_38 : decode cJ6_bitCount_0f7a4 38 = .ok (.iushr, 1) := by decide +kernel
theorem dJ6_bitCount_0f7a4_39 : decode cJ6_bitCount_0f7a4 39 = .ok (.iadd, 1) := by decide +kernel
theorem dJ6_bitCount_0f7a4_40 : decode cJ6_bitCount_0f7a4 40 = .ok (.istore_n 0, 1) := by decide +kernel
theorem dJ6_bitCount_0f7a4_41 : decode cJ6_bitCount_0f7a4 41 = .ok (.iload_n 0, 1) := by decide +kernel
theorem dJ6_bitCount_0f7a4_42 : decode cJ6_bitCount_0f7a4 42 = .ok (.iload_n 0, 1) := by decide +kernel
theorem dJ6_bitCount_0f7a4_43 : decode cJ6_bitCount_0f7a4 43 = .ok (.bipush 16, 2) := by decide +kernel
theorem dJ6_bitCount_0f7a4_45 : decode cJ6_bitCount_0f7a4 45 = .ok (.iushr, 1) := by decide +kernel
theorem dJ6_bitCount_0f7a4_46 : decode cJ6_bitCount_0f7a4 46 = .ok (.iadd, 1) := by decide +kernel
theorem dJ6_bitCount_0f7a4_47 : decode cJ6_bitCount_0f7a4 47 = .ok (.istore_n 0, 1) := by decide +kernel
theorem dJ6_bitCount_0f7a4_48 : decode cJ6_bitCount_0f7a4 48 = .ok (.iload_n 0, 1) := by decide +kernel
theorem dJ6_bitCount_0f7a4_49 : decode cJ6_bitCount_0f7a4 49 = .ok (.bipush 63, 2) := by decide +kernel
theorem dJ6_bitCount_0f7a4_51 : decode cJ6_bitCount_0f7a4 51 = .ok (.iand, 1) := by decide +kernel
theorem dJ6_bitCount_0f7a4_52 : decode cJ6_bitCount_0f7a4 52 = .ok (.ireturn, 1) := by decide +kernel
theorem dJ9_floorMod_7cf53_0 : decode cJ9_floorMod_7cf53 0 = .ok (.iload_n 0, 1) := by decide +kernel
theorem dJ9_floorMod_7cf53_1 : decode cJ9_floorMod_7cf53 1 = .ok (.iload_n 1, 1) := by decide +kernel
theorem dJ9_floorMod_7cf53_2 : decode cJ9_floorMod_7cf53 2 = .ok (.irem, 1) := by decide +kernel
theorem dJ9_floorMod_7cf53_3 : decode cJ9_floorMod_7cf53 3 = .ok (.istore_n 2, 1) := by decide +kernel
theorem dJ9_floorMod_7cf53_4 : decode cJ9_floorMod_7cf53 4 = .ok (.iload_n 0, 1) := by decide +kernel
theorem dJ9_floorMod_7cf53_5 : decode cJ9_floorMod_7cf53 5 = .ok (.iload_n 1, 1) := by decide +kernel
theorem dJ9_floorMod_7cf53_6 : decode cJ9_floorMod_7cf53 6 = .ok (.ixor, 1) := by decide +kernel
theorem dJ9_floorMod_7cf53_7 : decode cJ9_floorMod_7cf53 7 = .ok (.ifCond .ge 11, 3) := by decide +kernel
theorem dJ9_floorMod_7cf53_10 : decode cJ9_floorMod_7cf53 10 = .ok (.iload_n 2, 1) := by decide +kernel
theorem dJ9_floorMod_7cf53_11 : decode cJ9_floorMod_7cf53 11 = .ok (.ifCond .eq 7, 3) := by decide +kernel
theorem dJ9_floorMod_7cf53_14 : decode cJ9_floorMod_7cf53 14 = .ok (.iload_n 2, 1) := by decide +kernel
theorem dJ9_floorMod_7cf53_15 : decode cJ9_floorMod_7cf53 15 = .ok (.iload_n 1, 1) := by decide +kernel
theorem dJ9_floorMod_7cf53_16 : decode cJ9_floorMod_7cf53 16 = .ok (.iadd, 1) := by decide +kernel
theorem dJ9_floorMod_7cf53_17 : decode cJ9_floorMod_7cf53 17 = .ok (.ireturn, 1) := by decide +kernel
theorem dJ9_floorMod_7cf53_18 : decode cJ9_floorMod_7cf53 18 = .ok (.iload_n 2, 1) := by decide +kernel
theorem dJ9_floorMod_7cf53_19 : decode cJ9_floorMod_7cf53 19 = .ok (.ireturn, 1) := by decide +kernel
theorem dJ9_abs_067f4_0 : decode cJ9_abs_067f4 0 = .ok (.lload_n 0, 1) := by decide +kernel
theorem dJ9_abs_067f4_1 : decode cJ9_abs_067f4 1 = .ok (.lconst 0, 1) := by decide +kernel
theorem dJ9_abs_067f4_2 : decode cJ9_abs_067f4 2 = .ok (.lcmp, 1) := by decide +kernel
theorem dJ9_abs_067f4_3 : decode cJ9_abs_067f4 3 = .ok (.ifCond .ge 8, 3) := by decide +kernel
theorem dJ9_abs_067f4_6 : decode cJ9_abs_067f4 6 = .ok (.lload_n 0, 1) := by decide +kernel
theorem dJ9_abs_067f4_7 : decode cJ9_abs_067f4 7 = .ok (.lneg, 1) := by decide +kernel
theorem dJ9_abs_067f4_8 : decode cJ9_abs_067f4 8 = .ok (.goto 4, 3) := by decide +kernel
theorem dJ9_abs_067f4_11 : decode cJ9_abs_067f4 11 = .ok (.lload_n 0, 1) := by decide +kernel
theorem dJ9_abs_067f4_12 : decode cJ9_abs_067f4 12 = .ok (.lreturn, 1) := by decide +kernel
theorem dJ9_max_f86c9_0 : decode cJ9_max_f86c9 0 = .ok (.lload_n 0, 1) := by decide +kernel
theorem dJ9_max_f86c9_1 : decode cJ9_max_f86c9 1 = .ok (.lload_n 2, 1) := by decide +kernel
theorem dJ9_max_f86c9_2 : decode cJ9_max_f86c9 2 = .ok (.lcmp, 1) := by decide +kernel
theorem dJ9_max_f86c9_3 : decode cJ9_max_f86c9 3 = .ok (.ifCond .lt 7, 3) := by decide +kernel
theorem dJ9_max_f86c9_6 : decode cJ9_max_f86c9 6 = .ok (.lload_n 0, 1) := by decide +kernel
theorem dJ9_max_f86c9_7 : decode cJ9_max_f86c9 7 = .ok (.goto 4, 3) := by decide +kernel
theorem dJ9_max_f86c9_10 : decode cJ9_max_f86c9 10 = .ok (.lload_n 2, 1) := by decide +kernel
theorem dJ9_max_f86c9_11 : decode cJ9_max_f86c9 11 = .ok (.lreturn, 1) := by decide +kernel
theorem dJ9_min_7cf53_0 : decode cJ9_min_7cf53 0 = .ok (.iload_n 0, 1) := by decide +kernel
theorem dJ9_min_7cf53_1 : decode cJ9_min_7cf53 1 = .ok (.iload_n 1, 1) := by decide +kernel
theorem dJ9_min_7cf53_2 : decode cJ9_min_7cf53 2 = .ok (.if_icmp .gt 7, 3) := by decide +kernel
theorem dJ9_min_7cf53_5 : decode cJ9_min_7cf53 5 = .ok (.iload_n 0, 1) := by decide +kernel
theorem dJ9_min_7cf53_6 : decode cJ9_min_7cf53 6 = .ok (.goto 4, 3) := by decide +kernel
theorem dJ9_min_7cf53_9 : decode cJ9_min_7cf53 9 = .ok (.iload_n 1, 1) := by decide +kernel
theorem dJ9_min_7cf53_10 : decode cJ9_min_7cf53 10 = .ok (.ireturn, 1) := by decide +kernel
theorem dL_append_0 : decode cL_append 0 = .ok (.aload_n 2, 1) := by decide +kernel
theorem dL_append_1 : decode cL_append 1 = .ok (.iconst 0, 1) := by decide +kernel
theorem dL_append_2 : decode cL_append 2 = .ok (.aload_n 0, 1) := by decide +kernel
theorem dL_append_3 : decode cL_append 3 = .ok (.iload_n 1, 1) := by decide +kernel
theorem dL_append_4 : decode cL_append 4 = .ok (.invokevirtual 7, 3) := by decide +kernel
theorem dL_append_7 : decode cL_append 7 = .ok (.i2l, 1) := by decide +kernel
theorem dL_append_8 : decode cL_append 8 = .ok (.lastore, 1) := by decide +kernel
theorem dL_append_9 : decode cL_append 9 = .ok (.goto 9, 3) := by decide +kernel
theorem dL_append_12 : decode cL_append 12 = .ok (.astore_n 3, 1) := by decide +kernel
theorem dL_append_13 : decode cL_append 13 = .ok (.iconst 1, 1) := by decide +kernel
theorem dL_append_14 : decode cL_append 14 = .ok (.ireturn, 1) := by decide +kernel
theorem dL_append_15 : decode cL_append 15 = .ok (.astore_n 3, 1) := by decide +kernel
theorem dL_append_16 : decode cL_append 16 = .ok (.iconst 2, 1) := by decide +kernel
theorem dL_append_17 : decode cL_append 17 = .ok (.ireturn, 1) := by decide +kernel
theorem dL_append_18 : decode cL_append 18 = .ok (.iconst 0, 1) := by decide +kernel
theorem dL_append_19 : decode cL_append 19 = .ok (.ireturn, 1) := by decide +kernel
theorem dL_load_0 : decode cL_load 0 = .ok (.aload_n 1, 1) := by decide +kernel
theorem dL_load_1 : decode cL_load 1 = .ok (.iconst 0, 1) := by decide +kernel
theorem dL_load_2 : decode cL_load 2 = .ok (.aload_n 0, 1) := by decide +kernel
theorem dL_load_3 : decode cL_load 3 = .ok (.invokevirtual 17, 3) := by decide +kernel
theorem dL_load_6 : decode cL_load 6 = .ok (.i2l, 1) := by decide +kernel
theorem dL_load_7 : decode cL_load 7 = .ok (.lastore, 1) := by decide +kernel
theorem dL_load_8 : decode cL_load 8 = .ok (.goto 6, 3) := by decide +kernel
theorem dL_load_11 : decode cL_load 11 = .ok (.astore_n 2, 1) := by decide +kernel
theorem dL_load_12 : decode cL_load 12 = .ok (.iconst 1, 1) := by decide +kernel
theorem dL_load_13 : decode cL_load 13 = .ok (.ireturn, 1) := by decide +kernel
theorem dL_load_14 : decode cL_load 14 = .ok (.iconst 0, 1) := by decide +kernel
theorem dL_load_15 : decode cL_load 15 = .ok (.ireturn, 1) := by decide +kernel
theorem dL_about_0 : decode cL_about 0 = .ok (.aload_n 2, 1) := by decide +kernel
theorem dL_about_1 : decode cL_about 1 = .ok (.iconst 0, 1) := by decide +kernel
theorem dL_about_2 : decode cL_about 2 = .ok (.aload_n 0, 1) := by decide +kernel
theorem dL_about_3 : decode cL_about 3 = .ok (.iload_n 1, 1) := by decide +kernel
theorem dL_about_4 : decode cL_about 4 = .ok (.invokevirtual 21, 3) := by decide +kernel
theorem dL_about_7 : decode cL_about 7 = .ok (.i2l, 1) := by decide +kernel
theorem dL_about_8 : decode cL_about 8 = .ok (.lastore, 1) := by decide +kernel
theorem dL_about_9 : decode cL_about 9 = .ok (.goto 6, 3) := by decide +kernel
theorem dL_about_12 : decode cL_about 12 = .ok (.astore_n 3, 1) := by decide +kernel
theorem dL_about_13 : decode cL_about 13 = .ok (.iconst 1, 1) := by decide +kernel
theorem dL_about_14 : decode cL_about 14 = .ok (.ireturn, 1) := by decide +kernel
theorem dL_about_15 : decode cL_about 15 = .ok (.iconst 0, 1) := by decide +kernel
theorem dL_about_16 : decode cL_about 16 = .ok (.ireturn, 1) := by decide +kernel
theorem dL_tenant_0 : decode cL_tenant 0 = .ok (.aload_n 3, 1) := by decide +kernel
theorem dL_tenant_1 : decode cL_tenant 1 = .ok (.iconst 0, 1) := by decide +kernel
theorem dL_tenant_2 : decode cL_tenant 2 = .ok (.aload_n 0, 1) := by decide +kernel
theorem dL_tenant_3 : decode cL_tenant 3 = .ok (.iload_n 1, 1) := by decide +kernel
theorem dL_tenant_4 : decode cL_tenant 4 = .ok (.iload_n 2, 1) := by decide +kernel
theorem dL_tenant_5 : decode cL_tenant 5 = .ok (.invokevirtual 24, 3) := by decide +kernel
theorem dL_tenant_8 : decode cL_tenant 8 = .ok (.i2l, 1) := by decide +kernel
theorem dL_tenant_9 : decode cL_tenant 9 = .ok (.lastore, 1) := by decide +kernel
theorem dL_tenant_10 : decode cL_tenant 10 = .ok (.goto 11, 3) := by decide +kernel
theorem dL_tenant_13 : decode cL_tenant 13 = .ok (.astore 4, 2) := by decide +kernel
theorem dL_tenant_15 : decode cL_tenant 15 = .ok (.iconst 1, 1) := by decide +kernel
theorem dL_tenant_16 : decode cL_tenant 16 = .ok (.ireturn, 1) := by decide +kernel
theorem dL_tenant_17 : decode cL_tenant 17 = .ok (.astore 4, 2) := by decide +kernel
theorem dL_tenant_19 : decode cL_tenant 19 = .ok (.iconst 2, 1) := by decide +kernel
theorem dL_tenant_20 : decode cL_tenant 20 = .ok (.ireturn, 1) := by decide +kernel
theorem dL_tenant_21 : decode cL_tenant 21 = .ok (.iconst 0, 1) := by decide +kernel
theorem dL_tenant_22 : decode cL_tenant 22 = .ok (.ireturn, 1) := by decide +kernel
theorem dL_message_0 : decode cL_message 0 = .ok (.aload_n 3, 1) := by decide +kernel
theorem dL_message_1 : decode cL_message 1 = .ok (.iconst 0, 1) := by decide +kernel
theorem dL_message_2 : decode cL_message 2 = .ok (.aload_n 0, 1) := by decide +kernel
theorem dL_message_3 : decode cL_message 3 = .ok (.iload_n 1, 1) := by decide +kernel
theorem dL_message_4 : decode cL_message 4 = .ok (.iload_n 2, 1) := by decide +kernel
theorem dL_message_5 : decode cL_message 5 = .ok (.invokevirtual 30, 3) := by decide +kernel
theorem dL_message_8 : decode cL_message 8 = .ok (.i2l, 1) := by decide +kernel
theorem dL_message_9 : decode cL_message 9 = .ok (.lastore, 1) := by decide +kernel
theorem dL_message_10 : decode cL_message 10 = .ok (.goto 11, 3) := by decide +kernel
theorem dL_message_13 : decode cL_message 13 = .ok (.astore 4, 2) := by decide +kernel
theorem dL_message_15 : decode cL_message 15 = .ok (.iconst 1, 1) := by decide +kernel
theorem dL_message_16 : decode cL_message 16 = .ok (.ireturn, 1) := by decide +kernel
theorem dL_message_17 : decode cL_message 17 = .ok (.astore 4, 2) := by decide +kernel
theorem dL_message_19 : decode cL_message 19 = .ok (.iconst 2, 1) := by decide +kernel
theorem dL_message_20 : decode cL_message 20 = .ok (.ireturn, 1) := by decide +kernel
theorem dL_message_21 : decode cL_message 21 = .ok (.iconst 0, 1) := by decide +kernel
theorem dL_message_22 : decode cL_message 22 = .ok (.ireturn, 1) := by decide +kernel
theorem dL_order_0 : decode cL_order 0 = .ok (.aload_n 3, 1) := by decide +kernel
theorem dL_order_1 : decode cL_order 1 = .ok (.iconst 0, 1) := by decide +kernel
theorem dL_order_2 : decode cL_order 2 = .ok (.aload_n 0, 1) := by decide +kernel
theorem dL_order_3 : decode cL_order 3 = .ok (.iload_n 1, 1) := by decide +kernel
theorem dL_order_4 : decode cL_order 4 = .ok (.iload_n 2, 1) := by decide +kernel
theorem dL_order_5 : decode cL_order 5 = .ok (.invokevirtual 33, 3) := by decide +kernel
theorem dL_order_8 : decode cL_order 8 = .ok (.i2l, 1) := by decide +kernel
theorem dL_order_9 : decode cL_order 9 = .ok (.lastore, 1) := by decide +kernel
theorem dL_order_10 : decode cL_order 10 = .ok (.goto 11, 3) := by decide +kernel
theorem dL_order_13 : decode cL_order 13 = .ok (.astore 4, 2) := by decide +kernel
theorem dL_order_15 : decode cL_order 15 = .ok (.iconst 1, 1) := by decide +kernel
theorem dL_order_16 : decode cL_order 16 = .ok (.ireturn, 1) := by decide +kernel
theorem dL_order_17 : decode cL_order 17 = .ok (.astore 4, 2) := by decide +kernel
theorem dL_order_19 : decode cL_order 19 = .ok (.iconst 2, 1) := by decide +kernel
theorem dL_order_20 : decode cL_order 20 = .ok (.ireturn, 1) := by decide +kernel
theorem dL_order_21 : decode cL_order 21 = .ok (.iconst 0, 1) := by decide +kernel
theorem dL_order_22 : decode cL_order 22 = .ok (.ireturn, 1) := by decide +kernel
theorem dL_bid_0 : decode cL_bid 0 = .ok (.aload 4, 2) := by decide +kernel
theorem dL_bid_2 : decode cL_bid 2 = .ok (.iconst 0, 1) := by decide +kernel
theorem dL_bid_3 : decode cL_bid 3 = .ok (.aload_n 0, 1) := by decide +kernel
theorem dL_bid_4 : decode cL_bid 4 = .ok (.iload_n 1, 1) := by decide +kernel
theorem dL_bid_5 : decode cL_bid 5 = .ok (.iload_n 2, 1) := by decide +kernel
theorem dL_bid_6 : decode cL_bid 6 = .ok (.iload_n 3, 1) := by decide +kernel
theorem dL_bid_7 : decode cL_bid 7 = .ok (.invokevirtual 36, 3) := by decide +kernel
theorem dL_bid_10 : decode cL_bid 10 = .ok (.i2l, 1) := by decide +kernel
theorem dL_bid_11 : decode cL_bid 11 = .ok (.lastore, 1) := by decide +kernel
theorem dL_bid_12 : decode cL_bid 12 = .ok (.goto 15, 3) := by decide +kernel
theorem dL_bid_15 : decode cL_bid 15 = .ok (.astore 5, 2) := by decide +kernel
theorem dL_bid_17 : decode cL_bid 17 = .ok (.iconst 1, 1) := by decide +kernel
theorem dL_bid_18 : decode cL_bid 18 = .ok (.ireturn, 1) := by decide +kernel
theorem dL_bid_19 : decode cL_bid 19 = .ok (.astore 5, 2) := by decide +kernel
theorem dL_bid_21 : decode cL_bid 21 = .ok (.iconst 2, 1) := by decide +kernel
theorem dL_bid_22 : decode cL_bid 22 = .ok (.ireturn, 1) := by decide +kernel
theorem dL_bid_23 : decode cL_bid 23 = .ok (.astore 5, 2) := by decide +kernel
theorem dL_bid_25 : decode cL_bid 25 = .ok (.iconst 3, 1) := by decide +kernel
theorem dL_bid_26 : decode cL_bid 26 = .ok (.ireturn, 1) := by decide +kernel
theorem dL_bid_27 : decode cL_bid 27 = .ok (.iconst 0, 1) := by decide +kernel
theorem dL_bid_28 : decode cL_bid 28 = .ok (.ireturn, 1) := by decide +kernel
theorem dL_ask_0 : decode cL_ask 0 = .ok (.aload 4, 2) := by decide +kernel
theorem dL_ask_2 : decode cL_ask 2 = .ok (.iconst 0, 1) := by decide +kernel
theorem dL_ask_3 : decode cL_ask 3 = .ok (.aload_n 0, 1) := by decide +kernel
theorem dL_ask_4 : decode cL_ask 4 = .ok (.iload_n 1, 1) := by decide +kernel
theorem dL_ask_5 : decode cL_ask 5 = .ok (.iload_n 2, 1) := by decide +kernel
theorem dL_ask_6 : decode cL_ask 6 = .ok (.iload_n 3, 1) := by decide +kernel
theorem dL_ask_7 : decode cL_ask 7 = .ok (.invokevirtual 40, 3) := by decide +kernel
theorem dL_ask_10 : decode cL_ask 10 = .ok (.i2l, 1) := by decide +kernel
theorem dL_ask_11 : decode cL_ask 11 = .ok (.lastore, 1) := by decide +kernel
theorem dL_ask_12 : decode cL_ask 12 = .ok (.goto 15, 3) := by decide +kernel
theorem dL_ask_15 : decode cL_ask 15 = .ok (.astore 5, 2) := by decide +kernel
theorem dL_ask_17 : decode cL_ask 17 = .ok (.iconst 1, 1) := by decide +kernel
theorem dL_ask_18 : decode cL_ask 18 = .ok (.ireturn, 1) := by decide +kernel
theorem dL_ask_19 : decode cL_ask 19 = .ok (.astore 5, 2) := by decide +kernel
theorem dL_ask_21 : decode cL_ask 21 = .ok (.iconst 2, 1) := by decide +kernel
theorem dL_ask_22 : decode cL_ask 22 = .ok (.ireturn, 1) := by decide +kernel
theorem dL_ask_23 : decode cL_ask 23 = .ok (.astore 5, 2) := by decide +kernel
theorem dL_ask_25 : decode cL_ask 25 = .ok (.iconst 3, 1) := by decide +kernel
theorem dL_ask_26 : decode cL_ask 26 = .ok (.ireturn, 1) := by decide +kernel
theorem dL_ask_27 : decode cL_ask 27 = .ok (.iconst 0, 1) := by decide +kernel
theorem dL_ask_28 : decode cL_ask 28 = .ok (.ireturn, 1) := by decide +kernel
theorem dL_askShort_0 : decode cL_askShort 0 = .ok (.aload 4, 2) := by decide +kernel
theorem dL_askShort_2 : decode cL_askShort 2 = .ok (.iconst 0, 1) := by decide +kernel
theorem dL_askShort_3 : decode cL_askShort 3 = .ok (.aload_n 0, 1) := by decide +kernel
theorem dL_askShort_4 : decode cL_askShort 4 = .ok (.iload_n 1, 1) := by decide +kernel
theorem dL_askShort_5 : decode cL_askShort 5 = .ok (.iload_n 2, 1) := by decide +kernel
theorem dL_askShort_6 : decode cL_askShort 6 = .ok (.iload_n 3, 1) := by decide +kernel
theorem dL_askShort_7 : decode cL_askShort 7 = .ok (.invokevirtual 43, 3) := by decide +kernel
theorem dL_askShort_10 : decode cL_askShort 10 = .ok (.i2l, 1) := by decide +kernel
theorem dL_askShort_11 : decode cL_askShort 11 = .ok (.lastore, 1) := by decide +kernel
theorem dL_askShort_12 : decode cL_askShort 12 = .ok (.goto 15, 3) := by decide +kernel
theorem dL_askShort_15 : decode cL_askShort 15 = .ok (.astore 5, 2) := by decide +kernel
theorem dL_askShort_17 : decode cL_askShort 17 = .ok (.iconst 1, 1) := by decide +kernel
theorem dL_askShort_18 : decode cL_askShort 18 = .ok (.ireturn, 1) := by decide +kernel
theorem dL_askShort_19 : decode cL_askShort 19 = .ok (.astore 5, 2) := by decide +kernel
theorem dL_askShort_21 : decode cL_askShort 21 = .ok (.iconst 2, 1) := by decide +kernel
theorem dL_askShort_22 : decode cL_askShort 22 = .ok (.ireturn, 1) := by decide +kernel
theorem dL_askShort_23 : decode cL_askShort 23 = .ok (.astore 5, 2) := by decide +kernel
theorem dL_askShort_25 : decode cL_askShort 25 = .ok (.iconst 3, 1) := by decide +kernel
theorem dL_askShort_26 : decode cL_askShort 26 = .ok (.ireturn, 1) := by decide +kernel
theorem dL_askShort_27 : decode cL_askShort 27 = .ok (.iconst 0, 1) := by decide +kernel
theorem dL_askShort_28 : decode cL_askShort 28 = .ok (.ireturn, 1) := by decide +kernel
theorem dL_withdraw_0 : decode cL_withdraw 0 = .ok (.aload_n 2, 1) := by decide +kernel
theorem dL_withdraw_1 : decode cL_withdraw 1 = .ok (.iconst 0, 1) := by decide +kernel
theorem dL_withdraw_2 : decode cL_withdraw 2 = .ok (.aload_n 0, 1) := by decide +kernel
theorem dL_withdraw_3 : decode cL_withdraw 3 = .ok (.iload_n 1, 1) := by decide +kernel
theorem dL_withdraw_4 : decode cL_withdraw 4 = .ok (.invokevirtual 46, 3) := by decide +kernel
theorem dL_withdraw_7 : decode cL_withdraw 7 = .ok (.i2l, 1) := by decide +kernel
theorem dL_withdraw_8 : decode cL_withdraw 8 = .ok (.lastore, 1) := by decide +kernel
theorem dL_withdraw_9 : decode cL_withdraw 9 = .ok (.goto 6, 3) := by decide +kernel
theorem dL_withdraw_12 : decode cL_withdraw 12 = .ok (.astore_n 3, 1) := by decide +kernel
theorem dL_withdraw_13 : decode cL_withdraw 13 = .ok (.iconst 1, 1) := by decide +kernel
theorem dL_withdraw_14 : decode cL_withdraw 14 = .ok (.ireturn, 1) := by decide +kernel
theorem dL_withdraw_15 : decode cL_withdraw 15 = .ok (.iconst 0, 1) := by decide +kernel
theorem dL_withdraw_16 : decode cL_withdraw 16 = .ok (.ireturn, 1) := by decide +kernel
theorem dL_push_0 : decode cL_push 0 = .ok (.aload_n 3, 1) := by decide +kernel
theorem dL_push_1 : decode cL_push 1 = .ok (.iconst 0, 1) := by decide +kernel
theorem dL_push_2 : decode cL_push 2 = .ok (.aload_n 0, 1) := by decide +kernel
theorem dL_push_3 : decode cL_push 3 = .ok (.iload_n 1, 1) := by decide +kernel
theorem dL_push_4 : decode cL_push 4 = .ok (.iload_n 2, 1) := by decide +kernel
theorem dL_push_5 : decode cL_push 5 = .ok (.invokevirtual 49, 3) := by decide +kernel
theorem dL_push_8 : decode cL_push 8 = .ok (.i2l, 1) := by decide +kernel
theorem dL_push_9 : decode cL_push 9 = .ok (.lastore, 1) := by decide +kernel
theorem dL_push_10 : decode cL_push 10 = .ok (.goto 15, 3) := by decide +kernel
theorem dL_push_13 : decode cL_push 13 = .ok (.astore 4, 2) := by decide +kernel
theorem dL_push_15 : decode cL_push 15 = .ok (.iconst 1, 1) := by decide +kernel
theorem dL_push_16 : decode cL_push 16 = .ok (.ireturn, 1) := by decide +kernel
theorem dL_push_17 : decode cL_push 17 = .ok (.astore 4, 2) := by decide +kernel
theorem dL_push_19 : decode cL_push 19 = .ok (.iconst 2, 1) := by decide +kernel
theorem dL_push_20 : decode cL_push 20 = .ok (.ireturn, 1) := by decide +kernel
theorem dL_push_21 : decode cL_push 21 = .ok (.astore 4, 2) := by decide +kernel
theorem dL_push_23 : decode cL_push 23 = .ok (.iconst 3, 1) := by decide +kernel
theorem dL_push_24 : decode cL_push 24 = .ok (.ireturn, 1) := by decide +kernel
theorem dL_push_25 : decode cL_push 25 = .ok (.iconst 0, 1) := by decide +kernel
theorem dL_push_26 : decode cL_push 26 = .ok (.ireturn, 1) := by decide +kernel
theorem dL_deposit_0 : decode cL_deposit 0 = .ok (.aload_n 3, 1) := by decide +kernel
theorem dL_deposit_1 : decode cL_deposit 1 = .ok (.iconst 0, 1) := by decide +kernel
theorem dL_deposit_2 : decode cL_deposit 2 = .ok (.aload_n 0, 1) := by decide +kernel
theorem dL_deposit_3 : decode cL_deposit 3 = .ok (.iload_n 1, 1) := by decide +kernel
theorem dL_deposit_4 : decode cL_deposit 4 = .ok (.iload_n 2, 1) := by decide +kernel
theorem dL_deposit_5 : decode cL_deposit 5 = .ok (.invokevirtual 52, 3) := by decide +kernel
theorem dL_deposit_8 : decode cL_deposit 8 = .ok (.i2l, 1) := by decide +kernel
theorem dL_deposit_9 : decode cL_deposit 9 = .ok (.lastore, 1) := by decide +kernel
theorem dL_deposit_10 : decode cL_deposit 10 = .ok (.goto 15, 3) := by decide +kernel
theorem dL_deposit_13 : decode cL_deposit 13 = .ok (.astore 4, 2) := by decide +kernel
theorem dL_deposit_15 : decode cL_deposit 15 = .ok (.iconst 1, 1) := by decide +kernel
theorem dL_deposit_16 : decode cL_deposit 16 = .ok (.ireturn, 1) := by decide +kernel
theorem dL_deposit_17 : decode cL_deposit 17 = .ok (.astore 4, 2) := by decide +kernel
theorem dL_deposit_19 : decode cL_deposit 19 = .ok (.iconst 2, 1) := by decide +kernel
theorem dL_deposit_20 : decode cL_deposit 20 = .ok (.ireturn, 1) := by decide +kernel
theorem dL_deposit_21 : decode cL_deposit 21 = .ok (.astore 4, 2) := by decide +kernel
theorem dL_deposit_23 : decode cL_deposit 23 = .ok (.iconst 3, 1) := by decide +kernel
theorem dL_deposit_24 : decode cL_deposit 24 = .ok (.ireturn, 1) := by decide +kernel
theorem dL_deposit_25 : decode cL_deposit 25 = .ok (.iconst 0, 1) := by decide +kernel
theorem dL_deposit_26 : decode cL_deposit 26 = .ok (.ireturn, 1) := by decide +kernel
theorem dL_tick_0 : decode cL_tick 0 = .ok (.aload_n 2, 1) := by decide +kernel
theorem dL_tick_1 : decode cL_tick 1 = .ok (.iconst 0, 1) := by decide +kernel
theorem dL_tick_2 : decode cL_tick 2 = .ok (.aload_n 0, 1) := by decide +kernel
theorem dL_tick_3 : decode cL_tick 3 = .ok (.iload_n 1, 1) := by decide +kernel
theorem dL_tick_4 : decode cL_tick 4 = .ok (.invokevirtual 55, 3) := by decide +kernel
theorem dL_tick_7 : decode cL_tick 7 = .ok (.i2l, 1) := by decide +kernel
theorem dL_tick_8 : decode cL_tick 8 = .ok (.lastore, 1) := by decide +kernel
theorem dL_tick_9 : decode cL_tick 9 = .ok (.goto 6, 3) := by decide +kernel
theorem dL_tick_12 : decode cL_tick 12 = .ok (.astore_n 3, 1) := by decide +kernel
theorem dL_tick_13 : decode cL_tick 13 = .ok (.iconst 1, 1) := by decide +kernel
theorem dL_tick_14 : decode cL_tick 14 = .ok (.ireturn, 1) := by decide +kernel
theorem dL_tick_15 : decode cL_tick 15 = .ok (.iconst 0, 1) := by decide +kernel
theorem dL_tick_16 : decode cL_tick 16 = .ok (.ireturn, 1) := by decide +kernel
theorem dL_setRate_0 : decode cL_setRate 0 = .ok (.aload_n 3, 1) := by decide +kernel
theorem dL_setRate_1 : decode cL_setRate 1 = .ok (.iconst 0, 1) := by decide +kernel
theorem dL_setRate_2 : decode cL_setRate 2 = .ok (.aload_n 0, 1) := by decide +kernel
theorem dL_setRate_3 : decode cL_setRate 3 = .ok (.iload_n 1, 1) := by decide +kernel
theorem dL_setRate_4 : decode cL_setRate 4 = .ok (.iload_n 2, 1) := by decide +kernel
theorem dL_setRate_5 : decode cL_setRate 5 = .ok (.invokevirtual 58, 3) := by decide +kernel
theorem dL_setRate_8 : decode cL_setRate 8 = .ok (.i2l, 1) := by decide +kernel
theorem dL_setRate_9 : decode cL_setRate 9 = .ok (.lastore, 1) := by decide +kernel
theorem dL_setRate_10 : decode cL_setRate 10 = .ok (.goto 11, 3) := by decide +kernel
theorem dL_setRate_13 : decode cL_setRate 13 = .ok (.astore 4, 2) := by decide +kernel
theorem dL_setRate_15 : decode cL_setRate 15 = .ok (.iconst 1, 1) := by decide +kernel
theorem dL_setRate_16 : decode cL_setRate 16 = .ok (.ireturn, 1) := by decide +kernel
theorem dL_setRate_17 : decode cL_setRate 17 = .ok (.astore 4, 2) := by decide +kernel
theorem dL_setRate_19 : decode cL_setRate 19 = .ok (.iconst 2, 1) := by decide +kernel
theorem dL_setRate_20 : decode cL_setRate 20 = .ok (.ireturn, 1) := by decide +kernel
theorem dL_setRate_21 : decode cL_setRate 21 = .ok (.iconst 0, 1) := by decide +kernel
theorem dL_setRate_22 : decode cL_setRate 22 = .ok (.ireturn, 1) := by decide +kernel
theorem dL_setWidth_0 : decode cL_setWidth 0 = .ok (.aload_n 2, 1) := by decide +kernel
theorem dL_setWidth_1 : decode cL_setWidth 1 = .ok (.iconst 0, 1) := by decide +kernel
theorem dL_setWidth_2 : decode cL_setWidth 2 = .ok (.aload_n 0, 1) := by decide +kernel
theorem dL_setWidth_3 : decode cL_setWidth 3 = .ok (.iload_n 1, 1) := by decide +kernel
theorem dL_setWidth_4 : decode cL_setWidth 4 = .ok (.invokevirtual 61, 3) := by decide +kernel
theorem dL_setWidth_7 : decode cL_setWidth 7 = .ok (.i2l, 1) := by decide +kernel
theorem dL_setWidth_8 : decode cL_setWidth 8 = .ok (.lastore, 1) := by decide +kernel
theorem dL_setWidth_9 : decode cL_setWidth 9 = .ok (.goto 6, 3) := by decide +kernel
theorem dL_setWidth_12 : decode cL_setWidth 12 = .ok (.astore_n 3, 1) := by decide +kernel
theorem dL_setWidth_13 : decode cL_setWidth 13 = .ok (.iconst 1, 1) := by decide +kernel
theorem dL_setWidth_14 : decode cL_setWidth 14 = .ok (.ireturn, 1) := by decide +kernel
theorem dL_setWidth_15 : decode cL_setWidth 15 = .ok (.iconst 0, 1) := by decide +kernel
theorem dL_setWidth_16 : decode cL_setWidth 16 = .ok (.ireturn, 1) := by decide +kernel
theorem dL_undo_0 : decode cL_undo 0 = .ok (.aload_n 1, 1) := by decide +kernel
theorem dL_undo_1 : decode cL_undo 1 = .ok (.iconst 0, 1) := by decide +kernel
theorem dL_undo_2 : decode cL_undo 2 = .ok (.aload_n 0, 1) := by decide +kernel
theorem dL_undo_3 : decode cL_undo 3 = .ok (.invokevirtual 64, 3) := by decide +kernel
theorem dL_undo_6 : decode cL_undo 6 = .ok (.i2l, 1) := by decide +kernel
theorem dL_undo_7 : decode cL_undo 7 = .ok (.lastore, 1) := by decide +kernel
theorem dL_undo_8 : decode cL_undo 8 = .ok (.goto 6, 3) := by decide +kernel
theorem dL_undo_11 : decode cL_undo 11 = .ok (.astore_n 2, 1) := by decide +kernel
theorem dL_undo_12 : decode cL_undo 12 = .ok (.iconst 1, 1) := by decide +kernel
theorem dL_undo_13 : decode cL_undo 13 = .ok (.ireturn, 1) := by decide +kernel
theorem dL_undo_14 : decode cL_undo 14 = .ok (.iconst 0, 1) := by decide +kernel
theorem dL_undo_15 : decode cL_undo 15 = .ok (.ireturn, 1) := by decide +kernel
theorem dL_demand_0 : decode cL_demand 0 = .ok (.aload_n 2, 1) := by decide +kernel
theorem dL_demand_1 : decode cL_demand 1 = .ok (.iconst 0, 1) := by decide +kernel
theorem dL_demand_2 : decode cL_demand 2 = .ok (.aload_n 0, 1) := by decide +kernel
theorem dL_demand_3 : decode cL_demand 3 = .ok (.iload_n 1, 1) := by decide +kernel
theorem dL_demand_4 : decode cL_demand 4 = .ok (.invokevirtual 67, 3) := by decide +kernel
theorem dL_demand_7 : decode cL_demand 7 = .ok (.i2l, 1) := by decide +kernel
theorem dL_demand_8 : decode cL_demand 8 = .ok (.lastore, 1) := by decide +kernel
theorem dL_demand_9 : decode cL_demand 9 = .ok (.goto 6, 3) := by decide +kernel
theorem dL_demand_12 : decode cL_demand 12 = .ok (.astore_n 3, 1) := by decide +kernel
theorem dL_demand_13 : decode cL_demand 13 = .ok (.iconst 1, 1) := by decide +kernel
theorem dL_demand_14 : decode cL_demand 14 = .ok (.ireturn, 1) := by decide +kernel
theorem dL_demand_15 : decode cL_demand 15 = .ok (.iconst 0, 1) := by decide +kernel
theorem dL_demand_16 : decode cL_demand 16 = .ok (.ireturn, 1) := by decide +kernel
theorem dL_supply_0 : decode cL_supply 0 = .ok (.aload_n 2, 1) := by decide +kernel
theorem dL_supply_1 : decode cL_supply 1 = .ok (.iconst 0, 1) := by decide +kernel
theorem dL_supply_2 : decode cL_supply 2 = .ok (.aload_n 0, 1) := by decide +kernel
theorem dL_supply_3 : decode cL_supply 3 = .ok (.iload_n 1, 1) := by decide +kernel
theorem dL_supply_4 : decode cL_supply 4 = .ok (.invokevirtual 70, 3) := by decide +kernel
theorem dL_supply_7 : decode cL_supply 7 = .ok (.i2l, 1) := by decide +kernel
theorem dL_supply_8 : decode cL_supply 8 = .ok (.lastore, 1) := by decide +kernel
theorem dL_supply_9 : decode cL_supply 9 = .ok (.goto 6, 3) := by decide +kernel
theorem dL_supply_12 : decode cL_supply 12 = .ok (.astore_n 3, 1) := by decide +kernel
theorem dL_supply_13 : decode cL_supply 13 = .ok (.iconst 1, 1) := by decide +kernel
theorem dL_supply_14 : decode cL_supply 14 = .ok (.ireturn, 1) := by decide +kernel
theorem dL_supply_15 : decode cL_supply 15 = .ok (.iconst 0, 1) := by decide +kernel
theorem dL_supply_16 : decode cL_supply 16 = .ok (.ireturn, 1) := by decide +kernel
theorem dL_auction_0 : decode cL_auction 0 = .ok (.aload_n 2, 1) := by decide +kernel
theorem dL_auction_1 : decode cL_auction 1 = .ok (.iconst 0, 1) := by decide +kernel
theorem dL_auction_2 : decode cL_auction 2 = .ok (.aload_n 0, 1) := by decide +kernel
theorem dL_auction_3 : decode cL_auction 3 = .ok (.iload_n 1, 1) := by decide +kernel
theorem dL_auction_4 : decode cL_auction 4 = .ok (.invokevirtual 73, 3) := by decide +kernel
theorem dL_auction_7 : decode cL_auction 7 = .ok (.i2l, 1) := by decide +kernel
theorem dL_auction_8 : decode cL_auction 8 = .ok (.lastore, 1) := by decide +kernel
theorem dL_auction_9 : decode cL_auction 9 = .ok (.goto 6, 3) := by decide +kernel
theorem dL_auction_12 : decode cL_auction 12 = .ok (.astore_n 3, 1) := by decide +kernel
theorem dL_auction_13 : decode cL_auction 13 = .ok (.iconst 1, 1) := by decide +kernel
theorem dL_auction_14 : decode cL_auction 14 = .ok (.ireturn, 1) := by decide +kernel
theorem dL_auction_15 : decode cL_auction 15 = .ok (.iconst 0, 1) := by decide +kernel
theorem dL_auction_16 : decode cL_auction 16 = .ok (.ireturn, 1) := by decide +kernel
theorem dL_volumeIf_0 : decode cL_volumeIf 0 = .ok (.aload 5, 2) := by decide +kernel
theorem dL_volumeIf_2 : decode cL_volumeIf 2 = .ok (.iconst 0, 1) := by decide +kernel
theorem dL_volumeIf_3 : decode cL_volumeIf 3 = .ok (.aload_n 0, 1) := by decide +kernel
theorem dL_volumeIf_4 : decode cL_volumeIf 4 = .ok (.iload_n 1, 1) := by decide +kernel
theorem dL_volumeIf_5 : decode cL_volumeIf 5 = .ok (.iload_n 2, 1) := by decide +kernel
theorem dL_volumeIf_6 : decode cL_volumeIf 6 = .ok (.iload_n 3, 1) := by decide +kernel
theorem dL_volumeIf_7 : decode cL_volumeIf 7 = .ok (.iload 4, 2) := by decide +kernel
theorem dL_volumeIf_9 : decode cL_volumeIf 9 = .ok (.invokevirtual 76, 3) := by decide +kernel
theorem dL_volumeIf_12 : decode cL_volumeIf 12 = .ok (.i2l, 1) := by decide +kernel
theorem dL_volumeIf_13 : decode cL_volumeIf 13 = .ok (.lastore, 1) := by decide +kernel
theorem dL_volumeIf_14 : decode cL_volumeIf 14 = .ok (.goto 11, 3) := by decide +kernel
theorem dL_volumeIf_17 : decode cL_volumeIf 17 = .ok (.astore 6, 2) := by decide +kernel
theorem dL_volumeIf_19 : decode cL_volumeIf 19 = .ok (.iconst 1, 1) := by decide +kernel
theorem dL_volumeIf_20 : decode cL_volumeIf 20 = .ok (.ireturn, 1) := by decide +kernel
theorem dL_volumeIf_21 : decode cL_volumeIf 21 = .ok (.astore 6, 2) := by decide +kernel
theorem dL_volumeIf_23 : decode cL_volumeIf 23 = .ok (.iconst 2, 1) := by decide +kernel
theorem dL_volumeIf_24 : decode cL_volumeIf 24 = .ok (.ireturn, 1) := by decide +kernel
theorem dL_volumeIf_25 : decode cL_volumeIf 25 = .ok (.iconst 0, 1) := by decide +kernel
theorem dL_volumeIf_26 : decode cL_volumeIf 26 = .ok (.ireturn, 1) := by decide +kernel
theorem dL_priceFor_0 : decode cL_priceFor 0 = .ok (.aload_n 2, 1) := by decide +kernel
theorem dL_priceFor_1 : decode cL_priceFor 1 = .ok (.iconst 0, 1) := by decide +kernel
theorem dL_priceFor_2 : decode cL_priceFor 2 = .ok (.aload_n 0, 1) := by decide +kernel
theorem dL_priceFor_3 : decode cL_priceFor 3 = .ok (.iload_n 1, 1) := by decide +kernel
theorem dL_priceFor_4 : decode cL_priceFor 4 = .ok (.invokevirtual 80, 3) := by decide +kernel
theorem dL_priceFor_7 : decode cL_priceFor 7 = .ok (.i2l, 1) := by decide +kernel
theorem dL_priceFor_8 : decode cL_priceFor 8 = .ok (.lastore, 1) := by decide +kernel
theorem dL_priceFor_9 : decode cL_priceFor 9 = .ok (.goto 6, 3) := by decide +kernel
theorem dL_priceFor_12 : decode cL_priceFor 12 = .ok (.astore_n 3, 1) := by decide +kernel
theorem dL_priceFor_13 : decode cL_priceFor 13 = .ok (.iconst 1, 1) := by decide +kernel
theorem dL_priceFor_14 : decode cL_priceFor 14 = .ok (.ireturn, 1) := by decide +kernel
theorem dL_priceFor_15 : decode cL_priceFor 15 = .ok (.iconst 0, 1) := by decide +kernel
theorem dL_priceFor_16 : decode cL_priceFor 16 = .ok (.ireturn, 1) := by decide +kernel
theorem dL_share_0 : decode cL_share 0 = .ok (.aload_n 3, 1) := by decide +kernel
theorem dL_share_1 : decode cL_share 1 = .ok (.iconst 0, 1) := by decide +kernel
theorem dL_share_2 : decode cL_share 2 = .ok (.aload_n 0, 1) := by decide +kernel
theorem dL_share_3 : decode cL_share 3 = .ok (.iload_n 1, 1) := by decide +kernel
theorem dL_share_4 : decode cL_share 4 = .ok (.iload_n 2, 1) := by decide +kernel
theorem dL_share_5 : decode cL_share 5 = .ok (.invokevirtual 83, 3) := by decide +kernel
theorem dL_share_8 : decode cL_share 8 = .ok (.i2l, 1) := by decide +kernel
theorem dL_share_9 : decode cL_share 9 = .ok (.lastore, 1) := by decide +kernel
theorem dL_share_10 : decode cL_share 10 = .ok (.goto 7, 3) := by decide +kernel
theorem dL_share_13 : decode cL_share 13 = .ok (.astore 4, 2) := by decide +kernel
theorem dL_share_15 : decode cL_share 15 = .ok (.iconst 1, 1) := by decide +kernel
theorem dL_share_16 : decode cL_share 16 = .ok (.ireturn, 1) := by decide +kernel
theorem dL_share_17 : decode cL_share 17 = .ok (.iconst 0, 1) := by decide +kernel
theorem dL_share_18 : decode cL_share 18 = .ok (.ireturn, 1) := by decide +kernel
theorem dL_ahead_0 : decode cL_ahead 0 = .ok (.aload 4, 2) := by decide +kernel
theorem dL_ahead_2 : decode cL_ahead 2 = .ok (.iconst 0, 1) := by decide +kernel
theorem dL_ahead_3 : decode cL_ahead 3 = .ok (.aload_n 0, 1) := by decide +kernel
theorem dL_ahead_4 : decode cL_ahead 4 = .ok (.iload_n 1, 1) := by decide +kernel
theorem dL_ahead_5 : decode cL_ahead 5 = .ok (.iload_n 2, 1) := by decide +kernel
theorem dL_ahead_6 : decode cL_ahead 6 = .ok (.iload_n 3, 1) := by decide +kernel
theorem dL_ahead_7 : decode cL_ahead 7 = .ok (.invokevirtual 87, 3) := by decide +kernel
theorem dL_ahead_10 : decode cL_ahead 10 = .ok (.i2l, 1) := by decide +kernel
theorem dL_ahead_11 : decode cL_ahead 11 = .ok (.lastore, 1) := by decide +kernel
theorem dL_ahead_12 : decode cL_ahead 12 = .ok (.goto 11, 3) := by decide +kernel
theorem dL_ahead_15 : decode cL_ahead 15 = .ok (.astore 5, 2) := by decide +kernel
theorem dL_ahead_17 : decode cL_ahead 17 = .ok (.iconst 1, 1) := by decide +kernel
theorem dL_ahead_18 : decode cL_ahead 18 = .ok (.ireturn, 1) := by decide +kernel
theorem dL_ahead_19 : decode cL_ahead 19 = .ok (.astore 5, 2) := by decide +kernel
theorem dL_ahead_21 : decode cL_ahead 21 = .ok (.iconst 2, 1) := by decide +kernel
theorem dL_ahead_22 : decode cL_ahead 22 = .ok (.ireturn, 1) := by decide +kernel
theorem dL_ahead_23 : decode cL_ahead 23 = .ok (.iconst 0, 1) := by decide +kernel
theorem dL_ahead_24 : decode cL_ahead 24 = .ok (.ireturn, 1) := by decide +kernel
theorem dL_sentAfter_0 : decode cL_sentAfter 0 = .ok (.aload_n 3, 1) := by decide +kernel
theorem dL_sentAfter_1 : decode cL_sentAfter 1 = .ok (.iconst 0, 1) := by decide +kernel
theorem dL_sentAfter_2 : decode cL_sentAfter 2 = .ok (.aload_n 0, 1) := by decide +kernel
theorem dL_sentAfter_3 : decode cL_sentAfter 3 = .ok (.iload_n 1, 1) := by decide +kernel
theorem dL_sentAfter_4 : decode cL_sentAfter 4 = .ok (.iload_n 2, 1) := by decide +kernel
theorem dL_sentAfter_5 : decode cL_sentAfter 5 = .ok (.invokevirtual 90, 3) := by decide +kernel
theorem dL_sentAfter_8 : decode cL_sentAfter 8 = .ok (.i2l, 1) := by decide +kernel
theorem dL_sentAfter_9 : decode cL_sentAfter 9 = .ok (.lastore, 1) := by decide +kernel
theorem dL_sentAfter_10 : decode cL_sentAfter 10 = .ok (.goto 11, 3) := by decide +kernel
theorem dL_sentAfter_13 : decode cL_sentAfter 13 = .ok (.astore 4, 2) := by decide +kernel
theorem dL_sentAfter_15 : decode cL_sentAfter 15 = .ok (.iconst 1, 1) := by decide +kernel
theorem dL_sentAfter_16 : decode cL_sentAfter 16 = .ok (.ireturn, 1) := by decide +kernel
theorem dL_sentAfter_17 : decode cL_sentAfter 17 = .ok (.astore 4, 2) := by decide +kernel
theorem dL_sentAfter_19 : decode cL_sentAfter 19 = .ok (.iconst 2, 1) := by decide +kernel
theorem dL_sentAfter_20 : decode cL_sentAfter 20 = .ok (.ireturn, 1) := by decide +kernel
theorem dL_sentAfter_21 : decode cL_sentAfter 21 = .ok (.iconst 0, 1) := by decide +kernel
theorem dL_sentAfter_22 : decode cL_sentAfter 22 = .ok (.ireturn, 1) := by decide +kernel
theorem dL_unused_0 : decode cL_unused 0 = .ok (.aload_n 2, 1) := by decide +kernel
theorem dL_unused_1 : decode cL_unused 1 = .ok (.iconst 0, 1) := by decide +kernel
theorem dL_unused_2 : decode cL_unused 2 = .ok (.aload_n 0, 1) := by decide +kernel
theorem dL_unused_3 : decode cL_unused 3 = .ok (.iload_n 1, 1) := by decide +kernel
theorem dL_unused_4 : decode cL_unused 4 = .ok (.invokevirtual 93, 3) := by decide +kernel
theorem dL_unused_7 : decode cL_unused 7 = .ok (.i2l, 1) := by decide +kernel
theorem dL_unused_8 : decode cL_unused 8 = .ok (.lastore, 1) := by decide +kernel
theorem dL_unused_9 : decode cL_unused 9 = .ok (.goto 6, 3) := by decide +kernel
theorem dL_unused_12 : decode cL_unused 12 = .ok (.astore_n 3, 1) := by decide +kernel
theorem dL_unused_13 : decode cL_unused 13 = .ok (.iconst 1, 1) := by decide +kernel
theorem dL_unused_14 : decode cL_unused 14 = .ok (.ireturn, 1) := by decide +kernel
theorem dL_unused_15 : decode cL_unused 15 = .ok (.iconst 0, 1) := by decide +kernel
theorem dL_unused_16 : decode cL_unused 16 = .ok (.ireturn, 1) := by decide +kernel
theorem dL_wealthiest_0 : decode cL_wealthiest 0 = .ok (.aload_n 2, 1) := by decide +kernel
theorem dL_wealthiest_1 : decode cL_wealthiest 1 = .ok (.iconst 0, 1) := by decide +kernel
theorem dL_wealthiest_2 : decode cL_wealthiest 2 = .ok (.aload_n 0, 1) := by decide +kernel
theorem dL_wealthiest_3 : decode cL_wealthiest 3 = .ok (.iload_n 1, 1) := by decide +kernel
theorem dL_wealthiest_4 : decode cL_wealthiest 4 = .ok (.invokevirtual 96, 3) := by decide +kernel
theorem dL_wealthiest_7 : decode cL_wealthiest 7 = .ok (.i2l, 1) := by decide +kernel
theorem dL_wealthiest_8 : decode cL_wealthiest 8 = .ok (.lastore, 1) := by decide +kernel
theorem dL_wealthiest_9 : decode cL_wealthiest 9 = .ok (.goto 6, 3) := by decide +kernel
theorem dL_wealthiest_12 : decode cL_wealthiest 12 = .ok (.astore_n 3, 1) := by decide +kernel
theorem dL_wealthiest_13 : decode cL_wealthiest 13 = .ok (.iconst 1, 1) := by decide +kernel
theorem dL_wealthiest_14 : decode cL_wealthiest 14 = .ok (.ireturn, 1) := by decide +kernel
theorem dL_wealthiest_15 : decode cL_wealthiest 15 = .ok (.iconst 0, 1) := by decide +kernel
theorem dL_wealthiest_16 : decode cL_wealthiest 16 = .ok (.ireturn, 1) := by decide +kernel
theorem dL_runScript_0 : decode cL_runScript 0 = .ok (.aload 4, 2) := by decide +kernel
theorem dL_runScript_2 : decode cL_runScript 2 = .ok (.iconst 0, 1) := by decide +kernel
theorem dL_runScript_3 : decode cL_runScript 3 = .ok (.aload_n 0, 1) := by decide +kernel
theorem dL_runScript_4 : decode cL_runScript 4 = .ok (.iload_n 1, 1) := by decide +kernel
theorem dL_runScript_5 : decode cL_runScript 5 = .ok (.lload_n 2, 1) := by decide +kernel
theorem dL_runScript_6 : decode cL_runScript 6 = .ok (.invokevirtual 99, 3) := by decide +kernel
theorem dL_runScript_9 : decode cL_runScript 9 = .ok (.i2l, 1) := by decide +kernel
theorem dL_runScript_10 : decode cL_runScript 10 = .ok (.lastore, 1) := by decide +kernel
theorem dL_runScript_11 : decode cL_runScript 11 = .ok (.goto 7, 3) := by decide +kernel
theorem dL_runScript_14 : decode cL_runScript 14 = .ok (.astore 5, 2) := by decide +kernel
theorem dL_runScript_16 : decode cL_runScript 16 = .ok (.iconst 1, 1) := by decide +kernel
theorem dL_runScript_17 : decode cL_runScript 17 = .ok (.ireturn, 1) := by decide +kernel
theorem dL_runScript_18 : decode cL_runScript 18 = .ok (.iconst 0, 1) := by decide +kernel
theorem dL_runScript_19 : decode cL_runScript 19 = .ok (.ireturn, 1) := by decide +kernel
theorem dL_simulate_0 : decode cL_simulate 0 = .ok (.aload 4, 2) := by decide +kernel
theorem dL_simulate_2 : decode cL_simulate 2 = .ok (.iconst 0, 1) := by decide +kernel
theorem dL_simulate_3 : decode cL_simulate 3 = .ok (.aload_n 0, 1) := by decide +kernel
theorem dL_simulate_4 : decode cL_simulate 4 = .ok (.lload_n 1, 1) := by decide +kernel
theorem dL_simulate_5 : decode cL_simulate 5 = .ok (.iload_n 3, 1) := by decide +kernel
theorem dL_simulate_6 : decode cL_simulate 6 = .ok (.invokevirtual 103, 3) := by decide +kernel
theorem dL_simulate_9 : decode cL_simulate 9 = .ok (.i2l, 1) := by decide +kernel
theorem dL_simulate_10 : decode cL_simulate 10 = .ok (.lastore, 1) := by decide +kernel
theorem dL_simulate_11 : decode cL_simulate 11 = .ok (.goto 7, 3) := by decide +kernel
theorem dL_simulate_14 : decode cL_simulate 14 = .ok (.astore 5, 2) := by decide +kernel
theorem dL_simulate_16 : decode cL_simulate 16 = .ok (.iconst 1, 1) := by decide +kernel
theorem dL_simulate_17 : decode cL_simulate 17 = .ok (.ireturn, 1) := by decide +kernel
theorem dL_simulate_18 : decode cL_simulate 18 = .ok (.iconst 0, 1) := by decide +kernel
theorem dL_simulate_19 : decode cL_simulate 19 = .ok (.ireturn, 1) := by decide +kernel
